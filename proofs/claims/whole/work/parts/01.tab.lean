-- ===== PART A: goes FIRST, ahead of the names: the tables' words, and 'selects' of the private methods out of them =====
/-- a private method of a class that the tables say can be made, by its rows of tables_1 -/
def lw_okq (q : MethodName × Nat) : Prop := (q.1.cls ≠ "java/lang/invoke/MethodHandle" ∧ q.1.cls ≠ "java/lang/invoke/VarHandle") ∧ Cond.instantiable q.1.cls q.2 ∈ tables_1 ∧ Cond.privateMethod q.1 ∈ tables_1 ∧ Cond.instanceMethod q.1 ∈ tables_1
theorem lw_p0 : lw_okq (⟨"ViewsJoins", "removeLabels", "()V"⟩, 6) := ⟨⟨by decide +kernel, by decide +kernel⟩, List.mem_of_getElem? (i := 12) (by decide +kernel), List.mem_of_getElem? (i := 98) (by decide +kernel), List.mem_of_getElem? (i := 99) (by decide +kernel)⟩
theorem lw_p1 : lw_okq (⟨"ViewsJoins", "nextGraph", "()LViewsJoins$Graph;"⟩, 6) := ⟨⟨by decide +kernel, by decide +kernel⟩, List.mem_of_getElem? (i := 12) (by decide +kernel), List.mem_of_getElem? (i := 126) (by decide +kernel), List.mem_of_getElem? (i := 127) (by decide +kernel)⟩
theorem lw_p2 : lw_okq (⟨"ViewsJoins", "known", "(I)LViewsJoins$Graph;"⟩, 6) := ⟨⟨by decide +kernel, by decide +kernel⟩, List.mem_of_getElem? (i := 12) (by decide +kernel), List.mem_of_getElem? (i := 279) (by decide +kernel), List.mem_of_getElem? (i := 280) (by decide +kernel)⟩
theorem lw_p3 : lw_okq (⟨"ViewsJoins", "fits", "(IIII)Z"⟩, 6) := ⟨⟨by decide +kernel, by decide +kernel⟩, List.mem_of_getElem? (i := 12) (by decide +kernel), List.mem_of_getElem? (i := 329) (by decide +kernel), List.mem_of_getElem? (i := 330) (by decide +kernel)⟩
theorem lw_p4 : lw_okq (⟨"ViewsJoins", "isTestOrAll", "(I)Z"⟩, 6) := ⟨⟨by decide +kernel, by decide +kernel⟩, List.mem_of_getElem? (i := 12) (by decide +kernel), List.mem_of_getElem? (i := 333) (by decide +kernel), List.mem_of_getElem? (i := 334) (by decide +kernel)⟩
theorem lw_p5 : lw_okq (⟨"ViewsJoins", "isBroken", "(LViewsJoins$Graph;)Z"⟩, 6) := ⟨⟨by decide +kernel, by decide +kernel⟩, List.mem_of_getElem? (i := 12) (by decide +kernel), List.mem_of_getElem? (i := 352) (by decide +kernel), List.mem_of_getElem? (i := 353) (by decide +kernel)⟩
theorem lw_p6 : lw_okq (⟨"ViewsJoins", "refresh", "(LViewsJoins$Graph;I)V"⟩, 6) := ⟨⟨by decide +kernel, by decide +kernel⟩, List.mem_of_getElem? (i := 12) (by decide +kernel), List.mem_of_getElem? (i := 356) (by decide +kernel), List.mem_of_getElem? (i := 357) (by decide +kernel)⟩
theorem lw_p7 : lw_okq (⟨"ViewsJoins$Reckoner", "filterNodes", "(LViewsJoins$Graph;LViewsJoins$Graph;)V"⟩, 5) := ⟨⟨by decide +kernel, by decide +kernel⟩, List.mem_of_getElem? (i := 22) (by decide +kernel), List.mem_of_getElem? (i := 373) (by decide +kernel), List.mem_of_getElem? (i := 374) (by decide +kernel)⟩
theorem lw_p8 : lw_okq (⟨"ViewsJoins$Tests", "say", "(LViewsJoins$Graph;IIII)I"⟩, 7) := ⟨⟨by decide +kernel, by decide +kernel⟩, List.mem_of_getElem? (i := 28) (by decide +kernel), List.mem_of_getElem? (i := 377) (by decide +kernel), List.mem_of_getElem? (i := 378) (by decide +kernel)⟩
theorem lw_p9 : lw_okq (⟨"ViewsJoins$Tests", "sayOfItem", "(LViewsJoins$Graph;III)I"⟩, 7) := ⟨⟨by decide +kernel, by decide +kernel⟩, List.mem_of_getElem? (i := 28) (by decide +kernel), List.mem_of_getElem? (i := 383) (by decide +kernel), List.mem_of_getElem? (i := 384) (by decide +kernel)⟩
theorem lw_p10 : lw_okq (⟨"ViewsJoins$Tests", "begun", "(I)I"⟩, 7) := ⟨⟨by decide +kernel, by decide +kernel⟩, List.mem_of_getElem? (i := 28) (by decide +kernel), List.mem_of_getElem? (i := 390) (by decide +kernel), List.mem_of_getElem? (i := 391) (by decide +kernel)⟩
theorem lw_p11 : lw_okq (⟨"ViewsJoins$Tests", "sayOfParts", "(LViewsJoins$Graph;IIII)I"⟩, 7) := ⟨⟨by decide +kernel, by decide +kernel⟩, List.mem_of_getElem? (i := 28) (by decide +kernel), List.mem_of_getElem? (i := 402) (by decide +kernel), List.mem_of_getElem? (i := 403) (by decide +kernel)⟩
theorem lw_p12 : lw_okq (⟨"ViewsJoins$Tests", "sayOfSomeNext", "(LViewsJoins$Graph;III)I"⟩, 7) := ⟨⟨by decide +kernel, by decide +kernel⟩, List.mem_of_getElem? (i := 28) (by decide +kernel), List.mem_of_getElem? (i := 406) (by decide +kernel), List.mem_of_getElem? (i := 407) (by decide +kernel)⟩
theorem lw_p13 : lw_okq (⟨"ViewsJoins$Reckoner", "filterArcs", "(LViewsJoins$Graph;LViewsJoins$Graph;)V"⟩, 5) := ⟨⟨by decide +kernel, by decide +kernel⟩, List.mem_of_getElem? (i := 22) (by decide +kernel), List.mem_of_getElem? (i := 419) (by decide +kernel), List.mem_of_getElem? (i := 420) (by decide +kernel)⟩
theorem lw_p14 : lw_okq (⟨"ViewsJoins$Reckoner", "join", "(LViewsJoins$Graph;LViewsJoins$Graph;LViewsJoins$Graph;)V"⟩, 5) := ⟨⟨by decide +kernel, by decide +kernel⟩, List.mem_of_getElem? (i := 22) (by decide +kernel), List.mem_of_getElem? (i := 430) (by decide +kernel), List.mem_of_getElem? (i := 431) (by decide +kernel)⟩
theorem lw_p15 : lw_okq (⟨"ViewsJoins$Reckoner", "link", "(LViewsJoins$Graph;)V"⟩, 5) := ⟨⟨by decide +kernel, by decide +kernel⟩, List.mem_of_getElem? (i := 22) (by decide +kernel), List.mem_of_getElem? (i := 436) (by decide +kernel), List.mem_of_getElem? (i := 437) (by decide +kernel)⟩
def lw_privs_1 : List (MethodName × Nat) := [(⟨"ViewsJoins", "removeLabels", "()V"⟩, 6), (⟨"ViewsJoins", "nextGraph", "()LViewsJoins$Graph;"⟩, 6), (⟨"ViewsJoins", "known", "(I)LViewsJoins$Graph;"⟩, 6), (⟨"ViewsJoins", "fits", "(IIII)Z"⟩, 6), (⟨"ViewsJoins", "isTestOrAll", "(I)Z"⟩, 6), (⟨"ViewsJoins", "isBroken", "(LViewsJoins$Graph;)Z"⟩, 6), (⟨"ViewsJoins", "refresh", "(LViewsJoins$Graph;I)V"⟩, 6), (⟨"ViewsJoins$Reckoner", "filterNodes", "(LViewsJoins$Graph;LViewsJoins$Graph;)V"⟩, 5), (⟨"ViewsJoins$Tests", "say", "(LViewsJoins$Graph;IIII)I"⟩, 7), (⟨"ViewsJoins$Tests", "sayOfItem", "(LViewsJoins$Graph;III)I"⟩, 7), (⟨"ViewsJoins$Tests", "begun", "(I)I"⟩, 7), (⟨"ViewsJoins$Tests", "sayOfParts", "(LViewsJoins$Graph;IIII)I"⟩, 7), (⟨"ViewsJoins$Tests", "sayOfSomeNext", "(LViewsJoins$Graph;III)I"⟩, 7), (⟨"ViewsJoins$Reckoner", "filterArcs", "(LViewsJoins$Graph;LViewsJoins$Graph;)V"⟩, 5), (⟨"ViewsJoins$Reckoner", "join", "(LViewsJoins$Graph;LViewsJoins$Graph;LViewsJoins$Graph;)V"⟩, 5), (⟨"ViewsJoins$Reckoner", "link", "(LViewsJoins$Graph;)V"⟩, 5)]
theorem lw_r1 : ∀ q ∈ lw_privs_1, lw_okq q := List.forall_mem_cons.mpr ⟨lw_p0, List.forall_mem_cons.mpr ⟨lw_p1, List.forall_mem_cons.mpr ⟨lw_p2, List.forall_mem_cons.mpr ⟨lw_p3, List.forall_mem_cons.mpr ⟨lw_p4, List.forall_mem_cons.mpr ⟨lw_p5, List.forall_mem_cons.mpr ⟨lw_p6, List.forall_mem_cons.mpr ⟨lw_p7, List.forall_mem_cons.mpr ⟨lw_p8, List.forall_mem_cons.mpr ⟨lw_p9, List.forall_mem_cons.mpr ⟨lw_p10, List.forall_mem_cons.mpr ⟨lw_p11, List.forall_mem_cons.mpr ⟨lw_p12, List.forall_mem_cons.mpr ⟨lw_p13, List.forall_mem_cons.mpr ⟨lw_p14, List.forall_mem_cons.mpr ⟨lw_p15, fun _ h => absurd h List.not_mem_nil⟩⟩⟩⟩⟩⟩⟩⟩⟩⟩⟩⟩⟩⟩⟩⟩
theorem lw_p16 : lw_okq (⟨"ViewsJoins$Reckoner", "isLinked", "(II)Z"⟩, 5) := ⟨⟨by decide +kernel, by decide +kernel⟩, List.mem_of_getElem? (i := 22) (by decide +kernel), List.mem_of_getElem? (i := 440) (by decide +kernel), List.mem_of_getElem? (i := 441) (by decide +kernel)⟩
theorem lw_p17 : lw_okq (⟨"ViewsJoins$Reckoner", "copyUnlinked", "(LViewsJoins$Graph;LViewsJoins$Graph;)V"⟩, 5) := ⟨⟨by decide +kernel, by decide +kernel⟩, List.mem_of_getElem? (i := 22) (by decide +kernel), List.mem_of_getElem? (i := 444) (by decide +kernel), List.mem_of_getElem? (i := 445) (by decide +kernel)⟩
theorem lw_p18 : lw_okq (⟨"ViewsJoins$Reckoner", "gatherNodes", "(LViewsJoins$Graph;LViewsJoins$Graph;)V"⟩, 5) := ⟨⟨by decide +kernel, by decide +kernel⟩, List.mem_of_getElem? (i := 22) (by decide +kernel), List.mem_of_getElem? (i := 466) (by decide +kernel), List.mem_of_getElem? (i := 467) (by decide +kernel)⟩
theorem lw_p19 : lw_okq (⟨"ViewsJoins$Heaps", "addTo", "(IJ)V"⟩, 3) := ⟨⟨by decide +kernel, by decide +kernel⟩, List.mem_of_getElem? (i := 61) (by decide +kernel), List.mem_of_getElem? (i := 478) (by decide +kernel), List.mem_of_getElem? (i := 479) (by decide +kernel)⟩
theorem lw_p20 : lw_okq (⟨"ViewsJoins$Reckoner", "breakIfTooLong", "(LViewsJoins$Graph;)V"⟩, 5) := ⟨⟨by decide +kernel, by decide +kernel⟩, List.mem_of_getElem? (i := 22) (by decide +kernel), List.mem_of_getElem? (i := 489) (by decide +kernel), List.mem_of_getElem? (i := 490) (by decide +kernel)⟩
theorem lw_p21 : lw_okq (⟨"ViewsJoins$Reckoner", "gatherArcs", "(LViewsJoins$Graph;LViewsJoins$Graph;)V"⟩, 5) := ⟨⟨by decide +kernel, by decide +kernel⟩, List.mem_of_getElem? (i := 22) (by decide +kernel), List.mem_of_getElem? (i := 493) (by decide +kernel), List.mem_of_getElem? (i := 494) (by decide +kernel)⟩
theorem lw_p22 : lw_okq (⟨"ViewsJoins", "countFixed", "()I"⟩, 6) := ⟨⟨by decide +kernel, by decide +kernel⟩, List.mem_of_getElem? (i := 12) (by decide +kernel), List.mem_of_getElem? (i := 566) (by decide +kernel), List.mem_of_getElem? (i := 567) (by decide +kernel)⟩
theorem lw_p23 : lw_okq (⟨"ViewsJoinsModel", "isBase", "(I)Z"⟩, 42) := ⟨⟨by decide +kernel, by decide +kernel⟩, List.mem_of_getElem? (i := 574) (by decide +kernel), List.mem_of_getElem? (i := 725) (by decide +kernel), List.mem_of_getElem? (i := 726) (by decide +kernel)⟩
theorem lw_p24 : lw_okq (⟨"ViewsJoinsModel", "isGraph", "(I)Z"⟩, 42) := ⟨⟨by decide +kernel, by decide +kernel⟩, List.mem_of_getElem? (i := 574) (by decide +kernel), List.mem_of_getElem? (i := 729) (by decide +kernel), List.mem_of_getElem? (i := 730) (by decide +kernel)⟩
theorem lw_p25 : lw_okq (⟨"ViewsJoinsModel", "addArc", "(IIIJII)V"⟩, 42) := ⟨⟨by decide +kernel, by decide +kernel⟩, List.mem_of_getElem? (i := 574) (by decide +kernel), List.mem_of_getElem? (i := 734) (by decide +kernel), List.mem_of_getElem? (i := 735) (by decide +kernel)⟩
theorem lw_p26 : lw_okq (⟨"ViewsJoinsModel", "breaks", "(II)V"⟩, 42) := ⟨⟨by decide +kernel, by decide +kernel⟩, List.mem_of_getElem? (i := 574) (by decide +kernel), List.mem_of_getElem? (i := 738) (by decide +kernel), List.mem_of_getElem? (i := 739) (by decide +kernel)⟩
theorem lw_p27 : lw_okq (⟨"ViewsJoinsModel", "isTest", "(I)Z"⟩, 42) := ⟨⟨by decide +kernel, by decide +kernel⟩, List.mem_of_getElem? (i := 574) (by decide +kernel), List.mem_of_getElem? (i := 754) (by decide +kernel), List.mem_of_getElem? (i := 755) (by decide +kernel)⟩
theorem lw_p28 : lw_okq (⟨"ViewsJoinsModel", "isTold", "(IIIII)Z"⟩, 42) := ⟨⟨by decide +kernel, by decide +kernel⟩, List.mem_of_getElem? (i := 574) (by decide +kernel), List.mem_of_getElem? (i := 762) (by decide +kernel), List.mem_of_getElem? (i := 763) (by decide +kernel)⟩
theorem lw_p29 : lw_okq (⟨"ViewsJoinsModel", "isView", "(I)Z"⟩, 42) := ⟨⟨by decide +kernel, by decide +kernel⟩, List.mem_of_getElem? (i := 574) (by decide +kernel), List.mem_of_getElem? (i := 770) (by decide +kernel), List.mem_of_getElem? (i := 771) (by decide +kernel)⟩
theorem lw_p30 : lw_okq (⟨"ViewsJoinsModel", "reckon", "()V"⟩, 42) := ⟨⟨by decide +kernel, by decide +kernel⟩, List.mem_of_getElem? (i := 574) (by decide +kernel), List.mem_of_getElem? (i := 774) (by decide +kernel), List.mem_of_getElem? (i := 775) (by decide +kernel)⟩
theorem lw_p31 : lw_okq (⟨"ViewsJoinsModel", "reckonOne", "(I)V"⟩, 42) := ⟨⟨by decide +kernel, by decide +kernel⟩, List.mem_of_getElem? (i := 574) (by decide +kernel), List.mem_of_getElem? (i := 778) (by decide +kernel), List.mem_of_getElem? (i := 779) (by decide +kernel)⟩
def lw_privs_2 : List (MethodName × Nat) := [(⟨"ViewsJoins$Reckoner", "isLinked", "(II)Z"⟩, 5), (⟨"ViewsJoins$Reckoner", "copyUnlinked", "(LViewsJoins$Graph;LViewsJoins$Graph;)V"⟩, 5), (⟨"ViewsJoins$Reckoner", "gatherNodes", "(LViewsJoins$Graph;LViewsJoins$Graph;)V"⟩, 5), (⟨"ViewsJoins$Heaps", "addTo", "(IJ)V"⟩, 3), (⟨"ViewsJoins$Reckoner", "breakIfTooLong", "(LViewsJoins$Graph;)V"⟩, 5), (⟨"ViewsJoins$Reckoner", "gatherArcs", "(LViewsJoins$Graph;LViewsJoins$Graph;)V"⟩, 5), (⟨"ViewsJoins", "countFixed", "()I"⟩, 6), (⟨"ViewsJoinsModel", "isBase", "(I)Z"⟩, 42), (⟨"ViewsJoinsModel", "isGraph", "(I)Z"⟩, 42), (⟨"ViewsJoinsModel", "addArc", "(IIIJII)V"⟩, 42), (⟨"ViewsJoinsModel", "breaks", "(II)V"⟩, 42), (⟨"ViewsJoinsModel", "isTest", "(I)Z"⟩, 42), (⟨"ViewsJoinsModel", "isTold", "(IIIII)Z"⟩, 42), (⟨"ViewsJoinsModel", "isView", "(I)Z"⟩, 42), (⟨"ViewsJoinsModel", "reckon", "()V"⟩, 42), (⟨"ViewsJoinsModel", "reckonOne", "(I)V"⟩, 42)]
theorem lw_r2 : ∀ q ∈ lw_privs_2, lw_okq q := List.forall_mem_cons.mpr ⟨lw_p16, List.forall_mem_cons.mpr ⟨lw_p17, List.forall_mem_cons.mpr ⟨lw_p18, List.forall_mem_cons.mpr ⟨lw_p19, List.forall_mem_cons.mpr ⟨lw_p20, List.forall_mem_cons.mpr ⟨lw_p21, List.forall_mem_cons.mpr ⟨lw_p22, List.forall_mem_cons.mpr ⟨lw_p23, List.forall_mem_cons.mpr ⟨lw_p24, List.forall_mem_cons.mpr ⟨lw_p25, List.forall_mem_cons.mpr ⟨lw_p26, List.forall_mem_cons.mpr ⟨lw_p27, List.forall_mem_cons.mpr ⟨lw_p28, List.forall_mem_cons.mpr ⟨lw_p29, List.forall_mem_cons.mpr ⟨lw_p30, List.forall_mem_cons.mpr ⟨lw_p31, fun _ h => absurd h List.not_mem_nil⟩⟩⟩⟩⟩⟩⟩⟩⟩⟩⟩⟩⟩⟩⟩⟩
theorem lw_p32 : lw_okq (⟨"ViewsJoinsModel", "filter", "(II)V"⟩, 42) := ⟨⟨by decide +kernel, by decide +kernel⟩, List.mem_of_getElem? (i := 574) (by decide +kernel), List.mem_of_getElem? (i := 782) (by decide +kernel), List.mem_of_getElem? (i := 783) (by decide +kernel)⟩
theorem lw_p33 : lw_okq (⟨"ViewsJoinsModel", "passes", "(IIIII)Z"⟩, 42) := ⟨⟨by decide +kernel, by decide +kernel⟩, List.mem_of_getElem? (i := 574) (by decide +kernel), List.mem_of_getElem? (i := 786) (by decide +kernel), List.mem_of_getElem? (i := 787) (by decide +kernel)⟩
theorem lw_p34 : lw_okq (⟨"ViewsJoinsModel", "asked", "(IIII)I"⟩, 42) := ⟨⟨by decide +kernel, by decide +kernel⟩, List.mem_of_getElem? (i := 574) (by decide +kernel), List.mem_of_getElem? (i := 790) (by decide +kernel), List.mem_of_getElem? (i := 791) (by decide +kernel)⟩
theorem lw_p35 : lw_okq (⟨"ViewsJoinsModel", "push", "(III)V"⟩, 42) := ⟨⟨by decide +kernel, by decide +kernel⟩, List.mem_of_getElem? (i := 574) (by decide +kernel), List.mem_of_getElem? (i := 794) (by decide +kernel), List.mem_of_getElem? (i := 795) (by decide +kernel)⟩
theorem lw_p36 : lw_okq (⟨"ViewsJoinsModel", "begins", "(I)I"⟩, 42) := ⟨⟨by decide +kernel, by decide +kernel⟩, List.mem_of_getElem? (i := 574) (by decide +kernel), List.mem_of_getElem? (i := 798) (by decide +kernel), List.mem_of_getElem? (i := 799) (by decide +kernel)⟩
theorem lw_p37 : lw_okq (⟨"ViewsJoinsModel", "ofNode", "(II)J"⟩, 42) := ⟨⟨by decide +kernel, by decide +kernel⟩, List.mem_of_getElem? (i := 574) (by decide +kernel), List.mem_of_getElem? (i := 802) (by decide +kernel), List.mem_of_getElem? (i := 803) (by decide +kernel)⟩
theorem lw_p38 : lw_okq (⟨"ViewsJoinsModel", "ofArc", "(II)J"⟩, 42) := ⟨⟨by decide +kernel, by decide +kernel⟩, List.mem_of_getElem? (i := 574) (by decide +kernel), List.mem_of_getElem? (i := 806) (by decide +kernel), List.mem_of_getElem? (i := 807) (by decide +kernel)⟩
theorem lw_p39 : lw_okq (⟨"ViewsJoinsModel", "fails", "(I)I"⟩, 42) := ⟨⟨by decide +kernel, by decide +kernel⟩, List.mem_of_getElem? (i := 574) (by decide +kernel), List.mem_of_getElem? (i := 810) (by decide +kernel), List.mem_of_getElem? (i := 811) (by decide +kernel)⟩
theorem lw_p40 : lw_okq (⟨"ViewsJoinsModel", "manyOf", "(III)I"⟩, 42) := ⟨⟨by decide +kernel, by decide +kernel⟩, List.mem_of_getElem? (i := 574) (by decide +kernel), List.mem_of_getElem? (i := 814) (by decide +kernel), List.mem_of_getElem? (i := 815) (by decide +kernel)⟩
theorem lw_p41 : lw_okq (⟨"ViewsJoinsModel", "fromOf", "(II)I"⟩, 42) := ⟨⟨by decide +kernel, by decide +kernel⟩, List.mem_of_getElem? (i := 574) (by decide +kernel), List.mem_of_getElem? (i := 818) (by decide +kernel), List.mem_of_getElem? (i := 819) (by decide +kernel)⟩
theorem lw_p42 : lw_okq (⟨"ViewsJoinsModel", "toOf", "(II)I"⟩, 42) := ⟨⟨by decide +kernel, by decide +kernel⟩, List.mem_of_getElem? (i := 574) (by decide +kernel), List.mem_of_getElem? (i := 822) (by decide +kernel), List.mem_of_getElem? (i := 823) (by decide +kernel)⟩
theorem lw_p43 : lw_okq (⟨"ViewsJoinsModel", "next", "(II)I"⟩, 42) := ⟨⟨by decide +kernel, by decide +kernel⟩, List.mem_of_getElem? (i := 574) (by decide +kernel), List.mem_of_getElem? (i := 826) (by decide +kernel), List.mem_of_getElem? (i := 827) (by decide +kernel)⟩
theorem lw_p44 : lw_okq (⟨"ViewsJoinsModel", "arcBehind", "(III)I"⟩, 42) := ⟨⟨by decide +kernel, by decide +kernel⟩, List.mem_of_getElem? (i := 574) (by decide +kernel), List.mem_of_getElem? (i := 830) (by decide +kernel), List.mem_of_getElem? (i := 831) (by decide +kernel)⟩
theorem lw_p45 : lw_okq (⟨"ViewsJoinsModel", "goesOn", "(II)I"⟩, 42) := ⟨⟨by decide +kernel, by decide +kernel⟩, List.mem_of_getElem? (i := 574) (by decide +kernel), List.mem_of_getElem? (i := 834) (by decide +kernel), List.mem_of_getElem? (i := 835) (by decide +kernel)⟩
theorem lw_p46 : lw_okq (⟨"ViewsJoinsModel", "addNode", "(IJII)V"⟩, 42) := ⟨⟨by decide +kernel, by decide +kernel⟩, List.mem_of_getElem? (i := 574) (by decide +kernel), List.mem_of_getElem? (i := 838) (by decide +kernel), List.mem_of_getElem? (i := 839) (by decide +kernel)⟩
theorem lw_p47 : lw_okq (⟨"ViewsJoinsModel", "turned", "(II)V"⟩, 42) := ⟨⟨by decide +kernel, by decide +kernel⟩, List.mem_of_getElem? (i := 574) (by decide +kernel), List.mem_of_getElem? (i := 842) (by decide +kernel), List.mem_of_getElem? (i := 843) (by decide +kernel)⟩
def lw_privs_3 : List (MethodName × Nat) := [(⟨"ViewsJoinsModel", "filter", "(II)V"⟩, 42), (⟨"ViewsJoinsModel", "passes", "(IIIII)Z"⟩, 42), (⟨"ViewsJoinsModel", "asked", "(IIII)I"⟩, 42), (⟨"ViewsJoinsModel", "push", "(III)V"⟩, 42), (⟨"ViewsJoinsModel", "begins", "(I)I"⟩, 42), (⟨"ViewsJoinsModel", "ofNode", "(II)J"⟩, 42), (⟨"ViewsJoinsModel", "ofArc", "(II)J"⟩, 42), (⟨"ViewsJoinsModel", "fails", "(I)I"⟩, 42), (⟨"ViewsJoinsModel", "manyOf", "(III)I"⟩, 42), (⟨"ViewsJoinsModel", "fromOf", "(II)I"⟩, 42), (⟨"ViewsJoinsModel", "toOf", "(II)I"⟩, 42), (⟨"ViewsJoinsModel", "next", "(II)I"⟩, 42), (⟨"ViewsJoinsModel", "arcBehind", "(III)I"⟩, 42), (⟨"ViewsJoinsModel", "goesOn", "(II)I"⟩, 42), (⟨"ViewsJoinsModel", "addNode", "(IJII)V"⟩, 42), (⟨"ViewsJoinsModel", "turned", "(II)V"⟩, 42)]
theorem lw_r3 : ∀ q ∈ lw_privs_3, lw_okq q := List.forall_mem_cons.mpr ⟨lw_p32, List.forall_mem_cons.mpr ⟨lw_p33, List.forall_mem_cons.mpr ⟨lw_p34, List.forall_mem_cons.mpr ⟨lw_p35, List.forall_mem_cons.mpr ⟨lw_p36, List.forall_mem_cons.mpr ⟨lw_p37, List.forall_mem_cons.mpr ⟨lw_p38, List.forall_mem_cons.mpr ⟨lw_p39, List.forall_mem_cons.mpr ⟨lw_p40, List.forall_mem_cons.mpr ⟨lw_p41, List.forall_mem_cons.mpr ⟨lw_p42, List.forall_mem_cons.mpr ⟨lw_p43, List.forall_mem_cons.mpr ⟨lw_p44, List.forall_mem_cons.mpr ⟨lw_p45, List.forall_mem_cons.mpr ⟨lw_p46, List.forall_mem_cons.mpr ⟨lw_p47, fun _ h => absurd h List.not_mem_nil⟩⟩⟩⟩⟩⟩⟩⟩⟩⟩⟩⟩⟩⟩⟩⟩
theorem lw_p48 : lw_okq (⟨"ViewsJoinsModel", "sameNodes", "(II)V"⟩, 42) := ⟨⟨by decide +kernel, by decide +kernel⟩, List.mem_of_getElem? (i := 574) (by decide +kernel), List.mem_of_getElem? (i := 846) (by decide +kernel), List.mem_of_getElem? (i := 847) (by decide +kernel)⟩
theorem lw_p49 : lw_okq (⟨"ViewsJoinsModel", "joined", "(III)V"⟩, 42) := ⟨⟨by decide +kernel, by decide +kernel⟩, List.mem_of_getElem? (i := 574) (by decide +kernel), List.mem_of_getElem? (i := 850) (by decide +kernel), List.mem_of_getElem? (i := 851) (by decide +kernel)⟩
theorem lw_p50 : lw_okq (⟨"ViewsJoinsModel", "hasArc", "(III)Z"⟩, 42) := ⟨⟨by decide +kernel, by decide +kernel⟩, List.mem_of_getElem? (i := 574) (by decide +kernel), List.mem_of_getElem? (i := 854) (by decide +kernel), List.mem_of_getElem? (i := 855) (by decide +kernel)⟩
theorem lw_p51 : lw_okq (⟨"ViewsJoinsModel", "less", "(III)V"⟩, 42) := ⟨⟨by decide +kernel, by decide +kernel⟩, List.mem_of_getElem? (i := 574) (by decide +kernel), List.mem_of_getElem? (i := 858) (by decide +kernel), List.mem_of_getElem? (i := 859) (by decide +kernel)⟩
theorem lw_p52 : lw_okq (⟨"ViewsJoinsModel", "product", "(III)V"⟩, 42) := ⟨⟨by decide +kernel, by decide +kernel⟩, List.mem_of_getElem? (i := 574) (by decide +kernel), List.mem_of_getElem? (i := 862) (by decide +kernel), List.mem_of_getElem? (i := 863) (by decide +kernel)⟩
theorem lw_p53 : lw_okq (⟨"ViewsJoinsModel", "lines", "(II)V"⟩, 42) := ⟨⟨by decide +kernel, by decide +kernel⟩, List.mem_of_getElem? (i := 574) (by decide +kernel), List.mem_of_getElem? (i := 866) (by decide +kernel), List.mem_of_getElem? (i := 867) (by decide +kernel)⟩
theorem lw_p54 : lw_okq (⟨"ViewsJoinsModel", "gathered", "(II)V"⟩, 42) := ⟨⟨by decide +kernel, by decide +kernel⟩, List.mem_of_getElem? (i := 574) (by decide +kernel), List.mem_of_getElem? (i := 870) (by decide +kernel), List.mem_of_getElem? (i := 871) (by decide +kernel)⟩
theorem lw_p55 : lw_okq (⟨"ViewsJoinsModel", "labelOf", "(II)I"⟩, 42) := ⟨⟨by decide +kernel, by decide +kernel⟩, List.mem_of_getElem? (i := 574) (by decide +kernel), List.mem_of_getElem? (i := 874) (by decide +kernel), List.mem_of_getElem? (i := 875) (by decide +kernel)⟩
theorem lw_p56 : lw_okq (⟨"ViewsJoinsModel", "comes", "(IIJ)V"⟩, 42) := ⟨⟨by decide +kernel, by decide +kernel⟩, List.mem_of_getElem? (i := 574) (by decide +kernel), List.mem_of_getElem? (i := 878) (by decide +kernel), List.mem_of_getElem? (i := 879) (by decide +kernel)⟩
theorem lw_p57 : lw_okq (⟨"ViewsJoinsModel", "itemsOf", "(II)I"⟩, 42) := ⟨⟨by decide +kernel, by decide +kernel⟩, List.mem_of_getElem? (i := 574) (by decide +kernel), List.mem_of_getElem? (i := 897) (by decide +kernel), List.mem_of_getElem? (i := 898) (by decide +kernel)⟩
theorem lw_p58 : lw_okq (⟨"ViewsJoinsModel", "upOf", "(IIII)I"⟩, 42) := ⟨⟨by decide +kernel, by decide +kernel⟩, List.mem_of_getElem? (i := 574) (by decide +kernel), List.mem_of_getElem? (i := 905) (by decide +kernel), List.mem_of_getElem? (i := 906) (by decide +kernel)⟩
def lw_privs_4 : List (MethodName × Nat) := [(⟨"ViewsJoinsModel", "sameNodes", "(II)V"⟩, 42), (⟨"ViewsJoinsModel", "joined", "(III)V"⟩, 42), (⟨"ViewsJoinsModel", "hasArc", "(III)Z"⟩, 42), (⟨"ViewsJoinsModel", "less", "(III)V"⟩, 42), (⟨"ViewsJoinsModel", "product", "(III)V"⟩, 42), (⟨"ViewsJoinsModel", "lines", "(II)V"⟩, 42), (⟨"ViewsJoinsModel", "gathered", "(II)V"⟩, 42), (⟨"ViewsJoinsModel", "labelOf", "(II)I"⟩, 42), (⟨"ViewsJoinsModel", "comes", "(IIJ)V"⟩, 42), (⟨"ViewsJoinsModel", "itemsOf", "(II)I"⟩, 42), (⟨"ViewsJoinsModel", "upOf", "(IIII)I"⟩, 42)]
theorem lw_r4 : ∀ q ∈ lw_privs_4, lw_okq q := List.forall_mem_cons.mpr ⟨lw_p48, List.forall_mem_cons.mpr ⟨lw_p49, List.forall_mem_cons.mpr ⟨lw_p50, List.forall_mem_cons.mpr ⟨lw_p51, List.forall_mem_cons.mpr ⟨lw_p52, List.forall_mem_cons.mpr ⟨lw_p53, List.forall_mem_cons.mpr ⟨lw_p54, List.forall_mem_cons.mpr ⟨lw_p55, List.forall_mem_cons.mpr ⟨lw_p56, List.forall_mem_cons.mpr ⟨lw_p57, List.forall_mem_cons.mpr ⟨lw_p58, fun _ h => absurd h List.not_mem_nil⟩⟩⟩⟩⟩⟩⟩⟩⟩⟩⟩
def lw_privs : List (MethodName × Nat) := lw_privs_1 ++ (lw_privs_2 ++ (lw_privs_3 ++ (lw_privs_4)))
def lw_tbl : List Cond := k2_sels lw_privs ++ tables_1
theorem lw_privs_ok : ∀ q ∈ lw_privs, lw_okq q := by
  show ∀ q ∈ lw_privs_1 ++ (lw_privs_2 ++ (lw_privs_3 ++ (lw_privs_4))), lw_okq q
  exact List.forall_mem_append.mpr ⟨lw_r1, List.forall_mem_append.mpr ⟨lw_r2, List.forall_mem_append.mpr ⟨lw_r3, lw_r4⟩⟩⟩
def RX0 : String := "ViewsJoins$Graph"
def TX0 : u_T := fun k => match k with
  | 0 => ("ViewsJoins$Graph", "nodes", "LViewsJoins$Items;", true)
  | 1 => ("ViewsJoins$Graph", "arcs", "LViewsJoins$Items;", true)
  | 2 => ("ViewsJoins$Graph", "from", "[I", true)
  | 3 => ("ViewsJoins$Graph", "to", "[I", true)
  | 4 => ("ViewsJoins$Graph", "hiddenItems", "LViewsJoins$HiddenItems;", true)
  | 5 => ("ViewsJoins$Graph", "failure", "I", false)
  | 6 => ("ViewsJoins$Graph", "kind", "I", false)
  | 7 => ("ViewsJoins$Graph", "a", "LViewsJoins$Graph;", false)
  | 8 => ("ViewsJoins$Graph", "b", "LViewsJoins$Graph;", false)
  | 9 => ("ViewsJoins$Graph", "choiceB", "I", false)
  | 10 => ("ViewsJoins$Graph", "choiceC", "I", false)
  | 11 => ("ViewsJoins$Graph", "choiceD", "I", false)
  | 12 => ("ViewsJoins$Graph", "fixed", "Z", false)
  | _ => ("ViewsJoins$Graph", "reckonedAt", "I", false)
def tyX0 : Nat → FieldType := fun k => match k with
  | 0 => .object "ViewsJoins$Items"
  | 1 => .object "ViewsJoins$Items"
  | 2 => .array .int
  | 3 => .array .int
  | 4 => .object "ViewsJoins$HiddenItems"
  | 5 => .int
  | 6 => .int
  | 7 => .object "ViewsJoins$Graph"
  | 8 => .object "ViewsJoins$Graph"
  | 9 => .int
  | 10 => .int
  | 11 => .int
  | 12 => .boolean
  | _ => .int
abbrev wsX00 : List Cond := u_ws RX0 TX0 14
theorem nmX0 : ∀ a, a < 14 → ∀ b, b < 14 → a ≠ b → (TX0 a).2.1 ≠ (TX0 b).2.1 := by decide +kernel
theorem tyX0_ok : ∀ k, k < 14 → parseFieldDescriptor (TX0 k).2.2.1 = some (tyX0 k) := by decide +kernel
abbrev cX0_init : ByteArray := prog_2_method_1_code
def yX0_init : MethodName := ⟨RX0, "<init>", "()V"⟩
abbrev cX0_become : ByteArray := prog_2_method_2_code
def yX0_become : MethodName := ⟨RX0, "become", "(ILViewsJoins$Graph;LViewsJoins$Graph;)V"⟩
abbrev cX0_choose : ByteArray := prog_2_method_3_code
def yX0_choose : MethodName := ⟨RX0, "choose", "(III)V"⟩
abbrev cX0_empty : ByteArray := prog_2_method_4_code
def yX0_empty : MethodName := ⟨RX0, "empty", "()V"⟩
abbrev cX0_isStale : ByteArray := prog_2_method_5_code
def yX0_isStale : MethodName := ⟨RX0, "isStale", "(I)Z"⟩
abbrev cX0_items : ByteArray := prog_2_method_6_code
def yX0_items : MethodName := ⟨RX0, "items", "(I)LViewsJoins$Items;"⟩
abbrev cX0_addNode : ByteArray := prog_2_method_7_code
def yX0_addNode : MethodName := ⟨RX0, "addNode", "(JII)V"⟩
abbrev cX0_addArc : ByteArray := prog_2_method_8_code
def yX0_addArc : MethodName := ⟨RX0, "addArc", "(IIJII)V"⟩
abbrev cX0_countFrom : ByteArray := prog_2_method_9_code
def yX0_countFrom : MethodName := ⟨RX0, "countFrom", "(I)I"⟩
abbrev cX0_countBeside : ByteArray := prog_2_method_10_code
def yX0_countBeside : MethodName := ⟨RX0, "countBeside", "(I)I"⟩
abbrev cX0_countReached : ByteArray := prog_2_method_11_code
def yX0_countReached : MethodName := ⟨RX0, "countReached", "(I)I"⟩
abbrev cX0_isLike : ByteArray := prog_2_method_12_code
def yX0_isLike : MethodName := ⟨RX0, "isLike", "(LViewsJoins$Graph;)Z"⟩
def RX1 : String := "ViewsJoins$Heaps"
def TX1 : u_T := fun k => match k with
  | 0 => ("ViewsJoins$Heaps", "totals", "[J", true)
  | 1 => ("ViewsJoins$Heaps", "least", "[I", true)
  | _ => ("ViewsJoins$Heaps", "tooLong", "Z", false)
def tyX1 : Nat → FieldType := fun k => match k with
  | 0 => .array .long
  | 1 => .array .int
  | _ => .boolean
abbrev wsX10 : List Cond := u_ws RX1 TX1 3
theorem nmX1 : ∀ a, a < 3 → ∀ b, b < 3 → a ≠ b → (TX1 a).2.1 ≠ (TX1 b).2.1 := by decide +kernel
theorem tyX1_ok : ∀ k, k < 3 → parseFieldDescriptor (TX1 k).2.2.1 = some (tyX1 k) := by decide +kernel
abbrev cX1_init : ByteArray := prog_3_method_1_code
def yX1_init : MethodName := ⟨RX1, "<init>", "()V"⟩
abbrev cX1_begin : ByteArray := prog_3_method_2_code
def yX1_begin : MethodName := ⟨RX1, "begin", "()V"⟩
abbrev cX1_hasAny : ByteArray := prog_3_method_3_code
def yX1_hasAny : MethodName := ⟨RX1, "hasAny", "(I)Z"⟩
abbrev cX1_put : ByteArray := prog_3_method_4_code
def yX1_put : MethodName := ⟨RX1, "put", "(IIJI)V"⟩
abbrev cX1_addTo : ByteArray := prog_3_method_5_code
def yX1_addTo : MethodName := ⟨RX1, "addTo", "(IJ)V"⟩
def RX2 : String := "ViewsJoins$HiddenItems"
def TX2 : u_T := fun k => match k with
  | 0 => ("ViewsJoins$HiddenItems", "whats", "[I", true)
  | 1 => ("ViewsJoins$HiddenItems", "numbers", "[I", true)
  | 2 => ("ViewsJoins$HiddenItems", "failures", "[I", true)
  | _ => ("ViewsJoins$HiddenItems", "size", "I", false)
def tyX2 : Nat → FieldType := fun k => match k with
  | 0 => .array .int
  | 1 => .array .int
  | 2 => .array .int
  | _ => .int
abbrev wsX20 : List Cond := u_ws RX2 TX2 4
theorem nmX2 : ∀ a, a < 4 → ∀ b, b < 4 → a ≠ b → (TX2 a).2.1 ≠ (TX2 b).2.1 := by decide +kernel
theorem tyX2_ok : ∀ k, k < 4 → parseFieldDescriptor (TX2 k).2.2.1 = some (tyX2 k) := by decide +kernel
abbrev cX2_init : ByteArray := prog_4_method_1_code
def yX2_init : MethodName := ⟨RX2, "<init>", "()V"⟩
abbrev cX2_add : ByteArray := prog_4_method_2_code
def yX2_add : MethodName := ⟨RX2, "add", "(III)V"⟩
def RX3 : String := "ViewsJoins$Items"
def TX3 : u_T := fun k => match k with
  | 0 => ("ViewsJoins$Items", "values", "[J", true)
  | 1 => ("ViewsJoins$Items", "sourcesInA", "[I", true)
  | 2 => ("ViewsJoins$Items", "sourcesInB", "[I", true)
  | _ => ("ViewsJoins$Items", "size", "I", false)
def tyX3 : Nat → FieldType := fun k => match k with
  | 0 => .array .long
  | 1 => .array .int
  | 2 => .array .int
  | _ => .int
abbrev wsX30 : List Cond := u_ws RX3 TX3 4
theorem nmX3 : ∀ a, a < 4 → ∀ b, b < 4 → a ≠ b → (TX3 a).2.1 ≠ (TX3 b).2.1 := by decide +kernel
theorem tyX3_ok : ∀ k, k < 4 → parseFieldDescriptor (TX3 k).2.2.1 = some (tyX3 k) := by decide +kernel
abbrev cX3_init : ByteArray := prog_5_method_1_code
def yX3_init : MethodName := ⟨RX3, "<init>", "(I)V"⟩
abbrev cX3_has : ByteArray := prog_5_method_2_code
def yX3_has : MethodName := ⟨RX3, "has", "(I)Z"⟩
abbrev cX3_add : ByteArray := prog_5_method_3_code
def yX3_add : MethodName := ⟨RX3, "add", "(JII)Z"⟩
abbrev cX3_sources : ByteArray := prog_5_method_4_code
def yX3_sources : MethodName := ⟨RX3, "sources", "(I)[I"⟩
abbrev cX3_firstOf : ByteArray := prog_5_method_5_code
def yX3_firstOf : MethodName := ⟨RX3, "firstOf", "(II)I"⟩
def RX4 : String := "ViewsJoins$Reckoner"
def TX4 : u_T := fun k => match k with
  | 0 => ("ViewsJoins$Reckoner", "tests", "LViewsJoins$Tests;", true)
  | 1 => ("ViewsJoins$Reckoner", "labels", "[[I", true)
  | 2 => ("ViewsJoins$Reckoner", "heaps", "LViewsJoins$Heaps;", true)
  | 3 => ("ViewsJoins$Reckoner", "places", "[I", true)
  | _ => ("ViewsJoins$Reckoner", "linked", "[J", true)
def tyX4 : Nat → FieldType := fun k => match k with
  | 0 => .object "ViewsJoins$Tests"
  | 1 => .array (.array .int)
  | 2 => .object "ViewsJoins$Heaps"
  | 3 => .array .int
  | _ => .array .long
abbrev wsX40 : List Cond := u_ws RX4 TX4 5
theorem nmX4 : ∀ a, a < 5 → ∀ b, b < 5 → a ≠ b → (TX4 a).2.1 ≠ (TX4 b).2.1 := by decide +kernel
theorem tyX4_ok : ∀ k, k < 5 → parseFieldDescriptor (TX4 k).2.2.1 = some (tyX4 k) := by decide +kernel
abbrev cX4_init : ByteArray := prog_6_method_1_code
def yX4_init : MethodName := ⟨RX4, "<init>", "()V"⟩
abbrev cX4_reckon : ByteArray := prog_6_method_2_code
def yX4_reckon : MethodName := ⟨RX4, "reckon", "(LViewsJoins$Graph;)V"⟩
abbrev cX4_filterNodes : ByteArray := prog_6_method_3_code
def yX4_filterNodes : MethodName := ⟨RX4, "filterNodes", "(LViewsJoins$Graph;LViewsJoins$Graph;)V"⟩
abbrev cX4_filterArcs : ByteArray := prog_6_method_4_code
def yX4_filterArcs : MethodName := ⟨RX4, "filterArcs", "(LViewsJoins$Graph;LViewsJoins$Graph;)V"⟩
abbrev cX4_fail : ByteArray := prog_6_method_5_code
def yX4_fail : MethodName := ⟨RX4, "fail", "(LViewsJoins$Graph;III)V"⟩
abbrev cX4_copyNodes : ByteArray := prog_6_method_6_code
def yX4_copyNodes : MethodName := ⟨RX4, "copyNodes", "(LViewsJoins$Graph;LViewsJoins$Graph;)V"⟩
abbrev cX4_turn : ByteArray := prog_6_method_7_code
def yX4_turn : MethodName := ⟨RX4, "turn", "(LViewsJoins$Graph;LViewsJoins$Graph;)V"⟩
abbrev cX4_link : ByteArray := prog_6_method_8_code
def yX4_link : MethodName := ⟨RX4, "link", "(LViewsJoins$Graph;)V"⟩
abbrev cX4_isLinked : ByteArray := prog_6_method_9_code
def yX4_isLinked : MethodName := ⟨RX4, "isLinked", "(II)Z"⟩
abbrev cX4_copyUnlinked : ByteArray := prog_6_method_10_code
def yX4_copyUnlinked : MethodName := ⟨RX4, "copyUnlinked", "(LViewsJoins$Graph;LViewsJoins$Graph;)V"⟩
abbrev cX4_join : ByteArray := prog_6_method_11_code
def yX4_join : MethodName := ⟨RX4, "join", "(LViewsJoins$Graph;LViewsJoins$Graph;LViewsJoins$Graph;)V"⟩
abbrev cX4_multiply : ByteArray := prog_6_method_12_code
def yX4_multiply : MethodName := ⟨RX4, "multiply", "(LViewsJoins$Graph;LViewsJoins$Graph;LViewsJoins$Graph;)V"⟩
abbrev cX4_pairNodes : ByteArray := prog_6_method_13_code
def yX4_pairNodes : MethodName := ⟨RX4, "pairNodes", "(LViewsJoins$Graph;LViewsJoins$Graph;LViewsJoins$Graph;)V"⟩
abbrev cX4_moveInA : ByteArray := prog_6_method_14_code
def yX4_moveInA : MethodName := ⟨RX4, "moveInA", "(LViewsJoins$Graph;LViewsJoins$Graph;LViewsJoins$Graph;)V"⟩
abbrev cX4_moveInB : ByteArray := prog_6_method_15_code
def yX4_moveInB : MethodName := ⟨RX4, "moveInB", "(LViewsJoins$Graph;LViewsJoins$Graph;LViewsJoins$Graph;)V"⟩
abbrev cX4_moveInBoth : ByteArray := prog_6_method_16_code
def yX4_moveInBoth : MethodName := ⟨RX4, "moveInBoth", "(LViewsJoins$Graph;LViewsJoins$Graph;LViewsJoins$Graph;)V"⟩
abbrev cX4_line : ByteArray := prog_6_method_17_code
def yX4_line : MethodName := ⟨RX4, "line", "(LViewsJoins$Graph;LViewsJoins$Graph;)V"⟩
abbrev cX4_gatherNodes : ByteArray := prog_6_method_18_code
def yX4_gatherNodes : MethodName := ⟨RX4, "gatherNodes", "(LViewsJoins$Graph;LViewsJoins$Graph;)V"⟩
abbrev cX4_gatherArcs : ByteArray := prog_6_method_19_code
def yX4_gatherArcs : MethodName := ⟨RX4, "gatherArcs", "(LViewsJoins$Graph;LViewsJoins$Graph;)V"⟩
abbrev cX4_breakIfTooLong : ByteArray := prog_6_method_20_code
def yX4_breakIfTooLong : MethodName := ⟨RX4, "breakIfTooLong", "(LViewsJoins$Graph;)V"⟩
def RX5 : String := "ViewsJoins$Tests"
def TX5 : u_T := fun k => match k with
  | 0 => ("ViewsJoins$Tests", "sorts", "[I", true)
  | 1 => ("ViewsJoins$Tests", "numbers", "[J", true)
  | 2 => ("ViewsJoins$Tests", "firstParts", "[I", true)
  | 3 => ("ViewsJoins$Tests", "secondParts", "[I", true)
  | 4 => ("ViewsJoins$Tests", "size", "I", false)
  | 5 => ("ViewsJoins$Tests", "steps", "I", false)
  | _ => ("ViewsJoins$Tests", "failures", "I", false)
def tyX5 : Nat → FieldType := fun k => match k with
  | 0 => .array .int
  | 1 => .array .long
  | 2 => .array .int
  | 3 => .array .int
  | 4 => .int
  | 5 => .int
  | _ => .int
abbrev wsX50 : List Cond := u_ws RX5 TX5 7
theorem nmX5 : ∀ a, a < 7 → ∀ b, b < 7 → a ≠ b → (TX5 a).2.1 ≠ (TX5 b).2.1 := by decide +kernel
theorem tyX5_ok : ∀ k, k < 7 → parseFieldDescriptor (TX5 k).2.2.1 = some (tyX5 k) := by decide +kernel
abbrev cX5_init : ByteArray := prog_7_method_1_code
def yX5_init : MethodName := ⟨RX5, "<init>", "()V"⟩
abbrev cX5_has : ByteArray := prog_7_method_2_code
def yX5_has : MethodName := ⟨RX5, "has", "(I)Z"⟩
abbrev cX5_fits : ByteArray := prog_7_method_3_code
def yX5_fits : MethodName := ⟨RX5, "fits", "(III)Z"⟩
abbrev cX5_add : ByteArray := prog_7_method_4_code
def yX5_add : MethodName := ⟨RX5, "add", "(IJII)V"⟩
abbrev cX5_begin : ByteArray := prog_7_method_5_code
def yX5_begin : MethodName := ⟨RX5, "begin", "()V"⟩
abbrev cX5_say : ByteArray := prog_7_method_6_code
def yX5_say : MethodName := ⟨RX5, "say", "(LViewsJoins$Graph;IIII)I"⟩
abbrev cX5_sayOfItem : ByteArray := prog_7_method_7_code
def yX5_sayOfItem : MethodName := ⟨RX5, "sayOfItem", "(LViewsJoins$Graph;III)I"⟩
abbrev cX5_sayOfParts : ByteArray := prog_7_method_8_code
def yX5_sayOfParts : MethodName := ⟨RX5, "sayOfParts", "(LViewsJoins$Graph;IIII)I"⟩
abbrev cX5_sayOfSomeNext : ByteArray := prog_7_method_9_code
def yX5_sayOfSomeNext : MethodName := ⟨RX5, "sayOfSomeNext", "(LViewsJoins$Graph;III)I"⟩
abbrev cX5_answer : ByteArray := prog_7_method_10_code
def yX5_answer : MethodName := ⟨RX5, "answer", "(Z)I"⟩
abbrev cX5_begun : ByteArray := prog_7_method_11_code
def yX5_begun : MethodName := ⟨RX5, "begun", "(I)I"⟩
def RX6 : String := "ViewsJoins"
def TX6 : u_T := fun k => match k with
  | 0 => ("ViewsJoins", "graphs", "[LViewsJoins$Graph;", true)
  | 1 => ("ViewsJoins", "reckoner", "LViewsJoins$Reckoner;", true)
  | 2 => ("ViewsJoins", "tests", "LViewsJoins$Tests;", true)
  | 3 => ("ViewsJoins", "labels", "[[I", true)
  | 4 => ("ViewsJoins", "graphCount", "I", false)
  | _ => ("ViewsJoins", "now", "I", false)
def tyX6 : Nat → FieldType := fun k => match k with
  | 0 => .array (.object "ViewsJoins$Graph")
  | 1 => .object "ViewsJoins$Reckoner"
  | 2 => .object "ViewsJoins$Tests"
  | 3 => .array (.array .int)
  | 4 => .int
  | _ => .int
abbrev wsX60 : List Cond := u_ws RX6 TX6 6
theorem nmX6 : ∀ a, a < 6 → ∀ b, b < 6 → a ≠ b → (TX6 a).2.1 ≠ (TX6 b).2.1 := by decide +kernel
theorem tyX6_ok : ∀ k, k < 6 → parseFieldDescriptor (TX6 k).2.2.1 = some (tyX6 k) := by decide +kernel
abbrev cX6_init : ByteArray := prog_1_method_1_code
def yX6_init : MethodName := ⟨RX6, "<init>", "()V"⟩
abbrev cX6_graph : ByteArray := prog_1_method_2_code
def yX6_graph : MethodName := ⟨RX6, "graph", "(I)I"⟩
abbrev cX6_arc : ByteArray := prog_1_method_3_code
def yX6_arc : MethodName := ⟨RX6, "arc", "(IIIJ)I"⟩
abbrev cX6_set : ByteArray := prog_1_method_4_code
def yX6_set : MethodName := ⟨RX6, "set", "(IIIJ)I"⟩
abbrev cX6_label : ByteArray := prog_1_method_5_code
def yX6_label : MethodName := ⟨RX6, "label", "(III)I"⟩
abbrev cX6_test : ByteArray := prog_1_method_6_code
def yX6_test : MethodName := ⟨RX6, "test", "(IJII)I"⟩
abbrev cX6_view : ByteArray := prog_1_method_7_code
def yX6_view : MethodName := ⟨RX6, "view", "(IIIII)I"⟩
abbrev cX6_live : ByteArray := prog_1_method_8_code
def yX6_live : MethodName := ⟨RX6, "live", "(IZ)I"⟩
abbrev cX6_told : ByteArray := prog_1_method_9_code
def yX6_told : MethodName := ⟨RX6, "told", "(II)I"⟩
abbrev cX6_end : ByteArray := prog_1_method_10_code
def yX6_end : MethodName := ⟨RX6, "end", "(III)I"⟩
abbrev cX6_value : ByteArray := prog_1_method_11_code
def yX6_value : MethodName := ⟨RX6, "value", "(III)J"⟩
abbrev cX6_up : ByteArray := prog_1_method_12_code
def yX6_up : MethodName := ⟨RX6, "up", "(IIII)I"⟩
abbrev cX6_down : ByteArray := prog_1_method_13_code
def yX6_down : MethodName := ⟨RX6, "down", "(IIII)I"⟩
abbrev cX6_hidden : ByteArray := prog_1_method_14_code
def yX6_hidden : MethodName := ⟨RX6, "hidden", "(III)I"⟩
abbrev cX6_same : ByteArray := prog_1_method_15_code
def yX6_same : MethodName := ⟨RX6, "same", "(II)I"⟩
abbrev cX6_reach : ByteArray := prog_1_method_16_code
def yX6_reach : MethodName := ⟨RX6, "reach", "(II)I"⟩
abbrev cX6_ask : ByteArray := prog_1_method_17_code
def yX6_ask : MethodName := ⟨RX6, "ask", "(IIII)I"⟩
abbrev cX6_count : ByteArray := prog_1_method_18_code
def yX6_count : MethodName := ⟨RX6, "count", "(I)I"⟩
abbrev cX6_clear : ByteArray := prog_1_method_19_code
def yX6_clear : MethodName := ⟨RX6, "clear", "()I"⟩
abbrev cX6_removeLabels : ByteArray := prog_1_method_20_code
def yX6_removeLabels : MethodName := ⟨RX6, "removeLabels", "()V"⟩
abbrev cX6_known : ByteArray := prog_1_method_21_code
def yX6_known : MethodName := ⟨RX6, "known", "(I)LViewsJoins$Graph;"⟩
abbrev cX6_nextGraph : ByteArray := prog_1_method_22_code
def yX6_nextGraph : MethodName := ⟨RX6, "nextGraph", "()LViewsJoins$Graph;"⟩
abbrev cX6_countFixed : ByteArray := prog_1_method_23_code
def yX6_countFixed : MethodName := ⟨RX6, "countFixed", "()I"⟩
abbrev cX6_fits : ByteArray := prog_1_method_24_code
def yX6_fits : MethodName := ⟨RX6, "fits", "(IIII)Z"⟩
abbrev cX6_isTestOrAll : ByteArray := prog_1_method_25_code
def yX6_isTestOrAll : MethodName := ⟨RX6, "isTestOrAll", "(I)Z"⟩
abbrev cX6_isOfTwo : ByteArray := prog_1_method_26_code
def yX6_isOfTwo : MethodName := ⟨RX6, "isOfTwo", "(I)Z"⟩
abbrev cX6_isTable : ByteArray := prog_1_method_27_code
def yX6_isTable : MethodName := ⟨RX6, "isTable", "(I)Z"⟩
abbrev cX6_isOneOfTwo : ByteArray := prog_1_method_28_code
def yX6_isOneOfTwo : MethodName := ⟨RX6, "isOneOfTwo", "(I)Z"⟩
abbrev cX6_isOneOfThree : ByteArray := prog_1_method_29_code
def yX6_isOneOfThree : MethodName := ⟨RX6, "isOneOfThree", "(I)Z"⟩
abbrev cX6_isBroken : ByteArray := prog_1_method_30_code
def yX6_isBroken : MethodName := ⟨RX6, "isBroken", "(LViewsJoins$Graph;)Z"⟩
abbrev cX6_refresh : ByteArray := prog_1_method_31_code
def yX6_refresh : MethodName := ⟨RX6, "refresh", "(LViewsJoins$Graph;I)V"⟩
def RX7 : String := "ViewsJoinsModel"
def TX7 : u_T := fun k => match k with
  | 0 => ("ViewsJoinsModel", "graphs", "I", false)
  | 1 => ("ViewsJoinsModel", "kind", "[I", true)
  | 2 => ("ViewsJoinsModel", "byA", "[I", true)
  | 3 => ("ViewsJoinsModel", "byB", "[I", true)
  | 4 => ("ViewsJoinsModel", "byC", "[I", true)
  | 5 => ("ViewsJoinsModel", "byD", "[I", true)
  | 6 => ("ViewsJoinsModel", "isFixed", "[Z", true)
  | 7 => ("ViewsJoinsModel", "broke", "[I", true)
  | 8 => ("ViewsJoinsModel", "nodes", "[I", true)
  | 9 => ("ViewsJoinsModel", "arcs", "[I", true)
  | 10 => ("ViewsJoinsModel", "nodeValue", "[J", true)
  | 11 => ("ViewsJoinsModel", "nodeUpA", "[I", true)
  | 12 => ("ViewsJoinsModel", "nodeUpB", "[I", true)
  | 13 => ("ViewsJoinsModel", "from", "[I", true)
  | 14 => ("ViewsJoinsModel", "to", "[I", true)
  | 15 => ("ViewsJoinsModel", "arcValue", "[J", true)
  | 16 => ("ViewsJoinsModel", "arcUpA", "[I", true)
  | 17 => ("ViewsJoinsModel", "arcUpB", "[I", true)
  | 18 => ("ViewsJoinsModel", "hiddens", "[I", true)
  | 19 => ("ViewsJoinsModel", "hiddenIs", "[I", true)
  | 20 => ("ViewsJoinsModel", "hiddenBy", "[I", true)
  | 21 => ("ViewsJoinsModel", "isReckoned", "Z", false)
  | 22 => ("ViewsJoinsModel", "labels", "[I", true)
  | 23 => ("ViewsJoinsModel", "tests", "I", false)
  | 24 => ("ViewsJoinsModel", "testSort", "[I", true)
  | 25 => ("ViewsJoinsModel", "testNumber", "[J", true)
  | 26 => ("ViewsJoinsModel", "testT", "[I", true)
  | 27 => ("ViewsJoinsModel", "testU", "[I", true)
  | 28 => ("ViewsJoinsModel", "kept", "[I", true)
  | 29 => ("ViewsJoinsModel", "steps", "I", false)
  | 30 => ("ViewsJoinsModel", "failures", "I", false)
  | 31 => ("ViewsJoinsModel", "came", "I", false)
  | 32 => ("ViewsJoinsModel", "first", "I", false)
  | 33 => ("ViewsJoinsModel", "total", "J", false)
  | 34 => ("ViewsJoinsModel", "numberOf", "[I", true)
  | 35 => ("ViewsJoinsModel", "top", "I", false)
  | 36 => ("ViewsJoinsModel", "pileTest", "[I", true)
  | 37 => ("ViewsJoinsModel", "pileWhat", "[I", true)
  | 38 => ("ViewsJoinsModel", "pileItem", "[I", true)
  | 39 => ("ViewsJoinsModel", "pileStage", "[I", true)
  | 40 => ("ViewsJoinsModel", "pileArc", "[I", true)
  | _ => ("ViewsJoinsModel", "met", "[Z", true)
def tyX7 : Nat → FieldType := fun k => match k with
  | 0 => .int
  | 1 => .array .int
  | 2 => .array .int
  | 3 => .array .int
  | 4 => .array .int
  | 5 => .array .int
  | 6 => .array .boolean
  | 7 => .array .int
  | 8 => .array .int
  | 9 => .array .int
  | 10 => .array .long
  | 11 => .array .int
  | 12 => .array .int
  | 13 => .array .int
  | 14 => .array .int
  | 15 => .array .long
  | 16 => .array .int
  | 17 => .array .int
  | 18 => .array .int
  | 19 => .array .int
  | 20 => .array .int
  | 21 => .boolean
  | 22 => .array .int
  | 23 => .int
  | 24 => .array .int
  | 25 => .array .long
  | 26 => .array .int
  | 27 => .array .int
  | 28 => .array .int
  | 29 => .int
  | 30 => .int
  | 31 => .int
  | 32 => .int
  | 33 => .long
  | 34 => .array .int
  | 35 => .int
  | 36 => .array .int
  | 37 => .array .int
  | 38 => .array .int
  | 39 => .array .int
  | 40 => .array .int
  | _ => .array .boolean
abbrev wsX70 : List Cond := u_ws RX7 TX7 42
theorem nmX7 : ∀ a, a < 42 → ∀ b, b < 42 → a ≠ b → (TX7 a).2.1 ≠ (TX7 b).2.1 := by decide +kernel
theorem tyX7_ok : ∀ k, k < 42 → parseFieldDescriptor (TX7 k).2.2.1 = some (tyX7 k) := by decide +kernel
abbrev cX7_init : ByteArray := prog_9_method_1_code
def yX7_init : MethodName := ⟨RX7, "<init>", "()V"⟩
abbrev cX7_in : ByteArray := prog_9_method_3_code
def yX7_in : MethodName := ⟨RX7, "in", "(III)Z"⟩
abbrev cX7_isGraph : ByteArray := prog_9_method_4_code
def yX7_isGraph : MethodName := ⟨RX7, "isGraph", "(I)Z"⟩
abbrev cX7_isBase : ByteArray := prog_9_method_5_code
def yX7_isBase : MethodName := ⟨RX7, "isBase", "(I)Z"⟩
abbrev cX7_isView : ByteArray := prog_9_method_6_code
def yX7_isView : MethodName := ⟨RX7, "isView", "(I)Z"⟩
abbrev cX7_isTest : ByteArray := prog_9_method_7_code
def yX7_isTest : MethodName := ⟨RX7, "isTest", "(I)Z"⟩
abbrev cX7_graph : ByteArray := prog_9_method_8_code
def yX7_graph : MethodName := ⟨RX7, "graph", "(I)I"⟩
abbrev cX7_arc : ByteArray := prog_9_method_9_code
def yX7_arc : MethodName := ⟨RX7, "arc", "(IIIJ)I"⟩
abbrev cX7_set : ByteArray := prog_9_method_10_code
def yX7_set : MethodName := ⟨RX7, "set", "(IIIJ)I"⟩
abbrev cX7_label : ByteArray := prog_9_method_11_code
def yX7_label : MethodName := ⟨RX7, "label", "(III)I"⟩
abbrev cX7_test : ByteArray := prog_9_method_12_code
def yX7_test : MethodName := ⟨RX7, "test", "(IJII)I"⟩
abbrev cX7_isTold : ByteArray := prog_9_method_13_code
def yX7_isTold : MethodName := ⟨RX7, "isTold", "(IIIII)Z"⟩
abbrev cX7_view : ByteArray := prog_9_method_14_code
def yX7_view : MethodName := ⟨RX7, "view", "(IIIII)I"⟩
abbrev cX7_reckon : ByteArray := prog_9_method_15_code
def yX7_reckon : MethodName := ⟨RX7, "reckon", "()V"⟩
abbrev cX7_reckonOne : ByteArray := prog_9_method_16_code
def yX7_reckonOne : MethodName := ⟨RX7, "reckonOne", "(I)V"⟩
abbrev cX7_breaks : ByteArray := prog_9_method_17_code
def yX7_breaks : MethodName := ⟨RX7, "breaks", "(II)V"⟩
abbrev cX7_addNode : ByteArray := prog_9_method_18_code
def yX7_addNode : MethodName := ⟨RX7, "addNode", "(IJII)V"⟩
abbrev cX7_addArc : ByteArray := prog_9_method_19_code
def yX7_addArc : MethodName := ⟨RX7, "addArc", "(IIIJII)V"⟩
abbrev cX7_fromOf : ByteArray := prog_9_method_20_code
def yX7_fromOf : MethodName := ⟨RX7, "fromOf", "(II)I"⟩
abbrev cX7_toOf : ByteArray := prog_9_method_21_code
def yX7_toOf : MethodName := ⟨RX7, "toOf", "(II)I"⟩
abbrev cX7_ofNode : ByteArray := prog_9_method_22_code
def yX7_ofNode : MethodName := ⟨RX7, "ofNode", "(II)J"⟩
abbrev cX7_ofArc : ByteArray := prog_9_method_23_code
def yX7_ofArc : MethodName := ⟨RX7, "ofArc", "(II)J"⟩
abbrev cX7_hasArc : ByteArray := prog_9_method_24_code
def yX7_hasArc : MethodName := ⟨RX7, "hasArc", "(III)Z"⟩
abbrev cX7_passes : ByteArray := prog_9_method_25_code
def yX7_passes : MethodName := ⟨RX7, "passes", "(IIIII)Z"⟩
abbrev cX7_filter : ByteArray := prog_9_method_26_code
def yX7_filter : MethodName := ⟨RX7, "filter", "(II)V"⟩
abbrev cX7_sameNodes : ByteArray := prog_9_method_27_code
def yX7_sameNodes : MethodName := ⟨RX7, "sameNodes", "(II)V"⟩
abbrev cX7_turned : ByteArray := prog_9_method_28_code
def yX7_turned : MethodName := ⟨RX7, "turned", "(II)V"⟩
abbrev cX7_joined : ByteArray := prog_9_method_29_code
def yX7_joined : MethodName := ⟨RX7, "joined", "(III)V"⟩
abbrev cX7_less : ByteArray := prog_9_method_30_code
def yX7_less : MethodName := ⟨RX7, "less", "(III)V"⟩
abbrev cX7_product : ByteArray := prog_9_method_31_code
def yX7_product : MethodName := ⟨RX7, "product", "(III)V"⟩
abbrev cX7_lines : ByteArray := prog_9_method_32_code
def yX7_lines : MethodName := ⟨RX7, "lines", "(II)V"⟩
abbrev cX7_labelOf : ByteArray := prog_9_method_33_code
def yX7_labelOf : MethodName := ⟨RX7, "labelOf", "(II)I"⟩
abbrev cX7_comes : ByteArray := prog_9_method_34_code
def yX7_comes : MethodName := ⟨RX7, "comes", "(IIJ)V"⟩
abbrev cX7_gathered : ByteArray := prog_9_method_35_code
def yX7_gathered : MethodName := ⟨RX7, "gathered", "(II)V"⟩
abbrev cX7_push : ByteArray := prog_9_method_36_code
def yX7_push : MethodName := ⟨RX7, "push", "(III)V"⟩
abbrev cX7_arcBehind : ByteArray := prog_9_method_37_code
def yX7_arcBehind : MethodName := ⟨RX7, "arcBehind", "(III)I"⟩
abbrev cX7_asked : ByteArray := prog_9_method_38_code
def yX7_asked : MethodName := ⟨RX7, "asked", "(IIII)I"⟩
abbrev cX7_fails : ByteArray := prog_9_method_39_code
def yX7_fails : MethodName := ⟨RX7, "fails", "(I)I"⟩
abbrev cX7_begins : ByteArray := prog_9_method_40_code
def yX7_begins : MethodName := ⟨RX7, "begins", "(I)I"⟩
abbrev cX7_next : ByteArray := prog_9_method_41_code
def yX7_next : MethodName := ⟨RX7, "next", "(II)I"⟩
abbrev cX7_manyOf : ByteArray := prog_9_method_42_code
def yX7_manyOf : MethodName := ⟨RX7, "manyOf", "(III)I"⟩
abbrev cX7_goesOn : ByteArray := prog_9_method_43_code
def yX7_goesOn : MethodName := ⟨RX7, "goesOn", "(II)I"⟩
abbrev cX7_live : ByteArray := prog_9_method_44_code
def yX7_live : MethodName := ⟨RX7, "live", "(IZ)I"⟩
abbrev cX7_told : ByteArray := prog_9_method_45_code
def yX7_told : MethodName := ⟨RX7, "told", "(II)I"⟩
abbrev cX7_end : ByteArray := prog_9_method_46_code
def yX7_end : MethodName := ⟨RX7, "end", "(III)I"⟩
abbrev cX7_itemsOf : ByteArray := prog_9_method_47_code
def yX7_itemsOf : MethodName := ⟨RX7, "itemsOf", "(II)I"⟩
abbrev cX7_value : ByteArray := prog_9_method_48_code
def yX7_value : MethodName := ⟨RX7, "value", "(III)J"⟩
abbrev cX7_upOf : ByteArray := prog_9_method_49_code
def yX7_upOf : MethodName := ⟨RX7, "upOf", "(IIII)I"⟩
abbrev cX7_up : ByteArray := prog_9_method_50_code
def yX7_up : MethodName := ⟨RX7, "up", "(IIII)I"⟩
abbrev cX7_down : ByteArray := prog_9_method_51_code
def yX7_down : MethodName := ⟨RX7, "down", "(IIII)I"⟩
abbrev cX7_hidden : ByteArray := prog_9_method_52_code
def yX7_hidden : MethodName := ⟨RX7, "hidden", "(III)I"⟩
abbrev cX7_same : ByteArray := prog_9_method_53_code
def yX7_same : MethodName := ⟨RX7, "same", "(II)I"⟩
abbrev cX7_reach : ByteArray := prog_9_method_54_code
def yX7_reach : MethodName := ⟨RX7, "reach", "(II)I"⟩
abbrev cX7_ask : ByteArray := prog_9_method_55_code
def yX7_ask : MethodName := ⟨RX7, "ask", "(IIII)I"⟩
abbrev cX7_count : ByteArray := prog_9_method_56_code
def yX7_count : MethodName := ⟨RX7, "count", "(I)I"⟩
abbrev cX7_clear : ByteArray := prog_9_method_57_code
def yX7_clear : MethodName := ⟨RX7, "clear", "()I"⟩
def RJ13 : String := "java/lang/Long"
def TJ13 : u_T := fun k => match k with
  | _ => ("", "", "", false)
def tyJ13 : Nat → FieldType := fun k => match k with
  | _ => .int
abbrev wsJ130 : List Cond := u_ws RJ13 TJ13 0
theorem nmJ13 : ∀ a, a < 0 → ∀ b, b < 0 → a ≠ b → (TJ13 a).2.1 ≠ (TJ13 b).2.1 := by decide +kernel
theorem tyJ13_ok : ∀ k, k < 0 → parseFieldDescriptor (TJ13 k).2.2.1 = some (tyJ13 k) := by decide +kernel
abbrev cJ13_bitCount_95d88 : ByteArray := prog_10_method_50_code
def yJ13_bitCount_95d88 : MethodName := ⟨RJ13, "bitCount", "(J)I"⟩
def RJ9 : String := "java/lang/Math"
def TJ9 : u_T := fun k => match k with
  | _ => ("", "", "", false)
def tyJ9 : Nat → FieldType := fun k => match k with
  | _ => .int
abbrev wsJ90 : List Cond := u_ws RJ9 TJ9 0
theorem nmJ9 : ∀ a, a < 0 → ∀ b, b < 0 → a ≠ b → (TJ9 a).2.1 ≠ (TJ9 b).2.1 := by decide +kernel
theorem tyJ9_ok : ∀ k, k < 0 → parseFieldDescriptor (TJ9 k).2.2.1 = some (tyJ9 k) := by decide +kernel
abbrev cJ9_max_7cf53 : ByteArray := prog_11_method_65_code
def yJ9_max_7cf53 : MethodName := ⟨RJ9, "max", "(II)I"⟩
abbrev cJ9_max_f86c9 : ByteArray := prog_11_method_66_code
def yJ9_max_f86c9 : MethodName := ⟨RJ9, "max", "(JJ)J"⟩
def RL : String := "ViewsJoinsLaw"
abbrev cL_law : ByteArray := code
def yL_law : MethodName := ⟨RL, "law", "([I)Z"⟩
/-! ===== the tables of the pure machine (by wip/gen_tab.py) ===== -/
def pm_cl : List vw_C := [(RX0, TX0, 14), (RX1, TX1, 3), (RX2, TX2, 4), (RX3, TX3, 4), (RX4, TX4, 5), (RX5, TX5, 7), (RX6, TX6, 6), (RX7, TX7, 42)]
def pm_fty : Nat → Nat → FieldType := fun c => match c with
  | 0 => tyX0
  | 1 => tyX1
  | 2 => tyX2
  | 3 => tyX3
  | 4 => tyX4
  | 5 => tyX5
  | 6 => tyX6
  | _ => tyX7
def pm_cn : List String := [RX0, RX1, RX2, RX3, RX4, RX5, RX6, RX7, RL, RJ13, RJ9]
/-- own class, name, bytes, locals, answer, kind (0 static, 1 of an object, 2 a constructor), parameters -/
abbrev pm_MT : Type := Nat × MethodName × ByteArray × Nat × Option FieldType × Nat × Nat
def pm_ms_0 : List pm_MT := [(0, yX0_init, cX0_init, 1, none, 2, 0),
  (0, yX0_become, cX0_become, 4, none, 1, 3),
  (0, yX0_choose, cX0_choose, 4, none, 1, 3),
  (0, yX0_empty, cX0_empty, 1, none, 1, 0),
  (0, yX0_isStale, cX0_isStale, 2, (some .boolean), 1, 1),
  (0, yX0_items, cX0_items, 2, (some (.object "ViewsJoins$Items")), 1, 1),
  (0, yX0_addNode, cX0_addNode, 5, none, 1, 3),
  (0, yX0_addArc, cX0_addArc, 8, none, 1, 5),
  (0, yX0_countFrom, cX0_countFrom, 4, (some .int), 1, 1),
  (0, yX0_countBeside, cX0_countBeside, 4, (some .int), 1, 1),
  (0, yX0_countReached, cX0_countReached, 8, (some .int), 1, 1),
  (0, yX0_isLike, cX0_isLike, 3, (some .boolean), 1, 1),
  (1, yX1_init, cX1_init, 1, none, 2, 0),
  (1, yX1_begin, cX1_begin, 2, none, 1, 0),
  (1, yX1_hasAny, cX1_hasAny, 2, (some .boolean), 1, 1),
  (1, yX1_put, cX1_put, 6, none, 1, 4),
  (1, yX1_addTo, cX1_addTo, 6, none, 1, 2),
  (2, yX2_init, cX2_init, 1, none, 2, 0),
  (2, yX2_add, cX2_add, 4, none, 1, 3),
  (3, yX3_init, cX3_init, 3, none, 2, 1),
  (3, yX3_has, cX3_has, 2, (some .boolean), 1, 1),
  (3, yX3_add, cX3_add, 5, (some .boolean), 1, 3),
  (3, yX3_sources, cX3_sources, 2, (some (.array .int)), 1, 1),
  (3, yX3_firstOf, cX3_firstOf, 5, (some .int), 1, 2)]
def pm_ms_1 : List pm_MT := [(4, yX4_init, cX4_init, 1, none, 2, 0),
  (4, yX4_reckon, cX4_reckon, 4, none, 1, 1),
  (4, yX4_filterNodes, cX4_filterNodes, 6, none, 1, 2),
  (4, yX4_filterArcs, cX4_filterArcs, 8, none, 1, 2),
  (4, yX4_fail, cX4_fail, 4, none, 0, 4),
  (4, yX4_copyNodes, cX4_copyNodes, 3, none, 0, 2),
  (4, yX4_turn, cX4_turn, 3, none, 0, 2),
  (4, yX4_link, cX4_link, 3, none, 1, 1),
  (4, yX4_isLinked, cX4_isLinked, 3, (some .boolean), 1, 2),
  (4, yX4_copyUnlinked, cX4_copyUnlinked, 4, none, 1, 2),
  (4, yX4_join, cX4_join, 9, none, 1, 3),
  (4, yX4_multiply, cX4_multiply, 6, none, 0, 3),
  (4, yX4_pairNodes, cX4_pairNodes, 5, none, 0, 3),
  (4, yX4_moveInA, cX4_moveInA, 6, none, 0, 3),
  (4, yX4_moveInB, cX4_moveInB, 6, none, 0, 3),
  (4, yX4_moveInBoth, cX4_moveInBoth, 6, none, 0, 3),
  (4, yX4_line, cX4_line, 5, none, 0, 2),
  (4, yX4_gatherNodes, cX4_gatherNodes, 5, none, 1, 2),
  (4, yX4_gatherArcs, cX4_gatherArcs, 7, none, 1, 2),
  (4, yX4_breakIfTooLong, cX4_breakIfTooLong, 2, none, 1, 1),
  (5, yX5_init, cX5_init, 1, none, 2, 0),
  (5, yX5_has, cX5_has, 2, (some .boolean), 1, 1),
  (5, yX5_fits, cX5_fits, 6, (some .boolean), 1, 3),
  (5, yX5_add, cX5_add, 6, none, 1, 4)]
def pm_ms_2 : List pm_MT := [(5, yX5_begin, cX5_begin, 1, none, 1, 0),
  (5, yX5_say, cX5_say, 6, (some .int), 1, 5),
  (5, yX5_sayOfItem, cX5_sayOfItem, 10, (some .int), 1, 4),
  (5, yX5_sayOfParts, cX5_sayOfParts, 7, (some .int), 1, 5),
  (5, yX5_sayOfSomeNext, cX5_sayOfSomeNext, 7, (some .int), 1, 4),
  (5, yX5_answer, cX5_answer, 1, (some .int), 0, 1),
  (5, yX5_begun, cX5_begun, 2, (some .int), 1, 1),
  (6, yX6_init, cX6_init, 1, none, 2, 0),
  (6, yX6_graph, cX6_graph, 4, (some .int), 1, 1),
  (6, yX6_arc, cX6_arc, 7, (some .int), 1, 4),
  (6, yX6_set, cX6_set, 8, (some .int), 1, 4),
  (6, yX6_label, cX6_label, 5, (some .int), 1, 3),
  (6, yX6_test, cX6_test, 6, (some .int), 1, 4),
  (6, yX6_view, cX6_view, 9, (some .int), 1, 5),
  (6, yX6_live, cX6_live, 4, (some .int), 1, 2),
  (6, yX6_told, cX6_told, 5, (some .int), 1, 2),
  (6, yX6_end, cX6_end, 5, (some .int), 1, 3),
  (6, yX6_value, cX6_value, 6, (some .long), 1, 3),
  (6, yX6_up, cX6_up, 8, (some .int), 1, 4),
  (6, yX6_down, cX6_down, 7, (some .int), 1, 4),
  (6, yX6_hidden, cX6_hidden, 6, (some .int), 1, 3),
  (6, yX6_same, cX6_same, 5, (some .int), 1, 2),
  (6, yX6_reach, cX6_reach, 4, (some .int), 1, 2),
  (6, yX6_ask, cX6_ask, 7, (some .int), 1, 4)]
def pm_ms_3 : List pm_MT := [(6, yX6_count, cX6_count, 2, (some .int), 1, 1),
  (6, yX6_clear, cX6_clear, 2, (some .int), 1, 0),
  (6, yX6_removeLabels, cX6_removeLabels, 3, none, 1, 0),
  (6, yX6_known, cX6_known, 2, (some (.object "ViewsJoins$Graph")), 1, 1),
  (6, yX6_nextGraph, cX6_nextGraph, 1, (some (.object "ViewsJoins$Graph")), 1, 0),
  (6, yX6_countFixed, cX6_countFixed, 4, (some .int), 1, 0),
  (6, yX6_fits, cX6_fits, 5, (some .boolean), 1, 4),
  (6, yX6_isTestOrAll, cX6_isTestOrAll, 2, (some .boolean), 1, 1),
  (6, yX6_isOfTwo, cX6_isOfTwo, 1, (some .boolean), 0, 1),
  (6, yX6_isTable, cX6_isTable, 1, (some .boolean), 0, 1),
  (6, yX6_isOneOfTwo, cX6_isOneOfTwo, 1, (some .boolean), 0, 1),
  (6, yX6_isOneOfThree, cX6_isOneOfThree, 1, (some .boolean), 0, 1),
  (6, yX6_isBroken, cX6_isBroken, 2, (some .boolean), 1, 1),
  (6, yX6_refresh, cX6_refresh, 3, none, 1, 2),
  (7, yX7_init, cX7_init, 1, none, 2, 0),
  (7, yX7_in, cX7_in, 3, (some .boolean), 0, 3),
  (7, yX7_isGraph, cX7_isGraph, 2, (some .boolean), 1, 1),
  (7, yX7_isBase, cX7_isBase, 2, (some .boolean), 1, 1),
  (7, yX7_isView, cX7_isView, 2, (some .boolean), 1, 1),
  (7, yX7_isTest, cX7_isTest, 2, (some .boolean), 1, 1),
  (7, yX7_graph, cX7_graph, 4, (some .int), 1, 1),
  (7, yX7_arc, cX7_arc, 6, (some .int), 1, 4),
  (7, yX7_set, cX7_set, 6, (some .int), 1, 4),
  (7, yX7_label, cX7_label, 5, (some .int), 1, 3)]
def pm_ms_4 : List pm_MT := [(7, yX7_test, cX7_test, 6, (some .int), 1, 4),
  (7, yX7_isTold, cX7_isTold, 6, (some .boolean), 1, 5),
  (7, yX7_view, cX7_view, 6, (some .int), 1, 5),
  (7, yX7_reckon, cX7_reckon, 2, none, 1, 0),
  (7, yX7_reckonOne, cX7_reckonOne, 5, none, 1, 1),
  (7, yX7_breaks, cX7_breaks, 3, none, 1, 2),
  (7, yX7_addNode, cX7_addNode, 7, none, 1, 4),
  (7, yX7_addArc, cX7_addArc, 9, none, 1, 6),
  (7, yX7_fromOf, cX7_fromOf, 3, (some .int), 1, 2),
  (7, yX7_toOf, cX7_toOf, 3, (some .int), 1, 2),
  (7, yX7_ofNode, cX7_ofNode, 3, (some .long), 1, 2),
  (7, yX7_ofArc, cX7_ofArc, 3, (some .long), 1, 2),
  (7, yX7_hasArc, cX7_hasArc, 6, (some .boolean), 1, 3),
  (7, yX7_passes, cX7_passes, 8, (some .boolean), 1, 5),
  (7, yX7_filter, cX7_filter, 6, none, 1, 2),
  (7, yX7_sameNodes, cX7_sameNodes, 4, none, 1, 2),
  (7, yX7_turned, cX7_turned, 4, none, 1, 2),
  (7, yX7_joined, cX7_joined, 6, none, 1, 3),
  (7, yX7_less, cX7_less, 5, none, 1, 3),
  (7, yX7_product, cX7_product, 7, none, 1, 3),
  (7, yX7_lines, cX7_lines, 5, none, 1, 2),
  (7, yX7_labelOf, cX7_labelOf, 3, (some .int), 1, 2),
  (7, yX7_comes, cX7_comes, 7, none, 1, 3),
  (7, yX7_gathered, cX7_gathered, 6, none, 1, 2)]
def pm_ms_5 : List pm_MT := [(7, yX7_push, cX7_push, 4, none, 1, 3),
  (7, yX7_arcBehind, cX7_arcBehind, 5, (some .int), 1, 3),
  (7, yX7_asked, cX7_asked, 6, (some .int), 1, 4),
  (7, yX7_fails, cX7_fails, 2, (some .int), 1, 1),
  (7, yX7_begins, cX7_begins, 11, (some .int), 1, 1),
  (7, yX7_next, cX7_next, 3, (some .int), 1, 2),
  (7, yX7_manyOf, cX7_manyOf, 7, (some .int), 1, 3),
  (7, yX7_goesOn, cX7_goesOn, 6, (some .int), 1, 2),
  (7, yX7_live, cX7_live, 3, (some .int), 1, 2),
  (7, yX7_told, cX7_told, 3, (some .int), 1, 2),
  (7, yX7_end, cX7_end, 4, (some .int), 1, 3),
  (7, yX7_itemsOf, cX7_itemsOf, 3, (some .int), 1, 2),
  (7, yX7_value, cX7_value, 4, (some .long), 1, 3),
  (7, yX7_upOf, cX7_upOf, 5, (some .int), 1, 4),
  (7, yX7_up, cX7_up, 5, (some .int), 1, 4),
  (7, yX7_down, cX7_down, 6, (some .int), 1, 4),
  (7, yX7_hidden, cX7_hidden, 5, (some .int), 1, 3),
  (7, yX7_same, cX7_same, 5, (some .int), 1, 2),
  (7, yX7_reach, cX7_reach, 6, (some .int), 1, 2),
  (7, yX7_ask, cX7_ask, 6, (some .int), 1, 4),
  (7, yX7_count, cX7_count, 4, (some .int), 1, 1),
  (7, yX7_clear, cX7_clear, 3, (some .int), 1, 0),
  (9, yJ13_bitCount_95d88, cJ13_bitCount_95d88, 2, (some .int), 0, 1),
  (10, yJ9_max_7cf53, cJ9_max_7cf53, 2, (some .int), 0, 2)]
def pm_ms_6 : List pm_MT := [(10, yJ9_max_f86c9, cJ9_max_f86c9, 4, (some .long), 0, 2),
  (8, yL_law, cL_law, 4, (some .boolean), 0, 1)]
def pm_ms : List pm_MT := pm_ms_0 ++ (pm_ms_1 ++ (pm_ms_2 ++ (pm_ms_3 ++ (pm_ms_4 ++ (pm_ms_5 ++ (pm_ms_6))))))
/-- a field by the place in the pool (own class * 1000 + index): its class, its number -/
def pm_fl : List (Nat × Nat × Nat) := [(14, 0, 0), (20, 0, 1), (23, 0, 2), (27, 0, 3), (33, 0, 4), (37, 0, 5), (41, 0, 6), (44, 0, 7), (48, 0, 8), (51, 0, 9), (54, 0, 10), (57, 0, 11), (60, 0, 12), (64, 0, 13), (70, 3, 3), (73, 2, 3), (84, 3, 0), (1009, 1, 0), (1015, 1, 1), (1019, 1, 2), (2009, 2, 0), (2015, 2, 1), (2018, 2, 2), (2021, 2, 3), (3015, 3, 0), (3021, 3, 1), (3025, 3, 2), (3028, 3, 3), (4012, 4, 0), (4020, 4, 1), (4026, 4, 2), (4030, 4, 3), (4034, 4, 4), (4038, 0, 7), (4044, 0, 8), (4050, 0, 5), (4054, 0, 6), (4096, 0, 9), (4099, 0, 0), (4103, 3, 3), (4112, 3, 0), (4123, 0, 10), (4126, 0, 1), (4129, 0, 2), (4132, 0, 3), (4139, 0, 11), (4142, 0, 4), (4186, 1, 0), (4189, 1, 1), (4195, 1, 2), (5009, 5, 0), (5015, 5, 1), (5019, 5, 2), (5022, 5, 3), (5025, 5, 4), (5029, 5, 5), (5032, 5, 6), (5056, 3, 0), (5076, 0, 3), (5082, 0, 1), (5086, 3, 3), (5087, 0, 2), (6011, 6, 0), (6018, 6, 1), (6022, 4, 0), (6026, 6, 2), (6027, 4, 1), (6031, 6, 3), (6032, 6, 4), (6036, 6, 5), (6060, 0, 6), (6063, 0, 0), (6073, 0, 1), (6076, 3, 3), (6090, 3, 0), (6103, 5, 4), (6118, 0, 12), (6127, 0, 5), (6130, 0, 4), (6134, 2, 3), (6137, 0, 2), (6141, 0, 3), (6157, 2, 0), (6160, 2, 1), (6163, 2, 2), (6199, 0, 7), (6203, 0, 8), (6210, 0, 13), (7007, 7, 1), (7013, 7, 2), (7016, 7, 3), (7019, 7, 4), (7022, 7, 5), (7025, 7, 6), (7029, 7, 7), (7032, 7, 8), (7035, 7, 9), (7038, 7, 10), (7042, 7, 11), (7045, 7, 12), (7048, 7, 13), (7051, 7, 14), (7054, 7, 15), (7057, 7, 16), (7060, 7, 17), (7063, 7, 18), (7066, 7, 19), (7069, 7, 20), (7072, 7, 22), (7075, 7, 24), (7078, 7, 25), (7081, 7, 26), (7084, 7, 27), (7087, 7, 28), (7090, 7, 34), (7093, 7, 36), (7096, 7, 37), (7099, 7, 38), (7102, 7, 39), (7105, 7, 40), (7108, 7, 41), (7115, 7, 0), (7127, 7, 23), (7132, 7, 21), (7192, 7, 29), (7195, 7, 30), (7218, 7, 33), (7222, 7, 31), (7225, 7, 32), (7235, 7, 35)]
def pm_ml : List (Nat × Nat) := [(11, 19), (67, 3), (74, 21), (78, 142), (1023, 16), (1027, 144), (3009, 143), (3032, 22), (4047, 3), (4057, 48), (4060, 26), (4064, 27), (4067, 30), (4070, 34), (4074, 29), (4077, 31), (4081, 33), (4084, 35), (4087, 40), (4090, 41), (4093, 42), (4115, 6), (4119, 28), (4135, 7), (4146, 18), (4152, 32), (4156, 143), (4162, 20), (4166, 36), (4169, 37), (4172, 38), (4175, 39), (4178, 13), (4179, 15), (4183, 14), (4192, 43), (5035, 45), (5039, 5), (5045, 20), (5048, 50), (5052, 51), (5059, 53), (5063, 54), (5067, 8), (5070, 9), (5073, 52), (5079, 49), (6039, 74), (6043, 76), (6048, 1), (6052, 6), (6056, 75), (6067, 20), (6079, 7), (6083, 82), (6086, 5), (6094, 81), (6097, 46), (6104, 47), (6108, 78), (6111, 80), (6114, 2), (6122, 84), (6148, 22), (6153, 23), (6166, 11), (6169, 10), (6173, 45), (6174, 48), (6181, 77), (6186, 79), (6189, 83), (6192, 85), (6196, 4), (6206, 25), (7111, 141), (7119, 87), (7123, 88), (7136, 89), (7140, 103), (7144, 91), (7147, 97), (7151, 100), (7155, 110), (7159, 112), (7162, 113), (7166, 114), (7169, 115), (7172, 116), (7175, 119), (7178, 101), (7181, 104), (7185, 105), (7188, 122), (7198, 109), (7201, 106), (7205, 102), (7209, 107), (7212, 111), (7215, 108), (7228, 117), (7231, 118), (7238, 120), (7241, 124), (7245, 127), (7248, 123), (7251, 126), (7255, 125), (7258, 121), (7261, 90), (7264, 99), (7272, 131), (7275, 133), (8009, 55), (8012, 86), (8013, 56), (8017, 92), (8020, 57), (8024, 93), (8025, 58), (8028, 94), (8029, 59), (8033, 95), (8034, 60), (8038, 96), (8039, 61), (8043, 98), (8044, 62), (8048, 128), (8049, 63), (8053, 129), (8054, 64), (8057, 130), (8058, 65), (8062, 132), (8063, 66), (8067, 134), (8068, 67), (8071, 135), (8072, 68), (8075, 136), (8076, 69), (8079, 137), (8080, 70), (8083, 138), (8084, 71), (8087, 139), (8088, 72), (8091, 140), (8092, 73), (8096, 141)]
/-- where Object's constructor is called -/
def pm_mo : List Nat := [3, 1003, 2003, 3003, 4003, 5003, 6001, 7001]
/-- calls of a nest mate's private method -/
def pm_nl : List (Nat × Nat) := [(32, 17), (4011, 44), (4025, 12), (4108, 49), (6017, 24), (6177, 49), (6185, 0)]
def pm_lc : List (Nat × Nat) := [(8007, 6), (6009, 0), (6015, 4), (4009, 5), (4023, 1), (9, 3), (30, 2), (8010, 7)]
/-- where the rows of rows are made -/
def pm_mul : Nat := 4018
def pm_kc : List (Nat × Int32) := [(6042, -1000001), (6047, -1000002), (6126, -1000003), (6152, -1000004), (7130, -1000001), (7131, -1000002), (7139, -1000004), (7267, -1000003)]
def pm_kl : List (Nat × Int64) := [(6144, -1000001), (6146, -1000003), (9314, 6148914691236517205), (9316, 3689348814741910323), (9318, 1085102592571150095), (7268, -1000001), (7270, -1000003), (8018, 4294967295)]
