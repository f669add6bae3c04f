section
-- ===== PART A: goes FIRST, ahead of the names: the tables' words, and 'selects' of the private methods out of them =====
/-- a private method of a class that the tables say can be made, by its rows of tables_1 -/
def lw_okq (q : MethodName × Nat) : Prop := (q.1.cls ≠ "java/lang/invoke/MethodHandle" ∧ q.1.cls ≠ "java/lang/invoke/VarHandle") ∧ Cond.instantiable q.1.cls q.2 ∈ tables_1 ∧ Cond.privateMethod q.1 ∈ tables_1 ∧ Cond.instanceMethod q.1 ∈ tables_1
theorem lw_p0 : lw_okq (⟨"NeverMistaken", "lineAt", "(I)LNeverMistaken$Line;"⟩, 14) := ⟨⟨by decide +kernel, by decide +kernel⟩, List.mem_of_getElem? (i := 16) (by decide +kernel), List.mem_of_getElem? (i := 299) (by decide +kernel), List.mem_of_getElem? (i := 300) (by decide +kernel)⟩
theorem lw_p1 : lw_okq (⟨"NeverMistaken$Text", "blameIf", "(ZII)V"⟩, 4) := ⟨⟨by decide +kernel, by decide +kernel⟩, List.mem_of_getElem? (i := 41) (by decide +kernel), List.mem_of_getElem? (i := 347) (by decide +kernel), List.mem_of_getElem? (i := 348) (by decide +kernel)⟩
theorem lw_p2 : lw_okq (⟨"NeverMistaken$Text", "close", "(I)V"⟩, 4) := ⟨⟨by decide +kernel, by decide +kernel⟩, List.mem_of_getElem? (i := 41) (by decide +kernel), List.mem_of_getElem? (i := 351) (by decide +kernel), List.mem_of_getElem? (i := 352) (by decide +kernel)⟩
theorem lw_p3 : lw_okq (⟨"NeverMistaken$Codes", "lengthen", "(LNeverMistaken$Line;)V"⟩, 5) := ⟨⟨by decide +kernel, by decide +kernel⟩, List.mem_of_getElem? (i := 66) (by decide +kernel), List.mem_of_getElem? (i := 432) (by decide +kernel), List.mem_of_getElem? (i := 433) (by decide +kernel)⟩
theorem lw_p4 : lw_okq (⟨"NeverMistaken$Codes", "allWords", "()J"⟩, 5) := ⟨⟨by decide +kernel, by decide +kernel⟩, List.mem_of_getElem? (i := 66) (by decide +kernel), List.mem_of_getElem? (i := 444) (by decide +kernel), List.mem_of_getElem? (i := 445) (by decide +kernel)⟩
theorem lw_p5 : lw_okq (⟨"NeverMistaken$Codes", "explore", "(JJI)V"⟩, 5) := ⟨⟨by decide +kernel, by decide +kernel⟩, List.mem_of_getElem? (i := 66) (by decide +kernel), List.mem_of_getElem? (i := 449) (by decide +kernel), List.mem_of_getElem? (i := 450) (by decide +kernel)⟩
theorem lw_p6 : lw_okq (⟨"NeverMistaken$Codes", "needed", "(J)J"⟩, 5) := ⟨⟨by decide +kernel, by decide +kernel⟩, List.mem_of_getElem? (i := 66) (by decide +kernel), List.mem_of_getElem? (i := 453) (by decide +kernel), List.mem_of_getElem? (i := 454) (by decide +kernel)⟩
theorem lw_p7 : lw_okq (⟨"NeverMistaken$Codes", "canBeSpared", "(IJ)Z"⟩, 5) := ⟨⟨by decide +kernel, by decide +kernel⟩, List.mem_of_getElem? (i := 66) (by decide +kernel), List.mem_of_getElem? (i := 467) (by decide +kernel), List.mem_of_getElem? (i := 468) (by decide +kernel)⟩
theorem lw_p8 : lw_okq (⟨"NeverMistaken$Codes", "loneWords", "(J)J"⟩, 5) := ⟨⟨by decide +kernel, by decide +kernel⟩, List.mem_of_getElem? (i := 66) (by decide +kernel), List.mem_of_getElem? (i := 471) (by decide +kernel), List.mem_of_getElem? (i := 472) (by decide +kernel)⟩
theorem lw_p9 : lw_okq (⟨"NeverMistaken$Codes", "groups", "(J)I"⟩, 5) := ⟨⟨by decide +kernel, by decide +kernel⟩, List.mem_of_getElem? (i := 66) (by decide +kernel), List.mem_of_getElem? (i := 475) (by decide +kernel), List.mem_of_getElem? (i := 476) (by decide +kernel)⟩
theorem lw_p10 : lw_okq (⟨"NeverMistaken$Codes", "busiest", "(J)I"⟩, 5) := ⟨⟨by decide +kernel, by decide +kernel⟩, List.mem_of_getElem? (i := 66) (by decide +kernel), List.mem_of_getElem? (i := 479) (by decide +kernel), List.mem_of_getElem? (i := 480) (by decide +kernel)⟩
theorem lw_p11 : lw_okq (⟨"NeverMistaken$Codes", "reaches", "(JJ)Z"⟩, 5) := ⟨⟨by decide +kernel, by decide +kernel⟩, List.mem_of_getElem? (i := 66) (by decide +kernel), List.mem_of_getElem? (i := 487) (by decide +kernel), List.mem_of_getElem? (i := 488) (by decide +kernel)⟩
theorem lw_p12 : lw_okq (⟨"NeverMistaken$Codes", "tally", "(JI)J"⟩, 5) := ⟨⟨by decide +kernel, by decide +kernel⟩, List.mem_of_getElem? (i := 66) (by decide +kernel), List.mem_of_getElem? (i := 507) (by decide +kernel), List.mem_of_getElem? (i := 508) (by decide +kernel)⟩
theorem lw_p13 : lw_okq (⟨"NeverMistaken$Codes", "standsApart", "(JJ)Z"⟩, 5) := ⟨⟨by decide +kernel, by decide +kernel⟩, List.mem_of_getElem? (i := 66) (by decide +kernel), List.mem_of_getElem? (i := 511) (by decide +kernel), List.mem_of_getElem? (i := 512) (by decide +kernel)⟩
theorem lw_p14 : lw_okq (⟨"NeverMistaken", "fewestHeaps", "(LNeverMistaken$Line;)I"⟩, 14) := ⟨⟨by decide +kernel, by decide +kernel⟩, List.mem_of_getElem? (i := 16) (by decide +kernel), List.mem_of_getElem? (i := 527) (by decide +kernel), List.mem_of_getElem? (i := 528) (by decide +kernel)⟩
theorem lw_p15 : lw_okq (⟨"NeverMistaken$Cover", "fill", "(III)Z"⟩, 6) := ⟨⟨by decide +kernel, by decide +kernel⟩, List.mem_of_getElem? (i := 89) (by decide +kernel), List.mem_of_getElem? (i := 543) (by decide +kernel), List.mem_of_getElem? (i := 544) (by decide +kernel)⟩
def lw_privs_1 : List (MethodName × Nat) := [(⟨"NeverMistaken", "lineAt", "(I)LNeverMistaken$Line;"⟩, 14), (⟨"NeverMistaken$Text", "blameIf", "(ZII)V"⟩, 4), (⟨"NeverMistaken$Text", "close", "(I)V"⟩, 4), (⟨"NeverMistaken$Codes", "lengthen", "(LNeverMistaken$Line;)V"⟩, 5), (⟨"NeverMistaken$Codes", "allWords", "()J"⟩, 5), (⟨"NeverMistaken$Codes", "explore", "(JJI)V"⟩, 5), (⟨"NeverMistaken$Codes", "needed", "(J)J"⟩, 5), (⟨"NeverMistaken$Codes", "canBeSpared", "(IJ)Z"⟩, 5), (⟨"NeverMistaken$Codes", "loneWords", "(J)J"⟩, 5), (⟨"NeverMistaken$Codes", "groups", "(J)I"⟩, 5), (⟨"NeverMistaken$Codes", "busiest", "(J)I"⟩, 5), (⟨"NeverMistaken$Codes", "reaches", "(JJ)Z"⟩, 5), (⟨"NeverMistaken$Codes", "tally", "(JI)J"⟩, 5), (⟨"NeverMistaken$Codes", "standsApart", "(JJ)Z"⟩, 5), (⟨"NeverMistaken", "fewestHeaps", "(LNeverMistaken$Line;)I"⟩, 14), (⟨"NeverMistaken$Cover", "fill", "(III)Z"⟩, 6)]
theorem lw_r1 : ∀ q ∈ lw_privs_1, lw_okq q := List.forall_mem_cons.mpr ⟨lw_p0, List.forall_mem_cons.mpr ⟨lw_p1, List.forall_mem_cons.mpr ⟨lw_p2, List.forall_mem_cons.mpr ⟨lw_p3, List.forall_mem_cons.mpr ⟨lw_p4, List.forall_mem_cons.mpr ⟨lw_p5, List.forall_mem_cons.mpr ⟨lw_p6, List.forall_mem_cons.mpr ⟨lw_p7, List.forall_mem_cons.mpr ⟨lw_p8, List.forall_mem_cons.mpr ⟨lw_p9, List.forall_mem_cons.mpr ⟨lw_p10, List.forall_mem_cons.mpr ⟨lw_p11, List.forall_mem_cons.mpr ⟨lw_p12, List.forall_mem_cons.mpr ⟨lw_p13, List.forall_mem_cons.mpr ⟨lw_p14, List.forall_mem_cons.mpr ⟨lw_p15, fun _ h => absurd h List.not_mem_nil⟩⟩⟩⟩⟩⟩⟩⟩⟩⟩⟩⟩⟩⟩⟩⟩
theorem lw_p16 : lw_okq (⟨"NeverMistaken$Cover", "hasRoom", "(II)Z"⟩, 6) := ⟨⟨by decide +kernel, by decide +kernel⟩, List.mem_of_getElem? (i := 89) (by decide +kernel), List.mem_of_getElem? (i := 547) (by decide +kernel), List.mem_of_getElem? (i := 548) (by decide +kernel)⟩
theorem lw_p17 : lw_okq (⟨"NeverMistaken$Cover", "loneliest", "(II)I"⟩, 6) := ⟨⟨by decide +kernel, by decide +kernel⟩, List.mem_of_getElem? (i := 89) (by decide +kernel), List.mem_of_getElem? (i := 553) (by decide +kernel), List.mem_of_getElem? (i := 554) (by decide +kernel)⟩
theorem lw_p18 : lw_okq (⟨"NeverMistaken$Cover", "add", "(II)V"⟩, 6) := ⟨⟨by decide +kernel, by decide +kernel⟩, List.mem_of_getElem? (i := 89) (by decide +kernel), List.mem_of_getElem? (i := 557) (by decide +kernel), List.mem_of_getElem? (i := 558) (by decide +kernel)⟩
theorem lw_p19 : lw_okq (⟨"NeverMistaken$Cover", "layRow", "([II)V"⟩, 6) := ⟨⟨by decide +kernel, by decide +kernel⟩, List.mem_of_getElem? (i := 89) (by decide +kernel), List.mem_of_getElem? (i := 565) (by decide +kernel), List.mem_of_getElem? (i := 566) (by decide +kernel)⟩
theorem lw_p20 : lw_okq (⟨"NeverMistaken$Rows", "offer", "(III)V"⟩, 3) := ⟨⟨by decide +kernel, by decide +kernel⟩, List.mem_of_getElem? (i := 114) (by decide +kernel), List.mem_of_getElem? (i := 598) (by decide +kernel), List.mem_of_getElem? (i := 599) (by decide +kernel)⟩
theorem lw_p21 : lw_okq (⟨"NeverMistaken$Rows", "cut", "()V"⟩, 3) := ⟨⟨by decide +kernel, by decide +kernel⟩, List.mem_of_getElem? (i := 114) (by decide +kernel), List.mem_of_getElem? (i := 602) (by decide +kernel), List.mem_of_getElem? (i := 603) (by decide +kernel)⟩
theorem lw_p22 : lw_okq (⟨"NeverMistaken", "findBest", "(LNeverMistaken$Line;)V"⟩, 14) := ⟨⟨by decide +kernel, by decide +kernel⟩, List.mem_of_getElem? (i := 16) (by decide +kernel), List.mem_of_getElem? (i := 622) (by decide +kernel), List.mem_of_getElem? (i := 623) (by decide +kernel)⟩
theorem lw_p23 : lw_okq (⟨"NeverMistaken", "couldMake", "(LNeverMistaken$Line;I)Z"⟩, 14) := ⟨⟨by decide +kernel, by decide +kernel⟩, List.mem_of_getElem? (i := 16) (by decide +kernel), List.mem_of_getElem? (i := 647) (by decide +kernel), List.mem_of_getElem? (i := 648) (by decide +kernel)⟩
theorem lw_p24 : lw_okq (⟨"NeverMistaken$Lists", "search", "(IJJI)I"⟩, 3) := ⟨⟨by decide +kernel, by decide +kernel⟩, List.mem_of_getElem? (i := 154) (by decide +kernel), List.mem_of_getElem? (i := 668) (by decide +kernel), List.mem_of_getElem? (i := 669) (by decide +kernel)⟩
theorem lw_p25 : lw_okq (⟨"NeverMistakenModel", "lay", "(I)V"⟩, 31) := ⟨⟨by decide +kernel, by decide +kernel⟩, List.mem_of_getElem? (i := 682) (by decide +kernel), List.mem_of_getElem? (i := 787) (by decide +kernel), List.mem_of_getElem? (i := 788) (by decide +kernel)⟩
theorem lw_p26 : lw_okq (⟨"NeverMistakenModel", "anew", "(III)V"⟩, 31) := ⟨⟨by decide +kernel, by decide +kernel⟩, List.mem_of_getElem? (i := 682) (by decide +kernel), List.mem_of_getElem? (i := 807) (by decide +kernel), List.mem_of_getElem? (i := 808) (by decide +kernel)⟩
theorem lw_p27 : lw_okq (⟨"NeverMistakenModel", "noRows", "(I)V"⟩, 31) := ⟨⟨by decide +kernel, by decide +kernel⟩, List.mem_of_getElem? (i := 682) (by decide +kernel), List.mem_of_getElem? (i := 811) (by decide +kernel), List.mem_of_getElem? (i := 812) (by decide +kernel)⟩
theorem lw_p28 : lw_okq (⟨"NeverMistakenModel", "isLetter", "(II)Z"⟩, 31) := ⟨⟨by decide +kernel, by decide +kernel⟩, List.mem_of_getElem? (i := 682) (by decide +kernel), List.mem_of_getElem? (i := 819) (by decide +kernel), List.mem_of_getElem? (i := 820) (by decide +kernel)⟩
theorem lw_p29 : lw_okq (⟨"NeverMistakenModel", "areNear", "(III)Z"⟩, 31) := ⟨⟨by decide +kernel, by decide +kernel⟩, List.mem_of_getElem? (i := 682) (by decide +kernel), List.mem_of_getElem? (i := 823) (by decide +kernel), List.mem_of_getElem? (i := 824) (by decide +kernel)⟩
theorem lw_p30 : lw_okq (⟨"NeverMistakenModel", "join", "(III)V"⟩, 31) := ⟨⟨by decide +kernel, by decide +kernel⟩, List.mem_of_getElem? (i := 682) (by decide +kernel), List.mem_of_getElem? (i := 832) (by decide +kernel), List.mem_of_getElem? (i := 833) (by decide +kernel)⟩
theorem lw_p31 : lw_okq (⟨"NeverMistakenModel", "wrong", "(II)I"⟩, 31) := ⟨⟨by decide +kernel, by decide +kernel⟩, List.mem_of_getElem? (i := 682) (by decide +kernel), List.mem_of_getElem? (i := 840) (by decide +kernel), List.mem_of_getElem? (i := 841) (by decide +kernel)⟩
def lw_privs_2 : List (MethodName × Nat) := [(⟨"NeverMistaken$Cover", "hasRoom", "(II)Z"⟩, 6), (⟨"NeverMistaken$Cover", "loneliest", "(II)I"⟩, 6), (⟨"NeverMistaken$Cover", "add", "(II)V"⟩, 6), (⟨"NeverMistaken$Cover", "layRow", "([II)V"⟩, 6), (⟨"NeverMistaken$Rows", "offer", "(III)V"⟩, 3), (⟨"NeverMistaken$Rows", "cut", "()V"⟩, 3), (⟨"NeverMistaken", "findBest", "(LNeverMistaken$Line;)V"⟩, 14), (⟨"NeverMistaken", "couldMake", "(LNeverMistaken$Line;I)Z"⟩, 14), (⟨"NeverMistaken$Lists", "search", "(IJJI)I"⟩, 3), (⟨"NeverMistakenModel", "lay", "(I)V"⟩, 31), (⟨"NeverMistakenModel", "anew", "(III)V"⟩, 31), (⟨"NeverMistakenModel", "noRows", "(I)V"⟩, 31), (⟨"NeverMistakenModel", "isLetter", "(II)Z"⟩, 31), (⟨"NeverMistakenModel", "areNear", "(III)Z"⟩, 31), (⟨"NeverMistakenModel", "join", "(III)V"⟩, 31), (⟨"NeverMistakenModel", "wrong", "(II)I"⟩, 31)]
theorem lw_r2 : ∀ q ∈ lw_privs_2, lw_okq q := List.forall_mem_cons.mpr ⟨lw_p16, List.forall_mem_cons.mpr ⟨lw_p17, List.forall_mem_cons.mpr ⟨lw_p18, List.forall_mem_cons.mpr ⟨lw_p19, List.forall_mem_cons.mpr ⟨lw_p20, List.forall_mem_cons.mpr ⟨lw_p21, List.forall_mem_cons.mpr ⟨lw_p22, List.forall_mem_cons.mpr ⟨lw_p23, List.forall_mem_cons.mpr ⟨lw_p24, List.forall_mem_cons.mpr ⟨lw_p25, List.forall_mem_cons.mpr ⟨lw_p26, List.forall_mem_cons.mpr ⟨lw_p27, List.forall_mem_cons.mpr ⟨lw_p28, List.forall_mem_cons.mpr ⟨lw_p29, List.forall_mem_cons.mpr ⟨lw_p30, List.forall_mem_cons.mpr ⟨lw_p31, fun _ h => absurd h List.not_mem_nil⟩⟩⟩⟩⟩⟩⟩⟩⟩⟩⟩⟩⟩⟩⟩⟩
theorem lw_p32 : lw_okq (⟨"NeverMistakenModel", "isLike", "(III)Z"⟩, 31) := ⟨⟨by decide +kernel, by decide +kernel⟩, List.mem_of_getElem? (i := 682) (by decide +kernel), List.mem_of_getElem? (i := 852) (by decide +kernel), List.mem_of_getElem? (i := 853) (by decide +kernel)⟩
theorem lw_p33 : lw_okq (⟨"NeverMistakenModel", "put", "(II)I"⟩, 31) := ⟨⟨by decide +kernel, by decide +kernel⟩, List.mem_of_getElem? (i := 682) (by decide +kernel), List.mem_of_getElem? (i := 856) (by decide +kernel), List.mem_of_getElem? (i := 857) (by decide +kernel)⟩
theorem lw_p34 : lw_okq (⟨"NeverMistakenModel", "areTaken", "(IIII)Z"⟩, 31) := ⟨⟨by decide +kernel, by decide +kernel⟩, List.mem_of_getElem? (i := 682) (by decide +kernel), List.mem_of_getElem? (i := 883) (by decide +kernel), List.mem_of_getElem? (i := 884) (by decide +kernel)⟩
theorem lw_p35 : lw_okq (⟨"NeverMistakenModel", "spell", "(III)Z"⟩, 31) := ⟨⟨by decide +kernel, by decide +kernel⟩, List.mem_of_getElem? (i := 682) (by decide +kernel), List.mem_of_getElem? (i := 891) (by decide +kernel), List.mem_of_getElem? (i := 892) (by decide +kernel)⟩
theorem lw_p36 : lw_okq (⟨"NeverMistakenModel", "all", "()J"⟩, 31) := ⟨⟨by decide +kernel, by decide +kernel⟩, List.mem_of_getElem? (i := 682) (by decide +kernel), List.mem_of_getElem? (i := 895) (by decide +kernel), List.mem_of_getElem? (i := 896) (by decide +kernel)⟩
theorem lw_p37 : lw_okq (⟨"NeverMistakenModel", "largest", "(J)I"⟩, 31) := ⟨⟨by decide +kernel, by decide +kernel⟩, List.mem_of_getElem? (i := 682) (by decide +kernel), List.mem_of_getElem? (i := 900) (by decide +kernel), List.mem_of_getElem? (i := 901) (by decide +kernel)⟩
theorem lw_p38 : lw_okq (⟨"NeverMistakenModel", "cover", "(JI)I"⟩, 31) := ⟨⟨by decide +kernel, by decide +kernel⟩, List.mem_of_getElem? (i := 682) (by decide +kernel), List.mem_of_getElem? (i := 904) (by decide +kernel), List.mem_of_getElem? (i := 905) (by decide +kernel)⟩
theorem lw_p39 : lw_okq (⟨"NeverMistakenModel", "reaches", "(JI)Z"⟩, 31) := ⟨⟨by decide +kernel, by decide +kernel⟩, List.mem_of_getElem? (i := 682) (by decide +kernel), List.mem_of_getElem? (i := 911) (by decide +kernel), List.mem_of_getElem? (i := 912) (by decide +kernel)⟩
theorem lw_p40 : lw_okq (⟨"NeverMistakenModel", "waysOf", "(JI)I"⟩, 31) := ⟨⟨by decide +kernel, by decide +kernel⟩, List.mem_of_getElem? (i := 682) (by decide +kernel), List.mem_of_getElem? (i := 923) (by decide +kernel), List.mem_of_getElem? (i := 924) (by decide +kernel)⟩
theorem lw_p41 : lw_okq (⟨"NeverMistakenModel", "heapsOf", "(I)I"⟩, 31) := ⟨⟨by decide +kernel, by decide +kernel⟩, List.mem_of_getElem? (i := 682) (by decide +kernel), List.mem_of_getElem? (i := 931) (by decide +kernel), List.mem_of_getElem? (i := 932) (by decide +kernel)⟩
theorem lw_p42 : lw_okq (⟨"NeverMistakenModel", "heapFrom", "(IIII)Z"⟩, 31) := ⟨⟨by decide +kernel, by decide +kernel⟩, List.mem_of_getElem? (i := 682) (by decide +kernel), List.mem_of_getElem? (i := 935) (by decide +kernel), List.mem_of_getElem? (i := 936) (by decide +kernel)⟩
theorem lw_p43 : lw_okq (⟨"NeverMistakenModel", "lonely", "(IIII)I"⟩, 31) := ⟨⟨by decide +kernel, by decide +kernel⟩, List.mem_of_getElem? (i := 682) (by decide +kernel), List.mem_of_getElem? (i := 939) (by decide +kernel), List.mem_of_getElem? (i := 940) (by decide +kernel)⟩
theorem lw_p44 : lw_okq (⟨"NeverMistakenModel", "product", "(III)I"⟩, 31) := ⟨⟨by decide +kernel, by decide +kernel⟩, List.mem_of_getElem? (i := 682) (by decide +kernel), List.mem_of_getElem? (i := 962) (by decide +kernel), List.mem_of_getElem? (i := 963) (by decide +kernel)⟩
theorem lw_p45 : lw_okq (⟨"NeverMistakenModel", "findBound", "(I)V"⟩, 31) := ⟨⟨by decide +kernel, by decide +kernel⟩, List.mem_of_getElem? (i := 682) (by decide +kernel), List.mem_of_getElem? (i := 972) (by decide +kernel), List.mem_of_getElem? (i := 973) (by decide +kernel)⟩
theorem lw_p46 : lw_okq (⟨"NeverMistakenModel", "heldRates", "(IIII)I"⟩, 31) := ⟨⟨by decide +kernel, by decide +kernel⟩, List.mem_of_getElem? (i := 682) (by decide +kernel), List.mem_of_getElem? (i := 982) (by decide +kernel), List.mem_of_getElem? (i := 983) (by decide +kernel)⟩
theorem lw_p47 : lw_okq (⟨"NeverMistakenModel", "held", "()I"⟩, 31) := ⟨⟨by decide +kernel, by decide +kernel⟩, List.mem_of_getElem? (i := 682) (by decide +kernel), List.mem_of_getElem? (i := 990) (by decide +kernel), List.mem_of_getElem? (i := 991) (by decide +kernel)⟩
def lw_privs_3 : List (MethodName × Nat) := [(⟨"NeverMistakenModel", "isLike", "(III)Z"⟩, 31), (⟨"NeverMistakenModel", "put", "(II)I"⟩, 31), (⟨"NeverMistakenModel", "areTaken", "(IIII)Z"⟩, 31), (⟨"NeverMistakenModel", "spell", "(III)Z"⟩, 31), (⟨"NeverMistakenModel", "all", "()J"⟩, 31), (⟨"NeverMistakenModel", "largest", "(J)I"⟩, 31), (⟨"NeverMistakenModel", "cover", "(JI)I"⟩, 31), (⟨"NeverMistakenModel", "reaches", "(JI)Z"⟩, 31), (⟨"NeverMistakenModel", "waysOf", "(JI)I"⟩, 31), (⟨"NeverMistakenModel", "heapsOf", "(I)I"⟩, 31), (⟨"NeverMistakenModel", "heapFrom", "(IIII)Z"⟩, 31), (⟨"NeverMistakenModel", "lonely", "(IIII)I"⟩, 31), (⟨"NeverMistakenModel", "product", "(III)I"⟩, 31), (⟨"NeverMistakenModel", "findBound", "(I)V"⟩, 31), (⟨"NeverMistakenModel", "heldRates", "(IIII)I"⟩, 31), (⟨"NeverMistakenModel", "held", "()I"⟩, 31)]
theorem lw_r3 : ∀ q ∈ lw_privs_3, lw_okq q := List.forall_mem_cons.mpr ⟨lw_p32, List.forall_mem_cons.mpr ⟨lw_p33, List.forall_mem_cons.mpr ⟨lw_p34, List.forall_mem_cons.mpr ⟨lw_p35, List.forall_mem_cons.mpr ⟨lw_p36, List.forall_mem_cons.mpr ⟨lw_p37, List.forall_mem_cons.mpr ⟨lw_p38, List.forall_mem_cons.mpr ⟨lw_p39, List.forall_mem_cons.mpr ⟨lw_p40, List.forall_mem_cons.mpr ⟨lw_p41, List.forall_mem_cons.mpr ⟨lw_p42, List.forall_mem_cons.mpr ⟨lw_p43, List.forall_mem_cons.mpr ⟨lw_p44, List.forall_mem_cons.mpr ⟨lw_p45, List.forall_mem_cons.mpr ⟨lw_p46, List.forall_mem_cons.mpr ⟨lw_p47, fun _ h => absurd h List.not_mem_nil⟩⟩⟩⟩⟩⟩⟩⟩⟩⟩⟩⟩⟩⟩⟩⟩
theorem lw_p48 : lw_okq (⟨"NeverMistakenModel", "bestOf", "(I)I"⟩, 31) := ⟨⟨by decide +kernel, by decide +kernel⟩, List.mem_of_getElem? (i := 682) (by decide +kernel), List.mem_of_getElem? (i := 998) (by decide +kernel), List.mem_of_getElem? (i := 999) (by decide +kernel)⟩
theorem lw_p49 : lw_okq (⟨"NeverMistakenModel", "isList", "(III)Z"⟩, 31) := ⟨⟨by decide +kernel, by decide +kernel⟩, List.mem_of_getElem? (i := 682) (by decide +kernel), List.mem_of_getElem? (i := 1018) (by decide +kernel), List.mem_of_getElem? (i := 1019) (by decide +kernel)⟩
def lw_privs_4 : List (MethodName × Nat) := [(⟨"NeverMistakenModel", "bestOf", "(I)I"⟩, 31), (⟨"NeverMistakenModel", "isList", "(III)Z"⟩, 31)]
theorem lw_r4 : ∀ q ∈ lw_privs_4, lw_okq q := List.forall_mem_cons.mpr ⟨lw_p48, List.forall_mem_cons.mpr ⟨lw_p49, fun _ h => absurd h List.not_mem_nil⟩⟩
def lw_privs : List (MethodName × Nat) := lw_privs_1 ++ (lw_privs_2 ++ (lw_privs_3 ++ (lw_privs_4)))
def lw_tbl : List Cond := k2_sels lw_privs ++ tables_1
theorem lw_privs_ok : ∀ q ∈ lw_privs, lw_okq q := by
  show ∀ q ∈ lw_privs_1 ++ (lw_privs_2 ++ (lw_privs_3 ++ (lw_privs_4))), lw_okq q
  exact List.forall_mem_append.mpr ⟨lw_r1, List.forall_mem_append.mpr ⟨lw_r2, List.forall_mem_append.mpr ⟨lw_r3, lw_r4⟩⟩⟩
end
section
def RX0 : String := "NeverMistaken$Code"
def TX0 : u_T := fun k => match k with
  | 0 => ("NeverMistaken$Code", "words", "[I", true)
  | 1 => ("NeverMistaken$Code", "size", "I", false)
  | 2 => ("NeverMistaken$Code", "length", "I", false)
  | 3 => ("NeverMistaken$Code", "line", "I", false)
  | _ => ("NeverMistaken$Code", "age", "I", false)
def tyX0 : Nat → FieldType := fun k => match k with
  | 0 => .array .int
  | 1 => .int
  | 2 => .int
  | 3 => .int
  | _ => .int
abbrev wsX00 : List Cond := u_ws RX0 TX0 5
theorem nmX0 : ∀ a, a < 5 → ∀ b, b < 5 → a ≠ b → (TX0 a).2.1 ≠ (TX0 b).2.1 := by decide +kernel
theorem tyX0_ok : ∀ k, k < 5 → parseFieldDescriptor (TX0 k).2.2.1 = some (tyX0 k) := by decide +kernel
abbrev cX0_init : ByteArray := prog_2_method_1_code
def yX0_init : MethodName := ⟨RX0, "<init>", "()V"⟩
abbrev cX0_keep : ByteArray := prog_2_method_2_code
def yX0_keep : MethodName := ⟨RX0, "keep", "(JIII)V"⟩
def RX1 : String := "NeverMistaken$Codes"
def TX1 : u_T := fun k => match k with
  | 0 => ("NeverMistaken$Codes", "near", "[J", true)
  | 1 => ("NeverMistaken$Codes", "words", "I", false)
  | 2 => ("NeverMistaken$Codes", "found", "J", false)
  | 3 => ("NeverMistaken$Codes", "size", "I", false)
  | _ => ("NeverMistaken$Codes", "enough", "I", false)
def tyX1 : Nat → FieldType := fun k => match k with
  | 0 => .array .long
  | 1 => .int
  | 2 => .long
  | 3 => .int
  | _ => .int
abbrev wsX10 : List Cond := u_ws RX1 TX1 5
theorem nmX1 : ∀ a, a < 5 → ∀ b, b < 5 → a ≠ b → (TX1 a).2.1 ≠ (TX1 b).2.1 := by decide +kernel
theorem tyX1_ok : ∀ k, k < 5 → parseFieldDescriptor (TX1 k).2.2.1 = some (tyX1 k) := by decide +kernel
abbrev cX1_init : ByteArray := prog_3_method_1_code
def yX1_init : MethodName := ⟨RX1, "<init>", "()V"⟩
abbrev cX1_lay : ByteArray := prog_3_method_2_code
def yX1_lay : MethodName := ⟨RX1, "lay", "(LNeverMistaken$Line;I)V"⟩
abbrev cX1_layFar : ByteArray := prog_3_method_3_code
def yX1_layFar : MethodName := ⟨RX1, "layFar", "(LNeverMistaken$Line;)V"⟩
abbrev cX1_lengthen : ByteArray := prog_3_method_4_code
def yX1_lengthen : MethodName := ⟨RX1, "lengthen", "(LNeverMistaken$Line;)V"⟩
abbrev cX1_allWords : ByteArray := prog_3_method_5_code
def yX1_allWords : MethodName := ⟨RX1, "allWords", "()J"⟩
abbrev cX1_findLargest : ByteArray := prog_3_method_6_code
def yX1_findLargest : MethodName := ⟨RX1, "findLargest", "()I"⟩
abbrev cX1_leastLargest : ByteArray := prog_3_method_7_code
def yX1_leastLargest : MethodName := ⟨RX1, "leastLargest", "()J"⟩
abbrev cX1_reaches : ByteArray := prog_3_method_8_code
def yX1_reaches : MethodName := ⟨RX1, "reaches", "(JJ)Z"⟩
abbrev cX1_explore : ByteArray := prog_3_method_9_code
def yX1_explore : MethodName := ⟨RX1, "explore", "(JJI)V"⟩
abbrev cX1_needed : ByteArray := prog_3_method_10_code
def yX1_needed : MethodName := ⟨RX1, "needed", "(J)J"⟩
abbrev cX1_canBeSpared : ByteArray := prog_3_method_11_code
def yX1_canBeSpared : MethodName := ⟨RX1, "canBeSpared", "(IJ)Z"⟩
abbrev cX1_loneWords : ByteArray := prog_3_method_12_code
def yX1_loneWords : MethodName := ⟨RX1, "loneWords", "(J)J"⟩
abbrev cX1_groups : ByteArray := prog_3_method_13_code
def yX1_groups : MethodName := ⟨RX1, "groups", "(J)I"⟩
abbrev cX1_busiest : ByteArray := prog_3_method_14_code
def yX1_busiest : MethodName := ⟨RX1, "busiest", "(J)I"⟩
abbrev cX1_countLargest : ByteArray := prog_3_method_15_code
def yX1_countLargest : MethodName := ⟨RX1, "countLargest", "()I"⟩
abbrev cX1_tally : ByteArray := prog_3_method_16_code
def yX1_tally : MethodName := ⟨RX1, "tally", "(JI)J"⟩
abbrev cX1_standsApart : ByteArray := prog_3_method_17_code
def yX1_standsApart : MethodName := ⟨RX1, "standsApart", "(JJ)Z"⟩
abbrev cX1_joinTallies : ByteArray := prog_3_method_18_code
def yX1_joinTallies : MethodName := ⟨RX1, "joinTallies", "(JJ)J"⟩
def RX2 : String := "NeverMistaken$Cover"
def TX2 : u_T := fun k => match k with
  | 0 => ("NeverMistaken$Cover", "near", "[I", true)
  | 1 => ("NeverMistaken$Cover", "fits", "[I", true)
  | 2 => ("NeverMistaken$Cover", "held", "[I", true)
  | 3 => ("NeverMistaken$Cover", "letters", "I", false)
  | 4 => ("NeverMistaken$Cover", "limit", "I", false)
  | _ => ("NeverMistaken$Cover", "widest", "I", false)
def tyX2 : Nat → FieldType := fun k => match k with
  | 0 => .array .int
  | 1 => .array .int
  | 2 => .array .int
  | 3 => .int
  | 4 => .int
  | _ => .int
abbrev wsX20 : List Cond := u_ws RX2 TX2 6
theorem nmX2 : ∀ a, a < 6 → ∀ b, b < 6 → a ≠ b → (TX2 a).2.1 ≠ (TX2 b).2.1 := by decide +kernel
theorem tyX2_ok : ∀ k, k < 6 → parseFieldDescriptor (TX2 k).2.2.1 = some (tyX2 k) := by decide +kernel
abbrev cX2_init : ByteArray := prog_4_method_1_code
def yX2_init : MethodName := ⟨RX2, "<init>", "()V"⟩
abbrev cX2_fewest : ByteArray := prog_4_method_2_code
def yX2_fewest : MethodName := ⟨RX2, "fewest", "(LNeverMistaken$Line;II)I"⟩
abbrev cX2_leastRow : ByteArray := prog_4_method_3_code
def yX2_leastRow : MethodName := ⟨RX2, "leastRow", "([I)V"⟩
abbrev cX2_layRow : ByteArray := prog_4_method_4_code
def yX2_layRow : MethodName := ⟨RX2, "layRow", "([II)V"⟩
abbrev cX2_add : ByteArray := prog_4_method_5_code
def yX2_add : MethodName := ⟨RX2, "add", "(II)V"⟩
abbrev cX2_fill : ByteArray := prog_4_method_6_code
def yX2_fill : MethodName := ⟨RX2, "fill", "(III)Z"⟩
abbrev cX2_hasRoom : ByteArray := prog_4_method_7_code
def yX2_hasRoom : MethodName := ⟨RX2, "hasRoom", "(II)Z"⟩
abbrev cX2_loneliest : ByteArray := prog_4_method_8_code
def yX2_loneliest : MethodName := ⟨RX2, "loneliest", "(II)I"⟩
def RX3 : String := "NeverMistaken$Line"
def TX3 : u_T := fun k => match k with
  | 0 => ("NeverMistaken$Line", "kind", "I", false)
  | 1 => ("NeverMistaken$Line", "letters", "I", false)
  | 2 => ("NeverMistaken$Line", "age", "I", false)
  | 3 => ("NeverMistaken$Line", "near", "[I", true)
  | 4 => ("NeverMistaken$Line", "signs", "[I", true)
  | _ => ("NeverMistaken$Line", "numbers", "[[I", true)
def tyX3 : Nat → FieldType := fun k => match k with
  | 0 => .int
  | 1 => .int
  | 2 => .int
  | 3 => .array .int
  | 4 => .array .int
  | _ => .array (.array .int)
abbrev wsX30 : List Cond := u_ws RX3 TX3 6
theorem nmX3 : ∀ a, a < 6 → ∀ b, b < 6 → a ≠ b → (TX3 a).2.1 ≠ (TX3 b).2.1 := by decide +kernel
theorem tyX3_ok : ∀ k, k < 6 → parseFieldDescriptor (TX3 k).2.2.1 = some (tyX3 k) := by decide +kernel
abbrev cX3_init : ByteArray := prog_5_method_1_code
def yX3_init : MethodName := ⟨RX3, "<init>", "()V"⟩
abbrev cX3_renew : ByteArray := prog_5_method_2_code
def yX3_renew : MethodName := ⟨RX3, "renew", "(II)V"⟩
abbrev cX3_clearRows : ByteArray := prog_5_method_3_code
def yX3_clearRows : MethodName := ⟨RX3, "clearRows", "()V"⟩
abbrev cX3_takeNear : ByteArray := prog_5_method_4_code
def yX3_takeNear : MethodName := ⟨RX3, "takeNear", "([I)V"⟩
abbrev cX3_takeSigns : ByteArray := prog_5_method_5_code
def yX3_takeSigns : MethodName := ⟨RX3, "takeSigns", "([I)V"⟩
abbrev cX3_has : ByteArray := prog_5_method_6_code
def yX3_has : MethodName := ⟨RX3, "has", "(I)Z"⟩
abbrev cX3_mistakes : ByteArray := prog_5_method_7_code
def yX3_mistakes : MethodName := ⟨RX3, "mistakes", "(II)Z"⟩
abbrev cX3_alike : ByteArray := prog_5_method_8_code
def yX3_alike : MethodName := ⟨RX3, "alike", "(II)Z"⟩
abbrev cX3_flip : ByteArray := prog_5_method_9_code
def yX3_flip : MethodName := ⟨RX3, "flip", "(II)V"⟩
abbrev cX3_pairs : ByteArray := prog_5_method_10_code
def yX3_pairs : MethodName := ⟨RX3, "pairs", "()I"⟩
abbrev cX3_signsInAll : ByteArray := prog_5_method_11_code
def yX3_signsInAll : MethodName := ⟨RX3, "signsInAll", "()I"⟩
def RX4 : String := "NeverMistaken$Lists"
def TX4 : u_T := fun k => match k with
  | 0 => ("NeverMistaken$Lists", "low", "[J", true)
  | 1 => ("NeverMistaken$Lists", "high", "[J", true)
  | _ => ("NeverMistaken$Lists", "reach", "[I", true)
def tyX4 : Nat → FieldType := fun k => match k with
  | 0 => .array .long
  | 1 => .array .long
  | _ => .array .int
abbrev wsX40 : List Cond := u_ws RX4 TX4 3
theorem nmX4 : ∀ a, a < 3 → ∀ b, b < 3 → a ≠ b → (TX4 a).2.1 ≠ (TX4 b).2.1 := by decide +kernel
theorem tyX4_ok : ∀ k, k < 3 → parseFieldDescriptor (TX4 k).2.2.1 = some (tyX4 k) := by decide +kernel
abbrev cX4_init : ByteArray := prog_6_method_1_code
def yX4_init : MethodName := ⟨RX4, "<init>", "()V"⟩
abbrev cX4_leastGreatest : ByteArray := prog_6_method_2_code
def yX4_leastGreatest : MethodName := ⟨RX4, "leastGreatest", "(LNeverMistaken$Line;I)I"⟩
abbrev cX4_spread : ByteArray := prog_6_method_3_code
def yX4_spread : MethodName := ⟨RX4, "spread", "(I)J"⟩
abbrev cX4_search : ByteArray := prog_6_method_4_code
def yX4_search : MethodName := ⟨RX4, "search", "(IJJI)I"⟩
def RX5 : String := "NeverMistaken$Powers"
def TX5 : u_T := fun k => match k with
  | 0 => ("NeverMistaken$Powers", "left", "[J", true)
  | 1 => ("NeverMistaken$Powers", "right", "[J", true)
  | 2 => ("NeverMistaken$Powers", "bestLength", "I", false)
  | _ => ("NeverMistaken$Powers", "bestSize", "I", false)
def tyX5 : Nat → FieldType := fun k => match k with
  | 0 => .array .long
  | 1 => .array .long
  | 2 => .int
  | _ => .int
abbrev wsX50 : List Cond := u_ws RX5 TX5 4
theorem nmX5 : ∀ a, a < 4 → ∀ b, b < 4 → a ≠ b → (TX5 a).2.1 ≠ (TX5 b).2.1 := by decide +kernel
theorem tyX5_ok : ∀ k, k < 4 → parseFieldDescriptor (TX5 k).2.2.1 = some (tyX5 k) := by decide +kernel
abbrev cX5_init : ByteArray := prog_7_method_1_code
def yX5_init : MethodName := ⟨RX5, "<init>", "()V"⟩
abbrev cX5_offer : ByteArray := prog_7_method_2_code
def yX5_offer : MethodName := ⟨RX5, "offer", "(II)V"⟩
abbrev cX5_hold : ByteArray := prog_7_method_3_code
def yX5_hold : MethodName := ⟨RX5, "hold", "(IIII)I"⟩
abbrev cX5_raise : ByteArray := prog_7_method_4_code
def yX5_raise : MethodName := ⟨RX5, "raise", "([JII)V"⟩
abbrev cX5_isPower : ByteArray := prog_7_method_5_code
def yX5_isPower : MethodName := ⟨RX5, "isPower", "(III)Z"⟩
def RX6 : String := "NeverMistaken$Rows"
def TX6 : u_T := fun k => match k with
  | 0 => ("NeverMistaken$Rows", "above", "I", false)
  | 1 => ("NeverMistaken$Rows", "below", "I", false)
  | _ => ("NeverMistaken$Rows", "letter", "I", false)
def tyX6 : Nat → FieldType := fun k => match k with
  | 0 => .int
  | 1 => .int
  | _ => .int
abbrev wsX60 : List Cond := u_ws RX6 TX6 3
theorem nmX6 : ∀ a, a < 3 → ∀ b, b < 3 → a ≠ b → (TX6 a).2.1 ≠ (TX6 b).2.1 := by decide +kernel
theorem tyX6_ok : ∀ k, k < 3 → parseFieldDescriptor (TX6 k).2.2.1 = some (tyX6 k) := by decide +kernel
abbrev cX6_init : ByteArray := prog_8_method_1_code
def yX6_init : MethodName := ⟨RX6, "<init>", "()V"⟩
abbrev cX6_firstFlaw : ByteArray := prog_8_method_2_code
def yX6_firstFlaw : MethodName := ⟨RX6, "firstFlaw", "(LNeverMistaken$Line;)I"⟩
abbrev cX6_measure : ByteArray := prog_8_method_3_code
def yX6_measure : MethodName := ⟨RX6, "measure", "(LNeverMistaken$Line;)Z"⟩
abbrev cX6_offer : ByteArray := prog_8_method_4_code
def yX6_offer : MethodName := ⟨RX6, "offer", "(III)V"⟩
abbrev cX6_cut : ByteArray := prog_8_method_5_code
def yX6_cut : MethodName := ⟨RX6, "cut", "()V"⟩
abbrev cX6_product : ByteArray := prog_8_method_6_code
def yX6_product : MethodName := ⟨RX6, "product", "([I[I)I"⟩
def RX7 : String := "NeverMistaken$Tape"
def TX7 : u_T := fun k => match k with
  | 0 => ("NeverMistaken$Tape", "bytes", "[I", true)
  | _ => ("NeverMistaken$Tape", "length", "I", false)
def tyX7 : Nat → FieldType := fun k => match k with
  | 0 => .array .int
  | _ => .int
abbrev wsX70 : List Cond := u_ws RX7 TX7 2
theorem nmX7 : ∀ a, a < 2 → ∀ b, b < 2 → a ≠ b → (TX7 a).2.1 ≠ (TX7 b).2.1 := by decide +kernel
theorem tyX7_ok : ∀ k, k < 2 → parseFieldDescriptor (TX7 k).2.2.1 = some (tyX7 k) := by decide +kernel
abbrev cX7_init : ByteArray := prog_9_method_1_code
def yX7_init : MethodName := ⟨RX7, "<init>", "()V"⟩
abbrev cX7_empty : ByteArray := prog_9_method_2_code
def yX7_empty : MethodName := ⟨RX7, "empty", "()V"⟩
abbrev cX7_hasRoomFor : ByteArray := prog_9_method_3_code
def yX7_hasRoomFor : MethodName := ⟨RX7, "hasRoomFor", "(I)Z"⟩
abbrev cX7_push : ByteArray := prog_9_method_4_code
def yX7_push : MethodName := ⟨RX7, "push", "(I)V"⟩
def RX8 : String := "NeverMistaken$Text"
def TX8 : u_T := fun k => match k with
  | 0 => ("NeverMistaken$Text", "signs", "[I", true)
  | 1 => ("NeverMistaken$Text", "letters", "I", false)
  | 2 => ("NeverMistaken$Text", "fault", "I", false)
  | _ => ("NeverMistaken$Text", "place", "I", false)
def tyX8 : Nat → FieldType := fun k => match k with
  | 0 => .array .int
  | 1 => .int
  | 2 => .int
  | _ => .int
abbrev wsX80 : List Cond := u_ws RX8 TX8 4
theorem nmX8 : ∀ a, a < 4 → ∀ b, b < 4 → a ≠ b → (TX8 a).2.1 ≠ (TX8 b).2.1 := by decide +kernel
theorem tyX8_ok : ∀ k, k < 4 → parseFieldDescriptor (TX8 k).2.2.1 = some (tyX8 k) := by decide +kernel
abbrev cX8_init : ByteArray := prog_10_method_1_code
def yX8_init : MethodName := ⟨RX8, "<init>", "()V"⟩
abbrev cX8_read : ByteArray := prog_10_method_2_code
def yX8_read : MethodName := ⟨RX8, "read", "(LNeverMistaken$Tape;)V"⟩
abbrev cX8_readSigns : ByteArray := prog_10_method_3_code
def yX8_readSigns : MethodName := ⟨RX8, "readSigns", "(LNeverMistaken$Tape;)I"⟩
abbrev cX8_blameIf : ByteArray := prog_10_method_4_code
def yX8_blameIf : MethodName := ⟨RX8, "blameIf", "(ZII)V"⟩
abbrev cX8_close : ByteArray := prog_10_method_5_code
def yX8_close : MethodName := ⟨RX8, "close", "(I)V"⟩
abbrev cX8_signAt : ByteArray := prog_10_method_6_code
def yX8_signAt : MethodName := ⟨RX8, "signAt", "(LNeverMistaken$Tape;I)I"⟩
abbrev cX8_isBlank : ByteArray := prog_10_method_7_code
def yX8_isBlank : MethodName := ⟨RX8, "isBlank", "(I)Z"⟩
def RX9 : String := "NeverMistaken"
def TX9 : u_T := fun k => match k with
  | 0 => ("NeverMistaken", "tape", "LNeverMistaken$Tape;", true)
  | 1 => ("NeverMistaken", "text", "LNeverMistaken$Text;", true)
  | 2 => ("NeverMistaken", "lines", "[LNeverMistaken$Line;", true)
  | 3 => ("NeverMistaken", "joined", "[I", true)
  | 4 => ("NeverMistaken", "codes", "LNeverMistaken$Codes;", true)
  | 5 => ("NeverMistaken", "cover", "LNeverMistaken$Cover;", true)
  | 6 => ("NeverMistaken", "rows", "LNeverMistaken$Rows;", true)
  | 7 => ("NeverMistaken", "powers", "LNeverMistaken$Powers;", true)
  | 8 => ("NeverMistaken", "lists", "LNeverMistaken$Lists;", true)
  | 9 => ("NeverMistaken", "latestCode", "LNeverMistaken$Code;", true)
  | 10 => ("NeverMistaken", "latestHeaps", "[I", true)
  | 11 => ("NeverMistaken", "latestHeapsLetters", "I", false)
  | 12 => ("NeverMistaken", "latestSent", "I", false)
  | _ => ("NeverMistaken", "latestListed", "I", false)
def tyX9 : Nat → FieldType := fun k => match k with
  | 0 => .object "NeverMistaken$Tape"
  | 1 => .object "NeverMistaken$Text"
  | 2 => .array (.object "NeverMistaken$Line")
  | 3 => .array .int
  | 4 => .object "NeverMistaken$Codes"
  | 5 => .object "NeverMistaken$Cover"
  | 6 => .object "NeverMistaken$Rows"
  | 7 => .object "NeverMistaken$Powers"
  | 8 => .object "NeverMistaken$Lists"
  | 9 => .object "NeverMistaken$Code"
  | 10 => .array .int
  | 11 => .int
  | 12 => .int
  | _ => .int
abbrev wsX90 : List Cond := u_ws RX9 TX9 14
theorem nmX9 : ∀ a, a < 14 → ∀ b, b < 14 → a ≠ b → (TX9 a).2.1 ≠ (TX9 b).2.1 := by decide +kernel
theorem tyX9_ok : ∀ k, k < 14 → parseFieldDescriptor (TX9 k).2.2.1 = some (tyX9 k) := by decide +kernel
abbrev cX9_init : ByteArray := prog_1_method_1_code
def yX9_init : MethodName := ⟨RX9, "<init>", "()V"⟩
abbrev cX9_feed : ByteArray := prog_1_method_2_code
def yX9_feed : MethodName := ⟨RX9, "feed", "(IIIII)I"⟩
abbrev cX9_end : ByteArray := prog_1_method_3_code
def yX9_end : MethodName := ⟨RX9, "end", "(I)I"⟩
abbrev cX9_net : ByteArray := prog_1_method_4_code
def yX9_net : MethodName := ⟨RX9, "net", "(II)I"⟩
abbrev cX9_mistake : ByteArray := prog_1_method_5_code
def yX9_mistake : MethodName := ⟨RX9, "mistake", "(IIIZ)I"⟩
abbrev cX9_ring : ByteArray := prog_1_method_6_code
def yX9_ring : MethodName := ⟨RX9, "ring", "(II)I"⟩
abbrev cX9_told : ByteArray := prog_1_method_7_code
def yX9_told : MethodName := ⟨RX9, "told", "(I)I"⟩
abbrev cX9_fault : ByteArray := prog_1_method_8_code
def yX9_fault : MethodName := ⟨RX9, "fault", "(I)I"⟩
abbrev cX9_both : ByteArray := prog_1_method_9_code
def yX9_both : MethodName := ⟨RX9, "both", "(III)I"⟩
abbrev cX9_either : ByteArray := prog_1_method_10_code
def yX9_either : MethodName := ⟨RX9, "either", "(III)I"⟩
abbrev cX9_about : ByteArray := prog_1_method_11_code
def yX9_about : MethodName := ⟨RX9, "about", "(II)I"⟩
abbrev cX9_taken : ByteArray := prog_1_method_12_code
def yX9_taken : MethodName := ⟨RX9, "taken", "(IIII)I"⟩
abbrev cX9_most : ByteArray := prog_1_method_13_code
def yX9_most : MethodName := ⟨RX9, "most", "(II)I"⟩
abbrev cX9_word : ByteArray := prog_1_method_14_code
def yX9_word : MethodName := ⟨RX9, "word", "(I)I"⟩
abbrev cX9_ways : ByteArray := prog_1_method_15_code
def yX9_ways : MethodName := ⟨RX9, "ways", "(II)I"⟩
abbrev cX9_heaps : ByteArray := prog_1_method_16_code
def yX9_heaps : MethodName := ⟨RX9, "heaps", "(I)I"⟩
abbrev cX9_heap : ByteArray := prog_1_method_17_code
def yX9_heap : MethodName := ⟨RX9, "heap", "(I)I"⟩
abbrev cX9_row : ByteArray := prog_1_method_18_code
def yX9_row : MethodName := ⟨RX9, "row", "(IIII)I"⟩
abbrev cX9_stands : ByteArray := prog_1_method_19_code
def yX9_stands : MethodName := ⟨RX9, "stands", "(I)I"⟩
abbrev cX9_bound : ByteArray := prog_1_method_20_code
def yX9_bound : MethodName := ⟨RX9, "bound", "(II)I"⟩
abbrev cX9_compare : ByteArray := prog_1_method_21_code
def yX9_compare : MethodName := ⟨RX9, "compare", "(IIII)I"⟩
abbrev cX9_best : ByteArray := prog_1_method_22_code
def yX9_best : MethodName := ⟨RX9, "best", "(I)I"⟩
abbrev cX9_met : ByteArray := prog_1_method_23_code
def yX9_met : MethodName := ⟨RX9, "met", "(I)I"⟩
abbrev cX9_came : ByteArray := prog_1_method_24_code
def yX9_came : MethodName := ⟨RX9, "came", "(I)I"⟩
abbrev cX9_sent : ByteArray := prog_1_method_25_code
def yX9_sent : MethodName := ⟨RX9, "sent", "()I"⟩
abbrev cX9_list : ByteArray := prog_1_method_26_code
def yX9_list : MethodName := ⟨RX9, "list", "(II)I"⟩
abbrev cX9_listed : ByteArray := prog_1_method_27_code
def yX9_listed : MethodName := ⟨RX9, "listed", "()I"⟩
abbrev cX9_count : ByteArray := prog_1_method_28_code
def yX9_count : MethodName := ⟨RX9, "count", "(I)I"⟩
abbrev cX9_lineAt : ByteArray := prog_1_method_29_code
def yX9_lineAt : MethodName := ⟨RX9, "lineAt", "(I)LNeverMistaken$Line;"⟩
abbrev cX9_isLength : ByteArray := prog_1_method_30_code
def yX9_isLength : MethodName := ⟨RX9, "isLength", "(I)Z"⟩
abbrev cX9_quotient : ByteArray := prog_1_method_31_code
def yX9_quotient : MethodName := ⟨RX9, "quotient", "(II)I"⟩
abbrev cX9_remainder : ByteArray := prog_1_method_32_code
def yX9_remainder : MethodName := ⟨RX9, "remainder", "(II)I"⟩
abbrev cX9_lowest : ByteArray := prog_1_method_33_code
def yX9_lowest : MethodName := ⟨RX9, "lowest", "(J)I"⟩
abbrev cX9_wordsInAll : ByteArray := prog_1_method_34_code
def yX9_wordsInAll : MethodName := ⟨RX9, "wordsInAll", "(II)I"⟩
abbrev cX9_pairsNear : ByteArray := prog_1_method_35_code
def yX9_pairsNear : MethodName := ⟨RX9, "pairsNear", "(LNeverMistaken$Line;ILNeverMistaken$Line;I)I"⟩
abbrev cX9_aboutLetter : ByteArray := prog_1_method_36_code
def yX9_aboutLetter : MethodName := ⟨RX9, "aboutLetter", "(LNeverMistaken$Line;I)I"⟩
abbrev cX9_fewestHeaps : ByteArray := prog_1_method_37_code
def yX9_fewestHeaps : MethodName := ⟨RX9, "fewestHeaps", "(LNeverMistaken$Line;)I"⟩
abbrev cX9_findBest : ByteArray := prog_1_method_38_code
def yX9_findBest : MethodName := ⟨RX9, "findBest", "(LNeverMistaken$Line;)V"⟩
abbrev cX9_couldMake : ByteArray := prog_1_method_39_code
def yX9_couldMake : MethodName := ⟨RX9, "couldMake", "(LNeverMistaken$Line;I)Z"⟩
def RX10 : String := "NeverMistakenModel"
def TX10 : u_T := fun k => match k with
  | 0 => ("NeverMistakenModel", "size", "[I", true)
  | 1 => ("NeverMistakenModel", "kind", "[I", true)
  | 2 => ("NeverMistakenModel", "near", "[I", true)
  | 3 => ("NeverMistakenModel", "signs", "[I", true)
  | 4 => ("NeverMistakenModel", "rows", "[I", true)
  | 5 => ("NeverMistakenModel", "times", "[I", true)
  | 6 => ("NeverMistakenModel", "tape", "[B", true)
  | 7 => ("NeverMistakenModel", "taped", "I", false)
  | 8 => ("NeverMistakenModel", "fault", "I", false)
  | 9 => ("NeverMistakenModel", "faultAt", "I", false)
  | 10 => ("NeverMistakenModel", "read", "[I", true)
  | 11 => ("NeverMistakenModel", "made", "[I", true)
  | 12 => ("NeverMistakenModel", "rivals", "[J", true)
  | 13 => ("NeverMistakenModel", "words", "I", false)
  | 14 => ("NeverMistakenModel", "code", "[I", true)
  | 15 => ("NeverMistakenModel", "codeMany", "I", false)
  | 16 => ("NeverMistakenModel", "codeLength", "I", false)
  | 17 => ("NeverMistakenModel", "codeLine", "I", false)
  | 18 => ("NeverMistakenModel", "codeTold", "I", false)
  | 19 => ("NeverMistakenModel", "heapOf", "[I", true)
  | 20 => ("NeverMistakenModel", "heapSet", "[I", true)
  | 21 => ("NeverMistakenModel", "heapLetters", "I", false)
  | 22 => ("NeverMistakenModel", "heapTold", "[I", true)
  | 23 => ("NeverMistakenModel", "above", "J", false)
  | 24 => ("NeverMistakenModel", "below", "J", false)
  | 25 => ("NeverMistakenModel", "boundLetter", "I", false)
  | 26 => ("NeverMistakenModel", "one", "[J", true)
  | 27 => ("NeverMistakenModel", "two", "[J", true)
  | 28 => ("NeverMistakenModel", "bestMany", "I", false)
  | 29 => ("NeverMistakenModel", "sent", "I", false)
  | _ => ("NeverMistakenModel", "listed", "I", false)
def tyX10 : Nat → FieldType := fun k => match k with
  | 0 => .array .int
  | 1 => .array .int
  | 2 => .array .int
  | 3 => .array .int
  | 4 => .array .int
  | 5 => .array .int
  | 6 => .array .byte
  | 7 => .int
  | 8 => .int
  | 9 => .int
  | 10 => .array .int
  | 11 => .array .int
  | 12 => .array .long
  | 13 => .int
  | 14 => .array .int
  | 15 => .int
  | 16 => .int
  | 17 => .int
  | 18 => .int
  | 19 => .array .int
  | 20 => .array .int
  | 21 => .int
  | 22 => .array .int
  | 23 => .long
  | 24 => .long
  | 25 => .int
  | 26 => .array .long
  | 27 => .array .long
  | 28 => .int
  | 29 => .int
  | _ => .int
abbrev wsX100 : List Cond := u_ws RX10 TX10 31
theorem nmX10 : ∀ a, a < 31 → ∀ b, b < 31 → a ≠ b → (TX10 a).2.1 ≠ (TX10 b).2.1 := by decide +kernel
theorem tyX10_ok : ∀ k, k < 31 → parseFieldDescriptor (TX10 k).2.2.1 = some (tyX10 k) := by decide +kernel
abbrev cX10_in : ByteArray := prog_12_method_1_code
def yX10_in : MethodName := ⟨RX10, "in", "(JJJ)Z"⟩
abbrev cX10_init : ByteArray := prog_12_method_2_code
def yX10_init : MethodName := ⟨RX10, "<init>", "()V"⟩
abbrev cX10_isLine : ByteArray := prog_12_method_3_code
def yX10_isLine : MethodName := ⟨RX10, "isLine", "(I)Z"⟩
abbrev cX10_isLetter : ByteArray := prog_12_method_4_code
def yX10_isLetter : MethodName := ⟨RX10, "isLetter", "(II)Z"⟩
abbrev cX10_areNear : ByteArray := prog_12_method_5_code
def yX10_areNear : MethodName := ⟨RX10, "areNear", "(III)Z"⟩
abbrev cX10_anew : ByteArray := prog_12_method_6_code
def yX10_anew : MethodName := ⟨RX10, "anew", "(III)V"⟩
abbrev cX10_noRows : ByteArray := prog_12_method_7_code
def yX10_noRows : MethodName := ⟨RX10, "noRows", "(I)V"⟩
abbrev cX10_join : ByteArray := prog_12_method_8_code
def yX10_join : MethodName := ⟨RX10, "join", "(III)V"⟩
abbrev cX10_feed : ByteArray := prog_12_method_9_code
def yX10_feed : MethodName := ⟨RX10, "feed", "(IIIII)I"⟩
abbrev cX10_lay : ByteArray := prog_12_method_10_code
def yX10_lay : MethodName := ⟨RX10, "lay", "(I)V"⟩
abbrev cX10_end : ByteArray := prog_12_method_11_code
def yX10_end : MethodName := ⟨RX10, "end", "(I)I"⟩
abbrev cX10_net : ByteArray := prog_12_method_12_code
def yX10_net : MethodName := ⟨RX10, "net", "(II)I"⟩
abbrev cX10_mistake : ByteArray := prog_12_method_13_code
def yX10_mistake : MethodName := ⟨RX10, "mistake", "(IIIZ)I"⟩
abbrev cX10_ring : ByteArray := prog_12_method_14_code
def yX10_ring : MethodName := ⟨RX10, "ring", "(II)I"⟩
abbrev cX10_wrong : ByteArray := prog_12_method_15_code
def yX10_wrong : MethodName := ⟨RX10, "wrong", "(II)I"⟩
abbrev cX10_told : ByteArray := prog_12_method_16_code
def yX10_told : MethodName := ⟨RX10, "told", "(I)I"⟩
abbrev cX10_fault : ByteArray := prog_12_method_17_code
def yX10_fault : MethodName := ⟨RX10, "fault", "(I)I"⟩
abbrev cX10_isLike : ByteArray := prog_12_method_18_code
def yX10_isLike : MethodName := ⟨RX10, "isLike", "(III)Z"⟩
abbrev cX10_both : ByteArray := prog_12_method_19_code
def yX10_both : MethodName := ⟨RX10, "both", "(III)I"⟩
abbrev cX10_either : ByteArray := prog_12_method_20_code
def yX10_either : MethodName := ⟨RX10, "either", "(III)I"⟩
abbrev cX10_put : ByteArray := prog_12_method_21_code
def yX10_put : MethodName := ⟨RX10, "put", "(II)I"⟩
abbrev cX10_bits : ByteArray := prog_12_method_22_code
def yX10_bits : MethodName := ⟨RX10, "bits", "(J)I"⟩
abbrev cX10_about : ByteArray := prog_12_method_23_code
def yX10_about : MethodName := ⟨RX10, "about", "(II)I"⟩
abbrev cX10_power : ByteArray := prog_12_method_24_code
def yX10_power : MethodName := ⟨RX10, "power", "(II)I"⟩
abbrev cX10_areTaken : ByteArray := prog_12_method_25_code
def yX10_areTaken : MethodName := ⟨RX10, "areTaken", "(IIII)Z"⟩
abbrev cX10_taken : ByteArray := prog_12_method_26_code
def yX10_taken : MethodName := ⟨RX10, "taken", "(IIII)I"⟩
abbrev cX10_spell : ByteArray := prog_12_method_27_code
def yX10_spell : MethodName := ⟨RX10, "spell", "(III)Z"⟩
abbrev cX10_all : ByteArray := prog_12_method_28_code
def yX10_all : MethodName := ⟨RX10, "all", "()J"⟩
abbrev cX10_lowest : ByteArray := prog_12_method_29_code
def yX10_lowest : MethodName := ⟨RX10, "lowest", "(J)I"⟩
abbrev cX10_cover : ByteArray := prog_12_method_30_code
def yX10_cover : MethodName := ⟨RX10, "cover", "(JI)I"⟩
abbrev cX10_reaches : ByteArray := prog_12_method_31_code
def yX10_reaches : MethodName := ⟨RX10, "reaches", "(JI)Z"⟩
abbrev cX10_largest : ByteArray := prog_12_method_32_code
def yX10_largest : MethodName := ⟨RX10, "largest", "(J)I"⟩
abbrev cX10_most : ByteArray := prog_12_method_33_code
def yX10_most : MethodName := ⟨RX10, "most", "(II)I"⟩
abbrev cX10_word : ByteArray := prog_12_method_34_code
def yX10_word : MethodName := ⟨RX10, "word", "(I)I"⟩
abbrev cX10_waysOf : ByteArray := prog_12_method_35_code
def yX10_waysOf : MethodName := ⟨RX10, "waysOf", "(JI)I"⟩
abbrev cX10_ways : ByteArray := prog_12_method_36_code
def yX10_ways : MethodName := ⟨RX10, "ways", "(II)I"⟩
abbrev cX10_lonely : ByteArray := prog_12_method_37_code
def yX10_lonely : MethodName := ⟨RX10, "lonely", "(IIII)I"⟩
abbrev cX10_heapFrom : ByteArray := prog_12_method_38_code
def yX10_heapFrom : MethodName := ⟨RX10, "heapFrom", "(IIII)Z"⟩
abbrev cX10_heapsOf : ByteArray := prog_12_method_39_code
def yX10_heapsOf : MethodName := ⟨RX10, "heapsOf", "(I)I"⟩
abbrev cX10_heaps : ByteArray := prog_12_method_40_code
def yX10_heaps : MethodName := ⟨RX10, "heaps", "(I)I"⟩
abbrev cX10_heap : ByteArray := prog_12_method_41_code
def yX10_heap : MethodName := ⟨RX10, "heap", "(I)I"⟩
abbrev cX10_placeOf : ByteArray := prog_12_method_42_code
def yX10_placeOf : MethodName := ⟨RX10, "placeOf", "(II)I"⟩
abbrev cX10_row : ByteArray := prog_12_method_43_code
def yX10_row : MethodName := ⟨RX10, "row", "(IIII)I"⟩
abbrev cX10_product : ByteArray := prog_12_method_44_code
def yX10_product : MethodName := ⟨RX10, "product", "(III)I"⟩
abbrev cX10_stands : ByteArray := prog_12_method_45_code
def yX10_stands : MethodName := ⟨RX10, "stands", "(I)I"⟩
abbrev cX10_findBound : ByteArray := prog_12_method_46_code
def yX10_findBound : MethodName := ⟨RX10, "findBound", "(I)V"⟩
abbrev cX10_bound : ByteArray := prog_12_method_47_code
def yX10_bound : MethodName := ⟨RX10, "bound", "(II)I"⟩
abbrev cX10_raise : ByteArray := prog_12_method_48_code
def yX10_raise : MethodName := ⟨RX10, "raise", "([JIJI)V"⟩
abbrev cX10_held : ByteArray := prog_12_method_49_code
def yX10_held : MethodName := ⟨RX10, "held", "()I"⟩
abbrev cX10_heldRates : ByteArray := prog_12_method_50_code
def yX10_heldRates : MethodName := ⟨RX10, "heldRates", "(IIII)I"⟩
abbrev cX10_compare : ByteArray := prog_12_method_51_code
def yX10_compare : MethodName := ⟨RX10, "compare", "(IIII)I"⟩
abbrev cX10_bestOf : ByteArray := prog_12_method_52_code
def yX10_bestOf : MethodName := ⟨RX10, "bestOf", "(I)I"⟩
abbrev cX10_best : ByteArray := prog_12_method_53_code
def yX10_best : MethodName := ⟨RX10, "best", "(I)I"⟩
abbrev cX10_met : ByteArray := prog_12_method_54_code
def yX10_met : MethodName := ⟨RX10, "met", "(I)I"⟩
abbrev cX10_came : ByteArray := prog_12_method_55_code
def yX10_came : MethodName := ⟨RX10, "came", "(I)I"⟩
abbrev cX10_sent : ByteArray := prog_12_method_56_code
def yX10_sent : MethodName := ⟨RX10, "sent", "()I"⟩
abbrev cX10_isList : ByteArray := prog_12_method_57_code
def yX10_isList : MethodName := ⟨RX10, "isList", "(III)Z"⟩
abbrev cX10_list : ByteArray := prog_12_method_58_code
def yX10_list : MethodName := ⟨RX10, "list", "(II)I"⟩
abbrev cX10_listed : ByteArray := prog_12_method_59_code
def yX10_listed : MethodName := ⟨RX10, "listed", "()I"⟩
abbrev cX10_count : ByteArray := prog_12_method_60_code
def yX10_count : MethodName := ⟨RX10, "count", "(I)I"⟩
def RJ6 : String := "java/lang/Integer"
def TJ6 : u_T := fun k => match k with
  | _ => ("", "", "", false)
def tyJ6 : Nat → FieldType := fun k => match k with
  | _ => .int
abbrev wsJ60 : List Cond := u_ws RJ6 TJ6 0
theorem nmJ6 : ∀ a, a < 0 → ∀ b, b < 0 → a ≠ b → (TJ6 a).2.1 ≠ (TJ6 b).2.1 := by decide +kernel
theorem tyJ6_ok : ∀ k, k < 0 → parseFieldDescriptor (TJ6 k).2.2.1 = some (tyJ6 k) := by decide +kernel
abbrev cJ6_bitCount_0f7a4 : ByteArray := prog_13_method_49_code
def yJ6_bitCount_0f7a4 : MethodName := ⟨RJ6, "bitCount", "(I)I"⟩
def RJ13 : String := "java/lang/Long"
def TJ13 : u_T := fun k => match k with
  | _ => ("", "", "", false)
def tyJ13 : Nat → FieldType := fun k => match k with
  | _ => .int
abbrev wsJ130 : List Cond := u_ws RJ13 TJ13 0
theorem nmJ13 : ∀ a, a < 0 → ∀ b, b < 0 → a ≠ b → (TJ13 a).2.1 ≠ (TJ13 b).2.1 := by decide +kernel
theorem tyJ13_ok : ∀ k, k < 0 → parseFieldDescriptor (TJ13 k).2.2.1 = some (tyJ13 k) := by decide +kernel
abbrev cJ13_bitCount_95d88 : ByteArray := prog_14_method_50_code
def yJ13_bitCount_95d88 : MethodName := ⟨RJ13, "bitCount", "(J)I"⟩
def RJ9 : String := "java/lang/Math"
def TJ9 : u_T := fun k => match k with
  | _ => ("", "", "", false)
def tyJ9 : Nat → FieldType := fun k => match k with
  | _ => .int
abbrev wsJ90 : List Cond := u_ws RJ9 TJ9 0
theorem nmJ9 : ∀ a, a < 0 → ∀ b, b < 0 → a ≠ b → (TJ9 a).2.1 ≠ (TJ9 b).2.1 := by decide +kernel
theorem tyJ9_ok : ∀ k, k < 0 → parseFieldDescriptor (TJ9 k).2.2.1 = some (tyJ9 k) := by decide +kernel
abbrev cJ9_max_7cf53 : ByteArray := prog_15_method_65_code
def yJ9_max_7cf53 : MethodName := ⟨RJ9, "max", "(II)I"⟩
abbrev cJ9_max_f86c9 : ByteArray := prog_15_method_66_code
def yJ9_max_f86c9 : MethodName := ⟨RJ9, "max", "(JJ)J"⟩
abbrev cJ9_min_7cf53 : ByteArray := prog_15_method_69_code
def yJ9_min_7cf53 : MethodName := ⟨RJ9, "min", "(II)I"⟩
def RL : String := "NeverMistakenLaw"
abbrev cL_law : ByteArray := code
def yL_law : MethodName := ⟨RL, "law", "([I)Z"⟩
end
section
/-! ===== THE SMALL MACHINE: cells by number (0: the script; k + 1: the cell at base + k), shapes, ints, longs ===== -/
/-- kind (0: an object, 1: int[], 2: long[], 3: byte[], 4: Line[], 5: int[][]), class or length, references -/
abbrev zz_S : Type := Nat × Nat × (Nat → Option Nat)
/-- how many cells, and their shapes -/
abbrev zz_M : Type := Nat × (Nat → zz_S)
abbrev zz_I : Type := Nat → Nat → Int32
abbrev zz_J : Type := Nat → Nat → Int64
abbrev zz_Q : Type := Option Value → zz_M → zz_I → zz_J → Prop
/-- a method: its name, its code, its locals, its answer's type, the cells that it makes at most -/
abbrev zz_Y : Type := MethodName × ByteArray × Nat × Option FieldType × Nat
def zz_ad (base b : Nat) : Nat → Nat
  | 0 => b
  | k + 1 => base + k
def zz_tr (base b : Nat) : Value → Value
  | .ref a => .ref (zz_ad base b a)
  | v => v
theorem zz_tr_cat (base b : Nat) (v : Value) : (zz_tr base b v).category = v.category := by cases v <;> rfl
def zz_cl : List vw_C := [(RX0, TX0, 5), (RX1, TX1, 5), (RX2, TX2, 6), (RX3, TX3, 6), (RX4, TX4, 3), (RX5, TX5, 4), (RX6, TX6, 3), (RX7, TX7, 2), (RX8, TX8, 4), (RX9, TX9, 14), (RX10, TX10, 31)]
def zz_ty : Nat → Nat → FieldType
  | 0 => tyX0
  | 1 => tyX1
  | 2 => tyX2
  | 3 => tyX3
  | 4 => tyX4
  | 5 => tyX5
  | 6 => tyX6
  | 7 => tyX7
  | 8 => tyX8
  | 9 => tyX9
  | _ => tyX10
def zz_nf : Nat → Nat
  | 0 => 5
  | 1 => 5
  | 2 => 6
  | 3 => 6
  | 4 => 3
  | 5 => 4
  | 6 => 3
  | 7 => 2
  | 8 => 4
  | 9 => 14
  | _ => 31
/-- the words that go along with every call -/
def zz_tbl : List Cond := lw_tbl.filter goodWord
theorem zz_tbl_in : ∀ w ∈ zz_tbl, w ∈ lw_tbl := fun w h => (List.mem_filter.mp h).1
theorem zz_tbl_of {w : Cond} (h : w ∈ lw_tbl) (hg : goodWord w = true) : w ∈ zz_tbl := List.mem_filter.mpr ⟨h, hg⟩
theorem zz_tbl_good : ∀ w ∈ zz_tbl, goodWord w = true := fun w h => (List.mem_filter.mp h).2
/-- what a class's tables say, as the rows want it -/
def zz_ok (ci : Nat) (q : vw_C) : Prop := q.2.2 = zz_nf ci ∧ (∀ w ∈ u_ws q.1 q.2.1 q.2.2, w ∈ zz_tbl) ∧ (∀ k, k < q.2.2 → parseFieldDescriptor (q.2.1 k).2.2.1 = some (zz_ty ci k)) ∧ (∀ a, a < q.2.2 → ∀ b, b < q.2.2 → a ≠ b → (q.2.1 a).2.1 ≠ (q.2.1 b).2.1) ∧ ∀ k, k < q.2.2 → (q.2.1 k).1 = q.1
theorem zz_in0 : ∀ w ∈ u_ws RX0 TX0 5, w ∈ zz_tbl := by decide +kernel
theorem zz_in1 : ∀ w ∈ u_ws RX1 TX1 5, w ∈ zz_tbl := by decide +kernel
theorem zz_in2 : ∀ w ∈ u_ws RX2 TX2 6, w ∈ zz_tbl := by decide +kernel
theorem zz_in3 : ∀ w ∈ u_ws RX3 TX3 6, w ∈ zz_tbl := by decide +kernel
theorem zz_in4 : ∀ w ∈ u_ws RX4 TX4 3, w ∈ zz_tbl := by decide +kernel
theorem zz_in5 : ∀ w ∈ u_ws RX5 TX5 4, w ∈ zz_tbl := by decide +kernel
theorem zz_in6 : ∀ w ∈ u_ws RX6 TX6 3, w ∈ zz_tbl := by decide +kernel
theorem zz_in7 : ∀ w ∈ u_ws RX7 TX7 2, w ∈ zz_tbl := by decide +kernel
theorem zz_in8 : ∀ w ∈ u_ws RX8 TX8 4, w ∈ zz_tbl := by decide +kernel
theorem zz_in9 : ∀ w ∈ u_ws RX9 TX9 14, w ∈ zz_tbl := by decide +kernel
theorem zz_in10 : ∀ w ∈ u_ws RX10 TX10 31, w ∈ zz_tbl := by decide +kernel
theorem zz_oks (ci : Nat) (q : vw_C) (h : zz_cl[ci]? = some q) : zz_ok ci q := by
  match ci, h with
  | 0, h => cases h; exact ⟨rfl, zz_in0, tyX0_ok, nmX0, by decide +kernel⟩
  | 1, h => cases h; exact ⟨rfl, zz_in1, tyX1_ok, nmX1, by decide +kernel⟩
  | 2, h => cases h; exact ⟨rfl, zz_in2, tyX2_ok, nmX2, by decide +kernel⟩
  | 3, h => cases h; exact ⟨rfl, zz_in3, tyX3_ok, nmX3, by decide +kernel⟩
  | 4, h => cases h; exact ⟨rfl, zz_in4, tyX4_ok, nmX4, by decide +kernel⟩
  | 5, h => cases h; exact ⟨rfl, zz_in5, tyX5_ok, nmX5, by decide +kernel⟩
  | 6, h => cases h; exact ⟨rfl, zz_in6, tyX6_ok, nmX6, by decide +kernel⟩
  | 7, h => cases h; exact ⟨rfl, zz_in7, tyX7_ok, nmX7, by decide +kernel⟩
  | 8, h => cases h; exact ⟨rfl, zz_in8, tyX8_ok, nmX8, by decide +kernel⟩
  | 9, h => cases h; exact ⟨rfl, zz_in9, tyX9_ok, nmX9, by decide +kernel⟩
  | 10, h => cases h; exact ⟨rfl, zz_in10, tyX10_ok, nmX10, by decide +kernel⟩
  | n + 11, h => simp [zz_cl] at h
/-- what a field holds -/
def zz_fv (ad : Nat → Nat) (t : FieldType) (i : Int32) (j : Int64) (r : Option Nat) : Value := match t with
  | .int => .int i
  | .long => .long j
  | _ => va_rf (r.map ad)
def zz_aty : Nat → FieldType
  | 1 => .int
  | 2 => .long
  | 3 => .byte
  | 4 => .object "NeverMistaken$Line"
  | _ => .array .int
def zz_tys (cT : Nat → ClassId) : List (ClassId × FieldType) := [(cT 1, .int), (cT 2, .long), (cT 3, .byte), (cT 4, .object "NeverMistaken$Line"), (cT 5, .array .int)]
/-- the cell a as the kit's worlds have it -/
def zz_E (ad : Nat → Nat) (cT : Nat → ClassId) (S : zz_S) (i : Nat → Int32) (j : Nat → Int64) : va_E := match S.1 with
  | 0 => .inr (S.2.1, (List.range (zz_nf S.2.1)).map fun k => zz_fv ad (zz_ty S.2.1 k) (i k) (j k) (S.2.2 k))
  | 1 => .inl (cT 1, S.2.1, .inl i)
  | 2 => .inl (cT 2, S.2.1, .inr (.inl j))
  | 3 => .inl (cT 3, S.2.1, .inl i)
  | 4 => .inl (cT 4, S.2.1, .inr (.inr (.inr (.inr (fun k => (S.2.2 k).map ad)))))
  | _ => .inl (cT 5, S.2.1, .inr (.inr (.inr (.inr (fun k => (S.2.2 k).map ad)))))
def zz_W (base b : Nat) (D : va_G) (cT : Nat → ClassId) (M : zz_M) (I : zz_I) (J : zz_J) (H : Heap) : Prop :=
  H.size = base + M.1 ∧ ∀ k, k < M.1 → va_at D zz_cl (base + k, zz_E (zz_ad base b) cT (M.2 (k + 1)) (I (k + 1)) (J (k + 1))) H
def zz_X (base b : Nat) (M : zz_M) (I : zz_I) (U : State) (H : Heap) : Prop := b < base ∧ (M.2 0).1 = 1 ∧ va_X b (M.2 0).2.1 (I 0) U H
def zz_nest : List Cond := lw_tbl.filter fun w => match w with
  | .methodLinkNest _ _ _ _ => true
  | _ => false
def zz_AOA (U : State) : Prop := (Cond.arrayOver (.array .int)).before #[] U = true
def zz_K (D : va_G) (cT : Nat → ClassId) (U : State) : Prop := va_K D zz_cl (zz_tys cT) U ∧ (∀ w ∈ zz_nest, va_Nw w U) ∧ va_AO "NeverMistaken$Line" U ∧ zz_AOA U
theorem zz_AOA.moved {u U : State} (hvm : u.vm.Alike U.vm) (h : zz_AOA u) : zz_AOA U := by
  obtain ⟨comp, c, k, h1, h2, h3, h4, h5⟩ := arrayOverA_spec h
  obtain ⟨k', hk', he⟩ := hvm.2.2 _ _ h3
  have hi0 := (va_idx_bare U.vm comp).symm
  first | rw [hvm.bare_eq] at hi0 | rw [← hvm.bare_eq] at hi0
  rw [va_idx_bare] at hi0
  have hi := hi0.trans h2
  have hkind : k'.kind = .array comp (.array .int) := by rw [he]; exact h4
  have f1 : U.vm.findClass (FieldType.array .int).toString = some comp := by rw [hvm.findClass]; exact h1
  have f2 : U.vm.findClass ("[" ++ (FieldType.array .int).toString) = some c := by rw [hvm.findClass]; exact h5
  unfold zz_AOA Cond.before Cond.holds
  simp only [Cond.value]
  rw [f1, Option.bind_some]
  refine (congrArg (fun o : Option Nat => (o.bind (fun c => (U.vm.classes[c]?).map fun (k : Class) => match k.kind with | .array _ ty => decide (ty = FieldType.array .int) && decide (U.vm.findClass ("[" ++ (FieldType.array .int).toString) = some c) | _ => false) == some true)) hi).trans ?_
  simp [hk', hkind, f2]
theorem zz_K.moved {D : va_G} {cT : Nat → ClassId} {u U : State} (hW : u.WarmedH U.vm) (h : zz_K D cT u) : zz_K D cT U := by
  refine ⟨va_K.moved hW.alike h.1, fun w hw => ?_, va_AO.moved hW.alike h.2.2.1, zz_AOA.moved hW.alike h.2.2.2⟩
  have h1 := h.2.1 w hw
  have h2 := (List.mem_filter.mp hw).2
  cases w <;> simp at h2
  exact va_Nw.warmM hW h1
theorem zz_K.called {D : va_G} {cT : Nat → ClassId} {U : State} {a : Array Value} {g : JFrame} {mk : MethodId} (h : zz_K D cT U) : zz_K D cT (U.calling g mk a) := by
  refine ⟨va_K.moved (u := U) (Vm.Alike.refl U.vm) h.1, fun w hw => ?_, va_AO.moved (u := U) (Vm.Alike.refl U.vm) h.2.2.1, zz_AOA.moved (u := U) (Vm.Alike.refl U.vm) h.2.2.2⟩
  have h1 := h.2.1 w hw
  have h2 := (List.mem_filter.mp hw).2
  cases w <;> simp at h2
  exact va_tabs rfl (rfl : U.vm = (U.calling g mk a).vm) h1
/-! ===== locals ===== -/
def zz_L (base b : Nat) (arr : Array Slot) (n : Nat) (ls : List (Option Value)) : Prop := arr.size = n ∧ lv_wf arr ∧ ∀ (i : Nat) (v : Value), ls[i]? = some (some v) → arr[i]? = some (.val (zz_tr base b v))
/-- a long whose second half is overwritten is gone -/
def zz_kill (ls : List (Option Value)) : Nat → List (Option Value)
  | 0 => ls
  | j + 1 => match ls[j]? with
    | some (some (.long _)) => ls.set j none
    | some (some (.double _)) => ls.set j none
    | _ => ls
def zz_s1 (ls : List (Option Value)) (i : Nat) (v : Value) : List (Option Value) := (zz_kill ls i).set i (some v)
def zz_s2 (ls : List (Option Value)) (i : Nat) (v : Value) : List (Option Value) := ((zz_kill ls i).set i (some v)).set (i + 1) none
theorem zz_kill_get {ls : List (Option Value)} {i j : Nat} {w : Value} (h : (zz_kill ls i)[j]? = some (some w)) : ls[j]? = some (some w) ∧ ¬ (j + 1 = i ∧ w.category = 2) := by
  cases i with
  | zero => exact ⟨h, fun q => by omega⟩
  | succ i =>
    unfold zz_kill at h
    by_cases hj : j = i
    · subst hj
      cases hx : ls[j]? with
      | none => simp [hx] at h
      | some o =>
        cases o with
        | none => simp [hx] at h
        | some v =>
          cases v <;> simp [hx] at h <;> first | (subst h; refine ⟨rfl, fun q => ?_⟩; simp [Value.category] at q; done) | (rw [List.getElem?_set_self'] at h; simp [hx] at h; done)
    · have : (zz_kill ls (i + 1))[j]? = ls[j]? := by
        have hs : (ls.set i none)[j]? = ls[j]? := List.getElem?_set_ne (Ne.symm hj)
        cases hx : ls[i]? with
        | none => simp [zz_kill, hx]
        | some o =>
          cases o with
          | none => simp [zz_kill, hx]
          | some v => cases v <;> simp [zz_kill, hx, hs]
      unfold zz_kill at this
      rw [this] at h
      exact ⟨h, fun q => by omega⟩
/-- all that the locals hold, as the kit lists it -/
def zz_al (base b : Nat) (ls : List (Option Value)) : List (Nat × Value) := (List.range ls.length).filterMap fun i => match ls[i]? with
  | some (some v) => some (i, zz_tr base b v)
  | _ => none
theorem zz_al_mem {base b : Nat} {ls : List (Option Value)} {q : Nat × Value} : q ∈ zz_al base b ls ↔ ∃ v, ls[q.1]? = some (some v) ∧ q.2 = zz_tr base b v := by
  unfold zz_al
  rw [List.mem_filterMap]
  constructor
  · rintro ⟨i, -, h⟩
    split at h
    · rename_i v hv
      cases h
      exact ⟨v, hv, rfl⟩
    · cases h
  · rintro ⟨v, h1, h2⟩
    refine ⟨q.1, List.mem_range.mpr (List.getElem?_eq_some_iff.mp h1).1, ?_⟩
    rw [h1]
    simp [← h2]
theorem zz_L.has {base b n : Nat} {arr : Array Slot} {ls : List (Option Value)} (h : zz_L base b arr n ls) : lv_has arr n (zz_al base b ls) := by
  refine ⟨h.1, h.2.1, fun q hq => ?_⟩
  obtain ⟨v, h1, h2⟩ := zz_al_mem.mp hq
  rw [h2]
  exact h.2.2 _ _ h1
theorem zz_L.store1 {base b n i : Nat} {arr : Array Slot} {ls : List (Option Value)} {v : Value} (h : lv_has arr n ((i, zz_tr base b v) :: (zz_al base b ls).filter (fun q => !(q.1 == i) && !(q.1 + 1 == i && q.2.category == 2)))) : zz_L base b arr n (zz_s1 ls i v) := by
  refine ⟨h.1, h.2.1, fun j w hj => ?_⟩
  unfold zz_s1 at hj
  by_cases e : j = i
  · subst e
    rw [List.getElem?_set_self'] at hj
    cases hx : (zz_kill ls j)[j]? with
    | none => simp [hx] at hj
    | some o =>
      simp [hx] at hj
      subst hj
      exact h.2.2 _ List.mem_cons_self
  · rw [List.getElem?_set_ne (Ne.symm e)] at hj
    obtain ⟨h1, h2⟩ := zz_kill_get hj
    refine h.2.2 (j, zz_tr base b w) (List.mem_cons_of_mem _ (List.mem_filter.mpr ⟨zz_al_mem.mpr ⟨w, h1, rfl⟩, ?_⟩))
    simp only [zz_tr_cat, Bool.and_eq_true, Bool.not_eq_true', beq_eq_false_iff_ne, ne_eq, Bool.and_eq_false_iff]
    refine ⟨e, ?_⟩
    by_cases q : j + 1 = i
    · exact Or.inr (fun c => h2 ⟨q, c⟩)
    · exact Or.inl q
theorem zz_L.store2 {base b n i : Nat} {arr : Array Slot} {ls : List (Option Value)} {v : Value} (h : lv_has arr n ((i, zz_tr base b v) :: (zz_al base b ls).filter (fun q => !(q.1 == i) && (!(q.1 == i + 1) && !(q.1 + 1 == i && q.2.category == 2))))) : zz_L base b arr n (zz_s2 ls i v) := by
  refine ⟨h.1, h.2.1, fun j w hj => ?_⟩
  unfold zz_s2 at hj
  by_cases e2 : j = i + 1
  · subst e2
    rw [List.getElem?_set_self'] at hj
    cases hx : ((zz_kill ls i).set i (some v))[i + 1]? with
    | none => simp [hx] at hj
    | some o => simp [hx] at hj
  rw [List.getElem?_set_ne (Ne.symm e2)] at hj
  by_cases e : j = i
  · subst e
    rw [List.getElem?_set_self'] at hj
    cases hx : (zz_kill ls j)[j]? with
    | none => simp [hx] at hj
    | some o =>
      simp [hx] at hj
      subst hj
      exact h.2.2 _ List.mem_cons_self
  · rw [List.getElem?_set_ne (Ne.symm e)] at hj
    obtain ⟨h1, h2⟩ := zz_kill_get hj
    refine h.2.2 (j, zz_tr base b w) (List.mem_cons_of_mem _ (List.mem_filter.mpr ⟨zz_al_mem.mpr ⟨w, h1, rfl⟩, ?_⟩))
    simp only [zz_tr_cat, Bool.and_eq_true, Bool.not_eq_true', beq_eq_false_iff_ne, ne_eq, Bool.and_eq_false_iff]
    refine ⟨e, e2, ?_⟩
    by_cases q : j + 1 = i
    · exact Or.inr (fun c => h2 ⟨q, c⟩)
    · exact Or.inl q
/-- the locals at a method's entry -/
def zz_fl : List Value → List (Option Value)
  | [] => []
  | .long x :: vs => some (.long x) :: none :: zz_fl vs
  | .double x :: vs => some (.double x) :: none :: zz_fl vs
  | v :: vs => some v :: zz_fl vs
def zz_ent (n : Nat) (vs : List Value) : List (Option Value) := zz_fl vs ++ List.replicate (n - (zz_fl vs).length) none
theorem zz_fl_len (vs : List Value) (base b : Nat) : (lg_sl (vs.map (zz_tr base b))).length = (zz_fl vs).length := by
  induction vs with
  | nil => rfl
  | cons v vs ih => cases v <;> simpa [lg_sl, zz_fl, zz_tr, Value.category] using ih
theorem zz_fl_get (base b : Nat) : ∀ (vs : List Value) (o i : Nat) (v : Value), (zz_fl vs)[i]? = some (some v) → (o + i, zz_tr base b v) ∈ lv_args o (vs.map (zz_tr base b)) := by
  intro vs
  induction vs with
  | nil => intro o i v h; simp [zz_fl] at h
  | cons w vs ih =>
    intro o i v h
    have one : ∀ (u : Value), u.category = 1 → zz_fl (u :: vs) = some u :: zz_fl vs → (zz_fl (u :: vs))[i]? = some (some v) → (o + i, zz_tr base b v) ∈ lv_args o ((u :: vs).map (zz_tr base b)) := by
      intro u hu e h
      rw [e] at h
      have hc : (zz_tr base b u).category ≠ 2 := by rw [zz_tr_cat, hu]; decide
      simp only [List.map_cons, lv_args, if_neg hc]
      cases i with
      | zero => simp at h; subst h; exact List.mem_cons_self
      | succ i =>
        simp at h
        have := ih (o + 1) i v h
        rw [show o + (i + 1) = o + 1 + i by omega]
        exact List.mem_cons_of_mem _ this
    have two : ∀ (u : Value), u.category = 2 → zz_fl (u :: vs) = some u :: none :: zz_fl vs → (zz_fl (u :: vs))[i]? = some (some v) → (o + i, zz_tr base b v) ∈ lv_args o ((u :: vs).map (zz_tr base b)) := by
      intro u hu e h
      rw [e] at h
      have hc : (zz_tr base b u).category = 2 := by rw [zz_tr_cat, hu]
      simp only [List.map_cons, lv_args, if_pos hc]
      match i, h with
      | 0, h => simp at h; subst h; exact List.mem_cons_self
      | 1, h => simp at h
      | i + 2, h =>
        simp at h
        have := ih (o + 2) i v h
        rw [show o + (i + 2) = o + 2 + i by omega]
        exact List.mem_cons_of_mem _ this
    cases w with
    | long x => exact two (.long x) rfl rfl h
    | double x => exact two (.double x) rfl rfl h
    | int x => exact one (.int x) rfl rfl h
    | float x => exact one (.float x) rfl rfl h
    | null => exact one .null rfl rfl h
    | ref x => exact one (.ref x) rfl rfl h
    | retAddr x => exact one (.retAddr x) rfl rfl h
theorem zz_L.entry {base b n : Nat} {vs : List Value} (h : (zz_fl vs).length ≤ n) : zz_L base b ((lg_sl (vs.map (zz_tr base b)) ++ List.replicate (n - (lg_sl (vs.map (zz_tr base b))).length) Slot.unset).toArray) n (zz_ent n vs) := by
  have h0 := lv_entry (vs.map (zz_tr base b)) (n := n) (by rw [zz_fl_len]; exact h)
  refine ⟨h0.1, h0.2.1, fun i v hi => ?_⟩
  unfold zz_ent at hi
  by_cases hl : i < (zz_fl vs).length
  · rw [List.getElem?_append_left hl] at hi
    have := zz_fl_get base b vs 0 i v hi
    rw [Nat.zero_add] at this
    exact h0.2.2 _ this
  · rw [List.getElem?_append_right (by omega)] at hi
    have := List.eq_of_mem_replicate (List.mem_of_getElem? hi)
    cases this
end
section
/-! ===== the judgement: from here the machine comes to an end with Q ===== -/
/-- a cell that the worlds hold: its kind, its class or length -/
def zz_is (M : zz_M) (a t n : Nat) : Prop := 0 < a ∧ a ≤ M.1 ∧ (M.2 a).1 = t ∧ (M.2 a).2.1 = n
def zz_R (r : Option FieldType) (ins : Instr) (v : Option Value) : Prop :=
  (ins = .ireturn ∧ ∃ (x : Int32) (ty : FieldType), v = some (.int x) ∧ r = some ty ∧ narrow ty (.int x) = .int x) ∨ (ins = .lreturn ∧ ∃ x : Int64, v = some (.long x) ∧ r = some .long) ∨
  (ins = .areturn ∧ ∃ n : String, r = some (.object n) ∧ (v = some .null ∨ ∃ a : Nat, v = some (.ref a))) ∨ (ins = .return_ ∧ v = none ∧ r = none)
def zz_C (y : zz_Y) (d : Nat) (p : Program) (R : Room) (t0 : State) (m : MethodId) (args : Array Value) (meth : Method) (c : Code) (base : Nat) (D : va_G) (cT : Nat → ClassId) : Prop :=
  p.tables.exec = Jvm.exec ∧ c.code = y.2.1 ∧ c.maxLocals = y.2.2.1 ∧ t0.vm.findClass y.1.cls = some m.cls ∧ (∀ w ∈ zz_tbl, w.before args t0 = true) ∧ zz_K D cT t0 ∧ base ≤ t0.heap.size ∧ d ≤ R.frames ∧ 100 * d ≤ R.locals ∧ y.2.2.2.2 ≤ R.cells ∧ 1200 * y.2.2.2.2 ≤ R.slots ∧ (y.1.name = "<init>" → meth.name = "<init>")
def zz_Z (y : zz_Y) (Q : zz_Q) (p : Program) (l : Launch) (e : Env) (R : Room) (t0 : State) (m : MethodId) (args : Array Value) (below : List Frame) (meth : Method) (c : Code) (Z : State → Prop) (base b : Nat) (D : va_G) (cT : Nat → ClassId) : Prop :=
  ∀ (k pc : Nat) (H : Heap) (locs : List Loc) (arr : Array Slot) (ins : Instr) (v : Option Value) (M : zz_M) (I : zz_I) (J : zz_J), decode y.2.1 pc = .ok (ins, 1) → zz_R y.2.2.2.1 ins v → k ≤ y.2.2.2.2 → zz_W base b D cT M I J H → zz_X base b M I t0 H → va_S (fun q => base ≤ q) t0.heap H locs → Q v M I J →
    W p l e R t0 m args below meth c H locs k (1200 * k) Z (F0 m pc arr ((v.map (zz_tr base b)).toList))
def zz_H (y : zz_Y) (d k : Nat) (ls : List (Option Value)) (M : zz_M) (I : zz_I) (J : zz_J) (Q : zz_Q) (p : Program) (l : Launch) (e : Env) (R : Room) (t0 : State) (m : MethodId) (args : Array Value) (below : List Frame) (meth : Method) (c : Code) (Z : State → Prop) (base b : Nat) (D : va_G) (cT : Nat → ClassId) (H : Heap) (locs : List Loc) (arr : Array Slot) : Prop :=
  zz_C y d p R t0 m args meth c base D cT ∧ zz_Z y Q p l e R t0 m args below meth c Z base b D cT ∧ k ≤ y.2.2.2.2 ∧ zz_L base b arr y.2.2.1 ls ∧ zz_W base b D cT M I J H ∧ zz_X base b M I t0 H ∧ va_S (fun q => base ≤ q) t0.heap H locs
/-- from pc, with these locals, this stack, these cells, method y comes to its end, and Q holds of its answer and of the cells then -/
def zz_G (y : zz_Y) (d k pc : Nat) (ls : List (Option Value)) (st : List Value) (M : zz_M) (I : zz_I) (J : zz_J) (Q : zz_Q) : Prop :=
  ∀ (p : Program) (l : Launch) (e : Env) (R : Room) (t0 : State) (m : MethodId) (args : Array Value) (below : List Frame) (meth : Method) (c : Code) (Z : State → Prop) (base b : Nat) (D : va_G) (cT : Nat → ClassId) (H : Heap) (locs : List Loc) (arr : Array Slot),
    zz_H y d k ls M I J Q p l e R t0 m args below meth c Z base b D cT H locs arr → W p l e R t0 m args below meth c H locs k (1200 * k) Z (F0 m pc arr (st.map (zz_tr base b)))
def zz_rm (y : zz_Y) (d : Nat) : Room := { frames := d, cells := y.2.2.2.2, slots := 1200 * y.2.2.2.2, locals := 100 * d }
def zz_ws (y : zz_Y) : List Cond := Cond.code y.1 y.2.1 y.2.2.1 y.2.2.2.1 :: zz_tbl
def zz_Pc (base b : Nat) (D : va_G) (cT : Nat → ClassId) (As : List Value) (M : zz_M) (I : zz_I) (J : zz_J) : Array Value → State → Prop := fun v U => v = (As.map (zz_tr base b)).toArray ∧ zz_W base b D cT M I J U.heap ∧ zz_X base b M I U U.heap ∧ zz_K D cT U
def zz_Qc (base b : Nat) (D : va_G) (cT : Nat → ClassId) (Q : zz_Q) : Array Value → State → Outcome → State → Prop := fun _ st o t => (∃ (v : Option Value) (M : zz_M) (I : zz_I) (J : zz_J), o = .returned (v.map (zz_tr base b)) ∧ Q v M I J ∧ zz_W base b D cT M I J t.heap ∧ zz_X base b M I t t.heap) ∧ va_F (fun q => base ≤ q) st t
/-- the method y, called with As at these cells, returns, and Q holds of its answer and of the cells then -/
def zz_D (y : zz_Y) (d : Nat) (As : List Value) (M : zz_M) (I : zz_I) (J : zz_J) (Q : zz_Q) : Prop :=
  ∀ (l : Launch) (base b : Nat) (D : va_G) (cT : Nat → ClassId), Met l y.1 (zz_ws y) (zz_rm y d) (zz_Pc base b D cT As M I J) (zz_Qc base b D cT Q) y.2.2.2.2 (1200 * y.2.2.2.2) (fun q => base ≤ q)
theorem zz_X.moved {base b : Nat} {M : zz_M} {I : zz_I} {u U : State} {H : Heap} (hvm : u.vm.Alike U.vm) (h : zz_X base b M I u H) : zz_X base b M I U H := ⟨h.1, h.2.1, h.2.2.moved hvm⟩
theorem zz_D_of {y : zz_Y} {d : Nat} {As : List Value} {M : zz_M} {I : zz_I} {J : zz_J} {Q : zz_Q} (hy : plainName y.1.cls = true) (hf : (zz_fl As).length ≤ y.2.2.1) (h : zz_G y d 0 0 (zz_ent y.2.2.1 As) [] M I J Q) : zz_D y d As M I J Q := by
  intro l base b D cT
  refine Met.ofW (cc := y.2.1) (maxL := y.2.2.1) (ret := y.2.2.2.1) hy rfl ?_
  intro p e s m args below meth c s₁ B hml hv
  obtain ⟨rfl, hW, hX, hK⟩ := hv
  have hts := atoms_spec (ws := zz_ws y) B.pre
  have hown : s.vm.findClass y.1.cls = some m.cls := findClass_of_methodNamed B.named
  have hin : meth.name = y.1.name := (name_of_methodNamed B.named B.method).1
  have hr := B.returns
  have hlocks := B.notSynchronized
  rw [lg_entry_eq]
  refine h p l e (zz_rm y d) s m _ below meth c _ base b D cT s.heap [] _ ⟨⟨B.exec, B.bytes, hml, hown, fun w hw => hts w (List.mem_cons_of_mem _ hw), hK, by rw [hW.1]; omega, Nat.le_refl _, Nat.le_refl _, Nat.le_refl _, Nat.le_refl _, fun h => hin.trans h⟩, ?_, Nat.zero_le _, zz_L.entry hf, hW, hX, va_S.rf⟩
  intro k pc H locs arr ins v M' I' J' hd hR hk hW' hX' hS hQ
  have hq : ∀ (o : Option Value), o = v.map (zz_tr base b) → ∀ t : State, t.heap = H → s.WarmedH t.vm → zz_Qc base b D cT Q (As.map (zz_tr base b)).toArray s (.returned o) t := by
    intro o ho t ht hw
    subst ho
    refine ⟨⟨v, M', I', J', rfl, hQ, by rw [ht]; exact hW', ?_⟩, hS.F ht⟩
    rw [ht]
    exact hX'.moved hw.alike
  refine W.widen (k := y.2.2.2.2) (n := 1200 * y.2.2.2.2) hk (Nat.mul_le_mul_left _ hk) ?_
  rcases hR with ⟨rfl, x, ty, rfl, h1, h2⟩ | ⟨rfl, x, rfl, h1⟩ | ⟨rfl, n, h1, h2⟩ | ⟨rfl, rfl, h1⟩
  · exact W.zret (ty := ty) B.exec B.bytes (hr.trans h1) h2 (hq _ rfl) hS.2.2 hd hlocks
  · exact W.lret B.exec B.bytes (hr.trans h1) (hq _ rfl) hS.2.2 hd hlocks
  · rcases h2 with rfl | ⟨a, rfl⟩
    · exact W.aret B.exec B.bytes (hr.trans h1) (Or.inl ⟨n, rfl⟩) (Or.inl rfl) (hq _ rfl) hS.2.2 hd hlocks
    · exact W.aret B.exec B.bytes (hr.trans h1) (Or.inl ⟨n, rfl⟩) (Or.inr ⟨_, rfl⟩) (hq _ rfl) hS.2.2 hd hlocks
  · exact W.vret B.exec B.bytes (hr.trans h1) (hq _ rfl) hS.2.2 hd hlocks
theorem zz_Pc.blind {base b : Nat} {D : va_G} {cT : Nat → ClassId} {As : List Value} {M : zz_M} {I : zz_I} {J : zz_J} : FrameBlind (zz_Pc base b D cT As M I J) := by
  intro a U g mk h
  exact ⟨h.1, h.2.1, zz_X.moved (u := U) (U := U.calling g mk a) (Vm.Alike.refl U.vm) h.2.2.1, h.2.2.2.called⟩
theorem zz_Pc.at {base b : Nat} {D : va_G} {cT : Nat → ClassId} {As : List Value} {M : zz_M} {I : zz_I} {J : zz_J} {t0 : State} {H : Heap} (hW : zz_W base b D cT M I J H) (hX : zz_X base b M I t0 H) (hK : zz_K D cT t0) : ∀ U : State, U.heap = H → t0.WarmedH U.vm → zz_Pc base b D cT As M I J (As.map (zz_tr base b)).toArray U := by
  intro U hU hw
  refine ⟨rfl, by rw [hU]; exact hW, ?_, hK.moved hw⟩
  rw [hU]
  exact hX.moved hw.alike
/-- behind a call -/
theorem zz_back {y : zz_Y} {d k mc pc : Nat} {ls : List (Option Value)} {st st0 : List Value} {Q Q' : zz_Q} {p : Program} {l : Launch} {e : Env} {R : Room} {t0 : State} {m : MethodId} {args : Array Value} {below : List Frame} {meth : Method} {c : Code} {Z : State → Prop} {base b : Nat} {D : va_G} {cT : Nat → ClassId} {H : Heap} {locs : List Loc} {arr : Array Slot} {av : Array Value}
    (hC : zz_C y d p R t0 m args meth c base D cT) (hZ : zz_Z y Q p l e R t0 m args below meth c Z base b D cT) (hk : k + mc ≤ y.2.2.2.2) (hL : zz_L base b arr y.2.2.1 ls) (hS : va_S (fun q => base ≤ q) t0.heap H locs)
    (hr : va_Run p l e R t0 m args below meth c H locs k (1200 * k) mc (1200 * mc) (F0 m pc arr st0) (st.map (zz_tr base b)) (zz_Qc base b D cT Q' av) (fun q => base ≤ q))
    (kk : ∀ (v : Option Value) (M' : zz_M) (I' : zz_I) (J' : zz_J), Q' v M' I' J' → zz_G y d (k + mc) (pc + 3) ls (v.toList ++ st) M' I' J' Q) : W p l e R t0 m args below meth c H locs k (1200 * k) Z (F0 m pc arr st0) := by
  intro T hT X
  obtain ⟨v, st₀, t, T', L, h0, X', hLo, e1, e2, ⟨⟨w, M', I', J', hv, hq, hW', hX'⟩, hz, hkk⟩, stp⟩ := hr T hT X
  cases hv
  rw [h0] at hz hkk
  have hS' : va_S (fun q => base ≤ q) t0.heap T'.heap (locs ++ L) := by
    refine ⟨Nat.le_trans hS.1 (by rw [e1]; exact hz), fun q h1 h2 => ?_, fun q hq => ?_⟩
    · rw [e1, hkk q (Nat.lt_of_lt_of_le h1 hS.1) h2]
      exact hS.2.1 q h1 h2
    · rcases List.mem_append.mp hq with h | h
      · exact hS.2.2 q h
      · exact hLo q h
  rw [← Nat.mul_add] at X'
  obtain ⟨t2, a1, b1⟩ := kk w M' I' J' hq p l e R t0 m args below meth c Z base b D cT T'.heap (locs ++ L) arr ⟨hC, hZ, hk, hL, by rw [e1]; exact hW', by rw [e1]; exact hX'.moved (by rw [← e2]; exact X'.warmed.alike.symm), hS'⟩ T' rfl X'
  refine ⟨t2, stp t2 ?_, b1⟩
  have hh : (w.toList ++ st).map (zz_tr base b) = (w.map (zz_tr base b)).toList ++ st.map (zz_tr base b) := by cases w <;> simp
  rw [hh] at a1
  exact a1
end
section
/-! ===== rows: an instruction each ===== -/
def jv_ushr (x z : Int32) : Int32 := (x.toUInt32 >>> (z.toUInt32 &&& Int32.toUInt32 31)).toInt32
def jv_lushr (x : Int64) (z : Int32) : Int64 := (x.toUInt64 >>> (z.toInt64.toUInt64 &&& Int64.toUInt64 63)).toInt64
def jv_lshl (x : Int64) (z : Int32) : Int64 := x <<< (z.toInt64 &&& 63)
def jv_lshr (x : Int64) (z : Int32) : Int64 := x >>> (z.toInt64 &&& 63)
def jv_b (x : Int32) : Int32 := x.toInt8.toInt32
def jv_rem (x z : Int32) : Int32 := x - x / z * z
def jv_lrem (x z : Int64) : Int64 := x - x / z * z
section ZR
variable {y : zz_Y} {d k pc : Nat} {ls : List (Option Value)} {st : List Value} {M : zz_M} {I : zz_I} {J : zz_J} {Q : zz_Q}
theorem zz_iconst {n : Int} {v : Int32} (hv : Int32.ofInt n = v) (hd : decode y.2.1 pc = .ok (.iconst n, 1)) (kk : zz_G y d k (pc + 1) ls (.int v :: st) M I J Q) : zz_G y d k pc ls (st) M I J Q := by
  intro p l e R t0 m args below meth c Z base b D cT H locs arr hh
  obtain ⟨hC, hZ, hk, hL, hW, hX, hS⟩ := hh
  exact lv_iconst hC.1 hC.2.1 hd hv (kk p l e R t0 m args below meth c Z base b D cT H locs arr ⟨hC, hZ, hk, hL, hW, hX, hS⟩)
theorem zz_bipush {n : Int} {v : Int32} (hv : (Int8.ofInt n).toInt32 = v) (hd : decode y.2.1 pc = .ok (.bipush n, 2)) (kk : zz_G y d k (pc + 2) ls (.int v :: st) M I J Q) : zz_G y d k pc ls (st) M I J Q := by
  intro p l e R t0 m args below meth c Z base b D cT H locs arr hh
  obtain ⟨hC, hZ, hk, hL, hW, hX, hS⟩ := hh
  exact lv_bipush hC.1 hC.2.1 hd hv (kk p l e R t0 m args below meth c Z base b D cT H locs arr ⟨hC, hZ, hk, hL, hW, hX, hS⟩)
theorem zz_sipush {n : Int} {v : Int32} (hv : (Int16.ofInt n).toInt32 = v) (hd : decode y.2.1 pc = .ok (.sipush n, 3)) (kk : zz_G y d k (pc + 3) ls (.int v :: st) M I J Q) : zz_G y d k pc ls (st) M I J Q := by
  intro p l e R t0 m args below meth c Z base b D cT H locs arr hh
  obtain ⟨hC, hZ, hk, hL, hW, hX, hS⟩ := hh
  exact lv_sipush hC.1 hC.2.1 hd hv (kk p l e R t0 m args below meth c Z base b D cT H locs arr ⟨hC, hZ, hk, hL, hW, hX, hS⟩)
theorem zz_lconst {n : Fin 2} {v : Int64} (hv : Int64.ofNat (n : Nat) = v) (hd : decode y.2.1 pc = .ok (.lconst n, 1)) (kk : zz_G y d k (pc + 1) ls (.long v :: st) M I J Q) : zz_G y d k pc ls (st) M I J Q := by
  intro p l e R t0 m args below meth c Z base b D cT H locs arr hh
  obtain ⟨hC, hZ, hk, hL, hW, hX, hS⟩ := hh
  exact lv_lconst hC.1 hC.2.1 hd hv (kk p l e R t0 m args below meth c Z base b D cT H locs arr ⟨hC, hZ, hk, hL, hW, hX, hS⟩)
theorem zz_null  (hd : decode y.2.1 pc = .ok (.aconst_null, 1)) (kk : zz_G y d k (pc + 1) ls (.null :: st) M I J Q) : zz_G y d k pc ls (st) M I J Q := by
  intro p l e R t0 m args below meth c Z base b D cT H locs arr hh
  obtain ⟨hC, hZ, hk, hL, hW, hX, hS⟩ := hh
  exact lv_null hC.1 hC.2.1 hd (kk p l e R t0 m args below meth c Z base b D cT H locs arr ⟨hC, hZ, hk, hL, hW, hX, hS⟩)
theorem zz_ldc {n : Nat} {v : Int32} (hw : Cond.constant y.1.cls n v ∈ zz_tbl) (hd : decode y.2.1 pc = .ok (.ldc n, 2)) (kk : zz_G y d k (pc + 2) ls (.int v :: st) M I J Q) : zz_G y d k pc ls (st) M I J Q := by
  intro p l e R t0 m args below meth c Z base b D cT H locs arr hh
  obtain ⟨hC, hZ, hk, hL, hW, hX, hS⟩ := hh
  exact lv_ldc hC.1 hC.2.1 hC.2.2.2.1 (hC.2.2.2.2.1 _ hw) hd (kk p l e R t0 m args below meth c Z base b D cT H locs arr ⟨hC, hZ, hk, hL, hW, hX, hS⟩)
theorem zz_ldcw {n : Nat} {v : Int32} (hw : Cond.constant y.1.cls n v ∈ zz_tbl) (hd : decode y.2.1 pc = .ok (.ldc_w n, 3)) (kk : zz_G y d k (pc + 3) ls (.int v :: st) M I J Q) : zz_G y d k pc ls (st) M I J Q := by
  intro p l e R t0 m args below meth c Z base b D cT H locs arr hh
  obtain ⟨hC, hZ, hk, hL, hW, hX, hS⟩ := hh
  exact lv_ldcw hC.1 hC.2.1 hC.2.2.2.1 (hC.2.2.2.2.1 _ hw) hd (kk p l e R t0 m args below meth c Z base b D cT H locs arr ⟨hC, hZ, hk, hL, hW, hX, hS⟩)
theorem zz_ldc2 {n : Nat} {v : Int64} (hw : Cond.constantLong y.1.cls n v ∈ zz_tbl) (hd : decode y.2.1 pc = .ok (.ldc2_w n, 3)) (kk : zz_G y d k (pc + 3) ls (.long v :: st) M I J Q) : zz_G y d k pc ls (st) M I J Q := by
  intro p l e R t0 m args below meth c Z base b D cT H locs arr hh
  obtain ⟨hC, hZ, hk, hL, hW, hX, hS⟩ := hh
  exact lv_ldc2 hC.1 hC.2.1 hC.2.2.2.1 (hC.2.2.2.2.1 _ hw) hd (kk p l e R t0 m args below meth c Z base b D cT H locs arr ⟨hC, hZ, hk, hL, hW, hX, hS⟩)
theorem zz_iload_n {n : Fin 4} {x : Int32} (hl : ls[(n : Nat)]? = some (some (.int x))) (hd : decode y.2.1 pc = .ok (.iload_n n, 1)) (kk : zz_G y d k (pc + 1) ls (.int x :: st) M I J Q) : zz_G y d k pc ls (st) M I J Q := by
  intro p l e R t0 m args below meth c Z base b D cT H locs arr hh
  obtain ⟨hC, hZ, hk, hL, hW, hX, hS⟩ := hh
  exact lv_iload_n hC.1 hC.2.1 hd rfl (hL.2.2 _ _ hl) (kk p l e R t0 m args below meth c Z base b D cT H locs arr ⟨hC, hZ, hk, hL, hW, hX, hS⟩)
theorem zz_iload {n : Nat} {x : Int32} (hl : ls[n]? = some (some (.int x))) (hd : decode y.2.1 pc = .ok (.iload n, 2)) (kk : zz_G y d k (pc + 2) ls (.int x :: st) M I J Q) : zz_G y d k pc ls (st) M I J Q := by
  intro p l e R t0 m args below meth c Z base b D cT H locs arr hh
  obtain ⟨hC, hZ, hk, hL, hW, hX, hS⟩ := hh
  exact lv_iload hC.1 hC.2.1 hd (hL.2.2 _ _ hl) (kk p l e R t0 m args below meth c Z base b D cT H locs arr ⟨hC, hZ, hk, hL, hW, hX, hS⟩)
theorem zz_lload_n {n : Fin 4} {x : Int64} (hl : ls[(n : Nat)]? = some (some (.long x))) (hd : decode y.2.1 pc = .ok (.lload_n n, 1)) (kk : zz_G y d k (pc + 1) ls (.long x :: st) M I J Q) : zz_G y d k pc ls (st) M I J Q := by
  intro p l e R t0 m args below meth c Z base b D cT H locs arr hh
  obtain ⟨hC, hZ, hk, hL, hW, hX, hS⟩ := hh
  exact lv_lload_n hC.1 hC.2.1 hd rfl (hL.2.2 _ _ hl) (kk p l e R t0 m args below meth c Z base b D cT H locs arr ⟨hC, hZ, hk, hL, hW, hX, hS⟩)
theorem zz_lload {n : Nat} {x : Int64} (hl : ls[n]? = some (some (.long x))) (hd : decode y.2.1 pc = .ok (.lload n, 2)) (kk : zz_G y d k (pc + 2) ls (.long x :: st) M I J Q) : zz_G y d k pc ls (st) M I J Q := by
  intro p l e R t0 m args below meth c Z base b D cT H locs arr hh
  obtain ⟨hC, hZ, hk, hL, hW, hX, hS⟩ := hh
  exact lv_lload hC.1 hC.2.1 hd (hL.2.2 _ _ hl) (kk p l e R t0 m args below meth c Z base b D cT H locs arr ⟨hC, hZ, hk, hL, hW, hX, hS⟩)
theorem zz_aload_n {n : Fin 4} {x : Nat} (hl : ls[(n : Nat)]? = some (some (.ref x))) (hd : decode y.2.1 pc = .ok (.aload_n n, 1)) (kk : zz_G y d k (pc + 1) ls (.ref x :: st) M I J Q) : zz_G y d k pc ls (st) M I J Q := by
  intro p l e R t0 m args below meth c Z base b D cT H locs arr hh
  obtain ⟨hC, hZ, hk, hL, hW, hX, hS⟩ := hh
  exact lv_aload_n hC.1 hC.2.1 hd rfl (hL.2.2 _ _ hl) (kk p l e R t0 m args below meth c Z base b D cT H locs arr ⟨hC, hZ, hk, hL, hW, hX, hS⟩)
theorem zz_aload {n : Nat} {x : Nat} (hl : ls[n]? = some (some (.ref x))) (hd : decode y.2.1 pc = .ok (.aload n, 2)) (kk : zz_G y d k (pc + 2) ls (.ref x :: st) M I J Q) : zz_G y d k pc ls (st) M I J Q := by
  intro p l e R t0 m args below meth c Z base b D cT H locs arr hh
  obtain ⟨hC, hZ, hk, hL, hW, hX, hS⟩ := hh
  exact lv_aload hC.1 hC.2.1 hd (hL.2.2 _ _ hl) (kk p l e R t0 m args below meth c Z base b D cT H locs arr ⟨hC, hZ, hk, hL, hW, hX, hS⟩)
theorem zz_nload_n {n : Fin 4} (hl : ls[(n : Nat)]? = some (some .null)) (hd : decode y.2.1 pc = .ok (.aload_n n, 1)) (kk : zz_G y d k (pc + 1) ls (.null :: st) M I J Q) : zz_G y d k pc ls (st) M I J Q := by
  intro p l e R t0 m args below meth c Z base b D cT H locs arr hh
  obtain ⟨hC, hZ, hk, hL, hW, hX, hS⟩ := hh
  exact lv_aload_nN hC.1 hC.2.1 hd rfl (hL.2.2 _ _ hl) (kk p l e R t0 m args below meth c Z base b D cT H locs arr ⟨hC, hZ, hk, hL, hW, hX, hS⟩)
theorem zz_nload {n : Nat} (hl : ls[n]? = some (some .null)) (hd : decode y.2.1 pc = .ok (.aload n, 2)) (kk : zz_G y d k (pc + 2) ls (.null :: st) M I J Q) : zz_G y d k pc ls (st) M I J Q := by
  intro p l e R t0 m args below meth c Z base b D cT H locs arr hh
  obtain ⟨hC, hZ, hk, hL, hW, hX, hS⟩ := hh
  exact lv_aloadN hC.1 hC.2.1 hd (hL.2.2 _ _ hl) (kk p l e R t0 m args below meth c Z base b D cT H locs arr ⟨hC, hZ, hk, hL, hW, hX, hS⟩)
theorem zz_istore_n {n : Fin 4} {x : Int32} (hd : decode y.2.1 pc = .ok (.istore_n n, 1)) (hn : (n : Nat) < y.2.2.1) (kk : zz_G y d k (pc + 1) (zz_s1 ls (n : Nat) (.int x)) st M I J Q) : zz_G y d k pc ls (.int x :: st) M I J Q := by
  intro p l e R t0 m args below meth c Z base b D cT H locs arr hh
  obtain ⟨hC, hZ, hk, hL, hW, hX, hS⟩ := hh
  exact lv_istore_n hC.1 hC.2.1 hd rfl hL.has hn rfl (fun arr' hl => kk p l e R t0 m args below meth c Z base b D cT H locs arr' ⟨hC, hZ, hk, zz_L.store1 (v := .int x) hl, hW, hX, hS⟩)
theorem zz_istore {n : Nat} {x : Int32} (hd : decode y.2.1 pc = .ok (.istore n, 2)) (hn : n < y.2.2.1) (kk : zz_G y d k (pc + 2) (zz_s1 ls n (.int x)) st M I J Q) : zz_G y d k pc ls (.int x :: st) M I J Q := by
  intro p l e R t0 m args below meth c Z base b D cT H locs arr hh
  obtain ⟨hC, hZ, hk, hL, hW, hX, hS⟩ := hh
  exact lv_istore hC.1 hC.2.1 hd hL.has hn rfl (fun arr' hl => kk p l e R t0 m args below meth c Z base b D cT H locs arr' ⟨hC, hZ, hk, zz_L.store1 (v := .int x) hl, hW, hX, hS⟩)
theorem zz_lstore_n {n : Fin 4} {x : Int64} (hd : decode y.2.1 pc = .ok (.lstore_n n, 1)) (hn : (n : Nat) + 1 < y.2.2.1) (kk : zz_G y d k (pc + 1) (zz_s2 ls (n : Nat) (.long x)) st M I J Q) : zz_G y d k pc ls (.long x :: st) M I J Q := by
  intro p l e R t0 m args below meth c Z base b D cT H locs arr hh
  obtain ⟨hC, hZ, hk, hL, hW, hX, hS⟩ := hh
  exact lv_lstore_n hC.1 hC.2.1 hd rfl hL.has hn rfl (fun arr' hl => kk p l e R t0 m args below meth c Z base b D cT H locs arr' ⟨hC, hZ, hk, zz_L.store2 (v := .long x) hl, hW, hX, hS⟩)
theorem zz_lstore {n : Nat} {x : Int64} (hd : decode y.2.1 pc = .ok (.lstore n, 2)) (hn : n + 1 < y.2.2.1) (kk : zz_G y d k (pc + 2) (zz_s2 ls n (.long x)) st M I J Q) : zz_G y d k pc ls (.long x :: st) M I J Q := by
  intro p l e R t0 m args below meth c Z base b D cT H locs arr hh
  obtain ⟨hC, hZ, hk, hL, hW, hX, hS⟩ := hh
  exact lv_lstore hC.1 hC.2.1 hd hL.has hn rfl (fun arr' hl => kk p l e R t0 m args below meth c Z base b D cT H locs arr' ⟨hC, hZ, hk, zz_L.store2 (v := .long x) hl, hW, hX, hS⟩)
theorem zz_astore_n {n : Fin 4} {x : Nat} (hd : decode y.2.1 pc = .ok (.astore_n n, 1)) (hn : (n : Nat) < y.2.2.1) (kk : zz_G y d k (pc + 1) (zz_s1 ls (n : Nat) (.ref x)) st M I J Q) : zz_G y d k pc ls (.ref x :: st) M I J Q := by
  intro p l e R t0 m args below meth c Z base b D cT H locs arr hh
  obtain ⟨hC, hZ, hk, hL, hW, hX, hS⟩ := hh
  exact lv_astore_n hC.1 hC.2.1 hd rfl hL.has hn rfl (fun arr' hl => kk p l e R t0 m args below meth c Z base b D cT H locs arr' ⟨hC, hZ, hk, zz_L.store1 (v := .ref x) hl, hW, hX, hS⟩)
theorem zz_astore {n : Nat} {x : Nat} (hd : decode y.2.1 pc = .ok (.astore n, 2)) (hn : n < y.2.2.1) (kk : zz_G y d k (pc + 2) (zz_s1 ls n (.ref x)) st M I J Q) : zz_G y d k pc ls (.ref x :: st) M I J Q := by
  intro p l e R t0 m args below meth c Z base b D cT H locs arr hh
  obtain ⟨hC, hZ, hk, hL, hW, hX, hS⟩ := hh
  exact lv_astore hC.1 hC.2.1 hd hL.has hn rfl (fun arr' hl => kk p l e R t0 m args below meth c Z base b D cT H locs arr' ⟨hC, hZ, hk, zz_L.store1 (v := .ref x) hl, hW, hX, hS⟩)
theorem zz_nstore_n {n : Fin 4} (hd : decode y.2.1 pc = .ok (.astore_n n, 1)) (hn : (n : Nat) < y.2.2.1) (kk : zz_G y d k (pc + 1) (zz_s1 ls (n : Nat) (.null)) st M I J Q) : zz_G y d k pc ls (.null :: st) M I J Q := by
  intro p l e R t0 m args below meth c Z base b D cT H locs arr hh
  obtain ⟨hC, hZ, hk, hL, hW, hX, hS⟩ := hh
  exact lv_astore_nN hC.1 hC.2.1 hd rfl hL.has hn rfl (fun arr' hl => kk p l e R t0 m args below meth c Z base b D cT H locs arr' ⟨hC, hZ, hk, zz_L.store1 (v := .null) hl, hW, hX, hS⟩)
theorem zz_nstore {n : Nat} (hd : decode y.2.1 pc = .ok (.astore n, 2)) (hn : n < y.2.2.1) (kk : zz_G y d k (pc + 2) (zz_s1 ls n (.null)) st M I J Q) : zz_G y d k pc ls (.null :: st) M I J Q := by
  intro p l e R t0 m args below meth c Z base b D cT H locs arr hh
  obtain ⟨hC, hZ, hk, hL, hW, hX, hS⟩ := hh
  exact lv_astoreN hC.1 hC.2.1 hd hL.has hn rfl (fun arr' hl => kk p l e R t0 m args below meth c Z base b D cT H locs arr' ⟨hC, hZ, hk, zz_L.store1 (v := .null) hl, hW, hX, hS⟩)
theorem zz_iinc {n : Nat} {j : Int} {x v : Int32} (hd : decode y.2.1 pc = .ok (.iinc n j, 3)) (hl : ls[n]? = some (some (.int x))) (hv : x + Int32.ofInt j = v) (hn : n < y.2.2.1) (kk : zz_G y d k (pc + 3) (zz_s1 ls n (.int v)) st M I J Q) : zz_G y d k pc ls st M I J Q := by
  intro p l e R t0 m args below meth c Z base b D cT H locs arr hh
  obtain ⟨hC, hZ, hk, hL, hW, hX, hS⟩ := hh
  obtain ⟨q, hq⟩ := List.getElem?_of_mem (zz_al_mem.mpr ⟨.int x, hl, rfl⟩ : ((n, zz_tr base b (.int x)) : Nat × Value) ∈ zz_al base b ls)
  exact lv_iinc hC.1 hC.2.1 hd hL.has hq hv hn rfl (fun arr' hl => kk p l e R t0 m args below meth c Z base b D cT H locs arr' ⟨hC, hZ, hk, zz_L.store1 (v := .int v) hl, hW, hX, hS⟩)
theorem zz_iadd {x z : Int32} (hd : decode y.2.1 pc = .ok (.iadd, 1)) (kk : zz_G y d k (pc + 1) ls (.int (x + z) :: st) M I J Q) : zz_G y d k pc ls (.int z :: .int x :: st) M I J Q := by
  intro p l e R t0 m args below meth c Z base b D cT H locs arr hh
  obtain ⟨hC, hZ, hk, hL, hW, hX, hS⟩ := hh
  exact lv_iadd hC.1 hC.2.1 hd (kk p l e R t0 m args below meth c Z base b D cT H locs arr ⟨hC, hZ, hk, hL, hW, hX, hS⟩)
theorem zz_isub {x z : Int32} (hd : decode y.2.1 pc = .ok (.isub, 1)) (kk : zz_G y d k (pc + 1) ls (.int (x - z) :: st) M I J Q) : zz_G y d k pc ls (.int z :: .int x :: st) M I J Q := by
  intro p l e R t0 m args below meth c Z base b D cT H locs arr hh
  obtain ⟨hC, hZ, hk, hL, hW, hX, hS⟩ := hh
  exact lv_isub hC.1 hC.2.1 hd (kk p l e R t0 m args below meth c Z base b D cT H locs arr ⟨hC, hZ, hk, hL, hW, hX, hS⟩)
theorem zz_imul {x z : Int32} (hd : decode y.2.1 pc = .ok (.imul, 1)) (kk : zz_G y d k (pc + 1) ls (.int (x * z) :: st) M I J Q) : zz_G y d k pc ls (.int z :: .int x :: st) M I J Q := by
  intro p l e R t0 m args below meth c Z base b D cT H locs arr hh
  obtain ⟨hC, hZ, hk, hL, hW, hX, hS⟩ := hh
  exact lv_imul hC.1 hC.2.1 hd (kk p l e R t0 m args below meth c Z base b D cT H locs arr ⟨hC, hZ, hk, hL, hW, hX, hS⟩)
theorem zz_iand {x z : Int32} (hd : decode y.2.1 pc = .ok (.iand, 1)) (kk : zz_G y d k (pc + 1) ls (.int (x &&& z) :: st) M I J Q) : zz_G y d k pc ls (.int z :: .int x :: st) M I J Q := by
  intro p l e R t0 m args below meth c Z base b D cT H locs arr hh
  obtain ⟨hC, hZ, hk, hL, hW, hX, hS⟩ := hh
  exact lv_iand hC.1 hC.2.1 hd (kk p l e R t0 m args below meth c Z base b D cT H locs arr ⟨hC, hZ, hk, hL, hW, hX, hS⟩)
theorem zz_ior {x z : Int32} (hd : decode y.2.1 pc = .ok (.ior, 1)) (kk : zz_G y d k (pc + 1) ls (.int (x ||| z) :: st) M I J Q) : zz_G y d k pc ls (.int z :: .int x :: st) M I J Q := by
  intro p l e R t0 m args below meth c Z base b D cT H locs arr hh
  obtain ⟨hC, hZ, hk, hL, hW, hX, hS⟩ := hh
  exact lv_ior hC.1 hC.2.1 hd (kk p l e R t0 m args below meth c Z base b D cT H locs arr ⟨hC, hZ, hk, hL, hW, hX, hS⟩)
theorem zz_ixor {x z : Int32} (hd : decode y.2.1 pc = .ok (.ixor, 1)) (kk : zz_G y d k (pc + 1) ls (.int (x ^^^ z) :: st) M I J Q) : zz_G y d k pc ls (.int z :: .int x :: st) M I J Q := by
  intro p l e R t0 m args below meth c Z base b D cT H locs arr hh
  obtain ⟨hC, hZ, hk, hL, hW, hX, hS⟩ := hh
  exact lv_ixor hC.1 hC.2.1 hd (kk p l e R t0 m args below meth c Z base b D cT H locs arr ⟨hC, hZ, hk, hL, hW, hX, hS⟩)
theorem zz_ishl {x z : Int32} (hd : decode y.2.1 pc = .ok (.ishl, 1)) (kk : zz_G y d k (pc + 1) ls (.int (x <<< (z &&& 31)) :: st) M I J Q) : zz_G y d k pc ls (.int z :: .int x :: st) M I J Q := by
  intro p l e R t0 m args below meth c Z base b D cT H locs arr hh
  obtain ⟨hC, hZ, hk, hL, hW, hX, hS⟩ := hh
  exact lv_ishl hC.1 hC.2.1 hd (kk p l e R t0 m args below meth c Z base b D cT H locs arr ⟨hC, hZ, hk, hL, hW, hX, hS⟩)
theorem zz_ishr {x z : Int32} (hd : decode y.2.1 pc = .ok (.ishr, 1)) (kk : zz_G y d k (pc + 1) ls (.int (x >>> (z &&& 31)) :: st) M I J Q) : zz_G y d k pc ls (.int z :: .int x :: st) M I J Q := by
  intro p l e R t0 m args below meth c Z base b D cT H locs arr hh
  obtain ⟨hC, hZ, hk, hL, hW, hX, hS⟩ := hh
  exact lv_ishr hC.1 hC.2.1 hd (kk p l e R t0 m args below meth c Z base b D cT H locs arr ⟨hC, hZ, hk, hL, hW, hX, hS⟩)
theorem zz_idiv {x z : Int32} (hne : ¬ z = 0) (hd : decode y.2.1 pc = .ok (.idiv, 1)) (kk : zz_G y d k (pc + 1) ls (.int (x / z) :: st) M I J Q) : zz_G y d k pc ls (.int z :: .int x :: st) M I J Q := by
  intro p l e R t0 m args below meth c Z base b D cT H locs arr hh
  obtain ⟨hC, hZ, hk, hL, hW, hX, hS⟩ := hh
  exact lv_idiv hC.1 hC.2.1 hd hne (kk p l e R t0 m args below meth c Z base b D cT H locs arr ⟨hC, hZ, hk, hL, hW, hX, hS⟩)
theorem zz_irem {x z : Int32} (hne : ¬ z = 0) (hd : decode y.2.1 pc = .ok (.irem, 1)) (kk : zz_G y d k (pc + 1) ls (.int (jv_rem x z) :: st) M I J Q) : zz_G y d k pc ls (.int z :: .int x :: st) M I J Q := by
  intro p l e R t0 m args below meth c Z base b D cT H locs arr hh
  obtain ⟨hC, hZ, hk, hL, hW, hX, hS⟩ := hh
  exact lv_irem hC.1 hC.2.1 hd hne (kk p l e R t0 m args below meth c Z base b D cT H locs arr ⟨hC, hZ, hk, hL, hW, hX, hS⟩)
theorem zz_ladd {x z : Int64} (hd : decode y.2.1 pc = .ok (.ladd, 1)) (kk : zz_G y d k (pc + 1) ls (.long (x + z) :: st) M I J Q) : zz_G y d k pc ls (.long z :: .long x :: st) M I J Q := by
  intro p l e R t0 m args below meth c Z base b D cT H locs arr hh
  obtain ⟨hC, hZ, hk, hL, hW, hX, hS⟩ := hh
  exact lv_ladd hC.1 hC.2.1 hd (kk p l e R t0 m args below meth c Z base b D cT H locs arr ⟨hC, hZ, hk, hL, hW, hX, hS⟩)
theorem zz_lsub {x z : Int64} (hd : decode y.2.1 pc = .ok (.lsub, 1)) (kk : zz_G y d k (pc + 1) ls (.long (x - z) :: st) M I J Q) : zz_G y d k pc ls (.long z :: .long x :: st) M I J Q := by
  intro p l e R t0 m args below meth c Z base b D cT H locs arr hh
  obtain ⟨hC, hZ, hk, hL, hW, hX, hS⟩ := hh
  exact lv_lsub hC.1 hC.2.1 hd (kk p l e R t0 m args below meth c Z base b D cT H locs arr ⟨hC, hZ, hk, hL, hW, hX, hS⟩)
theorem zz_lmul {x z : Int64} (hd : decode y.2.1 pc = .ok (.lmul, 1)) (kk : zz_G y d k (pc + 1) ls (.long (x * z) :: st) M I J Q) : zz_G y d k pc ls (.long z :: .long x :: st) M I J Q := by
  intro p l e R t0 m args below meth c Z base b D cT H locs arr hh
  obtain ⟨hC, hZ, hk, hL, hW, hX, hS⟩ := hh
  exact lv_lmul hC.1 hC.2.1 hd (kk p l e R t0 m args below meth c Z base b D cT H locs arr ⟨hC, hZ, hk, hL, hW, hX, hS⟩)
theorem zz_land {x z : Int64} (hd : decode y.2.1 pc = .ok (.land, 1)) (kk : zz_G y d k (pc + 1) ls (.long (x &&& z) :: st) M I J Q) : zz_G y d k pc ls (.long z :: .long x :: st) M I J Q := by
  intro p l e R t0 m args below meth c Z base b D cT H locs arr hh
  obtain ⟨hC, hZ, hk, hL, hW, hX, hS⟩ := hh
  exact lv_land hC.1 hC.2.1 hd (kk p l e R t0 m args below meth c Z base b D cT H locs arr ⟨hC, hZ, hk, hL, hW, hX, hS⟩)
theorem zz_lor {x z : Int64} (hd : decode y.2.1 pc = .ok (.lor, 1)) (kk : zz_G y d k (pc + 1) ls (.long (x ||| z) :: st) M I J Q) : zz_G y d k pc ls (.long z :: .long x :: st) M I J Q := by
  intro p l e R t0 m args below meth c Z base b D cT H locs arr hh
  obtain ⟨hC, hZ, hk, hL, hW, hX, hS⟩ := hh
  exact lv_lor hC.1 hC.2.1 hd (kk p l e R t0 m args below meth c Z base b D cT H locs arr ⟨hC, hZ, hk, hL, hW, hX, hS⟩)
theorem zz_lxor {x z : Int64} (hd : decode y.2.1 pc = .ok (.lxor, 1)) (kk : zz_G y d k (pc + 1) ls (.long (x ^^^ z) :: st) M I J Q) : zz_G y d k pc ls (.long z :: .long x :: st) M I J Q := by
  intro p l e R t0 m args below meth c Z base b D cT H locs arr hh
  obtain ⟨hC, hZ, hk, hL, hW, hX, hS⟩ := hh
  exact lv_lxor hC.1 hC.2.1 hd (kk p l e R t0 m args below meth c Z base b D cT H locs arr ⟨hC, hZ, hk, hL, hW, hX, hS⟩)
theorem zz_ldiv {x z : Int64} (hne : ¬ z = 0) (hd : decode y.2.1 pc = .ok (.ldiv, 1)) (kk : zz_G y d k (pc + 1) ls (.long (x / z) :: st) M I J Q) : zz_G y d k pc ls (.long z :: .long x :: st) M I J Q := by
  intro p l e R t0 m args below meth c Z base b D cT H locs arr hh
  obtain ⟨hC, hZ, hk, hL, hW, hX, hS⟩ := hh
  exact lv_ldiv hC.1 hC.2.1 hd hne (kk p l e R t0 m args below meth c Z base b D cT H locs arr ⟨hC, hZ, hk, hL, hW, hX, hS⟩)
theorem zz_lrem {x z : Int64} (hne : ¬ z = 0) (hd : decode y.2.1 pc = .ok (.lrem, 1)) (kk : zz_G y d k (pc + 1) ls (.long (jv_lrem x z) :: st) M I J Q) : zz_G y d k pc ls (.long z :: .long x :: st) M I J Q := by
  intro p l e R t0 m args below meth c Z base b D cT H locs arr hh
  obtain ⟨hC, hZ, hk, hL, hW, hX, hS⟩ := hh
  exact lv_lrem hC.1 hC.2.1 hd hne (kk p l e R t0 m args below meth c Z base b D cT H locs arr ⟨hC, hZ, hk, hL, hW, hX, hS⟩)
theorem zz_lneg {x : Int64} (hd : decode y.2.1 pc = .ok (.lneg, 1)) (kk : zz_G y d k (pc + 1) ls (.long (-x) :: st) M I J Q) : zz_G y d k pc ls (.long x :: st) M I J Q := by
  intro p l e R t0 m args below meth c Z base b D cT H locs arr hh
  obtain ⟨hC, hZ, hk, hL, hW, hX, hS⟩ := hh
  exact lv_lneg hC.1 hC.2.1 hd (kk p l e R t0 m args below meth c Z base b D cT H locs arr ⟨hC, hZ, hk, hL, hW, hX, hS⟩)
/-- the shifts to the right without sign, as the machine has them -/
theorem zz_iushr {x z : Int32} (hd : decode y.2.1 pc = .ok (.iushr, 1)) (kk : zz_G y d k (pc + 1) ls (.int (jv_ushr x z) :: st) M I J Q) : zz_G y d k pc ls (.int z :: .int x :: st) M I J Q := by
  intro p l e R t0 m args below meth c Z base b D cT H locs arr hh
  obtain ⟨hC, hZ, hk, hL, hW, hX, hS⟩ := hh
  exact lv_iushr hC.1 hC.2.1 hd rfl (kk p l e R t0 m args below meth c Z base b D cT H locs arr ⟨hC, hZ, hk, hL, hW, hX, hS⟩)
theorem zz_lushr {x : Int64} {z : Int32} (hd : decode y.2.1 pc = .ok (.lushr, 1)) (kk : zz_G y d k (pc + 1) ls (.long (jv_lushr x z) :: st) M I J Q) : zz_G y d k pc ls (.int z :: .long x :: st) M I J Q := by
  intro p l e R t0 m args below meth c Z base b D cT H locs arr hh
  obtain ⟨hC, hZ, hk, hL, hW, hX, hS⟩ := hh
  exact lv_lushr hC.1 hC.2.1 hd rfl (kk p l e R t0 m args below meth c Z base b D cT H locs arr ⟨hC, hZ, hk, hL, hW, hX, hS⟩)
theorem zz_lshl {x : Int64} {z : Int32} (hd : decode y.2.1 pc = .ok (.lshl, 1)) (kk : zz_G y d k (pc + 1) ls (.long (jv_lshl x z) :: st) M I J Q) : zz_G y d k pc ls (.int z :: .long x :: st) M I J Q := by
  intro p l e R t0 m args below meth c Z base b D cT H locs arr hh
  obtain ⟨hC, hZ, hk, hL, hW, hX, hS⟩ := hh
  exact lv_lshl hC.1 hC.2.1 hd rfl (kk p l e R t0 m args below meth c Z base b D cT H locs arr ⟨hC, hZ, hk, hL, hW, hX, hS⟩)
theorem zz_lshr {x : Int64} {z : Int32} (hd : decode y.2.1 pc = .ok (.lshr, 1)) (kk : zz_G y d k (pc + 1) ls (.long (jv_lshr x z) :: st) M I J Q) : zz_G y d k pc ls (.int z :: .long x :: st) M I J Q := by
  intro p l e R t0 m args below meth c Z base b D cT H locs arr hh
  obtain ⟨hC, hZ, hk, hL, hW, hX, hS⟩ := hh
  exact lv_lshr hC.1 hC.2.1 hd rfl (kk p l e R t0 m args below meth c Z base b D cT H locs arr ⟨hC, hZ, hk, hL, hW, hX, hS⟩)
theorem zz_i2l {x : Int32} (hd : decode y.2.1 pc = .ok (.i2l, 1)) (kk : zz_G y d k (pc + 1) ls (.long x.toInt64 :: st) M I J Q) : zz_G y d k pc ls (.int x :: st) M I J Q := by
  intro p l e R t0 m args below meth c Z base b D cT H locs arr hh
  obtain ⟨hC, hZ, hk, hL, hW, hX, hS⟩ := hh
  exact lv_i2l hC.1 hC.2.1 hd rfl (kk p l e R t0 m args below meth c Z base b D cT H locs arr ⟨hC, hZ, hk, hL, hW, hX, hS⟩)
theorem zz_l2i {x : Int64} (hd : decode y.2.1 pc = .ok (.l2i, 1)) (kk : zz_G y d k (pc + 1) ls (.int x.toInt32 :: st) M I J Q) : zz_G y d k pc ls (.long x :: st) M I J Q := by
  intro p l e R t0 m args below meth c Z base b D cT H locs arr hh
  obtain ⟨hC, hZ, hk, hL, hW, hX, hS⟩ := hh
  exact lv_l2i hC.1 hC.2.1 hd rfl (kk p l e R t0 m args below meth c Z base b D cT H locs arr ⟨hC, hZ, hk, hL, hW, hX, hS⟩)
theorem zz_i2b {x : Int32} (hd : decode y.2.1 pc = .ok (.i2b, 1)) (kk : zz_G y d k (pc + 1) ls (.int (jv_b x) :: st) M I J Q) : zz_G y d k pc ls (.int x :: st) M I J Q := by
  intro p l e R t0 m args below meth c Z base b D cT H locs arr hh
  obtain ⟨hC, hZ, hk, hL, hW, hX, hS⟩ := hh
  exact lv_i2b hC.1 hC.2.1 hd rfl (kk p l e R t0 m args below meth c Z base b D cT H locs arr ⟨hC, hZ, hk, hL, hW, hX, hS⟩)
theorem zz_lcmp {x z : Int64} (hd : decode y.2.1 pc = .ok (.lcmp, 1)) (kk : zz_G y d k (pc + 1) ls (.int (lg_cmp x z) :: st) M I J Q) : zz_G y d k pc ls (.long z :: .long x :: st) M I J Q := by
  intro p l e R t0 m args below meth c Z base b D cT H locs arr hh
  obtain ⟨hC, hZ, hk, hL, hW, hX, hS⟩ := hh
  exact W.lcmp hC.1 hC.2.1 hd (kk p l e R t0 m args below meth c Z base b D cT H locs arr ⟨hC, hZ, hk, hL, hW, hX, hS⟩)
theorem zz_dup {v : Value} (hv : v.category = 1) (hd : decode y.2.1 pc = .ok (.dup, 1)) (kk : zz_G y d k (pc + 1) ls (v :: v :: st) M I J Q) : zz_G y d k pc ls (v :: st) M I J Q := by
  intro p l e R t0 m args below meth c Z base b D cT H locs arr hh
  obtain ⟨hC, hZ, hk, hL, hW, hX, hS⟩ := hh
  exact lv_dup hC.1 hC.2.1 hd ((zz_tr_cat base b v).trans hv) (kk p l e R t0 m args below meth c Z base b D cT H locs arr ⟨hC, hZ, hk, hL, hW, hX, hS⟩)
theorem zz_pop {v : Value} (hv : v.category = 1) (hd : decode y.2.1 pc = .ok (.pop, 1)) (kk : zz_G y d k (pc + 1) ls (st) M I J Q) : zz_G y d k pc ls (v :: st) M I J Q := by
  intro p l e R t0 m args below meth c Z base b D cT H locs arr hh
  obtain ⟨hC, hZ, hk, hL, hW, hX, hS⟩ := hh
  exact lv_pop hC.1 hC.2.1 hd ((zz_tr_cat base b v).trans hv) (kk p l e R t0 m args below meth c Z base b D cT H locs arr ⟨hC, hZ, hk, hL, hW, hX, hS⟩)
theorem zz_dup2 {v w : Value} (hv : v.category = 1) (hw : w.category = 1) (hd : decode y.2.1 pc = .ok (.dup2, 1)) (kk : zz_G y d k (pc + 1) ls (v :: w :: v :: w :: st) M I J Q) : zz_G y d k pc ls (v :: w :: st) M I J Q := by
  intro p l e R t0 m args below meth c Z base b D cT H locs arr hh
  obtain ⟨hC, hZ, hk, hL, hW, hX, hS⟩ := hh
  exact lv_dup2_11 hC.1 hC.2.1 hd ((zz_tr_cat base b v).trans hv) ((zz_tr_cat base b w).trans hw) (kk p l e R t0 m args below meth c Z base b D cT H locs arr ⟨hC, hZ, hk, hL, hW, hX, hS⟩)
theorem zz_dup2l {v : Value} (hv : v.category = 2) (hd : decode y.2.1 pc = .ok (.dup2, 1)) (kk : zz_G y d k (pc + 1) ls (v :: v :: st) M I J Q) : zz_G y d k pc ls (v :: st) M I J Q := by
  intro p l e R t0 m args below meth c Z base b D cT H locs arr hh
  obtain ⟨hC, hZ, hk, hL, hW, hX, hS⟩ := hh
  exact lv_dup2_2 hC.1 hC.2.1 hd ((zz_tr_cat base b v).trans hv) (kk p l e R t0 m args below meth c Z base b D cT H locs arr ⟨hC, hZ, hk, hL, hW, hX, hS⟩)
theorem zz_if_eq {x : Int32} {off : Int} {tgt : Nat} (hd : decode y.2.1 pc = .ok (.ifCond .eq off, 3)) (ht : (pc : Int) + off = (tgt : Int)) (kt : x = 0 → zz_G y d k tgt ls st M I J Q) (kf : ¬ x = 0 → zz_G y d k (pc + 3) ls st M I J Q) : zz_G y d k pc ls (.int x :: st) M I J Q := by
  intro p l e R t0 m args below meth c Z base b D cT H locs arr hh
  obtain ⟨hC, hZ, hk, hL, hW, hX, hS⟩ := hh
  exact lv_if_eq hC.1 hC.2.1 hd ht (fun h => kt h p l e R t0 m args below meth c Z base b D cT H locs arr ⟨hC, hZ, hk, hL, hW, hX, hS⟩) (fun h => kf h p l e R t0 m args below meth c Z base b D cT H locs arr ⟨hC, hZ, hk, hL, hW, hX, hS⟩)
theorem zz_icmp_eq {x z : Int32} {off : Int} {tgt : Nat} (hd : decode y.2.1 pc = .ok (.if_icmp .eq off, 3)) (ht : (pc : Int) + off = (tgt : Int)) (kt : x = z → zz_G y d k tgt ls st M I J Q) (kf : ¬ x = z → zz_G y d k (pc + 3) ls st M I J Q) : zz_G y d k pc ls (.int z :: .int x :: st) M I J Q := by
  intro p l e R t0 m args below meth c Z base b D cT H locs arr hh
  obtain ⟨hC, hZ, hk, hL, hW, hX, hS⟩ := hh
  exact lv_icmp_eq hC.1 hC.2.1 hd ht (fun h => kt h p l e R t0 m args below meth c Z base b D cT H locs arr ⟨hC, hZ, hk, hL, hW, hX, hS⟩) (fun h => kf h p l e R t0 m args below meth c Z base b D cT H locs arr ⟨hC, hZ, hk, hL, hW, hX, hS⟩)
theorem zz_if_ne {x : Int32} {off : Int} {tgt : Nat} (hd : decode y.2.1 pc = .ok (.ifCond .ne off, 3)) (ht : (pc : Int) + off = (tgt : Int)) (kt : ¬ x = 0 → zz_G y d k tgt ls st M I J Q) (kf : x = 0 → zz_G y d k (pc + 3) ls st M I J Q) : zz_G y d k pc ls (.int x :: st) M I J Q := by
  intro p l e R t0 m args below meth c Z base b D cT H locs arr hh
  obtain ⟨hC, hZ, hk, hL, hW, hX, hS⟩ := hh
  exact lv_if_ne hC.1 hC.2.1 hd ht (fun h => kt h p l e R t0 m args below meth c Z base b D cT H locs arr ⟨hC, hZ, hk, hL, hW, hX, hS⟩) (fun h => kf h p l e R t0 m args below meth c Z base b D cT H locs arr ⟨hC, hZ, hk, hL, hW, hX, hS⟩)
theorem zz_icmp_ne {x z : Int32} {off : Int} {tgt : Nat} (hd : decode y.2.1 pc = .ok (.if_icmp .ne off, 3)) (ht : (pc : Int) + off = (tgt : Int)) (kt : ¬ x = z → zz_G y d k tgt ls st M I J Q) (kf : x = z → zz_G y d k (pc + 3) ls st M I J Q) : zz_G y d k pc ls (.int z :: .int x :: st) M I J Q := by
  intro p l e R t0 m args below meth c Z base b D cT H locs arr hh
  obtain ⟨hC, hZ, hk, hL, hW, hX, hS⟩ := hh
  exact lv_icmp_ne hC.1 hC.2.1 hd ht (fun h => kt h p l e R t0 m args below meth c Z base b D cT H locs arr ⟨hC, hZ, hk, hL, hW, hX, hS⟩) (fun h => kf h p l e R t0 m args below meth c Z base b D cT H locs arr ⟨hC, hZ, hk, hL, hW, hX, hS⟩)
theorem zz_if_lt {x : Int32} {off : Int} {tgt : Nat} (hd : decode y.2.1 pc = .ok (.ifCond .lt off, 3)) (ht : (pc : Int) + off = (tgt : Int)) (kt : x < 0 → zz_G y d k tgt ls st M I J Q) (kf : ¬ x < 0 → zz_G y d k (pc + 3) ls st M I J Q) : zz_G y d k pc ls (.int x :: st) M I J Q := by
  intro p l e R t0 m args below meth c Z base b D cT H locs arr hh
  obtain ⟨hC, hZ, hk, hL, hW, hX, hS⟩ := hh
  exact lv_if_lt hC.1 hC.2.1 hd ht (fun h => kt h p l e R t0 m args below meth c Z base b D cT H locs arr ⟨hC, hZ, hk, hL, hW, hX, hS⟩) (fun h => kf h p l e R t0 m args below meth c Z base b D cT H locs arr ⟨hC, hZ, hk, hL, hW, hX, hS⟩)
theorem zz_icmp_lt {x z : Int32} {off : Int} {tgt : Nat} (hd : decode y.2.1 pc = .ok (.if_icmp .lt off, 3)) (ht : (pc : Int) + off = (tgt : Int)) (kt : x < z → zz_G y d k tgt ls st M I J Q) (kf : ¬ x < z → zz_G y d k (pc + 3) ls st M I J Q) : zz_G y d k pc ls (.int z :: .int x :: st) M I J Q := by
  intro p l e R t0 m args below meth c Z base b D cT H locs arr hh
  obtain ⟨hC, hZ, hk, hL, hW, hX, hS⟩ := hh
  exact lv_icmp_lt hC.1 hC.2.1 hd ht (fun h => kt h p l e R t0 m args below meth c Z base b D cT H locs arr ⟨hC, hZ, hk, hL, hW, hX, hS⟩) (fun h => kf h p l e R t0 m args below meth c Z base b D cT H locs arr ⟨hC, hZ, hk, hL, hW, hX, hS⟩)
theorem zz_if_ge {x : Int32} {off : Int} {tgt : Nat} (hd : decode y.2.1 pc = .ok (.ifCond .ge off, 3)) (ht : (pc : Int) + off = (tgt : Int)) (kt : 0 ≤ x → zz_G y d k tgt ls st M I J Q) (kf : ¬ 0 ≤ x → zz_G y d k (pc + 3) ls st M I J Q) : zz_G y d k pc ls (.int x :: st) M I J Q := by
  intro p l e R t0 m args below meth c Z base b D cT H locs arr hh
  obtain ⟨hC, hZ, hk, hL, hW, hX, hS⟩ := hh
  exact lv_if_ge hC.1 hC.2.1 hd ht (fun h => kt h p l e R t0 m args below meth c Z base b D cT H locs arr ⟨hC, hZ, hk, hL, hW, hX, hS⟩) (fun h => kf h p l e R t0 m args below meth c Z base b D cT H locs arr ⟨hC, hZ, hk, hL, hW, hX, hS⟩)
theorem zz_icmp_ge {x z : Int32} {off : Int} {tgt : Nat} (hd : decode y.2.1 pc = .ok (.if_icmp .ge off, 3)) (ht : (pc : Int) + off = (tgt : Int)) (kt : z ≤ x → zz_G y d k tgt ls st M I J Q) (kf : ¬ z ≤ x → zz_G y d k (pc + 3) ls st M I J Q) : zz_G y d k pc ls (.int z :: .int x :: st) M I J Q := by
  intro p l e R t0 m args below meth c Z base b D cT H locs arr hh
  obtain ⟨hC, hZ, hk, hL, hW, hX, hS⟩ := hh
  exact lv_icmp_ge hC.1 hC.2.1 hd ht (fun h => kt h p l e R t0 m args below meth c Z base b D cT H locs arr ⟨hC, hZ, hk, hL, hW, hX, hS⟩) (fun h => kf h p l e R t0 m args below meth c Z base b D cT H locs arr ⟨hC, hZ, hk, hL, hW, hX, hS⟩)
theorem zz_if_gt {x : Int32} {off : Int} {tgt : Nat} (hd : decode y.2.1 pc = .ok (.ifCond .gt off, 3)) (ht : (pc : Int) + off = (tgt : Int)) (kt : 0 < x → zz_G y d k tgt ls st M I J Q) (kf : ¬ 0 < x → zz_G y d k (pc + 3) ls st M I J Q) : zz_G y d k pc ls (.int x :: st) M I J Q := by
  intro p l e R t0 m args below meth c Z base b D cT H locs arr hh
  obtain ⟨hC, hZ, hk, hL, hW, hX, hS⟩ := hh
  exact lv_if_gt hC.1 hC.2.1 hd ht (fun h => kt h p l e R t0 m args below meth c Z base b D cT H locs arr ⟨hC, hZ, hk, hL, hW, hX, hS⟩) (fun h => kf h p l e R t0 m args below meth c Z base b D cT H locs arr ⟨hC, hZ, hk, hL, hW, hX, hS⟩)
theorem zz_icmp_gt {x z : Int32} {off : Int} {tgt : Nat} (hd : decode y.2.1 pc = .ok (.if_icmp .gt off, 3)) (ht : (pc : Int) + off = (tgt : Int)) (kt : z < x → zz_G y d k tgt ls st M I J Q) (kf : ¬ z < x → zz_G y d k (pc + 3) ls st M I J Q) : zz_G y d k pc ls (.int z :: .int x :: st) M I J Q := by
  intro p l e R t0 m args below meth c Z base b D cT H locs arr hh
  obtain ⟨hC, hZ, hk, hL, hW, hX, hS⟩ := hh
  exact lv_icmp_gt hC.1 hC.2.1 hd ht (fun h => kt h p l e R t0 m args below meth c Z base b D cT H locs arr ⟨hC, hZ, hk, hL, hW, hX, hS⟩) (fun h => kf h p l e R t0 m args below meth c Z base b D cT H locs arr ⟨hC, hZ, hk, hL, hW, hX, hS⟩)
theorem zz_if_le {x : Int32} {off : Int} {tgt : Nat} (hd : decode y.2.1 pc = .ok (.ifCond .le off, 3)) (ht : (pc : Int) + off = (tgt : Int)) (kt : x ≤ 0 → zz_G y d k tgt ls st M I J Q) (kf : ¬ x ≤ 0 → zz_G y d k (pc + 3) ls st M I J Q) : zz_G y d k pc ls (.int x :: st) M I J Q := by
  intro p l e R t0 m args below meth c Z base b D cT H locs arr hh
  obtain ⟨hC, hZ, hk, hL, hW, hX, hS⟩ := hh
  exact lv_if_le hC.1 hC.2.1 hd ht (fun h => kt h p l e R t0 m args below meth c Z base b D cT H locs arr ⟨hC, hZ, hk, hL, hW, hX, hS⟩) (fun h => kf h p l e R t0 m args below meth c Z base b D cT H locs arr ⟨hC, hZ, hk, hL, hW, hX, hS⟩)
theorem zz_icmp_le {x z : Int32} {off : Int} {tgt : Nat} (hd : decode y.2.1 pc = .ok (.if_icmp .le off, 3)) (ht : (pc : Int) + off = (tgt : Int)) (kt : x ≤ z → zz_G y d k tgt ls st M I J Q) (kf : ¬ x ≤ z → zz_G y d k (pc + 3) ls st M I J Q) : zz_G y d k pc ls (.int z :: .int x :: st) M I J Q := by
  intro p l e R t0 m args below meth c Z base b D cT H locs arr hh
  obtain ⟨hC, hZ, hk, hL, hW, hX, hS⟩ := hh
  exact lv_icmp_le hC.1 hC.2.1 hd ht (fun h => kt h p l e R t0 m args below meth c Z base b D cT H locs arr ⟨hC, hZ, hk, hL, hW, hX, hS⟩) (fun h => kf h p l e R t0 m args below meth c Z base b D cT H locs arr ⟨hC, hZ, hk, hL, hW, hX, hS⟩)
theorem zz_goto {off : Int} {tgt : Nat} (hd : decode y.2.1 pc = .ok (.goto off, 3)) (ht : (pc : Int) + off = (tgt : Int)) (kk : zz_G y d k (tgt) ls st M I J Q) : zz_G y d k pc ls (st) M I J Q := by
  intro p l e R t0 m args below meth c Z base b D cT H locs arr hh
  obtain ⟨hC, hZ, hk, hL, hW, hX, hS⟩ := hh
  exact lv_goto hC.1 hC.2.1 hd ht (kk p l e R t0 m args below meth c Z base b D cT H locs arr ⟨hC, hZ, hk, hL, hW, hX, hS⟩)
theorem zz_ifnonnull {x : Nat} {off : Int} {tgt : Nat} (hd : decode y.2.1 pc = .ok (.ifnonnull off, 3)) (ht : (pc : Int) + off = (tgt : Int)) (kk : zz_G y d k (tgt) ls st M I J Q) : zz_G y d k pc ls (.ref x :: st) M I J Q := by
  intro p l e R t0 m args below meth c Z base b D cT H locs arr hh
  obtain ⟨hC, hZ, hk, hL, hW, hX, hS⟩ := hh
  exact lv_ifnonnull hC.1 hC.2.1 hd ht (kk p l e R t0 m args below meth c Z base b D cT H locs arr ⟨hC, hZ, hk, hL, hW, hX, hS⟩)
theorem zz_ifnull {x : Nat} {off : Int} (hd : decode y.2.1 pc = .ok (.ifnull off, 3)) (kk : zz_G y d k (pc + 3) ls st M I J Q) : zz_G y d k pc ls (.ref x :: st) M I J Q := by
  intro p l e R t0 m args below meth c Z base b D cT H locs arr hh
  obtain ⟨hC, hZ, hk, hL, hW, hX, hS⟩ := hh
  exact lv_ifnull hC.1 hC.2.1 hd (kk p l e R t0 m args below meth c Z base b D cT H locs arr ⟨hC, hZ, hk, hL, hW, hX, hS⟩)
theorem zz_ifnullN {off : Int} {tgt : Nat} (hd : decode y.2.1 pc = .ok (.ifnull off, 3)) (ht : (pc : Int) + off = (tgt : Int)) (kk : zz_G y d k (tgt) ls st M I J Q) : zz_G y d k pc ls (.null :: st) M I J Q := by
  intro p l e R t0 m args below meth c Z base b D cT H locs arr hh
  obtain ⟨hC, hZ, hk, hL, hW, hX, hS⟩ := hh
  exact lv_ifnullN hC.1 hC.2.1 hd ht (kk p l e R t0 m args below meth c Z base b D cT H locs arr ⟨hC, hZ, hk, hL, hW, hX, hS⟩)
theorem zz_ifnonnullN {off : Int} (hd : decode y.2.1 pc = .ok (.ifnonnull off, 3)) (kk : zz_G y d k (pc + 3) ls st M I J Q) : zz_G y d k pc ls (.null :: st) M I J Q := by
  intro p l e R t0 m args below meth c Z base b D cT H locs arr hh
  obtain ⟨hC, hZ, hk, hL, hW, hX, hS⟩ := hh
  exact lv_ifnonnullN hC.1 hC.2.1 hd (kk p l e R t0 m args below meth c Z base b D cT H locs arr ⟨hC, hZ, hk, hL, hW, hX, hS⟩)
theorem zz_tabOut {x : Int32} {dflt lo hi : Int} {offs : Array Int} {len tgt : Nat} (hd : decode y.2.1 pc = .ok (.tableswitch dflt lo hi offs, len)) (h : x.toInt < lo ∨ hi < x.toInt) (ht : (pc : Int) + dflt = (tgt : Int)) (kk : zz_G y d k tgt ls st M I J Q) : zz_G y d k pc ls (.int x :: st) M I J Q := by
  intro p l e R t0 m args below meth c Z base b D cT H locs arr hh
  obtain ⟨hC, hZ, hk, hL, hW, hX, hS⟩ := hh
  exact lv_tableOut hC.1 hC.2.1 hd h ht (kk p l e R t0 m args below meth c Z base b D cT H locs arr ⟨hC, hZ, hk, hL, hW, hX, hS⟩)
theorem zz_tabIn {x : Int32} {dflt lo hi off : Int} {offs : Array Int} {len tgt : Nat} (hd : decode y.2.1 pc = .ok (.tableswitch dflt lo hi offs, len)) (h1 : ¬ x.toInt < lo) (h2 : ¬ hi < x.toInt) (ho : offs[(x.toInt - lo).toNat]? = some off) (ht : (pc : Int) + off = (tgt : Int)) (kk : zz_G y d k tgt ls st M I J Q) : zz_G y d k pc ls (.int x :: st) M I J Q := by
  intro p l e R t0 m args below meth c Z base b D cT H locs arr hh
  obtain ⟨hC, hZ, hk, hL, hW, hX, hS⟩ := hh
  exact lv_tableIn hC.1 hC.2.1 hd h1 h2 ho ht (kk p l e R t0 m args below meth c Z base b D cT H locs arr ⟨hC, hZ, hk, hL, hW, hX, hS⟩)
theorem zz_ireturn {x : Int32} {ty : FieldType} (hd : decode y.2.1 pc = .ok (.ireturn, 1)) (hr : y.2.2.2.1 = some ty) (hn : narrow ty (.int x) = .int x) (kk : Q (some (.int x)) M I J) : zz_G y d k pc ls [.int x] M I J Q := by
  intro p l e R t0 m args below meth c Z base b D cT H locs arr hh
  obtain ⟨hC, hZ, hk, hL, hW, hX, hS⟩ := hh
  exact hZ k pc H locs arr .ireturn (some (.int x)) M I J hd (Or.inl ⟨rfl, x, ty, rfl, hr, hn⟩) hk hW hX hS kk
theorem zz_lreturn {x : Int64} (hd : decode y.2.1 pc = .ok (.lreturn, 1)) (hr : y.2.2.2.1 = some .long) (kk : Q (some (.long x)) M I J) : zz_G y d k pc ls [.long x] M I J Q := by
  intro p l e R t0 m args below meth c Z base b D cT H locs arr hh
  obtain ⟨hC, hZ, hk, hL, hW, hX, hS⟩ := hh
  exact hZ k pc H locs arr .lreturn (some (.long x)) M I J hd (Or.inr (Or.inl ⟨rfl, x, rfl, hr⟩)) hk hW hX hS kk
theorem zz_areturn {x : Nat} {n : String} (hd : decode y.2.1 pc = .ok (.areturn, 1)) (hr : y.2.2.2.1 = some (.object n)) (kk : Q (some (.ref x)) M I J) : zz_G y d k pc ls [.ref x] M I J Q := by
  intro p l e R t0 m args below meth c Z base b D cT H locs arr hh
  obtain ⟨hC, hZ, hk, hL, hW, hX, hS⟩ := hh
  exact hZ k pc H locs arr .areturn (some (.ref x)) M I J hd (Or.inr (Or.inr (Or.inl ⟨rfl, n, hr, Or.inr ⟨x, rfl⟩⟩))) hk hW hX hS kk
theorem zz_nreturn {n : String} (hd : decode y.2.1 pc = .ok (.areturn, 1)) (hr : y.2.2.2.1 = some (.object n)) (kk : Q (some .null) M I J) : zz_G y d k pc ls [.null] M I J Q := by
  intro p l e R t0 m args below meth c Z base b D cT H locs arr hh
  obtain ⟨hC, hZ, hk, hL, hW, hX, hS⟩ := hh
  exact hZ k pc H locs arr .areturn (some .null) M I J hd (Or.inr (Or.inr (Or.inl ⟨rfl, n, hr, Or.inl rfl⟩))) hk hW hX hS kk
theorem zz_return (hd : decode y.2.1 pc = .ok (.return_, 1)) (hr : y.2.2.2.1 = none) (kk : Q none M I J) : zz_G y d k pc ls [] M I J Q := by
  intro p l e R t0 m args below meth c Z base b D cT H locs arr hh
  obtain ⟨hC, hZ, hk, hL, hW, hX, hS⟩ := hh
  exact hZ k pc H locs arr .return_ none M I J hd (Or.inr (Or.inr (Or.inr ⟨rfl, rfl, hr⟩))) hk hW hX hS kk
end ZR
end
section
/-! ===== rows: fields and arrays ===== -/
def zz_ui (I : zz_I) (a j : Nat) (x : Int32) : zz_I := fun c => if c = a then upd (I a) j x else I c
def zz_uj (J : zz_J) (a j : Nat) (x : Int64) : zz_J := fun c => if c = a then vp_updL (J a) j x else J c
theorem zz_ui_at (I : zz_I) (a j : Nat) (x : Int32) : zz_ui I a j x a = upd (I a) j x := if_pos rfl
theorem zz_ui_ne (I : zz_I) {a c : Nat} (j : Nat) (x : Int32) (h : c ≠ a) : zz_ui I a j x c = I c := if_neg h
theorem zz_uj_at (J : zz_J) (a j : Nat) (x : Int64) : zz_uj J a j x a = vp_updL (J a) j x := if_pos rfl
theorem zz_uj_ne (J : zz_J) {a c : Nat} (j : Nat) (x : Int64) (h : c ≠ a) : zz_uj J a j x c = J c := if_neg h
theorem zz_E0 {ad : Nat → Nat} {cT : Nat → ClassId} {S : zz_S} {i : Nat → Int32} {j : Nat → Int64} {ci : Nat} (h : S.1 = 0) (hc : S.2.1 = ci) : zz_E ad cT S i j = .inr (ci, (List.range (zz_nf ci)).map fun k => zz_fv ad (zz_ty ci k) (i k) (j k) (S.2.2 k)) := by
  obtain ⟨t, n, r⟩ := S
  subst h; subst hc
  rfl
theorem zz_E1 {ad : Nat → Nat} {cT : Nat → ClassId} {S : zz_S} {i : Nat → Int32} {j : Nat → Int64} (h : S.1 = 1) : zz_E ad cT S i j = .inl (cT 1, S.2.1, .inl i) := by
  obtain ⟨t, n, r⟩ := S
  subst h
  rfl
theorem zz_E2 {ad : Nat → Nat} {cT : Nat → ClassId} {S : zz_S} {i : Nat → Int32} {j : Nat → Int64} (h : S.1 = 2) : zz_E ad cT S i j = .inl (cT 2, S.2.1, .inr (.inl j)) := by
  obtain ⟨t, n, r⟩ := S
  subst h
  rfl
theorem zz_E3 {ad : Nat → Nat} {cT : Nat → ClassId} {S : zz_S} {i : Nat → Int32} {j : Nat → Int64} (h : S.1 = 3) : zz_E ad cT S i j = .inl (cT 3, S.2.1, .inl i) := by
  obtain ⟨t, n, r⟩ := S
  subst h
  rfl
theorem zz_E4 {ad : Nat → Nat} {cT : Nat → ClassId} {S : zz_S} {i : Nat → Int32} {j : Nat → Int64} (h : S.1 = 4) : zz_E ad cT S i j = .inl (cT 4, S.2.1, .inr (.inr (.inr (.inr (fun k => (S.2.2 k).map ad))))) := by
  obtain ⟨t, n, r⟩ := S
  subst h
  rfl
theorem zz_E5 {ad : Nat → Nat} {cT : Nat → ClassId} {S : zz_S} {i : Nat → Int32} {j : Nat → Int64} (h : S.1 = 5) : zz_E ad cT S i j = .inl (cT 5, S.2.1, .inr (.inr (.inr (.inr (fun k => (S.2.2 k).map ad))))) := by
  obtain ⟨t, n, r⟩ := S
  subst h
  rfl
/-- the cell a of the world -/
theorem zz_W.at {base b : Nat} {D : va_G} {cT : Nat → ClassId} {M : zz_M} {I : zz_I} {J : zz_J} {H : Heap} {a : Nat} (h : zz_W base b D cT M I J H) (h0 : 0 < a) (hN : a ≤ M.1) : va_at D zz_cl (zz_ad base b a, zz_E (zz_ad base b) cT (M.2 a) (I a) (J a)) H := by
  obtain ⟨j, rfl⟩ : ∃ j, a = j + 1 := ⟨a - 1, by omega⟩
  exact h.2 j (by omega)
theorem zz_P1 {D : va_G} {q : Nat × va_E} {H : Heap} (h : va_at D zz_cl q H) : va_P D zz_cl [q] H := by
  intro k x hx
  have hz : k < 1 := (List.getElem?_eq_some_iff.mp hx).1
  rw [show k = 0 by omega] at hx
  cases hx
  exact h
/-- one cell has changed -/
theorem zz_W.set {base b : Nat} {D : va_G} {cT : Nat → ClassId} {M M' : zz_M} {I I' : zz_I} {J J' : zz_J} {H H' : Heap} {a : Nat} (h : zz_W base b D cT M I J H) (h0 : 0 < a) (hz : H'.size = H.size) (ho : ∀ q, q ≠ zz_ad base b a → H'[q]? = H[q]?) (hM : M'.1 = M.1)
    (hoth : ∀ c, c ≠ a → M'.2 c = M.2 c ∧ I' c = I c ∧ J' c = J c) (hat : va_at D zz_cl (zz_ad base b a, zz_E (zz_ad base b) cT (M'.2 a) (I' a) (J' a)) H') : zz_W base b D cT M' I' J' H' := by
  refine ⟨by rw [hz, hM]; exact h.1, fun k hk => ?_⟩
  rw [hM] at hk
  by_cases e : k + 1 = a
  · subst e
    exact hat
  · obtain ⟨e1, e2, e3⟩ := hoth (k + 1) e
    rw [e1, e2, e3]
    refine (h.2 k hk).kept (ho _ ?_)
    obtain ⟨j, rfl⟩ : ∃ j, a = j + 1 := ⟨a - 1, by omega⟩
    show base + k ≠ base + j
    omega
theorem zz_X.kept {base b : Nat} {M M' : zz_M} {I I' : zz_I} {U : State} {H H' : Heap} (h : zz_X base b M I U H) (hM : M'.2 0 = M.2 0) (hI : I' 0 = I 0) (hq : ∀ q, q < base → H'[q]? = H[q]?) : zz_X base b M' I' U H' := by
  refine ⟨h.1, by rw [hM]; exact h.2.1, ?_⟩
  rw [hM, hI]
  exact h.2.2.kept (hq b h.1)
theorem zz_ad_ge {base b a : Nat} (h : 0 < a) : base ≤ zz_ad base b a := by
  obtain ⟨j, rfl⟩ : ∃ j, a = j + 1 := ⟨a - 1, by omega⟩
  exact Nat.le_add_right _ _
theorem zz_V {n j : Nat} (g : Nat → Value) (h : j < n) : vp_V ((List.range n).map g) j = g j := by
  simp [vp_V, h]
/-- a field's number: in the class ci the place f -/
def zz_fd (own : String) (idx ci f : Nat) : Prop := ∃ q : vw_C, zz_cl[ci]? = some q ∧ f < q.2.2 ∧ Cond.fieldLink own idx q.1 (q.2.1 f).2.1 (q.2.1 f).2.2.1 ∈ zz_tbl
section ZM
variable {p : Program} {l : Launch} {e : Env} {R : Room} {t0 : State} {m : MethodId} {args : Array Value} {below : List Frame} {meth : Method} {c : Code} {Z : State → Prop} {base b : Nat} {D : va_G} {cT : Nat → ClassId} {H : Heap} {locs : List Loc} {arr : Array Slot}
variable {y : zz_Y} {d k n pc : Nat} {rest : List Value} {M : zz_M} {I : zz_I} {J : zz_J}
theorem zz_getW (hC : zz_C y d p R t0 m args meth c base D cT) (hW : zz_W base b D cT M I J H) {a ci f idx : Nat} (hd : decode y.2.1 pc = .ok (.getfield idx, 3)) (hf : zz_fd y.1.cls idx ci f) (hs : zz_is M a 0 ci) {v : Value} (hv : zz_fv (zz_ad base b) (zz_ty ci f) (I a f) (J a f) ((M.2 a).2.2 f) = v)
    (kk : W p l e R t0 m args below meth c H locs k n Z (F0 m (pc + 3) arr (v :: rest))) : W p l e R t0 m args below meth c H locs k n Z (F0 m pc arr (.ref (zz_ad base b a) :: rest)) := by
  obtain ⟨q, hq, hlt, hw⟩ := hf
  obtain ⟨C, T, N⟩ := q
  obtain ⟨ok1, ok2, ok3, ok4, ok5⟩ := zz_oks ci _ hq
  have hP := zz_P1 (hW.at hs.1 hs.2.1)
  rw [zz_E0 hs.2.2.1 hs.2.2.2] at hP
  have hlt' : f < zz_nf ci := by rw [← ok1]; exact hlt
  refine va_get (C := C) (T := T) (N := N) (ref := C) hC.1 hC.2.1 hC.2.2.2.2.1 ok2 hC.2.2.2.1 hC.2.2.2.2.2.1.1 hP 0 rfl hq f hlt (hC.2.2.2.2.1 _ hw) (fun x hx => by rw [show (T f).1 = C from ok5 f hlt] at hx; exact hx) (v := v) ?_ hd kk
  simp [hlt', hv]
theorem zz_putW (hC : zz_C y d p R t0 m args meth c base D cT) (hW : zz_W base b D cT M I J H) (hS : va_S (fun q => base ≤ q) t0.heap H locs) {a ci f idx : Nat} (hd : decode y.2.1 pc = .ok (.putfield idx, 3)) (hf : zz_fd y.1.cls idx ci f) (hs : zz_is M a 0 ci) {v : Value}
    (hfit : fits (zz_ty ci f) v = true) (hn : narrow (zz_ty ci f) v = v) (hfin : ∀ q : vw_C, zz_cl[ci]? = some q → (q.2.1 f).2.2.2 = false ∨ ((q.2.1 f).2.2.2 = true ∧ y.1.name = "<init>" ∧ q.1 = y.1.cls)) {M' : zz_M} {I' : zz_I} {J' : zz_J} (hM : M'.1 = M.1) (hoth : ∀ c, c ≠ a → M'.2 c = M.2 c ∧ I' c = I c ∧ J' c = J c) (hsh : (M'.2 a).1 = 0 ∧ (M'.2 a).2.1 = ci)
    (hval : ∀ j, j < zz_nf ci → (if j = f then v else zz_fv (zz_ad base b) (zz_ty ci j) (I a j) (J a j) ((M.2 a).2.2 j)) = zz_fv (zz_ad base b) (zz_ty ci j) (I' a j) (J' a j) ((M'.2 a).2.2 j))
    (kk : ∀ (H' : Heap) (locs' : List Loc), zz_W base b D cT M' I' J' H' → va_S (fun q => base ≤ q) t0.heap H' locs' → (∀ q, q < base → H'[q]? = H[q]?) → W p l e R t0 m args below meth c H' locs' k n Z (F0 m (pc + 3) arr rest)) : W p l e R t0 m args below meth c H locs k n Z (F0 m pc arr (v :: .ref (zz_ad base b a) :: rest)) := by
  obtain ⟨q, hq, hlt, hw⟩ := hf
  have hfin := hfin q hq
  obtain ⟨C, T, N⟩ := q
  obtain ⟨ok1, ok2, ok3, ok4, ok5⟩ := zz_oks ci _ hq
  have hts := hC.2.2.2.2.1
  have hK := hC.2.2.2.2.2.1.1
  have hap := va_apart (own := y.1.cls) hts ok2 (zz_ty ci) ok3 ok4 hK hq
  have hat := hW.at hs.1 hs.2.1
  rw [zz_E0 hs.2.2.1 hs.2.2.2] at hat
  obtain ⟨r, h1, cell, q1, q2, q3, q4⟩ := hat
  have hr : r = (C, T, N) := Option.some.inj (h1.symm.trans hq)
  subst hr
  obtain ⟨hSl, hfc, kC, hkC, hkind⟩ := hK.1 ci _ hq
  obtain ⟨cf, kf, fi, fd, hi, hsl⟩ := hSl f hlt
  have hC5 : (T f).1 = C := ok5 f hlt
  have hi' : t0.fieldFound? C (T f).2.1 (T f).2.2.1 = some (cf, kf, fi, fd) := by have := hi; rw [show ((C, T, N) : vw_C).2.1 = T from rfl] at this; rw [hC5] at this; exact this
  have hst := (u_facts hfc hkC (u_lays hts ok2 hlt) hi).1
  have hlay := hts _ (ok2 _ (u_in_lay hlt))
  unfold u_lay at hlay
  have hcont : ∀ H' : Heap, H'[zz_ad base b a]? = some (cell.setSlot fd.slot v) → H'.size = H.size → (∀ q, q ≠ zz_ad base b a → H'[q]? = H[q]?) → W p l e R t0 m args below meth c H' (locs ++ [⟨zz_ad base b a, fd.slot⟩]) k n Z (F0 m (pc + 3) arr rest) := by
    intro H' e1 e2 e3
    refine kk H' _ (hW.set hs.1 e2 e3 hM hoth ?_) (hS.put e2 e3 (zz_ad_ge hs.1)) (fun q hq' => e3 q (fun e => by have := zz_ad_ge (base := base) (b := b) hs.1; omega))
    rw [zz_E0 hsh.1 hsh.2]
    rw [hsl] at e1
    refine ⟨_, hq, t_OB.to (V := updV (vp_V _) f v) ⟨_, e1, q2, q3, t_set q4 hap hlt v⟩ (fun j hj => ?_)⟩
    have hj' : j < zz_nf ci := by rw [← ok1]; exact hj
    rw [zz_V _ hj', ← hval j hj']
    unfold updV
    by_cases e : j = f
    · simp [e]
    · rw [if_neg e, if_neg e, zz_V _ hj']
  rcases hfin with hfin | ⟨hfin, hin2, hdecl⟩
  · rw [if_neg (by rw [show (T f).2.2.2 = false from hfin]; decide)] at hlay
    have h6 := u_store hfc hkC hkind hlay hi (ok3 f hlt) hn hfit
    exact W.putK hC.1 hC.2.1 (f := fd) ⟨hC.2.2.2.1, hts _ hw, ⟨_, _, _, hi'⟩, hst⟩ (by rw [q2]; exact h6) q1 q3 (by rw [hsl]; exact k2_hasslot (q4 f hlt)) rfl rfl hd hcont
  · rw [if_pos (show (T f).2.2.2 = true from hfin)] at hlay
    have hcf : m.cls = cf := by
      obtain ⟨_, _, c', _, _, _, -, -, hf', -, -, -, hown2, -⟩ := Cond.laysFinal_spec hlay
      have e1 : c' = cf := by have := hi.symm.trans hf'; simp at this; exact this.1.symm
      rw [show ((C, T, N) : vw_C).2.1 = T from rfl] at hown2
      rw [hC5, show C = y.1.cls from hdecl] at hown2
      rw [← e1]
      exact Option.some.inj (hC.2.2.2.1.symm.trans hown2)
    have h6 := u_fits hfc hkC hkind (Or.inr hlay) hi (ok3 f hlt) hn hfit
    exact W.putFinK hC.1 hC.2.1 hC.2.2.2.1 (hts _ hw) hi' hst hcf (hC.2.2.2.2.2.2.2.2.2.2.2 hin2) (by rw [q2]; exact h6) q1 q3 (by rw [hsl]; exact k2_hasslot (q4 f hlt)) rfl rfl hd hcont
end ZM
end
section
/-! ===== rows: fields, arrays, making, calls ===== -/
theorem zz_upd_ne {f : Nat → Int32} {k j : Nat} {x : Int32} (h : j ≠ k) : upd f k x j = f j := if_neg h
theorem zz_updL_ne {f : Nat → Int64} {k j : Nat} {x : Int64} (h : j ≠ k) : vp_updL f k x j = f j := if_neg h
/-- a reference in a field, or in an array -/
def zz_us (S : Nat → zz_S) (a j : Nat) (r : Option Nat) : Nat → zz_S := fun c => if c = a then ((S a).1, (S a).2.1, fun i => if i = j then r else (S a).2.2 i) else S c
def zz_isr (t : FieldType) : Prop := ∀ (ad : Nat → Nat) (i : Int32) (j : Int64) (r : Option Nat), zz_fv ad t i j r = va_rf (r.map ad)
section ZN
variable {y : zz_Y} {d k pc : Nat} {ls : List (Option Value)} {st : List Value} {M : zz_M} {I : zz_I} {J : zz_J} {Q : zz_Q}
theorem zz_geti {a ci f idx : Nat} (hd : decode y.2.1 pc = .ok (.getfield idx, 3)) (hf : zz_fd y.1.cls idx ci f) (ht : zz_ty ci f = .int) (hs : zz_is M a 0 ci) (kk : zz_G y d k (pc + 3) ls (.int (I a f) :: st) M I J Q) : zz_G y d k pc ls (.ref a :: st) M I J Q := by
  intro p l e R t0 m args below meth c Z base b D cT H locs arr hh
  obtain ⟨hC, hZ, hk, hL, hW, hX, hS⟩ := hh
  exact zz_getW hC hW hd hf hs (by rw [ht]; rfl) (kk p l e R t0 m args below meth c Z base b D cT H locs arr ⟨hC, hZ, hk, hL, hW, hX, hS⟩)
theorem zz_getl {a ci f idx : Nat} (hd : decode y.2.1 pc = .ok (.getfield idx, 3)) (hf : zz_fd y.1.cls idx ci f) (ht : zz_ty ci f = .long) (hs : zz_is M a 0 ci) (kk : zz_G y d k (pc + 3) ls (.long (J a f) :: st) M I J Q) : zz_G y d k pc ls (.ref a :: st) M I J Q := by
  intro p l e R t0 m args below meth c Z base b D cT H locs arr hh
  obtain ⟨hC, hZ, hk, hL, hW, hX, hS⟩ := hh
  exact zz_getW hC hW hd hf hs (by rw [ht]; rfl) (kk p l e R t0 m args below meth c Z base b D cT H locs arr ⟨hC, hZ, hk, hL, hW, hX, hS⟩)
theorem zz_getr {a ci f idx q : Nat} (hd : decode y.2.1 pc = .ok (.getfield idx, 3)) (hf : zz_fd y.1.cls idx ci f) (ht : zz_isr (zz_ty ci f)) (hs : zz_is M a 0 ci) (hr : (M.2 a).2.2 f = some q) (kk : zz_G y d k (pc + 3) ls (.ref q :: st) M I J Q) : zz_G y d k pc ls (.ref a :: st) M I J Q := by
  intro p l e R t0 m args below meth c Z base b D cT H locs arr hh
  obtain ⟨hC, hZ, hk, hL, hW, hX, hS⟩ := hh
  exact zz_getW hC hW hd hf hs (by rw [ht, hr]; rfl) (kk p l e R t0 m args below meth c Z base b D cT H locs arr ⟨hC, hZ, hk, hL, hW, hX, hS⟩)
theorem zz_puti {a ci f idx : Nat} {x : Int32} (hd : decode y.2.1 pc = .ok (.putfield idx, 3)) (hf : zz_fd y.1.cls idx ci f) (ht : zz_ty ci f = .int) (hfin : ∀ q : vw_C, zz_cl[ci]? = some q → (q.2.1 f).2.2.2 = false) (hs : zz_is M a 0 ci) (kk : zz_G y d k (pc + 3) ls st M (zz_ui I a f x) J Q) : zz_G y d k pc ls (.int x :: .ref a :: st) M I J Q := by
  intro p l e R t0 m args below meth c Z base b D cT H locs arr hh
  obtain ⟨hC, hZ, hk, hL, hW, hX, hS⟩ := hh
  refine zz_putW (M' := M) (I' := zz_ui I a f x) (J' := J) hC hW hS hd hf hs (by rw [ht]; rfl) (by rw [ht]; rfl) (fun q hq => Or.inl (hfin q hq)) rfl (fun c hc => ⟨rfl, zz_ui_ne I f x hc, rfl⟩) hs.2.2 (fun j _ => ?_) (fun H' locs' hW' hS' ho => kk p l e R t0 m args below meth c Z base b D cT H' locs' arr ⟨hC, hZ, hk, hL, hW', hX.kept rfl (zz_ui_ne I f x (Nat.ne_of_lt hs.1)) ho, hS'⟩)
  rw [zz_ui_at]
  by_cases e : j = f
  · rw [if_pos e, e, ht]
    simp [zz_fv, upd, zz_tr]
  · rw [if_neg e, zz_upd_ne e]
theorem zz_putl {a ci f idx : Nat} {x : Int64} (hd : decode y.2.1 pc = .ok (.putfield idx, 3)) (hf : zz_fd y.1.cls idx ci f) (ht : zz_ty ci f = .long) (hfin : ∀ q : vw_C, zz_cl[ci]? = some q → (q.2.1 f).2.2.2 = false) (hs : zz_is M a 0 ci) (kk : zz_G y d k (pc + 3) ls st M I (zz_uj J a f x) Q) : zz_G y d k pc ls (.long x :: .ref a :: st) M I J Q := by
  intro p l e R t0 m args below meth c Z base b D cT H locs arr hh
  obtain ⟨hC, hZ, hk, hL, hW, hX, hS⟩ := hh
  refine zz_putW (M' := M) (I' := I) (J' := zz_uj J a f x) hC hW hS hd hf hs (by rw [ht]; rfl) (by rw [ht]; rfl) (fun q hq => Or.inl (hfin q hq)) rfl (fun c hc => ⟨rfl, rfl, zz_uj_ne J f x hc⟩) hs.2.2 (fun j _ => ?_) (fun H' locs' hW' hS' ho => kk p l e R t0 m args below meth c Z base b D cT H' locs' arr ⟨hC, hZ, hk, hL, hW', hX.kept rfl rfl ho, hS'⟩)
  rw [zz_uj_at]
  by_cases e : j = f
  · rw [if_pos e, e, ht]
    simp [zz_fv, vp_updL, zz_tr]
  · rw [if_neg e, zz_updL_ne e]
theorem zz_putr {a ci f idx q : Nat} (hd : decode y.2.1 pc = .ok (.putfield idx, 3)) (hf : zz_fd y.1.cls idx ci f) (ht : zz_isr (zz_ty ci f)) (hfit : ∀ w : Nat, fits (zz_ty ci f) (.ref w) = true ∧ narrow (zz_ty ci f) (.ref w) = .ref w) (hfin : ∀ q : vw_C, zz_cl[ci]? = some q → (q.2.1 f).2.2.2 = true ∧ q.1 = y.1.cls) (hin : y.1.name = "<init>") (hs : zz_is M a 0 ci)
    (kk : zz_G y d k (pc + 3) ls st (M.1, zz_us M.2 a f (some q)) I J Q) : zz_G y d k pc ls (.ref q :: .ref a :: st) M I J Q := by
  intro p l e R t0 m args below meth c Z base b D cT H locs arr hh
  obtain ⟨hC, hZ, hk, hL, hW, hX, hS⟩ := hh
  have hus : zz_us M.2 a f (some q) a = ((M.2 a).1, (M.2 a).2.1, fun i => if i = f then some q else (M.2 a).2.2 i) := if_pos rfl
  refine zz_putW (M' := (M.1, zz_us M.2 a f (some q))) (I' := I) (J' := J) hC hW hS hd hf hs (hfit _).1 (hfit _).2 (fun w hw => Or.inr ⟨(hfin w hw).1, hin, (hfin w hw).2⟩) rfl (fun c hc => ⟨if_neg hc, rfl, rfl⟩) ?_ (fun j _ => ?_) (fun H' locs' hW' hS' ho => kk p l e R t0 m args below meth c Z base b D cT H' locs' arr ⟨hC, hZ, hk, hL, hW', hX.kept (if_neg (Nat.ne_of_lt hs.1)) rfl ho, hS'⟩)
  · show (zz_us M.2 a f (some q) a).1 = 0 ∧ (zz_us M.2 a f (some q) a).2.1 = ci
    rw [hus]
    exact hs.2.2
  · show _ = zz_fv _ _ _ _ ((zz_us M.2 a f (some q) a).2.2 j)
    rw [hus]
    by_cases e : j = f
    · subst e
      simp [ht (zz_ad base b), va_rf, zz_ad, zz_tr]
    · simp [e]
theorem zz_iald {a n : Nat} {i : Int32} (hd : decode y.2.1 pc = .ok (.iaload, 1)) (hs : zz_is M a 1 n) (hi : vp_in i n) (kk : zz_G y d k (pc + 1) ls (.int (I a i.toNatClampNeg) :: st) M I J Q) : zz_G y d k pc ls (.int i :: .ref a :: st) M I J Q := by
  intro p l e R t0 m args below meth c Z base b D cT H locs arr hh
  obtain ⟨hC, hZ, hk, hL, hW, hX, hS⟩ := hh
  have hP := zz_P1 (hW.at hs.1 hs.2.1)
  rw [zz_E1 hs.2.2.1, hs.2.2.2] at hP
  exact va_iald hC.1 hC.2.1 hC.2.2.2.2.2.1.1 hP 0 0 rfl rfl hi hd (kk p l e R t0 m args below meth c Z base b D cT H locs arr ⟨hC, hZ, hk, hL, hW, hX, hS⟩)
theorem zz_lald {a n : Nat} {i : Int32} (hd : decode y.2.1 pc = .ok (.laload, 1)) (hs : zz_is M a 2 n) (hi : vp_in i n) (kk : zz_G y d k (pc + 1) ls (.long (J a i.toNatClampNeg) :: st) M I J Q) : zz_G y d k pc ls (.int i :: .ref a :: st) M I J Q := by
  intro p l e R t0 m args below meth c Z base b D cT H locs arr hh
  obtain ⟨hC, hZ, hk, hL, hW, hX, hS⟩ := hh
  have hP := zz_P1 (hW.at hs.1 hs.2.1)
  rw [zz_E2 hs.2.2.1, hs.2.2.2] at hP
  exact va_lald hC.1 hC.2.1 hC.2.2.2.2.2.1.1 hP 0 1 rfl rfl hi hd (kk p l e R t0 m args below meth c Z base b D cT H locs arr ⟨hC, hZ, hk, hL, hW, hX, hS⟩)
theorem zz_bald {a n : Nat} {i : Int32} (hd : decode y.2.1 pc = .ok (.baload, 1)) (hs : zz_is M a 3 n) (hi : vp_in i n) (kk : zz_G y d k (pc + 1) ls (.int (I a i.toNatClampNeg) :: st) M I J Q) : zz_G y d k pc ls (.int i :: .ref a :: st) M I J Q := by
  intro p l e R t0 m args below meth c Z base b D cT H locs arr hh
  obtain ⟨hC, hZ, hk, hL, hW, hX, hS⟩ := hh
  have hP := zz_P1 (hW.at hs.1 hs.2.1)
  rw [zz_E3 hs.2.2.1, hs.2.2.2] at hP
  exact va_bald hC.1 hC.2.1 hC.2.2.2.2.2.1.1 hP 0 2 rfl rfl hi hd (kk p l e R t0 m args below meth c Z base b D cT H locs arr ⟨hC, hZ, hk, hL, hW, hX, hS⟩)
theorem zz_aald {a n q : Nat} {i : Int32} (hd : decode y.2.1 pc = .ok (.aaload, 1)) (hs : zz_is M a 4 n) (hi : vp_in i n) (hr : (M.2 a).2.2 i.toNatClampNeg = some q) (kk : zz_G y d k (pc + 1) ls (.ref q :: st) M I J Q) : zz_G y d k pc ls (.int i :: .ref a :: st) M I J Q := by
  intro p l e R t0 m args below meth c Z base b D cT H locs arr hh
  obtain ⟨hC, hZ, hk, hL, hW, hX, hS⟩ := hh
  have hP := zz_P1 (hW.at hs.1 hs.2.1)
  rw [zz_E4 hs.2.2.1, hs.2.2.2] at hP
  refine va_aldq (C := "NeverMistaken$Line") hC.1 hC.2.1 hC.2.2.2.2.2.1.1 hP 0 3 rfl rfl hi hd ?_
  rw [hr]
  exact kk p l e R t0 m args below meth c Z base b D cT H locs arr ⟨hC, hZ, hk, hL, hW, hX, hS⟩
theorem zz_aaldI {a n q : Nat} {i : Int32} (hd : decode y.2.1 pc = .ok (.aaload, 1)) (hs : zz_is M a 5 n) (hi : vp_in i n) (hr : (M.2 a).2.2 i.toNatClampNeg = some q) (kk : zz_G y d k (pc + 1) ls (.ref q :: st) M I J Q) : zz_G y d k pc ls (.int i :: .ref a :: st) M I J Q := by
  intro p l e R t0 m args below meth c Z base b D cT H locs arr hh
  obtain ⟨hC, hZ, hk, hL, hW, hX, hS⟩ := hh
  have hat := hW.at hs.1 hs.2.1
  rw [zz_E5 hs.2.2.1, hs.2.2.2] at hat
  have hlt : i.toNatClampNeg < n := Nat.not_le.mp fun q => hi (Or.inr q)
  refine W.aald (v := va_rf (((M.2 a).2.2 i.toNatClampNeg).map (zz_ad base b))) (ty := .array .int) hC.1 hC.2.1 hat ((hC.2.2.2.2.2.1.1.2 4 _ rfl).1 n (fun j => va_rf (((M.2 a).2.2 j).map (zz_ad base b)))) rfl (fun q => by cases q) (by show ¬ (i < 0 ∨ (arrV _ _ _).slots.size ≤ _); rw [arrV_size]; exact hi) (by show (arrV _ _ _).slots[_]? = _; rw [arrV_read _ _ hlt]) rfl rfl hd ?_
  rw [hr]
  exact kk p l e R t0 m args below meth c Z base b D cT H locs arr ⟨hC, hZ, hk, hL, hW, hX, hS⟩
theorem zz_iald0 {i : Int32} (hd : decode y.2.1 pc = .ok (.iaload, 1)) (hi : vp_in i (M.2 0).2.1) (kk : zz_G y d k (pc + 1) ls (.int (I 0 i.toNatClampNeg) :: st) M I J Q) : zz_G y d k pc ls (.int i :: .ref 0 :: st) M I J Q := by
  intro p l e R t0 m args below meth c Z base b D cT H locs arr hh
  obtain ⟨hC, hZ, hk, hL, hW, hX, hS⟩ := hh
  exact va_sld (A := fun q => base ≤ q) (H0 := H) hC.1 hC.2.1 hX.2.2 (by rw [hW.1]; exact Nat.lt_of_lt_of_le hX.1 (Nat.le_add_right _ _)) (Nat.not_le.mpr hX.1) ⟨Nat.le_refl _, fun _ _ _ => rfl, hS.2.2⟩ hi hd (kk p l e R t0 m args below meth c Z base b D cT H locs arr ⟨hC, hZ, hk, hL, hW, hX, hS⟩)
theorem zz_alen0 (hd : decode y.2.1 pc = .ok (.arraylength, 1)) (kk : zz_G y d k (pc + 1) ls (.int (Int32.ofNat (M.2 0).2.1) :: st) M I J Q) : zz_G y d k pc ls (.ref 0 :: st) M I J Q := by
  intro p l e R t0 m args below meth c Z base b D cT H locs arr hh
  obtain ⟨hC, hZ, hk, hL, hW, hX, hS⟩ := hh
  exact va_slen (A := fun q => base ≤ q) (H0 := H) hC.1 hC.2.1 hX.2.2 (by rw [hW.1]; exact Nat.lt_of_lt_of_le hX.1 (Nat.le_add_right _ _)) (Nat.not_le.mpr hX.1) ⟨Nat.le_refl _, fun _ _ _ => rfl, hS.2.2⟩ hd (kk p l e R t0 m args below meth c Z base b D cT H locs arr ⟨hC, hZ, hk, hL, hW, hX, hS⟩)
theorem zz_iast {a n : Nat} {i : Int32} {x : Int32} (hd : decode y.2.1 pc = .ok (.iastore, 1)) (hs : zz_is M a 1 n) (hi : vp_in i n) (kk : zz_G y d k (pc + 1) ls st M (zz_ui I a i.toNatClampNeg (x)) J Q) : zz_G y d k pc ls (.int x :: .int i :: .ref a :: st) M I J Q := by
  intro p l e R t0 m args below meth c Z base b D cT H locs arr hh
  obtain ⟨hC, hZ, hk, hL, hW, hX, hS⟩ := hh
  have hat := hW.at hs.1 hs.2.1
  rw [zz_E1 hs.2.2.1, hs.2.2.2] at hat
  refine W.iast hC.1 hC.2.1 hat ((hC.2.2.2.2.2.1.1.2 0 _ rfl).1 n (fun j => .int (I a j))) (fun q => by cases q) (by show ¬ (i < 0 ∨ (arrV _ _ _).slots.size ≤ _); rw [arrV_size]; exact hi) rfl rfl hd fun H1 e9 z oq => ?_
  refine kk p l e R t0 m args below meth c Z base b D cT H1 _ arr ⟨hC, hZ, hk, hL, hW.set hs.1 z oq rfl (fun c hc => ⟨rfl, zz_ui_ne I _ _ hc, rfl⟩) ?_, hX.kept rfl (zz_ui_ne I _ _ (Nat.ne_of_lt hs.1)) (fun q hq => oq q (Nat.ne_of_lt (Nat.lt_of_lt_of_le hq (zz_ad_ge hs.1)))), hS.put z oq (zz_ad_ge hs.1)⟩
  rw [zz_E1 hs.2.2.1, hs.2.2.2, zz_ui_at]
  show H1[_]? = some (vp_cell _ _)
  rw [e9, vp_cell_i, vp_cell_i, arrV_store]
  congr 2
  funext q
  by_cases hq : q = i.toNatClampNeg
  · subst hq
    simp [updV, upd]
  · simp [updV, upd, hq]
theorem zz_bast {a n : Nat} {i : Int32} {x : Int32} (hd : decode y.2.1 pc = .ok (.bastore, 1)) (hs : zz_is M a 3 n) (hi : vp_in i n) (kk : zz_G y d k (pc + 1) ls st M (zz_ui I a i.toNatClampNeg (jv_b x)) J Q) : zz_G y d k pc ls (.int x :: .int i :: .ref a :: st) M I J Q := by
  intro p l e R t0 m args below meth c Z base b D cT H locs arr hh
  obtain ⟨hC, hZ, hk, hL, hW, hX, hS⟩ := hh
  have hat := hW.at hs.1 hs.2.1
  rw [zz_E3 hs.2.2.1, hs.2.2.2] at hat
  refine W.bast hC.1 hC.2.1 hat ((hC.2.2.2.2.2.1.1.2 2 _ rfl).1 n (fun j => .int (I a j))) (fun q => by cases q) (by show ¬ (i < 0 ∨ (arrV _ _ _).slots.size ≤ _); rw [arrV_size]; exact hi) rfl rfl hd fun H1 e9 z oq => ?_
  refine kk p l e R t0 m args below meth c Z base b D cT H1 _ arr ⟨hC, hZ, hk, hL, hW.set hs.1 z oq rfl (fun c hc => ⟨rfl, zz_ui_ne I _ _ hc, rfl⟩) ?_, hX.kept rfl (zz_ui_ne I _ _ (Nat.ne_of_lt hs.1)) (fun q hq => oq q (Nat.ne_of_lt (Nat.lt_of_lt_of_le hq (zz_ad_ge hs.1)))), hS.put z oq (zz_ad_ge hs.1)⟩
  rw [zz_E3 hs.2.2.1, hs.2.2.2, zz_ui_at]
  show H1[_]? = some (vp_cell _ _)
  rw [e9, vp_cell_i, vp_cell_i, arrV_store]
  congr 2
  funext q
  by_cases hq : q = i.toNatClampNeg
  · subst hq
    simp [updV, upd, narrow_byte, jv_b]
  · simp [updV, upd, hq]
theorem zz_last {a n : Nat} {i : Int32} {x : Int64} (hd : decode y.2.1 pc = .ok (.lastore, 1)) (hs : zz_is M a 2 n) (hi : vp_in i n) (kk : zz_G y d k (pc + 1) ls st M I (zz_uj J a i.toNatClampNeg x) Q) : zz_G y d k pc ls (.long x :: .int i :: .ref a :: st) M I J Q := by
  intro p l e R t0 m args below meth c Z base b D cT H locs arr hh
  obtain ⟨hC, hZ, hk, hL, hW, hX, hS⟩ := hh
  have hat := hW.at hs.1 hs.2.1
  rw [zz_E2 hs.2.2.1, hs.2.2.2] at hat
  refine W.last hC.1 hC.2.1 hat ((hC.2.2.2.2.2.1.1.2 1 _ rfl).1 n (fun j => .long (J a j))) (fun q => by cases q) (by show ¬ (i < 0 ∨ (arrV _ _ _).slots.size ≤ _); rw [arrV_size]; exact hi) rfl rfl hd fun H1 e9 z oq => ?_
  refine kk p l e R t0 m args below meth c Z base b D cT H1 _ arr ⟨hC, hZ, hk, hL, hW.set hs.1 z oq rfl (fun c hc => ⟨rfl, rfl, zz_uj_ne J _ _ hc⟩) ?_, hX.kept rfl rfl (fun q hq => oq q (Nat.ne_of_lt (Nat.lt_of_lt_of_le hq (zz_ad_ge hs.1)))), hS.put z oq (zz_ad_ge hs.1)⟩
  rw [zz_E2 hs.2.2.1, hs.2.2.2, zz_uj_at]
  show H1[_]? = some (vp_cell _ _)
  rw [e9, vp_cell_l, vp_cell_l, arrV_store]
  congr 2
  funext q
  by_cases hq : q = i.toNatClampNeg
  · subst hq
    simp [updV, vp_updL]
  · simp [updV, vp_updL, hq]
/-- what a call's link says: the method's name and code are in the tables -/
def zz_lk (y : zz_Y) (n : Nat) : Prop := Cond.code y.1 y.2.1 y.2.2.1 y.2.2.2.1 ∈ zz_tbl ∧ Cond.initialized y.1.cls ∈ zz_tbl ∧ (y.1.cls ≠ "java/lang/invoke/MethodHandle" ∧ y.1.cls ≠ "java/lang/invoke/VarHandle" ∧ (parseMethodDescriptor y.1.desc).map (fun d => d.parameters.length) = some n) ∧ y.2.2.1 ≤ 81
theorem zz_goodIn {y : zz_Y} {n : Nat} (h : zz_lk y n) : GoodIn zz_tbl (zz_ws y) := fun w hw => by
  rcases List.mem_cons.mp hw with rfl | h1
  · exact ⟨h.1, good_of_word (zz_tbl_good _ h.1)⟩
  · exact ⟨h1, good_of_word (zz_tbl_good _ h1)⟩
theorem zz_roomOk {y : zz_Y} {n d : Nat} {R : Room} (h : zz_lk y n) (h1 : d + 1 ≤ R.frames) (h2 : 100 * (d + 1) ≤ R.locals) : (zz_rm y d).frames + 1 ≤ R.frames ∧ 8 + (y.2.2.1 + 11) + (zz_rm y d).locals ≤ R.locals := by
  have := h.2.2.2
  exact ⟨h1, by show 8 + (y.2.2.1 + 11) + 100 * d ≤ R.locals; omega⟩
theorem zz_catsum (base b : Nat) (st : List Value) : ((st.map (zz_tr base b)).map fun v => v.category).sum = (st.map fun v => v.category).sum := by
  rw [List.map_map]
  congr 1
  apply List.map_congr_left
  intro v _
  exact zz_tr_cat base b v
theorem zz_callV {y' : zz_Y} {a ci idx : Nat} {w : vw_C} {As : List Value} (hd : decode y.2.1 pc = .ok (.invokevirtual idx, 3)) (hlk : zz_lk y' As.length) (hlink : Cond.methodLink y.1.cls idx y'.1 ∈ zz_tbl) (hin : Cond.instanceMethod y'.1 ∈ zz_tbl) (hsel : Cond.selects y'.1.cls y'.1 y'.1 ∈ zz_tbl) (hs : zz_is M a 0 ci) (hcl : zz_cl[ci]? = some w) (hcn : w.1 = y'.1.cls) (hcat : (st.map fun v => v.category).sum ≤ 8) (hkk : k + y'.2.2.2.2 ≤ y.2.2.2.2)
    (kk : zz_D y' d (.ref a :: As) M I J (fun v M' I' J' => zz_G y (d + 1) (k + y'.2.2.2.2) (pc + 3) ls (v.toList ++ st) M' I' J' Q)) : zz_G y (d + 1) k pc ls (As.reverse ++ .ref a :: st) M I J Q := by
  intro p l e R t0 m args below meth c Z base b D cT H locs arr hh
  obtain ⟨hC, hZ, hk, hL, hW, hX, hS⟩ := hh
  obtain ⟨y1, y2, y3, y4, y5⟩ := y'
  have hrecv : ∃ cellB : Cell, H[zz_ad base b a]? = some cellB ∧ cellB.vm.isStatics = false ∧ t0.vm.findClass y1.cls = some cellB.cls := by
    have hP := zz_P1 (hW.at hs.1 hs.2.1)
    rw [zz_E0 hs.2.2.1 hs.2.2.2] at hP
    have := va_recv hC.2.2.2.2.2.1.1 hP hcl (q0 := 0) rfl
    rw [hcn] at this
    exact this
  have hts := hC.2.2.2.2.1
  have hM := kk l base b D cT
  have hst0 : 2 * (F0 m pc arr ((As.reverse ++ .ref a :: st).map (zz_tr base b))).monitorRoom + (((st.map (zz_tr base b)).map fun v => v.category).sum) ≤ 8 := lv_room (rest := (As.reverse ++ .ref a :: st).map (zz_tr base b)) (by rw [zz_catsum]; exact hcat)
  have hcs : k + y5 ≤ R.cells ∧ 1200 * k + 1200 * y5 ≤ R.slots := by
    have h1 := hC.2.2.2.2.2.2.2.2.2.1
    have h2 := hC.2.2.2.2.2.2.2.2.2.2.1
    have h3 : k + y5 ≤ y.2.2.2.2 := hkk
    exact ⟨by omega, by omega⟩
  have hfr := zz_roomOk hlk hC.2.2.2.2.2.2.2.1 hC.2.2.2.2.2.2.2.2.1
  have cb := callB_of (R := R) (args := args) (s := t0) As.length hts (zz_goodIn hlk) rfl rfl rfl (hts _ hlk.2.1) (hts _ hlink) hlk.2.2.1 hfr
  refine zz_back (st := st) hC hZ hkk hL hS (va_runV (As := As.map (zz_tr base b)) (rest := st.map (zz_tr base b)) ⟨hC.1, hC.2.1, hC.2.2.1, hC.2.2.2.1, hts⟩ hM ⟨cb, hts _ hin, hts _ hsel⟩ ⟨zz_Pc.blind, hrecv, zz_Pc.at hW hX hC.2.2.2.2.2.1⟩ rfl (List.length_map _) hL.1 (by simp [List.map_reverse, zz_tr]) hst0 hd hcs) (fun v M' I' J' h => h)
theorem zz_callS {y' : zz_Y} {idx : Nat} {As : List Value} (hd : decode y.2.1 pc = .ok (.invokestatic idx, 3)) (hlk : zz_lk y' As.length) (hlink : Cond.methodLink y.1.cls idx y'.1 ∈ zz_tbl) (hst : Cond.static y'.1 ∈ zz_tbl) (hcat : (st.map fun v => v.category).sum ≤ 8) (hkk : k + y'.2.2.2.2 ≤ y.2.2.2.2)
    (kk : zz_D y' d (As) M I J (fun v M' I' J' => zz_G y (d + 1) (k + y'.2.2.2.2) (pc + 3) ls (v.toList ++ st) M' I' J' Q)) : zz_G y (d + 1) k pc ls (As.reverse ++ st) M I J Q := by
  intro p l e R t0 m args below meth c Z base b D cT H locs arr hh
  obtain ⟨hC, hZ, hk, hL, hW, hX, hS⟩ := hh
  obtain ⟨y1, y2, y3, y4, y5⟩ := y'
  have hts := hC.2.2.2.2.1
  have hM := kk l base b D cT
  have hst0 : 2 * (F0 m pc arr ((As.reverse ++ st).map (zz_tr base b))).monitorRoom + (((st.map (zz_tr base b)).map fun v => v.category).sum) ≤ 8 := lv_room (rest := (As.reverse ++ st).map (zz_tr base b)) (by rw [zz_catsum]; exact hcat)
  have hcs : k + y5 ≤ R.cells ∧ 1200 * k + 1200 * y5 ≤ R.slots := by
    have h1 := hC.2.2.2.2.2.2.2.2.2.1
    have h2 := hC.2.2.2.2.2.2.2.2.2.2.1
    have h3 : k + y5 ≤ y.2.2.2.2 := hkk
    exact ⟨by omega, by omega⟩
  have hfr := zz_roomOk hlk hC.2.2.2.2.2.2.2.1 hC.2.2.2.2.2.2.2.2.1
  have cb := callB_of (R := R) (args := args) (s := t0) As.length hts (zz_goodIn hlk) rfl rfl rfl (hts _ hlk.2.1) (hts _ hlink) hlk.2.2.1 hfr
  refine zz_back (st := st) hC hZ hkk hL hS (va_runS (As := As.map (zz_tr base b)) (rest := st.map (zz_tr base b)) ⟨hC.1, hC.2.1, hC.2.2.1, hC.2.2.2.1, hts⟩ hM ⟨cb, hts _ hst⟩ ⟨zz_Pc.blind, zz_Pc.at hW hX hC.2.2.2.2.2.1⟩ rfl (List.length_map _) hL.1 (by simp [List.map_reverse, zz_tr]) hst0 hd hcs) (fun v M' I' J' h => h)
theorem zz_callSN {y' : zz_Y} {idx : Nat} {host : String} {As : List Value} (hd : decode y.2.1 pc = .ok (.invokestatic idx, 3)) (hlk : zz_lk y' As.length) (hlink : Cond.methodLinkNest y.1.cls idx y'.1 host ∈ zz_nest) (hst : Cond.static y'.1 ∈ zz_tbl) (hcat : (st.map fun v => v.category).sum ≤ 8) (hkk : k + y'.2.2.2.2 ≤ y.2.2.2.2)
    (kk : zz_D y' d (As) M I J (fun v M' I' J' => zz_G y (d + 1) (k + y'.2.2.2.2) (pc + 3) ls (v.toList ++ st) M' I' J' Q)) : zz_G y (d + 1) k pc ls (As.reverse ++ st) M I J Q := by
  intro p l e R t0 m args below meth c Z base b D cT H locs arr hh
  obtain ⟨hC, hZ, hk, hL, hW, hX, hS⟩ := hh
  obtain ⟨y1, y2, y3, y4, y5⟩ := y'
  have hts := hC.2.2.2.2.1
  have hM := kk l base b D cT
  have hst0 : 2 * (F0 m pc arr ((As.reverse ++ st).map (zz_tr base b))).monitorRoom + (((st.map (zz_tr base b)).map fun v => v.category).sum) ≤ 8 := lv_room (rest := (As.reverse ++ st).map (zz_tr base b)) (by rw [zz_catsum]; exact hcat)
  have hcs : k + y5 ≤ R.cells ∧ 1200 * k + 1200 * y5 ≤ R.slots := by
    have h1 := hC.2.2.2.2.2.2.2.2.2.1
    have h2 := hC.2.2.2.2.2.2.2.2.2.2.1
    have h3 : k + y5 ≤ y.2.2.2.2 := hkk
    exact ⟨by omega, by omega⟩
  have hfr := zz_roomOk hlk hC.2.2.2.2.2.2.2.1 hC.2.2.2.2.2.2.2.2.1
  have cb := va_cnB (R := R) (args := args) (s := t0) As.length hts (zz_goodIn hlk) rfl rfl rfl (hC.2.2.2.2.2.1.2.1 _ hlink) (hts _ hlk.2.1) hlk.2.2.1 hfr
  refine zz_back (st := st) hC hZ hkk hL hS (va_runSN (As := As.map (zz_tr base b)) (rest := st.map (zz_tr base b)) ⟨hC.1, hC.2.1, hC.2.2.1, hC.2.2.2.1, hts⟩ hM ⟨cb, hts _ hst, trivial⟩ ⟨zz_Pc.blind, zz_Pc.at hW hX hC.2.2.2.2.2.1⟩ rfl (List.length_map _) hL.1 (by simp [List.map_reverse, zz_tr]) hst0 hd hcs) (fun v M' I' J' h => h)
theorem zz_callI {y' : zz_Y} {a idx : Nat} {As : List Value} (hd : decode y.2.1 pc = .ok (.invokespecial idx, 3)) (hlk : zz_lk y' As.length) (hlink : Cond.methodLink y.1.cls idx y'.1 ∈ zz_tbl) (hin : Cond.instanceMethod y'.1 ∈ zz_tbl) (hnm : y'.1.name = "<init>") (hrt : y'.2.2.2.1 = none) (hcat : (st.map fun v => v.category).sum ≤ 8) (hkk : k + y'.2.2.2.2 ≤ y.2.2.2.2)
    (kk : zz_D y' d (.ref a :: As) M I J (fun v M' I' J' => zz_G y (d + 1) (k + y'.2.2.2.2) (pc + 3) ls (v.toList ++ st) M' I' J' Q)) : zz_G y (d + 1) k pc ls (As.reverse ++ .ref a :: st) M I J Q := by
  intro p l e R t0 m args below meth c Z base b D cT H locs arr hh
  obtain ⟨hC, hZ, hk, hL, hW, hX, hS⟩ := hh
  obtain ⟨y1, y2, y3, y4, y5⟩ := y'
  have hrt : y4 = none := hrt
  subst hrt
  have hts := hC.2.2.2.2.1
  have hM := kk l base b D cT
  have hst0 : 2 * (F0 m pc arr ((As.reverse ++ .ref a :: st).map (zz_tr base b))).monitorRoom + (((st.map (zz_tr base b)).map fun v => v.category).sum) ≤ 8 := lv_room (rest := (As.reverse ++ .ref a :: st).map (zz_tr base b)) (by rw [zz_catsum]; exact hcat)
  have hcs : k + y5 ≤ R.cells ∧ 1200 * k + 1200 * y5 ≤ R.slots := by
    have h1 := hC.2.2.2.2.2.2.2.2.2.1
    have h2 := hC.2.2.2.2.2.2.2.2.2.2.1
    have h3 : k + y5 ≤ y.2.2.2.2 := hkk
    exact ⟨by omega, by omega⟩
  have hfr := zz_roomOk hlk hC.2.2.2.2.2.2.2.1 hC.2.2.2.2.2.2.2.2.1
  have cb := callB_of (R := R) (args := args) (s := t0) As.length hts (zz_goodIn hlk) rfl rfl rfl (hts _ hlk.2.1) (hts _ hlink) hlk.2.2.1 hfr
  refine zz_back (st := st) hC hZ hkk hL hS (va_runI (As := As.map (zz_tr base b)) (rest := st.map (zz_tr base b)) ⟨hC.1, hC.2.1, hC.2.2.1, hC.2.2.2.1, hts⟩ hM ⟨cb, hnm, hts _ hin⟩ ⟨zz_Pc.blind, zz_Pc.at hW hX hC.2.2.2.2.2.1⟩ rfl (List.length_map _) hL.1 (by simp [List.map_reverse, zz_tr]) hst0 hd hcs) (fun v M' I' J' h => h)
theorem zz_callIN {y' : zz_Y} {a idx : Nat} {host : String} {As : List Value} (hd : decode y.2.1 pc = .ok (.invokespecial idx, 3)) (hlk : zz_lk y' As.length) (hlink : Cond.methodLinkNest y.1.cls idx y'.1 host ∈ zz_nest) (hin : Cond.instanceMethod y'.1 ∈ zz_tbl) (hnm : y'.1.name = "<init>") (hrt : y'.2.2.2.1 = none) (hcat : (st.map fun v => v.category).sum ≤ 8) (hkk : k + y'.2.2.2.2 ≤ y.2.2.2.2)
    (kk : zz_D y' d (.ref a :: As) M I J (fun v M' I' J' => zz_G y (d + 1) (k + y'.2.2.2.2) (pc + 3) ls (v.toList ++ st) M' I' J' Q)) : zz_G y (d + 1) k pc ls (As.reverse ++ .ref a :: st) M I J Q := by
  intro p l e R t0 m args below meth c Z base b D cT H locs arr hh
  obtain ⟨hC, hZ, hk, hL, hW, hX, hS⟩ := hh
  obtain ⟨y1, y2, y3, y4, y5⟩ := y'
  have hrt : y4 = none := hrt
  subst hrt
  have hts := hC.2.2.2.2.1
  have hM := kk l base b D cT
  have hst0 : 2 * (F0 m pc arr ((As.reverse ++ .ref a :: st).map (zz_tr base b))).monitorRoom + (((st.map (zz_tr base b)).map fun v => v.category).sum) ≤ 8 := lv_room (rest := (As.reverse ++ .ref a :: st).map (zz_tr base b)) (by rw [zz_catsum]; exact hcat)
  have hcs : k + y5 ≤ R.cells ∧ 1200 * k + 1200 * y5 ≤ R.slots := by
    have h1 := hC.2.2.2.2.2.2.2.2.2.1
    have h2 := hC.2.2.2.2.2.2.2.2.2.2.1
    have h3 : k + y5 ≤ y.2.2.2.2 := hkk
    exact ⟨by omega, by omega⟩
  have hfr := zz_roomOk hlk hC.2.2.2.2.2.2.2.1 hC.2.2.2.2.2.2.2.2.1
  have cb := va_cnB (R := R) (args := args) (s := t0) As.length hts (zz_goodIn hlk) rfl rfl rfl (hC.2.2.2.2.2.1.2.1 _ hlink) (hts _ hlk.2.1) hlk.2.2.1 hfr
  refine zz_back (st := st) hC hZ hkk hL hS (va_runIN (As := As.map (zz_tr base b)) (rest := st.map (zz_tr base b)) ⟨hC.1, hC.2.1, hC.2.2.1, hC.2.2.2.1, hts⟩ hM ⟨cb, hnm, hts _ hin⟩ ⟨zz_Pc.blind, zz_Pc.at hW hX hC.2.2.2.2.2.1⟩ rfl (List.length_map _) hL.1 (by simp [List.map_reverse, zz_tr]) hst0 hd hcs) (fun v M' I' J' h => h)
theorem zz_callVN {y' : zz_Y} {a ci idx : Nat} {w : vw_C} {host : String} {As : List Value} (hd : decode y.2.1 pc = .ok (.invokevirtual idx, 3)) (hlk : zz_lk y' As.length) (hlink : Cond.methodLinkNest y.1.cls idx y'.1 host ∈ zz_nest) (hin : Cond.instanceMethod y'.1 ∈ zz_tbl) (hsel : Cond.selects y'.1.cls y'.1 y'.1 ∈ zz_tbl) (hs : zz_is M a 0 ci) (hcl : zz_cl[ci]? = some w) (hcn : w.1 = y'.1.cls) (hcat : (st.map fun v => v.category).sum ≤ 8) (hkk : k + y'.2.2.2.2 ≤ y.2.2.2.2)
    (kk : zz_D y' d (.ref a :: As) M I J (fun v M' I' J' => zz_G y (d + 1) (k + y'.2.2.2.2) (pc + 3) ls (v.toList ++ st) M' I' J' Q)) : zz_G y (d + 1) k pc ls (As.reverse ++ .ref a :: st) M I J Q := by
  intro p l e R t0 m args below meth c Z base b D cT H locs arr hh
  obtain ⟨hC, hZ, hk, hL, hW, hX, hS⟩ := hh
  obtain ⟨y1, y2, y3, y4, y5⟩ := y'
  have hrecv : ∃ cellB : Cell, H[zz_ad base b a]? = some cellB ∧ cellB.vm.isStatics = false ∧ t0.vm.findClass y1.cls = some cellB.cls := by
    have hP := zz_P1 (hW.at hs.1 hs.2.1)
    rw [zz_E0 hs.2.2.1 hs.2.2.2] at hP
    have := va_recv hC.2.2.2.2.2.1.1 hP hcl (q0 := 0) rfl
    rw [hcn] at this
    exact this
  have hts := hC.2.2.2.2.1
  have hM := kk l base b D cT
  have hst0 : 2 * (F0 m pc arr ((As.reverse ++ .ref a :: st).map (zz_tr base b))).monitorRoom + (((st.map (zz_tr base b)).map fun v => v.category).sum) ≤ 8 := lv_room (rest := (As.reverse ++ .ref a :: st).map (zz_tr base b)) (by rw [zz_catsum]; exact hcat)
  have hcs : k + y5 ≤ R.cells ∧ 1200 * k + 1200 * y5 ≤ R.slots := by
    have h1 := hC.2.2.2.2.2.2.2.2.2.1
    have h2 := hC.2.2.2.2.2.2.2.2.2.2.1
    have h3 : k + y5 ≤ y.2.2.2.2 := hkk
    exact ⟨by omega, by omega⟩
  have hfr := zz_roomOk hlk hC.2.2.2.2.2.2.2.1 hC.2.2.2.2.2.2.2.2.1
  have cb := va_cnB (R := R) (args := args) (s := t0) As.length hts (zz_goodIn hlk) rfl rfl rfl (hC.2.2.2.2.2.1.2.1 _ hlink) (hts _ hlk.2.1) hlk.2.2.1 hfr
  refine zz_back (st := st) hC hZ hkk hL hS (va_runVN (As := As.map (zz_tr base b)) (rest := st.map (zz_tr base b)) ⟨hC.1, hC.2.1, hC.2.2.1, hC.2.2.2.1, hts⟩ hM ⟨cb, hts _ hin, hts _ hsel⟩ ⟨zz_Pc.blind, hrecv, zz_Pc.at hW hX hC.2.2.2.2.2.1⟩ rfl (List.length_map _) hL.1 (by simp [List.map_reverse, zz_tr]) hst0 hd hcs) (fun v M' I' J' h => h)
theorem zz_objInit {a idx : Nat} (hd : decode y.2.1 pc = .ok (.invokespecial idx, 3)) (h1 : Cond.methodLink y.1.cls idx Lib.objectInit ∈ zz_tbl) (h2 : Cond.instanceMethod Lib.objectInit ∈ zz_tbl) (h3 : Cond.code Lib.objectInit ⟨#[0xb1]⟩ 1 none ∈ zz_tbl) (hcat : (st.map fun v => v.category).sum ≤ 8) (kk : zz_G y (d + 1) k (pc + 3) ls st M I J Q) : zz_G y (d + 1) k pc ls (.ref a :: st) M I J Q := by
  intro p l e R t0 m args below meth c Z base b D cT H locs arr hh
  obtain ⟨hC, hZ, hk, hL, hW, hX, hS⟩ := hh
  have hts := hC.2.2.2.2.1
  have hst0 : 2 * (F0 m pc arr ((Value.ref a :: st).map (zz_tr base b))).monitorRoom + (((st.map (zz_tr base b)).map fun v => v.category).sum) ≤ 8 := lv_room (rest := (Value.ref a :: st).map (zz_tr base b)) (by rw [zz_catsum]; exact hcat)
  exact W.objInit hC.1 hC.2.1 hC.2.2.2.1 (hts _ h1) (hts _ h2) (hts _ h3) rfl (hL.1.trans hC.2.2.1.symm) rfl hd (by have := hC.2.2.2.2.2.2.2.1; omega) (by have := hC.2.2.2.2.2.2.2.2.1; omega) (kk p l e R t0 m args below meth c Z base b D cT H locs arr ⟨hC, hZ, hk, hL, hW, hX, hS⟩)
end ZN
end
section
/-! ===== rows: making ===== -/
theorem zz_ty_kinds (ci j : Nat) : zz_ty ci j = .int ∨ zz_ty ci j = .long ∨ (∃ n, zz_ty ci j = .object n) ∨ ∃ t, zz_ty ci j = .array t := by
  unfold zz_ty
  split
  · unfold tyX0; split <;> simp
  · unfold tyX1; split <;> simp
  · unfold tyX2; split <;> simp
  · unfold tyX3; split <;> simp
  · unfold tyX4; split <;> simp
  · unfold tyX5; split <;> simp
  · unfold tyX6; split <;> simp
  · unfold tyX7; split <;> simp
  · unfold tyX8; split <;> simp
  · unfold tyX9; split <;> simp
  · unfold tyX10; split <;> simp
theorem zz_dflt (ad : Nat → Nat) (ci j : Nat) : defaultValue (zz_ty ci j) = zz_fv ad (zz_ty ci j) 0 0 none := by
  rcases zz_ty_kinds ci j with h | h | ⟨n, h⟩ | ⟨t, h⟩ <;> rw [h] <;> rfl
/-- a cell more -/
def zz_pu (M : zz_M) (x : zz_S) : zz_M := (M.1 + 1, fun c => if c = M.1 + 1 then x else M.2 c)
theorem zz_pu0 (M : zz_M) (x : zz_S) : (zz_pu M x).2 0 = M.2 0 := by
  show (if 0 = M.1 + 1 then x else M.2 0) = M.2 0
  rw [if_neg (by omega)]
theorem zz_W.push {base b : Nat} {D : va_G} {cT : Nat → ClassId} {M : zz_M} {I : zz_I} {J : zz_J} {H H' : Heap} {x : zz_S} (h : zz_W base b D cT M I J H) (hz : H'.size = H.size + 1) (ho : ∀ q, q < H.size → H'[q]? = H[q]?) (hat : va_at D zz_cl (H.size, zz_E (zz_ad base b) cT x (I (M.1 + 1)) (J (M.1 + 1))) H') : zz_W base b D cT (zz_pu M x) I J H' := by
  refine ⟨by rw [hz, h.1]; rfl, fun k hk => ?_⟩
  by_cases e : k = M.1
  · subst e
    show va_at D zz_cl (base + M.1, zz_E (zz_ad base b) cT (if M.1 + 1 = M.1 + 1 then x else M.2 (M.1 + 1)) _ _) H'
    rw [if_pos rfl, ← h.1]
    exact hat
  · have hk' : k < M.1 := by have : k < M.1 + 1 := hk; omega
    show va_at D zz_cl (base + k, zz_E (zz_ad base b) cT (if k + 1 = M.1 + 1 then x else M.2 (k + 1)) _ _) H'
    rw [if_neg (by omega)]
    exact (h.2 k hk').kept (ho _ (by rw [h.1]; omega))
theorem zz_S_push {A : Nat → Prop} {H0 H H' : Heap} {locs : List Loc} {n : Nat} (hS : va_S A H0 H locs) (hz : H'.size = H.size + n) (ho : ∀ q, q < H.size → H'[q]? = H[q]?) : va_S A H0 H' locs :=
  ⟨by rw [hz]; exact Nat.le_trans hS.1 (Nat.le_add_right _ _), fun q h1 h2 => (ho q (Nat.lt_of_lt_of_le h1 hS.1)).trans (hS.2.1 q h1 h2), hS.2.2⟩
theorem zz_ad_new {base b : Nat} {D : va_G} {cT : Nat → ClassId} {M : zz_M} {I : zz_I} {J : zz_J} {H : Heap} (h : zz_W base b D cT M I J H) : H.size = zz_ad base b (M.1 + 1) := h.1
section ZK
variable {y : zz_Y} {d k pc : Nat} {ls : List (Option Value)} {st : List Value} {M : zz_M} {I : zz_I} {J : zz_J} {Q : zz_Q}
theorem zz_new {ci idx : Nat} {q : vw_C} (hd : decode y.2.1 pc = .ok (.new idx, 3)) (hq : zz_cl[ci]? = some q) (h1 : Cond.classLink y.1.cls idx q.1 ∈ zz_tbl) (h2 : Cond.instantiable q.1 q.2.2 ∈ zz_tbl) (h3 : Cond.initialized q.1 ∈ zz_tbl) (hkk : k + 1 ≤ y.2.2.2.2) (hn : q.2.2 ≤ 1200) (hI : ∀ j, I (M.1 + 1) j = 0) (hJ : ∀ j, J (M.1 + 1) j = 0)
    (kk : zz_G y d (k + 1) (pc + 3) ls (.ref (M.1 + 1) :: st) (zz_pu M (0, ci, fun _ => none)) I J Q) : zz_G y d k pc ls st M I J Q := by
  intro p l e R t0 m args below meth c Z base b D cT H locs arr hh
  obtain ⟨hC, hZ, hk, hL, hW, hX, hS⟩ := hh
  obtain ⟨C, T, N⟩ := q
  obtain ⟨ok1, ok2, ok3, ok4, ok5⟩ := zz_oks ci _ hq
  have hts := hC.2.2.2.2.1
  have hKn := hC.2.2.2.2.2.1.1.1 ci _ hq
  have b1 := hC.2.2.2.2.2.2.2.2.2.1
  have b2 := hC.2.2.2.2.2.2.2.2.2.2.1
  have hn : N ≤ 1200 := hn
  refine W.newcK hC.1 hC.2.1 hC.2.2.2.1 (hts _ h1) (hts _ h2) (hts _ h3) rfl hd (by omega) (by show 1200 * k + N ≤ R.slots; omega) hKn.2.1 rfl fun H1 kC hkC e1 z1 o1 => ?_
  refine W.widen (k := k + 1) (n := 1200 * (k + 1)) (Nat.le_refl _) (by show 1200 * k + N ≤ _; omega) ?_
  have hb := (u_born (zz_ty ci) hts ok2 hKn hkC e1 ok3)
  have hWn : zz_W base b D cT (zz_pu M (0, ci, fun _ => none)) I J H1 := by
    refine hW.push z1 o1 ?_
    rw [zz_E0 (ci := ci) rfl rfl]
    refine ⟨_, hq, hb.to (fun j hj => ?_)⟩
    have hj' : j < zz_nf ci := by rw [← ok1]; exact hj
    rw [zz_V _ hj', hI, hJ]
    exact zz_dflt _ ci j
  have hg := kk p l e R t0 m args below meth c Z base b D cT H1 locs arr ⟨hC, hZ, hkk, hL, hWn, hX.kept (zz_pu0 M _) rfl (fun q hq => o1 q (by rw [hW.1]; omega)), zz_S_push hS z1 o1⟩
  rw [zz_ad_new hW]
  exact hg
theorem zz_newarr {t : Nat} {at0 : ArrayType} {ty : FieldType} {n : Int32} {N : Nat} (hd : decode y.2.1 pc = .ok (.newarray at0, 2)) (ht : newarray.typeOf at0 = ty) (h1 : Cond.arrayClass ty ∈ zz_tbl) (hkk : k + 1 ≤ y.2.2.2.2) (hn : ¬ n < 0) (hN : n.toNatClampNeg = N) (hN2 : N ≤ 1200) (hI : ∀ j, I (M.1 + 1) j = 0) (hJ : ∀ j, J (M.1 + 1) j = 0) (hc : (ty = .int ∧ t = 1) ∨ (ty = .long ∧ t = 2) ∨ (ty = .byte ∧ t = 3))
    (kk : zz_G y d (k + 1) (pc + 2) ls (.ref (M.1 + 1) :: st) (zz_pu M (t, N, fun _ => none)) I J Q) : zz_G y d k pc ls (.int n :: st) M I J Q := by
  intro p l e R t0 m args below meth c Z base b D cT H locs arr hh
  obtain ⟨hC, hZ, hk, hL, hW, hX, hS⟩ := hh
  subst ht
  have hts := hC.2.2.2.2.1
  have hK := hC.2.2.2.2.2.1.1
  have b1 := hC.2.2.2.2.2.2.2.2.2.1
  have b2 := hC.2.2.2.2.2.2.2.2.2.2.1
  have hI0 : I (M.1 + 1) = fun _ => 0 := funext hI
  have hJ0 : J (M.1 + 1) = fun _ => 0 := funext hJ
  have hby : N * componentBytes (newarray.typeOf at0) ≤ 536870912 := by
    rcases hc with ⟨h, -⟩ | ⟨h, -⟩ | ⟨h, -⟩ <;> rw [h] <;> simp [componentBytes] <;> omega
  refine va_newaK hC.1 hC.2.1 (hts _ h1) rfl hd rfl hn hN hby (by omega) (by omega) rfl fun H1 cA e1 z1 o1 hAr hNm => ?_
  refine W.widen (k := k + 1) (n := 1200 * (k + 1)) (Nat.le_refl _) (by omega) ?_
  have hWn : zz_W base b D cT (zz_pu M (t, N, fun _ => none)) I J H1 := by
    refine hW.push z1 o1 ?_
    rcases hc with ⟨h, rfl⟩ | ⟨h, rfl⟩ | ⟨h, rfl⟩
    · rw [zz_E1 rfl, hI0]
      have hr : t0.vm.findClass ("[" ++ FieldType.int.toString) = some (cT 1) := (hK.2 0 _ rfl).2
      rw [h] at hNm e1
      cases hr.symm.trans hNm
      exact e1
    · rw [zz_E2 rfl, hJ0]
      have hr : t0.vm.findClass ("[" ++ FieldType.long.toString) = some (cT 2) := (hK.2 1 _ rfl).2
      rw [h] at hNm e1
      cases hr.symm.trans hNm
      exact e1
    · rw [zz_E3 rfl, hI0]
      have hr : t0.vm.findClass ("[" ++ FieldType.byte.toString) = some (cT 3) := (hK.2 2 _ rfl).2
      rw [h] at hNm e1
      cases hr.symm.trans hNm
      exact e1
  have hg := kk p l e R t0 m args below meth c Z base b D cT H1 locs arr ⟨hC, hZ, hkk, hL, hWn, hX.kept (zz_pu0 M _) rfl (fun q hq => o1 q (by rw [hW.1]; omega)), zz_S_push hS z1 o1⟩
  rw [zz_ad_new hW]
  exact hg
theorem zz_anew {idx : Nat} {n : Int32} {N : Nat} (hd : decode y.2.1 pc = .ok (.anewarray idx, 3)) (h1 : Cond.classLink y.1.cls idx "NeverMistaken$Line" ∈ zz_tbl) (hkk : k + 1 ≤ y.2.2.2.2) (hn : ¬ n < 0) (hN : n.toNatClampNeg = N) (hN2 : N ≤ 1200)
    (kk : zz_G y d (k + 1) (pc + 3) ls (.ref (M.1 + 1) :: st) (zz_pu M (4, N, fun _ => none)) I J Q) : zz_G y d k pc ls (.int n :: st) M I J Q := by
  intro p l e R t0 m args below meth c Z base b D cT H locs arr hh
  obtain ⟨hC, hZ, hk, hL, hW, hX, hS⟩ := hh
  subst hN
  have hts := hC.2.2.2.2.1
  have hK := hC.2.2.2.2.2.1.1
  have b1 := hC.2.2.2.2.2.2.2.2.2.1
  have b2 := hC.2.2.2.2.2.2.2.2.2.2.1
  refine W.anew hC.1 hC.2.1 hC.2.2.2.1 (hts _ h1) (va_AO.use hC.2.2.2.2.2.1.2.2.1) rfl hd rfl hn (by omega) (by omega) (by omega) fun cA kA comp f1 f2 f3 f4 => ?_
  generalize hH1 : H.push ({ cls := cA, slots := Array.replicate n.toNatClampNeg .null, vm := .none } : Cell) = H1
  have z1 : H1.size = H.size + 1 := by rw [← hH1, Array.size_push]
  have e1 : H1[H.size]? = some (arrV cA n.toNatClampNeg (fun _ => .null)) := by rw [← hH1, Array.getElem?_push_size, ← arrV_new]
  have o1 : ∀ q : Nat, q < H.size → H1[q]? = H[q]? := fun q hq => by rw [← hH1, Array.getElem?_push, if_neg (Nat.ne_of_lt hq)]
  refine W.widen (k := k + 1) (n := 1200 * (k + 1)) (Nat.le_refl _) (by omega) ?_
  have hWn : zz_W base b D cT (zz_pu M (4, n.toNatClampNeg, fun _ => none)) I J H1 := by
    refine hW.push z1 o1 ?_
    rw [zz_E4 rfl]
    have hr : t0.vm.findClass ("[" ++ (FieldType.object "NeverMistaken$Line").toString) = some (cT 4) := by
      obtain ⟨kA', comp', -, -, -, h4⟩ := (hK.2 3 _ rfl).2
      exact h4
    cases hr.symm.trans f1
    exact e1
  have hg := kk p l e R t0 m args below meth c Z base b D cT H1 locs arr ⟨hC, hZ, hkk, hL, hWn, hX.kept (zz_pu0 M _) rfl (fun q hq => o1 q (by rw [hW.1]; omega)), zz_S_push hS z1 o1⟩
  show W p l e R t0 m args below meth c H1 locs (k + 1) (1200 * (k + 1)) Z (F0 m (pc + 3) arr (.ref H.size :: List.map (zz_tr base b) st))
  rw [zz_ad_new hW]
  exact hg
/-- a row of references set: lines[l] = new Line() -/
theorem zz_aast {a n ci : Nat} {v : Nat} {i : Int32} (hd : decode y.2.1 pc = .ok (.aastore, 1)) (hs : zz_is M a 4 n) (hi : vp_in i n) (hv : zz_is M v 0 3)
    (kk : zz_G y d k (pc + 1) ls st (M.1, zz_us M.2 a i.toNatClampNeg (some v)) I J Q) : zz_G y d k pc ls (.ref v :: .int i :: .ref a :: st) M I J Q := by
  intro p l e R t0 m args below meth c Z base b D cT H locs arr hh
  obtain ⟨hC, hZ, hk, hL, hW, hX, hS⟩ := hh
  have hK := hC.2.2.2.2.2.1.1
  have hat := hW.at hs.1 hs.2.1
  rw [zz_E4 hs.2.2.1, hs.2.2.2] at hat
  have hatv := hW.at hv.1 hv.2.1
  rw [zz_E0 hv.2.2.1 hv.2.2.2] at hatv
  obtain ⟨r, h1, cv, q1, q2, q3, q4⟩ := hatv
  have hlt : i.toNatClampNeg < n := Nat.not_le.mp fun q => hi (Or.inr q)
  have h0 : ¬ i < 0 := fun q => hi (Or.inl q)
  obtain ⟨-, hcl⟩ := hK.1 3 (RX3, TX3, 6) rfl
  obtain ⟨kA, comp, g1, g2, g3, g4⟩ := (hK.2 3 _ rfl).2
  have hcl' := hcl
  obtain ⟨hfc, kC, hkC, hkind⟩ := hcl
  have hcomp : D.1 3 = comp := Option.some.inj (hfc.symm.trans g3)
  have hasg := va_assign hcl'
  rw [hcomp] at hasg hkC
  rw [hcomp] at q2
  refine W.aast hC.1 hC.2.1 (comp := comp) (k := kA) (kv := kC) (kcomp := kC) (t := .object "NeverMistaken$Line") hat (fun q h => by cases h) (fun h => by cases h) g1 g2 rfl hkC ⟨h0, by show _ < (arrV _ _ _).slots.size; rw [arrV_size]; exact hlt⟩ q1 (fun q h => by rw [q3] at h; cases h) (by rw [q2]; exact hkC) (by rw [q2]; exact hasg) rfl rfl hd fun H1 e9 z oq => ?_
  have hus : zz_us M.2 a i.toNatClampNeg (some v) a = ((M.2 a).1, (M.2 a).2.1, fun j => if j = i.toNatClampNeg then some v else (M.2 a).2.2 j) := if_pos rfl
  refine kk p l e R t0 m args below meth c Z base b D cT H1 _ arr ⟨hC, hZ, hk, hL, hW.set (M' := (M.1, zz_us M.2 a i.toNatClampNeg (some v))) hs.1 z oq rfl (fun c hc => ⟨if_neg hc, rfl, rfl⟩) ?_, hX.kept (if_neg (Nat.ne_of_lt hs.1)) rfl (fun q hq => oq q (Nat.ne_of_lt (Nat.lt_of_lt_of_le hq (zz_ad_ge hs.1)))), hS.put z oq (zz_ad_ge hs.1)⟩
  show va_at D zz_cl (_, zz_E _ _ (zz_us M.2 a i.toNatClampNeg (some v) a) _ _) H1
  rw [hus, zz_E4 (by exact hs.2.2.1)]
  show H1[_]? = some (vp_cell _ _)
  rw [e9, vp_cell_q, vp_cell_q, arrV_store, hs.2.2.2]
  congr 2
  funext q
  by_cases hq : q = i.toNatClampNeg
  · subst hq
    simp [updV, va_rf]
  · simp [updV, hq]
/-- new int[n][j] -/
def zz_pm (M : zz_M) (n j : Nat) : zz_M := (M.1 + 1 + n, fun c => if c = M.1 + 1 then (5, n, fun i => if i < n then some (M.1 + 2 + i) else none) else if M.1 + 2 ≤ c ∧ c < M.1 + 2 + n then (1, j, fun _ => none) else M.2 c)
theorem zz_outer (c : ClassId) (N h0 : Nat) : ∀ i : Nat, Jvm.Free.Multi.outerC c N h0 i = arrV c N (fun j => va_rf (if j < i then some (h0 + 1 + j) else none))
  | 0 => by
    show ({ cls := c, slots := Array.replicate N .null, vm := .none } : Cell) = _
    rw [arrV_new]
    refine congrArg (arrV c N) (funext fun j => ?_)
    simp [va_rf]
  | i + 1 => by
    show (Jvm.Free.Multi.outerC c N h0 i).setSlot i (.ref (h0 + 1 + i)) = _
    rw [zz_outer c N h0 i, arrV_store]
    refine congrArg (arrV c N) (funext fun j => ?_)
    by_cases e : j = i
    · subst e
      simp [updV, va_rf]
    · by_cases h : j < i
      · simp [updV, e, h, Nat.lt_succ_of_lt h]
      · simp [updV, e, h, show ¬ j < i + 1 by omega]
theorem zz_mna {idx : Nat} {n j : Int32} {N' K' : Nat} (hd : decode y.2.1 pc = .ok (.multianewarray idx 2, 4)) (h1 : Cond.classLink y.1.cls idx "[[I" ∈ zz_tbl) (h2 : Cond.arrayClass .int ∈ zz_tbl) (hkk : k + (1 + N') ≤ y.2.2.2.2) (hn : ¬ n < 0) (hj : ¬ j < 0) (hN : n.toNatClampNeg = N') (hK' : j.toNatClampNeg = K') (hN2 : N' ≤ 1000) (hK2 : K' ≤ 1000) (hI : ∀ c, M.1 < c → I c = fun _ => 0)
    (kk : zz_G y d (k + (1 + N')) (pc + 4) ls (.ref (M.1 + 1) :: st) (zz_pm M N' K') I J Q) : zz_G y d k pc ls (.int j :: .int n :: st) M I J Q := by
  intro p l e R t0 m args below meth c Z base b D cT H locs arr hh
  obtain ⟨hC, hZ, hk, hL, hW, hX, hS⟩ := hh
  subst hN
  subst hK'
  have hts := hC.2.2.2.2.1
  have hK := hC.2.2.2.2.2.1.1
  have b1 := hC.2.2.2.2.2.2.2.2.2.1
  have b2 := hC.2.2.2.2.2.2.2.2.2.2.1
  have hsl : n.toNatClampNeg + n.toNatClampNeg * j.toNatClampNeg ≤ 1200 * (1 + n.toNatClampNeg) := by
    have : n.toNatClampNeg * j.toNatClampNeg ≤ n.toNatClampNeg * 1000 := Nat.mul_le_mul_left _ hK2
    omega
  intro T hT Xs
  obtain ⟨vm₁, cA, comp, -, fA, fC, hO, -, X', step⟩ := Xs.multianewarray2F (ty := .int) hC.1 hC.2.2.2.1 (hts _ h1) hC.2.2.2.2.2.1.2.2.2 (hts _ h2) (g := F0 m pc arr (.int j :: .int n :: List.map (zz_tr base b) st)) rfl (by rw [hC.2.1]; exact hd) rfl hn hj (by omega) (by simp [componentBytes]; omega) (by omega) rfl rfl (by omega) (by omega)
  have ec : t0.vm.findClass (FieldType.array .int).toString = some (cT 1) := (hK.2 0 _ rfl).2
  cases ec.symm.trans fC
  have eA : t0.vm.findClass ("[" ++ (FieldType.array .int).toString) = some (cT 5) := (hK.2 4 _ rfl).2
  cases eA.symm.trans fA
  generalize hF : Jvm.Free.Multi.fill (T.setVm vm₁) (cT 5) (cT 1) n.toNatClampNeg j.toNatClampNeg (defaultValue .int) n.toNatClampNeg = F at X' step
  have hTh : (T.setVm vm₁).heap = H := hT
  obtain ⟨f1, f2, -, -⟩ := Jvm.Free.Multi.fill_facts (T.setVm vm₁) (cT 5) (cT 1) n.toNatClampNeg j.toNatClampNeg (defaultValue .int) n.toNatClampNeg
  rw [hF, hTh] at f1 f2
  have hold : ∀ x : Nat, x < H.size → F.heap[x]? = H[x]? := fun x hx => by
    have := Jvm.Free.Multi.fill_old (T.setVm vm₁) (cT 5) (cT 1) n.toNatClampNeg j.toNatClampNeg (defaultValue .int) (a := x) (by rw [hTh]; exact hx) n.toNatClampNeg
    rw [hF, hTh] at this
    exact this
  have hrow : ∀ i : Nat, i < n.toNatClampNeg → F.heap[H.size + 1 + i]? = some (arrV (cT 1) j.toNatClampNeg (fun _ => .int 0)) := fun i hi => by
    have := Jvm.Free.Multi.fill_inner (T.setVm vm₁) (cT 5) (cT 1) n.toNatClampNeg j.toNatClampNeg (defaultValue .int) n.toNatClampNeg i hi
    rw [hF, hTh] at this
    rw [this, ← arrV_new]
    rfl
  rw [zz_outer] at f2
  have z1 : F.heap.size = H.size + (1 + n.toNatClampNeg) := by rw [f1]; omega
  have hWn : zz_W base b D cT (zz_pm M n.toNatClampNeg j.toNatClampNeg) I J F.heap := by
    refine ⟨by rw [z1, hW.1]; show _ = base + (M.1 + 1 + n.toNatClampNeg); omega, fun q hq => ?_⟩
    have hq : q < M.1 + 1 + n.toNatClampNeg := hq
    by_cases c1 : q < M.1
    · show va_at D zz_cl (base + q, zz_E _ _ (if q + 1 = M.1 + 1 then _ else if M.1 + 2 ≤ q + 1 ∧ q + 1 < M.1 + 2 + n.toNatClampNeg then _ else M.2 (q + 1)) _ _) F.heap
      rw [if_neg (by omega), if_neg (by omega)]
      exact (hW.2 q c1).kept (hold _ (by rw [hW.1]; omega))
    · by_cases c2 : q = M.1
      · subst c2
        show va_at D zz_cl (base + M.1, zz_E _ _ (if M.1 + 1 = M.1 + 1 then _ else _) _ _) F.heap
        rw [if_pos rfl, zz_E5 rfl]
        show F.heap[base + M.1]? = some (vp_cell _ _)
        rw [← hW.1, f2, vp_cell_q]
        congr 2
        funext i
        by_cases hi : i < n.toNatClampNeg
        · simp only [hi, if_true, Option.map_some]
          congr 2
          rw [show M.1 + 2 + i = (M.1 + 1 + i) + 1 by omega]
          show H.size + 1 + i = base + (M.1 + 1 + i)
          rw [hW.1]
          omega
        · simp only [hi, if_false, Option.map_none]
      · show va_at D zz_cl (base + q, zz_E _ _ (if q + 1 = M.1 + 1 then _ else if M.1 + 2 ≤ q + 1 ∧ q + 1 < M.1 + 2 + n.toNatClampNeg then _ else M.2 (q + 1)) _ _) F.heap
        rw [if_neg (by omega), if_pos (by omega), zz_E1 rfl, hI (q + 1) (by omega)]
        show F.heap[base + q]? = some (vp_cell _ _)
        rw [show base + q = H.size + 1 + (q - M.1 - 1) by rw [hW.1]; omega, hrow _ (by omega)]
        rfl
  have hX' : zz_X base b (zz_pm M n.toNatClampNeg j.toNatClampNeg) I t0 F.heap := by
    refine hX.kept ?_ rfl (fun q hq => hold q (by rw [hW.1]; omega))
    unfold zz_pm
    dsimp only
    rw [if_neg (by omega), if_neg (by omega)]
  have hg := kk p l e R t0 m args below meth c Z base b D cT F.heap locs arr ⟨hC, hZ, hkk, hL, hWn, hX', zz_S_push hS z1 hold⟩
  obtain ⟨t, a1, bb1⟩ := hg F rfl (stand_widen X' (by omega) (by omega))
  refine ⟨t, step t ?_, bb1⟩
  have e9 : T.heap.size = zz_ad base b (M.1 + 1) := by rw [hT]; exact hW.1
  rw [e9]
  exact a1
end ZK
end
section
theorem dX0_init_0 : decode cX0_init 0 = .ok (.aload_n 0, 1) := by decide +kernel
theorem dX0_init_1 : decode cX0_init 1 = .ok (.invokespecial 3, 3) := by decide +kernel
theorem dX0_init_4 : decode cX0_init 4 = .ok (.aload_n 0, 1) := by decide +kernel
theorem dX0_init_5 : decode cX0_init 5 = .ok (.bipush 64, 2) := by decide +kernel
theorem dX0_init_7 : decode cX0_init 7 = .ok (.newarray .int, 2) := by decide +kernel
theorem dX0_init_9 : decode cX0_init 9 = .ok (.putfield 9, 3) := by decide +kernel
theorem dX0_init_12 : decode cX0_init 12 = .ok (.aload_n 0, 1) := by decide +kernel
theorem dX0_init_13 : decode cX0_init 13 = .ok (.iconst 0, 1) := by decide +kernel
theorem dX0_init_14 : decode cX0_init 14 = .ok (.putfield 15, 3) := by decide +kernel
theorem dX0_init_17 : decode cX0_init 17 = .ok (.aload_n 0, 1) := by decide +kernel
theorem dX0_init_18 : decode cX0_init 18 = .ok (.iconst (-1), 1) := by decide +kernel
theorem dX0_init_19 : decode cX0_init 19 = .ok (.putfield 19, 3) := by decide +kernel
theorem dX0_init_22 : decode cX0_init 22 = .ok (.aload_n 0, 1) := by decide +kernel
theorem dX0_init_23 : decode cX0_init 23 = .ok (.iconst (-1), 1) := by decide +kernel
theorem dX0_init_24 : decode cX0_init 24 = .ok (.putfield 22, 3) := by decide +kernel
theorem dX0_init_27 : decode cX0_init 27 = .ok (.aload_n 0, 1) := by decide +kernel
theorem dX0_init_28 : decode cX0_init 28 = .ok (.iconst 0, 1) := by decide +kernel
theorem dX0_init_29 : decode cX0_init 29 = .ok (.putfield 25, 3) := by decide +kernel
theorem dX0_init_32 : decode cX0_init 32 = .ok (.return_, 1) := by decide +kernel
theorem dX0_keep_0 : decode cX0_keep 0 = .ok (.aload_n 0, 1) := by decide +kernel
theorem dX0_keep_1 : decode cX0_keep 1 = .ok (.iconst 0, 1) := by decide +kernel
theorem dX0_keep_2 : decode cX0_keep 2 = .ok (.putfield 15, 3) := by decide +kernel
theorem dX0_keep_5 : decode cX0_keep 5 = .ok (.iconst 0, 1) := by decide +kernel
theorem dX0_keep_6 : decode cX0_keep 6 = .ok (.istore 6, 2) := by decide +kernel
theorem dX0_keep_8 : decode cX0_keep 8 = .ok (.iload 6, 2) := by decide +kernel
theorem dX0_keep_10 : decode cX0_keep 10 = .ok (.bipush 64, 2) := by decide +kernel
theorem dX0_keep_12 : decode cX0_keep 12 = .ok (.if_icmp .ge 41, 3) := by decide +kernel
theorem dX0_keep_15 : decode cX0_keep 15 = .ok (.lload_n 1, 1) := by decide +kernel
theorem dX0_keep_16 : decode cX0_keep 16 = .ok (.iload 6, 2) := by decide +kernel
theorem dX0_keep_18 : decode cX0_keep 18 = .ok (.lushr, 1) := by decide +kernel
theorem dX0_keep_19 : decode cX0_keep 19 = .ok (.lconst 1, 1) := by decide +kernel
theorem dX0_keep_20 : decode cX0_keep 20 = .ok (.land, 1) := by decide +kernel
theorem dX0_keep_21 : decode cX0_keep 21 = .ok (.lconst 0, 1) := by decide +kernel
theorem dX0_keep_22 : decode cX0_keep 22 = .ok (.lcmp, 1) := by decide +kernel
theorem dX0_keep_23 : decode cX0_keep 23 = .ok (.ifCond .eq 24, 3) := by decide +kernel
theorem dX0_keep_26 : decode cX0_keep 26 = .ok (.aload_n 0, 1) := by decide +kernel
theorem dX0_keep_27 : decode cX0_keep 27 = .ok (.getfield 9, 3) := by decide +kernel
theorem dX0_keep_30 : decode cX0_keep 30 = .ok (.aload_n 0, 1) := by decide +kernel
theorem dX0_keep_31 : decode cX0_keep 31 = .ok (.getfield 15, 3) := by decide +kernel
theorem dX0_keep_34 : decode cX0_keep 34 = .ok (.iload 6, 2) := by decide +kernel
theorem dX0_keep_36 : decode cX0_keep 36 = .ok (.iastore, 1) := by decide +kernel
theorem dX0_keep_37 : decode cX0_keep 37 = .ok (.aload_n 0, 1) := by decide +kernel
theorem dX0_keep_38 : decode cX0_keep 38 = .ok (.dup, 1) := by decide +kernel
theorem dX0_keep_39 : decode cX0_keep 39 = .ok (.getfield 15, 3) := by decide +kernel
theorem dX0_keep_42 : decode cX0_keep 42 = .ok (.iconst 1, 1) := by decide +kernel
theorem dX0_keep_43 : decode cX0_keep 43 = .ok (.iadd, 1) := by decide +kernel
theorem dX0_keep_44 : decode cX0_keep 44 = .ok (.putfield 15, 3) := by decide +kernel
theorem dX0_keep_47 : decode cX0_keep 47 = .ok (.iinc 6 1, 3) := by decide +kernel
theorem dX0_keep_50 : decode cX0_keep 50 = .ok (.goto (-42), 3) := by decide +kernel
theorem dX0_keep_53 : decode cX0_keep 53 = .ok (.aload_n 0, 1) := by decide +kernel
theorem dX0_keep_54 : decode cX0_keep 54 = .ok (.iload_n 3, 1) := by decide +kernel
theorem dX0_keep_55 : decode cX0_keep 55 = .ok (.putfield 19, 3) := by decide +kernel
theorem dX0_keep_58 : decode cX0_keep 58 = .ok (.aload_n 0, 1) := by decide +kernel
theorem dX0_keep_59 : decode cX0_keep 59 = .ok (.iload 4, 2) := by decide +kernel
theorem dX0_keep_61 : decode cX0_keep 61 = .ok (.putfield 22, 3) := by decide +kernel
theorem dX0_keep_64 : decode cX0_keep 64 = .ok (.aload_n 0, 1) := by decide +kernel
theorem dX0_keep_65 : decode cX0_keep 65 = .ok (.iload 5, 2) := by decide +kernel
theorem dX0_keep_67 : decode cX0_keep 67 = .ok (.putfield 25, 3) := by decide +kernel
theorem dX0_keep_70 : decode cX0_keep 70 = .ok (.return_, 1) := by decide +kernel
theorem dX1_init_0 : decode cX1_init 0 = .ok (.aload_n 0, 1) := by decide +kernel
theorem dX1_init_1 : decode cX1_init 1 = .ok (.invokespecial 3, 3) := by decide +kernel
theorem dX1_init_4 : decode cX1_init 4 = .ok (.aload_n 0, 1) := by decide +kernel
theorem dX1_init_5 : decode cX1_init 5 = .ok (.bipush 64, 2) := by decide +kernel
theorem dX1_init_7 : decode cX1_init 7 = .ok (.newarray .long, 2) := by decide +kernel
theorem dX1_init_9 : decode cX1_init 9 = .ok (.putfield 9, 3) := by decide +kernel
theorem dX1_init_12 : decode cX1_init 12 = .ok (.aload_n 0, 1) := by decide +kernel
theorem dX1_init_13 : decode cX1_init 13 = .ok (.iconst 0, 1) := by decide +kernel
theorem dX1_init_14 : decode cX1_init 14 = .ok (.putfield 15, 3) := by decide +kernel
theorem dX1_init_17 : decode cX1_init 17 = .ok (.aload_n 0, 1) := by decide +kernel
theorem dX1_init_18 : decode cX1_init 18 = .ok (.lconst 0, 1) := by decide +kernel
theorem dX1_init_19 : decode cX1_init 19 = .ok (.putfield 19, 3) := by decide +kernel
theorem dX1_init_22 : decode cX1_init 22 = .ok (.aload_n 0, 1) := by decide +kernel
theorem dX1_init_23 : decode cX1_init 23 = .ok (.iconst 0, 1) := by decide +kernel
theorem dX1_init_24 : decode cX1_init 24 = .ok (.putfield 23, 3) := by decide +kernel
theorem dX1_init_27 : decode cX1_init 27 = .ok (.aload_n 0, 1) := by decide +kernel
theorem dX1_init_28 : decode cX1_init 28 = .ok (.iconst 0, 1) := by decide +kernel
theorem dX1_init_29 : decode cX1_init 29 = .ok (.putfield 26, 3) := by decide +kernel
theorem dX1_init_32 : decode cX1_init 32 = .ok (.return_, 1) := by decide +kernel
theorem dX1_lay_0 : decode cX1_lay 0 = .ok (.aload_n 0, 1) := by decide +kernel
theorem dX1_lay_1 : decode cX1_lay 1 = .ok (.iconst 1, 1) := by decide +kernel
theorem dX1_lay_2 : decode cX1_lay 2 = .ok (.putfield 15, 3) := by decide +kernel
theorem dX1_lay_5 : decode cX1_lay 5 = .ok (.aload_n 0, 1) := by decide +kernel
theorem dX1_lay_6 : decode cX1_lay 6 = .ok (.getfield 9, 3) := by decide +kernel
theorem dX1_lay_9 : decode cX1_lay 9 = .ok (.iconst 0, 1) := by decide +kernel
theorem dX1_lay_10 : decode cX1_lay 10 = .ok (.lconst 1, 1) := by decide +kernel
theorem dX1_lay_11 : decode cX1_lay 11 = .ok (.lastore, 1) := by decide +kernel
theorem dX1_lay_12 : decode cX1_lay 12 = .ok (.iconst 0, 1) := by decide +kernel
theorem dX1_lay_13 : decode cX1_lay 13 = .ok (.istore_n 3, 1) := by decide +kernel
theorem dX1_lay_14 : decode cX1_lay 14 = .ok (.iload_n 3, 1) := by decide +kernel
theorem dX1_lay_15 : decode cX1_lay 15 = .ok (.iload_n 2, 1) := by decide +kernel
theorem dX1_lay_16 : decode cX1_lay 16 = .ok (.if_icmp .ge 14, 3) := by decide +kernel
theorem dX1_lay_19 : decode cX1_lay 19 = .ok (.aload_n 0, 1) := by decide +kernel
theorem dX1_lay_20 : decode cX1_lay 20 = .ok (.aload_n 1, 1) := by decide +kernel
theorem dX1_lay_21 : decode cX1_lay 21 = .ok (.invokevirtual 29, 3) := by decide +kernel
theorem dX1_lay_24 : decode cX1_lay 24 = .ok (.iinc 3 1, 3) := by decide +kernel
theorem dX1_lay_27 : decode cX1_lay 27 = .ok (.goto (-13), 3) := by decide +kernel
theorem dX1_lay_30 : decode cX1_lay 30 = .ok (.return_, 1) := by decide +kernel
theorem dX1_layFar_0 : decode cX1_layFar 0 = .ok (.aload_n 0, 1) := by decide +kernel
theorem dX1_layFar_1 : decode cX1_layFar 1 = .ok (.aload_n 1, 1) := by decide +kernel
theorem dX1_layFar_2 : decode cX1_layFar 2 = .ok (.iconst 1, 1) := by decide +kernel
theorem dX1_layFar_3 : decode cX1_layFar 3 = .ok (.invokevirtual 33, 3) := by decide +kernel
theorem dX1_layFar_6 : decode cX1_layFar 6 = .ok (.iconst 0, 1) := by decide +kernel
theorem dX1_layFar_7 : decode cX1_layFar 7 = .ok (.istore_n 2, 1) := by decide +kernel
theorem dX1_layFar_8 : decode cX1_layFar 8 = .ok (.iload_n 2, 1) := by decide +kernel
theorem dX1_layFar_9 : decode cX1_layFar 9 = .ok (.aload_n 0, 1) := by decide +kernel
theorem dX1_layFar_10 : decode cX1_layFar 10 = .ok (.getfield 15, 3) := by decide +kernel
theorem dX1_layFar_13 : decode cX1_layFar 13 = .ok (.if_icmp .ge 34, 3) := by decide +kernel
theorem dX1_layFar_16 : decode cX1_layFar 16 = .ok (.aload_n 0, 1) := by decide +kernel
theorem dX1_layFar_17 : decode cX1_layFar 17 = .ok (.getfield 9, 3) := by decide +kernel
theorem dX1_layFar_20 : decode cX1_layFar 20 = .ok (.iload_n 2, 1) := by decide +kernel
theorem dX1_layFar_21 : decode cX1_layFar 21 = .ok (.aload_n 0, 1) := by decide +kernel
theorem dX1_layFar_22 : decode cX1_layFar 22 = .ok (.invokevirtual 37, 3) := by decide +kernel
theorem dX1_layFar_25 : decode cX1_layFar 25 = .ok (.aload_n 0, 1) := by decide +kernel
theorem dX1_layFar_26 : decode cX1_layFar 26 = .ok (.getfield 9, 3) := by decide +kernel
theorem dX1_layFar_29 : decode cX1_layFar 29 = .ok (.iload_n 2, 1) := by decide +kernel
theorem dX1_layFar_30 : decode cX1_layFar 30 = .ok (.laload, 1) := by decide +kernel
theorem dX1_layFar_31 : decode cX1_layFar 31 = .ok (.ldc2_w 41, 3) := by decide +kernel
theorem dX1_layFar_34 : decode cX1_layFar 34 = .ok (.lxor, 1) := by decide +kernel
theorem dX1_layFar_35 : decode cX1_layFar 35 = .ok (.land, 1) := by decide +kernel
theorem dX1_layFar_36 : decode cX1_layFar 36 = .ok (.lconst 1, 1) := by decide +kernel
theorem dX1_layFar_37 : decode cX1_layFar 37 = .ok (.iload_n 2, 1) := by decide +kernel
theorem dX1_layFar_38 : decode cX1_layFar 38 = .ok (.lshl, 1) := by decide +kernel
theorem dX1_layFar_39 : decode cX1_layFar 39 = .ok (.lor, 1) := by decide +kernel
theorem dX1_layFar_40 : decode cX1_layFar 40 = .ok (.lastore, 1) := by decide +kernel
theorem dX1_layFar_41 : decode cX1_layFar 41 = .ok (.iinc 2 1, 3) := by decide +kernel
theorem dX1_layFar_44 : decode cX1_layFar 44 = .ok (.goto (-36), 3) := by decide +kernel
theorem dX1_layFar_47 : decode cX1_layFar 47 = .ok (.return_, 1) := by decide +kernel
theorem dX1_lengthen_0 : decode cX1_lengthen 0 = .ok (.aload_n 0, 1) := by decide +kernel
theorem dX1_lengthen_1 : decode cX1_lengthen 1 = .ok (.getfield 15, 3) := by decide +kernel
theorem dX1_lengthen_4 : decode cX1_lengthen 4 = .ok (.istore_n 2, 1) := by decide +kernel
theorem dX1_lengthen_5 : decode cX1_lengthen 5 = .ok (.aload_n 1, 1) := by decide +kernel
theorem dX1_lengthen_6 : decode cX1_lengthen 6 = .ok (.getfield 43, 3) := by decide +kernel
theorem dX1_lengthen_9 : decode cX1_lengthen 9 = .ok (.iconst 1, 1) := by decide +kernel
theorem dX1_lengthen_10 : decode cX1_lengthen 10 = .ok (.isub, 1) := by decide +kernel
theorem dX1_lengthen_11 : decode cX1_lengthen 11 = .ok (.istore_n 3, 1) := by decide +kernel
theorem dX1_lengthen_12 : decode cX1_lengthen 12 = .ok (.iload_n 3, 1) := by decide +kernel
theorem dX1_lengthen_13 : decode cX1_lengthen 13 = .ok (.ifCond .lt 96, 3) := by decide +kernel
theorem dX1_lengthen_16 : decode cX1_lengthen 16 = .ok (.iconst 0, 1) := by decide +kernel
theorem dX1_lengthen_17 : decode cX1_lengthen 17 = .ok (.istore 4, 2) := by decide +kernel
theorem dX1_lengthen_19 : decode cX1_lengthen 19 = .ok (.iload 4, 2) := by decide +kernel
theorem dX1_lengthen_21 : decode cX1_lengthen 21 = .ok (.iload_n 2, 1) := by decide +kernel
theorem dX1_lengthen_22 : decode cX1_lengthen 22 = .ok (.if_icmp .ge 81, 3) := by decide +kernel
theorem dX1_lengthen_25 : decode cX1_lengthen 25 = .ok (.iload_n 3, 1) := by decide +kernel
theorem dX1_lengthen_26 : decode cX1_lengthen 26 = .ok (.iload_n 2, 1) := by decide +kernel
theorem dX1_lengthen_27 : decode cX1_lengthen 27 = .ok (.imul, 1) := by decide +kernel
theorem dX1_lengthen_28 : decode cX1_lengthen 28 = .ok (.iload 4, 2) := by decide +kernel
theorem dX1_lengthen_30 : decode cX1_lengthen 30 = .ok (.iadd, 1) := by decide +kernel
theorem dX1_lengthen_31 : decode cX1_lengthen 31 = .ok (.bipush 64, 2) := by decide +kernel
theorem dX1_lengthen_33 : decode cX1_lengthen 33 = .ok (.if_icmp .ge 70, 3) := by decide +kernel
theorem dX1_lengthen_36 : decode cX1_lengthen 36 = .ok (.lconst 0, 1) := by decide +kernel
theorem dX1_lengthen_37 : decode cX1_lengthen 37 = .ok (.lstore 5, 2) := by decide +kernel
theorem dX1_lengthen_39 : decode cX1_lengthen 39 = .ok (.iconst 0, 1) := by decide +kernel
theorem dX1_lengthen_40 : decode cX1_lengthen 40 = .ok (.istore 7, 2) := by decide +kernel
theorem dX1_lengthen_42 : decode cX1_lengthen 42 = .ok (.iload 7, 2) := by decide +kernel
theorem dX1_lengthen_44 : decode cX1_lengthen 44 = .ok (.aload_n 1, 1) := by decide +kernel
theorem dX1_lengthen_45 : decode cX1_lengthen 45 = .ok (.getfield 43, 3) := by decide +kernel
theorem dX1_lengthen_48 : decode cX1_lengthen 48 = .ok (.if_icmp .ge 36, 3) := by decide +kernel
theorem dX1_lengthen_51 : decode cX1_lengthen 51 = .ok (.aload_n 1, 1) := by decide +kernel
theorem dX1_lengthen_52 : decode cX1_lengthen 52 = .ok (.iload_n 3, 1) := by decide +kernel
theorem dX1_lengthen_53 : decode cX1_lengthen 53 = .ok (.iload 7, 2) := by decide +kernel
theorem dX1_lengthen_55 : decode cX1_lengthen 55 = .ok (.invokevirtual 48, 3) := by decide +kernel
theorem dX1_lengthen_58 : decode cX1_lengthen 58 = .ok (.ifCond .eq 20, 3) := by decide +kernel
theorem dX1_lengthen_61 : decode cX1_lengthen 61 = .ok (.lload 5, 2) := by decide +kernel
theorem dX1_lengthen_63 : decode cX1_lengthen 63 = .ok (.aload_n 0, 1) := by decide +kernel
theorem dX1_lengthen_64 : decode cX1_lengthen 64 = .ok (.getfield 9, 3) := by decide +kernel
theorem dX1_lengthen_67 : decode cX1_lengthen 67 = .ok (.iload 4, 2) := by decide +kernel
theorem dX1_lengthen_69 : decode cX1_lengthen 69 = .ok (.laload, 1) := by decide +kernel
theorem dX1_lengthen_70 : decode cX1_lengthen 70 = .ok (.iload 7, 2) := by decide +kernel
theorem dX1_lengthen_72 : decode cX1_lengthen 72 = .ok (.iload_n 2, 1) := by decide +kernel
theorem dX1_lengthen_73 : decode cX1_lengthen 73 = .ok (.imul, 1) := by decide +kernel
theorem dX1_lengthen_74 : decode cX1_lengthen 74 = .ok (.lshl, 1) := by decide +kernel
theorem dX1_lengthen_75 : decode cX1_lengthen 75 = .ok (.lor, 1) := by decide +kernel
theorem dX1_lengthen_76 : decode cX1_lengthen 76 = .ok (.lstore 5, 2) := by decide +kernel
theorem dX1_lengthen_78 : decode cX1_lengthen 78 = .ok (.iinc 7 1, 3) := by decide +kernel
theorem dX1_lengthen_81 : decode cX1_lengthen 81 = .ok (.goto (-39), 3) := by decide +kernel
theorem dX1_lengthen_84 : decode cX1_lengthen 84 = .ok (.aload_n 0, 1) := by decide +kernel
theorem dX1_lengthen_85 : decode cX1_lengthen 85 = .ok (.getfield 9, 3) := by decide +kernel
theorem dX1_lengthen_88 : decode cX1_lengthen 88 = .ok (.iload_n 3, 1) := by decide +kernel
theorem dX1_lengthen_89 : decode cX1_lengthen 89 = .ok (.iload_n 2, 1) := by decide +kernel
theorem dX1_lengthen_90 : decode cX1_lengthen 90 = .ok (.imul, 1) := by decide +kernel
theorem dX1_lengthen_91 : decode cX1_lengthen 91 = .ok (.iload 4, 2) := by decide +kernel
theorem dX1_lengthen_93 : decode cX1_lengthen 93 = .ok (.iadd, 1) := by decide +kernel
theorem dX1_lengthen_94 : decode cX1_lengthen 94 = .ok (.lload 5, 2) := by decide +kernel
theorem dX1_lengthen_96 : decode cX1_lengthen 96 = .ok (.lastore, 1) := by decide +kernel
theorem dX1_lengthen_97 : decode cX1_lengthen 97 = .ok (.iinc 4 1, 3) := by decide +kernel
theorem dX1_lengthen_100 : decode cX1_lengthen 100 = .ok (.goto (-81), 3) := by decide +kernel
theorem dX1_lengthen_103 : decode cX1_lengthen 103 = .ok (.iinc 3 (-1), 3) := by decide +kernel
theorem dX1_lengthen_106 : decode cX1_lengthen 106 = .ok (.goto (-94), 3) := by decide +kernel
theorem dX1_lengthen_109 : decode cX1_lengthen 109 = .ok (.aload_n 0, 1) := by decide +kernel
theorem dX1_lengthen_110 : decode cX1_lengthen 110 = .ok (.bipush 64, 2) := by decide +kernel
theorem dX1_lengthen_112 : decode cX1_lengthen 112 = .ok (.iload_n 2, 1) := by decide +kernel
theorem dX1_lengthen_113 : decode cX1_lengthen 113 = .ok (.aload_n 1, 1) := by decide +kernel
theorem dX1_lengthen_114 : decode cX1_lengthen 114 = .ok (.getfield 43, 3) := by decide +kernel
theorem dX1_lengthen_117 : decode cX1_lengthen 117 = .ok (.imul, 1) := by decide +kernel
theorem dX1_lengthen_118 : decode cX1_lengthen 118 = .ok (.invokestatic 52, 3) := by decide +kernel
theorem dX1_lengthen_121 : decode cX1_lengthen 121 = .ok (.putfield 15, 3) := by decide +kernel
theorem dX1_lengthen_124 : decode cX1_lengthen 124 = .ok (.return_, 1) := by decide +kernel
theorem dX1_allWords_0 : decode cX1_allWords 0 = .ok (.aload_n 0, 1) := by decide +kernel
theorem dX1_allWords_1 : decode cX1_allWords 1 = .ok (.getfield 15, 3) := by decide +kernel
theorem dX1_allWords_4 : decode cX1_allWords 4 = .ok (.bipush 64, 2) := by decide +kernel
theorem dX1_allWords_6 : decode cX1_allWords 6 = .ok (.if_icmp .lt 9, 3) := by decide +kernel
theorem dX1_allWords_9 : decode cX1_allWords 9 = .ok (.ldc2_w 41, 3) := by decide +kernel
theorem dX1_allWords_12 : decode cX1_allWords 12 = .ok (.goto 11, 3) := by decide +kernel
theorem dX1_allWords_15 : decode cX1_allWords 15 = .ok (.lconst 1, 1) := by decide +kernel
theorem dX1_allWords_16 : decode cX1_allWords 16 = .ok (.aload_n 0, 1) := by decide +kernel
theorem dX1_allWords_17 : decode cX1_allWords 17 = .ok (.getfield 15, 3) := by decide +kernel
theorem dX1_allWords_20 : decode cX1_allWords 20 = .ok (.lshl, 1) := by decide +kernel
theorem dX1_allWords_21 : decode cX1_allWords 21 = .ok (.lconst 1, 1) := by decide +kernel
theorem dX1_allWords_22 : decode cX1_allWords 22 = .ok (.lsub, 1) := by decide +kernel
theorem dX1_allWords_23 : decode cX1_allWords 23 = .ok (.lreturn, 1) := by decide +kernel
theorem dX1_findLargest_0 : decode cX1_findLargest 0 = .ok (.aload_n 0, 1) := by decide +kernel
theorem dX1_findLargest_1 : decode cX1_findLargest 1 = .ok (.lconst 0, 1) := by decide +kernel
theorem dX1_findLargest_2 : decode cX1_findLargest 2 = .ok (.putfield 19, 3) := by decide +kernel
theorem dX1_findLargest_5 : decode cX1_findLargest 5 = .ok (.aload_n 0, 1) := by decide +kernel
theorem dX1_findLargest_6 : decode cX1_findLargest 6 = .ok (.iconst 0, 1) := by decide +kernel
theorem dX1_findLargest_7 : decode cX1_findLargest 7 = .ok (.putfield 23, 3) := by decide +kernel
theorem dX1_findLargest_10 : decode cX1_findLargest 10 = .ok (.aload_n 0, 1) := by decide +kernel
theorem dX1_findLargest_11 : decode cX1_findLargest 11 = .ok (.aload_n 0, 1) := by decide +kernel
theorem dX1_findLargest_12 : decode cX1_findLargest 12 = .ok (.getfield 15, 3) := by decide +kernel
theorem dX1_findLargest_15 : decode cX1_findLargest 15 = .ok (.putfield 26, 3) := by decide +kernel
theorem dX1_findLargest_18 : decode cX1_findLargest 18 = .ok (.aload_n 0, 1) := by decide +kernel
theorem dX1_findLargest_19 : decode cX1_findLargest 19 = .ok (.aload_n 0, 1) := by decide +kernel
theorem dX1_findLargest_20 : decode cX1_findLargest 20 = .ok (.invokevirtual 37, 3) := by decide +kernel
theorem dX1_findLargest_23 : decode cX1_findLargest 23 = .ok (.lconst 0, 1) := by decide +kernel
theorem dX1_findLargest_24 : decode cX1_findLargest 24 = .ok (.iconst 0, 1) := by decide +kernel
theorem dX1_findLargest_25 : decode cX1_findLargest 25 = .ok (.invokevirtual 58, 3) := by decide +kernel
theorem dX1_findLargest_28 : decode cX1_findLargest 28 = .ok (.aload_n 0, 1) := by decide +kernel
theorem dX1_findLargest_29 : decode cX1_findLargest 29 = .ok (.getfield 23, 3) := by decide +kernel
theorem dX1_findLargest_32 : decode cX1_findLargest 32 = .ok (.ireturn, 1) := by decide +kernel
theorem dX1_leastLargest_0 : decode cX1_leastLargest 0 = .ok (.lconst 0, 1) := by decide +kernel
theorem dX1_leastLargest_1 : decode cX1_leastLargest 1 = .ok (.lstore_n 1, 1) := by decide +kernel
theorem dX1_leastLargest_2 : decode cX1_leastLargest 2 = .ok (.aload_n 0, 1) := by decide +kernel
theorem dX1_leastLargest_3 : decode cX1_leastLargest 3 = .ok (.invokevirtual 37, 3) := by decide +kernel
theorem dX1_leastLargest_6 : decode cX1_leastLargest 6 = .ok (.lstore_n 3, 1) := by decide +kernel
theorem dX1_leastLargest_7 : decode cX1_leastLargest 7 = .ok (.iconst 0, 1) := by decide +kernel
theorem dX1_leastLargest_8 : decode cX1_leastLargest 8 = .ok (.istore 5, 2) := by decide +kernel
theorem dX1_leastLargest_10 : decode cX1_leastLargest 10 = .ok (.iload 5, 2) := by decide +kernel
theorem dX1_leastLargest_12 : decode cX1_leastLargest 12 = .ok (.aload_n 0, 1) := by decide +kernel
theorem dX1_leastLargest_13 : decode cX1_leastLargest 13 = .ok (.getfield 15, 3) := by decide +kernel
theorem dX1_leastLargest_16 : decode cX1_leastLargest 16 = .ok (.if_icmp .ge 84, 3) := by decide +kernel
theorem dX1_leastLargest_19 : decode cX1_leastLargest 19 = .ok (.lconst 1, 1) := by decide +kernel
theorem dX1_leastLargest_20 : decode cX1_leastLargest 20 = .ok (.iload 5, 2) := by decide +kernel
theorem dX1_leastLargest_22 : decode cX1_leastLargest 22 = .ok (.lshl, 1) := by decide +kernel
theorem dX1_leastLargest_23 : decode cX1_leastLargest 23 = .ok (.lstore 6, 2) := by decide +kernel
theorem dX1_leastLargest_25 : decode cX1_leastLargest 25 = .ok (.lload_n 3, 1) := by decide +kernel
theorem dX1_leastLargest_26 : decode cX1_leastLargest 26 = .ok (.lload 6, 2) := by decide +kernel
theorem dX1_leastLargest_28 : decode cX1_leastLargest 28 = .ok (.land, 1) := by decide +kernel
theorem dX1_leastLargest_29 : decode cX1_leastLargest 29 = .ok (.lconst 0, 1) := by decide +kernel
theorem dX1_leastLargest_30 : decode cX1_leastLargest 30 = .ok (.lcmp, 1) := by decide +kernel
theorem dX1_leastLargest_31 : decode cX1_leastLargest 31 = .ok (.ifCond .eq 63, 3) := by decide +kernel
theorem dX1_leastLargest_34 : decode cX1_leastLargest 34 = .ok (.lload_n 3, 1) := by decide +kernel
theorem dX1_leastLargest_35 : decode cX1_leastLargest 35 = .ok (.aload_n 0, 1) := by decide +kernel
theorem dX1_leastLargest_36 : decode cX1_leastLargest 36 = .ok (.getfield 9, 3) := by decide +kernel
theorem dX1_leastLargest_39 : decode cX1_leastLargest 39 = .ok (.iload 5, 2) := by decide +kernel
theorem dX1_leastLargest_41 : decode cX1_leastLargest 41 = .ok (.laload, 1) := by decide +kernel
theorem dX1_leastLargest_42 : decode cX1_leastLargest 42 = .ok (.ldc2_w 41, 3) := by decide +kernel
theorem dX1_leastLargest_45 : decode cX1_leastLargest 45 = .ok (.lxor, 1) := by decide +kernel
theorem dX1_leastLargest_46 : decode cX1_leastLargest 46 = .ok (.land, 1) := by decide +kernel
theorem dX1_leastLargest_47 : decode cX1_leastLargest 47 = .ok (.lstore 8, 2) := by decide +kernel
theorem dX1_leastLargest_49 : decode cX1_leastLargest 49 = .ok (.aload_n 0, 1) := by decide +kernel
theorem dX1_leastLargest_50 : decode cX1_leastLargest 50 = .ok (.getfield 19, 3) := by decide +kernel
theorem dX1_leastLargest_53 : decode cX1_leastLargest 53 = .ok (.lload 6, 2) := by decide +kernel
theorem dX1_leastLargest_55 : decode cX1_leastLargest 55 = .ok (.land, 1) := by decide +kernel
theorem dX1_leastLargest_56 : decode cX1_leastLargest 56 = .ok (.lconst 0, 1) := by decide +kernel
theorem dX1_leastLargest_57 : decode cX1_leastLargest 57 = .ok (.lcmp, 1) := by decide +kernel
theorem dX1_leastLargest_58 : decode cX1_leastLargest 58 = .ok (.ifCond .ne 16, 3) := by decide +kernel
theorem dX1_leastLargest_61 : decode cX1_leastLargest 61 = .ok (.aload_n 0, 1) := by decide +kernel
theorem dX1_leastLargest_62 : decode cX1_leastLargest 62 = .ok (.lload 8, 2) := by decide +kernel
theorem dX1_leastLargest_64 : decode cX1_leastLargest 64 = .ok (.lload_n 1, 1) := by decide +kernel
theorem dX1_leastLargest_65 : decode cX1_leastLargest 65 = .ok (.lload 6, 2) := by decide +kernel
theorem dX1_leastLargest_67 : decode cX1_leastLargest 67 = .ok (.lor, 1) := by decide +kernel
theorem dX1_leastLargest_68 : decode cX1_leastLargest 68 = .ok (.invokevirtual 62, 3) := by decide +kernel
theorem dX1_leastLargest_71 : decode cX1_leastLargest 71 = .ok (.ifCond .eq 14, 3) := by decide +kernel
theorem dX1_leastLargest_74 : decode cX1_leastLargest 74 = .ok (.lload_n 1, 1) := by decide +kernel
theorem dX1_leastLargest_75 : decode cX1_leastLargest 75 = .ok (.lload 6, 2) := by decide +kernel
theorem dX1_leastLargest_77 : decode cX1_leastLargest 77 = .ok (.lor, 1) := by decide +kernel
theorem dX1_leastLargest_78 : decode cX1_leastLargest 78 = .ok (.lstore_n 1, 1) := by decide +kernel
theorem dX1_leastLargest_79 : decode cX1_leastLargest 79 = .ok (.lload 8, 2) := by decide +kernel
theorem dX1_leastLargest_81 : decode cX1_leastLargest 81 = .ok (.lstore_n 3, 1) := by decide +kernel
theorem dX1_leastLargest_82 : decode cX1_leastLargest 82 = .ok (.goto 12, 3) := by decide +kernel
theorem dX1_leastLargest_85 : decode cX1_leastLargest 85 = .ok (.lload_n 3, 1) := by decide +kernel
theorem dX1_leastLargest_86 : decode cX1_leastLargest 86 = .ok (.lload 6, 2) := by decide +kernel
theorem dX1_leastLargest_88 : decode cX1_leastLargest 88 = .ok (.ldc2_w 41, 3) := by decide +kernel
theorem dX1_leastLargest_91 : decode cX1_leastLargest 91 = .ok (.lxor, 1) := by decide +kernel
theorem dX1_leastLargest_92 : decode cX1_leastLargest 92 = .ok (.land, 1) := by decide +kernel
theorem dX1_leastLargest_93 : decode cX1_leastLargest 93 = .ok (.lstore_n 3, 1) := by decide +kernel
theorem dX1_leastLargest_94 : decode cX1_leastLargest 94 = .ok (.iinc 5 1, 3) := by decide +kernel
theorem dX1_leastLargest_97 : decode cX1_leastLargest 97 = .ok (.goto (-87), 3) := by decide +kernel
theorem dX1_leastLargest_100 : decode cX1_leastLargest 100 = .ok (.lload_n 1, 1) := by decide +kernel
theorem dX1_leastLargest_101 : decode cX1_leastLargest 101 = .ok (.lreturn, 1) := by decide +kernel
theorem dX1_reaches_0 : decode cX1_reaches 0 = .ok (.aload_n 0, 1) := by decide +kernel
theorem dX1_reaches_1 : decode cX1_reaches 1 = .ok (.aload_n 0, 1) := by decide +kernel
theorem dX1_reaches_2 : decode cX1_reaches 2 = .ok (.getfield 23, 3) := by decide +kernel
theorem dX1_reaches_5 : decode cX1_reaches 5 = .ok (.putfield 26, 3) := by decide +kernel
theorem dX1_reaches_8 : decode cX1_reaches 8 = .ok (.aload_n 0, 1) := by decide +kernel
theorem dX1_reaches_9 : decode cX1_reaches 9 = .ok (.dup, 1) := by decide +kernel
theorem dX1_reaches_10 : decode cX1_reaches 10 = .ok (.getfield 23, 3) := by decide +kernel
theorem dX1_reaches_13 : decode cX1_reaches 13 = .ok (.iconst 1, 1) := by decide +kernel
theorem dX1_reaches_14 : decode cX1_reaches 14 = .ok (.isub, 1) := by decide +kernel
theorem dX1_reaches_15 : decode cX1_reaches 15 = .ok (.putfield 23, 3) := by decide +kernel
theorem dX1_reaches_18 : decode cX1_reaches 18 = .ok (.aload_n 0, 1) := by decide +kernel
theorem dX1_reaches_19 : decode cX1_reaches 19 = .ok (.lload_n 1, 1) := by decide +kernel
theorem dX1_reaches_20 : decode cX1_reaches 20 = .ok (.lload_n 3, 1) := by decide +kernel
theorem dX1_reaches_21 : decode cX1_reaches 21 = .ok (.iconst 0, 1) := by decide +kernel
theorem dX1_reaches_22 : decode cX1_reaches 22 = .ok (.invokevirtual 58, 3) := by decide +kernel
theorem dX1_reaches_25 : decode cX1_reaches 25 = .ok (.aload_n 0, 1) := by decide +kernel
theorem dX1_reaches_26 : decode cX1_reaches 26 = .ok (.getfield 23, 3) := by decide +kernel
theorem dX1_reaches_29 : decode cX1_reaches 29 = .ok (.aload_n 0, 1) := by decide +kernel
theorem dX1_reaches_30 : decode cX1_reaches 30 = .ok (.getfield 26, 3) := by decide +kernel
theorem dX1_reaches_33 : decode cX1_reaches 33 = .ok (.if_icmp .ne 7, 3) := by decide +kernel
theorem dX1_reaches_36 : decode cX1_reaches 36 = .ok (.iconst 1, 1) := by decide +kernel
theorem dX1_reaches_37 : decode cX1_reaches 37 = .ok (.goto 4, 3) := by decide +kernel
theorem dX1_reaches_40 : decode cX1_reaches 40 = .ok (.iconst 0, 1) := by decide +kernel
theorem dX1_reaches_41 : decode cX1_reaches 41 = .ok (.istore 5, 2) := by decide +kernel
theorem dX1_reaches_43 : decode cX1_reaches 43 = .ok (.aload_n 0, 1) := by decide +kernel
theorem dX1_reaches_44 : decode cX1_reaches 44 = .ok (.aload_n 0, 1) := by decide +kernel
theorem dX1_reaches_45 : decode cX1_reaches 45 = .ok (.getfield 26, 3) := by decide +kernel
theorem dX1_reaches_48 : decode cX1_reaches 48 = .ok (.putfield 23, 3) := by decide +kernel
theorem dX1_reaches_51 : decode cX1_reaches 51 = .ok (.iload 5, 2) := by decide +kernel
theorem dX1_reaches_53 : decode cX1_reaches 53 = .ok (.ireturn, 1) := by decide +kernel
theorem dX1_explore_0 : decode cX1_explore 0 = .ok (.iload 5, 2) := by decide +kernel
theorem dX1_explore_2 : decode cX1_explore 2 = .ok (.bipush 64, 2) := by decide +kernel
theorem dX1_explore_4 : decode cX1_explore 4 = .ok (.if_icmp .le 4, 3) := by decide +kernel
theorem dX1_explore_7 : decode cX1_explore 7 = .ok (.return_, 1) := by decide +kernel
theorem dX1_explore_8 : decode cX1_explore 8 = .ok (.lload_n 1, 1) := by decide +kernel
theorem dX1_explore_9 : decode cX1_explore 9 = .ok (.lstore 6, 2) := by decide +kernel
theorem dX1_explore_11 : decode cX1_explore 11 = .ok (.lload_n 3, 1) := by decide +kernel
theorem dX1_explore_12 : decode cX1_explore 12 = .ok (.lstore 8, 2) := by decide +kernel
theorem dX1_explore_14 : decode cX1_explore 14 = .ok (.iconst 0, 1) := by decide +kernel
theorem dX1_explore_15 : decode cX1_explore 15 = .ok (.istore 10, 2) := by decide +kernel
theorem dX1_explore_17 : decode cX1_explore 17 = .ok (.iload 10, 2) := by decide +kernel
theorem dX1_explore_19 : decode cX1_explore 19 = .ok (.bipush 64, 2) := by decide +kernel
theorem dX1_explore_21 : decode cX1_explore 21 = .ok (.if_icmp .gt 192, 3) := by decide +kernel
theorem dX1_explore_24 : decode cX1_explore 24 = .ok (.aload_n 0, 1) := by decide +kernel
theorem dX1_explore_25 : decode cX1_explore 25 = .ok (.getfield 23, 3) := by decide +kernel
theorem dX1_explore_28 : decode cX1_explore 28 = .ok (.aload_n 0, 1) := by decide +kernel
theorem dX1_explore_29 : decode cX1_explore 29 = .ok (.getfield 26, 3) := by decide +kernel
theorem dX1_explore_32 : decode cX1_explore 32 = .ok (.if_icmp .ge 181, 3) := by decide +kernel
theorem dX1_explore_35 : decode cX1_explore 35 = .ok (.aload_n 0, 1) := by decide +kernel
theorem dX1_explore_36 : decode cX1_explore 36 = .ok (.lload 6, 2) := by decide +kernel
theorem dX1_explore_38 : decode cX1_explore 38 = .ok (.invokevirtual 66, 3) := by decide +kernel
theorem dX1_explore_41 : decode cX1_explore 41 = .ok (.lstore 6, 2) := by decide +kernel
theorem dX1_explore_43 : decode cX1_explore 43 = .ok (.aload_n 0, 1) := by decide +kernel
theorem dX1_explore_44 : decode cX1_explore 44 = .ok (.lload 6, 2) := by decide +kernel
theorem dX1_explore_46 : decode cX1_explore 46 = .ok (.invokevirtual 70, 3) := by decide +kernel
theorem dX1_explore_49 : decode cX1_explore 49 = .ok (.lstore 11, 2) := by decide +kernel
theorem dX1_explore_51 : decode cX1_explore 51 = .ok (.lload 8, 2) := by decide +kernel
theorem dX1_explore_53 : decode cX1_explore 53 = .ok (.lload 11, 2) := by decide +kernel
theorem dX1_explore_55 : decode cX1_explore 55 = .ok (.lor, 1) := by decide +kernel
theorem dX1_explore_56 : decode cX1_explore 56 = .ok (.lstore 8, 2) := by decide +kernel
theorem dX1_explore_58 : decode cX1_explore 58 = .ok (.lload 6, 2) := by decide +kernel
theorem dX1_explore_60 : decode cX1_explore 60 = .ok (.lload 11, 2) := by decide +kernel
theorem dX1_explore_62 : decode cX1_explore 62 = .ok (.ldc2_w 41, 3) := by decide +kernel
theorem dX1_explore_65 : decode cX1_explore 65 = .ok (.lxor, 1) := by decide +kernel
theorem dX1_explore_66 : decode cX1_explore 66 = .ok (.land, 1) := by decide +kernel
theorem dX1_explore_67 : decode cX1_explore 67 = .ok (.lstore 6, 2) := by decide +kernel
theorem dX1_explore_69 : decode cX1_explore 69 = .ok (.lload 8, 2) := by decide +kernel
theorem dX1_explore_71 : decode cX1_explore 71 = .ok (.invokestatic 73, 3) := by decide +kernel
theorem dX1_explore_74 : decode cX1_explore 74 = .ok (.aload_n 0, 1) := by decide +kernel
theorem dX1_explore_75 : decode cX1_explore 75 = .ok (.lload 6, 2) := by decide +kernel
theorem dX1_explore_77 : decode cX1_explore 77 = .ok (.invokevirtual 79, 3) := by decide +kernel
theorem dX1_explore_80 : decode cX1_explore 80 = .ok (.iadd, 1) := by decide +kernel
theorem dX1_explore_81 : decode cX1_explore 81 = .ok (.aload_n 0, 1) := by decide +kernel
theorem dX1_explore_82 : decode cX1_explore 82 = .ok (.getfield 23, 3) := by decide +kernel
theorem dX1_explore_85 : decode cX1_explore 85 = .ok (.if_icmp .gt 4, 3) := by decide +kernel
theorem dX1_explore_88 : decode cX1_explore 88 = .ok (.return_, 1) := by decide +kernel
theorem dX1_explore_89 : decode cX1_explore 89 = .ok (.lload 6, 2) := by decide +kernel
theorem dX1_explore_91 : decode cX1_explore 91 = .ok (.lconst 0, 1) := by decide +kernel
theorem dX1_explore_92 : decode cX1_explore 92 = .ok (.lcmp, 1) := by decide +kernel
theorem dX1_explore_93 : decode cX1_explore 93 = .ok (.ifCond .ne 19, 3) := by decide +kernel
theorem dX1_explore_96 : decode cX1_explore 96 = .ok (.aload_n 0, 1) := by decide +kernel
theorem dX1_explore_97 : decode cX1_explore 97 = .ok (.lload 8, 2) := by decide +kernel
theorem dX1_explore_99 : decode cX1_explore 99 = .ok (.putfield 19, 3) := by decide +kernel
theorem dX1_explore_102 : decode cX1_explore 102 = .ok (.aload_n 0, 1) := by decide +kernel
theorem dX1_explore_103 : decode cX1_explore 103 = .ok (.lload 8, 2) := by decide +kernel
theorem dX1_explore_105 : decode cX1_explore 105 = .ok (.invokestatic 73, 3) := by decide +kernel
theorem dX1_explore_108 : decode cX1_explore 108 = .ok (.putfield 23, 3) := by decide +kernel
theorem dX1_explore_111 : decode cX1_explore 111 = .ok (.return_, 1) := by decide +kernel
theorem dX1_explore_112 : decode cX1_explore 112 = .ok (.aload_n 0, 1) := by decide +kernel
theorem dX1_explore_113 : decode cX1_explore 113 = .ok (.lload 6, 2) := by decide +kernel
theorem dX1_explore_115 : decode cX1_explore 115 = .ok (.invokevirtual 82, 3) := by decide +kernel
theorem dX1_explore_118 : decode cX1_explore 118 = .ok (.istore 13, 2) := by decide +kernel
theorem dX1_explore_120 : decode cX1_explore 120 = .ok (.lconst 1, 1) := by decide +kernel
theorem dX1_explore_121 : decode cX1_explore 121 = .ok (.iload 13, 2) := by decide +kernel
theorem dX1_explore_123 : decode cX1_explore 123 = .ok (.lshl, 1) := by decide +kernel
theorem dX1_explore_124 : decode cX1_explore 124 = .ok (.lstore 14, 2) := by decide +kernel
theorem dX1_explore_126 : decode cX1_explore 126 = .ok (.lload 6, 2) := by decide +kernel
theorem dX1_explore_128 : decode cX1_explore 128 = .ok (.aload_n 0, 1) := by decide +kernel
theorem dX1_explore_129 : decode cX1_explore 129 = .ok (.getfield 9, 3) := by decide +kernel
theorem dX1_explore_132 : decode cX1_explore 132 = .ok (.iload 13, 2) := by decide +kernel
theorem dX1_explore_134 : decode cX1_explore 134 = .ok (.laload, 1) := by decide +kernel
theorem dX1_explore_135 : decode cX1_explore 135 = .ok (.land, 1) := by decide +kernel
theorem dX1_explore_136 : decode cX1_explore 136 = .ok (.invokestatic 73, 3) := by decide +kernel
theorem dX1_explore_139 : decode cX1_explore 139 = .ok (.iconst 3, 1) := by decide +kernel
theorem dX1_explore_140 : decode cX1_explore 140 = .ok (.if_icmp .le 44, 3) := by decide +kernel
theorem dX1_explore_143 : decode cX1_explore 143 = .ok (.aload_n 0, 1) := by decide +kernel
theorem dX1_explore_144 : decode cX1_explore 144 = .ok (.lload 6, 2) := by decide +kernel
theorem dX1_explore_146 : decode cX1_explore 146 = .ok (.aload_n 0, 1) := by decide +kernel
theorem dX1_explore_147 : decode cX1_explore 147 = .ok (.getfield 9, 3) := by decide +kernel
theorem dX1_explore_150 : decode cX1_explore 150 = .ok (.iload 13, 2) := by decide +kernel
theorem dX1_explore_152 : decode cX1_explore 152 = .ok (.laload, 1) := by decide +kernel
theorem dX1_explore_153 : decode cX1_explore 153 = .ok (.ldc2_w 41, 3) := by decide +kernel
theorem dX1_explore_156 : decode cX1_explore 156 = .ok (.lxor, 1) := by decide +kernel
theorem dX1_explore_157 : decode cX1_explore 157 = .ok (.land, 1) := by decide +kernel
theorem dX1_explore_158 : decode cX1_explore 158 = .ok (.lload 8, 2) := by decide +kernel
theorem dX1_explore_160 : decode cX1_explore 160 = .ok (.lload 14, 2) := by decide +kernel
theorem dX1_explore_162 : decode cX1_explore 162 = .ok (.lor, 1) := by decide +kernel
theorem dX1_explore_163 : decode cX1_explore 163 = .ok (.iload 5, 2) := by decide +kernel
theorem dX1_explore_165 : decode cX1_explore 165 = .ok (.iconst 1, 1) := by decide +kernel
theorem dX1_explore_166 : decode cX1_explore 166 = .ok (.iadd, 1) := by decide +kernel
theorem dX1_explore_167 : decode cX1_explore 167 = .ok (.invokevirtual 58, 3) := by decide +kernel
theorem dX1_explore_170 : decode cX1_explore 170 = .ok (.lload 6, 2) := by decide +kernel
theorem dX1_explore_172 : decode cX1_explore 172 = .ok (.lload 14, 2) := by decide +kernel
theorem dX1_explore_174 : decode cX1_explore 174 = .ok (.ldc2_w 41, 3) := by decide +kernel
theorem dX1_explore_177 : decode cX1_explore 177 = .ok (.lxor, 1) := by decide +kernel
theorem dX1_explore_178 : decode cX1_explore 178 = .ok (.land, 1) := by decide +kernel
theorem dX1_explore_179 : decode cX1_explore 179 = .ok (.lstore 6, 2) := by decide +kernel
theorem dX1_explore_181 : decode cX1_explore 181 = .ok (.goto 26, 3) := by decide +kernel
theorem dX1_explore_184 : decode cX1_explore 184 = .ok (.lload 8, 2) := by decide +kernel
theorem dX1_explore_186 : decode cX1_explore 186 = .ok (.lload 14, 2) := by decide +kernel
theorem dX1_explore_188 : decode cX1_explore 188 = .ok (.lor, 1) := by decide +kernel
theorem dX1_explore_189 : decode cX1_explore 189 = .ok (.lstore 8, 2) := by decide +kernel
theorem dX1_explore_191 : decode cX1_explore 191 = .ok (.lload 6, 2) := by decide +kernel
theorem dX1_explore_193 : decode cX1_explore 193 = .ok (.aload_n 0, 1) := by decide +kernel
theorem dX1_explore_194 : decode cX1_explore 194 = .ok (.getfield 9, 3) := by decide +kernel
theorem dX1_explore_197 : decode cX1_explore 197 = .ok (.iload 13, 2) := by decide +kernel
theorem dX1_explore_199 : decode cX1_explore 199 = .ok (.laload, 1) := by decide +kernel
theorem dX1_explore_200 : decode cX1_explore 200 = .ok (.ldc2_w 41, 3) := by decide +kernel
theorem dX1_explore_203 : decode cX1_explore 203 = .ok (.lxor, 1) := by decide +kernel
theorem dX1_explore_204 : decode cX1_explore 204 = .ok (.land, 1) := by decide +kernel
theorem dX1_explore_205 : decode cX1_explore 205 = .ok (.lstore 6, 2) := by decide +kernel
theorem dX1_explore_207 : decode cX1_explore 207 = .ok (.iinc 10 1, 3) := by decide +kernel
theorem dX1_explore_210 : decode cX1_explore 210 = .ok (.goto (-193), 3) := by decide +kernel
theorem dX1_explore_213 : decode cX1_explore 213 = .ok (.return_, 1) := by decide +kernel
theorem dX1_needed_0 : decode cX1_needed 0 = .ok (.lload_n 1, 1) := by decide +kernel
theorem dX1_needed_1 : decode cX1_needed 1 = .ok (.lstore_n 3, 1) := by decide +kernel
theorem dX1_needed_2 : decode cX1_needed 2 = .ok (.iconst 1, 1) := by decide +kernel
theorem dX1_needed_3 : decode cX1_needed 3 = .ok (.istore 5, 2) := by decide +kernel
theorem dX1_needed_5 : decode cX1_needed 5 = .ok (.iconst 0, 1) := by decide +kernel
theorem dX1_needed_6 : decode cX1_needed 6 = .ok (.istore 6, 2) := by decide +kernel
theorem dX1_needed_8 : decode cX1_needed 8 = .ok (.iload 6, 2) := by decide +kernel
theorem dX1_needed_10 : decode cX1_needed 10 = .ok (.bipush 64, 2) := by decide +kernel
theorem dX1_needed_12 : decode cX1_needed 12 = .ok (.if_icmp .ge 94, 3) := by decide +kernel
theorem dX1_needed_15 : decode cX1_needed 15 = .ok (.iload 5, 2) := by decide +kernel
theorem dX1_needed_17 : decode cX1_needed 17 = .ok (.ifCond .eq 89, 3) := by decide +kernel
theorem dX1_needed_20 : decode cX1_needed 20 = .ok (.lload_n 3, 1) := by decide +kernel
theorem dX1_needed_21 : decode cX1_needed 21 = .ok (.lstore 7, 2) := by decide +kernel
theorem dX1_needed_23 : decode cX1_needed 23 = .ok (.lload_n 3, 1) := by decide +kernel
theorem dX1_needed_24 : decode cX1_needed 24 = .ok (.lstore 9, 2) := by decide +kernel
theorem dX1_needed_26 : decode cX1_needed 26 = .ok (.lload 9, 2) := by decide +kernel
theorem dX1_needed_28 : decode cX1_needed 28 = .ok (.invokestatic 73, 3) := by decide +kernel
theorem dX1_needed_31 : decode cX1_needed 31 = .ok (.istore 11, 2) := by decide +kernel
theorem dX1_needed_33 : decode cX1_needed 33 = .ok (.iconst 0, 1) := by decide +kernel
theorem dX1_needed_34 : decode cX1_needed 34 = .ok (.istore 12, 2) := by decide +kernel
theorem dX1_needed_36 : decode cX1_needed 36 = .ok (.iload 12, 2) := by decide +kernel
theorem dX1_needed_38 : decode cX1_needed 38 = .ok (.iload 11, 2) := by decide +kernel
theorem dX1_needed_40 : decode cX1_needed 40 = .ok (.if_icmp .ge 46, 3) := by decide +kernel
theorem dX1_needed_43 : decode cX1_needed 43 = .ok (.lload 9, 2) := by decide +kernel
theorem dX1_needed_45 : decode cX1_needed 45 = .ok (.invokestatic 85, 3) := by decide +kernel
theorem dX1_needed_48 : decode cX1_needed 48 = .ok (.istore 13, 2) := by decide +kernel
theorem dX1_needed_50 : decode cX1_needed 50 = .ok (.lload 9, 2) := by decide +kernel
theorem dX1_needed_52 : decode cX1_needed 52 = .ok (.lload 9, 2) := by decide +kernel
theorem dX1_needed_54 : decode cX1_needed 54 = .ok (.lconst 1, 1) := by decide +kernel
theorem dX1_needed_55 : decode cX1_needed 55 = .ok (.lsub, 1) := by decide +kernel
theorem dX1_needed_56 : decode cX1_needed 56 = .ok (.land, 1) := by decide +kernel
theorem dX1_needed_57 : decode cX1_needed 57 = .ok (.lstore 9, 2) := by decide +kernel
theorem dX1_needed_59 : decode cX1_needed 59 = .ok (.aload_n 0, 1) := by decide +kernel
theorem dX1_needed_60 : decode cX1_needed 60 = .ok (.iload 13, 2) := by decide +kernel
theorem dX1_needed_62 : decode cX1_needed 62 = .ok (.lload_n 3, 1) := by decide +kernel
theorem dX1_needed_63 : decode cX1_needed 63 = .ok (.invokevirtual 88, 3) := by decide +kernel
theorem dX1_needed_66 : decode cX1_needed 66 = .ok (.ifCond .eq 14, 3) := by decide +kernel
theorem dX1_needed_69 : decode cX1_needed 69 = .ok (.lload_n 3, 1) := by decide +kernel
theorem dX1_needed_70 : decode cX1_needed 70 = .ok (.lconst 1, 1) := by decide +kernel
theorem dX1_needed_71 : decode cX1_needed 71 = .ok (.iload 13, 2) := by decide +kernel
theorem dX1_needed_73 : decode cX1_needed 73 = .ok (.lshl, 1) := by decide +kernel
theorem dX1_needed_74 : decode cX1_needed 74 = .ok (.ldc2_w 41, 3) := by decide +kernel
theorem dX1_needed_77 : decode cX1_needed 77 = .ok (.lxor, 1) := by decide +kernel
theorem dX1_needed_78 : decode cX1_needed 78 = .ok (.land, 1) := by decide +kernel
theorem dX1_needed_79 : decode cX1_needed 79 = .ok (.lstore_n 3, 1) := by decide +kernel
theorem dX1_needed_80 : decode cX1_needed 80 = .ok (.iinc 12 1, 3) := by decide +kernel
theorem dX1_needed_83 : decode cX1_needed 83 = .ok (.goto (-47), 3) := by decide +kernel
theorem dX1_needed_86 : decode cX1_needed 86 = .ok (.lload_n 3, 1) := by decide +kernel
theorem dX1_needed_87 : decode cX1_needed 87 = .ok (.lload 7, 2) := by decide +kernel
theorem dX1_needed_89 : decode cX1_needed 89 = .ok (.lcmp, 1) := by decide +kernel
theorem dX1_needed_90 : decode cX1_needed 90 = .ok (.ifCond .eq 7, 3) := by decide +kernel
theorem dX1_needed_93 : decode cX1_needed 93 = .ok (.iconst 1, 1) := by decide +kernel
theorem dX1_needed_94 : decode cX1_needed 94 = .ok (.goto 4, 3) := by decide +kernel
theorem dX1_needed_97 : decode cX1_needed 97 = .ok (.iconst 0, 1) := by decide +kernel
theorem dX1_needed_98 : decode cX1_needed 98 = .ok (.istore 5, 2) := by decide +kernel
theorem dX1_needed_100 : decode cX1_needed 100 = .ok (.iinc 6 1, 3) := by decide +kernel
theorem dX1_needed_103 : decode cX1_needed 103 = .ok (.goto (-95), 3) := by decide +kernel
theorem dX1_needed_106 : decode cX1_needed 106 = .ok (.lload_n 3, 1) := by decide +kernel
theorem dX1_needed_107 : decode cX1_needed 107 = .ok (.lreturn, 1) := by decide +kernel
theorem dX1_canBeSpared_0 : decode cX1_canBeSpared 0 = .ok (.lload_n 2, 1) := by decide +kernel
theorem dX1_canBeSpared_1 : decode cX1_canBeSpared 1 = .ok (.aload_n 0, 1) := by decide +kernel
theorem dX1_canBeSpared_2 : decode cX1_canBeSpared 2 = .ok (.getfield 9, 3) := by decide +kernel
theorem dX1_canBeSpared_5 : decode cX1_canBeSpared 5 = .ok (.iload_n 1, 1) := by decide +kernel
theorem dX1_canBeSpared_6 : decode cX1_canBeSpared 6 = .ok (.laload, 1) := by decide +kernel
theorem dX1_canBeSpared_7 : decode cX1_canBeSpared 7 = .ok (.ldc2_w 41, 3) := by decide +kernel
theorem dX1_canBeSpared_10 : decode cX1_canBeSpared 10 = .ok (.lxor, 1) := by decide +kernel
theorem dX1_canBeSpared_11 : decode cX1_canBeSpared 11 = .ok (.land, 1) := by decide +kernel
theorem dX1_canBeSpared_12 : decode cX1_canBeSpared 12 = .ok (.lstore 4, 2) := by decide +kernel
theorem dX1_canBeSpared_14 : decode cX1_canBeSpared 14 = .ok (.lload_n 2, 1) := by decide +kernel
theorem dX1_canBeSpared_15 : decode cX1_canBeSpared 15 = .ok (.aload_n 0, 1) := by decide +kernel
theorem dX1_canBeSpared_16 : decode cX1_canBeSpared 16 = .ok (.getfield 9, 3) := by decide +kernel
theorem dX1_canBeSpared_19 : decode cX1_canBeSpared 19 = .ok (.iload_n 1, 1) := by decide +kernel
theorem dX1_canBeSpared_20 : decode cX1_canBeSpared 20 = .ok (.laload, 1) := by decide +kernel
theorem dX1_canBeSpared_21 : decode cX1_canBeSpared 21 = .ok (.land, 1) := by decide +kernel
theorem dX1_canBeSpared_22 : decode cX1_canBeSpared 22 = .ok (.lconst 1, 1) := by decide +kernel
theorem dX1_canBeSpared_23 : decode cX1_canBeSpared 23 = .ok (.iload_n 1, 1) := by decide +kernel
theorem dX1_canBeSpared_24 : decode cX1_canBeSpared 24 = .ok (.lshl, 1) := by decide +kernel
theorem dX1_canBeSpared_25 : decode cX1_canBeSpared 25 = .ok (.ldc2_w 41, 3) := by decide +kernel
theorem dX1_canBeSpared_28 : decode cX1_canBeSpared 28 = .ok (.lxor, 1) := by decide +kernel
theorem dX1_canBeSpared_29 : decode cX1_canBeSpared 29 = .ok (.land, 1) := by decide +kernel
theorem dX1_canBeSpared_30 : decode cX1_canBeSpared 30 = .ok (.lstore 6, 2) := by decide +kernel
theorem dX1_canBeSpared_32 : decode cX1_canBeSpared 32 = .ok (.lload 6, 2) := by decide +kernel
theorem dX1_canBeSpared_34 : decode cX1_canBeSpared 34 = .ok (.invokestatic 73, 3) := by decide +kernel
theorem dX1_canBeSpared_37 : decode cX1_canBeSpared 37 = .ok (.istore 8, 2) := by decide +kernel
theorem dX1_canBeSpared_39 : decode cX1_canBeSpared 39 = .ok (.iconst 0, 1) := by decide +kernel
theorem dX1_canBeSpared_40 : decode cX1_canBeSpared 40 = .ok (.istore 9, 2) := by decide +kernel
theorem dX1_canBeSpared_42 : decode cX1_canBeSpared 42 = .ok (.iload 9, 2) := by decide +kernel
theorem dX1_canBeSpared_44 : decode cX1_canBeSpared 44 = .ok (.iload 8, 2) := by decide +kernel
theorem dX1_canBeSpared_46 : decode cX1_canBeSpared 46 = .ok (.if_icmp .ge 38, 3) := by decide +kernel
theorem dX1_canBeSpared_49 : decode cX1_canBeSpared 49 = .ok (.aload_n 0, 1) := by decide +kernel
theorem dX1_canBeSpared_50 : decode cX1_canBeSpared 50 = .ok (.getfield 9, 3) := by decide +kernel
theorem dX1_canBeSpared_53 : decode cX1_canBeSpared 53 = .ok (.lload 6, 2) := by decide +kernel
theorem dX1_canBeSpared_55 : decode cX1_canBeSpared 55 = .ok (.invokestatic 85, 3) := by decide +kernel
theorem dX1_canBeSpared_58 : decode cX1_canBeSpared 58 = .ok (.laload, 1) := by decide +kernel
theorem dX1_canBeSpared_59 : decode cX1_canBeSpared 59 = .ok (.lload 4, 2) := by decide +kernel
theorem dX1_canBeSpared_61 : decode cX1_canBeSpared 61 = .ok (.land, 1) := by decide +kernel
theorem dX1_canBeSpared_62 : decode cX1_canBeSpared 62 = .ok (.lconst 0, 1) := by decide +kernel
theorem dX1_canBeSpared_63 : decode cX1_canBeSpared 63 = .ok (.lcmp, 1) := by decide +kernel
theorem dX1_canBeSpared_64 : decode cX1_canBeSpared 64 = .ok (.ifCond .ne 5, 3) := by decide +kernel
theorem dX1_canBeSpared_67 : decode cX1_canBeSpared 67 = .ok (.iconst 1, 1) := by decide +kernel
theorem dX1_canBeSpared_68 : decode cX1_canBeSpared 68 = .ok (.ireturn, 1) := by decide +kernel
theorem dX1_canBeSpared_69 : decode cX1_canBeSpared 69 = .ok (.lload 6, 2) := by decide +kernel
theorem dX1_canBeSpared_71 : decode cX1_canBeSpared 71 = .ok (.lload 6, 2) := by decide +kernel
theorem dX1_canBeSpared_73 : decode cX1_canBeSpared 73 = .ok (.lconst 1, 1) := by decide +kernel
theorem dX1_canBeSpared_74 : decode cX1_canBeSpared 74 = .ok (.lsub, 1) := by decide +kernel
theorem dX1_canBeSpared_75 : decode cX1_canBeSpared 75 = .ok (.land, 1) := by decide +kernel
theorem dX1_canBeSpared_76 : decode cX1_canBeSpared 76 = .ok (.lstore 6, 2) := by decide +kernel
theorem dX1_canBeSpared_78 : decode cX1_canBeSpared 78 = .ok (.iinc 9 1, 3) := by decide +kernel
theorem dX1_canBeSpared_81 : decode cX1_canBeSpared 81 = .ok (.goto (-39), 3) := by decide +kernel
theorem dX1_canBeSpared_84 : decode cX1_canBeSpared 84 = .ok (.iconst 0, 1) := by decide +kernel
theorem dX1_canBeSpared_85 : decode cX1_canBeSpared 85 = .ok (.ireturn, 1) := by decide +kernel
theorem dX1_loneWords_0 : decode cX1_loneWords 0 = .ok (.lconst 0, 1) := by decide +kernel
theorem dX1_loneWords_1 : decode cX1_loneWords 1 = .ok (.lstore_n 3, 1) := by decide +kernel
theorem dX1_loneWords_2 : decode cX1_loneWords 2 = .ok (.lload_n 1, 1) := by decide +kernel
theorem dX1_loneWords_3 : decode cX1_loneWords 3 = .ok (.lstore 5, 2) := by decide +kernel
theorem dX1_loneWords_5 : decode cX1_loneWords 5 = .ok (.lload 5, 2) := by decide +kernel
theorem dX1_loneWords_7 : decode cX1_loneWords 7 = .ok (.invokestatic 73, 3) := by decide +kernel
theorem dX1_loneWords_10 : decode cX1_loneWords 10 = .ok (.istore 7, 2) := by decide +kernel
theorem dX1_loneWords_12 : decode cX1_loneWords 12 = .ok (.iconst 0, 1) := by decide +kernel
theorem dX1_loneWords_13 : decode cX1_loneWords 13 = .ok (.istore 8, 2) := by decide +kernel
theorem dX1_loneWords_15 : decode cX1_loneWords 15 = .ok (.iload 8, 2) := by decide +kernel
theorem dX1_loneWords_17 : decode cX1_loneWords 17 = .ok (.iload 7, 2) := by decide +kernel
theorem dX1_loneWords_19 : decode cX1_loneWords 19 = .ok (.if_icmp .ge 49, 3) := by decide +kernel
theorem dX1_loneWords_22 : decode cX1_loneWords 22 = .ok (.lload 5, 2) := by decide +kernel
theorem dX1_loneWords_24 : decode cX1_loneWords 24 = .ok (.invokestatic 85, 3) := by decide +kernel
theorem dX1_loneWords_27 : decode cX1_loneWords 27 = .ok (.istore 9, 2) := by decide +kernel
theorem dX1_loneWords_29 : decode cX1_loneWords 29 = .ok (.lload 5, 2) := by decide +kernel
theorem dX1_loneWords_31 : decode cX1_loneWords 31 = .ok (.lload 5, 2) := by decide +kernel
theorem dX1_loneWords_33 : decode cX1_loneWords 33 = .ok (.lconst 1, 1) := by decide +kernel
theorem dX1_loneWords_34 : decode cX1_loneWords 34 = .ok (.lsub, 1) := by decide +kernel
theorem dX1_loneWords_35 : decode cX1_loneWords 35 = .ok (.land, 1) := by decide +kernel
theorem dX1_loneWords_36 : decode cX1_loneWords 36 = .ok (.lstore 5, 2) := by decide +kernel
theorem dX1_loneWords_38 : decode cX1_loneWords 38 = .ok (.lload_n 1, 1) := by decide +kernel
theorem dX1_loneWords_39 : decode cX1_loneWords 39 = .ok (.aload_n 0, 1) := by decide +kernel
theorem dX1_loneWords_40 : decode cX1_loneWords 40 = .ok (.getfield 9, 3) := by decide +kernel
theorem dX1_loneWords_43 : decode cX1_loneWords 43 = .ok (.iload 9, 2) := by decide +kernel
theorem dX1_loneWords_45 : decode cX1_loneWords 45 = .ok (.laload, 1) := by decide +kernel
theorem dX1_loneWords_46 : decode cX1_loneWords 46 = .ok (.land, 1) := by decide +kernel
theorem dX1_loneWords_47 : decode cX1_loneWords 47 = .ok (.lconst 1, 1) := by decide +kernel
theorem dX1_loneWords_48 : decode cX1_loneWords 48 = .ok (.iload 9, 2) := by decide +kernel
theorem dX1_loneWords_50 : decode cX1_loneWords 50 = .ok (.lshl, 1) := by decide +kernel
theorem dX1_loneWords_51 : decode cX1_loneWords 51 = .ok (.lcmp, 1) := by decide +kernel
theorem dX1_loneWords_52 : decode cX1_loneWords 52 = .ok (.ifCond .ne 10, 3) := by decide +kernel
theorem dX1_loneWords_55 : decode cX1_loneWords 55 = .ok (.lload_n 3, 1) := by decide +kernel
theorem dX1_loneWords_56 : decode cX1_loneWords 56 = .ok (.lconst 1, 1) := by decide +kernel
theorem dX1_loneWords_57 : decode cX1_loneWords 57 = .ok (.iload 9, 2) := by decide +kernel
theorem dX1_loneWords_59 : decode cX1_loneWords 59 = .ok (.lshl, 1) := by decide +kernel
theorem dX1_loneWords_60 : decode cX1_loneWords 60 = .ok (.lor, 1) := by decide +kernel
theorem dX1_loneWords_61 : decode cX1_loneWords 61 = .ok (.lstore_n 3, 1) := by decide +kernel
theorem dX1_loneWords_62 : decode cX1_loneWords 62 = .ok (.iinc 8 1, 3) := by decide +kernel
theorem dX1_loneWords_65 : decode cX1_loneWords 65 = .ok (.goto (-50), 3) := by decide +kernel
theorem dX1_loneWords_68 : decode cX1_loneWords 68 = .ok (.lload_n 3, 1) := by decide +kernel
theorem dX1_loneWords_69 : decode cX1_loneWords 69 = .ok (.lreturn, 1) := by decide +kernel
theorem dX1_groups_0 : decode cX1_groups 0 = .ok (.iconst 0, 1) := by decide +kernel
theorem dX1_groups_1 : decode cX1_groups 1 = .ok (.istore_n 3, 1) := by decide +kernel
theorem dX1_groups_2 : decode cX1_groups 2 = .ok (.lload_n 1, 1) := by decide +kernel
theorem dX1_groups_3 : decode cX1_groups 3 = .ok (.lstore 4, 2) := by decide +kernel
theorem dX1_groups_5 : decode cX1_groups 5 = .ok (.lconst 0, 1) := by decide +kernel
theorem dX1_groups_6 : decode cX1_groups 6 = .ok (.lstore 6, 2) := by decide +kernel
theorem dX1_groups_8 : decode cX1_groups 8 = .ok (.lload_n 1, 1) := by decide +kernel
theorem dX1_groups_9 : decode cX1_groups 9 = .ok (.invokestatic 73, 3) := by decide +kernel
theorem dX1_groups_12 : decode cX1_groups 12 = .ok (.istore 8, 2) := by decide +kernel
theorem dX1_groups_14 : decode cX1_groups 14 = .ok (.iconst 0, 1) := by decide +kernel
theorem dX1_groups_15 : decode cX1_groups 15 = .ok (.istore 9, 2) := by decide +kernel
theorem dX1_groups_17 : decode cX1_groups 17 = .ok (.iload 9, 2) := by decide +kernel
theorem dX1_groups_19 : decode cX1_groups 19 = .ok (.iload 8, 2) := by decide +kernel
theorem dX1_groups_21 : decode cX1_groups 21 = .ok (.if_icmp .ge 58, 3) := by decide +kernel
theorem dX1_groups_24 : decode cX1_groups 24 = .ok (.lload 6, 2) := by decide +kernel
theorem dX1_groups_26 : decode cX1_groups 26 = .ok (.lconst 0, 1) := by decide +kernel
theorem dX1_groups_27 : decode cX1_groups 27 = .ok (.lcmp, 1) := by decide +kernel
theorem dX1_groups_28 : decode cX1_groups 28 = .ok (.ifCond .ne 10, 3) := by decide +kernel
theorem dX1_groups_31 : decode cX1_groups 31 = .ok (.iinc 3 1, 3) := by decide +kernel
theorem dX1_groups_34 : decode cX1_groups 34 = .ok (.lload 4, 2) := by decide +kernel
theorem dX1_groups_36 : decode cX1_groups 36 = .ok (.lstore 6, 2) := by decide +kernel
theorem dX1_groups_38 : decode cX1_groups 38 = .ok (.lload 6, 2) := by decide +kernel
theorem dX1_groups_40 : decode cX1_groups 40 = .ok (.invokestatic 85, 3) := by decide +kernel
theorem dX1_groups_43 : decode cX1_groups 43 = .ok (.istore 10, 2) := by decide +kernel
theorem dX1_groups_45 : decode cX1_groups 45 = .ok (.lload 4, 2) := by decide +kernel
theorem dX1_groups_47 : decode cX1_groups 47 = .ok (.lconst 1, 1) := by decide +kernel
theorem dX1_groups_48 : decode cX1_groups 48 = .ok (.iload 10, 2) := by decide +kernel
theorem dX1_groups_50 : decode cX1_groups 50 = .ok (.lshl, 1) := by decide +kernel
theorem dX1_groups_51 : decode cX1_groups 51 = .ok (.ldc2_w 41, 3) := by decide +kernel
theorem dX1_groups_54 : decode cX1_groups 54 = .ok (.lxor, 1) := by decide +kernel
theorem dX1_groups_55 : decode cX1_groups 55 = .ok (.land, 1) := by decide +kernel
theorem dX1_groups_56 : decode cX1_groups 56 = .ok (.lstore 4, 2) := by decide +kernel
theorem dX1_groups_58 : decode cX1_groups 58 = .ok (.lload 6, 2) := by decide +kernel
theorem dX1_groups_60 : decode cX1_groups 60 = .ok (.aload_n 0, 1) := by decide +kernel
theorem dX1_groups_61 : decode cX1_groups 61 = .ok (.getfield 9, 3) := by decide +kernel
theorem dX1_groups_64 : decode cX1_groups 64 = .ok (.iload 10, 2) := by decide +kernel
theorem dX1_groups_66 : decode cX1_groups 66 = .ok (.laload, 1) := by decide +kernel
theorem dX1_groups_67 : decode cX1_groups 67 = .ok (.lload 4, 2) := by decide +kernel
theorem dX1_groups_69 : decode cX1_groups 69 = .ok (.land, 1) := by decide +kernel
theorem dX1_groups_70 : decode cX1_groups 70 = .ok (.land, 1) := by decide +kernel
theorem dX1_groups_71 : decode cX1_groups 71 = .ok (.lstore 6, 2) := by decide +kernel
theorem dX1_groups_73 : decode cX1_groups 73 = .ok (.iinc 9 1, 3) := by decide +kernel
theorem dX1_groups_76 : decode cX1_groups 76 = .ok (.goto (-59), 3) := by decide +kernel
theorem dX1_groups_79 : decode cX1_groups 79 = .ok (.iload_n 3, 1) := by decide +kernel
theorem dX1_groups_80 : decode cX1_groups 80 = .ok (.ireturn, 1) := by decide +kernel
theorem dX1_busiest_0 : decode cX1_busiest 0 = .ok (.iconst 0, 1) := by decide +kernel
theorem dX1_busiest_1 : decode cX1_busiest 1 = .ok (.istore_n 3, 1) := by decide +kernel
theorem dX1_busiest_2 : decode cX1_busiest 2 = .ok (.iconst (-1), 1) := by decide +kernel
theorem dX1_busiest_3 : decode cX1_busiest 3 = .ok (.istore 4, 2) := by decide +kernel
theorem dX1_busiest_5 : decode cX1_busiest 5 = .ok (.lload_n 1, 1) := by decide +kernel
theorem dX1_busiest_6 : decode cX1_busiest 6 = .ok (.lstore 5, 2) := by decide +kernel
theorem dX1_busiest_8 : decode cX1_busiest 8 = .ok (.lload_n 1, 1) := by decide +kernel
theorem dX1_busiest_9 : decode cX1_busiest 9 = .ok (.invokestatic 73, 3) := by decide +kernel
theorem dX1_busiest_12 : decode cX1_busiest 12 = .ok (.istore 7, 2) := by decide +kernel
theorem dX1_busiest_14 : decode cX1_busiest 14 = .ok (.iconst 0, 1) := by decide +kernel
theorem dX1_busiest_15 : decode cX1_busiest 15 = .ok (.istore 8, 2) := by decide +kernel
theorem dX1_busiest_17 : decode cX1_busiest 17 = .ok (.iload 8, 2) := by decide +kernel
theorem dX1_busiest_19 : decode cX1_busiest 19 = .ok (.iload 7, 2) := by decide +kernel
theorem dX1_busiest_21 : decode cX1_busiest 21 = .ok (.if_icmp .ge 53, 3) := by decide +kernel
theorem dX1_busiest_24 : decode cX1_busiest 24 = .ok (.lload 5, 2) := by decide +kernel
theorem dX1_busiest_26 : decode cX1_busiest 26 = .ok (.invokestatic 85, 3) := by decide +kernel
theorem dX1_busiest_29 : decode cX1_busiest 29 = .ok (.istore 9, 2) := by decide +kernel
theorem dX1_busiest_31 : decode cX1_busiest 31 = .ok (.lload 5, 2) := by decide +kernel
theorem dX1_busiest_33 : decode cX1_busiest 33 = .ok (.lload 5, 2) := by decide +kernel
theorem dX1_busiest_35 : decode cX1_busiest 35 = .ok (.lconst 1, 1) := by decide +kernel
theorem dX1_busiest_36 : decode cX1_busiest 36 = .ok (.lsub, 1) := by decide +kernel
theorem dX1_busiest_37 : decode cX1_busiest 37 = .ok (.land, 1) := by decide +kernel
theorem dX1_busiest_38 : decode cX1_busiest 38 = .ok (.lstore 5, 2) := by decide +kernel
theorem dX1_busiest_40 : decode cX1_busiest 40 = .ok (.lload_n 1, 1) := by decide +kernel
theorem dX1_busiest_41 : decode cX1_busiest 41 = .ok (.aload_n 0, 1) := by decide +kernel
theorem dX1_busiest_42 : decode cX1_busiest 42 = .ok (.getfield 9, 3) := by decide +kernel
theorem dX1_busiest_45 : decode cX1_busiest 45 = .ok (.iload 9, 2) := by decide +kernel
theorem dX1_busiest_47 : decode cX1_busiest 47 = .ok (.laload, 1) := by decide +kernel
theorem dX1_busiest_48 : decode cX1_busiest 48 = .ok (.land, 1) := by decide +kernel
theorem dX1_busiest_49 : decode cX1_busiest 49 = .ok (.invokestatic 73, 3) := by decide +kernel
theorem dX1_busiest_52 : decode cX1_busiest 52 = .ok (.istore 10, 2) := by decide +kernel
theorem dX1_busiest_54 : decode cX1_busiest 54 = .ok (.iload 10, 2) := by decide +kernel
theorem dX1_busiest_56 : decode cX1_busiest 56 = .ok (.iload 4, 2) := by decide +kernel
theorem dX1_busiest_58 : decode cX1_busiest 58 = .ok (.if_icmp .le 10, 3) := by decide +kernel
theorem dX1_busiest_61 : decode cX1_busiest 61 = .ok (.iload 10, 2) := by decide +kernel
theorem dX1_busiest_63 : decode cX1_busiest 63 = .ok (.istore 4, 2) := by decide +kernel
theorem dX1_busiest_65 : decode cX1_busiest 65 = .ok (.iload 9, 2) := by decide +kernel
theorem dX1_busiest_67 : decode cX1_busiest 67 = .ok (.istore_n 3, 1) := by decide +kernel
theorem dX1_busiest_68 : decode cX1_busiest 68 = .ok (.iinc 8 1, 3) := by decide +kernel
theorem dX1_busiest_71 : decode cX1_busiest 71 = .ok (.goto (-54), 3) := by decide +kernel
theorem dX1_busiest_74 : decode cX1_busiest 74 = .ok (.iload_n 3, 1) := by decide +kernel
theorem dX1_busiest_75 : decode cX1_busiest 75 = .ok (.ireturn, 1) := by decide +kernel
theorem dX1_countLargest_0 : decode cX1_countLargest 0 = .ok (.aload_n 0, 1) := by decide +kernel
theorem dX1_countLargest_1 : decode cX1_countLargest 1 = .ok (.aload_n 0, 1) := by decide +kernel
theorem dX1_countLargest_2 : decode cX1_countLargest 2 = .ok (.invokevirtual 37, 3) := by decide +kernel
theorem dX1_countLargest_5 : decode cX1_countLargest 5 = .ok (.iconst 0, 1) := by decide +kernel
theorem dX1_countLargest_6 : decode cX1_countLargest 6 = .ok (.invokevirtual 92, 3) := by decide +kernel
theorem dX1_countLargest_9 : decode cX1_countLargest 9 = .ok (.l2i, 1) := by decide +kernel
theorem dX1_countLargest_10 : decode cX1_countLargest 10 = .ok (.ireturn, 1) := by decide +kernel
theorem dX1_tally_0 : decode cX1_tally 0 = .ok (.iload_n 3, 1) := by decide +kernel
theorem dX1_tally_1 : decode cX1_tally 1 = .ok (.bipush 64, 2) := by decide +kernel
theorem dX1_tally_3 : decode cX1_tally 3 = .ok (.if_icmp .le 5, 3) := by decide +kernel
theorem dX1_tally_6 : decode cX1_tally 6 = .ok (.lconst 0, 1) := by decide +kernel
theorem dX1_tally_7 : decode cX1_tally 7 = .ok (.lreturn, 1) := by decide +kernel
theorem dX1_tally_8 : decode cX1_tally 8 = .ok (.lconst 0, 1) := by decide +kernel
theorem dX1_tally_9 : decode cX1_tally 9 = .ok (.lstore 4, 2) := by decide +kernel
theorem dX1_tally_11 : decode cX1_tally 11 = .ok (.lconst 1, 1) := by decide +kernel
theorem dX1_tally_12 : decode cX1_tally 12 = .ok (.lstore 6, 2) := by decide +kernel
theorem dX1_tally_14 : decode cX1_tally 14 = .ok (.lload_n 1, 1) := by decide +kernel
theorem dX1_tally_15 : decode cX1_tally 15 = .ok (.lstore 8, 2) := by decide +kernel
theorem dX1_tally_17 : decode cX1_tally 17 = .ok (.iconst (-1), 1) := by decide +kernel
theorem dX1_tally_18 : decode cX1_tally 18 = .ok (.istore 10, 2) := by decide +kernel
theorem dX1_tally_20 : decode cX1_tally 20 = .ok (.iconst 0, 1) := by decide +kernel
theorem dX1_tally_21 : decode cX1_tally 21 = .ok (.istore 11, 2) := by decide +kernel
theorem dX1_tally_23 : decode cX1_tally 23 = .ok (.iconst 0, 1) := by decide +kernel
theorem dX1_tally_24 : decode cX1_tally 24 = .ok (.istore 12, 2) := by decide +kernel
theorem dX1_tally_26 : decode cX1_tally 26 = .ok (.iload 12, 2) := by decide +kernel
theorem dX1_tally_28 : decode cX1_tally 28 = .ok (.aload_n 0, 1) := by decide +kernel
theorem dX1_tally_29 : decode cX1_tally 29 = .ok (.getfield 15, 3) := by decide +kernel
theorem dX1_tally_32 : decode cX1_tally 32 = .ok (.if_icmp .ge 97, 3) := by decide +kernel
theorem dX1_tally_35 : decode cX1_tally 35 = .ok (.aload_n 0, 1) := by decide +kernel
theorem dX1_tally_36 : decode cX1_tally 36 = .ok (.getfield 9, 3) := by decide +kernel
theorem dX1_tally_39 : decode cX1_tally 39 = .ok (.iload 12, 2) := by decide +kernel
theorem dX1_tally_41 : decode cX1_tally 41 = .ok (.laload, 1) := by decide +kernel
theorem dX1_tally_42 : decode cX1_tally 42 = .ok (.lload 8, 2) := by decide +kernel
theorem dX1_tally_44 : decode cX1_tally 44 = .ok (.land, 1) := by decide +kernel
theorem dX1_tally_45 : decode cX1_tally 45 = .ok (.lstore 13, 2) := by decide +kernel
theorem dX1_tally_47 : decode cX1_tally 47 = .ok (.lload 13, 2) := by decide +kernel
theorem dX1_tally_49 : decode cX1_tally 49 = .ok (.invokestatic 73, 3) := by decide +kernel
theorem dX1_tally_52 : decode cX1_tally 52 = .ok (.istore 15, 2) := by decide +kernel
theorem dX1_tally_54 : decode cX1_tally 54 = .ok (.lload 8, 2) := by decide +kernel
theorem dX1_tally_56 : decode cX1_tally 56 = .ok (.iload 12, 2) := by decide +kernel
theorem dX1_tally_58 : decode cX1_tally 58 = .ok (.lushr, 1) := by decide +kernel
theorem dX1_tally_59 : decode cX1_tally 59 = .ok (.lconst 1, 1) := by decide +kernel
theorem dX1_tally_60 : decode cX1_tally 60 = .ok (.land, 1) := by decide +kernel
theorem dX1_tally_61 : decode cX1_tally 61 = .ok (.lconst 0, 1) := by decide +kernel
theorem dX1_tally_62 : decode cX1_tally 62 = .ok (.lcmp, 1) := by decide +kernel
theorem dX1_tally_63 : decode cX1_tally 63 = .ok (.ifCond .ne 6, 3) := by decide +kernel
theorem dX1_tally_66 : decode cX1_tally 66 = .ok (.goto 57, 3) := by decide +kernel
theorem dX1_tally_69 : decode cX1_tally 69 = .ok (.aload_n 0, 1) := by decide +kernel
theorem dX1_tally_70 : decode cX1_tally 70 = .ok (.lload 13, 2) := by decide +kernel
theorem dX1_tally_72 : decode cX1_tally 72 = .ok (.lload 8, 2) := by decide +kernel
theorem dX1_tally_74 : decode cX1_tally 74 = .ok (.invokevirtual 96, 3) := by decide +kernel
theorem dX1_tally_77 : decode cX1_tally 77 = .ok (.ifCond .eq 31, 3) := by decide +kernel
theorem dX1_tally_80 : decode cX1_tally 80 = .ok (.lload 4, 2) := by decide +kernel
theorem dX1_tally_82 : decode cX1_tally 82 = .ok (.lconst 1, 1) := by decide +kernel
theorem dX1_tally_83 : decode cX1_tally 83 = .ok (.ladd, 1) := by decide +kernel
theorem dX1_tally_84 : decode cX1_tally 84 = .ok (.lstore 4, 2) := by decide +kernel
theorem dX1_tally_86 : decode cX1_tally 86 = .ok (.lload 6, 2) := by decide +kernel
theorem dX1_tally_88 : decode cX1_tally 88 = .ok (.iload 15, 2) := by decide +kernel
theorem dX1_tally_90 : decode cX1_tally 90 = .ok (.i2l, 1) := by decide +kernel
theorem dX1_tally_91 : decode cX1_tally 91 = .ok (.lmul, 1) := by decide +kernel
theorem dX1_tally_92 : decode cX1_tally 92 = .ok (.lstore 6, 2) := by decide +kernel
theorem dX1_tally_94 : decode cX1_tally 94 = .ok (.lload 8, 2) := by decide +kernel
theorem dX1_tally_96 : decode cX1_tally 96 = .ok (.lload 13, 2) := by decide +kernel
theorem dX1_tally_98 : decode cX1_tally 98 = .ok (.ldc2_w 41, 3) := by decide +kernel
theorem dX1_tally_101 : decode cX1_tally 101 = .ok (.lxor, 1) := by decide +kernel
theorem dX1_tally_102 : decode cX1_tally 102 = .ok (.land, 1) := by decide +kernel
theorem dX1_tally_103 : decode cX1_tally 103 = .ok (.lstore 8, 2) := by decide +kernel
theorem dX1_tally_105 : decode cX1_tally 105 = .ok (.goto 18, 3) := by decide +kernel
theorem dX1_tally_108 : decode cX1_tally 108 = .ok (.iload 15, 2) := by decide +kernel
theorem dX1_tally_110 : decode cX1_tally 110 = .ok (.iload 11, 2) := by decide +kernel
theorem dX1_tally_112 : decode cX1_tally 112 = .ok (.if_icmp .le 11, 3) := by decide +kernel
theorem dX1_tally_115 : decode cX1_tally 115 = .ok (.iload 15, 2) := by decide +kernel
theorem dX1_tally_117 : decode cX1_tally 117 = .ok (.istore 11, 2) := by decide +kernel
theorem dX1_tally_119 : decode cX1_tally 119 = .ok (.iload 12, 2) := by decide +kernel
theorem dX1_tally_121 : decode cX1_tally 121 = .ok (.istore 10, 2) := by decide +kernel
theorem dX1_tally_123 : decode cX1_tally 123 = .ok (.iinc 12 1, 3) := by decide +kernel
theorem dX1_tally_126 : decode cX1_tally 126 = .ok (.goto (-100), 3) := by decide +kernel
theorem dX1_tally_129 : decode cX1_tally 129 = .ok (.iload 10, 2) := by decide +kernel
theorem dX1_tally_131 : decode cX1_tally 131 = .ok (.ifCond .ge 12, 3) := by decide +kernel
theorem dX1_tally_134 : decode cX1_tally 134 = .ok (.lload 4, 2) := by decide +kernel
theorem dX1_tally_136 : decode cX1_tally 136 = .ok (.bipush 32, 2) := by decide +kernel
theorem dX1_tally_138 : decode cX1_tally 138 = .ok (.lshl, 1) := by decide +kernel
theorem dX1_tally_139 : decode cX1_tally 139 = .ok (.lload 6, 2) := by decide +kernel
theorem dX1_tally_141 : decode cX1_tally 141 = .ok (.lor, 1) := by decide +kernel
theorem dX1_tally_142 : decode cX1_tally 142 = .ok (.lreturn, 1) := by decide +kernel
theorem dX1_tally_143 : decode cX1_tally 143 = .ok (.aload_n 0, 1) := by decide +kernel
theorem dX1_tally_144 : decode cX1_tally 144 = .ok (.lload 8, 2) := by decide +kernel
theorem dX1_tally_146 : decode cX1_tally 146 = .ok (.aload_n 0, 1) := by decide +kernel
theorem dX1_tally_147 : decode cX1_tally 147 = .ok (.getfield 9, 3) := by decide +kernel
theorem dX1_tally_150 : decode cX1_tally 150 = .ok (.iload 10, 2) := by decide +kernel
theorem dX1_tally_152 : decode cX1_tally 152 = .ok (.laload, 1) := by decide +kernel
theorem dX1_tally_153 : decode cX1_tally 153 = .ok (.ldc2_w 41, 3) := by decide +kernel
theorem dX1_tally_156 : decode cX1_tally 156 = .ok (.lxor, 1) := by decide +kernel
theorem dX1_tally_157 : decode cX1_tally 157 = .ok (.land, 1) := by decide +kernel
theorem dX1_tally_158 : decode cX1_tally 158 = .ok (.iload_n 3, 1) := by decide +kernel
theorem dX1_tally_159 : decode cX1_tally 159 = .ok (.iconst 1, 1) := by decide +kernel
theorem dX1_tally_160 : decode cX1_tally 160 = .ok (.iadd, 1) := by decide +kernel
theorem dX1_tally_161 : decode cX1_tally 161 = .ok (.invokevirtual 92, 3) := by decide +kernel
theorem dX1_tally_164 : decode cX1_tally 164 = .ok (.ldc2_w 99, 3) := by decide +kernel
theorem dX1_tally_167 : decode cX1_tally 167 = .ok (.ladd, 1) := by decide +kernel
theorem dX1_tally_168 : decode cX1_tally 168 = .ok (.lstore 12, 2) := by decide +kernel
theorem dX1_tally_170 : decode cX1_tally 170 = .ok (.aload_n 0, 1) := by decide +kernel
theorem dX1_tally_171 : decode cX1_tally 171 = .ok (.lload 8, 2) := by decide +kernel
theorem dX1_tally_173 : decode cX1_tally 173 = .ok (.lconst 1, 1) := by decide +kernel
theorem dX1_tally_174 : decode cX1_tally 174 = .ok (.iload 10, 2) := by decide +kernel
theorem dX1_tally_176 : decode cX1_tally 176 = .ok (.lshl, 1) := by decide +kernel
theorem dX1_tally_177 : decode cX1_tally 177 = .ok (.ldc2_w 41, 3) := by decide +kernel
theorem dX1_tally_180 : decode cX1_tally 180 = .ok (.lxor, 1) := by decide +kernel
theorem dX1_tally_181 : decode cX1_tally 181 = .ok (.land, 1) := by decide +kernel
theorem dX1_tally_182 : decode cX1_tally 182 = .ok (.iload_n 3, 1) := by decide +kernel
theorem dX1_tally_183 : decode cX1_tally 183 = .ok (.iconst 1, 1) := by decide +kernel
theorem dX1_tally_184 : decode cX1_tally 184 = .ok (.iadd, 1) := by decide +kernel
theorem dX1_tally_185 : decode cX1_tally 185 = .ok (.invokevirtual 92, 3) := by decide +kernel
theorem dX1_tally_188 : decode cX1_tally 188 = .ok (.lstore 14, 2) := by decide +kernel
theorem dX1_tally_190 : decode cX1_tally 190 = .ok (.lload 12, 2) := by decide +kernel
theorem dX1_tally_192 : decode cX1_tally 192 = .ok (.lload 14, 2) := by decide +kernel
theorem dX1_tally_194 : decode cX1_tally 194 = .ok (.invokestatic 101, 3) := by decide +kernel
theorem dX1_tally_197 : decode cX1_tally 197 = .ok (.lstore 16, 2) := by decide +kernel
theorem dX1_tally_199 : decode cX1_tally 199 = .ok (.lload 4, 2) := by decide +kernel
theorem dX1_tally_201 : decode cX1_tally 201 = .ok (.bipush 32, 2) := by decide +kernel
theorem dX1_tally_203 : decode cX1_tally 203 = .ok (.lshl, 1) := by decide +kernel
theorem dX1_tally_204 : decode cX1_tally 204 = .ok (.lload 16, 2) := by decide +kernel
theorem dX1_tally_206 : decode cX1_tally 206 = .ok (.bipush 32, 2) := by decide +kernel
theorem dX1_tally_208 : decode cX1_tally 208 = .ok (.lushr, 1) := by decide +kernel
theorem dX1_tally_209 : decode cX1_tally 209 = .ok (.bipush 32, 2) := by decide +kernel
theorem dX1_tally_211 : decode cX1_tally 211 = .ok (.lshl, 1) := by decide +kernel
theorem dX1_tally_212 : decode cX1_tally 212 = .ok (.ladd, 1) := by decide +kernel
theorem dX1_tally_213 : decode cX1_tally 213 = .ok (.lload 16, 2) := by decide +kernel
theorem dX1_tally_215 : decode cX1_tally 215 = .ok (.ldc2_w 105, 3) := by decide +kernel
theorem dX1_tally_218 : decode cX1_tally 218 = .ok (.land, 1) := by decide +kernel
theorem dX1_tally_219 : decode cX1_tally 219 = .ok (.lload 6, 2) := by decide +kernel
theorem dX1_tally_221 : decode cX1_tally 221 = .ok (.lmul, 1) := by decide +kernel
theorem dX1_tally_222 : decode cX1_tally 222 = .ok (.ladd, 1) := by decide +kernel
theorem dX1_tally_223 : decode cX1_tally 223 = .ok (.lreturn, 1) := by decide +kernel
theorem dX1_standsApart_0 : decode cX1_standsApart 0 = .ok (.lload_n 1, 1) := by decide +kernel
theorem dX1_standsApart_1 : decode cX1_standsApart 1 = .ok (.lstore 5, 2) := by decide +kernel
theorem dX1_standsApart_3 : decode cX1_standsApart 3 = .ok (.lload_n 1, 1) := by decide +kernel
theorem dX1_standsApart_4 : decode cX1_standsApart 4 = .ok (.invokestatic 73, 3) := by decide +kernel
theorem dX1_standsApart_7 : decode cX1_standsApart 7 = .ok (.istore 7, 2) := by decide +kernel
theorem dX1_standsApart_9 : decode cX1_standsApart 9 = .ok (.iconst 0, 1) := by decide +kernel
theorem dX1_standsApart_10 : decode cX1_standsApart 10 = .ok (.istore 8, 2) := by decide +kernel
theorem dX1_standsApart_12 : decode cX1_standsApart 12 = .ok (.iload 8, 2) := by decide +kernel
theorem dX1_standsApart_14 : decode cX1_standsApart 14 = .ok (.iload 7, 2) := by decide +kernel
theorem dX1_standsApart_16 : decode cX1_standsApart 16 = .ok (.if_icmp .ge 37, 3) := by decide +kernel
theorem dX1_standsApart_19 : decode cX1_standsApart 19 = .ok (.aload_n 0, 1) := by decide +kernel
theorem dX1_standsApart_20 : decode cX1_standsApart 20 = .ok (.getfield 9, 3) := by decide +kernel
theorem dX1_standsApart_23 : decode cX1_standsApart 23 = .ok (.lload 5, 2) := by decide +kernel
theorem dX1_standsApart_25 : decode cX1_standsApart 25 = .ok (.invokestatic 85, 3) := by decide +kernel
theorem dX1_standsApart_28 : decode cX1_standsApart 28 = .ok (.laload, 1) := by decide +kernel
theorem dX1_standsApart_29 : decode cX1_standsApart 29 = .ok (.lload_n 3, 1) := by decide +kernel
theorem dX1_standsApart_30 : decode cX1_standsApart 30 = .ok (.land, 1) := by decide +kernel
theorem dX1_standsApart_31 : decode cX1_standsApart 31 = .ok (.lload_n 1, 1) := by decide +kernel
theorem dX1_standsApart_32 : decode cX1_standsApart 32 = .ok (.lcmp, 1) := by decide +kernel
theorem dX1_standsApart_33 : decode cX1_standsApart 33 = .ok (.ifCond .eq 5, 3) := by decide +kernel
theorem dX1_standsApart_36 : decode cX1_standsApart 36 = .ok (.iconst 0, 1) := by decide +kernel
theorem dX1_standsApart_37 : decode cX1_standsApart 37 = .ok (.ireturn, 1) := by decide +kernel
theorem dX1_standsApart_38 : decode cX1_standsApart 38 = .ok (.lload 5, 2) := by decide +kernel
theorem dX1_standsApart_40 : decode cX1_standsApart 40 = .ok (.lload 5, 2) := by decide +kernel
theorem dX1_standsApart_42 : decode cX1_standsApart 42 = .ok (.lconst 1, 1) := by decide +kernel
theorem dX1_standsApart_43 : decode cX1_standsApart 43 = .ok (.lsub, 1) := by decide +kernel
theorem dX1_standsApart_44 : decode cX1_standsApart 44 = .ok (.land, 1) := by decide +kernel
theorem dX1_standsApart_45 : decode cX1_standsApart 45 = .ok (.lstore 5, 2) := by decide +kernel
theorem dX1_standsApart_47 : decode cX1_standsApart 47 = .ok (.iinc 8 1, 3) := by decide +kernel
theorem dX1_standsApart_50 : decode cX1_standsApart 50 = .ok (.goto (-38), 3) := by decide +kernel
theorem dX1_standsApart_53 : decode cX1_standsApart 53 = .ok (.iconst 1, 1) := by decide +kernel
theorem dX1_standsApart_54 : decode cX1_standsApart 54 = .ok (.ireturn, 1) := by decide +kernel
theorem dX1_joinTallies_0 : decode cX1_joinTallies 0 = .ok (.lload_n 0, 1) := by decide +kernel
theorem dX1_joinTallies_1 : decode cX1_joinTallies 1 = .ok (.bipush 32, 2) := by decide +kernel
theorem dX1_joinTallies_3 : decode cX1_joinTallies 3 = .ok (.lushr, 1) := by decide +kernel
theorem dX1_joinTallies_4 : decode cX1_joinTallies 4 = .ok (.lload_n 2, 1) := by decide +kernel
theorem dX1_joinTallies_5 : decode cX1_joinTallies 5 = .ok (.bipush 32, 2) := by decide +kernel
theorem dX1_joinTallies_7 : decode cX1_joinTallies 7 = .ok (.lushr, 1) := by decide +kernel
theorem dX1_joinTallies_8 : decode cX1_joinTallies 8 = .ok (.lcmp, 1) := by decide +kernel
theorem dX1_joinTallies_9 : decode cX1_joinTallies 9 = .ok (.ifCond .ne 11, 3) := by decide +kernel
theorem dX1_joinTallies_12 : decode cX1_joinTallies 12 = .ok (.lload_n 0, 1) := by decide +kernel
theorem dX1_joinTallies_13 : decode cX1_joinTallies 13 = .ok (.lload_n 2, 1) := by decide +kernel
theorem dX1_joinTallies_14 : decode cX1_joinTallies 14 = .ok (.ldc2_w 105, 3) := by decide +kernel
theorem dX1_joinTallies_17 : decode cX1_joinTallies 17 = .ok (.land, 1) := by decide +kernel
theorem dX1_joinTallies_18 : decode cX1_joinTallies 18 = .ok (.ladd, 1) := by decide +kernel
theorem dX1_joinTallies_19 : decode cX1_joinTallies 19 = .ok (.lreturn, 1) := by decide +kernel
theorem dX1_joinTallies_20 : decode cX1_joinTallies 20 = .ok (.lload_n 0, 1) := by decide +kernel
theorem dX1_joinTallies_21 : decode cX1_joinTallies 21 = .ok (.lload_n 2, 1) := by decide +kernel
theorem dX1_joinTallies_22 : decode cX1_joinTallies 22 = .ok (.invokestatic 107, 3) := by decide +kernel
theorem dX1_joinTallies_25 : decode cX1_joinTallies 25 = .ok (.lreturn, 1) := by decide +kernel
theorem dX2_init_0 : decode cX2_init 0 = .ok (.aload_n 0, 1) := by decide +kernel
theorem dX2_init_1 : decode cX2_init 1 = .ok (.invokespecial 3, 3) := by decide +kernel
theorem dX2_init_4 : decode cX2_init 4 = .ok (.aload_n 0, 1) := by decide +kernel
theorem dX2_init_5 : decode cX2_init 5 = .ok (.bipush 24, 2) := by decide +kernel
theorem dX2_init_7 : decode cX2_init 7 = .ok (.newarray .int, 2) := by decide +kernel
theorem dX2_init_9 : decode cX2_init 9 = .ok (.putfield 9, 3) := by decide +kernel
theorem dX2_init_12 : decode cX2_init 12 = .ok (.aload_n 0, 1) := by decide +kernel
theorem dX2_init_13 : decode cX2_init 13 = .ok (.bipush 24, 2) := by decide +kernel
theorem dX2_init_15 : decode cX2_init 15 = .ok (.newarray .int, 2) := by decide +kernel
theorem dX2_init_17 : decode cX2_init 17 = .ok (.putfield 15, 3) := by decide +kernel
theorem dX2_init_20 : decode cX2_init 20 = .ok (.aload_n 0, 1) := by decide +kernel
theorem dX2_init_21 : decode cX2_init 21 = .ok (.bipush 24, 2) := by decide +kernel
theorem dX2_init_23 : decode cX2_init 23 = .ok (.newarray .int, 2) := by decide +kernel
theorem dX2_init_25 : decode cX2_init 25 = .ok (.putfield 18, 3) := by decide +kernel
theorem dX2_init_28 : decode cX2_init 28 = .ok (.aload_n 0, 1) := by decide +kernel
theorem dX2_init_29 : decode cX2_init 29 = .ok (.iconst 0, 1) := by decide +kernel
theorem dX2_init_30 : decode cX2_init 30 = .ok (.putfield 21, 3) := by decide +kernel
theorem dX2_init_33 : decode cX2_init 33 = .ok (.aload_n 0, 1) := by decide +kernel
theorem dX2_init_34 : decode cX2_init 34 = .ok (.iconst 0, 1) := by decide +kernel
theorem dX2_init_35 : decode cX2_init 35 = .ok (.putfield 25, 3) := by decide +kernel
theorem dX2_init_38 : decode cX2_init 38 = .ok (.aload_n 0, 1) := by decide +kernel
theorem dX2_init_39 : decode cX2_init 39 = .ok (.iconst 0, 1) := by decide +kernel
theorem dX2_init_40 : decode cX2_init 40 = .ok (.putfield 28, 3) := by decide +kernel
theorem dX2_init_43 : decode cX2_init 43 = .ok (.return_, 1) := by decide +kernel
theorem dX2_fewest_0 : decode cX2_fewest 0 = .ok (.aload_n 0, 1) := by decide +kernel
theorem dX2_fewest_1 : decode cX2_fewest 1 = .ok (.aload_n 1, 1) := by decide +kernel
theorem dX2_fewest_2 : decode cX2_fewest 2 = .ok (.getfield 31, 3) := by decide +kernel
theorem dX2_fewest_5 : decode cX2_fewest 5 = .ok (.putfield 21, 3) := by decide +kernel
theorem dX2_fewest_8 : decode cX2_fewest 8 = .ok (.aload_n 0, 1) := by decide +kernel
theorem dX2_fewest_9 : decode cX2_fewest 9 = .ok (.iload_n 3, 1) := by decide +kernel
theorem dX2_fewest_10 : decode cX2_fewest 10 = .ok (.putfield 28, 3) := by decide +kernel
theorem dX2_fewest_13 : decode cX2_fewest 13 = .ok (.iconst 0, 1) := by decide +kernel
theorem dX2_fewest_14 : decode cX2_fewest 14 = .ok (.istore 4, 2) := by decide +kernel
theorem dX2_fewest_16 : decode cX2_fewest 16 = .ok (.iload 4, 2) := by decide +kernel
theorem dX2_fewest_18 : decode cX2_fewest 18 = .ok (.aload_n 0, 1) := by decide +kernel
theorem dX2_fewest_19 : decode cX2_fewest 19 = .ok (.getfield 21, 3) := by decide +kernel
theorem dX2_fewest_22 : decode cX2_fewest 22 = .ok (.if_icmp .ge 23, 3) := by decide +kernel
theorem dX2_fewest_25 : decode cX2_fewest 25 = .ok (.aload_n 0, 1) := by decide +kernel
theorem dX2_fewest_26 : decode cX2_fewest 26 = .ok (.getfield 9, 3) := by decide +kernel
theorem dX2_fewest_29 : decode cX2_fewest 29 = .ok (.iload 4, 2) := by decide +kernel
theorem dX2_fewest_31 : decode cX2_fewest 31 = .ok (.aload_n 1, 1) := by decide +kernel
theorem dX2_fewest_32 : decode cX2_fewest 32 = .ok (.getfield 34, 3) := by decide +kernel
theorem dX2_fewest_35 : decode cX2_fewest 35 = .ok (.iload 4, 2) := by decide +kernel
theorem dX2_fewest_37 : decode cX2_fewest 37 = .ok (.iaload, 1) := by decide +kernel
theorem dX2_fewest_38 : decode cX2_fewest 38 = .ok (.iastore, 1) := by decide +kernel
theorem dX2_fewest_39 : decode cX2_fewest 39 = .ok (.iinc 4 1, 3) := by decide +kernel
theorem dX2_fewest_42 : decode cX2_fewest 42 = .ok (.goto (-26), 3) := by decide +kernel
theorem dX2_fewest_45 : decode cX2_fewest 45 = .ok (.aload_n 0, 1) := by decide +kernel
theorem dX2_fewest_46 : decode cX2_fewest 46 = .ok (.iconst 1, 1) := by decide +kernel
theorem dX2_fewest_47 : decode cX2_fewest 47 = .ok (.iload_n 2, 1) := by decide +kernel
theorem dX2_fewest_48 : decode cX2_fewest 48 = .ok (.invokestatic 35, 3) := by decide +kernel
theorem dX2_fewest_51 : decode cX2_fewest 51 = .ok (.putfield 25, 3) := by decide +kernel
theorem dX2_fewest_54 : decode cX2_fewest 54 = .ok (.aload_n 0, 1) := by decide +kernel
theorem dX2_fewest_55 : decode cX2_fewest 55 = .ok (.getfield 25, 3) := by decide +kernel
theorem dX2_fewest_58 : decode cX2_fewest 58 = .ok (.aload_n 0, 1) := by decide +kernel
theorem dX2_fewest_59 : decode cX2_fewest 59 = .ok (.getfield 21, 3) := by decide +kernel
theorem dX2_fewest_62 : decode cX2_fewest 62 = .ok (.if_icmp .ge 33, 3) := by decide +kernel
theorem dX2_fewest_65 : decode cX2_fewest 65 = .ok (.aload_n 0, 1) := by decide +kernel
theorem dX2_fewest_66 : decode cX2_fewest 66 = .ok (.iconst 1, 1) := by decide +kernel
theorem dX2_fewest_67 : decode cX2_fewest 67 = .ok (.aload_n 0, 1) := by decide +kernel
theorem dX2_fewest_68 : decode cX2_fewest 68 = .ok (.getfield 21, 3) := by decide +kernel
theorem dX2_fewest_71 : decode cX2_fewest 71 = .ok (.ishl, 1) := by decide +kernel
theorem dX2_fewest_72 : decode cX2_fewest 72 = .ok (.iconst 1, 1) := by decide +kernel
theorem dX2_fewest_73 : decode cX2_fewest 73 = .ok (.isub, 1) := by decide +kernel
theorem dX2_fewest_74 : decode cX2_fewest 74 = .ok (.iconst 0, 1) := by decide +kernel
theorem dX2_fewest_75 : decode cX2_fewest 75 = .ok (.iconst 0, 1) := by decide +kernel
theorem dX2_fewest_76 : decode cX2_fewest 76 = .ok (.invokevirtual 41, 3) := by decide +kernel
theorem dX2_fewest_79 : decode cX2_fewest 79 = .ok (.ifCond .ne 16, 3) := by decide +kernel
theorem dX2_fewest_82 : decode cX2_fewest 82 = .ok (.aload_n 0, 1) := by decide +kernel
theorem dX2_fewest_83 : decode cX2_fewest 83 = .ok (.dup, 1) := by decide +kernel
theorem dX2_fewest_84 : decode cX2_fewest 84 = .ok (.getfield 25, 3) := by decide +kernel
theorem dX2_fewest_87 : decode cX2_fewest 87 = .ok (.iconst 1, 1) := by decide +kernel
theorem dX2_fewest_88 : decode cX2_fewest 88 = .ok (.iadd, 1) := by decide +kernel
theorem dX2_fewest_89 : decode cX2_fewest 89 = .ok (.putfield 25, 3) := by decide +kernel
theorem dX2_fewest_92 : decode cX2_fewest 92 = .ok (.goto (-38), 3) := by decide +kernel
theorem dX2_fewest_95 : decode cX2_fewest 95 = .ok (.aload_n 0, 1) := by decide +kernel
theorem dX2_fewest_96 : decode cX2_fewest 96 = .ok (.getfield 25, 3) := by decide +kernel
theorem dX2_fewest_99 : decode cX2_fewest 99 = .ok (.ireturn, 1) := by decide +kernel
theorem dX2_leastRow_0 : decode cX2_leastRow 0 = .ok (.iconst 1, 1) := by decide +kernel
theorem dX2_leastRow_1 : decode cX2_leastRow 1 = .ok (.aload_n 0, 1) := by decide +kernel
theorem dX2_leastRow_2 : decode cX2_leastRow 2 = .ok (.getfield 21, 3) := by decide +kernel
theorem dX2_leastRow_5 : decode cX2_leastRow 5 = .ok (.ishl, 1) := by decide +kernel
theorem dX2_leastRow_6 : decode cX2_leastRow 6 = .ok (.iconst 1, 1) := by decide +kernel
theorem dX2_leastRow_7 : decode cX2_leastRow 7 = .ok (.isub, 1) := by decide +kernel
theorem dX2_leastRow_8 : decode cX2_leastRow 8 = .ok (.istore_n 2, 1) := by decide +kernel
theorem dX2_leastRow_9 : decode cX2_leastRow 9 = .ok (.iconst 0, 1) := by decide +kernel
theorem dX2_leastRow_10 : decode cX2_leastRow 10 = .ok (.istore_n 3, 1) := by decide +kernel
theorem dX2_leastRow_11 : decode cX2_leastRow 11 = .ok (.iconst 0, 1) := by decide +kernel
theorem dX2_leastRow_12 : decode cX2_leastRow 12 = .ok (.istore 4, 2) := by decide +kernel
theorem dX2_leastRow_14 : decode cX2_leastRow 14 = .ok (.iload 4, 2) := by decide +kernel
theorem dX2_leastRow_16 : decode cX2_leastRow 16 = .ok (.aload_n 0, 1) := by decide +kernel
theorem dX2_leastRow_17 : decode cX2_leastRow 17 = .ok (.getfield 21, 3) := by decide +kernel
theorem dX2_leastRow_20 : decode cX2_leastRow 20 = .ok (.if_icmp .ge 105, 3) := by decide +kernel
theorem dX2_leastRow_23 : decode cX2_leastRow 23 = .ok (.iload_n 2, 1) := by decide +kernel
theorem dX2_leastRow_24 : decode cX2_leastRow 24 = .ok (.iconst 1, 1) := by decide +kernel
theorem dX2_leastRow_25 : decode cX2_leastRow 25 = .ok (.iload 4, 2) := by decide +kernel
theorem dX2_leastRow_27 : decode cX2_leastRow 27 = .ok (.ishl, 1) := by decide +kernel
theorem dX2_leastRow_28 : decode cX2_leastRow 28 = .ok (.iconst (-1), 1) := by decide +kernel
theorem dX2_leastRow_29 : decode cX2_leastRow 29 = .ok (.ixor, 1) := by decide +kernel
theorem dX2_leastRow_30 : decode cX2_leastRow 30 = .ok (.iand, 1) := by decide +kernel
theorem dX2_leastRow_31 : decode cX2_leastRow 31 = .ok (.istore_n 2, 1) := by decide +kernel
theorem dX2_leastRow_32 : decode cX2_leastRow 32 = .ok (.iload_n 3, 1) := by decide +kernel
theorem dX2_leastRow_33 : decode cX2_leastRow 33 = .ok (.istore 5, 2) := by decide +kernel
theorem dX2_leastRow_35 : decode cX2_leastRow 35 = .ok (.iconst 0, 1) := by decide +kernel
theorem dX2_leastRow_36 : decode cX2_leastRow 36 = .ok (.istore 6, 2) := by decide +kernel
theorem dX2_leastRow_38 : decode cX2_leastRow 38 = .ok (.iload 6, 2) := by decide +kernel
theorem dX2_leastRow_40 : decode cX2_leastRow 40 = .ok (.iload_n 3, 1) := by decide +kernel
theorem dX2_leastRow_41 : decode cX2_leastRow 41 = .ok (.if_icmp .ge 63, 3) := by decide +kernel
theorem dX2_leastRow_44 : decode cX2_leastRow 44 = .ok (.iload 5, 2) := by decide +kernel
theorem dX2_leastRow_46 : decode cX2_leastRow 46 = .ok (.iload_n 3, 1) := by decide +kernel
theorem dX2_leastRow_47 : decode cX2_leastRow 47 = .ok (.if_icmp .ne 57, 3) := by decide +kernel
theorem dX2_leastRow_50 : decode cX2_leastRow 50 = .ok (.aload_n 0, 1) := by decide +kernel
theorem dX2_leastRow_51 : decode cX2_leastRow 51 = .ok (.aload_n 1, 1) := by decide +kernel
theorem dX2_leastRow_52 : decode cX2_leastRow 52 = .ok (.iload 4, 2) := by decide +kernel
theorem dX2_leastRow_54 : decode cX2_leastRow 54 = .ok (.invokevirtual 45, 3) := by decide +kernel
theorem dX2_leastRow_57 : decode cX2_leastRow 57 = .ok (.aload_n 0, 1) := by decide +kernel
theorem dX2_leastRow_58 : decode cX2_leastRow 58 = .ok (.getfield 15, 3) := by decide +kernel
theorem dX2_leastRow_61 : decode cX2_leastRow 61 = .ok (.iload 6, 2) := by decide +kernel
theorem dX2_leastRow_63 : decode cX2_leastRow 63 = .ok (.iaload, 1) := by decide +kernel
theorem dX2_leastRow_64 : decode cX2_leastRow 64 = .ok (.iload 4, 2) := by decide +kernel
theorem dX2_leastRow_66 : decode cX2_leastRow 66 = .ok (.iushr, 1) := by decide +kernel
theorem dX2_leastRow_67 : decode cX2_leastRow 67 = .ok (.iconst 1, 1) := by decide +kernel
theorem dX2_leastRow_68 : decode cX2_leastRow 68 = .ok (.iand, 1) := by decide +kernel
theorem dX2_leastRow_69 : decode cX2_leastRow 69 = .ok (.ifCond .eq 29, 3) := by decide +kernel
theorem dX2_leastRow_72 : decode cX2_leastRow 72 = .ok (.aload_n 0, 1) := by decide +kernel
theorem dX2_leastRow_73 : decode cX2_leastRow 73 = .ok (.iload 4, 2) := by decide +kernel
theorem dX2_leastRow_75 : decode cX2_leastRow 75 = .ok (.iload 6, 2) := by decide +kernel
theorem dX2_leastRow_77 : decode cX2_leastRow 77 = .ok (.invokevirtual 49, 3) := by decide +kernel
theorem dX2_leastRow_80 : decode cX2_leastRow 80 = .ok (.aload_n 0, 1) := by decide +kernel
theorem dX2_leastRow_81 : decode cX2_leastRow 81 = .ok (.iload_n 2, 1) := by decide +kernel
theorem dX2_leastRow_82 : decode cX2_leastRow 82 = .ok (.iload_n 3, 1) := by decide +kernel
theorem dX2_leastRow_83 : decode cX2_leastRow 83 = .ok (.iconst 0, 1) := by decide +kernel
theorem dX2_leastRow_84 : decode cX2_leastRow 84 = .ok (.invokevirtual 41, 3) := by decide +kernel
theorem dX2_leastRow_87 : decode cX2_leastRow 87 = .ok (.ifCond .eq 8, 3) := by decide +kernel
theorem dX2_leastRow_90 : decode cX2_leastRow 90 = .ok (.iload 6, 2) := by decide +kernel
theorem dX2_leastRow_92 : decode cX2_leastRow 92 = .ok (.goto 4, 3) := by decide +kernel
theorem dX2_leastRow_95 : decode cX2_leastRow 95 = .ok (.iload_n 3, 1) := by decide +kernel
theorem dX2_leastRow_96 : decode cX2_leastRow 96 = .ok (.istore 5, 2) := by decide +kernel
theorem dX2_leastRow_98 : decode cX2_leastRow 98 = .ok (.iinc 6 1, 3) := by decide +kernel
theorem dX2_leastRow_101 : decode cX2_leastRow 101 = .ok (.goto (-63), 3) := by decide +kernel
theorem dX2_leastRow_104 : decode cX2_leastRow 104 = .ok (.aload_n 1, 1) := by decide +kernel
theorem dX2_leastRow_105 : decode cX2_leastRow 105 = .ok (.iload 4, 2) := by decide +kernel
end
section
theorem dX2_leastRow_107 : decode cX2_leastRow 107 = .ok (.iload 5, 2) := by decide +kernel
theorem dX2_leastRow_109 : decode cX2_leastRow 109 = .ok (.iastore, 1) := by decide +kernel
theorem dX2_leastRow_110 : decode cX2_leastRow 110 = .ok (.iload_n 3, 1) := by decide +kernel
theorem dX2_leastRow_111 : decode cX2_leastRow 111 = .ok (.iload 5, 2) := by decide +kernel
theorem dX2_leastRow_113 : decode cX2_leastRow 113 = .ok (.iconst 1, 1) := by decide +kernel
theorem dX2_leastRow_114 : decode cX2_leastRow 114 = .ok (.iadd, 1) := by decide +kernel
theorem dX2_leastRow_115 : decode cX2_leastRow 115 = .ok (.invokestatic 35, 3) := by decide +kernel
theorem dX2_leastRow_118 : decode cX2_leastRow 118 = .ok (.istore_n 3, 1) := by decide +kernel
theorem dX2_leastRow_119 : decode cX2_leastRow 119 = .ok (.iinc 4 1, 3) := by decide +kernel
theorem dX2_leastRow_122 : decode cX2_leastRow 122 = .ok (.goto (-108), 3) := by decide +kernel
theorem dX2_leastRow_125 : decode cX2_leastRow 125 = .ok (.return_, 1) := by decide +kernel
theorem dX2_layRow_0 : decode cX2_layRow 0 = .ok (.iconst 0, 1) := by decide +kernel
theorem dX2_layRow_1 : decode cX2_layRow 1 = .ok (.istore_n 3, 1) := by decide +kernel
theorem dX2_layRow_2 : decode cX2_layRow 2 = .ok (.iload_n 3, 1) := by decide +kernel
theorem dX2_layRow_3 : decode cX2_layRow 3 = .ok (.aload_n 0, 1) := by decide +kernel
theorem dX2_layRow_4 : decode cX2_layRow 4 = .ok (.getfield 21, 3) := by decide +kernel
theorem dX2_layRow_7 : decode cX2_layRow 7 = .ok (.if_icmp .ge 23, 3) := by decide +kernel
theorem dX2_layRow_10 : decode cX2_layRow 10 = .ok (.aload_n 0, 1) := by decide +kernel
theorem dX2_layRow_11 : decode cX2_layRow 11 = .ok (.getfield 15, 3) := by decide +kernel
theorem dX2_layRow_14 : decode cX2_layRow 14 = .ok (.iload_n 3, 1) := by decide +kernel
theorem dX2_layRow_15 : decode cX2_layRow 15 = .ok (.iconst (-1), 1) := by decide +kernel
theorem dX2_layRow_16 : decode cX2_layRow 16 = .ok (.iastore, 1) := by decide +kernel
theorem dX2_layRow_17 : decode cX2_layRow 17 = .ok (.aload_n 0, 1) := by decide +kernel
theorem dX2_layRow_18 : decode cX2_layRow 18 = .ok (.getfield 18, 3) := by decide +kernel
theorem dX2_layRow_21 : decode cX2_layRow 21 = .ok (.iload_n 3, 1) := by decide +kernel
theorem dX2_layRow_22 : decode cX2_layRow 22 = .ok (.iconst 0, 1) := by decide +kernel
theorem dX2_layRow_23 : decode cX2_layRow 23 = .ok (.iastore, 1) := by decide +kernel
theorem dX2_layRow_24 : decode cX2_layRow 24 = .ok (.iinc 3 1, 3) := by decide +kernel
theorem dX2_layRow_27 : decode cX2_layRow 27 = .ok (.goto (-25), 3) := by decide +kernel
theorem dX2_layRow_30 : decode cX2_layRow 30 = .ok (.iconst 0, 1) := by decide +kernel
theorem dX2_layRow_31 : decode cX2_layRow 31 = .ok (.istore_n 3, 1) := by decide +kernel
theorem dX2_layRow_32 : decode cX2_layRow 32 = .ok (.iload_n 3, 1) := by decide +kernel
theorem dX2_layRow_33 : decode cX2_layRow 33 = .ok (.iload_n 2, 1) := by decide +kernel
theorem dX2_layRow_34 : decode cX2_layRow 34 = .ok (.if_icmp .ge 17, 3) := by decide +kernel
theorem dX2_layRow_37 : decode cX2_layRow 37 = .ok (.aload_n 0, 1) := by decide +kernel
theorem dX2_layRow_38 : decode cX2_layRow 38 = .ok (.iload_n 3, 1) := by decide +kernel
theorem dX2_layRow_39 : decode cX2_layRow 39 = .ok (.aload_n 1, 1) := by decide +kernel
theorem dX2_layRow_40 : decode cX2_layRow 40 = .ok (.iload_n 3, 1) := by decide +kernel
theorem dX2_layRow_41 : decode cX2_layRow 41 = .ok (.iaload, 1) := by decide +kernel
theorem dX2_layRow_42 : decode cX2_layRow 42 = .ok (.invokevirtual 49, 3) := by decide +kernel
theorem dX2_layRow_45 : decode cX2_layRow 45 = .ok (.iinc 3 1, 3) := by decide +kernel
theorem dX2_layRow_48 : decode cX2_layRow 48 = .ok (.goto (-16), 3) := by decide +kernel
theorem dX2_layRow_51 : decode cX2_layRow 51 = .ok (.return_, 1) := by decide +kernel
theorem dX2_add_0 : decode cX2_add 0 = .ok (.aload_n 0, 1) := by decide +kernel
theorem dX2_add_1 : decode cX2_add 1 = .ok (.getfield 15, 3) := by decide +kernel
theorem dX2_add_4 : decode cX2_add 4 = .ok (.iload_n 2, 1) := by decide +kernel
theorem dX2_add_5 : decode cX2_add 5 = .ok (.dup2, 1) := by decide +kernel
theorem dX2_add_6 : decode cX2_add 6 = .ok (.iaload, 1) := by decide +kernel
theorem dX2_add_7 : decode cX2_add 7 = .ok (.aload_n 0, 1) := by decide +kernel
theorem dX2_add_8 : decode cX2_add 8 = .ok (.getfield 9, 3) := by decide +kernel
theorem dX2_add_11 : decode cX2_add 11 = .ok (.iload_n 1, 1) := by decide +kernel
theorem dX2_add_12 : decode cX2_add 12 = .ok (.iaload, 1) := by decide +kernel
theorem dX2_add_13 : decode cX2_add 13 = .ok (.iand, 1) := by decide +kernel
theorem dX2_add_14 : decode cX2_add 14 = .ok (.iastore, 1) := by decide +kernel
theorem dX2_add_15 : decode cX2_add 15 = .ok (.aload_n 0, 1) := by decide +kernel
theorem dX2_add_16 : decode cX2_add 16 = .ok (.getfield 18, 3) := by decide +kernel
theorem dX2_add_19 : decode cX2_add 19 = .ok (.iload_n 2, 1) := by decide +kernel
theorem dX2_add_20 : decode cX2_add 20 = .ok (.dup2, 1) := by decide +kernel
theorem dX2_add_21 : decode cX2_add 21 = .ok (.iaload, 1) := by decide +kernel
theorem dX2_add_22 : decode cX2_add 22 = .ok (.iconst 1, 1) := by decide +kernel
theorem dX2_add_23 : decode cX2_add 23 = .ok (.iadd, 1) := by decide +kernel
theorem dX2_add_24 : decode cX2_add 24 = .ok (.iastore, 1) := by decide +kernel
theorem dX2_add_25 : decode cX2_add 25 = .ok (.return_, 1) := by decide +kernel
theorem dX2_fill_0 : decode cX2_fill 0 = .ok (.iload_n 1, 1) := by decide +kernel
theorem dX2_fill_1 : decode cX2_fill 1 = .ok (.ifCond .ne 5, 3) := by decide +kernel
theorem dX2_fill_4 : decode cX2_fill 4 = .ok (.iconst 1, 1) := by decide +kernel
theorem dX2_fill_5 : decode cX2_fill 5 = .ok (.ireturn, 1) := by decide +kernel
theorem dX2_fill_6 : decode cX2_fill 6 = .ok (.iload_n 3, 1) := by decide +kernel
theorem dX2_fill_7 : decode cX2_fill 7 = .ok (.bipush 24, 2) := by decide +kernel
theorem dX2_fill_9 : decode cX2_fill 9 = .ok (.if_icmp .gt 12, 3) := by decide +kernel
theorem dX2_fill_12 : decode cX2_fill 12 = .ok (.aload_n 0, 1) := by decide +kernel
theorem dX2_fill_13 : decode cX2_fill 13 = .ok (.iload_n 1, 1) := by decide +kernel
theorem dX2_fill_14 : decode cX2_fill 14 = .ok (.iload_n 2, 1) := by decide +kernel
theorem dX2_fill_15 : decode cX2_fill 15 = .ok (.invokevirtual 53, 3) := by decide +kernel
theorem dX2_fill_18 : decode cX2_fill 18 = .ok (.ifCond .ne 5, 3) := by decide +kernel
theorem dX2_fill_21 : decode cX2_fill 21 = .ok (.iconst 0, 1) := by decide +kernel
theorem dX2_fill_22 : decode cX2_fill 22 = .ok (.ireturn, 1) := by decide +kernel
theorem dX2_fill_23 : decode cX2_fill 23 = .ok (.iconst 0, 1) := by decide +kernel
theorem dX2_fill_24 : decode cX2_fill 24 = .ok (.istore 4, 2) := by decide +kernel
theorem dX2_fill_26 : decode cX2_fill 26 = .ok (.iconst 0, 1) := by decide +kernel
theorem dX2_fill_27 : decode cX2_fill 27 = .ok (.istore 5, 2) := by decide +kernel
theorem dX2_fill_29 : decode cX2_fill 29 = .ok (.iconst 0, 1) := by decide +kernel
theorem dX2_fill_30 : decode cX2_fill 30 = .ok (.istore 6, 2) := by decide +kernel
theorem dX2_fill_32 : decode cX2_fill 32 = .ok (.iload 6, 2) := by decide +kernel
theorem dX2_fill_34 : decode cX2_fill 34 = .ok (.iload_n 2, 1) := by decide +kernel
theorem dX2_fill_35 : decode cX2_fill 35 = .ok (.if_icmp .ge 36, 3) := by decide +kernel
theorem dX2_fill_38 : decode cX2_fill 38 = .ok (.iload 5, 2) := by decide +kernel
theorem dX2_fill_40 : decode cX2_fill 40 = .ok (.iload 4, 2) := by decide +kernel
theorem dX2_fill_42 : decode cX2_fill 42 = .ok (.aload_n 0, 1) := by decide +kernel
theorem dX2_fill_43 : decode cX2_fill 43 = .ok (.getfield 15, 3) := by decide +kernel
theorem dX2_fill_46 : decode cX2_fill 46 = .ok (.iload 6, 2) := by decide +kernel
theorem dX2_fill_48 : decode cX2_fill 48 = .ok (.iaload, 1) := by decide +kernel
theorem dX2_fill_49 : decode cX2_fill 49 = .ok (.iand, 1) := by decide +kernel
theorem dX2_fill_50 : decode cX2_fill 50 = .ok (.ior, 1) := by decide +kernel
theorem dX2_fill_51 : decode cX2_fill 51 = .ok (.istore 5, 2) := by decide +kernel
theorem dX2_fill_53 : decode cX2_fill 53 = .ok (.iload 4, 2) := by decide +kernel
theorem dX2_fill_55 : decode cX2_fill 55 = .ok (.aload_n 0, 1) := by decide +kernel
theorem dX2_fill_56 : decode cX2_fill 56 = .ok (.getfield 15, 3) := by decide +kernel
theorem dX2_fill_59 : decode cX2_fill 59 = .ok (.iload 6, 2) := by decide +kernel
theorem dX2_fill_61 : decode cX2_fill 61 = .ok (.iaload, 1) := by decide +kernel
theorem dX2_fill_62 : decode cX2_fill 62 = .ok (.ior, 1) := by decide +kernel
theorem dX2_fill_63 : decode cX2_fill 63 = .ok (.istore 4, 2) := by decide +kernel
theorem dX2_fill_65 : decode cX2_fill 65 = .ok (.iinc 6 1, 3) := by decide +kernel
theorem dX2_fill_68 : decode cX2_fill 68 = .ok (.goto (-36), 3) := by decide +kernel
theorem dX2_fill_71 : decode cX2_fill 71 = .ok (.iload_n 1, 1) := by decide +kernel
theorem dX2_fill_72 : decode cX2_fill 72 = .ok (.iload 4, 2) := by decide +kernel
theorem dX2_fill_74 : decode cX2_fill 74 = .ok (.iconst (-1), 1) := by decide +kernel
theorem dX2_fill_75 : decode cX2_fill 75 = .ok (.ixor, 1) := by decide +kernel
theorem dX2_fill_76 : decode cX2_fill 76 = .ok (.iand, 1) := by decide +kernel
theorem dX2_fill_77 : decode cX2_fill 77 = .ok (.istore 6, 2) := by decide +kernel
theorem dX2_fill_79 : decode cX2_fill 79 = .ok (.iload_n 1, 1) := by decide +kernel
theorem dX2_fill_80 : decode cX2_fill 80 = .ok (.iload 5, 2) := by decide +kernel
theorem dX2_fill_82 : decode cX2_fill 82 = .ok (.iconst (-1), 1) := by decide +kernel
theorem dX2_fill_83 : decode cX2_fill 83 = .ok (.ixor, 1) := by decide +kernel
theorem dX2_fill_84 : decode cX2_fill 84 = .ok (.iand, 1) := by decide +kernel
theorem dX2_fill_85 : decode cX2_fill 85 = .ok (.istore 7, 2) := by decide +kernel
theorem dX2_fill_87 : decode cX2_fill 87 = .ok (.aload_n 0, 1) := by decide +kernel
theorem dX2_fill_88 : decode cX2_fill 88 = .ok (.iload 6, 2) := by decide +kernel
theorem dX2_fill_90 : decode cX2_fill 90 = .ok (.ifCond .eq 8, 3) := by decide +kernel
theorem dX2_fill_93 : decode cX2_fill 93 = .ok (.iload 6, 2) := by decide +kernel
theorem dX2_fill_95 : decode cX2_fill 95 = .ok (.goto 14, 3) := by decide +kernel
theorem dX2_fill_98 : decode cX2_fill 98 = .ok (.iload 7, 2) := by decide +kernel
theorem dX2_fill_100 : decode cX2_fill 100 = .ok (.ifCond .eq 8, 3) := by decide +kernel
theorem dX2_fill_103 : decode cX2_fill 103 = .ok (.iload 7, 2) := by decide +kernel
theorem dX2_fill_105 : decode cX2_fill 105 = .ok (.goto 4, 3) := by decide +kernel
theorem dX2_fill_108 : decode cX2_fill 108 = .ok (.iload_n 1, 1) := by decide +kernel
theorem dX2_fill_109 : decode cX2_fill 109 = .ok (.iload_n 1, 1) := by decide +kernel
theorem dX2_fill_110 : decode cX2_fill 110 = .ok (.invokevirtual 57, 3) := by decide +kernel
theorem dX2_fill_113 : decode cX2_fill 113 = .ok (.istore 8, 2) := by decide +kernel
theorem dX2_fill_115 : decode cX2_fill 115 = .ok (.iload_n 1, 1) := by decide +kernel
theorem dX2_fill_116 : decode cX2_fill 116 = .ok (.iconst 1, 1) := by decide +kernel
theorem dX2_fill_117 : decode cX2_fill 117 = .ok (.iload 8, 2) := by decide +kernel
theorem dX2_fill_119 : decode cX2_fill 119 = .ok (.ishl, 1) := by decide +kernel
theorem dX2_fill_120 : decode cX2_fill 120 = .ok (.iconst (-1), 1) := by decide +kernel
theorem dX2_fill_121 : decode cX2_fill 121 = .ok (.ixor, 1) := by decide +kernel
theorem dX2_fill_122 : decode cX2_fill 122 = .ok (.iand, 1) := by decide +kernel
theorem dX2_fill_123 : decode cX2_fill 123 = .ok (.istore 9, 2) := by decide +kernel
theorem dX2_fill_125 : decode cX2_fill 125 = .ok (.iconst 0, 1) := by decide +kernel
theorem dX2_fill_126 : decode cX2_fill 126 = .ok (.istore 10, 2) := by decide +kernel
theorem dX2_fill_128 : decode cX2_fill 128 = .ok (.iload 10, 2) := by decide +kernel
theorem dX2_fill_130 : decode cX2_fill 130 = .ok (.iload_n 2, 1) := by decide +kernel
theorem dX2_fill_131 : decode cX2_fill 131 = .ok (.if_icmp .ge 71, 3) := by decide +kernel
theorem dX2_fill_134 : decode cX2_fill 134 = .ok (.aload_n 0, 1) := by decide +kernel
theorem dX2_fill_135 : decode cX2_fill 135 = .ok (.getfield 15, 3) := by decide +kernel
theorem dX2_fill_138 : decode cX2_fill 138 = .ok (.iload 10, 2) := by decide +kernel
theorem dX2_fill_140 : decode cX2_fill 140 = .ok (.iaload, 1) := by decide +kernel
theorem dX2_fill_141 : decode cX2_fill 141 = .ok (.istore 11, 2) := by decide +kernel
theorem dX2_fill_143 : decode cX2_fill 143 = .ok (.iload 11, 2) := by decide +kernel
theorem dX2_fill_145 : decode cX2_fill 145 = .ok (.iload 8, 2) := by decide +kernel
theorem dX2_fill_147 : decode cX2_fill 147 = .ok (.iushr, 1) := by decide +kernel
theorem dX2_fill_148 : decode cX2_fill 148 = .ok (.iconst 1, 1) := by decide +kernel
theorem dX2_fill_149 : decode cX2_fill 149 = .ok (.iand, 1) := by decide +kernel
theorem dX2_fill_150 : decode cX2_fill 150 = .ok (.ifCond .eq 46, 3) := by decide +kernel
theorem dX2_fill_153 : decode cX2_fill 153 = .ok (.aload_n 0, 1) := by decide +kernel
theorem dX2_fill_154 : decode cX2_fill 154 = .ok (.iload 8, 2) := by decide +kernel
theorem dX2_fill_156 : decode cX2_fill 156 = .ok (.iload 10, 2) := by decide +kernel
theorem dX2_fill_158 : decode cX2_fill 158 = .ok (.invokevirtual 49, 3) := by decide +kernel
theorem dX2_fill_161 : decode cX2_fill 161 = .ok (.aload_n 0, 1) := by decide +kernel
theorem dX2_fill_162 : decode cX2_fill 162 = .ok (.iload 9, 2) := by decide +kernel
theorem dX2_fill_164 : decode cX2_fill 164 = .ok (.iload_n 2, 1) := by decide +kernel
theorem dX2_fill_165 : decode cX2_fill 165 = .ok (.iload_n 3, 1) := by decide +kernel
theorem dX2_fill_166 : decode cX2_fill 166 = .ok (.iconst 1, 1) := by decide +kernel
theorem dX2_fill_167 : decode cX2_fill 167 = .ok (.iadd, 1) := by decide +kernel
theorem dX2_fill_168 : decode cX2_fill 168 = .ok (.invokevirtual 41, 3) := by decide +kernel
theorem dX2_fill_171 : decode cX2_fill 171 = .ok (.ifCond .eq 5, 3) := by decide +kernel
theorem dX2_fill_174 : decode cX2_fill 174 = .ok (.iconst 1, 1) := by decide +kernel
theorem dX2_fill_175 : decode cX2_fill 175 = .ok (.ireturn, 1) := by decide +kernel
theorem dX2_fill_176 : decode cX2_fill 176 = .ok (.aload_n 0, 1) := by decide +kernel
theorem dX2_fill_177 : decode cX2_fill 177 = .ok (.getfield 15, 3) := by decide +kernel
theorem dX2_fill_180 : decode cX2_fill 180 = .ok (.iload 10, 2) := by decide +kernel
theorem dX2_fill_182 : decode cX2_fill 182 = .ok (.iload 11, 2) := by decide +kernel
theorem dX2_fill_184 : decode cX2_fill 184 = .ok (.iastore, 1) := by decide +kernel
theorem dX2_fill_185 : decode cX2_fill 185 = .ok (.aload_n 0, 1) := by decide +kernel
theorem dX2_fill_186 : decode cX2_fill 186 = .ok (.getfield 18, 3) := by decide +kernel
theorem dX2_fill_189 : decode cX2_fill 189 = .ok (.iload 10, 2) := by decide +kernel
theorem dX2_fill_191 : decode cX2_fill 191 = .ok (.dup2, 1) := by decide +kernel
theorem dX2_fill_192 : decode cX2_fill 192 = .ok (.iaload, 1) := by decide +kernel
theorem dX2_fill_193 : decode cX2_fill 193 = .ok (.iconst 1, 1) := by decide +kernel
theorem dX2_fill_194 : decode cX2_fill 194 = .ok (.isub, 1) := by decide +kernel
theorem dX2_fill_195 : decode cX2_fill 195 = .ok (.iastore, 1) := by decide +kernel
theorem dX2_fill_196 : decode cX2_fill 196 = .ok (.iinc 10 1, 3) := by decide +kernel
theorem dX2_fill_199 : decode cX2_fill 199 = .ok (.goto (-71), 3) := by decide +kernel
theorem dX2_fill_202 : decode cX2_fill 202 = .ok (.iload_n 2, 1) := by decide +kernel
theorem dX2_fill_203 : decode cX2_fill 203 = .ok (.aload_n 0, 1) := by decide +kernel
theorem dX2_fill_204 : decode cX2_fill 204 = .ok (.getfield 25, 3) := by decide +kernel
theorem dX2_fill_207 : decode cX2_fill 207 = .ok (.if_icmp .lt 5, 3) := by decide +kernel
theorem dX2_fill_210 : decode cX2_fill 210 = .ok (.iconst 0, 1) := by decide +kernel
theorem dX2_fill_211 : decode cX2_fill 211 = .ok (.ireturn, 1) := by decide +kernel
theorem dX2_fill_212 : decode cX2_fill 212 = .ok (.aload_n 0, 1) := by decide +kernel
theorem dX2_fill_213 : decode cX2_fill 213 = .ok (.getfield 15, 3) := by decide +kernel
theorem dX2_fill_216 : decode cX2_fill 216 = .ok (.iload_n 2, 1) := by decide +kernel
theorem dX2_fill_217 : decode cX2_fill 217 = .ok (.aload_n 0, 1) := by decide +kernel
theorem dX2_fill_218 : decode cX2_fill 218 = .ok (.getfield 9, 3) := by decide +kernel
theorem dX2_fill_221 : decode cX2_fill 221 = .ok (.iload 8, 2) := by decide +kernel
theorem dX2_fill_223 : decode cX2_fill 223 = .ok (.iaload, 1) := by decide +kernel
theorem dX2_fill_224 : decode cX2_fill 224 = .ok (.iastore, 1) := by decide +kernel
theorem dX2_fill_225 : decode cX2_fill 225 = .ok (.aload_n 0, 1) := by decide +kernel
theorem dX2_fill_226 : decode cX2_fill 226 = .ok (.getfield 18, 3) := by decide +kernel
theorem dX2_fill_229 : decode cX2_fill 229 = .ok (.iload_n 2, 1) := by decide +kernel
theorem dX2_fill_230 : decode cX2_fill 230 = .ok (.iconst 1, 1) := by decide +kernel
theorem dX2_fill_231 : decode cX2_fill 231 = .ok (.iastore, 1) := by decide +kernel
theorem dX2_fill_232 : decode cX2_fill 232 = .ok (.aload_n 0, 1) := by decide +kernel
theorem dX2_fill_233 : decode cX2_fill 233 = .ok (.iload 9, 2) := by decide +kernel
theorem dX2_fill_235 : decode cX2_fill 235 = .ok (.iload_n 2, 1) := by decide +kernel
theorem dX2_fill_236 : decode cX2_fill 236 = .ok (.iconst 1, 1) := by decide +kernel
theorem dX2_fill_237 : decode cX2_fill 237 = .ok (.iadd, 1) := by decide +kernel
theorem dX2_fill_238 : decode cX2_fill 238 = .ok (.iload_n 3, 1) := by decide +kernel
theorem dX2_fill_239 : decode cX2_fill 239 = .ok (.iconst 1, 1) := by decide +kernel
theorem dX2_fill_240 : decode cX2_fill 240 = .ok (.iadd, 1) := by decide +kernel
theorem dX2_fill_241 : decode cX2_fill 241 = .ok (.invokevirtual 41, 3) := by decide +kernel
theorem dX2_fill_244 : decode cX2_fill 244 = .ok (.ireturn, 1) := by decide +kernel
theorem dX2_hasRoom_0 : decode cX2_hasRoom 0 = .ok (.aload_n 0, 1) := by decide +kernel
theorem dX2_hasRoom_1 : decode cX2_hasRoom 1 = .ok (.getfield 25, 3) := by decide +kernel
theorem dX2_hasRoom_4 : decode cX2_hasRoom 4 = .ok (.iload_n 2, 1) := by decide +kernel
theorem dX2_hasRoom_5 : decode cX2_hasRoom 5 = .ok (.isub, 1) := by decide +kernel
theorem dX2_hasRoom_6 : decode cX2_hasRoom 6 = .ok (.aload_n 0, 1) := by decide +kernel
theorem dX2_hasRoom_7 : decode cX2_hasRoom 7 = .ok (.getfield 28, 3) := by decide +kernel
theorem dX2_hasRoom_10 : decode cX2_hasRoom 10 = .ok (.imul, 1) := by decide +kernel
theorem dX2_hasRoom_11 : decode cX2_hasRoom 11 = .ok (.istore_n 3, 1) := by decide +kernel
theorem dX2_hasRoom_12 : decode cX2_hasRoom 12 = .ok (.iconst 0, 1) := by decide +kernel
theorem dX2_hasRoom_13 : decode cX2_hasRoom 13 = .ok (.istore 4, 2) := by decide +kernel
theorem dX2_hasRoom_15 : decode cX2_hasRoom 15 = .ok (.iload 4, 2) := by decide +kernel
theorem dX2_hasRoom_17 : decode cX2_hasRoom 17 = .ok (.iload_n 2, 1) := by decide +kernel
theorem dX2_hasRoom_18 : decode cX2_hasRoom 18 = .ok (.if_icmp .ge 39, 3) := by decide +kernel
theorem dX2_hasRoom_21 : decode cX2_hasRoom 21 = .ok (.iload_n 3, 1) := by decide +kernel
theorem dX2_hasRoom_22 : decode cX2_hasRoom 22 = .ok (.aload_n 0, 1) := by decide +kernel
theorem dX2_hasRoom_23 : decode cX2_hasRoom 23 = .ok (.getfield 28, 3) := by decide +kernel
theorem dX2_hasRoom_26 : decode cX2_hasRoom 26 = .ok (.aload_n 0, 1) := by decide +kernel
theorem dX2_hasRoom_27 : decode cX2_hasRoom 27 = .ok (.getfield 18, 3) := by decide +kernel
theorem dX2_hasRoom_30 : decode cX2_hasRoom 30 = .ok (.iload 4, 2) := by decide +kernel
theorem dX2_hasRoom_32 : decode cX2_hasRoom 32 = .ok (.iaload, 1) := by decide +kernel
theorem dX2_hasRoom_33 : decode cX2_hasRoom 33 = .ok (.isub, 1) := by decide +kernel
theorem dX2_hasRoom_34 : decode cX2_hasRoom 34 = .ok (.aload_n 0, 1) := by decide +kernel
theorem dX2_hasRoom_35 : decode cX2_hasRoom 35 = .ok (.getfield 15, 3) := by decide +kernel
theorem dX2_hasRoom_38 : decode cX2_hasRoom 38 = .ok (.iload 4, 2) := by decide +kernel
theorem dX2_hasRoom_40 : decode cX2_hasRoom 40 = .ok (.iaload, 1) := by decide +kernel
theorem dX2_hasRoom_41 : decode cX2_hasRoom 41 = .ok (.iload_n 1, 1) := by decide +kernel
theorem dX2_hasRoom_42 : decode cX2_hasRoom 42 = .ok (.iand, 1) := by decide +kernel
theorem dX2_hasRoom_43 : decode cX2_hasRoom 43 = .ok (.invokestatic 60, 3) := by decide +kernel
theorem dX2_hasRoom_46 : decode cX2_hasRoom 46 = .ok (.invokestatic 66, 3) := by decide +kernel
theorem dX2_hasRoom_49 : decode cX2_hasRoom 49 = .ok (.iadd, 1) := by decide +kernel
theorem dX2_hasRoom_50 : decode cX2_hasRoom 50 = .ok (.istore_n 3, 1) := by decide +kernel
theorem dX2_hasRoom_51 : decode cX2_hasRoom 51 = .ok (.iinc 4 1, 3) := by decide +kernel
theorem dX2_hasRoom_54 : decode cX2_hasRoom 54 = .ok (.goto (-39), 3) := by decide +kernel
theorem dX2_hasRoom_57 : decode cX2_hasRoom 57 = .ok (.iload_n 3, 1) := by decide +kernel
theorem dX2_hasRoom_58 : decode cX2_hasRoom 58 = .ok (.iload_n 1, 1) := by decide +kernel
theorem dX2_hasRoom_59 : decode cX2_hasRoom 59 = .ok (.invokestatic 60, 3) := by decide +kernel
theorem dX2_hasRoom_62 : decode cX2_hasRoom 62 = .ok (.if_icmp .lt 7, 3) := by decide +kernel
theorem dX2_hasRoom_65 : decode cX2_hasRoom 65 = .ok (.iconst 1, 1) := by decide +kernel
theorem dX2_hasRoom_66 : decode cX2_hasRoom 66 = .ok (.goto 4, 3) := by decide +kernel
theorem dX2_hasRoom_69 : decode cX2_hasRoom 69 = .ok (.iconst 0, 1) := by decide +kernel
theorem dX2_hasRoom_70 : decode cX2_hasRoom 70 = .ok (.ireturn, 1) := by decide +kernel
theorem dX2_loneliest_0 : decode cX2_loneliest 0 = .ok (.iconst 0, 1) := by decide +kernel
theorem dX2_loneliest_1 : decode cX2_loneliest 1 = .ok (.istore_n 3, 1) := by decide +kernel
theorem dX2_loneliest_2 : decode cX2_loneliest 2 = .ok (.bipush 25, 2) := by decide +kernel
theorem dX2_loneliest_4 : decode cX2_loneliest 4 = .ok (.istore 4, 2) := by decide +kernel
theorem dX2_loneliest_6 : decode cX2_loneliest 6 = .ok (.iconst 0, 1) := by decide +kernel
theorem dX2_loneliest_7 : decode cX2_loneliest 7 = .ok (.istore 5, 2) := by decide +kernel
theorem dX2_loneliest_9 : decode cX2_loneliest 9 = .ok (.iload 5, 2) := by decide +kernel
theorem dX2_loneliest_11 : decode cX2_loneliest 11 = .ok (.aload_n 0, 1) := by decide +kernel
theorem dX2_loneliest_12 : decode cX2_loneliest 12 = .ok (.getfield 21, 3) := by decide +kernel
theorem dX2_loneliest_15 : decode cX2_loneliest 15 = .ok (.if_icmp .ge 46, 3) := by decide +kernel
theorem dX2_loneliest_18 : decode cX2_loneliest 18 = .ok (.iload_n 1, 1) := by decide +kernel
theorem dX2_loneliest_19 : decode cX2_loneliest 19 = .ok (.iload 5, 2) := by decide +kernel
theorem dX2_loneliest_21 : decode cX2_loneliest 21 = .ok (.iushr, 1) := by decide +kernel
theorem dX2_loneliest_22 : decode cX2_loneliest 22 = .ok (.iconst 1, 1) := by decide +kernel
theorem dX2_loneliest_23 : decode cX2_loneliest 23 = .ok (.iand, 1) := by decide +kernel
theorem dX2_loneliest_24 : decode cX2_loneliest 24 = .ok (.ifCond .eq 31, 3) := by decide +kernel
theorem dX2_loneliest_27 : decode cX2_loneliest 27 = .ok (.aload_n 0, 1) := by decide +kernel
theorem dX2_loneliest_28 : decode cX2_loneliest 28 = .ok (.getfield 9, 3) := by decide +kernel
theorem dX2_loneliest_31 : decode cX2_loneliest 31 = .ok (.iload 5, 2) := by decide +kernel
theorem dX2_loneliest_33 : decode cX2_loneliest 33 = .ok (.iaload, 1) := by decide +kernel
theorem dX2_loneliest_34 : decode cX2_loneliest 34 = .ok (.iload_n 2, 1) := by decide +kernel
theorem dX2_loneliest_35 : decode cX2_loneliest 35 = .ok (.iand, 1) := by decide +kernel
theorem dX2_loneliest_36 : decode cX2_loneliest 36 = .ok (.invokestatic 60, 3) := by decide +kernel
theorem dX2_loneliest_39 : decode cX2_loneliest 39 = .ok (.istore 6, 2) := by decide +kernel
theorem dX2_loneliest_41 : decode cX2_loneliest 41 = .ok (.iload 6, 2) := by decide +kernel
theorem dX2_loneliest_43 : decode cX2_loneliest 43 = .ok (.iload 4, 2) := by decide +kernel
theorem dX2_loneliest_45 : decode cX2_loneliest 45 = .ok (.if_icmp .ge 10, 3) := by decide +kernel
theorem dX2_loneliest_48 : decode cX2_loneliest 48 = .ok (.iload 6, 2) := by decide +kernel
theorem dX2_loneliest_50 : decode cX2_loneliest 50 = .ok (.istore 4, 2) := by decide +kernel
theorem dX2_loneliest_52 : decode cX2_loneliest 52 = .ok (.iload 5, 2) := by decide +kernel
theorem dX2_loneliest_54 : decode cX2_loneliest 54 = .ok (.istore_n 3, 1) := by decide +kernel
theorem dX2_loneliest_55 : decode cX2_loneliest 55 = .ok (.iinc 5 1, 3) := by decide +kernel
theorem dX2_loneliest_58 : decode cX2_loneliest 58 = .ok (.goto (-49), 3) := by decide +kernel
theorem dX2_loneliest_61 : decode cX2_loneliest 61 = .ok (.iload_n 3, 1) := by decide +kernel
theorem dX2_loneliest_62 : decode cX2_loneliest 62 = .ok (.ireturn, 1) := by decide +kernel
theorem dX3_init_0 : decode cX3_init 0 = .ok (.aload_n 0, 1) := by decide +kernel
theorem dX3_init_1 : decode cX3_init 1 = .ok (.invokespecial 3, 3) := by decide +kernel
theorem dX3_init_4 : decode cX3_init 4 = .ok (.aload_n 0, 1) := by decide +kernel
theorem dX3_init_5 : decode cX3_init 5 = .ok (.iconst 0, 1) := by decide +kernel
theorem dX3_init_6 : decode cX3_init 6 = .ok (.putfield 9, 3) := by decide +kernel
theorem dX3_init_9 : decode cX3_init 9 = .ok (.aload_n 0, 1) := by decide +kernel
theorem dX3_init_10 : decode cX3_init 10 = .ok (.iconst 1, 1) := by decide +kernel
theorem dX3_init_11 : decode cX3_init 11 = .ok (.putfield 15, 3) := by decide +kernel
theorem dX3_init_14 : decode cX3_init 14 = .ok (.aload_n 0, 1) := by decide +kernel
theorem dX3_init_15 : decode cX3_init 15 = .ok (.iconst 0, 1) := by decide +kernel
theorem dX3_init_16 : decode cX3_init 16 = .ok (.putfield 18, 3) := by decide +kernel
theorem dX3_init_19 : decode cX3_init 19 = .ok (.aload_n 0, 1) := by decide +kernel
theorem dX3_init_20 : decode cX3_init 20 = .ok (.bipush 24, 2) := by decide +kernel
theorem dX3_init_22 : decode cX3_init 22 = .ok (.newarray .int, 2) := by decide +kernel
theorem dX3_init_24 : decode cX3_init 24 = .ok (.putfield 21, 3) := by decide +kernel
theorem dX3_init_27 : decode cX3_init 27 = .ok (.aload_n 0, 1) := by decide +kernel
theorem dX3_init_28 : decode cX3_init 28 = .ok (.bipush 24, 2) := by decide +kernel
theorem dX3_init_30 : decode cX3_init 30 = .ok (.newarray .int, 2) := by decide +kernel
theorem dX3_init_32 : decode cX3_init 32 = .ok (.putfield 25, 3) := by decide +kernel
theorem dX3_init_35 : decode cX3_init 35 = .ok (.aload_n 0, 1) := by decide +kernel
theorem dX3_init_36 : decode cX3_init 36 = .ok (.bipush 25, 2) := by decide +kernel
theorem dX3_init_38 : decode cX3_init 38 = .ok (.bipush 6, 2) := by decide +kernel
theorem dX3_init_40 : decode cX3_init 40 = .ok (.multianewarray 28 2, 4) := by decide +kernel
theorem dX3_init_44 : decode cX3_init 44 = .ok (.putfield 30, 3) := by decide +kernel
theorem dX3_init_47 : decode cX3_init 47 = .ok (.return_, 1) := by decide +kernel
theorem dX3_renew_0 : decode cX3_renew 0 = .ok (.aload_n 0, 1) := by decide +kernel
theorem dX3_renew_1 : decode cX3_renew 1 = .ok (.iload_n 1, 1) := by decide +kernel
theorem dX3_renew_2 : decode cX3_renew 2 = .ok (.putfield 9, 3) := by decide +kernel
theorem dX3_renew_5 : decode cX3_renew 5 = .ok (.aload_n 0, 1) := by decide +kernel
theorem dX3_renew_6 : decode cX3_renew 6 = .ok (.iload_n 2, 1) := by decide +kernel
theorem dX3_renew_7 : decode cX3_renew 7 = .ok (.putfield 15, 3) := by decide +kernel
theorem dX3_renew_10 : decode cX3_renew 10 = .ok (.aload_n 0, 1) := by decide +kernel
theorem dX3_renew_11 : decode cX3_renew 11 = .ok (.dup, 1) := by decide +kernel
theorem dX3_renew_12 : decode cX3_renew 12 = .ok (.getfield 18, 3) := by decide +kernel
theorem dX3_renew_15 : decode cX3_renew 15 = .ok (.iconst 1, 1) := by decide +kernel
theorem dX3_renew_16 : decode cX3_renew 16 = .ok (.iadd, 1) := by decide +kernel
theorem dX3_renew_17 : decode cX3_renew 17 = .ok (.putfield 18, 3) := by decide +kernel
theorem dX3_renew_20 : decode cX3_renew 20 = .ok (.iconst 0, 1) := by decide +kernel
theorem dX3_renew_21 : decode cX3_renew 21 = .ok (.istore_n 3, 1) := by decide +kernel
theorem dX3_renew_22 : decode cX3_renew 22 = .ok (.iload_n 3, 1) := by decide +kernel
theorem dX3_renew_23 : decode cX3_renew 23 = .ok (.bipush 24, 2) := by decide +kernel
theorem dX3_renew_25 : decode cX3_renew 25 = .ok (.if_icmp .ge 23, 3) := by decide +kernel
theorem dX3_renew_28 : decode cX3_renew 28 = .ok (.aload_n 0, 1) := by decide +kernel
theorem dX3_renew_29 : decode cX3_renew 29 = .ok (.getfield 21, 3) := by decide +kernel
theorem dX3_renew_32 : decode cX3_renew 32 = .ok (.iload_n 3, 1) := by decide +kernel
theorem dX3_renew_33 : decode cX3_renew 33 = .ok (.iconst 0, 1) := by decide +kernel
theorem dX3_renew_34 : decode cX3_renew 34 = .ok (.iastore, 1) := by decide +kernel
theorem dX3_renew_35 : decode cX3_renew 35 = .ok (.aload_n 0, 1) := by decide +kernel
theorem dX3_renew_36 : decode cX3_renew 36 = .ok (.getfield 25, 3) := by decide +kernel
theorem dX3_renew_39 : decode cX3_renew 39 = .ok (.iload_n 3, 1) := by decide +kernel
theorem dX3_renew_40 : decode cX3_renew 40 = .ok (.iconst 0, 1) := by decide +kernel
theorem dX3_renew_41 : decode cX3_renew 41 = .ok (.iastore, 1) := by decide +kernel
theorem dX3_renew_42 : decode cX3_renew 42 = .ok (.iinc 3 1, 3) := by decide +kernel
theorem dX3_renew_45 : decode cX3_renew 45 = .ok (.goto (-23), 3) := by decide +kernel
theorem dX3_renew_48 : decode cX3_renew 48 = .ok (.aload_n 0, 1) := by decide +kernel
theorem dX3_renew_49 : decode cX3_renew 49 = .ok (.invokevirtual 33, 3) := by decide +kernel
theorem dX3_renew_52 : decode cX3_renew 52 = .ok (.return_, 1) := by decide +kernel
theorem dX3_clearRows_0 : decode cX3_clearRows 0 = .ok (.iconst 0, 1) := by decide +kernel
theorem dX3_clearRows_1 : decode cX3_clearRows 1 = .ok (.istore_n 1, 1) := by decide +kernel
theorem dX3_clearRows_2 : decode cX3_clearRows 2 = .ok (.iload_n 1, 1) := by decide +kernel
theorem dX3_clearRows_3 : decode cX3_clearRows 3 = .ok (.bipush 24, 2) := by decide +kernel
theorem dX3_clearRows_5 : decode cX3_clearRows 5 = .ok (.if_icmp .gt 32, 3) := by decide +kernel
theorem dX3_clearRows_8 : decode cX3_clearRows 8 = .ok (.iconst 0, 1) := by decide +kernel
theorem dX3_clearRows_9 : decode cX3_clearRows 9 = .ok (.istore_n 2, 1) := by decide +kernel
theorem dX3_clearRows_10 : decode cX3_clearRows 10 = .ok (.iload_n 2, 1) := by decide +kernel
theorem dX3_clearRows_11 : decode cX3_clearRows 11 = .ok (.bipush 6, 2) := by decide +kernel
theorem dX3_clearRows_13 : decode cX3_clearRows 13 = .ok (.if_icmp .ge 18, 3) := by decide +kernel
theorem dX3_clearRows_16 : decode cX3_clearRows 16 = .ok (.aload_n 0, 1) := by decide +kernel
theorem dX3_clearRows_17 : decode cX3_clearRows 17 = .ok (.getfield 30, 3) := by decide +kernel
theorem dX3_clearRows_20 : decode cX3_clearRows 20 = .ok (.iload_n 1, 1) := by decide +kernel
theorem dX3_clearRows_21 : decode cX3_clearRows 21 = .ok (.aaload, 1) := by decide +kernel
theorem dX3_clearRows_22 : decode cX3_clearRows 22 = .ok (.iload_n 2, 1) := by decide +kernel
theorem dX3_clearRows_23 : decode cX3_clearRows 23 = .ok (.iconst 0, 1) := by decide +kernel
theorem dX3_clearRows_24 : decode cX3_clearRows 24 = .ok (.iastore, 1) := by decide +kernel
theorem dX3_clearRows_25 : decode cX3_clearRows 25 = .ok (.iinc 2 1, 3) := by decide +kernel
theorem dX3_clearRows_28 : decode cX3_clearRows 28 = .ok (.goto (-18), 3) := by decide +kernel
theorem dX3_clearRows_31 : decode cX3_clearRows 31 = .ok (.iinc 1 1, 3) := by decide +kernel
theorem dX3_clearRows_34 : decode cX3_clearRows 34 = .ok (.goto (-32), 3) := by decide +kernel
theorem dX3_clearRows_37 : decode cX3_clearRows 37 = .ok (.return_, 1) := by decide +kernel
theorem dX3_takeNear_0 : decode cX3_takeNear 0 = .ok (.iconst 0, 1) := by decide +kernel
theorem dX3_takeNear_1 : decode cX3_takeNear 1 = .ok (.istore_n 2, 1) := by decide +kernel
theorem dX3_takeNear_2 : decode cX3_takeNear 2 = .ok (.iload_n 2, 1) := by decide +kernel
theorem dX3_takeNear_3 : decode cX3_takeNear 3 = .ok (.aload_n 0, 1) := by decide +kernel
theorem dX3_takeNear_4 : decode cX3_takeNear 4 = .ok (.getfield 15, 3) := by decide +kernel
theorem dX3_takeNear_7 : decode cX3_takeNear 7 = .ok (.if_icmp .ge 18, 3) := by decide +kernel
theorem dX3_takeNear_10 : decode cX3_takeNear 10 = .ok (.aload_n 0, 1) := by decide +kernel
theorem dX3_takeNear_11 : decode cX3_takeNear 11 = .ok (.getfield 21, 3) := by decide +kernel
theorem dX3_takeNear_14 : decode cX3_takeNear 14 = .ok (.iload_n 2, 1) := by decide +kernel
theorem dX3_takeNear_15 : decode cX3_takeNear 15 = .ok (.aload_n 1, 1) := by decide +kernel
theorem dX3_takeNear_16 : decode cX3_takeNear 16 = .ok (.iload_n 2, 1) := by decide +kernel
theorem dX3_takeNear_17 : decode cX3_takeNear 17 = .ok (.iaload, 1) := by decide +kernel
theorem dX3_takeNear_18 : decode cX3_takeNear 18 = .ok (.iastore, 1) := by decide +kernel
theorem dX3_takeNear_19 : decode cX3_takeNear 19 = .ok (.iinc 2 1, 3) := by decide +kernel
theorem dX3_takeNear_22 : decode cX3_takeNear 22 = .ok (.goto (-20), 3) := by decide +kernel
theorem dX3_takeNear_25 : decode cX3_takeNear 25 = .ok (.return_, 1) := by decide +kernel
theorem dX3_takeSigns_0 : decode cX3_takeSigns 0 = .ok (.iconst 0, 1) := by decide +kernel
theorem dX3_takeSigns_1 : decode cX3_takeSigns 1 = .ok (.istore_n 2, 1) := by decide +kernel
theorem dX3_takeSigns_2 : decode cX3_takeSigns 2 = .ok (.iload_n 2, 1) := by decide +kernel
theorem dX3_takeSigns_3 : decode cX3_takeSigns 3 = .ok (.aload_n 0, 1) := by decide +kernel
theorem dX3_takeSigns_4 : decode cX3_takeSigns 4 = .ok (.getfield 15, 3) := by decide +kernel
theorem dX3_takeSigns_7 : decode cX3_takeSigns 7 = .ok (.if_icmp .ge 53, 3) := by decide +kernel
theorem dX3_takeSigns_10 : decode cX3_takeSigns 10 = .ok (.aload_n 0, 1) := by decide +kernel
theorem dX3_takeSigns_11 : decode cX3_takeSigns 11 = .ok (.getfield 25, 3) := by decide +kernel
theorem dX3_takeSigns_14 : decode cX3_takeSigns 14 = .ok (.iload_n 2, 1) := by decide +kernel
theorem dX3_takeSigns_15 : decode cX3_takeSigns 15 = .ok (.aload_n 1, 1) := by decide +kernel
theorem dX3_takeSigns_16 : decode cX3_takeSigns 16 = .ok (.iload_n 2, 1) := by decide +kernel
theorem dX3_takeSigns_17 : decode cX3_takeSigns 17 = .ok (.iaload, 1) := by decide +kernel
theorem dX3_takeSigns_18 : decode cX3_takeSigns 18 = .ok (.iastore, 1) := by decide +kernel
theorem dX3_takeSigns_19 : decode cX3_takeSigns 19 = .ok (.iconst 0, 1) := by decide +kernel
theorem dX3_takeSigns_20 : decode cX3_takeSigns 20 = .ok (.istore_n 3, 1) := by decide +kernel
theorem dX3_takeSigns_21 : decode cX3_takeSigns 21 = .ok (.iload_n 3, 1) := by decide +kernel
theorem dX3_takeSigns_22 : decode cX3_takeSigns 22 = .ok (.iload_n 2, 1) := by decide +kernel
theorem dX3_takeSigns_23 : decode cX3_takeSigns 23 = .ok (.if_icmp .ge 31, 3) := by decide +kernel
theorem dX3_takeSigns_26 : decode cX3_takeSigns 26 = .ok (.aload_n 0, 1) := by decide +kernel
theorem dX3_takeSigns_27 : decode cX3_takeSigns 27 = .ok (.getfield 25, 3) := by decide +kernel
theorem dX3_takeSigns_30 : decode cX3_takeSigns 30 = .ok (.iload_n 2, 1) := by decide +kernel
theorem dX3_takeSigns_31 : decode cX3_takeSigns 31 = .ok (.iaload, 1) := by decide +kernel
theorem dX3_takeSigns_32 : decode cX3_takeSigns 32 = .ok (.aload_n 0, 1) := by decide +kernel
theorem dX3_takeSigns_33 : decode cX3_takeSigns 33 = .ok (.getfield 25, 3) := by decide +kernel
theorem dX3_takeSigns_36 : decode cX3_takeSigns 36 = .ok (.iload_n 3, 1) := by decide +kernel
theorem dX3_takeSigns_37 : decode cX3_takeSigns 37 = .ok (.iaload, 1) := by decide +kernel
theorem dX3_takeSigns_38 : decode cX3_takeSigns 38 = .ok (.iand, 1) := by decide +kernel
theorem dX3_takeSigns_39 : decode cX3_takeSigns 39 = .ok (.ifCond .eq 9, 3) := by decide +kernel
theorem dX3_takeSigns_42 : decode cX3_takeSigns 42 = .ok (.aload_n 0, 1) := by decide +kernel
theorem dX3_takeSigns_43 : decode cX3_takeSigns 43 = .ok (.iload_n 2, 1) := by decide +kernel
theorem dX3_takeSigns_44 : decode cX3_takeSigns 44 = .ok (.iload_n 3, 1) := by decide +kernel
theorem dX3_takeSigns_45 : decode cX3_takeSigns 45 = .ok (.invokevirtual 36, 3) := by decide +kernel
theorem dX3_takeSigns_48 : decode cX3_takeSigns 48 = .ok (.iinc 3 1, 3) := by decide +kernel
theorem dX3_takeSigns_51 : decode cX3_takeSigns 51 = .ok (.goto (-30), 3) := by decide +kernel
theorem dX3_takeSigns_54 : decode cX3_takeSigns 54 = .ok (.iinc 2 1, 3) := by decide +kernel
theorem dX3_takeSigns_57 : decode cX3_takeSigns 57 = .ok (.goto (-55), 3) := by decide +kernel
theorem dX3_takeSigns_60 : decode cX3_takeSigns 60 = .ok (.return_, 1) := by decide +kernel
theorem dX3_has_0 : decode cX3_has 0 = .ok (.iload_n 1, 1) := by decide +kernel
theorem dX3_has_1 : decode cX3_has 1 = .ok (.ifCond .lt 15, 3) := by decide +kernel
theorem dX3_has_4 : decode cX3_has 4 = .ok (.iload_n 1, 1) := by decide +kernel
theorem dX3_has_5 : decode cX3_has 5 = .ok (.aload_n 0, 1) := by decide +kernel
theorem dX3_has_6 : decode cX3_has 6 = .ok (.getfield 15, 3) := by decide +kernel
theorem dX3_has_9 : decode cX3_has 9 = .ok (.if_icmp .ge 7, 3) := by decide +kernel
theorem dX3_has_12 : decode cX3_has 12 = .ok (.iconst 1, 1) := by decide +kernel
theorem dX3_has_13 : decode cX3_has 13 = .ok (.goto 4, 3) := by decide +kernel
theorem dX3_has_16 : decode cX3_has 16 = .ok (.iconst 0, 1) := by decide +kernel
theorem dX3_has_17 : decode cX3_has 17 = .ok (.ireturn, 1) := by decide +kernel
theorem dX3_mistakes_0 : decode cX3_mistakes 0 = .ok (.aload_n 0, 1) := by decide +kernel
theorem dX3_mistakes_1 : decode cX3_mistakes 1 = .ok (.getfield 21, 3) := by decide +kernel
theorem dX3_mistakes_4 : decode cX3_mistakes 4 = .ok (.iload_n 1, 1) := by decide +kernel
theorem dX3_mistakes_5 : decode cX3_mistakes 5 = .ok (.iaload, 1) := by decide +kernel
theorem dX3_mistakes_6 : decode cX3_mistakes 6 = .ok (.iload_n 2, 1) := by decide +kernel
theorem dX3_mistakes_7 : decode cX3_mistakes 7 = .ok (.iushr, 1) := by decide +kernel
theorem dX3_mistakes_8 : decode cX3_mistakes 8 = .ok (.iconst 1, 1) := by decide +kernel
theorem dX3_mistakes_9 : decode cX3_mistakes 9 = .ok (.iand, 1) := by decide +kernel
theorem dX3_mistakes_10 : decode cX3_mistakes 10 = .ok (.ifCond .eq 7, 3) := by decide +kernel
theorem dX3_mistakes_13 : decode cX3_mistakes 13 = .ok (.iconst 1, 1) := by decide +kernel
theorem dX3_mistakes_14 : decode cX3_mistakes 14 = .ok (.goto 4, 3) := by decide +kernel
theorem dX3_mistakes_17 : decode cX3_mistakes 17 = .ok (.iconst 0, 1) := by decide +kernel
theorem dX3_mistakes_18 : decode cX3_mistakes 18 = .ok (.ireturn, 1) := by decide +kernel
theorem dX3_alike_0 : decode cX3_alike 0 = .ok (.iload_n 1, 1) := by decide +kernel
theorem dX3_alike_1 : decode cX3_alike 1 = .ok (.iload_n 2, 1) := by decide +kernel
theorem dX3_alike_2 : decode cX3_alike 2 = .ok (.if_icmp .eq 12, 3) := by decide +kernel
theorem dX3_alike_5 : decode cX3_alike 5 = .ok (.aload_n 0, 1) := by decide +kernel
theorem dX3_alike_6 : decode cX3_alike 6 = .ok (.iload_n 1, 1) := by decide +kernel
theorem dX3_alike_7 : decode cX3_alike 7 = .ok (.iload_n 2, 1) := by decide +kernel
theorem dX3_alike_8 : decode cX3_alike 8 = .ok (.invokevirtual 40, 3) := by decide +kernel
theorem dX3_alike_11 : decode cX3_alike 11 = .ok (.ifCond .eq 7, 3) := by decide +kernel
theorem dX3_alike_14 : decode cX3_alike 14 = .ok (.iconst 1, 1) := by decide +kernel
theorem dX3_alike_15 : decode cX3_alike 15 = .ok (.goto 4, 3) := by decide +kernel
theorem dX3_alike_18 : decode cX3_alike 18 = .ok (.iconst 0, 1) := by decide +kernel
theorem dX3_alike_19 : decode cX3_alike 19 = .ok (.ireturn, 1) := by decide +kernel
theorem dX3_flip_0 : decode cX3_flip 0 = .ok (.aload_n 0, 1) := by decide +kernel
theorem dX3_flip_1 : decode cX3_flip 1 = .ok (.getfield 21, 3) := by decide +kernel
theorem dX3_flip_4 : decode cX3_flip 4 = .ok (.iload_n 1, 1) := by decide +kernel
theorem dX3_flip_5 : decode cX3_flip 5 = .ok (.dup2, 1) := by decide +kernel
theorem dX3_flip_6 : decode cX3_flip 6 = .ok (.iaload, 1) := by decide +kernel
theorem dX3_flip_7 : decode cX3_flip 7 = .ok (.iconst 1, 1) := by decide +kernel
theorem dX3_flip_8 : decode cX3_flip 8 = .ok (.iload_n 2, 1) := by decide +kernel
theorem dX3_flip_9 : decode cX3_flip 9 = .ok (.ishl, 1) := by decide +kernel
theorem dX3_flip_10 : decode cX3_flip 10 = .ok (.ixor, 1) := by decide +kernel
theorem dX3_flip_11 : decode cX3_flip 11 = .ok (.iastore, 1) := by decide +kernel
theorem dX3_flip_12 : decode cX3_flip 12 = .ok (.aload_n 0, 1) := by decide +kernel
theorem dX3_flip_13 : decode cX3_flip 13 = .ok (.getfield 21, 3) := by decide +kernel
theorem dX3_flip_16 : decode cX3_flip 16 = .ok (.iload_n 2, 1) := by decide +kernel
theorem dX3_flip_17 : decode cX3_flip 17 = .ok (.dup2, 1) := by decide +kernel
theorem dX3_flip_18 : decode cX3_flip 18 = .ok (.iaload, 1) := by decide +kernel
theorem dX3_flip_19 : decode cX3_flip 19 = .ok (.iconst 1, 1) := by decide +kernel
theorem dX3_flip_20 : decode cX3_flip 20 = .ok (.iload_n 1, 1) := by decide +kernel
theorem dX3_flip_21 : decode cX3_flip 21 = .ok (.ishl, 1) := by decide +kernel
theorem dX3_flip_22 : decode cX3_flip 22 = .ok (.ixor, 1) := by decide +kernel
theorem dX3_flip_23 : decode cX3_flip 23 = .ok (.iastore, 1) := by decide +kernel
theorem dX3_flip_24 : decode cX3_flip 24 = .ok (.return_, 1) := by decide +kernel
theorem dX3_pairs_0 : decode cX3_pairs 0 = .ok (.iconst 0, 1) := by decide +kernel
theorem dX3_pairs_1 : decode cX3_pairs 1 = .ok (.istore_n 1, 1) := by decide +kernel
theorem dX3_pairs_2 : decode cX3_pairs 2 = .ok (.iconst 0, 1) := by decide +kernel
theorem dX3_pairs_3 : decode cX3_pairs 3 = .ok (.istore_n 2, 1) := by decide +kernel
theorem dX3_pairs_4 : decode cX3_pairs 4 = .ok (.iload_n 2, 1) := by decide +kernel
theorem dX3_pairs_5 : decode cX3_pairs 5 = .ok (.aload_n 0, 1) := by decide +kernel
theorem dX3_pairs_6 : decode cX3_pairs 6 = .ok (.getfield 15, 3) := by decide +kernel
theorem dX3_pairs_9 : decode cX3_pairs 9 = .ok (.if_icmp .ge 21, 3) := by decide +kernel
theorem dX3_pairs_12 : decode cX3_pairs 12 = .ok (.iload_n 1, 1) := by decide +kernel
theorem dX3_pairs_13 : decode cX3_pairs 13 = .ok (.aload_n 0, 1) := by decide +kernel
theorem dX3_pairs_14 : decode cX3_pairs 14 = .ok (.getfield 21, 3) := by decide +kernel
theorem dX3_pairs_17 : decode cX3_pairs 17 = .ok (.iload_n 2, 1) := by decide +kernel
theorem dX3_pairs_18 : decode cX3_pairs 18 = .ok (.iaload, 1) := by decide +kernel
theorem dX3_pairs_19 : decode cX3_pairs 19 = .ok (.invokestatic 44, 3) := by decide +kernel
theorem dX3_pairs_22 : decode cX3_pairs 22 = .ok (.iadd, 1) := by decide +kernel
theorem dX3_pairs_23 : decode cX3_pairs 23 = .ok (.istore_n 1, 1) := by decide +kernel
theorem dX3_pairs_24 : decode cX3_pairs 24 = .ok (.iinc 2 1, 3) := by decide +kernel
theorem dX3_pairs_27 : decode cX3_pairs 27 = .ok (.goto (-23), 3) := by decide +kernel
theorem dX3_pairs_30 : decode cX3_pairs 30 = .ok (.iload_n 1, 1) := by decide +kernel
theorem dX3_pairs_31 : decode cX3_pairs 31 = .ok (.iconst 2, 1) := by decide +kernel
theorem dX3_pairs_32 : decode cX3_pairs 32 = .ok (.idiv, 1) := by decide +kernel
theorem dX3_pairs_33 : decode cX3_pairs 33 = .ok (.ireturn, 1) := by decide +kernel
theorem dX3_signsInAll_0 : decode cX3_signsInAll 0 = .ok (.iconst 0, 1) := by decide +kernel
theorem dX3_signsInAll_1 : decode cX3_signsInAll 1 = .ok (.istore_n 1, 1) := by decide +kernel
theorem dX3_signsInAll_2 : decode cX3_signsInAll 2 = .ok (.iconst 0, 1) := by decide +kernel
theorem dX3_signsInAll_3 : decode cX3_signsInAll 3 = .ok (.istore_n 2, 1) := by decide +kernel
theorem dX3_signsInAll_4 : decode cX3_signsInAll 4 = .ok (.iload_n 2, 1) := by decide +kernel
theorem dX3_signsInAll_5 : decode cX3_signsInAll 5 = .ok (.aload_n 0, 1) := by decide +kernel
theorem dX3_signsInAll_6 : decode cX3_signsInAll 6 = .ok (.getfield 15, 3) := by decide +kernel
theorem dX3_signsInAll_9 : decode cX3_signsInAll 9 = .ok (.if_icmp .ge 18, 3) := by decide +kernel
theorem dX3_signsInAll_12 : decode cX3_signsInAll 12 = .ok (.iload_n 1, 1) := by decide +kernel
theorem dX3_signsInAll_13 : decode cX3_signsInAll 13 = .ok (.aload_n 0, 1) := by decide +kernel
theorem dX3_signsInAll_14 : decode cX3_signsInAll 14 = .ok (.getfield 25, 3) := by decide +kernel
theorem dX3_signsInAll_17 : decode cX3_signsInAll 17 = .ok (.iload_n 2, 1) := by decide +kernel
theorem dX3_signsInAll_18 : decode cX3_signsInAll 18 = .ok (.iaload, 1) := by decide +kernel
theorem dX3_signsInAll_19 : decode cX3_signsInAll 19 = .ok (.ior, 1) := by decide +kernel
theorem dX3_signsInAll_20 : decode cX3_signsInAll 20 = .ok (.istore_n 1, 1) := by decide +kernel
theorem dX3_signsInAll_21 : decode cX3_signsInAll 21 = .ok (.iinc 2 1, 3) := by decide +kernel
theorem dX3_signsInAll_24 : decode cX3_signsInAll 24 = .ok (.goto (-20), 3) := by decide +kernel
theorem dX3_signsInAll_27 : decode cX3_signsInAll 27 = .ok (.iload_n 1, 1) := by decide +kernel
theorem dX3_signsInAll_28 : decode cX3_signsInAll 28 = .ok (.invokestatic 44, 3) := by decide +kernel
theorem dX3_signsInAll_31 : decode cX3_signsInAll 31 = .ok (.ireturn, 1) := by decide +kernel
theorem dX4_init_0 : decode cX4_init 0 = .ok (.aload_n 0, 1) := by decide +kernel
theorem dX4_init_1 : decode cX4_init 1 = .ok (.invokespecial 5, 3) := by decide +kernel
theorem dX4_init_4 : decode cX4_init 4 = .ok (.aload_n 0, 1) := by decide +kernel
theorem dX4_init_5 : decode cX4_init 5 = .ok (.bipush 16, 2) := by decide +kernel
theorem dX4_init_7 : decode cX4_init 7 = .ok (.newarray .long, 2) := by decide +kernel
theorem dX4_init_9 : decode cX4_init 9 = .ok (.putfield 11, 3) := by decide +kernel
theorem dX4_init_12 : decode cX4_init 12 = .ok (.aload_n 0, 1) := by decide +kernel
theorem dX4_init_13 : decode cX4_init 13 = .ok (.bipush 16, 2) := by decide +kernel
theorem dX4_init_15 : decode cX4_init 15 = .ok (.newarray .long, 2) := by decide +kernel
theorem dX4_init_17 : decode cX4_init 17 = .ok (.putfield 15, 3) := by decide +kernel
theorem dX4_init_20 : decode cX4_init 20 = .ok (.aload_n 0, 1) := by decide +kernel
theorem dX4_init_21 : decode cX4_init 21 = .ok (.bipush 17, 2) := by decide +kernel
theorem dX4_init_23 : decode cX4_init 23 = .ok (.newarray .int, 2) := by decide +kernel
theorem dX4_init_25 : decode cX4_init 25 = .ok (.putfield 18, 3) := by decide +kernel
theorem dX4_init_28 : decode cX4_init 28 = .ok (.return_, 1) := by decide +kernel
theorem dX4_leastGreatest_0 : decode cX4_leastGreatest 0 = .ok (.aload_n 1, 1) := by decide +kernel
theorem dX4_leastGreatest_1 : decode cX4_leastGreatest 1 = .ok (.getfield 22, 3) := by decide +kernel
theorem dX4_leastGreatest_4 : decode cX4_leastGreatest 4 = .ok (.bipush 16, 2) := by decide +kernel
theorem dX4_leastGreatest_6 : decode cX4_leastGreatest 6 = .ok (.invokestatic 28, 3) := by decide +kernel
theorem dX4_leastGreatest_9 : decode cX4_leastGreatest 9 = .ok (.istore_n 3, 1) := by decide +kernel
theorem dX4_leastGreatest_10 : decode cX4_leastGreatest 10 = .ok (.iload_n 2, 1) := by decide +kernel
theorem dX4_leastGreatest_11 : decode cX4_leastGreatest 11 = .ok (.iload_n 3, 1) := by decide +kernel
theorem dX4_leastGreatest_12 : decode cX4_leastGreatest 12 = .ok (.if_icmp .lt 9, 3) := by decide +kernel
theorem dX4_leastGreatest_15 : decode cX4_leastGreatest 15 = .ok (.iconst 1, 1) := by decide +kernel
theorem dX4_leastGreatest_16 : decode cX4_leastGreatest 16 = .ok (.iload_n 3, 1) := by decide +kernel
theorem dX4_leastGreatest_17 : decode cX4_leastGreatest 17 = .ok (.ishl, 1) := by decide +kernel
theorem dX4_leastGreatest_18 : decode cX4_leastGreatest 18 = .ok (.iconst 1, 1) := by decide +kernel
theorem dX4_leastGreatest_19 : decode cX4_leastGreatest 19 = .ok (.isub, 1) := by decide +kernel
theorem dX4_leastGreatest_20 : decode cX4_leastGreatest 20 = .ok (.ireturn, 1) := by decide +kernel
theorem dX4_leastGreatest_21 : decode cX4_leastGreatest 21 = .ok (.ldc2_w 34, 3) := by decide +kernel
theorem dX4_leastGreatest_24 : decode cX4_leastGreatest 24 = .ok (.bipush 15, 2) := by decide +kernel
theorem dX4_leastGreatest_26 : decode cX4_leastGreatest 26 = .ok (.iload_n 2, 1) := by decide +kernel
theorem dX4_leastGreatest_27 : decode cX4_leastGreatest 27 = .ok (.isub, 1) := by decide +kernel
theorem dX4_leastGreatest_28 : decode cX4_leastGreatest 28 = .ok (.i2l, 1) := by decide +kernel
theorem dX4_leastGreatest_29 : decode cX4_leastGreatest 29 = .ok (.lmul, 1) := by decide +kernel
theorem dX4_leastGreatest_30 : decode cX4_leastGreatest 30 = .ok (.lstore 4, 2) := by decide +kernel
theorem dX4_leastGreatest_32 : decode cX4_leastGreatest 32 = .ok (.aload_n 0, 1) := by decide +kernel
theorem dX4_leastGreatest_33 : decode cX4_leastGreatest 33 = .ok (.getfield 18, 3) := by decide +kernel
theorem dX4_leastGreatest_36 : decode cX4_leastGreatest 36 = .ok (.iconst 0, 1) := by decide +kernel
theorem dX4_leastGreatest_37 : decode cX4_leastGreatest 37 = .ok (.iconst 0, 1) := by decide +kernel
theorem dX4_leastGreatest_38 : decode cX4_leastGreatest 38 = .ok (.iastore, 1) := by decide +kernel
theorem dX4_leastGreatest_39 : decode cX4_leastGreatest 39 = .ok (.iconst 0, 1) := by decide +kernel
theorem dX4_leastGreatest_40 : decode cX4_leastGreatest 40 = .ok (.istore 6, 2) := by decide +kernel
theorem dX4_leastGreatest_42 : decode cX4_leastGreatest 42 = .ok (.iload 6, 2) := by decide +kernel
theorem dX4_leastGreatest_44 : decode cX4_leastGreatest 44 = .ok (.iload_n 3, 1) := by decide +kernel
theorem dX4_leastGreatest_45 : decode cX4_leastGreatest 45 = .ok (.if_icmp .ge 122, 3) := by decide +kernel
theorem dX4_leastGreatest_48 : decode cX4_leastGreatest 48 = .ok (.aload_n 0, 1) := by decide +kernel
theorem dX4_leastGreatest_49 : decode cX4_leastGreatest 49 = .ok (.getfield 11, 3) := by decide +kernel
theorem dX4_leastGreatest_52 : decode cX4_leastGreatest 52 = .ok (.iload 6, 2) := by decide +kernel
theorem dX4_leastGreatest_54 : decode cX4_leastGreatest 54 = .ok (.aload_n 1, 1) := by decide +kernel
theorem dX4_leastGreatest_55 : decode cX4_leastGreatest 55 = .ok (.getfield 36, 3) := by decide +kernel
theorem dX4_leastGreatest_58 : decode cX4_leastGreatest 58 = .ok (.iload 6, 2) := by decide +kernel
theorem dX4_leastGreatest_60 : decode cX4_leastGreatest 60 = .ok (.iaload, 1) := by decide +kernel
theorem dX4_leastGreatest_61 : decode cX4_leastGreatest 61 = .ok (.invokestatic 39, 3) := by decide +kernel
theorem dX4_leastGreatest_64 : decode cX4_leastGreatest 64 = .ok (.lastore, 1) := by decide +kernel
theorem dX4_leastGreatest_65 : decode cX4_leastGreatest 65 = .ok (.aload_n 0, 1) := by decide +kernel
theorem dX4_leastGreatest_66 : decode cX4_leastGreatest 66 = .ok (.getfield 15, 3) := by decide +kernel
theorem dX4_leastGreatest_69 : decode cX4_leastGreatest 69 = .ok (.iload 6, 2) := by decide +kernel
theorem dX4_leastGreatest_71 : decode cX4_leastGreatest 71 = .ok (.aload_n 1, 1) := by decide +kernel
theorem dX4_leastGreatest_72 : decode cX4_leastGreatest 72 = .ok (.getfield 36, 3) := by decide +kernel
theorem dX4_leastGreatest_75 : decode cX4_leastGreatest 75 = .ok (.iload 6, 2) := by decide +kernel
theorem dX4_leastGreatest_77 : decode cX4_leastGreatest 77 = .ok (.iaload, 1) := by decide +kernel
theorem dX4_leastGreatest_78 : decode cX4_leastGreatest 78 = .ok (.bipush 12, 2) := by decide +kernel
theorem dX4_leastGreatest_80 : decode cX4_leastGreatest 80 = .ok (.iushr, 1) := by decide +kernel
theorem dX4_leastGreatest_81 : decode cX4_leastGreatest 81 = .ok (.invokestatic 39, 3) := by decide +kernel
theorem dX4_leastGreatest_84 : decode cX4_leastGreatest 84 = .ok (.lastore, 1) := by decide +kernel
theorem dX4_leastGreatest_85 : decode cX4_leastGreatest 85 = .ok (.aload_n 0, 1) := by decide +kernel
theorem dX4_leastGreatest_86 : decode cX4_leastGreatest 86 = .ok (.iload 6, 2) := by decide +kernel
theorem dX4_leastGreatest_88 : decode cX4_leastGreatest 88 = .ok (.lload 4, 2) := by decide +kernel
theorem dX4_leastGreatest_90 : decode cX4_leastGreatest 90 = .ok (.aload_n 0, 1) := by decide +kernel
theorem dX4_leastGreatest_91 : decode cX4_leastGreatest 91 = .ok (.getfield 11, 3) := by decide +kernel
theorem dX4_leastGreatest_94 : decode cX4_leastGreatest 94 = .ok (.iload 6, 2) := by decide +kernel
theorem dX4_leastGreatest_96 : decode cX4_leastGreatest 96 = .ok (.laload, 1) := by decide +kernel
theorem dX4_leastGreatest_97 : decode cX4_leastGreatest 97 = .ok (.ladd, 1) := by decide +kernel
theorem dX4_leastGreatest_98 : decode cX4_leastGreatest 98 = .ok (.lload 4, 2) := by decide +kernel
theorem dX4_leastGreatest_100 : decode cX4_leastGreatest 100 = .ok (.aload_n 0, 1) := by decide +kernel
theorem dX4_leastGreatest_101 : decode cX4_leastGreatest 101 = .ok (.getfield 15, 3) := by decide +kernel
theorem dX4_leastGreatest_104 : decode cX4_leastGreatest 104 = .ok (.iload 6, 2) := by decide +kernel
theorem dX4_leastGreatest_106 : decode cX4_leastGreatest 106 = .ok (.laload, 1) := by decide +kernel
theorem dX4_leastGreatest_107 : decode cX4_leastGreatest 107 = .ok (.ladd, 1) := by decide +kernel
theorem dX4_leastGreatest_108 : decode cX4_leastGreatest 108 = .ok (.aload_n 0, 1) := by decide +kernel
theorem dX4_leastGreatest_109 : decode cX4_leastGreatest 109 = .ok (.getfield 18, 3) := by decide +kernel
theorem dX4_leastGreatest_112 : decode cX4_leastGreatest 112 = .ok (.iload 6, 2) := by decide +kernel
theorem dX4_leastGreatest_114 : decode cX4_leastGreatest 114 = .ok (.iaload, 1) := by decide +kernel
theorem dX4_leastGreatest_115 : decode cX4_leastGreatest 115 = .ok (.invokevirtual 43, 3) := by decide +kernel
theorem dX4_leastGreatest_118 : decode cX4_leastGreatest 118 = .ok (.ifCond .lt 7, 3) := by decide +kernel
theorem dX4_leastGreatest_121 : decode cX4_leastGreatest 121 = .ok (.iconst 1, 1) := by decide +kernel
theorem dX4_leastGreatest_122 : decode cX4_leastGreatest 122 = .ok (.goto 4, 3) := by decide +kernel
theorem dX4_leastGreatest_125 : decode cX4_leastGreatest 125 = .ok (.iconst 0, 1) := by decide +kernel
theorem dX4_leastGreatest_126 : decode cX4_leastGreatest 126 = .ok (.istore 7, 2) := by decide +kernel
theorem dX4_leastGreatest_128 : decode cX4_leastGreatest 128 = .ok (.aload_n 0, 1) := by decide +kernel
theorem dX4_leastGreatest_129 : decode cX4_leastGreatest 129 = .ok (.getfield 18, 3) := by decide +kernel
theorem dX4_leastGreatest_132 : decode cX4_leastGreatest 132 = .ok (.iload 6, 2) := by decide +kernel
theorem dX4_leastGreatest_134 : decode cX4_leastGreatest 134 = .ok (.iconst 1, 1) := by decide +kernel
theorem dX4_leastGreatest_135 : decode cX4_leastGreatest 135 = .ok (.iadd, 1) := by decide +kernel
theorem dX4_leastGreatest_136 : decode cX4_leastGreatest 136 = .ok (.iload 7, 2) := by decide +kernel
theorem dX4_leastGreatest_138 : decode cX4_leastGreatest 138 = .ok (.ifCond .eq 15, 3) := by decide +kernel
theorem dX4_leastGreatest_141 : decode cX4_leastGreatest 141 = .ok (.aload_n 0, 1) := by decide +kernel
theorem dX4_leastGreatest_142 : decode cX4_leastGreatest 142 = .ok (.getfield 18, 3) := by decide +kernel
theorem dX4_leastGreatest_145 : decode cX4_leastGreatest 145 = .ok (.iload 6, 2) := by decide +kernel
theorem dX4_leastGreatest_147 : decode cX4_leastGreatest 147 = .ok (.iaload, 1) := by decide +kernel
theorem dX4_leastGreatest_148 : decode cX4_leastGreatest 148 = .ok (.iconst 1, 1) := by decide +kernel
theorem dX4_leastGreatest_149 : decode cX4_leastGreatest 149 = .ok (.iadd, 1) := by decide +kernel
theorem dX4_leastGreatest_150 : decode cX4_leastGreatest 150 = .ok (.goto 10, 3) := by decide +kernel
theorem dX4_leastGreatest_153 : decode cX4_leastGreatest 153 = .ok (.aload_n 0, 1) := by decide +kernel
theorem dX4_leastGreatest_154 : decode cX4_leastGreatest 154 = .ok (.getfield 18, 3) := by decide +kernel
theorem dX4_leastGreatest_157 : decode cX4_leastGreatest 157 = .ok (.iload 6, 2) := by decide +kernel
theorem dX4_leastGreatest_159 : decode cX4_leastGreatest 159 = .ok (.iaload, 1) := by decide +kernel
theorem dX4_leastGreatest_160 : decode cX4_leastGreatest 160 = .ok (.iastore, 1) := by decide +kernel
theorem dX4_leastGreatest_161 : decode cX4_leastGreatest 161 = .ok (.iinc 6 1, 3) := by decide +kernel
theorem dX4_leastGreatest_164 : decode cX4_leastGreatest 164 = .ok (.goto (-122), 3) := by decide +kernel
theorem dX4_leastGreatest_167 : decode cX4_leastGreatest 167 = .ok (.aload_n 0, 1) := by decide +kernel
theorem dX4_leastGreatest_168 : decode cX4_leastGreatest 168 = .ok (.iload_n 3, 1) := by decide +kernel
theorem dX4_leastGreatest_169 : decode cX4_leastGreatest 169 = .ok (.lload 4, 2) := by decide +kernel
theorem dX4_leastGreatest_171 : decode cX4_leastGreatest 171 = .ok (.lload 4, 2) := by decide +kernel
theorem dX4_leastGreatest_173 : decode cX4_leastGreatest 173 = .ok (.aload_n 0, 1) := by decide +kernel
theorem dX4_leastGreatest_174 : decode cX4_leastGreatest 174 = .ok (.getfield 18, 3) := by decide +kernel
theorem dX4_leastGreatest_177 : decode cX4_leastGreatest 177 = .ok (.iload_n 3, 1) := by decide +kernel
theorem dX4_leastGreatest_178 : decode cX4_leastGreatest 178 = .ok (.iaload, 1) := by decide +kernel
theorem dX4_leastGreatest_179 : decode cX4_leastGreatest 179 = .ok (.invokevirtual 43, 3) := by decide +kernel
theorem dX4_leastGreatest_182 : decode cX4_leastGreatest 182 = .ok (.ireturn, 1) := by decide +kernel
theorem dX4_spread_0 : decode cX4_spread 0 = .ok (.lconst 0, 1) := by decide +kernel
theorem dX4_spread_1 : decode cX4_spread 1 = .ok (.lstore_n 1, 1) := by decide +kernel
theorem dX4_spread_2 : decode cX4_spread 2 = .ok (.iconst 0, 1) := by decide +kernel
theorem dX4_spread_3 : decode cX4_spread 3 = .ok (.istore_n 3, 1) := by decide +kernel
theorem dX4_spread_4 : decode cX4_spread 4 = .ok (.iload_n 3, 1) := by decide +kernel
theorem dX4_spread_5 : decode cX4_spread 5 = .ok (.bipush 12, 2) := by decide +kernel
theorem dX4_spread_7 : decode cX4_spread 7 = .ok (.if_icmp .ge 22, 3) := by decide +kernel
theorem dX4_spread_10 : decode cX4_spread 10 = .ok (.lload_n 1, 1) := by decide +kernel
theorem dX4_spread_11 : decode cX4_spread 11 = .ok (.iload_n 0, 1) := by decide +kernel
theorem dX4_spread_12 : decode cX4_spread 12 = .ok (.iload_n 3, 1) := by decide +kernel
theorem dX4_spread_13 : decode cX4_spread 13 = .ok (.iushr, 1) := by decide +kernel
theorem dX4_spread_14 : decode cX4_spread 14 = .ok (.iconst 1, 1) := by decide +kernel
theorem dX4_spread_15 : decode cX4_spread 15 = .ok (.iand, 1) := by decide +kernel
theorem dX4_spread_16 : decode cX4_spread 16 = .ok (.i2l, 1) := by decide +kernel
theorem dX4_spread_17 : decode cX4_spread 17 = .ok (.iload_n 3, 1) := by decide +kernel
theorem dX4_spread_18 : decode cX4_spread 18 = .ok (.iconst 5, 1) := by decide +kernel
theorem dX4_spread_19 : decode cX4_spread 19 = .ok (.imul, 1) := by decide +kernel
theorem dX4_spread_20 : decode cX4_spread 20 = .ok (.lshl, 1) := by decide +kernel
theorem dX4_spread_21 : decode cX4_spread 21 = .ok (.lor, 1) := by decide +kernel
theorem dX4_spread_22 : decode cX4_spread 22 = .ok (.lstore_n 1, 1) := by decide +kernel
theorem dX4_spread_23 : decode cX4_spread 23 = .ok (.iinc 3 1, 3) := by decide +kernel
theorem dX4_spread_26 : decode cX4_spread 26 = .ok (.goto (-22), 3) := by decide +kernel
theorem dX4_spread_29 : decode cX4_spread 29 = .ok (.lload_n 1, 1) := by decide +kernel
theorem dX4_spread_30 : decode cX4_spread 30 = .ok (.lreturn, 1) := by decide +kernel
theorem dX4_search_0 : decode cX4_search 0 = .ok (.iload 6, 2) := by decide +kernel
theorem dX4_search_2 : decode cX4_search 2 = .ok (.ifCond .gt 5, 3) := by decide +kernel
theorem dX4_search_5 : decode cX4_search 5 = .ok (.iconst 0, 1) := by decide +kernel
theorem dX4_search_6 : decode cX4_search 6 = .ok (.ireturn, 1) := by decide +kernel
theorem dX4_search_7 : decode cX4_search 7 = .ok (.iload_n 1, 1) := by decide +kernel
theorem dX4_search_8 : decode cX4_search 8 = .ok (.ifCond .le 20, 3) := by decide +kernel
theorem dX4_search_11 : decode cX4_search 11 = .ok (.iload_n 1, 1) := by decide +kernel
theorem dX4_search_12 : decode cX4_search 12 = .ok (.bipush 16, 2) := by decide +kernel
theorem dX4_search_14 : decode cX4_search 14 = .ok (.if_icmp .gt 14, 3) := by decide +kernel
theorem dX4_search_17 : decode cX4_search 17 = .ok (.aload_n 0, 1) := by decide +kernel
theorem dX4_search_18 : decode cX4_search 18 = .ok (.getfield 18, 3) := by decide +kernel
theorem dX4_search_21 : decode cX4_search 21 = .ok (.iload_n 1, 1) := by decide +kernel
theorem dX4_search_22 : decode cX4_search 22 = .ok (.iaload, 1) := by decide +kernel
theorem dX4_search_23 : decode cX4_search 23 = .ok (.iload 6, 2) := by decide +kernel
theorem dX4_search_25 : decode cX4_search 25 = .ok (.if_icmp .ge 5, 3) := by decide +kernel
theorem dX4_search_28 : decode cX4_search 28 = .ok (.iconst (-1), 1) := by decide +kernel
theorem dX4_search_29 : decode cX4_search 29 = .ok (.ireturn, 1) := by decide +kernel
theorem dX4_search_30 : decode cX4_search 30 = .ok (.iload_n 1, 1) := by decide +kernel
theorem dX4_search_31 : decode cX4_search 31 = .ok (.iconst 1, 1) := by decide +kernel
theorem dX4_search_32 : decode cX4_search 32 = .ok (.isub, 1) := by decide +kernel
theorem dX4_search_33 : decode cX4_search 33 = .ok (.istore 7, 2) := by decide +kernel
theorem dX4_search_35 : decode cX4_search 35 = .ok (.aload_n 0, 1) := by decide +kernel
theorem dX4_search_36 : decode cX4_search 36 = .ok (.iload 7, 2) := by decide +kernel
theorem dX4_search_38 : decode cX4_search 38 = .ok (.lload_n 2, 1) := by decide +kernel
theorem dX4_search_39 : decode cX4_search 39 = .ok (.lload 4, 2) := by decide +kernel
theorem dX4_search_41 : decode cX4_search 41 = .ok (.iload 6, 2) := by decide +kernel
theorem dX4_search_43 : decode cX4_search 43 = .ok (.invokevirtual 43, 3) := by decide +kernel
theorem dX4_search_46 : decode cX4_search 46 = .ok (.istore 8, 2) := by decide +kernel
theorem dX4_search_48 : decode cX4_search 48 = .ok (.iload 8, 2) := by decide +kernel
theorem dX4_search_50 : decode cX4_search 50 = .ok (.iconst (-1), 1) := by decide +kernel
theorem dX4_search_51 : decode cX4_search 51 = .ok (.if_icmp .eq 6, 3) := by decide +kernel
theorem dX4_search_54 : decode cX4_search 54 = .ok (.iload 8, 2) := by decide +kernel
theorem dX4_search_56 : decode cX4_search 56 = .ok (.ireturn, 1) := by decide +kernel
theorem dX4_search_57 : decode cX4_search 57 = .ok (.lload_n 2, 1) := by decide +kernel
theorem dX4_search_58 : decode cX4_search 58 = .ok (.aload_n 0, 1) := by decide +kernel
theorem dX4_search_59 : decode cX4_search 59 = .ok (.getfield 11, 3) := by decide +kernel
theorem dX4_search_62 : decode cX4_search 62 = .ok (.iload 7, 2) := by decide +kernel
theorem dX4_search_64 : decode cX4_search 64 = .ok (.laload, 1) := by decide +kernel
theorem dX4_search_65 : decode cX4_search 65 = .ok (.ladd, 1) := by decide +kernel
theorem dX4_search_66 : decode cX4_search 66 = .ok (.lstore 9, 2) := by decide +kernel
theorem dX4_search_68 : decode cX4_search 68 = .ok (.lload 4, 2) := by decide +kernel
theorem dX4_search_70 : decode cX4_search 70 = .ok (.aload_n 0, 1) := by decide +kernel
theorem dX4_search_71 : decode cX4_search 71 = .ok (.getfield 15, 3) := by decide +kernel
theorem dX4_search_74 : decode cX4_search 74 = .ok (.iload 7, 2) := by decide +kernel
theorem dX4_search_76 : decode cX4_search 76 = .ok (.laload, 1) := by decide +kernel
theorem dX4_search_77 : decode cX4_search 77 = .ok (.ladd, 1) := by decide +kernel
theorem dX4_search_78 : decode cX4_search 78 = .ok (.lstore 11, 2) := by decide +kernel
theorem dX4_search_80 : decode cX4_search 80 = .ok (.lload 9, 2) := by decide +kernel
theorem dX4_search_82 : decode cX4_search 82 = .ok (.lload 11, 2) := by decide +kernel
theorem dX4_search_84 : decode cX4_search 84 = .ok (.lor, 1) := by decide +kernel
theorem dX4_search_85 : decode cX4_search 85 = .ok (.ldc2_w 47, 3) := by decide +kernel
theorem dX4_search_88 : decode cX4_search 88 = .ok (.land, 1) := by decide +kernel
theorem dX4_search_89 : decode cX4_search 89 = .ok (.lconst 0, 1) := by decide +kernel
theorem dX4_search_90 : decode cX4_search 90 = .ok (.lcmp, 1) := by decide +kernel
theorem dX4_search_91 : decode cX4_search 91 = .ok (.ifCond .eq 5, 3) := by decide +kernel
theorem dX4_search_94 : decode cX4_search 94 = .ok (.iconst (-1), 1) := by decide +kernel
theorem dX4_search_95 : decode cX4_search 95 = .ok (.ireturn, 1) := by decide +kernel
theorem dX4_search_96 : decode cX4_search 96 = .ok (.aload_n 0, 1) := by decide +kernel
theorem dX4_search_97 : decode cX4_search 97 = .ok (.iload 7, 2) := by decide +kernel
theorem dX4_search_99 : decode cX4_search 99 = .ok (.lload 9, 2) := by decide +kernel
theorem dX4_search_101 : decode cX4_search 101 = .ok (.lload 11, 2) := by decide +kernel
theorem dX4_search_103 : decode cX4_search 103 = .ok (.iload 6, 2) := by decide +kernel
theorem dX4_search_105 : decode cX4_search 105 = .ok (.iconst 1, 1) := by decide +kernel
theorem dX4_search_106 : decode cX4_search 106 = .ok (.isub, 1) := by decide +kernel
theorem dX4_search_107 : decode cX4_search 107 = .ok (.invokevirtual 43, 3) := by decide +kernel
theorem dX4_search_110 : decode cX4_search 110 = .ok (.istore 13, 2) := by decide +kernel
theorem dX4_search_112 : decode cX4_search 112 = .ok (.iload 13, 2) := by decide +kernel
theorem dX4_search_114 : decode cX4_search 114 = .ok (.iconst (-1), 1) := by decide +kernel
theorem dX4_search_115 : decode cX4_search 115 = .ok (.if_icmp .ne 7, 3) := by decide +kernel
theorem dX4_search_118 : decode cX4_search 118 = .ok (.iconst (-1), 1) := by decide +kernel
theorem dX4_search_119 : decode cX4_search 119 = .ok (.goto 10, 3) := by decide +kernel
theorem dX4_search_122 : decode cX4_search 122 = .ok (.iload 13, 2) := by decide +kernel
theorem dX4_search_124 : decode cX4_search 124 = .ok (.iconst 1, 1) := by decide +kernel
theorem dX4_search_125 : decode cX4_search 125 = .ok (.iload 7, 2) := by decide +kernel
theorem dX4_search_127 : decode cX4_search 127 = .ok (.ishl, 1) := by decide +kernel
theorem dX4_search_128 : decode cX4_search 128 = .ok (.ior, 1) := by decide +kernel
theorem dX4_search_129 : decode cX4_search 129 = .ok (.ireturn, 1) := by decide +kernel
theorem dX5_init_0 : decode cX5_init 0 = .ok (.aload_n 0, 1) := by decide +kernel
theorem dX5_init_1 : decode cX5_init 1 = .ok (.invokespecial 1, 3) := by decide +kernel
theorem dX5_init_4 : decode cX5_init 4 = .ok (.aload_n 0, 1) := by decide +kernel
theorem dX5_init_5 : decode cX5_init 5 = .ok (.iconst 4, 1) := by decide +kernel
theorem dX5_init_6 : decode cX5_init 6 = .ok (.newarray .long, 2) := by decide +kernel
theorem dX5_init_8 : decode cX5_init 8 = .ok (.putfield 9, 3) := by decide +kernel
theorem dX5_init_11 : decode cX5_init 11 = .ok (.aload_n 0, 1) := by decide +kernel
theorem dX5_init_12 : decode cX5_init 12 = .ok (.iconst 4, 1) := by decide +kernel
theorem dX5_init_13 : decode cX5_init 13 = .ok (.newarray .long, 2) := by decide +kernel
theorem dX5_init_15 : decode cX5_init 15 = .ok (.putfield 13, 3) := by decide +kernel
theorem dX5_init_18 : decode cX5_init 18 = .ok (.aload_n 0, 1) := by decide +kernel
theorem dX5_init_19 : decode cX5_init 19 = .ok (.iconst 0, 1) := by decide +kernel
theorem dX5_init_20 : decode cX5_init 20 = .ok (.putfield 16, 3) := by decide +kernel
theorem dX5_init_23 : decode cX5_init 23 = .ok (.aload_n 0, 1) := by decide +kernel
theorem dX5_init_24 : decode cX5_init 24 = .ok (.iconst 0, 1) := by decide +kernel
theorem dX5_init_25 : decode cX5_init 25 = .ok (.putfield 20, 3) := by decide +kernel
theorem dX5_init_28 : decode cX5_init 28 = .ok (.return_, 1) := by decide +kernel
theorem dX5_offer_0 : decode cX5_offer 0 = .ok (.aload_n 0, 1) := by decide +kernel
theorem dX5_offer_1 : decode cX5_offer 1 = .ok (.getfield 16, 3) := by decide +kernel
theorem dX5_offer_4 : decode cX5_offer 4 = .ok (.ifCond .eq 20, 3) := by decide +kernel
theorem dX5_offer_7 : decode cX5_offer 7 = .ok (.aload_n 0, 1) := by decide +kernel
theorem dX5_offer_8 : decode cX5_offer 8 = .ok (.iload_n 1, 1) := by decide +kernel
theorem dX5_offer_9 : decode cX5_offer 9 = .ok (.iload_n 2, 1) := by decide +kernel
theorem dX5_offer_10 : decode cX5_offer 10 = .ok (.aload_n 0, 1) := by decide +kernel
theorem dX5_offer_11 : decode cX5_offer 11 = .ok (.getfield 20, 3) := by decide +kernel
theorem dX5_offer_14 : decode cX5_offer 14 = .ok (.aload_n 0, 1) := by decide +kernel
theorem dX5_offer_15 : decode cX5_offer 15 = .ok (.getfield 16, 3) := by decide +kernel
theorem dX5_offer_18 : decode cX5_offer 18 = .ok (.invokevirtual 23, 3) := by decide +kernel
theorem dX5_offer_21 : decode cX5_offer 21 = .ok (.ifCond .le 13, 3) := by decide +kernel
theorem dX5_offer_24 : decode cX5_offer 24 = .ok (.aload_n 0, 1) := by decide +kernel
theorem dX5_offer_25 : decode cX5_offer 25 = .ok (.iload_n 1, 1) := by decide +kernel
theorem dX5_offer_26 : decode cX5_offer 26 = .ok (.putfield 20, 3) := by decide +kernel
theorem dX5_offer_29 : decode cX5_offer 29 = .ok (.aload_n 0, 1) := by decide +kernel
theorem dX5_offer_30 : decode cX5_offer 30 = .ok (.iload_n 2, 1) := by decide +kernel
theorem dX5_offer_31 : decode cX5_offer 31 = .ok (.putfield 16, 3) := by decide +kernel
theorem dX5_offer_34 : decode cX5_offer 34 = .ok (.return_, 1) := by decide +kernel
theorem dX5_hold_0 : decode cX5_hold 0 = .ok (.aload_n 0, 1) := by decide +kernel
theorem dX5_hold_1 : decode cX5_hold 1 = .ok (.getfield 9, 3) := by decide +kernel
theorem dX5_hold_4 : decode cX5_hold 4 = .ok (.iload_n 1, 1) := by decide +kernel
theorem dX5_hold_5 : decode cX5_hold 5 = .ok (.iload 4, 2) := by decide +kernel
theorem dX5_hold_7 : decode cX5_hold 7 = .ok (.invokestatic 27, 3) := by decide +kernel
theorem dX5_hold_10 : decode cX5_hold 10 = .ok (.aload_n 0, 1) := by decide +kernel
theorem dX5_hold_11 : decode cX5_hold 11 = .ok (.getfield 13, 3) := by decide +kernel
theorem dX5_hold_14 : decode cX5_hold 14 = .ok (.iload_n 3, 1) := by decide +kernel
theorem dX5_hold_15 : decode cX5_hold 15 = .ok (.iload_n 2, 1) := by decide +kernel
theorem dX5_hold_16 : decode cX5_hold 16 = .ok (.invokestatic 27, 3) := by decide +kernel
theorem dX5_hold_19 : decode cX5_hold 19 = .ok (.iconst 3, 1) := by decide +kernel
theorem dX5_hold_20 : decode cX5_hold 20 = .ok (.istore 5, 2) := by decide +kernel
theorem dX5_hold_22 : decode cX5_hold 22 = .ok (.iload 5, 2) := by decide +kernel
theorem dX5_hold_24 : decode cX5_hold 24 = .ok (.ifCond .lt 51, 3) := by decide +kernel
theorem dX5_hold_27 : decode cX5_hold 27 = .ok (.aload_n 0, 1) := by decide +kernel
theorem dX5_hold_28 : decode cX5_hold 28 = .ok (.getfield 9, 3) := by decide +kernel
theorem dX5_hold_31 : decode cX5_hold 31 = .ok (.iload 5, 2) := by decide +kernel
theorem dX5_hold_33 : decode cX5_hold 33 = .ok (.laload, 1) := by decide +kernel
theorem dX5_hold_34 : decode cX5_hold 34 = .ok (.aload_n 0, 1) := by decide +kernel
theorem dX5_hold_35 : decode cX5_hold 35 = .ok (.getfield 13, 3) := by decide +kernel
theorem dX5_hold_38 : decode cX5_hold 38 = .ok (.iload 5, 2) := by decide +kernel
theorem dX5_hold_40 : decode cX5_hold 40 = .ok (.laload, 1) := by decide +kernel
theorem dX5_hold_41 : decode cX5_hold 41 = .ok (.lcmp, 1) := by decide +kernel
theorem dX5_hold_42 : decode cX5_hold 42 = .ok (.ifCond .eq 27, 3) := by decide +kernel
theorem dX5_hold_45 : decode cX5_hold 45 = .ok (.aload_n 0, 1) := by decide +kernel
theorem dX5_hold_46 : decode cX5_hold 46 = .ok (.getfield 9, 3) := by decide +kernel
theorem dX5_hold_49 : decode cX5_hold 49 = .ok (.iload 5, 2) := by decide +kernel
theorem dX5_hold_51 : decode cX5_hold 51 = .ok (.laload, 1) := by decide +kernel
theorem dX5_hold_52 : decode cX5_hold 52 = .ok (.aload_n 0, 1) := by decide +kernel
theorem dX5_hold_53 : decode cX5_hold 53 = .ok (.getfield 13, 3) := by decide +kernel
theorem dX5_hold_56 : decode cX5_hold 56 = .ok (.iload 5, 2) := by decide +kernel
theorem dX5_hold_58 : decode cX5_hold 58 = .ok (.laload, 1) := by decide +kernel
theorem dX5_hold_59 : decode cX5_hold 59 = .ok (.lcmp, 1) := by decide +kernel
theorem dX5_hold_60 : decode cX5_hold 60 = .ok (.ifCond .ge 7, 3) := by decide +kernel
theorem dX5_hold_63 : decode cX5_hold 63 = .ok (.iconst (-1), 1) := by decide +kernel
theorem dX5_hold_64 : decode cX5_hold 64 = .ok (.goto 4, 3) := by decide +kernel
theorem dX5_hold_67 : decode cX5_hold 67 = .ok (.iconst 1, 1) := by decide +kernel
theorem dX5_hold_68 : decode cX5_hold 68 = .ok (.ireturn, 1) := by decide +kernel
theorem dX5_hold_69 : decode cX5_hold 69 = .ok (.iinc 5 (-1), 3) := by decide +kernel
theorem dX5_hold_72 : decode cX5_hold 72 = .ok (.goto (-50), 3) := by decide +kernel
theorem dX5_hold_75 : decode cX5_hold 75 = .ok (.iconst 0, 1) := by decide +kernel
theorem dX5_hold_76 : decode cX5_hold 76 = .ok (.ireturn, 1) := by decide +kernel
theorem dX5_raise_0 : decode cX5_raise 0 = .ok (.iconst 0, 1) := by decide +kernel
theorem dX5_raise_1 : decode cX5_raise 1 = .ok (.istore_n 3, 1) := by decide +kernel
theorem dX5_raise_2 : decode cX5_raise 2 = .ok (.iload_n 3, 1) := by decide +kernel
theorem dX5_raise_3 : decode cX5_raise 3 = .ok (.iconst 4, 1) := by decide +kernel
theorem dX5_raise_4 : decode cX5_raise 4 = .ok (.if_icmp .ge 21, 3) := by decide +kernel
theorem dX5_raise_7 : decode cX5_raise 7 = .ok (.aload_n 0, 1) := by decide +kernel
theorem dX5_raise_8 : decode cX5_raise 8 = .ok (.iload_n 3, 1) := by decide +kernel
theorem dX5_raise_9 : decode cX5_raise 9 = .ok (.iload_n 3, 1) := by decide +kernel
theorem dX5_raise_10 : decode cX5_raise 10 = .ok (.ifCond .ne 7, 3) := by decide +kernel
theorem dX5_raise_13 : decode cX5_raise 13 = .ok (.lconst 1, 1) := by decide +kernel
theorem dX5_raise_14 : decode cX5_raise 14 = .ok (.goto 4, 3) := by decide +kernel
theorem dX5_raise_17 : decode cX5_raise 17 = .ok (.lconst 0, 1) := by decide +kernel
theorem dX5_raise_18 : decode cX5_raise 18 = .ok (.lastore, 1) := by decide +kernel
theorem dX5_raise_19 : decode cX5_raise 19 = .ok (.iinc 3 1, 3) := by decide +kernel
theorem dX5_raise_22 : decode cX5_raise 22 = .ok (.goto (-20), 3) := by decide +kernel
theorem dX5_raise_25 : decode cX5_raise 25 = .ok (.iconst 0, 1) := by decide +kernel
theorem dX5_raise_26 : decode cX5_raise 26 = .ok (.istore_n 3, 1) := by decide +kernel
theorem dX5_raise_27 : decode cX5_raise 27 = .ok (.iload_n 3, 1) := by decide +kernel
theorem dX5_raise_28 : decode cX5_raise 28 = .ok (.iload_n 2, 1) := by decide +kernel
theorem dX5_raise_29 : decode cX5_raise 29 = .ok (.if_icmp .ge 57, 3) := by decide +kernel
theorem dX5_raise_32 : decode cX5_raise 32 = .ok (.lconst 0, 1) := by decide +kernel
theorem dX5_raise_33 : decode cX5_raise 33 = .ok (.lstore 4, 2) := by decide +kernel
theorem dX5_raise_35 : decode cX5_raise 35 = .ok (.iconst 0, 1) := by decide +kernel
theorem dX5_raise_36 : decode cX5_raise 36 = .ok (.istore 6, 2) := by decide +kernel
theorem dX5_raise_38 : decode cX5_raise 38 = .ok (.iload 6, 2) := by decide +kernel
theorem dX5_raise_40 : decode cX5_raise 40 = .ok (.iconst 4, 1) := by decide +kernel
theorem dX5_raise_41 : decode cX5_raise 41 = .ok (.if_icmp .ge 39, 3) := by decide +kernel
theorem dX5_raise_44 : decode cX5_raise 44 = .ok (.aload_n 0, 1) := by decide +kernel
theorem dX5_raise_45 : decode cX5_raise 45 = .ok (.iload 6, 2) := by decide +kernel
theorem dX5_raise_47 : decode cX5_raise 47 = .ok (.laload, 1) := by decide +kernel
theorem dX5_raise_48 : decode cX5_raise 48 = .ok (.iload_n 1, 1) := by decide +kernel
theorem dX5_raise_49 : decode cX5_raise 49 = .ok (.i2l, 1) := by decide +kernel
theorem dX5_raise_50 : decode cX5_raise 50 = .ok (.lmul, 1) := by decide +kernel
theorem dX5_raise_51 : decode cX5_raise 51 = .ok (.lload 4, 2) := by decide +kernel
theorem dX5_raise_53 : decode cX5_raise 53 = .ok (.ladd, 1) := by decide +kernel
theorem dX5_raise_54 : decode cX5_raise 54 = .ok (.lstore 7, 2) := by decide +kernel
theorem dX5_raise_56 : decode cX5_raise 56 = .ok (.aload_n 0, 1) := by decide +kernel
theorem dX5_raise_57 : decode cX5_raise 57 = .ok (.iload 6, 2) := by decide +kernel
theorem dX5_raise_59 : decode cX5_raise 59 = .ok (.lload 7, 2) := by decide +kernel
theorem dX5_raise_61 : decode cX5_raise 61 = .ok (.ldc2_w 31, 3) := by decide +kernel
theorem dX5_raise_64 : decode cX5_raise 64 = .ok (.lrem, 1) := by decide +kernel
theorem dX5_raise_65 : decode cX5_raise 65 = .ok (.lastore, 1) := by decide +kernel
theorem dX5_raise_66 : decode cX5_raise 66 = .ok (.lload 7, 2) := by decide +kernel
theorem dX5_raise_68 : decode cX5_raise 68 = .ok (.ldc2_w 31, 3) := by decide +kernel
theorem dX5_raise_71 : decode cX5_raise 71 = .ok (.ldiv, 1) := by decide +kernel
theorem dX5_raise_72 : decode cX5_raise 72 = .ok (.lstore 4, 2) := by decide +kernel
theorem dX5_raise_74 : decode cX5_raise 74 = .ok (.iinc 6 1, 3) := by decide +kernel
theorem dX5_raise_77 : decode cX5_raise 77 = .ok (.goto (-39), 3) := by decide +kernel
theorem dX5_raise_80 : decode cX5_raise 80 = .ok (.iinc 3 1, 3) := by decide +kernel
theorem dX5_raise_83 : decode cX5_raise 83 = .ok (.goto (-56), 3) := by decide +kernel
theorem dX5_raise_86 : decode cX5_raise 86 = .ok (.return_, 1) := by decide +kernel
theorem dX5_isPower_0 : decode cX5_isPower 0 = .ok (.lconst 1, 1) := by decide +kernel
theorem dX5_isPower_1 : decode cX5_isPower 1 = .ok (.lstore 4, 2) := by decide +kernel
theorem dX5_isPower_3 : decode cX5_isPower 3 = .ok (.iconst 0, 1) := by decide +kernel
theorem dX5_isPower_4 : decode cX5_isPower 4 = .ok (.istore 6, 2) := by decide +kernel
theorem dX5_isPower_6 : decode cX5_isPower 6 = .ok (.iload 6, 2) := by decide +kernel
theorem dX5_isPower_8 : decode cX5_isPower 8 = .ok (.iload_n 3, 1) := by decide +kernel
theorem dX5_isPower_9 : decode cX5_isPower 9 = .ok (.if_icmp .ge 24, 3) := by decide +kernel
theorem dX5_isPower_12 : decode cX5_isPower 12 = .ok (.lload 4, 2) := by decide +kernel
theorem dX5_isPower_14 : decode cX5_isPower 14 = .ok (.iload_n 1, 1) := by decide +kernel
theorem dX5_isPower_15 : decode cX5_isPower 15 = .ok (.i2l, 1) := by decide +kernel
theorem dX5_isPower_16 : decode cX5_isPower 16 = .ok (.lcmp, 1) := by decide +kernel
theorem dX5_isPower_17 : decode cX5_isPower 17 = .ok (.ifCond .gt 16, 3) := by decide +kernel
theorem dX5_isPower_20 : decode cX5_isPower 20 = .ok (.lload 4, 2) := by decide +kernel
theorem dX5_isPower_22 : decode cX5_isPower 22 = .ok (.iload_n 2, 1) := by decide +kernel
theorem dX5_isPower_23 : decode cX5_isPower 23 = .ok (.i2l, 1) := by decide +kernel
theorem dX5_isPower_24 : decode cX5_isPower 24 = .ok (.lmul, 1) := by decide +kernel
theorem dX5_isPower_25 : decode cX5_isPower 25 = .ok (.lstore 4, 2) := by decide +kernel
theorem dX5_isPower_27 : decode cX5_isPower 27 = .ok (.iinc 6 1, 3) := by decide +kernel
theorem dX5_isPower_30 : decode cX5_isPower 30 = .ok (.goto (-24), 3) := by decide +kernel
theorem dX5_isPower_33 : decode cX5_isPower 33 = .ok (.lload 4, 2) := by decide +kernel
theorem dX5_isPower_35 : decode cX5_isPower 35 = .ok (.iload_n 1, 1) := by decide +kernel
theorem dX5_isPower_36 : decode cX5_isPower 36 = .ok (.i2l, 1) := by decide +kernel
theorem dX5_isPower_37 : decode cX5_isPower 37 = .ok (.lcmp, 1) := by decide +kernel
theorem dX5_isPower_38 : decode cX5_isPower 38 = .ok (.ifCond .ne 7, 3) := by decide +kernel
theorem dX5_isPower_41 : decode cX5_isPower 41 = .ok (.iconst 1, 1) := by decide +kernel
theorem dX5_isPower_42 : decode cX5_isPower 42 = .ok (.goto 4, 3) := by decide +kernel
theorem dX5_isPower_45 : decode cX5_isPower 45 = .ok (.iconst 0, 1) := by decide +kernel
theorem dX5_isPower_46 : decode cX5_isPower 46 = .ok (.ireturn, 1) := by decide +kernel
theorem dX6_init_0 : decode cX6_init 0 = .ok (.aload_n 0, 1) := by decide +kernel
theorem dX6_init_1 : decode cX6_init 1 = .ok (.invokespecial 3, 3) := by decide +kernel
theorem dX6_init_4 : decode cX6_init 4 = .ok (.aload_n 0, 1) := by decide +kernel
theorem dX6_init_5 : decode cX6_init 5 = .ok (.iconst 0, 1) := by decide +kernel
theorem dX6_init_6 : decode cX6_init 6 = .ok (.putfield 9, 3) := by decide +kernel
theorem dX6_init_9 : decode cX6_init 9 = .ok (.aload_n 0, 1) := by decide +kernel
theorem dX6_init_10 : decode cX6_init 10 = .ok (.iconst 1, 1) := by decide +kernel
theorem dX6_init_11 : decode cX6_init 11 = .ok (.putfield 15, 3) := by decide +kernel
theorem dX6_init_14 : decode cX6_init 14 = .ok (.aload_n 0, 1) := by decide +kernel
theorem dX6_init_15 : decode cX6_init 15 = .ok (.iconst 0, 1) := by decide +kernel
theorem dX6_init_16 : decode cX6_init 16 = .ok (.putfield 18, 3) := by decide +kernel
theorem dX6_init_19 : decode cX6_init 19 = .ok (.return_, 1) := by decide +kernel
theorem dX6_firstFlaw_0 : decode cX6_firstFlaw 0 = .ok (.iconst 0, 1) := by decide +kernel
theorem dX6_firstFlaw_1 : decode cX6_firstFlaw 1 = .ok (.istore_n 2, 1) := by decide +kernel
theorem dX6_firstFlaw_2 : decode cX6_firstFlaw 2 = .ok (.iload_n 2, 1) := by decide +kernel
theorem dX6_firstFlaw_3 : decode cX6_firstFlaw 3 = .ok (.aload_n 1, 1) := by decide +kernel
theorem dX6_firstFlaw_4 : decode cX6_firstFlaw 4 = .ok (.getfield 21, 3) := by decide +kernel
theorem dX6_firstFlaw_7 : decode cX6_firstFlaw 7 = .ok (.if_icmp .ge 61, 3) := by decide +kernel
theorem dX6_firstFlaw_10 : decode cX6_firstFlaw 10 = .ok (.iload_n 2, 1) := by decide +kernel
theorem dX6_firstFlaw_11 : decode cX6_firstFlaw 11 = .ok (.iconst 1, 1) := by decide +kernel
theorem dX6_firstFlaw_12 : decode cX6_firstFlaw 12 = .ok (.iadd, 1) := by decide +kernel
theorem dX6_firstFlaw_13 : decode cX6_firstFlaw 13 = .ok (.istore_n 3, 1) := by decide +kernel
theorem dX6_firstFlaw_14 : decode cX6_firstFlaw 14 = .ok (.iload_n 3, 1) := by decide +kernel
theorem dX6_firstFlaw_15 : decode cX6_firstFlaw 15 = .ok (.aload_n 1, 1) := by decide +kernel
theorem dX6_firstFlaw_16 : decode cX6_firstFlaw 16 = .ok (.getfield 21, 3) := by decide +kernel
theorem dX6_firstFlaw_19 : decode cX6_firstFlaw 19 = .ok (.if_icmp .ge 43, 3) := by decide +kernel
theorem dX6_firstFlaw_22 : decode cX6_firstFlaw 22 = .ok (.aload_n 1, 1) := by decide +kernel
theorem dX6_firstFlaw_23 : decode cX6_firstFlaw 23 = .ok (.iload_n 2, 1) := by decide +kernel
theorem dX6_firstFlaw_24 : decode cX6_firstFlaw 24 = .ok (.iload_n 3, 1) := by decide +kernel
theorem dX6_firstFlaw_25 : decode cX6_firstFlaw 25 = .ok (.invokevirtual 26, 3) := by decide +kernel
theorem dX6_firstFlaw_28 : decode cX6_firstFlaw 28 = .ok (.ifCond .ne 28, 3) := by decide +kernel
theorem dX6_firstFlaw_31 : decode cX6_firstFlaw 31 = .ok (.aload_n 1, 1) := by decide +kernel
theorem dX6_firstFlaw_32 : decode cX6_firstFlaw 32 = .ok (.getfield 30, 3) := by decide +kernel
theorem dX6_firstFlaw_35 : decode cX6_firstFlaw 35 = .ok (.iload_n 2, 1) := by decide +kernel
theorem dX6_firstFlaw_36 : decode cX6_firstFlaw 36 = .ok (.aaload, 1) := by decide +kernel
theorem dX6_firstFlaw_37 : decode cX6_firstFlaw 37 = .ok (.aload_n 1, 1) := by decide +kernel
theorem dX6_firstFlaw_38 : decode cX6_firstFlaw 38 = .ok (.getfield 30, 3) := by decide +kernel
theorem dX6_firstFlaw_41 : decode cX6_firstFlaw 41 = .ok (.iload_n 3, 1) := by decide +kernel
theorem dX6_firstFlaw_42 : decode cX6_firstFlaw 42 = .ok (.aaload, 1) := by decide +kernel
theorem dX6_firstFlaw_43 : decode cX6_firstFlaw 43 = .ok (.invokestatic 34, 3) := by decide +kernel
theorem dX6_firstFlaw_46 : decode cX6_firstFlaw 46 = .ok (.ifCond .eq 10, 3) := by decide +kernel
theorem dX6_firstFlaw_49 : decode cX6_firstFlaw 49 = .ok (.bipush 100, 2) := by decide +kernel
theorem dX6_firstFlaw_51 : decode cX6_firstFlaw 51 = .ok (.iload_n 2, 1) := by decide +kernel
theorem dX6_firstFlaw_52 : decode cX6_firstFlaw 52 = .ok (.imul, 1) := by decide +kernel
theorem dX6_firstFlaw_53 : decode cX6_firstFlaw 53 = .ok (.iload_n 3, 1) := by decide +kernel
theorem dX6_firstFlaw_54 : decode cX6_firstFlaw 54 = .ok (.iadd, 1) := by decide +kernel
theorem dX6_firstFlaw_55 : decode cX6_firstFlaw 55 = .ok (.ireturn, 1) := by decide +kernel
theorem dX6_firstFlaw_56 : decode cX6_firstFlaw 56 = .ok (.iinc 3 1, 3) := by decide +kernel
theorem dX6_firstFlaw_59 : decode cX6_firstFlaw 59 = .ok (.goto (-45), 3) := by decide +kernel
theorem dX6_firstFlaw_62 : decode cX6_firstFlaw 62 = .ok (.iinc 2 1, 3) := by decide +kernel
theorem dX6_firstFlaw_65 : decode cX6_firstFlaw 65 = .ok (.goto (-63), 3) := by decide +kernel
theorem dX6_firstFlaw_68 : decode cX6_firstFlaw 68 = .ok (.iconst 0, 1) := by decide +kernel
theorem dX6_firstFlaw_69 : decode cX6_firstFlaw 69 = .ok (.istore_n 2, 1) := by decide +kernel
theorem dX6_firstFlaw_70 : decode cX6_firstFlaw 70 = .ok (.iload_n 2, 1) := by decide +kernel
theorem dX6_firstFlaw_71 : decode cX6_firstFlaw 71 = .ok (.aload_n 1, 1) := by decide +kernel
theorem dX6_firstFlaw_72 : decode cX6_firstFlaw 72 = .ok (.getfield 21, 3) := by decide +kernel
theorem dX6_firstFlaw_75 : decode cX6_firstFlaw 75 = .ok (.if_icmp .ge 34, 3) := by decide +kernel
theorem dX6_firstFlaw_78 : decode cX6_firstFlaw 78 = .ok (.aload_n 1, 1) := by decide +kernel
theorem dX6_firstFlaw_79 : decode cX6_firstFlaw 79 = .ok (.getfield 30, 3) := by decide +kernel
theorem dX6_firstFlaw_82 : decode cX6_firstFlaw 82 = .ok (.iload_n 2, 1) := by decide +kernel
theorem dX6_firstFlaw_83 : decode cX6_firstFlaw 83 = .ok (.aaload, 1) := by decide +kernel
theorem dX6_firstFlaw_84 : decode cX6_firstFlaw 84 = .ok (.aload_n 1, 1) := by decide +kernel
theorem dX6_firstFlaw_85 : decode cX6_firstFlaw 85 = .ok (.getfield 30, 3) := by decide +kernel
theorem dX6_firstFlaw_88 : decode cX6_firstFlaw 88 = .ok (.bipush 24, 2) := by decide +kernel
theorem dX6_firstFlaw_90 : decode cX6_firstFlaw 90 = .ok (.aaload, 1) := by decide +kernel
theorem dX6_firstFlaw_91 : decode cX6_firstFlaw 91 = .ok (.invokestatic 34, 3) := by decide +kernel
theorem dX6_firstFlaw_94 : decode cX6_firstFlaw 94 = .ok (.ifCond .ne 9, 3) := by decide +kernel
theorem dX6_firstFlaw_97 : decode cX6_firstFlaw 97 = .ok (.sipush 10000, 3) := by decide +kernel
theorem dX6_firstFlaw_100 : decode cX6_firstFlaw 100 = .ok (.iload_n 2, 1) := by decide +kernel
theorem dX6_firstFlaw_101 : decode cX6_firstFlaw 101 = .ok (.iadd, 1) := by decide +kernel
theorem dX6_firstFlaw_102 : decode cX6_firstFlaw 102 = .ok (.ireturn, 1) := by decide +kernel
theorem dX6_firstFlaw_103 : decode cX6_firstFlaw 103 = .ok (.iinc 2 1, 3) := by decide +kernel
theorem dX6_firstFlaw_106 : decode cX6_firstFlaw 106 = .ok (.goto (-36), 3) := by decide +kernel
theorem dX6_firstFlaw_109 : decode cX6_firstFlaw 109 = .ok (.iconst (-1), 1) := by decide +kernel
theorem dX6_firstFlaw_110 : decode cX6_firstFlaw 110 = .ok (.ireturn, 1) := by decide +kernel
theorem dX6_measure_0 : decode cX6_measure 0 = .ok (.aload_n 0, 1) := by decide +kernel
theorem dX6_measure_1 : decode cX6_measure 1 = .ok (.aload_n 1, 1) := by decide +kernel
theorem dX6_measure_2 : decode cX6_measure 2 = .ok (.invokevirtual 38, 3) := by decide +kernel
theorem dX6_measure_5 : decode cX6_measure 5 = .ok (.iconst (-1), 1) := by decide +kernel
theorem dX6_measure_6 : decode cX6_measure 6 = .ok (.if_icmp .eq 5, 3) := by decide +kernel
theorem dX6_measure_9 : decode cX6_measure 9 = .ok (.iconst 0, 1) := by decide +kernel
theorem dX6_measure_10 : decode cX6_measure 10 = .ok (.ireturn, 1) := by decide +kernel
theorem dX6_measure_11 : decode cX6_measure 11 = .ok (.aload_n 0, 1) := by decide +kernel
theorem dX6_measure_12 : decode cX6_measure 12 = .ok (.iconst 0, 1) := by decide +kernel
theorem dX6_measure_13 : decode cX6_measure 13 = .ok (.putfield 9, 3) := by decide +kernel
theorem dX6_measure_16 : decode cX6_measure 16 = .ok (.aload_n 0, 1) := by decide +kernel
theorem dX6_measure_17 : decode cX6_measure 17 = .ok (.iconst 1, 1) := by decide +kernel
theorem dX6_measure_18 : decode cX6_measure 18 = .ok (.putfield 15, 3) := by decide +kernel
theorem dX6_measure_21 : decode cX6_measure 21 = .ok (.aload_n 1, 1) := by decide +kernel
theorem dX6_measure_22 : decode cX6_measure 22 = .ok (.getfield 30, 3) := by decide +kernel
theorem dX6_measure_25 : decode cX6_measure 25 = .ok (.bipush 24, 2) := by decide +kernel
theorem dX6_measure_27 : decode cX6_measure 27 = .ok (.aaload, 1) := by decide +kernel
theorem dX6_measure_28 : decode cX6_measure 28 = .ok (.astore_n 2, 1) := by decide +kernel
theorem dX6_measure_29 : decode cX6_measure 29 = .ok (.iconst 0, 1) := by decide +kernel
theorem dX6_measure_30 : decode cX6_measure 30 = .ok (.istore_n 3, 1) := by decide +kernel
theorem dX6_measure_31 : decode cX6_measure 31 = .ok (.iload_n 3, 1) := by decide +kernel
theorem dX6_measure_32 : decode cX6_measure 32 = .ok (.aload_n 1, 1) := by decide +kernel
theorem dX6_measure_33 : decode cX6_measure 33 = .ok (.getfield 21, 3) := by decide +kernel
theorem dX6_measure_36 : decode cX6_measure 36 = .ok (.if_icmp .ge 48, 3) := by decide +kernel
theorem dX6_measure_39 : decode cX6_measure 39 = .ok (.aload_n 1, 1) := by decide +kernel
theorem dX6_measure_40 : decode cX6_measure 40 = .ok (.getfield 30, 3) := by decide +kernel
theorem dX6_measure_43 : decode cX6_measure 43 = .ok (.iload_n 3, 1) := by decide +kernel
theorem dX6_measure_44 : decode cX6_measure 44 = .ok (.aaload, 1) := by decide +kernel
theorem dX6_measure_45 : decode cX6_measure 45 = .ok (.astore 4, 2) := by decide +kernel
end
section
theorem dX6_measure_47 : decode cX6_measure 47 = .ok (.aload 4, 2) := by decide +kernel
theorem dX6_measure_49 : decode cX6_measure 49 = .ok (.aload_n 2, 1) := by decide +kernel
theorem dX6_measure_50 : decode cX6_measure 50 = .ok (.invokestatic 34, 3) := by decide +kernel
theorem dX6_measure_53 : decode cX6_measure 53 = .ok (.istore 5, 2) := by decide +kernel
theorem dX6_measure_55 : decode cX6_measure 55 = .ok (.aload_n 0, 1) := by decide +kernel
theorem dX6_measure_56 : decode cX6_measure 56 = .ok (.aload 4, 2) := by decide +kernel
theorem dX6_measure_58 : decode cX6_measure 58 = .ok (.aload 4, 2) := by decide +kernel
theorem dX6_measure_60 : decode cX6_measure 60 = .ok (.invokestatic 34, 3) := by decide +kernel
theorem dX6_measure_63 : decode cX6_measure 63 = .ok (.aload_n 2, 1) := by decide +kernel
theorem dX6_measure_64 : decode cX6_measure 64 = .ok (.aload_n 2, 1) := by decide +kernel
theorem dX6_measure_65 : decode cX6_measure 65 = .ok (.invokestatic 34, 3) := by decide +kernel
theorem dX6_measure_68 : decode cX6_measure 68 = .ok (.imul, 1) := by decide +kernel
theorem dX6_measure_69 : decode cX6_measure 69 = .ok (.iload 5, 2) := by decide +kernel
theorem dX6_measure_71 : decode cX6_measure 71 = .ok (.iload 5, 2) := by decide +kernel
theorem dX6_measure_73 : decode cX6_measure 73 = .ok (.imul, 1) := by decide +kernel
theorem dX6_measure_74 : decode cX6_measure 74 = .ok (.iload_n 3, 1) := by decide +kernel
theorem dX6_measure_75 : decode cX6_measure 75 = .ok (.invokevirtual 42, 3) := by decide +kernel
theorem dX6_measure_78 : decode cX6_measure 78 = .ok (.iinc 3 1, 3) := by decide +kernel
theorem dX6_measure_81 : decode cX6_measure 81 = .ok (.goto (-50), 3) := by decide +kernel
theorem dX6_measure_84 : decode cX6_measure 84 = .ok (.aload_n 0, 1) := by decide +kernel
theorem dX6_measure_85 : decode cX6_measure 85 = .ok (.invokevirtual 46, 3) := by decide +kernel
theorem dX6_measure_88 : decode cX6_measure 88 = .ok (.iconst 1, 1) := by decide +kernel
theorem dX6_measure_89 : decode cX6_measure 89 = .ok (.ireturn, 1) := by decide +kernel
theorem dX6_offer_0 : decode cX6_offer 0 = .ok (.iload_n 1, 1) := by decide +kernel
theorem dX6_offer_1 : decode cX6_offer 1 = .ok (.i2l, 1) := by decide +kernel
theorem dX6_offer_2 : decode cX6_offer 2 = .ok (.aload_n 0, 1) := by decide +kernel
theorem dX6_offer_3 : decode cX6_offer 3 = .ok (.getfield 15, 3) := by decide +kernel
theorem dX6_offer_6 : decode cX6_offer 6 = .ok (.i2l, 1) := by decide +kernel
theorem dX6_offer_7 : decode cX6_offer 7 = .ok (.lmul, 1) := by decide +kernel
theorem dX6_offer_8 : decode cX6_offer 8 = .ok (.aload_n 0, 1) := by decide +kernel
theorem dX6_offer_9 : decode cX6_offer 9 = .ok (.getfield 9, 3) := by decide +kernel
theorem dX6_offer_12 : decode cX6_offer 12 = .ok (.i2l, 1) := by decide +kernel
theorem dX6_offer_13 : decode cX6_offer 13 = .ok (.iload_n 2, 1) := by decide +kernel
theorem dX6_offer_14 : decode cX6_offer 14 = .ok (.i2l, 1) := by decide +kernel
theorem dX6_offer_15 : decode cX6_offer 15 = .ok (.lmul, 1) := by decide +kernel
theorem dX6_offer_16 : decode cX6_offer 16 = .ok (.lcmp, 1) := by decide +kernel
theorem dX6_offer_17 : decode cX6_offer 17 = .ok (.ifCond .le 18, 3) := by decide +kernel
theorem dX6_offer_20 : decode cX6_offer 20 = .ok (.aload_n 0, 1) := by decide +kernel
theorem dX6_offer_21 : decode cX6_offer 21 = .ok (.iload_n 1, 1) := by decide +kernel
theorem dX6_offer_22 : decode cX6_offer 22 = .ok (.putfield 9, 3) := by decide +kernel
theorem dX6_offer_25 : decode cX6_offer 25 = .ok (.aload_n 0, 1) := by decide +kernel
theorem dX6_offer_26 : decode cX6_offer 26 = .ok (.iload_n 2, 1) := by decide +kernel
theorem dX6_offer_27 : decode cX6_offer 27 = .ok (.putfield 15, 3) := by decide +kernel
theorem dX6_offer_30 : decode cX6_offer 30 = .ok (.aload_n 0, 1) := by decide +kernel
theorem dX6_offer_31 : decode cX6_offer 31 = .ok (.iload_n 3, 1) := by decide +kernel
theorem dX6_offer_32 : decode cX6_offer 32 = .ok (.putfield 18, 3) := by decide +kernel
theorem dX6_offer_35 : decode cX6_offer 35 = .ok (.return_, 1) := by decide +kernel
theorem dX6_cut_0 : decode cX6_cut 0 = .ok (.aload_n 0, 1) := by decide +kernel
theorem dX6_cut_1 : decode cX6_cut 1 = .ok (.getfield 9, 3) := by decide +kernel
theorem dX6_cut_4 : decode cX6_cut 4 = .ok (.istore_n 1, 1) := by decide +kernel
theorem dX6_cut_5 : decode cX6_cut 5 = .ok (.aload_n 0, 1) := by decide +kernel
theorem dX6_cut_6 : decode cX6_cut 6 = .ok (.getfield 15, 3) := by decide +kernel
theorem dX6_cut_9 : decode cX6_cut 9 = .ok (.istore_n 2, 1) := by decide +kernel
theorem dX6_cut_10 : decode cX6_cut 10 = .ok (.iconst 0, 1) := by decide +kernel
theorem dX6_cut_11 : decode cX6_cut 11 = .ok (.istore_n 3, 1) := by decide +kernel
theorem dX6_cut_12 : decode cX6_cut 12 = .ok (.iload_n 3, 1) := by decide +kernel
theorem dX6_cut_13 : decode cX6_cut 13 = .ok (.bipush 64, 2) := by decide +kernel
theorem dX6_cut_15 : decode cX6_cut 15 = .ok (.if_icmp .ge 23, 3) := by decide +kernel
theorem dX6_cut_18 : decode cX6_cut 18 = .ok (.iload_n 2, 1) := by decide +kernel
theorem dX6_cut_19 : decode cX6_cut 19 = .ok (.ifCond .eq 19, 3) := by decide +kernel
theorem dX6_cut_22 : decode cX6_cut 22 = .ok (.iload_n 1, 1) := by decide +kernel
theorem dX6_cut_23 : decode cX6_cut 23 = .ok (.iload_n 2, 1) := by decide +kernel
theorem dX6_cut_24 : decode cX6_cut 24 = .ok (.irem, 1) := by decide +kernel
theorem dX6_cut_25 : decode cX6_cut 25 = .ok (.istore 4, 2) := by decide +kernel
theorem dX6_cut_27 : decode cX6_cut 27 = .ok (.iload_n 2, 1) := by decide +kernel
theorem dX6_cut_28 : decode cX6_cut 28 = .ok (.istore_n 1, 1) := by decide +kernel
theorem dX6_cut_29 : decode cX6_cut 29 = .ok (.iload 4, 2) := by decide +kernel
theorem dX6_cut_31 : decode cX6_cut 31 = .ok (.istore_n 2, 1) := by decide +kernel
theorem dX6_cut_32 : decode cX6_cut 32 = .ok (.iinc 3 1, 3) := by decide +kernel
theorem dX6_cut_35 : decode cX6_cut 35 = .ok (.goto (-23), 3) := by decide +kernel
theorem dX6_cut_38 : decode cX6_cut 38 = .ok (.iload_n 1, 1) := by decide +kernel
theorem dX6_cut_39 : decode cX6_cut 39 = .ok (.ifCond .le 23, 3) := by decide +kernel
theorem dX6_cut_42 : decode cX6_cut 42 = .ok (.aload_n 0, 1) := by decide +kernel
theorem dX6_cut_43 : decode cX6_cut 43 = .ok (.dup, 1) := by decide +kernel
theorem dX6_cut_44 : decode cX6_cut 44 = .ok (.getfield 9, 3) := by decide +kernel
theorem dX6_cut_47 : decode cX6_cut 47 = .ok (.iload_n 1, 1) := by decide +kernel
theorem dX6_cut_48 : decode cX6_cut 48 = .ok (.idiv, 1) := by decide +kernel
theorem dX6_cut_49 : decode cX6_cut 49 = .ok (.putfield 9, 3) := by decide +kernel
theorem dX6_cut_52 : decode cX6_cut 52 = .ok (.aload_n 0, 1) := by decide +kernel
theorem dX6_cut_53 : decode cX6_cut 53 = .ok (.dup, 1) := by decide +kernel
theorem dX6_cut_54 : decode cX6_cut 54 = .ok (.getfield 15, 3) := by decide +kernel
theorem dX6_cut_57 : decode cX6_cut 57 = .ok (.iload_n 1, 1) := by decide +kernel
theorem dX6_cut_58 : decode cX6_cut 58 = .ok (.idiv, 1) := by decide +kernel
theorem dX6_cut_59 : decode cX6_cut 59 = .ok (.putfield 15, 3) := by decide +kernel
theorem dX6_cut_62 : decode cX6_cut 62 = .ok (.return_, 1) := by decide +kernel
theorem dX6_product_0 : decode cX6_product 0 = .ok (.iconst 0, 1) := by decide +kernel
theorem dX6_product_1 : decode cX6_product 1 = .ok (.istore_n 2, 1) := by decide +kernel
theorem dX6_product_2 : decode cX6_product 2 = .ok (.iconst 0, 1) := by decide +kernel
theorem dX6_product_3 : decode cX6_product 3 = .ok (.istore_n 3, 1) := by decide +kernel
theorem dX6_product_4 : decode cX6_product 4 = .ok (.iload_n 3, 1) := by decide +kernel
theorem dX6_product_5 : decode cX6_product 5 = .ok (.bipush 6, 2) := by decide +kernel
theorem dX6_product_7 : decode cX6_product 7 = .ok (.if_icmp .ge 19, 3) := by decide +kernel
theorem dX6_product_10 : decode cX6_product 10 = .ok (.iload_n 2, 1) := by decide +kernel
theorem dX6_product_11 : decode cX6_product 11 = .ok (.aload_n 0, 1) := by decide +kernel
theorem dX6_product_12 : decode cX6_product 12 = .ok (.iload_n 3, 1) := by decide +kernel
theorem dX6_product_13 : decode cX6_product 13 = .ok (.iaload, 1) := by decide +kernel
theorem dX6_product_14 : decode cX6_product 14 = .ok (.aload_n 1, 1) := by decide +kernel
theorem dX6_product_15 : decode cX6_product 15 = .ok (.iload_n 3, 1) := by decide +kernel
theorem dX6_product_16 : decode cX6_product 16 = .ok (.iaload, 1) := by decide +kernel
theorem dX6_product_17 : decode cX6_product 17 = .ok (.imul, 1) := by decide +kernel
theorem dX6_product_18 : decode cX6_product 18 = .ok (.iadd, 1) := by decide +kernel
theorem dX6_product_19 : decode cX6_product 19 = .ok (.istore_n 2, 1) := by decide +kernel
theorem dX6_product_20 : decode cX6_product 20 = .ok (.iinc 3 1, 3) := by decide +kernel
theorem dX6_product_23 : decode cX6_product 23 = .ok (.goto (-19), 3) := by decide +kernel
theorem dX6_product_26 : decode cX6_product 26 = .ok (.iload_n 2, 1) := by decide +kernel
theorem dX6_product_27 : decode cX6_product 27 = .ok (.ireturn, 1) := by decide +kernel
theorem dX7_init_0 : decode cX7_init 0 = .ok (.aload_n 0, 1) := by decide +kernel
theorem dX7_init_1 : decode cX7_init 1 = .ok (.invokespecial 1, 3) := by decide +kernel
theorem dX7_init_4 : decode cX7_init 4 = .ok (.aload_n 0, 1) := by decide +kernel
theorem dX7_init_5 : decode cX7_init 5 = .ok (.sipush 600, 3) := by decide +kernel
theorem dX7_init_8 : decode cX7_init 8 = .ok (.newarray .int, 2) := by decide +kernel
theorem dX7_init_10 : decode cX7_init 10 = .ok (.putfield 9, 3) := by decide +kernel
theorem dX7_init_13 : decode cX7_init 13 = .ok (.aload_n 0, 1) := by decide +kernel
theorem dX7_init_14 : decode cX7_init 14 = .ok (.iconst 0, 1) := by decide +kernel
theorem dX7_init_15 : decode cX7_init 15 = .ok (.putfield 13, 3) := by decide +kernel
theorem dX7_init_18 : decode cX7_init 18 = .ok (.return_, 1) := by decide +kernel
theorem dX7_empty_0 : decode cX7_empty 0 = .ok (.aload_n 0, 1) := by decide +kernel
theorem dX7_empty_1 : decode cX7_empty 1 = .ok (.iconst 0, 1) := by decide +kernel
theorem dX7_empty_2 : decode cX7_empty 2 = .ok (.putfield 13, 3) := by decide +kernel
theorem dX7_empty_5 : decode cX7_empty 5 = .ok (.return_, 1) := by decide +kernel
theorem dX7_hasRoomFor_0 : decode cX7_hasRoomFor 0 = .ok (.aload_n 0, 1) := by decide +kernel
theorem dX7_hasRoomFor_1 : decode cX7_hasRoomFor 1 = .ok (.getfield 13, 3) := by decide +kernel
theorem dX7_hasRoomFor_4 : decode cX7_hasRoomFor 4 = .ok (.iload_n 1, 1) := by decide +kernel
theorem dX7_hasRoomFor_5 : decode cX7_hasRoomFor 5 = .ok (.iadd, 1) := by decide +kernel
theorem dX7_hasRoomFor_6 : decode cX7_hasRoomFor 6 = .ok (.sipush 600, 3) := by decide +kernel
theorem dX7_hasRoomFor_9 : decode cX7_hasRoomFor 9 = .ok (.if_icmp .gt 7, 3) := by decide +kernel
theorem dX7_hasRoomFor_12 : decode cX7_hasRoomFor 12 = .ok (.iconst 1, 1) := by decide +kernel
theorem dX7_hasRoomFor_13 : decode cX7_hasRoomFor 13 = .ok (.goto 4, 3) := by decide +kernel
theorem dX7_hasRoomFor_16 : decode cX7_hasRoomFor 16 = .ok (.iconst 0, 1) := by decide +kernel
theorem dX7_hasRoomFor_17 : decode cX7_hasRoomFor 17 = .ok (.ireturn, 1) := by decide +kernel
theorem dX7_push_0 : decode cX7_push 0 = .ok (.bipush 24, 2) := by decide +kernel
theorem dX7_push_2 : decode cX7_push 2 = .ok (.istore_n 2, 1) := by decide +kernel
theorem dX7_push_3 : decode cX7_push 3 = .ok (.iload_n 2, 1) := by decide +kernel
theorem dX7_push_4 : decode cX7_push 4 = .ok (.ifCond .lt 45, 3) := by decide +kernel
theorem dX7_push_7 : decode cX7_push 7 = .ok (.aload_n 0, 1) := by decide +kernel
theorem dX7_push_8 : decode cX7_push 8 = .ok (.getfield 13, 3) := by decide +kernel
theorem dX7_push_11 : decode cX7_push 11 = .ok (.sipush 600, 3) := by decide +kernel
theorem dX7_push_14 : decode cX7_push 14 = .ok (.if_icmp .ge 29, 3) := by decide +kernel
theorem dX7_push_17 : decode cX7_push 17 = .ok (.aload_n 0, 1) := by decide +kernel
theorem dX7_push_18 : decode cX7_push 18 = .ok (.getfield 9, 3) := by decide +kernel
theorem dX7_push_21 : decode cX7_push 21 = .ok (.aload_n 0, 1) := by decide +kernel
theorem dX7_push_22 : decode cX7_push 22 = .ok (.getfield 13, 3) := by decide +kernel
theorem dX7_push_25 : decode cX7_push 25 = .ok (.iload_n 1, 1) := by decide +kernel
theorem dX7_push_26 : decode cX7_push 26 = .ok (.iload_n 2, 1) := by decide +kernel
theorem dX7_push_27 : decode cX7_push 27 = .ok (.iushr, 1) := by decide +kernel
theorem dX7_push_28 : decode cX7_push 28 = .ok (.sipush 255, 3) := by decide +kernel
theorem dX7_push_31 : decode cX7_push 31 = .ok (.iand, 1) := by decide +kernel
theorem dX7_push_32 : decode cX7_push 32 = .ok (.iastore, 1) := by decide +kernel
theorem dX7_push_33 : decode cX7_push 33 = .ok (.aload_n 0, 1) := by decide +kernel
theorem dX7_push_34 : decode cX7_push 34 = .ok (.dup, 1) := by decide +kernel
theorem dX7_push_35 : decode cX7_push 35 = .ok (.getfield 13, 3) := by decide +kernel
theorem dX7_push_38 : decode cX7_push 38 = .ok (.iconst 1, 1) := by decide +kernel
theorem dX7_push_39 : decode cX7_push 39 = .ok (.iadd, 1) := by decide +kernel
theorem dX7_push_40 : decode cX7_push 40 = .ok (.putfield 13, 3) := by decide +kernel
theorem dX7_push_43 : decode cX7_push 43 = .ok (.iinc 2 (-8), 3) := by decide +kernel
theorem dX7_push_46 : decode cX7_push 46 = .ok (.goto (-43), 3) := by decide +kernel
theorem dX7_push_49 : decode cX7_push 49 = .ok (.return_, 1) := by decide +kernel
theorem dX8_init_0 : decode cX8_init 0 = .ok (.aload_n 0, 1) := by decide +kernel
theorem dX8_init_1 : decode cX8_init 1 = .ok (.invokespecial 3, 3) := by decide +kernel
theorem dX8_init_4 : decode cX8_init 4 = .ok (.aload_n 0, 1) := by decide +kernel
theorem dX8_init_5 : decode cX8_init 5 = .ok (.bipush 24, 2) := by decide +kernel
theorem dX8_init_7 : decode cX8_init 7 = .ok (.newarray .int, 2) := by decide +kernel
theorem dX8_init_9 : decode cX8_init 9 = .ok (.putfield 9, 3) := by decide +kernel
theorem dX8_init_12 : decode cX8_init 12 = .ok (.aload_n 0, 1) := by decide +kernel
theorem dX8_init_13 : decode cX8_init 13 = .ok (.iconst 0, 1) := by decide +kernel
theorem dX8_init_14 : decode cX8_init 14 = .ok (.putfield 15, 3) := by decide +kernel
theorem dX8_init_17 : decode cX8_init 17 = .ok (.aload_n 0, 1) := by decide +kernel
theorem dX8_init_18 : decode cX8_init 18 = .ok (.iconst 0, 1) := by decide +kernel
theorem dX8_init_19 : decode cX8_init 19 = .ok (.putfield 19, 3) := by decide +kernel
theorem dX8_init_22 : decode cX8_init 22 = .ok (.aload_n 0, 1) := by decide +kernel
theorem dX8_init_23 : decode cX8_init 23 = .ok (.iconst (-1), 1) := by decide +kernel
theorem dX8_init_24 : decode cX8_init 24 = .ok (.putfield 22, 3) := by decide +kernel
theorem dX8_init_27 : decode cX8_init 27 = .ok (.return_, 1) := by decide +kernel
theorem dX8_read_0 : decode cX8_read 0 = .ok (.aload_n 0, 1) := by decide +kernel
theorem dX8_read_1 : decode cX8_read 1 = .ok (.iconst 0, 1) := by decide +kernel
theorem dX8_read_2 : decode cX8_read 2 = .ok (.putfield 15, 3) := by decide +kernel
theorem dX8_read_5 : decode cX8_read 5 = .ok (.aload_n 0, 1) := by decide +kernel
theorem dX8_read_6 : decode cX8_read 6 = .ok (.iconst 0, 1) := by decide +kernel
theorem dX8_read_7 : decode cX8_read 7 = .ok (.putfield 19, 3) := by decide +kernel
theorem dX8_read_10 : decode cX8_read 10 = .ok (.aload_n 0, 1) := by decide +kernel
theorem dX8_read_11 : decode cX8_read 11 = .ok (.iconst (-1), 1) := by decide +kernel
theorem dX8_read_12 : decode cX8_read 12 = .ok (.putfield 22, 3) := by decide +kernel
theorem dX8_read_15 : decode cX8_read 15 = .ok (.iconst 0, 1) := by decide +kernel
theorem dX8_read_16 : decode cX8_read 16 = .ok (.istore_n 2, 1) := by decide +kernel
theorem dX8_read_17 : decode cX8_read 17 = .ok (.iconst 0, 1) := by decide +kernel
theorem dX8_read_18 : decode cX8_read 18 = .ok (.istore_n 3, 1) := by decide +kernel
theorem dX8_read_19 : decode cX8_read 19 = .ok (.iload_n 3, 1) := by decide +kernel
theorem dX8_read_20 : decode cX8_read 20 = .ok (.aload_n 1, 1) := by decide +kernel
theorem dX8_read_21 : decode cX8_read 21 = .ok (.getfield 25, 3) := by decide +kernel
theorem dX8_read_24 : decode cX8_read 24 = .ok (.if_icmp .ge 135, 3) := by decide +kernel
theorem dX8_read_27 : decode cX8_read 27 = .ok (.aload_n 0, 1) := by decide +kernel
theorem dX8_read_28 : decode cX8_read 28 = .ok (.getfield 19, 3) := by decide +kernel
theorem dX8_read_31 : decode cX8_read 31 = .ok (.ifCond .ne 128, 3) := by decide +kernel
theorem dX8_read_34 : decode cX8_read 34 = .ok (.aload_n 1, 1) := by decide +kernel
theorem dX8_read_35 : decode cX8_read 35 = .ok (.iload_n 3, 1) := by decide +kernel
theorem dX8_read_36 : decode cX8_read 36 = .ok (.invokestatic 30, 3) := by decide +kernel
theorem dX8_read_39 : decode cX8_read 39 = .ok (.istore 4, 2) := by decide +kernel
theorem dX8_read_41 : decode cX8_read 41 = .ok (.iload 4, 2) := by decide +kernel
theorem dX8_read_43 : decode cX8_read 43 = .ok (.ifCond .eq 29, 3) := by decide +kernel
theorem dX8_read_46 : decode cX8_read 46 = .ok (.aload_n 0, 1) := by decide +kernel
theorem dX8_read_47 : decode cX8_read 47 = .ok (.iload_n 2, 1) := by decide +kernel
theorem dX8_read_48 : decode cX8_read 48 = .ok (.iload 4, 2) := by decide +kernel
theorem dX8_read_50 : decode cX8_read 50 = .ok (.iand, 1) := by decide +kernel
theorem dX8_read_51 : decode cX8_read 51 = .ok (.ifCond .eq 7, 3) := by decide +kernel
theorem dX8_read_54 : decode cX8_read 54 = .ok (.iconst 1, 1) := by decide +kernel
theorem dX8_read_55 : decode cX8_read 55 = .ok (.goto 4, 3) := by decide +kernel
theorem dX8_read_58 : decode cX8_read 58 = .ok (.iconst 0, 1) := by decide +kernel
theorem dX8_read_59 : decode cX8_read 59 = .ok (.iconst 4, 1) := by decide +kernel
theorem dX8_read_60 : decode cX8_read 60 = .ok (.iload_n 3, 1) := by decide +kernel
theorem dX8_read_61 : decode cX8_read 61 = .ok (.invokevirtual 34, 3) := by decide +kernel
theorem dX8_read_64 : decode cX8_read 64 = .ok (.iload_n 2, 1) := by decide +kernel
theorem dX8_read_65 : decode cX8_read 65 = .ok (.iload 4, 2) := by decide +kernel
theorem dX8_read_67 : decode cX8_read 67 = .ok (.ior, 1) := by decide +kernel
theorem dX8_read_68 : decode cX8_read 68 = .ok (.istore_n 2, 1) := by decide +kernel
theorem dX8_read_69 : decode cX8_read 69 = .ok (.goto 84, 3) := by decide +kernel
theorem dX8_read_72 : decode cX8_read 72 = .ok (.aload_n 1, 1) := by decide +kernel
theorem dX8_read_73 : decode cX8_read 73 = .ok (.getfield 38, 3) := by decide +kernel
theorem dX8_read_76 : decode cX8_read 76 = .ok (.iload_n 3, 1) := by decide +kernel
theorem dX8_read_77 : decode cX8_read 77 = .ok (.iaload, 1) := by decide +kernel
theorem dX8_read_78 : decode cX8_read 78 = .ok (.bipush 59, 2) := by decide +kernel
theorem dX8_read_80 : decode cX8_read 80 = .ok (.if_icmp .ne 50, 3) := by decide +kernel
theorem dX8_read_83 : decode cX8_read 83 = .ok (.aload_n 0, 1) := by decide +kernel
theorem dX8_read_84 : decode cX8_read 84 = .ok (.iload_n 2, 1) := by decide +kernel
theorem dX8_read_85 : decode cX8_read 85 = .ok (.ifCond .ne 7, 3) := by decide +kernel
theorem dX8_read_88 : decode cX8_read 88 = .ok (.iconst 1, 1) := by decide +kernel
theorem dX8_read_89 : decode cX8_read 89 = .ok (.goto 4, 3) := by decide +kernel
theorem dX8_read_92 : decode cX8_read 92 = .ok (.iconst 0, 1) := by decide +kernel
theorem dX8_read_93 : decode cX8_read 93 = .ok (.iconst 2, 1) := by decide +kernel
theorem dX8_read_94 : decode cX8_read 94 = .ok (.iload_n 3, 1) := by decide +kernel
theorem dX8_read_95 : decode cX8_read 95 = .ok (.invokevirtual 34, 3) := by decide +kernel
theorem dX8_read_98 : decode cX8_read 98 = .ok (.aload_n 0, 1) := by decide +kernel
theorem dX8_read_99 : decode cX8_read 99 = .ok (.aload_n 0, 1) := by decide +kernel
theorem dX8_read_100 : decode cX8_read 100 = .ok (.getfield 15, 3) := by decide +kernel
theorem dX8_read_103 : decode cX8_read 103 = .ok (.iconst 1, 1) := by decide +kernel
theorem dX8_read_104 : decode cX8_read 104 = .ok (.iadd, 1) := by decide +kernel
theorem dX8_read_105 : decode cX8_read 105 = .ok (.bipush 24, 2) := by decide +kernel
theorem dX8_read_107 : decode cX8_read 107 = .ok (.if_icmp .lt 7, 3) := by decide +kernel
theorem dX8_read_110 : decode cX8_read 110 = .ok (.iconst 1, 1) := by decide +kernel
theorem dX8_read_111 : decode cX8_read 111 = .ok (.goto 4, 3) := by decide +kernel
theorem dX8_read_114 : decode cX8_read 114 = .ok (.iconst 0, 1) := by decide +kernel
theorem dX8_read_115 : decode cX8_read 115 = .ok (.iconst 3, 1) := by decide +kernel
theorem dX8_read_116 : decode cX8_read 116 = .ok (.iload_n 3, 1) := by decide +kernel
theorem dX8_read_117 : decode cX8_read 117 = .ok (.invokevirtual 34, 3) := by decide +kernel
theorem dX8_read_120 : decode cX8_read 120 = .ok (.aload_n 0, 1) := by decide +kernel
theorem dX8_read_121 : decode cX8_read 121 = .ok (.iload_n 2, 1) := by decide +kernel
theorem dX8_read_122 : decode cX8_read 122 = .ok (.invokevirtual 41, 3) := by decide +kernel
theorem dX8_read_125 : decode cX8_read 125 = .ok (.iconst 0, 1) := by decide +kernel
theorem dX8_read_126 : decode cX8_read 126 = .ok (.istore_n 2, 1) := by decide +kernel
theorem dX8_read_127 : decode cX8_read 127 = .ok (.goto 26, 3) := by decide +kernel
theorem dX8_read_130 : decode cX8_read 130 = .ok (.aload_n 0, 1) := by decide +kernel
theorem dX8_read_131 : decode cX8_read 131 = .ok (.aload_n 1, 1) := by decide +kernel
theorem dX8_read_132 : decode cX8_read 132 = .ok (.getfield 38, 3) := by decide +kernel
theorem dX8_read_135 : decode cX8_read 135 = .ok (.iload_n 3, 1) := by decide +kernel
theorem dX8_read_136 : decode cX8_read 136 = .ok (.iaload, 1) := by decide +kernel
theorem dX8_read_137 : decode cX8_read 137 = .ok (.invokestatic 45, 3) := by decide +kernel
theorem dX8_read_140 : decode cX8_read 140 = .ok (.ifCond .ne 7, 3) := by decide +kernel
theorem dX8_read_143 : decode cX8_read 143 = .ok (.iconst 1, 1) := by decide +kernel
theorem dX8_read_144 : decode cX8_read 144 = .ok (.goto 4, 3) := by decide +kernel
theorem dX8_read_147 : decode cX8_read 147 = .ok (.iconst 0, 1) := by decide +kernel
theorem dX8_read_148 : decode cX8_read 148 = .ok (.iconst 1, 1) := by decide +kernel
theorem dX8_read_149 : decode cX8_read 149 = .ok (.iload_n 3, 1) := by decide +kernel
theorem dX8_read_150 : decode cX8_read 150 = .ok (.invokevirtual 34, 3) := by decide +kernel
theorem dX8_read_153 : decode cX8_read 153 = .ok (.iinc 3 1, 3) := by decide +kernel
theorem dX8_read_156 : decode cX8_read 156 = .ok (.goto (-137), 3) := by decide +kernel
theorem dX8_read_159 : decode cX8_read 159 = .ok (.aload_n 0, 1) := by decide +kernel
theorem dX8_read_160 : decode cX8_read 160 = .ok (.iload_n 2, 1) := by decide +kernel
theorem dX8_read_161 : decode cX8_read 161 = .ok (.ifCond .ne 7, 3) := by decide +kernel
theorem dX8_read_164 : decode cX8_read 164 = .ok (.iconst 1, 1) := by decide +kernel
theorem dX8_read_165 : decode cX8_read 165 = .ok (.goto 4, 3) := by decide +kernel
theorem dX8_read_168 : decode cX8_read 168 = .ok (.iconst 0, 1) := by decide +kernel
theorem dX8_read_169 : decode cX8_read 169 = .ok (.iconst 2, 1) := by decide +kernel
theorem dX8_read_170 : decode cX8_read 170 = .ok (.aload_n 1, 1) := by decide +kernel
theorem dX8_read_171 : decode cX8_read 171 = .ok (.getfield 25, 3) := by decide +kernel
theorem dX8_read_174 : decode cX8_read 174 = .ok (.invokevirtual 34, 3) := by decide +kernel
theorem dX8_read_177 : decode cX8_read 177 = .ok (.aload_n 0, 1) := by decide +kernel
theorem dX8_read_178 : decode cX8_read 178 = .ok (.iload_n 2, 1) := by decide +kernel
theorem dX8_read_179 : decode cX8_read 179 = .ok (.invokevirtual 41, 3) := by decide +kernel
theorem dX8_read_182 : decode cX8_read 182 = .ok (.return_, 1) := by decide +kernel
theorem dX8_readSigns_0 : decode cX8_readSigns 0 = .ok (.iconst 0, 1) := by decide +kernel
theorem dX8_readSigns_1 : decode cX8_readSigns 1 = .ok (.istore_n 2, 1) := by decide +kernel
theorem dX8_readSigns_2 : decode cX8_readSigns 2 = .ok (.iconst 0, 1) := by decide +kernel
theorem dX8_readSigns_3 : decode cX8_readSigns 3 = .ok (.istore_n 3, 1) := by decide +kernel
theorem dX8_readSigns_4 : decode cX8_readSigns 4 = .ok (.iload_n 3, 1) := by decide +kernel
theorem dX8_readSigns_5 : decode cX8_readSigns 5 = .ok (.aload_n 1, 1) := by decide +kernel
theorem dX8_readSigns_6 : decode cX8_readSigns 6 = .ok (.getfield 25, 3) := by decide +kernel
theorem dX8_readSigns_9 : decode cX8_readSigns 9 = .ok (.if_icmp .ge 55, 3) := by decide +kernel
theorem dX8_readSigns_12 : decode cX8_readSigns 12 = .ok (.aload_n 1, 1) := by decide +kernel
theorem dX8_readSigns_13 : decode cX8_readSigns 13 = .ok (.iload_n 3, 1) := by decide +kernel
theorem dX8_readSigns_14 : decode cX8_readSigns 14 = .ok (.invokestatic 30, 3) := by decide +kernel
theorem dX8_readSigns_17 : decode cX8_readSigns 17 = .ok (.istore 4, 2) := by decide +kernel
theorem dX8_readSigns_19 : decode cX8_readSigns 19 = .ok (.iload 4, 2) := by decide +kernel
theorem dX8_readSigns_21 : decode cX8_readSigns 21 = .ok (.ifCond .eq 23, 3) := by decide +kernel
theorem dX8_readSigns_24 : decode cX8_readSigns 24 = .ok (.iload_n 2, 1) := by decide +kernel
theorem dX8_readSigns_25 : decode cX8_readSigns 25 = .ok (.bipush 6, 2) := by decide +kernel
theorem dX8_readSigns_27 : decode cX8_readSigns 27 = .ok (.if_icmp .ge 17, 3) := by decide +kernel
theorem dX8_readSigns_30 : decode cX8_readSigns 30 = .ok (.aload_n 0, 1) := by decide +kernel
theorem dX8_readSigns_31 : decode cX8_readSigns 31 = .ok (.getfield 9, 3) := by decide +kernel
theorem dX8_readSigns_34 : decode cX8_readSigns 34 = .ok (.iload_n 2, 1) := by decide +kernel
theorem dX8_readSigns_35 : decode cX8_readSigns 35 = .ok (.iload 4, 2) := by decide +kernel
theorem dX8_readSigns_37 : decode cX8_readSigns 37 = .ok (.iastore, 1) := by decide +kernel
theorem dX8_readSigns_38 : decode cX8_readSigns 38 = .ok (.iinc 2 1, 3) := by decide +kernel
theorem dX8_readSigns_41 : decode cX8_readSigns 41 = .ok (.goto 17, 3) := by decide +kernel
theorem dX8_readSigns_44 : decode cX8_readSigns 44 = .ok (.aload_n 1, 1) := by decide +kernel
theorem dX8_readSigns_45 : decode cX8_readSigns 45 = .ok (.getfield 38, 3) := by decide +kernel
theorem dX8_readSigns_48 : decode cX8_readSigns 48 = .ok (.iload_n 3, 1) := by decide +kernel
theorem dX8_readSigns_49 : decode cX8_readSigns 49 = .ok (.iaload, 1) := by decide +kernel
theorem dX8_readSigns_50 : decode cX8_readSigns 50 = .ok (.invokestatic 45, 3) := by decide +kernel
theorem dX8_readSigns_53 : decode cX8_readSigns 53 = .ok (.ifCond .ne 5, 3) := by decide +kernel
theorem dX8_readSigns_56 : decode cX8_readSigns 56 = .ok (.iconst (-1), 1) := by decide +kernel
theorem dX8_readSigns_57 : decode cX8_readSigns 57 = .ok (.ireturn, 1) := by decide +kernel
theorem dX8_readSigns_58 : decode cX8_readSigns 58 = .ok (.iinc 3 1, 3) := by decide +kernel
theorem dX8_readSigns_61 : decode cX8_readSigns 61 = .ok (.goto (-57), 3) := by decide +kernel
theorem dX8_readSigns_64 : decode cX8_readSigns 64 = .ok (.iload_n 2, 1) := by decide +kernel
theorem dX8_readSigns_65 : decode cX8_readSigns 65 = .ok (.ireturn, 1) := by decide +kernel
theorem dX8_blameIf_0 : decode cX8_blameIf 0 = .ok (.iload_n 1, 1) := by decide +kernel
theorem dX8_blameIf_1 : decode cX8_blameIf 1 = .ok (.ifCond .eq 20, 3) := by decide +kernel
theorem dX8_blameIf_4 : decode cX8_blameIf 4 = .ok (.aload_n 0, 1) := by decide +kernel
theorem dX8_blameIf_5 : decode cX8_blameIf 5 = .ok (.getfield 19, 3) := by decide +kernel
theorem dX8_blameIf_8 : decode cX8_blameIf 8 = .ok (.ifCond .ne 13, 3) := by decide +kernel
theorem dX8_blameIf_11 : decode cX8_blameIf 11 = .ok (.aload_n 0, 1) := by decide +kernel
theorem dX8_blameIf_12 : decode cX8_blameIf 12 = .ok (.iload_n 2, 1) := by decide +kernel
theorem dX8_blameIf_13 : decode cX8_blameIf 13 = .ok (.putfield 19, 3) := by decide +kernel
theorem dX8_blameIf_16 : decode cX8_blameIf 16 = .ok (.aload_n 0, 1) := by decide +kernel
theorem dX8_blameIf_17 : decode cX8_blameIf 17 = .ok (.iload_n 3, 1) := by decide +kernel
theorem dX8_blameIf_18 : decode cX8_blameIf 18 = .ok (.putfield 22, 3) := by decide +kernel
theorem dX8_blameIf_21 : decode cX8_blameIf 21 = .ok (.return_, 1) := by decide +kernel
theorem dX8_close_0 : decode cX8_close 0 = .ok (.aload_n 0, 1) := by decide +kernel
theorem dX8_close_1 : decode cX8_close 1 = .ok (.getfield 19, 3) := by decide +kernel
theorem dX8_close_4 : decode cX8_close 4 = .ok (.ifCond .ne 32, 3) := by decide +kernel
theorem dX8_close_7 : decode cX8_close 7 = .ok (.aload_n 0, 1) := by decide +kernel
theorem dX8_close_8 : decode cX8_close 8 = .ok (.getfield 15, 3) := by decide +kernel
theorem dX8_close_11 : decode cX8_close 11 = .ok (.bipush 24, 2) := by decide +kernel
theorem dX8_close_13 : decode cX8_close 13 = .ok (.if_icmp .ge 23, 3) := by decide +kernel
theorem dX8_close_16 : decode cX8_close 16 = .ok (.aload_n 0, 1) := by decide +kernel
theorem dX8_close_17 : decode cX8_close 17 = .ok (.getfield 9, 3) := by decide +kernel
theorem dX8_close_20 : decode cX8_close 20 = .ok (.aload_n 0, 1) := by decide +kernel
theorem dX8_close_21 : decode cX8_close 21 = .ok (.getfield 15, 3) := by decide +kernel
theorem dX8_close_24 : decode cX8_close 24 = .ok (.iload_n 1, 1) := by decide +kernel
theorem dX8_close_25 : decode cX8_close 25 = .ok (.iastore, 1) := by decide +kernel
theorem dX8_close_26 : decode cX8_close 26 = .ok (.aload_n 0, 1) := by decide +kernel
theorem dX8_close_27 : decode cX8_close 27 = .ok (.dup, 1) := by decide +kernel
theorem dX8_close_28 : decode cX8_close 28 = .ok (.getfield 15, 3) := by decide +kernel
theorem dX8_close_31 : decode cX8_close 31 = .ok (.iconst 1, 1) := by decide +kernel
theorem dX8_close_32 : decode cX8_close 32 = .ok (.iadd, 1) := by decide +kernel
theorem dX8_close_33 : decode cX8_close 33 = .ok (.putfield 15, 3) := by decide +kernel
theorem dX8_close_36 : decode cX8_close 36 = .ok (.return_, 1) := by decide +kernel
theorem dX8_signAt_0 : decode cX8_signAt 0 = .ok (.aload_n 0, 1) := by decide +kernel
theorem dX8_signAt_1 : decode cX8_signAt 1 = .ok (.getfield 38, 3) := by decide +kernel
theorem dX8_signAt_4 : decode cX8_signAt 4 = .ok (.iload_n 1, 1) := by decide +kernel
theorem dX8_signAt_5 : decode cX8_signAt 5 = .ok (.iaload, 1) := by decide +kernel
theorem dX8_signAt_6 : decode cX8_signAt 6 = .ok (.bipush 97, 2) := by decide +kernel
theorem dX8_signAt_8 : decode cX8_signAt 8 = .ok (.isub, 1) := by decide +kernel
theorem dX8_signAt_9 : decode cX8_signAt 9 = .ok (.istore_n 2, 1) := by decide +kernel
theorem dX8_signAt_10 : decode cX8_signAt 10 = .ok (.iload_n 2, 1) := by decide +kernel
theorem dX8_signAt_11 : decode cX8_signAt 11 = .ok (.ifCond .lt 9, 3) := by decide +kernel
theorem dX8_signAt_14 : decode cX8_signAt 14 = .ok (.iload_n 2, 1) := by decide +kernel
theorem dX8_signAt_15 : decode cX8_signAt 15 = .ok (.bipush 24, 2) := by decide +kernel
theorem dX8_signAt_17 : decode cX8_signAt 17 = .ok (.if_icmp .lt 7, 3) := by decide +kernel
theorem dX8_signAt_20 : decode cX8_signAt 20 = .ok (.iconst 0, 1) := by decide +kernel
theorem dX8_signAt_21 : decode cX8_signAt 21 = .ok (.goto 6, 3) := by decide +kernel
theorem dX8_signAt_24 : decode cX8_signAt 24 = .ok (.iconst 1, 1) := by decide +kernel
theorem dX8_signAt_25 : decode cX8_signAt 25 = .ok (.iload_n 2, 1) := by decide +kernel
theorem dX8_signAt_26 : decode cX8_signAt 26 = .ok (.ishl, 1) := by decide +kernel
theorem dX8_signAt_27 : decode cX8_signAt 27 = .ok (.ireturn, 1) := by decide +kernel
theorem dX8_isBlank_0 : decode cX8_isBlank 0 = .ok (.iload_n 0, 1) := by decide +kernel
theorem dX8_isBlank_1 : decode cX8_isBlank 1 = .ok (.bipush 32, 2) := by decide +kernel
theorem dX8_isBlank_3 : decode cX8_isBlank 3 = .ok (.if_icmp .eq 9, 3) := by decide +kernel
theorem dX8_isBlank_6 : decode cX8_isBlank 6 = .ok (.iload_n 0, 1) := by decide +kernel
theorem dX8_isBlank_7 : decode cX8_isBlank 7 = .ok (.bipush 10, 2) := by decide +kernel
theorem dX8_isBlank_9 : decode cX8_isBlank 9 = .ok (.if_icmp .ne 7, 3) := by decide +kernel
theorem dX8_isBlank_12 : decode cX8_isBlank 12 = .ok (.iconst 1, 1) := by decide +kernel
theorem dX8_isBlank_13 : decode cX8_isBlank 13 = .ok (.goto 4, 3) := by decide +kernel
theorem dX8_isBlank_16 : decode cX8_isBlank 16 = .ok (.iconst 0, 1) := by decide +kernel
theorem dX8_isBlank_17 : decode cX8_isBlank 17 = .ok (.ireturn, 1) := by decide +kernel
theorem dX9_init_0 : decode cX9_init 0 = .ok (.aload_n 0, 1) := by decide +kernel
theorem dX9_init_1 : decode cX9_init 1 = .ok (.invokespecial 1, 3) := by decide +kernel
theorem dX9_init_4 : decode cX9_init 4 = .ok (.aload_n 0, 1) := by decide +kernel
theorem dX9_init_5 : decode cX9_init 5 = .ok (.new 7, 3) := by decide +kernel
theorem dX9_init_8 : decode cX9_init 8 = .ok (.dup, 1) := by decide +kernel
theorem dX9_init_9 : decode cX9_init 9 = .ok (.invokespecial 9, 3) := by decide +kernel
theorem dX9_init_12 : decode cX9_init 12 = .ok (.putfield 10, 3) := by decide +kernel
theorem dX9_init_15 : decode cX9_init 15 = .ok (.aload_n 0, 1) := by decide +kernel
theorem dX9_init_16 : decode cX9_init 16 = .ok (.new 16, 3) := by decide +kernel
theorem dX9_init_19 : decode cX9_init 19 = .ok (.dup, 1) := by decide +kernel
theorem dX9_init_20 : decode cX9_init 20 = .ok (.invokespecial 18, 3) := by decide +kernel
theorem dX9_init_23 : decode cX9_init 23 = .ok (.putfield 19, 3) := by decide +kernel
theorem dX9_init_26 : decode cX9_init 26 = .ok (.aload_n 0, 1) := by decide +kernel
theorem dX9_init_27 : decode cX9_init 27 = .ok (.bipush 8, 2) := by decide +kernel
theorem dX9_init_29 : decode cX9_init 29 = .ok (.anewarray 23, 3) := by decide +kernel
theorem dX9_init_32 : decode cX9_init 32 = .ok (.putfield 25, 3) := by decide +kernel
theorem dX9_init_35 : decode cX9_init 35 = .ok (.aload_n 0, 1) := by decide +kernel
theorem dX9_init_36 : decode cX9_init 36 = .ok (.bipush 24, 2) := by decide +kernel
theorem dX9_init_38 : decode cX9_init 38 = .ok (.newarray .int, 2) := by decide +kernel
theorem dX9_init_40 : decode cX9_init 40 = .ok (.putfield 29, 3) := by decide +kernel
theorem dX9_init_43 : decode cX9_init 43 = .ok (.aload_n 0, 1) := by decide +kernel
theorem dX9_init_44 : decode cX9_init 44 = .ok (.new 33, 3) := by decide +kernel
theorem dX9_init_47 : decode cX9_init 47 = .ok (.dup, 1) := by decide +kernel
theorem dX9_init_48 : decode cX9_init 48 = .ok (.invokespecial 35, 3) := by decide +kernel
theorem dX9_init_51 : decode cX9_init 51 = .ok (.putfield 36, 3) := by decide +kernel
theorem dX9_init_54 : decode cX9_init 54 = .ok (.aload_n 0, 1) := by decide +kernel
theorem dX9_init_55 : decode cX9_init 55 = .ok (.new 40, 3) := by decide +kernel
theorem dX9_init_58 : decode cX9_init 58 = .ok (.dup, 1) := by decide +kernel
theorem dX9_init_59 : decode cX9_init 59 = .ok (.invokespecial 42, 3) := by decide +kernel
theorem dX9_init_62 : decode cX9_init 62 = .ok (.putfield 43, 3) := by decide +kernel
theorem dX9_init_65 : decode cX9_init 65 = .ok (.aload_n 0, 1) := by decide +kernel
theorem dX9_init_66 : decode cX9_init 66 = .ok (.new 47, 3) := by decide +kernel
theorem dX9_init_69 : decode cX9_init 69 = .ok (.dup, 1) := by decide +kernel
theorem dX9_init_70 : decode cX9_init 70 = .ok (.invokespecial 49, 3) := by decide +kernel
theorem dX9_init_73 : decode cX9_init 73 = .ok (.putfield 50, 3) := by decide +kernel
theorem dX9_init_76 : decode cX9_init 76 = .ok (.aload_n 0, 1) := by decide +kernel
theorem dX9_init_77 : decode cX9_init 77 = .ok (.new 54, 3) := by decide +kernel
theorem dX9_init_80 : decode cX9_init 80 = .ok (.dup, 1) := by decide +kernel
theorem dX9_init_81 : decode cX9_init 81 = .ok (.invokespecial 56, 3) := by decide +kernel
theorem dX9_init_84 : decode cX9_init 84 = .ok (.putfield 57, 3) := by decide +kernel
theorem dX9_init_87 : decode cX9_init 87 = .ok (.aload_n 0, 1) := by decide +kernel
theorem dX9_init_88 : decode cX9_init 88 = .ok (.new 61, 3) := by decide +kernel
theorem dX9_init_91 : decode cX9_init 91 = .ok (.dup, 1) := by decide +kernel
theorem dX9_init_92 : decode cX9_init 92 = .ok (.invokespecial 63, 3) := by decide +kernel
theorem dX9_init_95 : decode cX9_init 95 = .ok (.putfield 64, 3) := by decide +kernel
theorem dX9_init_98 : decode cX9_init 98 = .ok (.aload_n 0, 1) := by decide +kernel
theorem dX9_init_99 : decode cX9_init 99 = .ok (.new 68, 3) := by decide +kernel
theorem dX9_init_102 : decode cX9_init 102 = .ok (.dup, 1) := by decide +kernel
theorem dX9_init_103 : decode cX9_init 103 = .ok (.invokespecial 70, 3) := by decide +kernel
theorem dX9_init_106 : decode cX9_init 106 = .ok (.putfield 71, 3) := by decide +kernel
theorem dX9_init_109 : decode cX9_init 109 = .ok (.aload_n 0, 1) := by decide +kernel
theorem dX9_init_110 : decode cX9_init 110 = .ok (.bipush 24, 2) := by decide +kernel
theorem dX9_init_112 : decode cX9_init 112 = .ok (.newarray .int, 2) := by decide +kernel
theorem dX9_init_114 : decode cX9_init 114 = .ok (.putfield 75, 3) := by decide +kernel
theorem dX9_init_117 : decode cX9_init 117 = .ok (.aload_n 0, 1) := by decide +kernel
theorem dX9_init_118 : decode cX9_init 118 = .ok (.iconst 0, 1) := by decide +kernel
theorem dX9_init_119 : decode cX9_init 119 = .ok (.putfield 78, 3) := by decide +kernel
theorem dX9_init_122 : decode cX9_init 122 = .ok (.aload_n 0, 1) := by decide +kernel
theorem dX9_init_123 : decode cX9_init 123 = .ok (.iconst (-1), 1) := by decide +kernel
theorem dX9_init_124 : decode cX9_init 124 = .ok (.putfield 82, 3) := by decide +kernel
theorem dX9_init_127 : decode cX9_init 127 = .ok (.aload_n 0, 1) := by decide +kernel
theorem dX9_init_128 : decode cX9_init 128 = .ok (.iconst (-1), 1) := by decide +kernel
theorem dX9_init_129 : decode cX9_init 129 = .ok (.putfield 85, 3) := by decide +kernel
theorem dX9_init_132 : decode cX9_init 132 = .ok (.iconst 0, 1) := by decide +kernel
theorem dX9_init_133 : decode cX9_init 133 = .ok (.istore_n 1, 1) := by decide +kernel
theorem dX9_init_134 : decode cX9_init 134 = .ok (.iload_n 1, 1) := by decide +kernel
theorem dX9_init_135 : decode cX9_init 135 = .ok (.bipush 8, 2) := by decide +kernel
theorem dX9_init_137 : decode cX9_init 137 = .ok (.if_icmp .ge 22, 3) := by decide +kernel
theorem dX9_init_140 : decode cX9_init 140 = .ok (.aload_n 0, 1) := by decide +kernel
theorem dX9_init_141 : decode cX9_init 141 = .ok (.getfield 25, 3) := by decide +kernel
theorem dX9_init_144 : decode cX9_init 144 = .ok (.iload_n 1, 1) := by decide +kernel
theorem dX9_init_145 : decode cX9_init 145 = .ok (.new 23, 3) := by decide +kernel
theorem dX9_init_148 : decode cX9_init 148 = .ok (.dup, 1) := by decide +kernel
theorem dX9_init_149 : decode cX9_init 149 = .ok (.invokespecial 88, 3) := by decide +kernel
theorem dX9_init_152 : decode cX9_init 152 = .ok (.aastore, 1) := by decide +kernel
theorem dX9_init_153 : decode cX9_init 153 = .ok (.iinc 1 1, 3) := by decide +kernel
theorem dX9_init_156 : decode cX9_init 156 = .ok (.goto (-22), 3) := by decide +kernel
theorem dX9_init_159 : decode cX9_init 159 = .ok (.return_, 1) := by decide +kernel
theorem dX9_feed_0 : decode cX9_feed 0 = .ok (.aload_n 0, 1) := by decide +kernel
theorem dX9_feed_1 : decode cX9_feed 1 = .ok (.getfield 10, 3) := by decide +kernel
theorem dX9_feed_4 : decode cX9_feed 4 = .ok (.bipush 20, 2) := by decide +kernel
theorem dX9_feed_6 : decode cX9_feed 6 = .ok (.invokevirtual 89, 3) := by decide +kernel
theorem dX9_feed_9 : decode cX9_feed 9 = .ok (.ifCond .ne 6, 3) := by decide +kernel
theorem dX9_feed_12 : decode cX9_feed 12 = .ok (.bipush (-3), 2) := by decide +kernel
theorem dX9_feed_14 : decode cX9_feed 14 = .ok (.ireturn, 1) := by decide +kernel
theorem dX9_feed_15 : decode cX9_feed 15 = .ok (.aload_n 0, 1) := by decide +kernel
theorem dX9_feed_16 : decode cX9_feed 16 = .ok (.getfield 10, 3) := by decide +kernel
theorem dX9_feed_19 : decode cX9_feed 19 = .ok (.iload_n 1, 1) := by decide +kernel
theorem dX9_feed_20 : decode cX9_feed 20 = .ok (.invokevirtual 93, 3) := by decide +kernel
theorem dX9_feed_23 : decode cX9_feed 23 = .ok (.aload_n 0, 1) := by decide +kernel
theorem dX9_feed_24 : decode cX9_feed 24 = .ok (.getfield 10, 3) := by decide +kernel
theorem dX9_feed_27 : decode cX9_feed 27 = .ok (.iload_n 2, 1) := by decide +kernel
theorem dX9_feed_28 : decode cX9_feed 28 = .ok (.invokevirtual 93, 3) := by decide +kernel
theorem dX9_feed_31 : decode cX9_feed 31 = .ok (.aload_n 0, 1) := by decide +kernel
theorem dX9_feed_32 : decode cX9_feed 32 = .ok (.getfield 10, 3) := by decide +kernel
theorem dX9_feed_35 : decode cX9_feed 35 = .ok (.iload_n 3, 1) := by decide +kernel
theorem dX9_feed_36 : decode cX9_feed 36 = .ok (.invokevirtual 93, 3) := by decide +kernel
theorem dX9_feed_39 : decode cX9_feed 39 = .ok (.aload_n 0, 1) := by decide +kernel
theorem dX9_feed_40 : decode cX9_feed 40 = .ok (.getfield 10, 3) := by decide +kernel
theorem dX9_feed_43 : decode cX9_feed 43 = .ok (.iload 4, 2) := by decide +kernel
theorem dX9_feed_45 : decode cX9_feed 45 = .ok (.invokevirtual 93, 3) := by decide +kernel
theorem dX9_feed_48 : decode cX9_feed 48 = .ok (.aload_n 0, 1) := by decide +kernel
theorem dX9_feed_49 : decode cX9_feed 49 = .ok (.getfield 10, 3) := by decide +kernel
theorem dX9_feed_52 : decode cX9_feed 52 = .ok (.iload 5, 2) := by decide +kernel
theorem dX9_feed_54 : decode cX9_feed 54 = .ok (.invokevirtual 93, 3) := by decide +kernel
theorem dX9_feed_57 : decode cX9_feed 57 = .ok (.aload_n 0, 1) := by decide +kernel
theorem dX9_feed_58 : decode cX9_feed 58 = .ok (.getfield 10, 3) := by decide +kernel
theorem dX9_feed_61 : decode cX9_feed 61 = .ok (.getfield 97, 3) := by decide +kernel
theorem dX9_feed_64 : decode cX9_feed 64 = .ok (.ireturn, 1) := by decide +kernel
theorem dX9_end_0 : decode cX9_end 0 = .ok (.iload_n 1, 1) := by decide +kernel
theorem dX9_end_1 : decode cX9_end 1 = .ok (.ifCond .lt 14, 3) := by decide +kernel
theorem dX9_end_4 : decode cX9_end 4 = .ok (.iload_n 1, 1) := by decide +kernel
theorem dX9_end_5 : decode cX9_end 5 = .ok (.aload_n 0, 1) := by decide +kernel
theorem dX9_end_6 : decode cX9_end 6 = .ok (.getfield 10, 3) := by decide +kernel
theorem dX9_end_9 : decode cX9_end 9 = .ok (.getfield 97, 3) := by decide +kernel
theorem dX9_end_12 : decode cX9_end 12 = .ok (.if_icmp .le 5, 3) := by decide +kernel
theorem dX9_end_15 : decode cX9_end 15 = .ok (.iconst (-1), 1) := by decide +kernel
theorem dX9_end_16 : decode cX9_end 16 = .ok (.ireturn, 1) := by decide +kernel
theorem dX9_end_17 : decode cX9_end 17 = .ok (.aload_n 0, 1) := by decide +kernel
theorem dX9_end_18 : decode cX9_end 18 = .ok (.getfield 10, 3) := by decide +kernel
theorem dX9_end_21 : decode cX9_end 21 = .ok (.iload_n 1, 1) := by decide +kernel
theorem dX9_end_22 : decode cX9_end 22 = .ok (.putfield 97, 3) := by decide +kernel
theorem dX9_end_25 : decode cX9_end 25 = .ok (.iload_n 1, 1) := by decide +kernel
theorem dX9_end_26 : decode cX9_end 26 = .ok (.ireturn, 1) := by decide +kernel
theorem dX9_net_0 : decode cX9_net 0 = .ok (.aload_n 0, 1) := by decide +kernel
theorem dX9_net_1 : decode cX9_net 1 = .ok (.iload_n 1, 1) := by decide +kernel
theorem dX9_net_2 : decode cX9_net 2 = .ok (.invokevirtual 100, 3) := by decide +kernel
theorem dX9_net_5 : decode cX9_net 5 = .ok (.astore_n 3, 1) := by decide +kernel
theorem dX9_net_6 : decode cX9_net 6 = .ok (.aload_n 3, 1) := by decide +kernel
theorem dX9_net_7 : decode cX9_net 7 = .ok (.ifnull 14, 3) := by decide +kernel
theorem dX9_net_10 : decode cX9_net 10 = .ok (.iload_n 2, 1) := by decide +kernel
theorem dX9_net_11 : decode cX9_net 11 = .ok (.iconst 1, 1) := by decide +kernel
theorem dX9_net_12 : decode cX9_net 12 = .ok (.if_icmp .lt 9, 3) := by decide +kernel
theorem dX9_net_15 : decode cX9_net 15 = .ok (.iload_n 2, 1) := by decide +kernel
theorem dX9_net_16 : decode cX9_net 16 = .ok (.bipush 24, 2) := by decide +kernel
theorem dX9_net_18 : decode cX9_net 18 = .ok (.if_icmp .le 6, 3) := by decide +kernel
theorem dX9_net_21 : decode cX9_net 21 = .ok (.bipush (-2), 2) := by decide +kernel
theorem dX9_net_23 : decode cX9_net 23 = .ok (.ireturn, 1) := by decide +kernel
theorem dX9_net_24 : decode cX9_net 24 = .ok (.aload_n 3, 1) := by decide +kernel
theorem dX9_net_25 : decode cX9_net 25 = .ok (.iconst 0, 1) := by decide +kernel
theorem dX9_net_26 : decode cX9_net 26 = .ok (.iload_n 2, 1) := by decide +kernel
theorem dX9_net_27 : decode cX9_net 27 = .ok (.invokevirtual 104, 3) := by decide +kernel
theorem dX9_net_30 : decode cX9_net 30 = .ok (.iload_n 2, 1) := by decide +kernel
theorem dX9_net_31 : decode cX9_net 31 = .ok (.ireturn, 1) := by decide +kernel
theorem dX9_mistake_0 : decode cX9_mistake 0 = .ok (.aload_n 0, 1) := by decide +kernel
theorem dX9_mistake_1 : decode cX9_mistake 1 = .ok (.iload_n 1, 1) := by decide +kernel
theorem dX9_mistake_2 : decode cX9_mistake 2 = .ok (.invokevirtual 100, 3) := by decide +kernel
theorem dX9_mistake_5 : decode cX9_mistake 5 = .ok (.astore 5, 2) := by decide +kernel
theorem dX9_mistake_7 : decode cX9_mistake 7 = .ok (.aload 5, 2) := by decide +kernel
theorem dX9_mistake_9 : decode cX9_mistake 9 = .ok (.ifnull 26, 3) := by decide +kernel
theorem dX9_mistake_12 : decode cX9_mistake 12 = .ok (.aload 5, 2) := by decide +kernel
theorem dX9_mistake_14 : decode cX9_mistake 14 = .ok (.iload_n 2, 1) := by decide +kernel
theorem dX9_mistake_15 : decode cX9_mistake 15 = .ok (.invokevirtual 108, 3) := by decide +kernel
theorem dX9_mistake_18 : decode cX9_mistake 18 = .ok (.ifCond .eq 17, 3) := by decide +kernel
theorem dX9_mistake_21 : decode cX9_mistake 21 = .ok (.aload 5, 2) := by decide +kernel
theorem dX9_mistake_23 : decode cX9_mistake 23 = .ok (.iload_n 3, 1) := by decide +kernel
theorem dX9_mistake_24 : decode cX9_mistake 24 = .ok (.invokevirtual 108, 3) := by decide +kernel
theorem dX9_mistake_27 : decode cX9_mistake 27 = .ok (.ifCond .eq 8, 3) := by decide +kernel
theorem dX9_mistake_30 : decode cX9_mistake 30 = .ok (.iload_n 2, 1) := by decide +kernel
theorem dX9_mistake_31 : decode cX9_mistake 31 = .ok (.iload_n 3, 1) := by decide +kernel
theorem dX9_mistake_32 : decode cX9_mistake 32 = .ok (.if_icmp .ne 6, 3) := by decide +kernel
theorem dX9_mistake_35 : decode cX9_mistake 35 = .ok (.bipush (-2), 2) := by decide +kernel
theorem dX9_mistake_37 : decode cX9_mistake 37 = .ok (.ireturn, 1) := by decide +kernel
theorem dX9_mistake_38 : decode cX9_mistake 38 = .ok (.aload 5, 2) := by decide +kernel
theorem dX9_mistake_40 : decode cX9_mistake 40 = .ok (.getfield 111, 3) := by decide +kernel
theorem dX9_mistake_43 : decode cX9_mistake 43 = .ok (.ifCond .eq 6, 3) := by decide +kernel
theorem dX9_mistake_46 : decode cX9_mistake 46 = .ok (.bipush (-4), 2) := by decide +kernel
theorem dX9_mistake_48 : decode cX9_mistake 48 = .ok (.ireturn, 1) := by decide +kernel
theorem dX9_mistake_49 : decode cX9_mistake 49 = .ok (.aload 5, 2) := by decide +kernel
theorem dX9_mistake_51 : decode cX9_mistake 51 = .ok (.iload_n 2, 1) := by decide +kernel
theorem dX9_mistake_52 : decode cX9_mistake 52 = .ok (.iload_n 3, 1) := by decide +kernel
theorem dX9_mistake_53 : decode cX9_mistake 53 = .ok (.invokevirtual 114, 3) := by decide +kernel
theorem dX9_mistake_56 : decode cX9_mistake 56 = .ok (.iload 4, 2) := by decide +kernel
theorem dX9_mistake_58 : decode cX9_mistake 58 = .ok (.if_icmp .ne 5, 3) := by decide +kernel
theorem dX9_mistake_61 : decode cX9_mistake 61 = .ok (.iconst 0, 1) := by decide +kernel
theorem dX9_mistake_62 : decode cX9_mistake 62 = .ok (.ireturn, 1) := by decide +kernel
theorem dX9_mistake_63 : decode cX9_mistake 63 = .ok (.aload 5, 2) := by decide +kernel
theorem dX9_mistake_65 : decode cX9_mistake 65 = .ok (.iload_n 2, 1) := by decide +kernel
theorem dX9_mistake_66 : decode cX9_mistake 66 = .ok (.iload_n 3, 1) := by decide +kernel
theorem dX9_mistake_67 : decode cX9_mistake 67 = .ok (.invokevirtual 118, 3) := by decide +kernel
theorem dX9_mistake_70 : decode cX9_mistake 70 = .ok (.aload 5, 2) := by decide +kernel
theorem dX9_mistake_72 : decode cX9_mistake 72 = .ok (.invokevirtual 121, 3) := by decide +kernel
theorem dX9_mistake_75 : decode cX9_mistake 75 = .ok (.iconst 1, 1) := by decide +kernel
theorem dX9_mistake_76 : decode cX9_mistake 76 = .ok (.ireturn, 1) := by decide +kernel
theorem dX9_ring_0 : decode cX9_ring 0 = .ok (.aload_n 0, 1) := by decide +kernel
theorem dX9_ring_1 : decode cX9_ring 1 = .ok (.iload_n 1, 1) := by decide +kernel
theorem dX9_ring_2 : decode cX9_ring 2 = .ok (.invokevirtual 100, 3) := by decide +kernel
theorem dX9_ring_5 : decode cX9_ring 5 = .ok (.astore_n 3, 1) := by decide +kernel
theorem dX9_ring_6 : decode cX9_ring 6 = .ok (.aload_n 3, 1) := by decide +kernel
theorem dX9_ring_7 : decode cX9_ring 7 = .ok (.ifnull 14, 3) := by decide +kernel
theorem dX9_ring_10 : decode cX9_ring 10 = .ok (.iload_n 2, 1) := by decide +kernel
theorem dX9_ring_11 : decode cX9_ring 11 = .ok (.iconst 3, 1) := by decide +kernel
theorem dX9_ring_12 : decode cX9_ring 12 = .ok (.if_icmp .lt 9, 3) := by decide +kernel
theorem dX9_ring_15 : decode cX9_ring 15 = .ok (.iload_n 2, 1) := by decide +kernel
theorem dX9_ring_16 : decode cX9_ring 16 = .ok (.bipush 24, 2) := by decide +kernel
theorem dX9_ring_18 : decode cX9_ring 18 = .ok (.if_icmp .le 6, 3) := by decide +kernel
theorem dX9_ring_21 : decode cX9_ring 21 = .ok (.bipush (-2), 2) := by decide +kernel
theorem dX9_ring_23 : decode cX9_ring 23 = .ok (.ireturn, 1) := by decide +kernel
theorem dX9_ring_24 : decode cX9_ring 24 = .ok (.aload_n 3, 1) := by decide +kernel
theorem dX9_ring_25 : decode cX9_ring 25 = .ok (.iconst 2, 1) := by decide +kernel
theorem dX9_ring_26 : decode cX9_ring 26 = .ok (.iload_n 2, 1) := by decide +kernel
theorem dX9_ring_27 : decode cX9_ring 27 = .ok (.invokevirtual 104, 3) := by decide +kernel
theorem dX9_ring_30 : decode cX9_ring 30 = .ok (.iconst 0, 1) := by decide +kernel
theorem dX9_ring_31 : decode cX9_ring 31 = .ok (.istore 4, 2) := by decide +kernel
theorem dX9_ring_33 : decode cX9_ring 33 = .ok (.iload 4, 2) := by decide +kernel
theorem dX9_ring_35 : decode cX9_ring 35 = .ok (.iload_n 2, 1) := by decide +kernel
theorem dX9_ring_36 : decode cX9_ring 36 = .ok (.if_icmp .ge 31, 3) := by decide +kernel
theorem dX9_ring_39 : decode cX9_ring 39 = .ok (.aload_n 3, 1) := by decide +kernel
theorem dX9_ring_40 : decode cX9_ring 40 = .ok (.iload 4, 2) := by decide +kernel
theorem dX9_ring_42 : decode cX9_ring 42 = .ok (.iload 4, 2) := by decide +kernel
theorem dX9_ring_44 : decode cX9_ring 44 = .ok (.iconst 1, 1) := by decide +kernel
theorem dX9_ring_45 : decode cX9_ring 45 = .ok (.iadd, 1) := by decide +kernel
theorem dX9_ring_46 : decode cX9_ring 46 = .ok (.iload_n 2, 1) := by decide +kernel
theorem dX9_ring_47 : decode cX9_ring 47 = .ok (.if_icmp .ge 10, 3) := by decide +kernel
theorem dX9_ring_50 : decode cX9_ring 50 = .ok (.iload 4, 2) := by decide +kernel
theorem dX9_ring_52 : decode cX9_ring 52 = .ok (.iconst 1, 1) := by decide +kernel
theorem dX9_ring_53 : decode cX9_ring 53 = .ok (.iadd, 1) := by decide +kernel
theorem dX9_ring_54 : decode cX9_ring 54 = .ok (.goto 4, 3) := by decide +kernel
theorem dX9_ring_57 : decode cX9_ring 57 = .ok (.iconst 0, 1) := by decide +kernel
theorem dX9_ring_58 : decode cX9_ring 58 = .ok (.invokevirtual 118, 3) := by decide +kernel
theorem dX9_ring_61 : decode cX9_ring 61 = .ok (.iinc 4 1, 3) := by decide +kernel
theorem dX9_ring_64 : decode cX9_ring 64 = .ok (.goto (-31), 3) := by decide +kernel
theorem dX9_ring_67 : decode cX9_ring 67 = .ok (.iload_n 2, 1) := by decide +kernel
theorem dX9_ring_68 : decode cX9_ring 68 = .ok (.ireturn, 1) := by decide +kernel
theorem dX9_told_0 : decode cX9_told 0 = .ok (.aload_n 0, 1) := by decide +kernel
theorem dX9_told_1 : decode cX9_told 1 = .ok (.iload_n 1, 1) := by decide +kernel
theorem dX9_told_2 : decode cX9_told 2 = .ok (.invokevirtual 100, 3) := by decide +kernel
theorem dX9_told_5 : decode cX9_told 5 = .ok (.astore_n 2, 1) := by decide +kernel
theorem dX9_told_6 : decode cX9_told 6 = .ok (.aload_n 2, 1) := by decide +kernel
theorem dX9_told_7 : decode cX9_told 7 = .ok (.ifnonnull 13, 3) := by decide +kernel
theorem dX9_told_10 : decode cX9_told 10 = .ok (.aload_n 0, 1) := by decide +kernel
theorem dX9_told_11 : decode cX9_told 11 = .ok (.getfield 10, 3) := by decide +kernel
theorem dX9_told_14 : decode cX9_told 14 = .ok (.invokevirtual 124, 3) := by decide +kernel
theorem dX9_told_17 : decode cX9_told 17 = .ok (.bipush (-2), 2) := by decide +kernel
theorem dX9_told_19 : decode cX9_told 19 = .ok (.ireturn, 1) := by decide +kernel
theorem dX9_told_20 : decode cX9_told 20 = .ok (.aload_n 0, 1) := by decide +kernel
theorem dX9_told_21 : decode cX9_told 21 = .ok (.getfield 19, 3) := by decide +kernel
theorem dX9_told_24 : decode cX9_told 24 = .ok (.aload_n 0, 1) := by decide +kernel
theorem dX9_told_25 : decode cX9_told 25 = .ok (.getfield 10, 3) := by decide +kernel
theorem dX9_told_28 : decode cX9_told 28 = .ok (.invokevirtual 127, 3) := by decide +kernel
theorem dX9_told_31 : decode cX9_told 31 = .ok (.aload_n 0, 1) := by decide +kernel
theorem dX9_told_32 : decode cX9_told 32 = .ok (.getfield 10, 3) := by decide +kernel
theorem dX9_told_35 : decode cX9_told 35 = .ok (.invokevirtual 124, 3) := by decide +kernel
theorem dX9_told_38 : decode cX9_told 38 = .ok (.aload_n 0, 1) := by decide +kernel
theorem dX9_told_39 : decode cX9_told 39 = .ok (.getfield 19, 3) := by decide +kernel
theorem dX9_told_42 : decode cX9_told 42 = .ok (.getfield 131, 3) := by decide +kernel
theorem dX9_told_45 : decode cX9_told 45 = .ok (.ifCond .eq 5, 3) := by decide +kernel
theorem dX9_told_48 : decode cX9_told 48 = .ok (.iconst (-1), 1) := by decide +kernel
theorem dX9_told_49 : decode cX9_told 49 = .ok (.ireturn, 1) := by decide +kernel
theorem dX9_told_50 : decode cX9_told 50 = .ok (.aload_n 2, 1) := by decide +kernel
theorem dX9_told_51 : decode cX9_told 51 = .ok (.iconst 1, 1) := by decide +kernel
theorem dX9_told_52 : decode cX9_told 52 = .ok (.aload_n 0, 1) := by decide +kernel
theorem dX9_told_53 : decode cX9_told 53 = .ok (.getfield 19, 3) := by decide +kernel
theorem dX9_told_56 : decode cX9_told 56 = .ok (.getfield 134, 3) := by decide +kernel
theorem dX9_told_59 : decode cX9_told 59 = .ok (.invokevirtual 104, 3) := by decide +kernel
theorem dX9_told_62 : decode cX9_told 62 = .ok (.aload_n 2, 1) := by decide +kernel
theorem dX9_told_63 : decode cX9_told 63 = .ok (.aload_n 0, 1) := by decide +kernel
theorem dX9_told_64 : decode cX9_told 64 = .ok (.getfield 19, 3) := by decide +kernel
theorem dX9_told_67 : decode cX9_told 67 = .ok (.getfield 137, 3) := by decide +kernel
theorem dX9_told_70 : decode cX9_told 70 = .ok (.invokevirtual 140, 3) := by decide +kernel
theorem dX9_told_73 : decode cX9_told 73 = .ok (.aload_n 2, 1) := by decide +kernel
theorem dX9_told_74 : decode cX9_told 74 = .ok (.getfield 144, 3) := by decide +kernel
theorem dX9_told_77 : decode cX9_told 77 = .ok (.ireturn, 1) := by decide +kernel
theorem dX9_fault_0 : decode cX9_fault 0 = .ok (.iload_n 1, 1) := by decide +kernel
theorem dX9_fault_1 : decode cX9_fault 1 = .ok (.ifCond .ne 11, 3) := by decide +kernel
theorem dX9_fault_4 : decode cX9_fault 4 = .ok (.aload_n 0, 1) := by decide +kernel
theorem dX9_fault_5 : decode cX9_fault 5 = .ok (.getfield 19, 3) := by decide +kernel
theorem dX9_fault_8 : decode cX9_fault 8 = .ok (.getfield 131, 3) := by decide +kernel
theorem dX9_fault_11 : decode cX9_fault 11 = .ok (.ireturn, 1) := by decide +kernel
theorem dX9_fault_12 : decode cX9_fault 12 = .ok (.iload_n 1, 1) := by decide +kernel
theorem dX9_fault_13 : decode cX9_fault 13 = .ok (.iconst 1, 1) := by decide +kernel
theorem dX9_fault_14 : decode cX9_fault 14 = .ok (.if_icmp .ne 13, 3) := by decide +kernel
theorem dX9_fault_17 : decode cX9_fault 17 = .ok (.aload_n 0, 1) := by decide +kernel
theorem dX9_fault_18 : decode cX9_fault 18 = .ok (.getfield 19, 3) := by decide +kernel
theorem dX9_fault_21 : decode cX9_fault 21 = .ok (.getfield 145, 3) := by decide +kernel
theorem dX9_fault_24 : decode cX9_fault 24 = .ok (.goto 4, 3) := by decide +kernel
theorem dX9_fault_27 : decode cX9_fault 27 = .ok (.iconst (-1), 1) := by decide +kernel
theorem dX9_fault_28 : decode cX9_fault 28 = .ok (.ireturn, 1) := by decide +kernel
theorem dX9_both_0 : decode cX9_both 0 = .ok (.aload_n 0, 1) := by decide +kernel
theorem dX9_both_1 : decode cX9_both 1 = .ok (.iload_n 1, 1) := by decide +kernel
theorem dX9_both_2 : decode cX9_both 2 = .ok (.invokevirtual 100, 3) := by decide +kernel
theorem dX9_both_5 : decode cX9_both 5 = .ok (.astore 4, 2) := by decide +kernel
theorem dX9_both_7 : decode cX9_both 7 = .ok (.aload_n 0, 1) := by decide +kernel
theorem dX9_both_8 : decode cX9_both 8 = .ok (.iload_n 2, 1) := by decide +kernel
theorem dX9_both_9 : decode cX9_both 9 = .ok (.invokevirtual 100, 3) := by decide +kernel
theorem dX9_both_12 : decode cX9_both 12 = .ok (.astore 5, 2) := by decide +kernel
theorem dX9_both_14 : decode cX9_both 14 = .ok (.aload_n 0, 1) := by decide +kernel
theorem dX9_both_15 : decode cX9_both 15 = .ok (.iload_n 3, 1) := by decide +kernel
theorem dX9_both_16 : decode cX9_both 16 = .ok (.invokevirtual 100, 3) := by decide +kernel
theorem dX9_both_19 : decode cX9_both 19 = .ok (.astore 6, 2) := by decide +kernel
theorem dX9_both_21 : decode cX9_both 21 = .ok (.aload 4, 2) := by decide +kernel
theorem dX9_both_23 : decode cX9_both 23 = .ok (.ifnull 13, 3) := by decide +kernel
theorem dX9_both_26 : decode cX9_both 26 = .ok (.aload 5, 2) := by decide +kernel
theorem dX9_both_28 : decode cX9_both 28 = .ok (.ifnull 8, 3) := by decide +kernel
theorem dX9_both_31 : decode cX9_both 31 = .ok (.aload 6, 2) := by decide +kernel
theorem dX9_both_33 : decode cX9_both 33 = .ok (.ifnonnull 6, 3) := by decide +kernel
theorem dX9_both_36 : decode cX9_both 36 = .ok (.bipush (-2), 2) := by decide +kernel
theorem dX9_both_38 : decode cX9_both 38 = .ok (.ireturn, 1) := by decide +kernel
theorem dX9_both_39 : decode cX9_both 39 = .ok (.aload 4, 2) := by decide +kernel
theorem dX9_both_41 : decode cX9_both 41 = .ok (.getfield 144, 3) := by decide +kernel
theorem dX9_both_44 : decode cX9_both 44 = .ok (.aload 5, 2) := by decide +kernel
theorem dX9_both_46 : decode cX9_both 46 = .ok (.getfield 144, 3) := by decide +kernel
theorem dX9_both_49 : decode cX9_both 49 = .ok (.imul, 1) := by decide +kernel
theorem dX9_both_50 : decode cX9_both 50 = .ok (.istore 7, 2) := by decide +kernel
theorem dX9_both_52 : decode cX9_both 52 = .ok (.iload 7, 2) := by decide +kernel
theorem dX9_both_54 : decode cX9_both 54 = .ok (.bipush 24, 2) := by decide +kernel
theorem dX9_both_56 : decode cX9_both 56 = .ok (.if_icmp .le 6, 3) := by decide +kernel
theorem dX9_both_59 : decode cX9_both 59 = .ok (.bipush (-3), 2) := by decide +kernel
theorem dX9_both_61 : decode cX9_both 61 = .ok (.ireturn, 1) := by decide +kernel
theorem dX9_both_62 : decode cX9_both 62 = .ok (.iconst 0, 1) := by decide +kernel
theorem dX9_both_63 : decode cX9_both 63 = .ok (.istore 8, 2) := by decide +kernel
theorem dX9_both_65 : decode cX9_both 65 = .ok (.iload 8, 2) := by decide +kernel
theorem dX9_both_67 : decode cX9_both 67 = .ok (.aload 4, 2) := by decide +kernel
theorem dX9_both_69 : decode cX9_both 69 = .ok (.getfield 144, 3) := by decide +kernel
theorem dX9_both_72 : decode cX9_both 72 = .ok (.if_icmp .ge 66, 3) := by decide +kernel
theorem dX9_both_75 : decode cX9_both 75 = .ok (.iconst 0, 1) := by decide +kernel
theorem dX9_both_76 : decode cX9_both 76 = .ok (.istore 9, 2) := by decide +kernel
theorem dX9_both_78 : decode cX9_both 78 = .ok (.iload 9, 2) := by decide +kernel
theorem dX9_both_80 : decode cX9_both 80 = .ok (.aload 5, 2) := by decide +kernel
theorem dX9_both_82 : decode cX9_both 82 = .ok (.getfield 144, 3) := by decide +kernel
theorem dX9_both_85 : decode cX9_both 85 = .ok (.if_icmp .ge 47, 3) := by decide +kernel
theorem dX9_both_88 : decode cX9_both 88 = .ok (.iload 8, 2) := by decide +kernel
theorem dX9_both_90 : decode cX9_both 90 = .ok (.aload 5, 2) := by decide +kernel
theorem dX9_both_92 : decode cX9_both 92 = .ok (.getfield 144, 3) := by decide +kernel
theorem dX9_both_95 : decode cX9_both 95 = .ok (.imul, 1) := by decide +kernel
theorem dX9_both_96 : decode cX9_both 96 = .ok (.iload 9, 2) := by decide +kernel
theorem dX9_both_98 : decode cX9_both 98 = .ok (.iadd, 1) := by decide +kernel
theorem dX9_both_99 : decode cX9_both 99 = .ok (.istore 10, 2) := by decide +kernel
theorem dX9_both_101 : decode cX9_both 101 = .ok (.aload_n 0, 1) := by decide +kernel
theorem dX9_both_102 : decode cX9_both 102 = .ok (.getfield 29, 3) := by decide +kernel
theorem dX9_both_105 : decode cX9_both 105 = .ok (.iload 10, 2) := by decide +kernel
theorem dX9_both_107 : decode cX9_both 107 = .ok (.aload 4, 2) := by decide +kernel
theorem dX9_both_109 : decode cX9_both 109 = .ok (.iload 8, 2) := by decide +kernel
theorem dX9_both_111 : decode cX9_both 111 = .ok (.aload 5, 2) := by decide +kernel
theorem dX9_both_113 : decode cX9_both 113 = .ok (.iload 9, 2) := by decide +kernel
theorem dX9_both_115 : decode cX9_both 115 = .ok (.invokestatic 148, 3) := by decide +kernel
theorem dX9_both_118 : decode cX9_both 118 = .ok (.iconst 1, 1) := by decide +kernel
theorem dX9_both_119 : decode cX9_both 119 = .ok (.iload 10, 2) := by decide +kernel
theorem dX9_both_121 : decode cX9_both 121 = .ok (.ishl, 1) := by decide +kernel
theorem dX9_both_122 : decode cX9_both 122 = .ok (.iconst (-1), 1) := by decide +kernel
theorem dX9_both_123 : decode cX9_both 123 = .ok (.ixor, 1) := by decide +kernel
theorem dX9_both_124 : decode cX9_both 124 = .ok (.iand, 1) := by decide +kernel
theorem dX9_both_125 : decode cX9_both 125 = .ok (.iastore, 1) := by decide +kernel
theorem dX9_both_126 : decode cX9_both 126 = .ok (.iinc 9 1, 3) := by decide +kernel
theorem dX9_both_129 : decode cX9_both 129 = .ok (.goto (-51), 3) := by decide +kernel
theorem dX9_both_132 : decode cX9_both 132 = .ok (.iinc 8 1, 3) := by decide +kernel
theorem dX9_both_135 : decode cX9_both 135 = .ok (.goto (-70), 3) := by decide +kernel
theorem dX9_both_138 : decode cX9_both 138 = .ok (.aload 6, 2) := by decide +kernel
theorem dX9_both_140 : decode cX9_both 140 = .ok (.iconst 0, 1) := by decide +kernel
theorem dX9_both_141 : decode cX9_both 141 = .ok (.iload 7, 2) := by decide +kernel
theorem dX9_both_143 : decode cX9_both 143 = .ok (.invokevirtual 104, 3) := by decide +kernel
theorem dX9_both_146 : decode cX9_both 146 = .ok (.aload 6, 2) := by decide +kernel
theorem dX9_both_148 : decode cX9_both 148 = .ok (.aload_n 0, 1) := by decide +kernel
theorem dX9_both_149 : decode cX9_both 149 = .ok (.getfield 29, 3) := by decide +kernel
theorem dX9_both_152 : decode cX9_both 152 = .ok (.invokevirtual 152, 3) := by decide +kernel
theorem dX9_both_155 : decode cX9_both 155 = .ok (.iload 7, 2) := by decide +kernel
theorem dX9_both_157 : decode cX9_both 157 = .ok (.ireturn, 1) := by decide +kernel
theorem dX9_either_0 : decode cX9_either 0 = .ok (.aload_n 0, 1) := by decide +kernel
theorem dX9_either_1 : decode cX9_either 1 = .ok (.iload_n 1, 1) := by decide +kernel
theorem dX9_either_2 : decode cX9_either 2 = .ok (.invokevirtual 100, 3) := by decide +kernel
theorem dX9_either_5 : decode cX9_either 5 = .ok (.astore 4, 2) := by decide +kernel
theorem dX9_either_7 : decode cX9_either 7 = .ok (.aload_n 0, 1) := by decide +kernel
theorem dX9_either_8 : decode cX9_either 8 = .ok (.iload_n 2, 1) := by decide +kernel
theorem dX9_either_9 : decode cX9_either 9 = .ok (.invokevirtual 100, 3) := by decide +kernel
theorem dX9_either_12 : decode cX9_either 12 = .ok (.astore 5, 2) := by decide +kernel
theorem dX9_either_14 : decode cX9_either 14 = .ok (.aload_n 0, 1) := by decide +kernel
theorem dX9_either_15 : decode cX9_either 15 = .ok (.iload_n 3, 1) := by decide +kernel
theorem dX9_either_16 : decode cX9_either 16 = .ok (.invokevirtual 100, 3) := by decide +kernel
theorem dX9_either_19 : decode cX9_either 19 = .ok (.astore 6, 2) := by decide +kernel
theorem dX9_either_21 : decode cX9_either 21 = .ok (.aload 4, 2) := by decide +kernel
theorem dX9_either_23 : decode cX9_either 23 = .ok (.ifnull 13, 3) := by decide +kernel
theorem dX9_either_26 : decode cX9_either 26 = .ok (.aload 5, 2) := by decide +kernel
theorem dX9_either_28 : decode cX9_either 28 = .ok (.ifnull 8, 3) := by decide +kernel
theorem dX9_either_31 : decode cX9_either 31 = .ok (.aload 6, 2) := by decide +kernel
theorem dX9_either_33 : decode cX9_either 33 = .ok (.ifnonnull 6, 3) := by decide +kernel
theorem dX9_either_36 : decode cX9_either 36 = .ok (.bipush (-2), 2) := by decide +kernel
theorem dX9_either_38 : decode cX9_either 38 = .ok (.ireturn, 1) := by decide +kernel
theorem dX9_either_39 : decode cX9_either 39 = .ok (.aload 4, 2) := by decide +kernel
theorem dX9_either_41 : decode cX9_either 41 = .ok (.getfield 144, 3) := by decide +kernel
theorem dX9_either_44 : decode cX9_either 44 = .ok (.aload 5, 2) := by decide +kernel
theorem dX9_either_46 : decode cX9_either 46 = .ok (.getfield 144, 3) := by decide +kernel
theorem dX9_either_49 : decode cX9_either 49 = .ok (.iadd, 1) := by decide +kernel
theorem dX9_either_50 : decode cX9_either 50 = .ok (.istore 7, 2) := by decide +kernel
theorem dX9_either_52 : decode cX9_either 52 = .ok (.iload 7, 2) := by decide +kernel
theorem dX9_either_54 : decode cX9_either 54 = .ok (.bipush 24, 2) := by decide +kernel
theorem dX9_either_56 : decode cX9_either 56 = .ok (.if_icmp .le 6, 3) := by decide +kernel
theorem dX9_either_59 : decode cX9_either 59 = .ok (.bipush (-3), 2) := by decide +kernel
theorem dX9_either_61 : decode cX9_either 61 = .ok (.ireturn, 1) := by decide +kernel
theorem dX9_either_62 : decode cX9_either 62 = .ok (.aload 4, 2) := by decide +kernel
theorem dX9_either_64 : decode cX9_either 64 = .ok (.getfield 144, 3) := by decide +kernel
theorem dX9_either_67 : decode cX9_either 67 = .ok (.istore 8, 2) := by decide +kernel
theorem dX9_either_69 : decode cX9_either 69 = .ok (.iconst 0, 1) := by decide +kernel
theorem dX9_either_70 : decode cX9_either 70 = .ok (.istore 9, 2) := by decide +kernel
theorem dX9_either_72 : decode cX9_either 72 = .ok (.iload 9, 2) := by decide +kernel
theorem dX9_either_74 : decode cX9_either 74 = .ok (.aload 4, 2) := by decide +kernel
theorem dX9_either_76 : decode cX9_either 76 = .ok (.getfield 144, 3) := by decide +kernel
theorem dX9_either_79 : decode cX9_either 79 = .ok (.if_icmp .ge 24, 3) := by decide +kernel
theorem dX9_either_82 : decode cX9_either 82 = .ok (.aload_n 0, 1) := by decide +kernel
theorem dX9_either_83 : decode cX9_either 83 = .ok (.getfield 29, 3) := by decide +kernel
theorem dX9_either_86 : decode cX9_either 86 = .ok (.iload 9, 2) := by decide +kernel
theorem dX9_either_88 : decode cX9_either 88 = .ok (.aload 4, 2) := by decide +kernel
theorem dX9_either_90 : decode cX9_either 90 = .ok (.getfield 155, 3) := by decide +kernel
theorem dX9_either_93 : decode cX9_either 93 = .ok (.iload 9, 2) := by decide +kernel
theorem dX9_either_95 : decode cX9_either 95 = .ok (.iaload, 1) := by decide +kernel
theorem dX9_either_96 : decode cX9_either 96 = .ok (.iastore, 1) := by decide +kernel
theorem dX9_either_97 : decode cX9_either 97 = .ok (.iinc 9 1, 3) := by decide +kernel
theorem dX9_either_100 : decode cX9_either 100 = .ok (.goto (-28), 3) := by decide +kernel
theorem dX9_either_103 : decode cX9_either 103 = .ok (.iconst 0, 1) := by decide +kernel
theorem dX9_either_104 : decode cX9_either 104 = .ok (.istore 9, 2) := by decide +kernel
theorem dX9_either_106 : decode cX9_either 106 = .ok (.iload 9, 2) := by decide +kernel
theorem dX9_either_108 : decode cX9_either 108 = .ok (.aload 5, 2) := by decide +kernel
theorem dX9_either_110 : decode cX9_either 110 = .ok (.getfield 144, 3) := by decide +kernel
theorem dX9_either_113 : decode cX9_either 113 = .ok (.if_icmp .ge 30, 3) := by decide +kernel
theorem dX9_either_116 : decode cX9_either 116 = .ok (.aload_n 0, 1) := by decide +kernel
theorem dX9_either_117 : decode cX9_either 117 = .ok (.getfield 29, 3) := by decide +kernel
theorem dX9_either_120 : decode cX9_either 120 = .ok (.iload 8, 2) := by decide +kernel
theorem dX9_either_122 : decode cX9_either 122 = .ok (.iload 9, 2) := by decide +kernel
theorem dX9_either_124 : decode cX9_either 124 = .ok (.iadd, 1) := by decide +kernel
theorem dX9_either_125 : decode cX9_either 125 = .ok (.aload 5, 2) := by decide +kernel
theorem dX9_either_127 : decode cX9_either 127 = .ok (.getfield 155, 3) := by decide +kernel
theorem dX9_either_130 : decode cX9_either 130 = .ok (.iload 9, 2) := by decide +kernel
theorem dX9_either_132 : decode cX9_either 132 = .ok (.iaload, 1) := by decide +kernel
theorem dX9_either_133 : decode cX9_either 133 = .ok (.iload 8, 2) := by decide +kernel
theorem dX9_either_135 : decode cX9_either 135 = .ok (.ishl, 1) := by decide +kernel
theorem dX9_either_136 : decode cX9_either 136 = .ok (.iastore, 1) := by decide +kernel
theorem dX9_either_137 : decode cX9_either 137 = .ok (.iinc 9 1, 3) := by decide +kernel
theorem dX9_either_140 : decode cX9_either 140 = .ok (.goto (-34), 3) := by decide +kernel
theorem dX9_either_143 : decode cX9_either 143 = .ok (.aload 6, 2) := by decide +kernel
theorem dX9_either_145 : decode cX9_either 145 = .ok (.iconst 0, 1) := by decide +kernel
theorem dX9_either_146 : decode cX9_either 146 = .ok (.iload 7, 2) := by decide +kernel
theorem dX9_either_148 : decode cX9_either 148 = .ok (.invokevirtual 104, 3) := by decide +kernel
theorem dX9_either_151 : decode cX9_either 151 = .ok (.aload 6, 2) := by decide +kernel
theorem dX9_either_153 : decode cX9_either 153 = .ok (.aload_n 0, 1) := by decide +kernel
theorem dX9_either_154 : decode cX9_either 154 = .ok (.getfield 29, 3) := by decide +kernel
theorem dX9_either_157 : decode cX9_either 157 = .ok (.invokevirtual 152, 3) := by decide +kernel
theorem dX9_either_160 : decode cX9_either 160 = .ok (.iload 7, 2) := by decide +kernel
theorem dX9_either_162 : decode cX9_either 162 = .ok (.ireturn, 1) := by decide +kernel
theorem dX9_about_0 : decode cX9_about 0 = .ok (.aload_n 0, 1) := by decide +kernel
theorem dX9_about_1 : decode cX9_about 1 = .ok (.iload_n 1, 1) := by decide +kernel
theorem dX9_about_2 : decode cX9_about 2 = .ok (.invokevirtual 100, 3) := by decide +kernel
theorem dX9_about_5 : decode cX9_about 5 = .ok (.astore_n 3, 1) := by decide +kernel
theorem dX9_about_6 : decode cX9_about 6 = .ok (.aload_n 3, 1) := by decide +kernel
theorem dX9_about_7 : decode cX9_about 7 = .ok (.ifnonnull 5, 3) := by decide +kernel
theorem dX9_about_10 : decode cX9_about 10 = .ok (.iconst (-1), 1) := by decide +kernel
theorem dX9_about_11 : decode cX9_about 11 = .ok (.ireturn, 1) := by decide +kernel
theorem dX9_about_12 : decode cX9_about 12 = .ok (.iload_n 2, 1) := by decide +kernel
theorem dX9_about_13 : decode cX9_about 13 = .ok (.tableswitch 55 0 4 #[35, 40, 55, 45, 50], 35) := by decide +kernel
theorem dX9_about_48 : decode cX9_about 48 = .ok (.aload_n 3, 1) := by decide +kernel
theorem dX9_about_49 : decode cX9_about 49 = .ok (.getfield 144, 3) := by decide +kernel
theorem dX9_about_52 : decode cX9_about 52 = .ok (.ireturn, 1) := by decide +kernel
theorem dX9_about_53 : decode cX9_about 53 = .ok (.aload_n 3, 1) := by decide +kernel
theorem dX9_about_54 : decode cX9_about 54 = .ok (.getfield 111, 3) := by decide +kernel
theorem dX9_about_57 : decode cX9_about 57 = .ok (.ireturn, 1) := by decide +kernel
theorem dX9_about_58 : decode cX9_about 58 = .ok (.aload_n 3, 1) := by decide +kernel
theorem dX9_about_59 : decode cX9_about 59 = .ok (.invokevirtual 158, 3) := by decide +kernel
theorem dX9_about_62 : decode cX9_about 62 = .ok (.ireturn, 1) := by decide +kernel
theorem dX9_about_63 : decode cX9_about 63 = .ok (.aload_n 3, 1) := by decide +kernel
theorem dX9_about_64 : decode cX9_about 64 = .ok (.invokevirtual 162, 3) := by decide +kernel
theorem dX9_about_67 : decode cX9_about 67 = .ok (.ireturn, 1) := by decide +kernel
theorem dX9_about_68 : decode cX9_about 68 = .ok (.aload_n 3, 1) := by decide +kernel
theorem dX9_about_69 : decode cX9_about 69 = .ok (.iload_n 2, 1) := by decide +kernel
theorem dX9_about_70 : decode cX9_about 70 = .ok (.invokestatic 165, 3) := by decide +kernel
theorem dX9_about_73 : decode cX9_about 73 = .ok (.ireturn, 1) := by decide +kernel
theorem dX9_taken_0 : decode cX9_taken 0 = .ok (.aload_n 0, 1) := by decide +kernel
theorem dX9_taken_1 : decode cX9_taken 1 = .ok (.iload_n 1, 1) := by decide +kernel
theorem dX9_taken_2 : decode cX9_taken 2 = .ok (.invokevirtual 100, 3) := by decide +kernel
theorem dX9_taken_5 : decode cX9_taken 5 = .ok (.astore 5, 2) := by decide +kernel
theorem dX9_taken_7 : decode cX9_taken 7 = .ok (.aload 5, 2) := by decide +kernel
theorem dX9_taken_9 : decode cX9_taken 9 = .ok (.ifnull 16, 3) := by decide +kernel
theorem dX9_taken_12 : decode cX9_taken 12 = .ok (.iload_n 2, 1) := by decide +kernel
theorem dX9_taken_13 : decode cX9_taken 13 = .ok (.invokestatic 169, 3) := by decide +kernel
theorem dX9_taken_16 : decode cX9_taken 16 = .ok (.ifCond .eq 9, 3) := by decide +kernel
theorem dX9_taken_19 : decode cX9_taken 19 = .ok (.iload_n 3, 1) := by decide +kernel
theorem dX9_taken_20 : decode cX9_taken 20 = .ok (.iload 4, 2) := by decide +kernel
theorem dX9_taken_22 : decode cX9_taken 22 = .ok (.if_icmp .ne 6, 3) := by decide +kernel
theorem dX9_taken_25 : decode cX9_taken 25 = .ok (.bipush (-2), 2) := by decide +kernel
theorem dX9_taken_27 : decode cX9_taken 27 = .ok (.ireturn, 1) := by decide +kernel
theorem dX9_taken_28 : decode cX9_taken 28 = .ok (.aload 5, 2) := by decide +kernel
theorem dX9_taken_30 : decode cX9_taken 30 = .ok (.getfield 144, 3) := by decide +kernel
theorem dX9_taken_33 : decode cX9_taken 33 = .ok (.iload_n 2, 1) := by decide +kernel
theorem dX9_taken_34 : decode cX9_taken 34 = .ok (.invokestatic 172, 3) := by decide +kernel
theorem dX9_taken_37 : decode cX9_taken 37 = .ok (.istore 6, 2) := by decide +kernel
theorem dX9_taken_39 : decode cX9_taken 39 = .ok (.iload_n 3, 1) := by decide +kernel
theorem dX9_taken_40 : decode cX9_taken 40 = .ok (.ifCond .lt 21, 3) := by decide +kernel
theorem dX9_taken_43 : decode cX9_taken 43 = .ok (.iload 4, 2) := by decide +kernel
theorem dX9_taken_45 : decode cX9_taken 45 = .ok (.ifCond .lt 16, 3) := by decide +kernel
theorem dX9_taken_48 : decode cX9_taken 48 = .ok (.iload_n 3, 1) := by decide +kernel
theorem dX9_taken_49 : decode cX9_taken 49 = .ok (.iload 6, 2) := by decide +kernel
theorem dX9_taken_51 : decode cX9_taken 51 = .ok (.if_icmp .ge 10, 3) := by decide +kernel
theorem dX9_taken_54 : decode cX9_taken 54 = .ok (.iload 4, 2) := by decide +kernel
theorem dX9_taken_56 : decode cX9_taken 56 = .ok (.iload 6, 2) := by decide +kernel
theorem dX9_taken_58 : decode cX9_taken 58 = .ok (.if_icmp .lt 6, 3) := by decide +kernel
theorem dX9_taken_61 : decode cX9_taken 61 = .ok (.bipush (-2), 2) := by decide +kernel
theorem dX9_taken_63 : decode cX9_taken 63 = .ok (.ireturn, 1) := by decide +kernel
theorem dX9_taken_64 : decode cX9_taken 64 = .ok (.iload_n 3, 1) := by decide +kernel
theorem dX9_taken_65 : decode cX9_taken 65 = .ok (.istore 7, 2) := by decide +kernel
theorem dX9_taken_67 : decode cX9_taken 67 = .ok (.iload 4, 2) := by decide +kernel
theorem dX9_taken_69 : decode cX9_taken 69 = .ok (.istore 8, 2) := by decide +kernel
theorem dX9_taken_71 : decode cX9_taken 71 = .ok (.iconst 0, 1) := by decide +kernel
theorem dX9_taken_72 : decode cX9_taken 72 = .ok (.istore 9, 2) := by decide +kernel
theorem dX9_taken_74 : decode cX9_taken 74 = .ok (.iload 9, 2) := by decide +kernel
theorem dX9_taken_76 : decode cX9_taken 76 = .ok (.iload_n 2, 1) := by decide +kernel
theorem dX9_taken_77 : decode cX9_taken 77 = .ok (.if_icmp .ge 63, 3) := by decide +kernel
theorem dX9_taken_80 : decode cX9_taken 80 = .ok (.aload 5, 2) := by decide +kernel
theorem dX9_taken_82 : decode cX9_taken 82 = .ok (.iload 7, 2) := by decide +kernel
theorem dX9_taken_84 : decode cX9_taken 84 = .ok (.aload 5, 2) := by decide +kernel
theorem dX9_taken_86 : decode cX9_taken 86 = .ok (.getfield 144, 3) := by decide +kernel
theorem dX9_taken_89 : decode cX9_taken 89 = .ok (.invokestatic 176, 3) := by decide +kernel
theorem dX9_taken_92 : decode cX9_taken 92 = .ok (.iload 8, 2) := by decide +kernel
theorem dX9_taken_94 : decode cX9_taken 94 = .ok (.aload 5, 2) := by decide +kernel
theorem dX9_taken_96 : decode cX9_taken 96 = .ok (.getfield 144, 3) := by decide +kernel
theorem dX9_taken_99 : decode cX9_taken 99 = .ok (.invokestatic 176, 3) := by decide +kernel
theorem dX9_taken_102 : decode cX9_taken 102 = .ok (.invokevirtual 179, 3) := by decide +kernel
theorem dX9_taken_105 : decode cX9_taken 105 = .ok (.ifCond .ne 5, 3) := by decide +kernel
theorem dX9_taken_108 : decode cX9_taken 108 = .ok (.iconst 0, 1) := by decide +kernel
theorem dX9_taken_109 : decode cX9_taken 109 = .ok (.ireturn, 1) := by decide +kernel
theorem dX9_taken_110 : decode cX9_taken 110 = .ok (.iload 7, 2) := by decide +kernel
theorem dX9_taken_112 : decode cX9_taken 112 = .ok (.aload 5, 2) := by decide +kernel
theorem dX9_taken_114 : decode cX9_taken 114 = .ok (.getfield 144, 3) := by decide +kernel
theorem dX9_taken_117 : decode cX9_taken 117 = .ok (.invokestatic 182, 3) := by decide +kernel
theorem dX9_taken_120 : decode cX9_taken 120 = .ok (.istore 7, 2) := by decide +kernel
theorem dX9_taken_122 : decode cX9_taken 122 = .ok (.iload 8, 2) := by decide +kernel
theorem dX9_taken_124 : decode cX9_taken 124 = .ok (.aload 5, 2) := by decide +kernel
theorem dX9_taken_126 : decode cX9_taken 126 = .ok (.getfield 144, 3) := by decide +kernel
theorem dX9_taken_129 : decode cX9_taken 129 = .ok (.invokestatic 182, 3) := by decide +kernel
theorem dX9_taken_132 : decode cX9_taken 132 = .ok (.istore 8, 2) := by decide +kernel
theorem dX9_taken_134 : decode cX9_taken 134 = .ok (.iinc 9 1, 3) := by decide +kernel
theorem dX9_taken_137 : decode cX9_taken 137 = .ok (.goto (-63), 3) := by decide +kernel
theorem dX9_taken_140 : decode cX9_taken 140 = .ok (.iconst 1, 1) := by decide +kernel
theorem dX9_taken_141 : decode cX9_taken 141 = .ok (.ireturn, 1) := by decide +kernel
theorem dX9_most_0 : decode cX9_most 0 = .ok (.aload_n 0, 1) := by decide +kernel
theorem dX9_most_1 : decode cX9_most 1 = .ok (.iload_n 1, 1) := by decide +kernel
theorem dX9_most_2 : decode cX9_most 2 = .ok (.invokevirtual 100, 3) := by decide +kernel
theorem dX9_most_5 : decode cX9_most 5 = .ok (.astore_n 3, 1) := by decide +kernel
theorem dX9_most_6 : decode cX9_most 6 = .ok (.aload_n 3, 1) := by decide +kernel
theorem dX9_most_7 : decode cX9_most 7 = .ok (.ifnull 10, 3) := by decide +kernel
theorem dX9_most_10 : decode cX9_most 10 = .ok (.iload_n 2, 1) := by decide +kernel
theorem dX9_most_11 : decode cX9_most 11 = .ok (.invokestatic 169, 3) := by decide +kernel
theorem dX9_most_14 : decode cX9_most 14 = .ok (.ifCond .ne 6, 3) := by decide +kernel
theorem dX9_most_17 : decode cX9_most 17 = .ok (.bipush (-2), 2) := by decide +kernel
theorem dX9_most_19 : decode cX9_most 19 = .ok (.ireturn, 1) := by decide +kernel
theorem dX9_most_20 : decode cX9_most 20 = .ok (.aload_n 3, 1) := by decide +kernel
theorem dX9_most_21 : decode cX9_most 21 = .ok (.getfield 144, 3) := by decide +kernel
theorem dX9_most_24 : decode cX9_most 24 = .ok (.iload_n 2, 1) := by decide +kernel
theorem dX9_most_25 : decode cX9_most 25 = .ok (.invokestatic 172, 3) := by decide +kernel
theorem dX9_most_28 : decode cX9_most 28 = .ok (.bipush 64, 2) := by decide +kernel
theorem dX9_most_30 : decode cX9_most 30 = .ok (.if_icmp .le 6, 3) := by decide +kernel
theorem dX9_most_33 : decode cX9_most 33 = .ok (.bipush (-3), 2) := by decide +kernel
theorem dX9_most_35 : decode cX9_most 35 = .ok (.ireturn, 1) := by decide +kernel
theorem dX9_most_36 : decode cX9_most 36 = .ok (.aload_n 0, 1) := by decide +kernel
theorem dX9_most_37 : decode cX9_most 37 = .ok (.getfield 36, 3) := by decide +kernel
theorem dX9_most_40 : decode cX9_most 40 = .ok (.aload_n 3, 1) := by decide +kernel
theorem dX9_most_41 : decode cX9_most 41 = .ok (.iload_n 2, 1) := by decide +kernel
theorem dX9_most_42 : decode cX9_most 42 = .ok (.invokevirtual 185, 3) := by decide +kernel
theorem dX9_most_45 : decode cX9_most 45 = .ok (.aload_n 0, 1) := by decide +kernel
theorem dX9_most_46 : decode cX9_most 46 = .ok (.getfield 36, 3) := by decide +kernel
theorem dX9_most_49 : decode cX9_most 49 = .ok (.invokevirtual 189, 3) := by decide +kernel
theorem dX9_most_52 : decode cX9_most 52 = .ok (.pop, 1) := by decide +kernel
theorem dX9_most_53 : decode cX9_most 53 = .ok (.aload_n 0, 1) := by decide +kernel
theorem dX9_most_54 : decode cX9_most 54 = .ok (.getfield 71, 3) := by decide +kernel
theorem dX9_most_57 : decode cX9_most 57 = .ok (.aload_n 0, 1) := by decide +kernel
theorem dX9_most_58 : decode cX9_most 58 = .ok (.getfield 36, 3) := by decide +kernel
theorem dX9_most_61 : decode cX9_most 61 = .ok (.invokevirtual 192, 3) := by decide +kernel
theorem dX9_most_64 : decode cX9_most 64 = .ok (.iload_n 2, 1) := by decide +kernel
theorem dX9_most_65 : decode cX9_most 65 = .ok (.iload_n 1, 1) := by decide +kernel
theorem dX9_most_66 : decode cX9_most 66 = .ok (.aload_n 3, 1) := by decide +kernel
theorem dX9_most_67 : decode cX9_most 67 = .ok (.getfield 196, 3) := by decide +kernel
theorem dX9_most_70 : decode cX9_most 70 = .ok (.invokevirtual 199, 3) := by decide +kernel
theorem dX9_most_73 : decode cX9_most 73 = .ok (.aload_n 0, 1) := by decide +kernel
theorem dX9_most_74 : decode cX9_most 74 = .ok (.getfield 71, 3) := by decide +kernel
theorem dX9_most_77 : decode cX9_most 77 = .ok (.getfield 203, 3) := by decide +kernel
theorem dX9_most_80 : decode cX9_most 80 = .ok (.ireturn, 1) := by decide +kernel
theorem dX9_word_0 : decode cX9_word 0 = .ok (.iload_n 1, 1) := by decide +kernel
theorem dX9_word_1 : decode cX9_word 1 = .ok (.ifCond .lt 14, 3) := by decide +kernel
theorem dX9_word_4 : decode cX9_word 4 = .ok (.iload_n 1, 1) := by decide +kernel
theorem dX9_word_5 : decode cX9_word 5 = .ok (.aload_n 0, 1) := by decide +kernel
theorem dX9_word_6 : decode cX9_word 6 = .ok (.getfield 71, 3) := by decide +kernel
theorem dX9_word_9 : decode cX9_word 9 = .ok (.getfield 203, 3) := by decide +kernel
theorem dX9_word_12 : decode cX9_word 12 = .ok (.if_icmp .lt 5, 3) := by decide +kernel
theorem dX9_word_15 : decode cX9_word 15 = .ok (.iconst (-1), 1) := by decide +kernel
theorem dX9_word_16 : decode cX9_word 16 = .ok (.ireturn, 1) := by decide +kernel
theorem dX9_word_17 : decode cX9_word 17 = .ok (.aload_n 0, 1) := by decide +kernel
theorem dX9_word_18 : decode cX9_word 18 = .ok (.getfield 71, 3) := by decide +kernel
theorem dX9_word_21 : decode cX9_word 21 = .ok (.getfield 206, 3) := by decide +kernel
theorem dX9_word_24 : decode cX9_word 24 = .ok (.iload_n 1, 1) := by decide +kernel
theorem dX9_word_25 : decode cX9_word 25 = .ok (.iaload, 1) := by decide +kernel
theorem dX9_word_26 : decode cX9_word 26 = .ok (.ireturn, 1) := by decide +kernel
theorem dX9_ways_0 : decode cX9_ways 0 = .ok (.aload_n 0, 1) := by decide +kernel
theorem dX9_ways_1 : decode cX9_ways 1 = .ok (.iload_n 1, 1) := by decide +kernel
theorem dX9_ways_2 : decode cX9_ways 2 = .ok (.invokevirtual 100, 3) := by decide +kernel
theorem dX9_ways_5 : decode cX9_ways 5 = .ok (.astore_n 3, 1) := by decide +kernel
theorem dX9_ways_6 : decode cX9_ways 6 = .ok (.aload_n 3, 1) := by decide +kernel
theorem dX9_ways_7 : decode cX9_ways 7 = .ok (.ifnull 10, 3) := by decide +kernel
theorem dX9_ways_10 : decode cX9_ways 10 = .ok (.iload_n 2, 1) := by decide +kernel
theorem dX9_ways_11 : decode cX9_ways 11 = .ok (.invokestatic 169, 3) := by decide +kernel
theorem dX9_ways_14 : decode cX9_ways 14 = .ok (.ifCond .ne 6, 3) := by decide +kernel
theorem dX9_ways_17 : decode cX9_ways 17 = .ok (.bipush (-2), 2) := by decide +kernel
theorem dX9_ways_19 : decode cX9_ways 19 = .ok (.ireturn, 1) := by decide +kernel
theorem dX9_ways_20 : decode cX9_ways 20 = .ok (.aload_n 3, 1) := by decide +kernel
theorem dX9_ways_21 : decode cX9_ways 21 = .ok (.getfield 144, 3) := by decide +kernel
theorem dX9_ways_24 : decode cX9_ways 24 = .ok (.iload_n 2, 1) := by decide +kernel
theorem dX9_ways_25 : decode cX9_ways 25 = .ok (.invokestatic 172, 3) := by decide +kernel
theorem dX9_ways_28 : decode cX9_ways 28 = .ok (.bipush 24, 2) := by decide +kernel
theorem dX9_ways_30 : decode cX9_ways 30 = .ok (.if_icmp .le 6, 3) := by decide +kernel
theorem dX9_ways_33 : decode cX9_ways 33 = .ok (.bipush (-3), 2) := by decide +kernel
theorem dX9_ways_35 : decode cX9_ways 35 = .ok (.ireturn, 1) := by decide +kernel
theorem dX9_ways_36 : decode cX9_ways 36 = .ok (.aload_n 0, 1) := by decide +kernel
theorem dX9_ways_37 : decode cX9_ways 37 = .ok (.getfield 36, 3) := by decide +kernel
theorem dX9_ways_40 : decode cX9_ways 40 = .ok (.aload_n 3, 1) := by decide +kernel
theorem dX9_ways_41 : decode cX9_ways 41 = .ok (.iload_n 2, 1) := by decide +kernel
theorem dX9_ways_42 : decode cX9_ways 42 = .ok (.invokevirtual 185, 3) := by decide +kernel
theorem dX9_ways_45 : decode cX9_ways 45 = .ok (.aload_n 0, 1) := by decide +kernel
theorem dX9_ways_46 : decode cX9_ways 46 = .ok (.getfield 36, 3) := by decide +kernel
theorem dX9_ways_49 : decode cX9_ways 49 = .ok (.invokevirtual 209, 3) := by decide +kernel
theorem dX9_ways_52 : decode cX9_ways 52 = .ok (.ireturn, 1) := by decide +kernel
theorem dX9_heaps_0 : decode cX9_heaps 0 = .ok (.aload_n 0, 1) := by decide +kernel
theorem dX9_heaps_1 : decode cX9_heaps 1 = .ok (.iload_n 1, 1) := by decide +kernel
theorem dX9_heaps_2 : decode cX9_heaps 2 = .ok (.invokevirtual 100, 3) := by decide +kernel
theorem dX9_heaps_5 : decode cX9_heaps 5 = .ok (.astore_n 2, 1) := by decide +kernel
theorem dX9_heaps_6 : decode cX9_heaps 6 = .ok (.aload_n 2, 1) := by decide +kernel
theorem dX9_heaps_7 : decode cX9_heaps 7 = .ok (.ifnonnull 6, 3) := by decide +kernel
theorem dX9_heaps_10 : decode cX9_heaps 10 = .ok (.bipush (-2), 2) := by decide +kernel
theorem dX9_heaps_12 : decode cX9_heaps 12 = .ok (.ireturn, 1) := by decide +kernel
theorem dX9_heaps_13 : decode cX9_heaps 13 = .ok (.aload_n 0, 1) := by decide +kernel
theorem dX9_heaps_14 : decode cX9_heaps 14 = .ok (.aload_n 2, 1) := by decide +kernel
theorem dX9_heaps_15 : decode cX9_heaps 15 = .ok (.invokevirtual 212, 3) := by decide +kernel
end
section
theorem dX9_heaps_18 : decode cX9_heaps 18 = .ok (.istore_n 3, 1) := by decide +kernel
theorem dX9_heaps_19 : decode cX9_heaps 19 = .ok (.aload_n 0, 1) := by decide +kernel
theorem dX9_heaps_20 : decode cX9_heaps 20 = .ok (.getfield 43, 3) := by decide +kernel
theorem dX9_heaps_23 : decode cX9_heaps 23 = .ok (.aload_n 0, 1) := by decide +kernel
theorem dX9_heaps_24 : decode cX9_heaps 24 = .ok (.getfield 75, 3) := by decide +kernel
theorem dX9_heaps_27 : decode cX9_heaps 27 = .ok (.invokevirtual 216, 3) := by decide +kernel
theorem dX9_heaps_30 : decode cX9_heaps 30 = .ok (.aload_n 0, 1) := by decide +kernel
theorem dX9_heaps_31 : decode cX9_heaps 31 = .ok (.aload_n 2, 1) := by decide +kernel
theorem dX9_heaps_32 : decode cX9_heaps 32 = .ok (.getfield 144, 3) := by decide +kernel
theorem dX9_heaps_35 : decode cX9_heaps 35 = .ok (.putfield 78, 3) := by decide +kernel
theorem dX9_heaps_38 : decode cX9_heaps 38 = .ok (.iload_n 3, 1) := by decide +kernel
theorem dX9_heaps_39 : decode cX9_heaps 39 = .ok (.ireturn, 1) := by decide +kernel
theorem dX9_heap_0 : decode cX9_heap 0 = .ok (.iload_n 1, 1) := by decide +kernel
theorem dX9_heap_1 : decode cX9_heap 1 = .ok (.ifCond .lt 11, 3) := by decide +kernel
theorem dX9_heap_4 : decode cX9_heap 4 = .ok (.iload_n 1, 1) := by decide +kernel
theorem dX9_heap_5 : decode cX9_heap 5 = .ok (.aload_n 0, 1) := by decide +kernel
theorem dX9_heap_6 : decode cX9_heap 6 = .ok (.getfield 78, 3) := by decide +kernel
theorem dX9_heap_9 : decode cX9_heap 9 = .ok (.if_icmp .lt 5, 3) := by decide +kernel
theorem dX9_heap_12 : decode cX9_heap 12 = .ok (.iconst (-1), 1) := by decide +kernel
theorem dX9_heap_13 : decode cX9_heap 13 = .ok (.ireturn, 1) := by decide +kernel
theorem dX9_heap_14 : decode cX9_heap 14 = .ok (.aload_n 0, 1) := by decide +kernel
theorem dX9_heap_15 : decode cX9_heap 15 = .ok (.getfield 75, 3) := by decide +kernel
theorem dX9_heap_18 : decode cX9_heap 18 = .ok (.iload_n 1, 1) := by decide +kernel
theorem dX9_heap_19 : decode cX9_heap 19 = .ok (.iaload, 1) := by decide +kernel
theorem dX9_heap_20 : decode cX9_heap 20 = .ok (.ireturn, 1) := by decide +kernel
theorem dX9_row_0 : decode cX9_row 0 = .ok (.aload_n 0, 1) := by decide +kernel
theorem dX9_row_1 : decode cX9_row 1 = .ok (.iload_n 1, 1) := by decide +kernel
theorem dX9_row_2 : decode cX9_row 2 = .ok (.invokevirtual 100, 3) := by decide +kernel
theorem dX9_row_5 : decode cX9_row 5 = .ok (.astore 5, 2) := by decide +kernel
theorem dX9_row_7 : decode cX9_row 7 = .ok (.aload 5, 2) := by decide +kernel
theorem dX9_row_9 : decode cX9_row 9 = .ok (.ifnull 27, 3) := by decide +kernel
theorem dX9_row_12 : decode cX9_row 12 = .ok (.iload_n 2, 1) := by decide +kernel
theorem dX9_row_13 : decode cX9_row 13 = .ok (.iconst (-1), 1) := by decide +kernel
theorem dX9_row_14 : decode cX9_row 14 = .ok (.if_icmp .eq 12, 3) := by decide +kernel
theorem dX9_row_17 : decode cX9_row 17 = .ok (.aload 5, 2) := by decide +kernel
theorem dX9_row_19 : decode cX9_row 19 = .ok (.iload_n 2, 1) := by decide +kernel
theorem dX9_row_20 : decode cX9_row 20 = .ok (.invokevirtual 108, 3) := by decide +kernel
theorem dX9_row_23 : decode cX9_row 23 = .ok (.ifCond .eq 13, 3) := by decide +kernel
theorem dX9_row_26 : decode cX9_row 26 = .ok (.iload_n 3, 1) := by decide +kernel
theorem dX9_row_27 : decode cX9_row 27 = .ok (.ifCond .lt 9, 3) := by decide +kernel
theorem dX9_row_30 : decode cX9_row 30 = .ok (.iload_n 3, 1) := by decide +kernel
theorem dX9_row_31 : decode cX9_row 31 = .ok (.bipush 6, 2) := by decide +kernel
theorem dX9_row_33 : decode cX9_row 33 = .ok (.if_icmp .lt 6, 3) := by decide +kernel
theorem dX9_row_36 : decode cX9_row 36 = .ok (.bipush (-31), 2) := by decide +kernel
theorem dX9_row_38 : decode cX9_row 38 = .ok (.ireturn, 1) := by decide +kernel
theorem dX9_row_39 : decode cX9_row 39 = .ok (.iload 4, 2) := by decide +kernel
theorem dX9_row_41 : decode cX9_row 41 = .ok (.bipush (-30), 2) := by decide +kernel
theorem dX9_row_43 : decode cX9_row 43 = .ok (.if_icmp .lt 10, 3) := by decide +kernel
theorem dX9_row_46 : decode cX9_row 46 = .ok (.iload 4, 2) := by decide +kernel
theorem dX9_row_48 : decode cX9_row 48 = .ok (.bipush 30, 2) := by decide +kernel
theorem dX9_row_50 : decode cX9_row 50 = .ok (.if_icmp .le 6, 3) := by decide +kernel
theorem dX9_row_53 : decode cX9_row 53 = .ok (.bipush (-31), 2) := by decide +kernel
theorem dX9_row_55 : decode cX9_row 55 = .ok (.ireturn, 1) := by decide +kernel
theorem dX9_row_56 : decode cX9_row 56 = .ok (.aload 5, 2) := by decide +kernel
theorem dX9_row_58 : decode cX9_row 58 = .ok (.getfield 219, 3) := by decide +kernel
theorem dX9_row_61 : decode cX9_row 61 = .ok (.iload_n 2, 1) := by decide +kernel
theorem dX9_row_62 : decode cX9_row 62 = .ok (.iconst (-1), 1) := by decide +kernel
theorem dX9_row_63 : decode cX9_row 63 = .ok (.if_icmp .ne 8, 3) := by decide +kernel
theorem dX9_row_66 : decode cX9_row 66 = .ok (.bipush 24, 2) := by decide +kernel
theorem dX9_row_68 : decode cX9_row 68 = .ok (.goto 4, 3) := by decide +kernel
theorem dX9_row_71 : decode cX9_row 71 = .ok (.iload_n 2, 1) := by decide +kernel
theorem dX9_row_72 : decode cX9_row 72 = .ok (.aaload, 1) := by decide +kernel
theorem dX9_row_73 : decode cX9_row 73 = .ok (.astore 6, 2) := by decide +kernel
theorem dX9_row_75 : decode cX9_row 75 = .ok (.aload 6, 2) := by decide +kernel
theorem dX9_row_77 : decode cX9_row 77 = .ok (.iload_n 3, 1) := by decide +kernel
theorem dX9_row_78 : decode cX9_row 78 = .ok (.iaload, 1) := by decide +kernel
theorem dX9_row_79 : decode cX9_row 79 = .ok (.istore 7, 2) := by decide +kernel
theorem dX9_row_81 : decode cX9_row 81 = .ok (.aload 6, 2) := by decide +kernel
theorem dX9_row_83 : decode cX9_row 83 = .ok (.iload_n 3, 1) := by decide +kernel
theorem dX9_row_84 : decode cX9_row 84 = .ok (.iload 4, 2) := by decide +kernel
theorem dX9_row_86 : decode cX9_row 86 = .ok (.iastore, 1) := by decide +kernel
theorem dX9_row_87 : decode cX9_row 87 = .ok (.iload 7, 2) := by decide +kernel
theorem dX9_row_89 : decode cX9_row 89 = .ok (.ireturn, 1) := by decide +kernel
theorem dX9_stands_0 : decode cX9_stands 0 = .ok (.aload_n 0, 1) := by decide +kernel
theorem dX9_stands_1 : decode cX9_stands 1 = .ok (.iload_n 1, 1) := by decide +kernel
theorem dX9_stands_2 : decode cX9_stands 2 = .ok (.invokevirtual 100, 3) := by decide +kernel
theorem dX9_stands_5 : decode cX9_stands 5 = .ok (.astore_n 2, 1) := by decide +kernel
theorem dX9_stands_6 : decode cX9_stands 6 = .ok (.aload_n 2, 1) := by decide +kernel
theorem dX9_stands_7 : decode cX9_stands 7 = .ok (.ifnonnull 8, 3) := by decide +kernel
theorem dX9_stands_10 : decode cX9_stands 10 = .ok (.bipush (-2), 2) := by decide +kernel
theorem dX9_stands_12 : decode cX9_stands 12 = .ok (.goto 11, 3) := by decide +kernel
theorem dX9_stands_15 : decode cX9_stands 15 = .ok (.aload_n 0, 1) := by decide +kernel
theorem dX9_stands_16 : decode cX9_stands 16 = .ok (.getfield 50, 3) := by decide +kernel
theorem dX9_stands_19 : decode cX9_stands 19 = .ok (.aload_n 2, 1) := by decide +kernel
theorem dX9_stands_20 : decode cX9_stands 20 = .ok (.invokevirtual 223, 3) := by decide +kernel
theorem dX9_stands_23 : decode cX9_stands 23 = .ok (.ireturn, 1) := by decide +kernel
theorem dX9_bound_0 : decode cX9_bound 0 = .ok (.aload_n 0, 1) := by decide +kernel
theorem dX9_bound_1 : decode cX9_bound 1 = .ok (.iload_n 1, 1) := by decide +kernel
theorem dX9_bound_2 : decode cX9_bound 2 = .ok (.invokevirtual 100, 3) := by decide +kernel
theorem dX9_bound_5 : decode cX9_bound 5 = .ok (.astore_n 3, 1) := by decide +kernel
theorem dX9_bound_6 : decode cX9_bound 6 = .ok (.aload_n 3, 1) := by decide +kernel
theorem dX9_bound_7 : decode cX9_bound 7 = .ok (.ifnull 12, 3) := by decide +kernel
theorem dX9_bound_10 : decode cX9_bound 10 = .ok (.iload_n 2, 1) := by decide +kernel
theorem dX9_bound_11 : decode cX9_bound 11 = .ok (.ifCond .lt 8, 3) := by decide +kernel
theorem dX9_bound_14 : decode cX9_bound 14 = .ok (.iload_n 2, 1) := by decide +kernel
theorem dX9_bound_15 : decode cX9_bound 15 = .ok (.iconst 2, 1) := by decide +kernel
theorem dX9_bound_16 : decode cX9_bound 16 = .ok (.if_icmp .le 6, 3) := by decide +kernel
theorem dX9_bound_19 : decode cX9_bound 19 = .ok (.bipush (-2), 2) := by decide +kernel
theorem dX9_bound_21 : decode cX9_bound 21 = .ok (.ireturn, 1) := by decide +kernel
theorem dX9_bound_22 : decode cX9_bound 22 = .ok (.aload_n 0, 1) := by decide +kernel
theorem dX9_bound_23 : decode cX9_bound 23 = .ok (.getfield 50, 3) := by decide +kernel
theorem dX9_bound_26 : decode cX9_bound 26 = .ok (.aload_n 3, 1) := by decide +kernel
theorem dX9_bound_27 : decode cX9_bound 27 = .ok (.invokevirtual 226, 3) := by decide +kernel
theorem dX9_bound_30 : decode cX9_bound 30 = .ok (.ifCond .ne 5, 3) := by decide +kernel
theorem dX9_bound_33 : decode cX9_bound 33 = .ok (.iconst (-1), 1) := by decide +kernel
theorem dX9_bound_34 : decode cX9_bound 34 = .ok (.ireturn, 1) := by decide +kernel
theorem dX9_bound_35 : decode cX9_bound 35 = .ok (.iload_n 2, 1) := by decide +kernel
theorem dX9_bound_36 : decode cX9_bound 36 = .ok (.ifCond .ne 11, 3) := by decide +kernel
theorem dX9_bound_39 : decode cX9_bound 39 = .ok (.aload_n 0, 1) := by decide +kernel
theorem dX9_bound_40 : decode cX9_bound 40 = .ok (.getfield 50, 3) := by decide +kernel
theorem dX9_bound_43 : decode cX9_bound 43 = .ok (.getfield 230, 3) := by decide +kernel
theorem dX9_bound_46 : decode cX9_bound 46 = .ok (.ireturn, 1) := by decide +kernel
theorem dX9_bound_47 : decode cX9_bound 47 = .ok (.iload_n 2, 1) := by decide +kernel
theorem dX9_bound_48 : decode cX9_bound 48 = .ok (.iconst 1, 1) := by decide +kernel
theorem dX9_bound_49 : decode cX9_bound 49 = .ok (.if_icmp .ne 13, 3) := by decide +kernel
theorem dX9_bound_52 : decode cX9_bound 52 = .ok (.aload_n 0, 1) := by decide +kernel
theorem dX9_bound_53 : decode cX9_bound 53 = .ok (.getfield 50, 3) := by decide +kernel
theorem dX9_bound_56 : decode cX9_bound 56 = .ok (.getfield 233, 3) := by decide +kernel
theorem dX9_bound_59 : decode cX9_bound 59 = .ok (.goto 10, 3) := by decide +kernel
theorem dX9_bound_62 : decode cX9_bound 62 = .ok (.aload_n 0, 1) := by decide +kernel
theorem dX9_bound_63 : decode cX9_bound 63 = .ok (.getfield 50, 3) := by decide +kernel
theorem dX9_bound_66 : decode cX9_bound 66 = .ok (.getfield 236, 3) := by decide +kernel
theorem dX9_bound_69 : decode cX9_bound 69 = .ok (.ireturn, 1) := by decide +kernel
theorem dX9_compare_0 : decode cX9_compare 0 = .ok (.iload_n 1, 1) := by decide +kernel
theorem dX9_compare_1 : decode cX9_compare 1 = .ok (.iconst 1, 1) := by decide +kernel
theorem dX9_compare_2 : decode cX9_compare 2 = .ok (.if_icmp .lt 22, 3) := by decide +kernel
theorem dX9_compare_5 : decode cX9_compare 5 = .ok (.iload_n 1, 1) := by decide +kernel
theorem dX9_compare_6 : decode cX9_compare 6 = .ok (.sipush 1000, 3) := by decide +kernel
theorem dX9_compare_9 : decode cX9_compare 9 = .ok (.if_icmp .gt 15, 3) := by decide +kernel
theorem dX9_compare_12 : decode cX9_compare 12 = .ok (.iload_n 3, 1) := by decide +kernel
theorem dX9_compare_13 : decode cX9_compare 13 = .ok (.iconst 1, 1) := by decide +kernel
theorem dX9_compare_14 : decode cX9_compare 14 = .ok (.if_icmp .lt 10, 3) := by decide +kernel
theorem dX9_compare_17 : decode cX9_compare 17 = .ok (.iload_n 3, 1) := by decide +kernel
theorem dX9_compare_18 : decode cX9_compare 18 = .ok (.sipush 1000, 3) := by decide +kernel
theorem dX9_compare_21 : decode cX9_compare 21 = .ok (.if_icmp .le 6, 3) := by decide +kernel
theorem dX9_compare_24 : decode cX9_compare 24 = .ok (.bipush (-2), 2) := by decide +kernel
theorem dX9_compare_26 : decode cX9_compare 26 = .ok (.ireturn, 1) := by decide +kernel
theorem dX9_compare_27 : decode cX9_compare 27 = .ok (.iload_n 2, 1) := by decide +kernel
theorem dX9_compare_28 : decode cX9_compare 28 = .ok (.iconst 1, 1) := by decide +kernel
theorem dX9_compare_29 : decode cX9_compare 29 = .ok (.if_icmp .lt 22, 3) := by decide +kernel
theorem dX9_compare_32 : decode cX9_compare 32 = .ok (.iload_n 2, 1) := by decide +kernel
theorem dX9_compare_33 : decode cX9_compare 33 = .ok (.bipush 12, 2) := by decide +kernel
theorem dX9_compare_35 : decode cX9_compare 35 = .ok (.if_icmp .gt 16, 3) := by decide +kernel
theorem dX9_compare_38 : decode cX9_compare 38 = .ok (.iload 4, 2) := by decide +kernel
theorem dX9_compare_40 : decode cX9_compare 40 = .ok (.iconst 1, 1) := by decide +kernel
theorem dX9_compare_41 : decode cX9_compare 41 = .ok (.if_icmp .lt 10, 3) := by decide +kernel
theorem dX9_compare_44 : decode cX9_compare 44 = .ok (.iload 4, 2) := by decide +kernel
theorem dX9_compare_46 : decode cX9_compare 46 = .ok (.bipush 12, 2) := by decide +kernel
theorem dX9_compare_48 : decode cX9_compare 48 = .ok (.if_icmp .le 6, 3) := by decide +kernel
theorem dX9_compare_51 : decode cX9_compare 51 = .ok (.bipush (-2), 2) := by decide +kernel
theorem dX9_compare_53 : decode cX9_compare 53 = .ok (.ireturn, 1) := by decide +kernel
theorem dX9_compare_54 : decode cX9_compare 54 = .ok (.aload_n 0, 1) := by decide +kernel
theorem dX9_compare_55 : decode cX9_compare 55 = .ok (.getfield 57, 3) := by decide +kernel
theorem dX9_compare_58 : decode cX9_compare 58 = .ok (.iload_n 1, 1) := by decide +kernel
theorem dX9_compare_59 : decode cX9_compare 59 = .ok (.iload_n 2, 1) := by decide +kernel
theorem dX9_compare_60 : decode cX9_compare 60 = .ok (.iload_n 3, 1) := by decide +kernel
theorem dX9_compare_61 : decode cX9_compare 61 = .ok (.iload 4, 2) := by decide +kernel
theorem dX9_compare_63 : decode cX9_compare 63 = .ok (.invokevirtual 239, 3) := by decide +kernel
theorem dX9_compare_66 : decode cX9_compare 66 = .ok (.ireturn, 1) := by decide +kernel
theorem dX9_best_0 : decode cX9_best 0 = .ok (.aload_n 0, 1) := by decide +kernel
theorem dX9_best_1 : decode cX9_best 1 = .ok (.iload_n 1, 1) := by decide +kernel
theorem dX9_best_2 : decode cX9_best 2 = .ok (.invokevirtual 100, 3) := by decide +kernel
theorem dX9_best_5 : decode cX9_best 5 = .ok (.astore_n 2, 1) := by decide +kernel
theorem dX9_best_6 : decode cX9_best 6 = .ok (.aload_n 2, 1) := by decide +kernel
theorem dX9_best_7 : decode cX9_best 7 = .ok (.ifnonnull 6, 3) := by decide +kernel
theorem dX9_best_10 : decode cX9_best 10 = .ok (.bipush (-2), 2) := by decide +kernel
theorem dX9_best_12 : decode cX9_best 12 = .ok (.ireturn, 1) := by decide +kernel
theorem dX9_best_13 : decode cX9_best 13 = .ok (.aload_n 0, 1) := by decide +kernel
theorem dX9_best_14 : decode cX9_best 14 = .ok (.aload_n 2, 1) := by decide +kernel
theorem dX9_best_15 : decode cX9_best 15 = .ok (.invokevirtual 243, 3) := by decide +kernel
theorem dX9_best_18 : decode cX9_best 18 = .ok (.aload_n 0, 1) := by decide +kernel
theorem dX9_best_19 : decode cX9_best 19 = .ok (.getfield 57, 3) := by decide +kernel
theorem dX9_best_22 : decode cX9_best 22 = .ok (.getfield 247, 3) := by decide +kernel
theorem dX9_best_25 : decode cX9_best 25 = .ok (.ireturn, 1) := by decide +kernel
theorem dX9_met_0 : decode cX9_met 0 = .ok (.aload_n 0, 1) := by decide +kernel
theorem dX9_met_1 : decode cX9_met 1 = .ok (.iload_n 1, 1) := by decide +kernel
theorem dX9_met_2 : decode cX9_met 2 = .ok (.invokevirtual 100, 3) := by decide +kernel
theorem dX9_met_5 : decode cX9_met 5 = .ok (.astore_n 2, 1) := by decide +kernel
theorem dX9_met_6 : decode cX9_met 6 = .ok (.aload_n 2, 1) := by decide +kernel
theorem dX9_met_7 : decode cX9_met 7 = .ok (.ifnonnull 6, 3) := by decide +kernel
theorem dX9_met_10 : decode cX9_met 10 = .ok (.bipush (-2), 2) := by decide +kernel
theorem dX9_met_12 : decode cX9_met 12 = .ok (.ireturn, 1) := by decide +kernel
theorem dX9_met_13 : decode cX9_met 13 = .ok (.aload_n 0, 1) := by decide +kernel
theorem dX9_met_14 : decode cX9_met 14 = .ok (.aload_n 2, 1) := by decide +kernel
theorem dX9_met_15 : decode cX9_met 15 = .ok (.invokevirtual 243, 3) := by decide +kernel
theorem dX9_met_18 : decode cX9_met 18 = .ok (.iconst 0, 1) := by decide +kernel
theorem dX9_met_19 : decode cX9_met 19 = .ok (.istore_n 3, 1) := by decide +kernel
theorem dX9_met_20 : decode cX9_met 20 = .ok (.aload_n 0, 1) := by decide +kernel
theorem dX9_met_21 : decode cX9_met 21 = .ok (.getfield 57, 3) := by decide +kernel
theorem dX9_met_24 : decode cX9_met 24 = .ok (.aload_n 0, 1) := by decide +kernel
theorem dX9_met_25 : decode cX9_met 25 = .ok (.getfield 57, 3) := by decide +kernel
theorem dX9_met_28 : decode cX9_met 28 = .ok (.getfield 250, 3) := by decide +kernel
theorem dX9_met_31 : decode cX9_met 31 = .ok (.aload_n 0, 1) := by decide +kernel
theorem dX9_met_32 : decode cX9_met 32 = .ok (.aload_n 2, 1) := by decide +kernel
theorem dX9_met_33 : decode cX9_met 33 = .ok (.invokevirtual 212, 3) := by decide +kernel
theorem dX9_met_36 : decode cX9_met 36 = .ok (.aload_n 0, 1) := by decide +kernel
theorem dX9_met_37 : decode cX9_met 37 = .ok (.getfield 57, 3) := by decide +kernel
theorem dX9_met_40 : decode cX9_met 40 = .ok (.getfield 247, 3) := by decide +kernel
theorem dX9_met_43 : decode cX9_met 43 = .ok (.invokevirtual 253, 3) := by decide +kernel
theorem dX9_met_46 : decode cX9_met 46 = .ok (.ifCond .eq 7, 3) := by decide +kernel
theorem dX9_met_49 : decode cX9_met 49 = .ok (.iload_n 3, 1) := by decide +kernel
theorem dX9_met_50 : decode cX9_met 50 = .ok (.iconst 1, 1) := by decide +kernel
theorem dX9_met_51 : decode cX9_met 51 = .ok (.ior, 1) := by decide +kernel
theorem dX9_met_52 : decode cX9_met 52 = .ok (.istore_n 3, 1) := by decide +kernel
theorem dX9_met_53 : decode cX9_met 53 = .ok (.aload_n 0, 1) := by decide +kernel
theorem dX9_met_54 : decode cX9_met 54 = .ok (.getfield 50, 3) := by decide +kernel
theorem dX9_met_57 : decode cX9_met 57 = .ok (.aload_n 2, 1) := by decide +kernel
theorem dX9_met_58 : decode cX9_met 58 = .ok (.invokevirtual 226, 3) := by decide +kernel
theorem dX9_met_61 : decode cX9_met 61 = .ok (.ifCond .eq 49, 3) := by decide +kernel
theorem dX9_met_64 : decode cX9_met 64 = .ok (.aload_n 0, 1) := by decide +kernel
theorem dX9_met_65 : decode cX9_met 65 = .ok (.getfield 50, 3) := by decide +kernel
theorem dX9_met_68 : decode cX9_met 68 = .ok (.getfield 233, 3) := by decide +kernel
theorem dX9_met_71 : decode cX9_met 71 = .ok (.iconst 1, 1) := by decide +kernel
theorem dX9_met_72 : decode cX9_met 72 = .ok (.if_icmp .ne 38, 3) := by decide +kernel
theorem dX9_met_75 : decode cX9_met 75 = .ok (.aload_n 0, 1) := by decide +kernel
theorem dX9_met_76 : decode cX9_met 76 = .ok (.getfield 57, 3) := by decide +kernel
theorem dX9_met_79 : decode cX9_met 79 = .ok (.aload_n 0, 1) := by decide +kernel
theorem dX9_met_80 : decode cX9_met 80 = .ok (.getfield 57, 3) := by decide +kernel
theorem dX9_met_83 : decode cX9_met 83 = .ok (.getfield 250, 3) := by decide +kernel
theorem dX9_met_86 : decode cX9_met 86 = .ok (.aload_n 0, 1) := by decide +kernel
theorem dX9_met_87 : decode cX9_met 87 = .ok (.getfield 50, 3) := by decide +kernel
theorem dX9_met_90 : decode cX9_met 90 = .ok (.getfield 230, 3) := by decide +kernel
theorem dX9_met_93 : decode cX9_met 93 = .ok (.aload_n 0, 1) := by decide +kernel
theorem dX9_met_94 : decode cX9_met 94 = .ok (.getfield 57, 3) := by decide +kernel
theorem dX9_met_97 : decode cX9_met 97 = .ok (.getfield 247, 3) := by decide +kernel
theorem dX9_met_100 : decode cX9_met 100 = .ok (.invokevirtual 253, 3) := by decide +kernel
theorem dX9_met_103 : decode cX9_met 103 = .ok (.ifCond .eq 7, 3) := by decide +kernel
theorem dX9_met_106 : decode cX9_met 106 = .ok (.iload_n 3, 1) := by decide +kernel
theorem dX9_met_107 : decode cX9_met 107 = .ok (.iconst 2, 1) := by decide +kernel
theorem dX9_met_108 : decode cX9_met 108 = .ok (.ior, 1) := by decide +kernel
theorem dX9_met_109 : decode cX9_met 109 = .ok (.istore_n 3, 1) := by decide +kernel
theorem dX9_met_110 : decode cX9_met 110 = .ok (.iload_n 3, 1) := by decide +kernel
theorem dX9_met_111 : decode cX9_met 111 = .ok (.ireturn, 1) := by decide +kernel
theorem dX9_came_0 : decode cX9_came 0 = .ok (.aload_n 0, 1) := by decide +kernel
theorem dX9_came_1 : decode cX9_came 1 = .ok (.getfield 19, 3) := by decide +kernel
theorem dX9_came_4 : decode cX9_came 4 = .ok (.aload_n 0, 1) := by decide +kernel
theorem dX9_came_5 : decode cX9_came 5 = .ok (.getfield 10, 3) := by decide +kernel
theorem dX9_came_8 : decode cX9_came 8 = .ok (.invokevirtual 257, 3) := by decide +kernel
theorem dX9_came_11 : decode cX9_came 11 = .ok (.istore_n 2, 1) := by decide +kernel
theorem dX9_came_12 : decode cX9_came 12 = .ok (.aload_n 0, 1) := by decide +kernel
theorem dX9_came_13 : decode cX9_came 13 = .ok (.getfield 10, 3) := by decide +kernel
theorem dX9_came_16 : decode cX9_came 16 = .ok (.invokevirtual 124, 3) := by decide +kernel
theorem dX9_came_19 : decode cX9_came 19 = .ok (.aload_n 0, 1) := by decide +kernel
theorem dX9_came_20 : decode cX9_came 20 = .ok (.iload_n 1, 1) := by decide +kernel
theorem dX9_came_21 : decode cX9_came 21 = .ok (.invokevirtual 100, 3) := by decide +kernel
theorem dX9_came_24 : decode cX9_came 24 = .ok (.astore_n 3, 1) := by decide +kernel
theorem dX9_came_25 : decode cX9_came 25 = .ok (.aload_n 3, 1) := by decide +kernel
theorem dX9_came_26 : decode cX9_came 26 = .ok (.ifnonnull 6, 3) := by decide +kernel
theorem dX9_came_29 : decode cX9_came 29 = .ok (.bipush (-2), 2) := by decide +kernel
theorem dX9_came_31 : decode cX9_came 31 = .ok (.ireturn, 1) := by decide +kernel
theorem dX9_came_32 : decode cX9_came 32 = .ok (.aload_n 3, 1) := by decide +kernel
theorem dX9_came_33 : decode cX9_came 33 = .ok (.getfield 111, 3) := by decide +kernel
theorem dX9_came_36 : decode cX9_came 36 = .ok (.iconst 1, 1) := by decide +kernel
theorem dX9_came_37 : decode cX9_came 37 = .ok (.if_icmp .ne 28, 3) := by decide +kernel
theorem dX9_came_40 : decode cX9_came 40 = .ok (.aload_n 0, 1) := by decide +kernel
theorem dX9_came_41 : decode cX9_came 41 = .ok (.getfield 71, 3) := by decide +kernel
theorem dX9_came_44 : decode cX9_came 44 = .ok (.getfield 261, 3) := by decide +kernel
theorem dX9_came_47 : decode cX9_came 47 = .ok (.iload_n 1, 1) := by decide +kernel
theorem dX9_came_48 : decode cX9_came 48 = .ok (.if_icmp .ne 17, 3) := by decide +kernel
theorem dX9_came_51 : decode cX9_came 51 = .ok (.aload_n 0, 1) := by decide +kernel
theorem dX9_came_52 : decode cX9_came 52 = .ok (.getfield 71, 3) := by decide +kernel
theorem dX9_came_55 : decode cX9_came 55 = .ok (.getfield 264, 3) := by decide +kernel
theorem dX9_came_58 : decode cX9_came 58 = .ok (.aload_n 3, 1) := by decide +kernel
theorem dX9_came_59 : decode cX9_came 59 = .ok (.getfield 196, 3) := by decide +kernel
theorem dX9_came_62 : decode cX9_came 62 = .ok (.if_icmp .eq 6, 3) := by decide +kernel
theorem dX9_came_65 : decode cX9_came 65 = .ok (.bipush (-4), 2) := by decide +kernel
theorem dX9_came_67 : decode cX9_came 67 = .ok (.ireturn, 1) := by decide +kernel
theorem dX9_came_68 : decode cX9_came 68 = .ok (.iload_n 2, 1) := by decide +kernel
theorem dX9_came_69 : decode cX9_came 69 = .ok (.aload_n 0, 1) := by decide +kernel
theorem dX9_came_70 : decode cX9_came 70 = .ok (.getfield 71, 3) := by decide +kernel
theorem dX9_came_73 : decode cX9_came 73 = .ok (.getfield 265, 3) := by decide +kernel
theorem dX9_came_76 : decode cX9_came 76 = .ok (.if_icmp .eq 5, 3) := by decide +kernel
theorem dX9_came_79 : decode cX9_came 79 = .ok (.iconst (-1), 1) := by decide +kernel
theorem dX9_came_80 : decode cX9_came 80 = .ok (.ireturn, 1) := by decide +kernel
theorem dX9_came_81 : decode cX9_came 81 = .ok (.iconst 0, 1) := by decide +kernel
theorem dX9_came_82 : decode cX9_came 82 = .ok (.istore 4, 2) := by decide +kernel
theorem dX9_came_84 : decode cX9_came 84 = .ok (.iconst 0, 1) := by decide +kernel
theorem dX9_came_85 : decode cX9_came 85 = .ok (.istore 5, 2) := by decide +kernel
theorem dX9_came_87 : decode cX9_came 87 = .ok (.iload 5, 2) := by decide +kernel
theorem dX9_came_89 : decode cX9_came 89 = .ok (.aload_n 0, 1) := by decide +kernel
theorem dX9_came_90 : decode cX9_came 90 = .ok (.getfield 71, 3) := by decide +kernel
theorem dX9_came_93 : decode cX9_came 93 = .ok (.getfield 203, 3) := by decide +kernel
theorem dX9_came_96 : decode cX9_came 96 = .ok (.if_icmp .ge 49, 3) := by decide +kernel
theorem dX9_came_99 : decode cX9_came 99 = .ok (.aload_n 0, 1) := by decide +kernel
theorem dX9_came_100 : decode cX9_came 100 = .ok (.aload_n 3, 1) := by decide +kernel
theorem dX9_came_101 : decode cX9_came 101 = .ok (.aload_n 0, 1) := by decide +kernel
theorem dX9_came_102 : decode cX9_came 102 = .ok (.getfield 71, 3) := by decide +kernel
theorem dX9_came_105 : decode cX9_came 105 = .ok (.getfield 206, 3) := by decide +kernel
theorem dX9_came_108 : decode cX9_came 108 = .ok (.iload 5, 2) := by decide +kernel
theorem dX9_came_110 : decode cX9_came 110 = .ok (.iaload, 1) := by decide +kernel
theorem dX9_came_111 : decode cX9_came 111 = .ok (.invokevirtual 266, 3) := by decide +kernel
theorem dX9_came_114 : decode cX9_came 114 = .ok (.ifCond .eq 25, 3) := by decide +kernel
theorem dX9_came_117 : decode cX9_came 117 = .ok (.iload 4, 2) := by decide +kernel
theorem dX9_came_119 : decode cX9_came 119 = .ok (.ifCond .ne 17, 3) := by decide +kernel
theorem dX9_came_122 : decode cX9_came 122 = .ok (.aload_n 0, 1) := by decide +kernel
theorem dX9_came_123 : decode cX9_came 123 = .ok (.aload_n 0, 1) := by decide +kernel
theorem dX9_came_124 : decode cX9_came 124 = .ok (.getfield 71, 3) := by decide +kernel
theorem dX9_came_127 : decode cX9_came 127 = .ok (.getfield 206, 3) := by decide +kernel
theorem dX9_came_130 : decode cX9_came 130 = .ok (.iload 5, 2) := by decide +kernel
theorem dX9_came_132 : decode cX9_came 132 = .ok (.iaload, 1) := by decide +kernel
theorem dX9_came_133 : decode cX9_came 133 = .ok (.putfield 82, 3) := by decide +kernel
theorem dX9_came_136 : decode cX9_came 136 = .ok (.iinc 4 1, 3) := by decide +kernel
theorem dX9_came_139 : decode cX9_came 139 = .ok (.iinc 5 1, 3) := by decide +kernel
theorem dX9_came_142 : decode cX9_came 142 = .ok (.goto (-55), 3) := by decide +kernel
theorem dX9_came_145 : decode cX9_came 145 = .ok (.iload 4, 2) := by decide +kernel
theorem dX9_came_147 : decode cX9_came 147 = .ok (.ireturn, 1) := by decide +kernel
theorem dX9_sent_0 : decode cX9_sent 0 = .ok (.aload_n 0, 1) := by decide +kernel
theorem dX9_sent_1 : decode cX9_sent 1 = .ok (.getfield 82, 3) := by decide +kernel
theorem dX9_sent_4 : decode cX9_sent 4 = .ok (.ireturn, 1) := by decide +kernel
theorem dX9_list_0 : decode cX9_list 0 = .ok (.aload_n 0, 1) := by decide +kernel
theorem dX9_list_1 : decode cX9_list 1 = .ok (.iload_n 1, 1) := by decide +kernel
theorem dX9_list_2 : decode cX9_list 2 = .ok (.invokevirtual 100, 3) := by decide +kernel
theorem dX9_list_5 : decode cX9_list 5 = .ok (.astore_n 3, 1) := by decide +kernel
theorem dX9_list_6 : decode cX9_list 6 = .ok (.aload_n 3, 1) := by decide +kernel
theorem dX9_list_7 : decode cX9_list 7 = .ok (.ifnull 14, 3) := by decide +kernel
theorem dX9_list_10 : decode cX9_list 10 = .ok (.iload_n 2, 1) := by decide +kernel
theorem dX9_list_11 : decode cX9_list 11 = .ok (.iconst 1, 1) := by decide +kernel
theorem dX9_list_12 : decode cX9_list 12 = .ok (.if_icmp .lt 9, 3) := by decide +kernel
theorem dX9_list_15 : decode cX9_list 15 = .ok (.iload_n 2, 1) := by decide +kernel
theorem dX9_list_16 : decode cX9_list 16 = .ok (.bipush 24, 2) := by decide +kernel
theorem dX9_list_18 : decode cX9_list 18 = .ok (.if_icmp .le 6, 3) := by decide +kernel
theorem dX9_list_21 : decode cX9_list 21 = .ok (.bipush (-2), 2) := by decide +kernel
theorem dX9_list_23 : decode cX9_list 23 = .ok (.ireturn, 1) := by decide +kernel
theorem dX9_list_24 : decode cX9_list 24 = .ok (.aload_n 3, 1) := by decide +kernel
theorem dX9_list_25 : decode cX9_list 25 = .ok (.getfield 111, 3) := by decide +kernel
theorem dX9_list_28 : decode cX9_list 28 = .ok (.iconst 1, 1) := by decide +kernel
theorem dX9_list_29 : decode cX9_list 29 = .ok (.if_icmp .eq 6, 3) := by decide +kernel
theorem dX9_list_32 : decode cX9_list 32 = .ok (.bipush (-4), 2) := by decide +kernel
theorem dX9_list_34 : decode cX9_list 34 = .ok (.ireturn, 1) := by decide +kernel
theorem dX9_list_35 : decode cX9_list 35 = .ok (.aload_n 3, 1) := by decide +kernel
theorem dX9_list_36 : decode cX9_list 36 = .ok (.getfield 144, 3) := by decide +kernel
theorem dX9_list_39 : decode cX9_list 39 = .ok (.bipush 16, 2) := by decide +kernel
theorem dX9_list_41 : decode cX9_list 41 = .ok (.if_icmp .le 6, 3) := by decide +kernel
theorem dX9_list_44 : decode cX9_list 44 = .ok (.bipush (-3), 2) := by decide +kernel
theorem dX9_list_46 : decode cX9_list 46 = .ok (.ireturn, 1) := by decide +kernel
theorem dX9_list_47 : decode cX9_list 47 = .ok (.aload_n 0, 1) := by decide +kernel
theorem dX9_list_48 : decode cX9_list 48 = .ok (.aload_n 0, 1) := by decide +kernel
theorem dX9_list_49 : decode cX9_list 49 = .ok (.getfield 64, 3) := by decide +kernel
theorem dX9_list_52 : decode cX9_list 52 = .ok (.aload_n 3, 1) := by decide +kernel
theorem dX9_list_53 : decode cX9_list 53 = .ok (.iload_n 2, 1) := by decide +kernel
theorem dX9_list_54 : decode cX9_list 54 = .ok (.invokevirtual 270, 3) := by decide +kernel
theorem dX9_list_57 : decode cX9_list 57 = .ok (.putfield 85, 3) := by decide +kernel
theorem dX9_list_60 : decode cX9_list 60 = .ok (.aload_n 0, 1) := by decide +kernel
theorem dX9_list_61 : decode cX9_list 61 = .ok (.getfield 85, 3) := by decide +kernel
theorem dX9_list_64 : decode cX9_list 64 = .ok (.invokestatic 273, 3) := by decide +kernel
theorem dX9_list_67 : decode cX9_list 67 = .ok (.ireturn, 1) := by decide +kernel
theorem dX9_listed_0 : decode cX9_listed 0 = .ok (.aload_n 0, 1) := by decide +kernel
theorem dX9_listed_1 : decode cX9_listed 1 = .ok (.getfield 85, 3) := by decide +kernel
theorem dX9_listed_4 : decode cX9_listed 4 = .ok (.ireturn, 1) := by decide +kernel
theorem dX9_count_0 : decode cX9_count 0 = .ok (.iload_n 1, 1) := by decide +kernel
theorem dX9_count_1 : decode cX9_count 1 = .ok (.tableswitch 77 0 3 #[31, 39, 61, 69], 31) := by decide +kernel
theorem dX9_count_32 : decode cX9_count 32 = .ok (.aload_n 0, 1) := by decide +kernel
theorem dX9_count_33 : decode cX9_count 33 = .ok (.getfield 10, 3) := by decide +kernel
theorem dX9_count_36 : decode cX9_count 36 = .ok (.getfield 97, 3) := by decide +kernel
theorem dX9_count_39 : decode cX9_count 39 = .ok (.ireturn, 1) := by decide +kernel
theorem dX9_count_40 : decode cX9_count 40 = .ok (.aload_n 0, 1) := by decide +kernel
theorem dX9_count_41 : decode cX9_count 41 = .ok (.getfield 71, 3) := by decide +kernel
theorem dX9_count_44 : decode cX9_count 44 = .ok (.getfield 203, 3) := by decide +kernel
theorem dX9_count_47 : decode cX9_count 47 = .ok (.ifCond .le 13, 3) := by decide +kernel
theorem dX9_count_50 : decode cX9_count 50 = .ok (.aload_n 0, 1) := by decide +kernel
theorem dX9_count_51 : decode cX9_count 51 = .ok (.getfield 71, 3) := by decide +kernel
theorem dX9_count_54 : decode cX9_count 54 = .ok (.getfield 203, 3) := by decide +kernel
theorem dX9_count_57 : decode cX9_count 57 = .ok (.goto 4, 3) := by decide +kernel
theorem dX9_count_60 : decode cX9_count 60 = .ok (.iconst (-1), 1) := by decide +kernel
theorem dX9_count_61 : decode cX9_count 61 = .ok (.ireturn, 1) := by decide +kernel
theorem dX9_count_62 : decode cX9_count 62 = .ok (.aload_n 0, 1) := by decide +kernel
theorem dX9_count_63 : decode cX9_count 63 = .ok (.getfield 71, 3) := by decide +kernel
theorem dX9_count_66 : decode cX9_count 66 = .ok (.getfield 265, 3) := by decide +kernel
theorem dX9_count_69 : decode cX9_count 69 = .ok (.ireturn, 1) := by decide +kernel
theorem dX9_count_70 : decode cX9_count 70 = .ok (.aload_n 0, 1) := by decide +kernel
theorem dX9_count_71 : decode cX9_count 71 = .ok (.getfield 71, 3) := by decide +kernel
theorem dX9_count_74 : decode cX9_count 74 = .ok (.getfield 261, 3) := by decide +kernel
theorem dX9_count_77 : decode cX9_count 77 = .ok (.ireturn, 1) := by decide +kernel
theorem dX9_count_78 : decode cX9_count 78 = .ok (.iconst (-1), 1) := by decide +kernel
theorem dX9_count_79 : decode cX9_count 79 = .ok (.ireturn, 1) := by decide +kernel
theorem dX9_lineAt_0 : decode cX9_lineAt 0 = .ok (.iload_n 1, 1) := by decide +kernel
theorem dX9_lineAt_1 : decode cX9_lineAt 1 = .ok (.ifCond .lt 9, 3) := by decide +kernel
theorem dX9_lineAt_4 : decode cX9_lineAt 4 = .ok (.iload_n 1, 1) := by decide +kernel
theorem dX9_lineAt_5 : decode cX9_lineAt 5 = .ok (.bipush 8, 2) := by decide +kernel
theorem dX9_lineAt_7 : decode cX9_lineAt 7 = .ok (.if_icmp .lt 7, 3) := by decide +kernel
theorem dX9_lineAt_10 : decode cX9_lineAt 10 = .ok (.aconst_null, 1) := by decide +kernel
theorem dX9_lineAt_11 : decode cX9_lineAt 11 = .ok (.goto 9, 3) := by decide +kernel
theorem dX9_lineAt_14 : decode cX9_lineAt 14 = .ok (.aload_n 0, 1) := by decide +kernel
theorem dX9_lineAt_15 : decode cX9_lineAt 15 = .ok (.getfield 25, 3) := by decide +kernel
theorem dX9_lineAt_18 : decode cX9_lineAt 18 = .ok (.iload_n 1, 1) := by decide +kernel
theorem dX9_lineAt_19 : decode cX9_lineAt 19 = .ok (.aaload, 1) := by decide +kernel
theorem dX9_lineAt_20 : decode cX9_lineAt 20 = .ok (.areturn, 1) := by decide +kernel
theorem dX9_isLength_0 : decode cX9_isLength 0 = .ok (.iload_n 0, 1) := by decide +kernel
theorem dX9_isLength_1 : decode cX9_isLength 1 = .ok (.iconst 1, 1) := by decide +kernel
theorem dX9_isLength_2 : decode cX9_isLength 2 = .ok (.if_icmp .lt 13, 3) := by decide +kernel
theorem dX9_isLength_5 : decode cX9_isLength 5 = .ok (.iload_n 0, 1) := by decide +kernel
theorem dX9_isLength_6 : decode cX9_isLength 6 = .ok (.bipush 6, 2) := by decide +kernel
theorem dX9_isLength_8 : decode cX9_isLength 8 = .ok (.if_icmp .gt 7, 3) := by decide +kernel
theorem dX9_isLength_11 : decode cX9_isLength 11 = .ok (.iconst 1, 1) := by decide +kernel
theorem dX9_isLength_12 : decode cX9_isLength 12 = .ok (.goto 4, 3) := by decide +kernel
theorem dX9_isLength_15 : decode cX9_isLength 15 = .ok (.iconst 0, 1) := by decide +kernel
theorem dX9_isLength_16 : decode cX9_isLength 16 = .ok (.ireturn, 1) := by decide +kernel
theorem dX9_quotient_0 : decode cX9_quotient 0 = .ok (.iload_n 1, 1) := by decide +kernel
theorem dX9_quotient_1 : decode cX9_quotient 1 = .ok (.iconst 1, 1) := by decide +kernel
theorem dX9_quotient_2 : decode cX9_quotient 2 = .ok (.if_icmp .ge 7, 3) := by decide +kernel
theorem dX9_quotient_5 : decode cX9_quotient 5 = .ok (.iconst 0, 1) := by decide +kernel
theorem dX9_quotient_6 : decode cX9_quotient 6 = .ok (.goto 6, 3) := by decide +kernel
theorem dX9_quotient_9 : decode cX9_quotient 9 = .ok (.iload_n 0, 1) := by decide +kernel
theorem dX9_quotient_10 : decode cX9_quotient 10 = .ok (.iload_n 1, 1) := by decide +kernel
theorem dX9_quotient_11 : decode cX9_quotient 11 = .ok (.idiv, 1) := by decide +kernel
theorem dX9_quotient_12 : decode cX9_quotient 12 = .ok (.ireturn, 1) := by decide +kernel
theorem dX9_remainder_0 : decode cX9_remainder 0 = .ok (.iload_n 1, 1) := by decide +kernel
theorem dX9_remainder_1 : decode cX9_remainder 1 = .ok (.iconst 1, 1) := by decide +kernel
theorem dX9_remainder_2 : decode cX9_remainder 2 = .ok (.if_icmp .ge 7, 3) := by decide +kernel
theorem dX9_remainder_5 : decode cX9_remainder 5 = .ok (.iconst 0, 1) := by decide +kernel
theorem dX9_remainder_6 : decode cX9_remainder 6 = .ok (.goto 6, 3) := by decide +kernel
theorem dX9_remainder_9 : decode cX9_remainder 9 = .ok (.iload_n 0, 1) := by decide +kernel
theorem dX9_remainder_10 : decode cX9_remainder 10 = .ok (.iload_n 1, 1) := by decide +kernel
theorem dX9_remainder_11 : decode cX9_remainder 11 = .ok (.irem, 1) := by decide +kernel
theorem dX9_remainder_12 : decode cX9_remainder 12 = .ok (.ireturn, 1) := by decide +kernel
theorem dX9_lowest_0 : decode cX9_lowest 0 = .ok (.lload_n 0, 1) := by decide +kernel
theorem dX9_lowest_1 : decode cX9_lowest 1 = .ok (.lload_n 0, 1) := by decide +kernel
theorem dX9_lowest_2 : decode cX9_lowest 2 = .ok (.lneg, 1) := by decide +kernel
theorem dX9_lowest_3 : decode cX9_lowest 3 = .ok (.land, 1) := by decide +kernel
theorem dX9_lowest_4 : decode cX9_lowest 4 = .ok (.lconst 1, 1) := by decide +kernel
theorem dX9_lowest_5 : decode cX9_lowest 5 = .ok (.lsub, 1) := by decide +kernel
theorem dX9_lowest_6 : decode cX9_lowest 6 = .ok (.invokestatic 279, 3) := by decide +kernel
theorem dX9_lowest_9 : decode cX9_lowest 9 = .ok (.ireturn, 1) := by decide +kernel
theorem dX9_wordsInAll_0 : decode cX9_wordsInAll 0 = .ok (.iconst 1, 1) := by decide +kernel
theorem dX9_wordsInAll_1 : decode cX9_wordsInAll 1 = .ok (.istore_n 2, 1) := by decide +kernel
theorem dX9_wordsInAll_2 : decode cX9_wordsInAll 2 = .ok (.iconst 0, 1) := by decide +kernel
theorem dX9_wordsInAll_3 : decode cX9_wordsInAll 3 = .ok (.istore_n 3, 1) := by decide +kernel
theorem dX9_wordsInAll_4 : decode cX9_wordsInAll 4 = .ok (.iload_n 3, 1) := by decide +kernel
theorem dX9_wordsInAll_5 : decode cX9_wordsInAll 5 = .ok (.iload_n 1, 1) := by decide +kernel
theorem dX9_wordsInAll_6 : decode cX9_wordsInAll 6 = .ok (.if_icmp .ge 13, 3) := by decide +kernel
theorem dX9_wordsInAll_9 : decode cX9_wordsInAll 9 = .ok (.iload_n 2, 1) := by decide +kernel
theorem dX9_wordsInAll_10 : decode cX9_wordsInAll 10 = .ok (.iload_n 0, 1) := by decide +kernel
theorem dX9_wordsInAll_11 : decode cX9_wordsInAll 11 = .ok (.imul, 1) := by decide +kernel
theorem dX9_wordsInAll_12 : decode cX9_wordsInAll 12 = .ok (.istore_n 2, 1) := by decide +kernel
theorem dX9_wordsInAll_13 : decode cX9_wordsInAll 13 = .ok (.iinc 3 1, 3) := by decide +kernel
theorem dX9_wordsInAll_16 : decode cX9_wordsInAll 16 = .ok (.goto (-12), 3) := by decide +kernel
theorem dX9_wordsInAll_19 : decode cX9_wordsInAll 19 = .ok (.iload_n 2, 1) := by decide +kernel
theorem dX9_wordsInAll_20 : decode cX9_wordsInAll 20 = .ok (.ireturn, 1) := by decide +kernel
theorem dX9_pairsNear_0 : decode cX9_pairsNear 0 = .ok (.iconst 0, 1) := by decide +kernel
theorem dX9_pairsNear_1 : decode cX9_pairsNear 1 = .ok (.istore 4, 2) := by decide +kernel
theorem dX9_pairsNear_3 : decode cX9_pairsNear 3 = .ok (.iconst 0, 1) := by decide +kernel
theorem dX9_pairsNear_4 : decode cX9_pairsNear 4 = .ok (.istore 5, 2) := by decide +kernel
theorem dX9_pairsNear_6 : decode cX9_pairsNear 6 = .ok (.iload 5, 2) := by decide +kernel
theorem dX9_pairsNear_8 : decode cX9_pairsNear 8 = .ok (.aload_n 0, 1) := by decide +kernel
theorem dX9_pairsNear_9 : decode cX9_pairsNear 9 = .ok (.getfield 144, 3) := by decide +kernel
theorem dX9_pairsNear_12 : decode cX9_pairsNear 12 = .ok (.if_icmp .ge 42, 3) := by decide +kernel
theorem dX9_pairsNear_15 : decode cX9_pairsNear 15 = .ok (.aload_n 0, 1) := by decide +kernel
theorem dX9_pairsNear_16 : decode cX9_pairsNear 16 = .ok (.iload_n 1, 1) := by decide +kernel
theorem dX9_pairsNear_17 : decode cX9_pairsNear 17 = .ok (.iload 5, 2) := by decide +kernel
theorem dX9_pairsNear_19 : decode cX9_pairsNear 19 = .ok (.invokevirtual 179, 3) := by decide +kernel
theorem dX9_pairsNear_22 : decode cX9_pairsNear 22 = .ok (.ifCond .eq 26, 3) := by decide +kernel
theorem dX9_pairsNear_25 : decode cX9_pairsNear 25 = .ok (.iload 4, 2) := by decide +kernel
theorem dX9_pairsNear_27 : decode cX9_pairsNear 27 = .ok (.aload_n 2, 1) := by decide +kernel
theorem dX9_pairsNear_28 : decode cX9_pairsNear 28 = .ok (.getfield 155, 3) := by decide +kernel
theorem dX9_pairsNear_31 : decode cX9_pairsNear 31 = .ok (.iload_n 3, 1) := by decide +kernel
theorem dX9_pairsNear_32 : decode cX9_pairsNear 32 = .ok (.iaload, 1) := by decide +kernel
theorem dX9_pairsNear_33 : decode cX9_pairsNear 33 = .ok (.iconst 1, 1) := by decide +kernel
theorem dX9_pairsNear_34 : decode cX9_pairsNear 34 = .ok (.iload_n 3, 1) := by decide +kernel
theorem dX9_pairsNear_35 : decode cX9_pairsNear 35 = .ok (.ishl, 1) := by decide +kernel
theorem dX9_pairsNear_36 : decode cX9_pairsNear 36 = .ok (.ior, 1) := by decide +kernel
theorem dX9_pairsNear_37 : decode cX9_pairsNear 37 = .ok (.iload 5, 2) := by decide +kernel
theorem dX9_pairsNear_39 : decode cX9_pairsNear 39 = .ok (.aload_n 2, 1) := by decide +kernel
theorem dX9_pairsNear_40 : decode cX9_pairsNear 40 = .ok (.getfield 144, 3) := by decide +kernel
theorem dX9_pairsNear_43 : decode cX9_pairsNear 43 = .ok (.imul, 1) := by decide +kernel
theorem dX9_pairsNear_44 : decode cX9_pairsNear 44 = .ok (.ishl, 1) := by decide +kernel
theorem dX9_pairsNear_45 : decode cX9_pairsNear 45 = .ok (.ior, 1) := by decide +kernel
theorem dX9_pairsNear_46 : decode cX9_pairsNear 46 = .ok (.istore 4, 2) := by decide +kernel
theorem dX9_pairsNear_48 : decode cX9_pairsNear 48 = .ok (.iinc 5 1, 3) := by decide +kernel
theorem dX9_pairsNear_51 : decode cX9_pairsNear 51 = .ok (.goto (-45), 3) := by decide +kernel
theorem dX9_pairsNear_54 : decode cX9_pairsNear 54 = .ok (.iload 4, 2) := by decide +kernel
theorem dX9_pairsNear_56 : decode cX9_pairsNear 56 = .ok (.ireturn, 1) := by decide +kernel
theorem dX9_aboutLetter_0 : decode cX9_aboutLetter 0 = .ok (.iload_n 1, 1) := by decide +kernel
theorem dX9_aboutLetter_1 : decode cX9_aboutLetter 1 = .ok (.bipush 10, 2) := by decide +kernel
theorem dX9_aboutLetter_3 : decode cX9_aboutLetter 3 = .ok (.if_icmp .lt 24, 3) := by decide +kernel
theorem dX9_aboutLetter_6 : decode cX9_aboutLetter 6 = .ok (.iload_n 1, 1) := by decide +kernel
theorem dX9_aboutLetter_7 : decode cX9_aboutLetter 7 = .ok (.bipush 10, 2) := by decide +kernel
theorem dX9_aboutLetter_9 : decode cX9_aboutLetter 9 = .ok (.aload_n 0, 1) := by decide +kernel
theorem dX9_aboutLetter_10 : decode cX9_aboutLetter 10 = .ok (.getfield 144, 3) := by decide +kernel
theorem dX9_aboutLetter_13 : decode cX9_aboutLetter 13 = .ok (.iadd, 1) := by decide +kernel
theorem dX9_aboutLetter_14 : decode cX9_aboutLetter 14 = .ok (.if_icmp .ge 13, 3) := by decide +kernel
theorem dX9_aboutLetter_17 : decode cX9_aboutLetter 17 = .ok (.aload_n 0, 1) := by decide +kernel
theorem dX9_aboutLetter_18 : decode cX9_aboutLetter 18 = .ok (.getfield 155, 3) := by decide +kernel
theorem dX9_aboutLetter_21 : decode cX9_aboutLetter 21 = .ok (.iload_n 1, 1) := by decide +kernel
theorem dX9_aboutLetter_22 : decode cX9_aboutLetter 22 = .ok (.bipush 10, 2) := by decide +kernel
theorem dX9_aboutLetter_24 : decode cX9_aboutLetter 24 = .ok (.isub, 1) := by decide +kernel
theorem dX9_aboutLetter_25 : decode cX9_aboutLetter 25 = .ok (.iaload, 1) := by decide +kernel
theorem dX9_aboutLetter_26 : decode cX9_aboutLetter 26 = .ok (.ireturn, 1) := by decide +kernel
theorem dX9_aboutLetter_27 : decode cX9_aboutLetter 27 = .ok (.aload_n 0, 1) := by decide +kernel
theorem dX9_aboutLetter_28 : decode cX9_aboutLetter 28 = .ok (.getfield 111, 3) := by decide +kernel
theorem dX9_aboutLetter_31 : decode cX9_aboutLetter 31 = .ok (.iconst 1, 1) := by decide +kernel
theorem dX9_aboutLetter_32 : decode cX9_aboutLetter 32 = .ok (.if_icmp .ne 30, 3) := by decide +kernel
theorem dX9_aboutLetter_35 : decode cX9_aboutLetter 35 = .ok (.iload_n 1, 1) := by decide +kernel
theorem dX9_aboutLetter_36 : decode cX9_aboutLetter 36 = .ok (.bipush 40, 2) := by decide +kernel
theorem dX9_aboutLetter_38 : decode cX9_aboutLetter 38 = .ok (.if_icmp .lt 24, 3) := by decide +kernel
theorem dX9_aboutLetter_41 : decode cX9_aboutLetter 41 = .ok (.iload_n 1, 1) := by decide +kernel
theorem dX9_aboutLetter_42 : decode cX9_aboutLetter 42 = .ok (.bipush 40, 2) := by decide +kernel
theorem dX9_aboutLetter_44 : decode cX9_aboutLetter 44 = .ok (.aload_n 0, 1) := by decide +kernel
theorem dX9_aboutLetter_45 : decode cX9_aboutLetter 45 = .ok (.getfield 144, 3) := by decide +kernel
theorem dX9_aboutLetter_48 : decode cX9_aboutLetter 48 = .ok (.iadd, 1) := by decide +kernel
theorem dX9_aboutLetter_49 : decode cX9_aboutLetter 49 = .ok (.if_icmp .ge 13, 3) := by decide +kernel
theorem dX9_aboutLetter_52 : decode cX9_aboutLetter 52 = .ok (.aload_n 0, 1) := by decide +kernel
theorem dX9_aboutLetter_53 : decode cX9_aboutLetter 53 = .ok (.getfield 284, 3) := by decide +kernel
theorem dX9_aboutLetter_56 : decode cX9_aboutLetter 56 = .ok (.iload_n 1, 1) := by decide +kernel
theorem dX9_aboutLetter_57 : decode cX9_aboutLetter 57 = .ok (.bipush 40, 2) := by decide +kernel
theorem dX9_aboutLetter_59 : decode cX9_aboutLetter 59 = .ok (.isub, 1) := by decide +kernel
theorem dX9_aboutLetter_60 : decode cX9_aboutLetter 60 = .ok (.iaload, 1) := by decide +kernel
theorem dX9_aboutLetter_61 : decode cX9_aboutLetter 61 = .ok (.ireturn, 1) := by decide +kernel
theorem dX9_aboutLetter_62 : decode cX9_aboutLetter 62 = .ok (.iconst (-1), 1) := by decide +kernel
theorem dX9_aboutLetter_63 : decode cX9_aboutLetter 63 = .ok (.ireturn, 1) := by decide +kernel
theorem dX9_fewestHeaps_0 : decode cX9_fewestHeaps 0 = .ok (.aload_n 0, 1) := by decide +kernel
theorem dX9_fewestHeaps_1 : decode cX9_fewestHeaps 1 = .ok (.getfield 36, 3) := by decide +kernel
theorem dX9_fewestHeaps_4 : decode cX9_fewestHeaps 4 = .ok (.aload_n 1, 1) := by decide +kernel
theorem dX9_fewestHeaps_5 : decode cX9_fewestHeaps 5 = .ok (.iconst 1, 1) := by decide +kernel
theorem dX9_fewestHeaps_6 : decode cX9_fewestHeaps 6 = .ok (.invokevirtual 185, 3) := by decide +kernel
theorem dX9_fewestHeaps_9 : decode cX9_fewestHeaps 9 = .ok (.aload_n 0, 1) := by decide +kernel
theorem dX9_fewestHeaps_10 : decode cX9_fewestHeaps 10 = .ok (.getfield 36, 3) := by decide +kernel
theorem dX9_fewestHeaps_13 : decode cX9_fewestHeaps 13 = .ok (.invokevirtual 189, 3) := by decide +kernel
theorem dX9_fewestHeaps_16 : decode cX9_fewestHeaps 16 = .ok (.istore_n 2, 1) := by decide +kernel
theorem dX9_fewestHeaps_17 : decode cX9_fewestHeaps 17 = .ok (.aload_n 0, 1) := by decide +kernel
theorem dX9_fewestHeaps_18 : decode cX9_fewestHeaps 18 = .ok (.getfield 36, 3) := by decide +kernel
theorem dX9_fewestHeaps_21 : decode cX9_fewestHeaps 21 = .ok (.aload_n 1, 1) := by decide +kernel
theorem dX9_fewestHeaps_22 : decode cX9_fewestHeaps 22 = .ok (.invokevirtual 285, 3) := by decide +kernel
theorem dX9_fewestHeaps_25 : decode cX9_fewestHeaps 25 = .ok (.aload_n 0, 1) := by decide +kernel
theorem dX9_fewestHeaps_26 : decode cX9_fewestHeaps 26 = .ok (.getfield 43, 3) := by decide +kernel
theorem dX9_fewestHeaps_29 : decode cX9_fewestHeaps 29 = .ok (.aload_n 1, 1) := by decide +kernel
theorem dX9_fewestHeaps_30 : decode cX9_fewestHeaps 30 = .ok (.iload_n 2, 1) := by decide +kernel
theorem dX9_fewestHeaps_31 : decode cX9_fewestHeaps 31 = .ok (.aload_n 0, 1) := by decide +kernel
theorem dX9_fewestHeaps_32 : decode cX9_fewestHeaps 32 = .ok (.getfield 36, 3) := by decide +kernel
theorem dX9_fewestHeaps_35 : decode cX9_fewestHeaps 35 = .ok (.invokevirtual 189, 3) := by decide +kernel
theorem dX9_fewestHeaps_38 : decode cX9_fewestHeaps 38 = .ok (.invokevirtual 288, 3) := by decide +kernel
theorem dX9_fewestHeaps_41 : decode cX9_fewestHeaps 41 = .ok (.ireturn, 1) := by decide +kernel
theorem dX9_findBest_0 : decode cX9_findBest 0 = .ok (.aload_n 0, 1) := by decide +kernel
theorem dX9_findBest_1 : decode cX9_findBest 1 = .ok (.getfield 57, 3) := by decide +kernel
theorem dX9_findBest_4 : decode cX9_findBest 4 = .ok (.iconst 0, 1) := by decide +kernel
theorem dX9_findBest_5 : decode cX9_findBest 5 = .ok (.putfield 247, 3) := by decide +kernel
theorem dX9_findBest_8 : decode cX9_findBest 8 = .ok (.iconst 1, 1) := by decide +kernel
theorem dX9_findBest_9 : decode cX9_findBest 9 = .ok (.istore_n 2, 1) := by decide +kernel
theorem dX9_findBest_10 : decode cX9_findBest 10 = .ok (.iload_n 2, 1) := by decide +kernel
theorem dX9_findBest_11 : decode cX9_findBest 11 = .ok (.bipush 6, 2) := by decide +kernel
theorem dX9_findBest_13 : decode cX9_findBest 13 = .ok (.if_icmp .gt 69, 3) := by decide +kernel
theorem dX9_findBest_16 : decode cX9_findBest 16 = .ok (.iload_n 2, 1) := by decide +kernel
theorem dX9_findBest_17 : decode cX9_findBest 17 = .ok (.iconst 1, 1) := by decide +kernel
theorem dX9_findBest_18 : decode cX9_findBest 18 = .ok (.if_icmp .eq 11, 3) := by decide +kernel
theorem dX9_findBest_21 : decode cX9_findBest 21 = .ok (.aload_n 1, 1) := by decide +kernel
theorem dX9_findBest_22 : decode cX9_findBest 22 = .ok (.getfield 144, 3) := by decide +kernel
theorem dX9_findBest_25 : decode cX9_findBest 25 = .ok (.iconst 1, 1) := by decide +kernel
theorem dX9_findBest_26 : decode cX9_findBest 26 = .ok (.if_icmp .le 7, 3) := by decide +kernel
theorem dX9_findBest_29 : decode cX9_findBest 29 = .ok (.iconst 1, 1) := by decide +kernel
theorem dX9_findBest_30 : decode cX9_findBest 30 = .ok (.goto 4, 3) := by decide +kernel
theorem dX9_findBest_33 : decode cX9_findBest 33 = .ok (.iconst 0, 1) := by decide +kernel
theorem dX9_findBest_34 : decode cX9_findBest 34 = .ok (.istore_n 3, 1) := by decide +kernel
theorem dX9_findBest_35 : decode cX9_findBest 35 = .ok (.iload_n 3, 1) := by decide +kernel
theorem dX9_findBest_36 : decode cX9_findBest 36 = .ok (.ifCond .eq 40, 3) := by decide +kernel
theorem dX9_findBest_39 : decode cX9_findBest 39 = .ok (.aload_n 1, 1) := by decide +kernel
theorem dX9_findBest_40 : decode cX9_findBest 40 = .ok (.getfield 144, 3) := by decide +kernel
theorem dX9_findBest_43 : decode cX9_findBest 43 = .ok (.iload_n 2, 1) := by decide +kernel
theorem dX9_findBest_44 : decode cX9_findBest 44 = .ok (.invokestatic 172, 3) := by decide +kernel
theorem dX9_findBest_47 : decode cX9_findBest 47 = .ok (.bipush 64, 2) := by decide +kernel
theorem dX9_findBest_49 : decode cX9_findBest 49 = .ok (.if_icmp .gt 27, 3) := by decide +kernel
theorem dX9_findBest_52 : decode cX9_findBest 52 = .ok (.aload_n 0, 1) := by decide +kernel
theorem dX9_findBest_53 : decode cX9_findBest 53 = .ok (.getfield 36, 3) := by decide +kernel
theorem dX9_findBest_56 : decode cX9_findBest 56 = .ok (.aload_n 1, 1) := by decide +kernel
theorem dX9_findBest_57 : decode cX9_findBest 57 = .ok (.iload_n 2, 1) := by decide +kernel
theorem dX9_findBest_58 : decode cX9_findBest 58 = .ok (.invokevirtual 185, 3) := by decide +kernel
theorem dX9_findBest_61 : decode cX9_findBest 61 = .ok (.aload_n 0, 1) := by decide +kernel
theorem dX9_findBest_62 : decode cX9_findBest 62 = .ok (.getfield 57, 3) := by decide +kernel
theorem dX9_findBest_65 : decode cX9_findBest 65 = .ok (.aload_n 0, 1) := by decide +kernel
theorem dX9_findBest_66 : decode cX9_findBest 66 = .ok (.getfield 36, 3) := by decide +kernel
theorem dX9_findBest_69 : decode cX9_findBest 69 = .ok (.invokevirtual 189, 3) := by decide +kernel
theorem dX9_findBest_72 : decode cX9_findBest 72 = .ok (.iload_n 2, 1) := by decide +kernel
theorem dX9_findBest_73 : decode cX9_findBest 73 = .ok (.invokevirtual 292, 3) := by decide +kernel
theorem dX9_findBest_76 : decode cX9_findBest 76 = .ok (.iinc 2 1, 3) := by decide +kernel
theorem dX9_findBest_79 : decode cX9_findBest 79 = .ok (.goto (-69), 3) := by decide +kernel
theorem dX9_findBest_82 : decode cX9_findBest 82 = .ok (.return_, 1) := by decide +kernel
theorem dX9_couldMake_0 : decode cX9_couldMake 0 = .ok (.iload_n 2, 1) := by decide +kernel
theorem dX9_couldMake_1 : decode cX9_couldMake 1 = .ok (.istore_n 3, 1) := by decide +kernel
theorem dX9_couldMake_2 : decode cX9_couldMake 2 = .ok (.aload_n 0, 1) := by decide +kernel
theorem dX9_couldMake_3 : decode cX9_couldMake 3 = .ok (.getfield 71, 3) := by decide +kernel
theorem dX9_couldMake_6 : decode cX9_couldMake 6 = .ok (.getfield 265, 3) := by decide +kernel
theorem dX9_couldMake_9 : decode cX9_couldMake 9 = .ok (.iconst 1, 1) := by decide +kernel
theorem dX9_couldMake_10 : decode cX9_couldMake 10 = .ok (.isub, 1) := by decide +kernel
theorem dX9_couldMake_11 : decode cX9_couldMake 11 = .ok (.istore 4, 2) := by decide +kernel
theorem dX9_couldMake_13 : decode cX9_couldMake 13 = .ok (.iload 4, 2) := by decide +kernel
theorem dX9_couldMake_15 : decode cX9_couldMake 15 = .ok (.ifCond .lt 51, 3) := by decide +kernel
theorem dX9_couldMake_18 : decode cX9_couldMake 18 = .ok (.iload_n 3, 1) := by decide +kernel
theorem dX9_couldMake_19 : decode cX9_couldMake 19 = .ok (.aload_n 1, 1) := by decide +kernel
theorem dX9_couldMake_20 : decode cX9_couldMake 20 = .ok (.getfield 144, 3) := by decide +kernel
theorem dX9_couldMake_23 : decode cX9_couldMake 23 = .ok (.invokestatic 176, 3) := by decide +kernel
theorem dX9_couldMake_26 : decode cX9_couldMake 26 = .ok (.istore 5, 2) := by decide +kernel
theorem dX9_couldMake_28 : decode cX9_couldMake 28 = .ok (.aload_n 1, 1) := by decide +kernel
theorem dX9_couldMake_29 : decode cX9_couldMake 29 = .ok (.getfield 284, 3) := by decide +kernel
theorem dX9_couldMake_32 : decode cX9_couldMake 32 = .ok (.iload 5, 2) := by decide +kernel
theorem dX9_couldMake_34 : decode cX9_couldMake 34 = .ok (.iaload, 1) := by decide +kernel
theorem dX9_couldMake_35 : decode cX9_couldMake 35 = .ok (.aload_n 0, 1) := by decide +kernel
theorem dX9_couldMake_36 : decode cX9_couldMake 36 = .ok (.getfield 19, 3) := by decide +kernel
theorem dX9_couldMake_39 : decode cX9_couldMake 39 = .ok (.getfield 137, 3) := by decide +kernel
theorem dX9_couldMake_42 : decode cX9_couldMake 42 = .ok (.iload 4, 2) := by decide +kernel
theorem dX9_couldMake_44 : decode cX9_couldMake 44 = .ok (.iaload, 1) := by decide +kernel
theorem dX9_couldMake_45 : decode cX9_couldMake 45 = .ok (.iand, 1) := by decide +kernel
theorem dX9_couldMake_46 : decode cX9_couldMake 46 = .ok (.ifCond .ne 5, 3) := by decide +kernel
theorem dX9_couldMake_49 : decode cX9_couldMake 49 = .ok (.iconst 0, 1) := by decide +kernel
theorem dX9_couldMake_50 : decode cX9_couldMake 50 = .ok (.ireturn, 1) := by decide +kernel
theorem dX9_couldMake_51 : decode cX9_couldMake 51 = .ok (.iload_n 3, 1) := by decide +kernel
theorem dX9_couldMake_52 : decode cX9_couldMake 52 = .ok (.aload_n 1, 1) := by decide +kernel
theorem dX9_couldMake_53 : decode cX9_couldMake 53 = .ok (.getfield 144, 3) := by decide +kernel
theorem dX9_couldMake_56 : decode cX9_couldMake 56 = .ok (.invokestatic 182, 3) := by decide +kernel
theorem dX9_couldMake_59 : decode cX9_couldMake 59 = .ok (.istore_n 3, 1) := by decide +kernel
theorem dX9_couldMake_60 : decode cX9_couldMake 60 = .ok (.iinc 4 (-1), 3) := by decide +kernel
theorem dX9_couldMake_63 : decode cX9_couldMake 63 = .ok (.goto (-50), 3) := by decide +kernel
theorem dX9_couldMake_66 : decode cX9_couldMake 66 = .ok (.iconst 1, 1) := by decide +kernel
theorem dX9_couldMake_67 : decode cX9_couldMake 67 = .ok (.ireturn, 1) := by decide +kernel
theorem dX10_in_0 : decode cX10_in 0 = .ok (.lload_n 0, 1) := by decide +kernel
theorem dX10_in_1 : decode cX10_in 1 = .ok (.lload_n 2, 1) := by decide +kernel
theorem dX10_in_2 : decode cX10_in 2 = .ok (.lcmp, 1) := by decide +kernel
theorem dX10_in_3 : decode cX10_in 3 = .ok (.ifCond .lt 14, 3) := by decide +kernel
theorem dX10_in_6 : decode cX10_in 6 = .ok (.lload_n 0, 1) := by decide +kernel
theorem dX10_in_7 : decode cX10_in 7 = .ok (.lload 4, 2) := by decide +kernel
theorem dX10_in_9 : decode cX10_in 9 = .ok (.lcmp, 1) := by decide +kernel
theorem dX10_in_10 : decode cX10_in 10 = .ok (.ifCond .gt 7, 3) := by decide +kernel
theorem dX10_in_13 : decode cX10_in 13 = .ok (.iconst 1, 1) := by decide +kernel
theorem dX10_in_14 : decode cX10_in 14 = .ok (.goto 4, 3) := by decide +kernel
theorem dX10_in_17 : decode cX10_in 17 = .ok (.iconst 0, 1) := by decide +kernel
theorem dX10_in_18 : decode cX10_in 18 = .ok (.ireturn, 1) := by decide +kernel
theorem dX10_init_0 : decode cX10_init 0 = .ok (.aload_n 0, 1) := by decide +kernel
theorem dX10_init_1 : decode cX10_init 1 = .ok (.invokespecial 1, 3) := by decide +kernel
theorem dX10_init_4 : decode cX10_init 4 = .ok (.aload_n 0, 1) := by decide +kernel
theorem dX10_init_5 : decode cX10_init 5 = .ok (.bipush 8, 2) := by decide +kernel
theorem dX10_init_7 : decode cX10_init 7 = .ok (.newarray .int, 2) := by decide +kernel
theorem dX10_init_9 : decode cX10_init 9 = .ok (.putfield 9, 3) := by decide +kernel
theorem dX10_init_12 : decode cX10_init 12 = .ok (.aload_n 0, 1) := by decide +kernel
theorem dX10_init_13 : decode cX10_init 13 = .ok (.bipush 8, 2) := by decide +kernel
theorem dX10_init_15 : decode cX10_init 15 = .ok (.newarray .int, 2) := by decide +kernel
theorem dX10_init_17 : decode cX10_init 17 = .ok (.putfield 13, 3) := by decide +kernel
theorem dX10_init_20 : decode cX10_init 20 = .ok (.aload_n 0, 1) := by decide +kernel
theorem dX10_init_21 : decode cX10_init 21 = .ok (.sipush 192, 3) := by decide +kernel
theorem dX10_init_24 : decode cX10_init 24 = .ok (.newarray .int, 2) := by decide +kernel
theorem dX10_init_26 : decode cX10_init 26 = .ok (.putfield 16, 3) := by decide +kernel
theorem dX10_init_29 : decode cX10_init 29 = .ok (.aload_n 0, 1) := by decide +kernel
theorem dX10_init_30 : decode cX10_init 30 = .ok (.sipush 192, 3) := by decide +kernel
theorem dX10_init_33 : decode cX10_init 33 = .ok (.newarray .int, 2) := by decide +kernel
theorem dX10_init_35 : decode cX10_init 35 = .ok (.putfield 19, 3) := by decide +kernel
theorem dX10_init_38 : decode cX10_init 38 = .ok (.aload_n 0, 1) := by decide +kernel
theorem dX10_init_39 : decode cX10_init 39 = .ok (.sipush 1200, 3) := by decide +kernel
theorem dX10_init_42 : decode cX10_init 42 = .ok (.newarray .int, 2) := by decide +kernel
theorem dX10_init_44 : decode cX10_init 44 = .ok (.putfield 22, 3) := by decide +kernel
theorem dX10_init_47 : decode cX10_init 47 = .ok (.aload_n 0, 1) := by decide +kernel
theorem dX10_init_48 : decode cX10_init 48 = .ok (.bipush 8, 2) := by decide +kernel
theorem dX10_init_50 : decode cX10_init 50 = .ok (.newarray .int, 2) := by decide +kernel
theorem dX10_init_52 : decode cX10_init 52 = .ok (.putfield 25, 3) := by decide +kernel
theorem dX10_init_55 : decode cX10_init 55 = .ok (.aload_n 0, 1) := by decide +kernel
theorem dX10_init_56 : decode cX10_init 56 = .ok (.sipush 600, 3) := by decide +kernel
theorem dX10_init_59 : decode cX10_init 59 = .ok (.newarray .byte, 2) := by decide +kernel
theorem dX10_init_61 : decode cX10_init 61 = .ok (.putfield 28, 3) := by decide +kernel
theorem dX10_init_64 : decode cX10_init 64 = .ok (.aload_n 0, 1) := by decide +kernel
theorem dX10_init_65 : decode cX10_init 65 = .ok (.iconst (-1), 1) := by decide +kernel
theorem dX10_init_66 : decode cX10_init 66 = .ok (.putfield 32, 3) := by decide +kernel
theorem dX10_init_69 : decode cX10_init 69 = .ok (.aload_n 0, 1) := by decide +kernel
theorem dX10_init_70 : decode cX10_init 70 = .ok (.bipush 24, 2) := by decide +kernel
theorem dX10_init_72 : decode cX10_init 72 = .ok (.newarray .int, 2) := by decide +kernel
theorem dX10_init_74 : decode cX10_init 74 = .ok (.putfield 36, 3) := by decide +kernel
theorem dX10_init_77 : decode cX10_init 77 = .ok (.aload_n 0, 1) := by decide +kernel
theorem dX10_init_78 : decode cX10_init 78 = .ok (.bipush 24, 2) := by decide +kernel
theorem dX10_init_80 : decode cX10_init 80 = .ok (.newarray .int, 2) := by decide +kernel
theorem dX10_init_82 : decode cX10_init 82 = .ok (.putfield 39, 3) := by decide +kernel
theorem dX10_init_85 : decode cX10_init 85 = .ok (.aload_n 0, 1) := by decide +kernel
theorem dX10_init_86 : decode cX10_init 86 = .ok (.bipush 64, 2) := by decide +kernel
theorem dX10_init_88 : decode cX10_init 88 = .ok (.newarray .long, 2) := by decide +kernel
theorem dX10_init_90 : decode cX10_init 90 = .ok (.putfield 42, 3) := by decide +kernel
theorem dX10_init_93 : decode cX10_init 93 = .ok (.aload_n 0, 1) := by decide +kernel
theorem dX10_init_94 : decode cX10_init 94 = .ok (.bipush 64, 2) := by decide +kernel
theorem dX10_init_96 : decode cX10_init 96 = .ok (.newarray .int, 2) := by decide +kernel
theorem dX10_init_98 : decode cX10_init 98 = .ok (.putfield 46, 3) := by decide +kernel
theorem dX10_init_101 : decode cX10_init 101 = .ok (.aload_n 0, 1) := by decide +kernel
theorem dX10_init_102 : decode cX10_init 102 = .ok (.iconst (-1), 1) := by decide +kernel
theorem dX10_init_103 : decode cX10_init 103 = .ok (.putfield 49, 3) := by decide +kernel
theorem dX10_init_106 : decode cX10_init 106 = .ok (.aload_n 0, 1) := by decide +kernel
theorem dX10_init_107 : decode cX10_init 107 = .ok (.iconst (-1), 1) := by decide +kernel
theorem dX10_init_108 : decode cX10_init 108 = .ok (.putfield 52, 3) := by decide +kernel
theorem dX10_init_111 : decode cX10_init 111 = .ok (.aload_n 0, 1) := by decide +kernel
theorem dX10_init_112 : decode cX10_init 112 = .ok (.iconst (-1), 1) := by decide +kernel
theorem dX10_init_113 : decode cX10_init 113 = .ok (.putfield 55, 3) := by decide +kernel
theorem dX10_init_116 : decode cX10_init 116 = .ok (.aload_n 0, 1) := by decide +kernel
theorem dX10_init_117 : decode cX10_init 117 = .ok (.bipush 24, 2) := by decide +kernel
theorem dX10_init_119 : decode cX10_init 119 = .ok (.newarray .int, 2) := by decide +kernel
theorem dX10_init_121 : decode cX10_init 121 = .ok (.putfield 58, 3) := by decide +kernel
theorem dX10_init_124 : decode cX10_init 124 = .ok (.aload_n 0, 1) := by decide +kernel
theorem dX10_init_125 : decode cX10_init 125 = .ok (.bipush 24, 2) := by decide +kernel
theorem dX10_init_127 : decode cX10_init 127 = .ok (.newarray .int, 2) := by decide +kernel
theorem dX10_init_129 : decode cX10_init 129 = .ok (.putfield 61, 3) := by decide +kernel
theorem dX10_init_132 : decode cX10_init 132 = .ok (.aload_n 0, 1) := by decide +kernel
theorem dX10_init_133 : decode cX10_init 133 = .ok (.bipush 24, 2) := by decide +kernel
theorem dX10_init_135 : decode cX10_init 135 = .ok (.newarray .int, 2) := by decide +kernel
theorem dX10_init_137 : decode cX10_init 137 = .ok (.putfield 64, 3) := by decide +kernel
theorem dX10_init_140 : decode cX10_init 140 = .ok (.aload_n 0, 1) := by decide +kernel
theorem dX10_init_141 : decode cX10_init 141 = .ok (.bipush 12, 2) := by decide +kernel
theorem dX10_init_143 : decode cX10_init 143 = .ok (.newarray .long, 2) := by decide +kernel
theorem dX10_init_145 : decode cX10_init 145 = .ok (.putfield 67, 3) := by decide +kernel
theorem dX10_init_148 : decode cX10_init 148 = .ok (.aload_n 0, 1) := by decide +kernel
theorem dX10_init_149 : decode cX10_init 149 = .ok (.bipush 12, 2) := by decide +kernel
theorem dX10_init_151 : decode cX10_init 151 = .ok (.newarray .long, 2) := by decide +kernel
theorem dX10_init_153 : decode cX10_init 153 = .ok (.putfield 70, 3) := by decide +kernel
theorem dX10_init_156 : decode cX10_init 156 = .ok (.aload_n 0, 1) := by decide +kernel
theorem dX10_init_157 : decode cX10_init 157 = .ok (.iconst (-1), 1) := by decide +kernel
theorem dX10_init_158 : decode cX10_init 158 = .ok (.putfield 73, 3) := by decide +kernel
theorem dX10_init_161 : decode cX10_init 161 = .ok (.aload_n 0, 1) := by decide +kernel
theorem dX10_init_162 : decode cX10_init 162 = .ok (.iconst (-1), 1) := by decide +kernel
theorem dX10_init_163 : decode cX10_init 163 = .ok (.putfield 76, 3) := by decide +kernel
theorem dX10_init_166 : decode cX10_init 166 = .ok (.iconst 0, 1) := by decide +kernel
theorem dX10_init_167 : decode cX10_init 167 = .ok (.istore_n 1, 1) := by decide +kernel
theorem dX10_init_168 : decode cX10_init 168 = .ok (.iload_n 1, 1) := by decide +kernel
theorem dX10_init_169 : decode cX10_init 169 = .ok (.bipush 8, 2) := by decide +kernel
theorem dX10_init_171 : decode cX10_init 171 = .ok (.if_icmp .ge 16, 3) := by decide +kernel
theorem dX10_init_174 : decode cX10_init 174 = .ok (.aload_n 0, 1) := by decide +kernel
theorem dX10_init_175 : decode cX10_init 175 = .ok (.getfield 9, 3) := by decide +kernel
theorem dX10_init_178 : decode cX10_init 178 = .ok (.iload_n 1, 1) := by decide +kernel
theorem dX10_init_179 : decode cX10_init 179 = .ok (.iconst 1, 1) := by decide +kernel
theorem dX10_init_180 : decode cX10_init 180 = .ok (.iastore, 1) := by decide +kernel
theorem dX10_init_181 : decode cX10_init 181 = .ok (.iinc 1 1, 3) := by decide +kernel
theorem dX10_init_184 : decode cX10_init 184 = .ok (.goto (-16), 3) := by decide +kernel
theorem dX10_init_187 : decode cX10_init 187 = .ok (.return_, 1) := by decide +kernel
theorem dX10_isLine_0 : decode cX10_isLine 0 = .ok (.iload_n 0, 1) := by decide +kernel
theorem dX10_isLine_1 : decode cX10_isLine 1 = .ok (.i2l, 1) := by decide +kernel
theorem dX10_isLine_2 : decode cX10_isLine 2 = .ok (.lconst 0, 1) := by decide +kernel
theorem dX10_isLine_3 : decode cX10_isLine 3 = .ok (.ldc2_w 79, 3) := by decide +kernel
theorem dX10_isLine_6 : decode cX10_isLine 6 = .ok (.invokestatic 81, 3) := by decide +kernel
theorem dX10_isLine_9 : decode cX10_isLine 9 = .ok (.ireturn, 1) := by decide +kernel
theorem dX10_isLetter_0 : decode cX10_isLetter 0 = .ok (.iload_n 1, 1) := by decide +kernel
theorem dX10_isLetter_1 : decode cX10_isLetter 1 = .ok (.invokestatic 85, 3) := by decide +kernel
theorem dX10_isLetter_4 : decode cX10_isLetter 4 = .ok (.ifCond .eq 25, 3) := by decide +kernel
theorem dX10_isLetter_7 : decode cX10_isLetter 7 = .ok (.iload_n 2, 1) := by decide +kernel
theorem dX10_isLetter_8 : decode cX10_isLetter 8 = .ok (.i2l, 1) := by decide +kernel
theorem dX10_isLetter_9 : decode cX10_isLetter 9 = .ok (.lconst 0, 1) := by decide +kernel
theorem dX10_isLetter_10 : decode cX10_isLetter 10 = .ok (.aload_n 0, 1) := by decide +kernel
theorem dX10_isLetter_11 : decode cX10_isLetter 11 = .ok (.getfield 9, 3) := by decide +kernel
theorem dX10_isLetter_14 : decode cX10_isLetter 14 = .ok (.iload_n 1, 1) := by decide +kernel
theorem dX10_isLetter_15 : decode cX10_isLetter 15 = .ok (.iaload, 1) := by decide +kernel
theorem dX10_isLetter_16 : decode cX10_isLetter 16 = .ok (.i2l, 1) := by decide +kernel
theorem dX10_isLetter_17 : decode cX10_isLetter 17 = .ok (.lconst 1, 1) := by decide +kernel
theorem dX10_isLetter_18 : decode cX10_isLetter 18 = .ok (.lsub, 1) := by decide +kernel
theorem dX10_isLetter_19 : decode cX10_isLetter 19 = .ok (.invokestatic 81, 3) := by decide +kernel
theorem dX10_isLetter_22 : decode cX10_isLetter 22 = .ok (.ifCond .eq 7, 3) := by decide +kernel
theorem dX10_isLetter_25 : decode cX10_isLetter 25 = .ok (.iconst 1, 1) := by decide +kernel
theorem dX10_isLetter_26 : decode cX10_isLetter 26 = .ok (.goto 4, 3) := by decide +kernel
theorem dX10_isLetter_29 : decode cX10_isLetter 29 = .ok (.iconst 0, 1) := by decide +kernel
theorem dX10_isLetter_30 : decode cX10_isLetter 30 = .ok (.ireturn, 1) := by decide +kernel
theorem dX10_areNear_0 : decode cX10_areNear 0 = .ok (.aload_n 0, 1) := by decide +kernel
theorem dX10_areNear_1 : decode cX10_areNear 1 = .ok (.getfield 16, 3) := by decide +kernel
theorem dX10_areNear_4 : decode cX10_areNear 4 = .ok (.bipush 24, 2) := by decide +kernel
theorem dX10_areNear_6 : decode cX10_areNear 6 = .ok (.iload_n 1, 1) := by decide +kernel
theorem dX10_areNear_7 : decode cX10_areNear 7 = .ok (.imul, 1) := by decide +kernel
theorem dX10_areNear_8 : decode cX10_areNear 8 = .ok (.iload_n 2, 1) := by decide +kernel
theorem dX10_areNear_9 : decode cX10_areNear 9 = .ok (.iadd, 1) := by decide +kernel
theorem dX10_areNear_10 : decode cX10_areNear 10 = .ok (.iaload, 1) := by decide +kernel
theorem dX10_areNear_11 : decode cX10_areNear 11 = .ok (.iload_n 3, 1) := by decide +kernel
theorem dX10_areNear_12 : decode cX10_areNear 12 = .ok (.ishr, 1) := by decide +kernel
theorem dX10_areNear_13 : decode cX10_areNear 13 = .ok (.iconst 1, 1) := by decide +kernel
theorem dX10_areNear_14 : decode cX10_areNear 14 = .ok (.iand, 1) := by decide +kernel
theorem dX10_areNear_15 : decode cX10_areNear 15 = .ok (.iconst 1, 1) := by decide +kernel
theorem dX10_areNear_16 : decode cX10_areNear 16 = .ok (.if_icmp .ne 7, 3) := by decide +kernel
theorem dX10_areNear_19 : decode cX10_areNear 19 = .ok (.iconst 1, 1) := by decide +kernel
theorem dX10_areNear_20 : decode cX10_areNear 20 = .ok (.goto 4, 3) := by decide +kernel
theorem dX10_areNear_23 : decode cX10_areNear 23 = .ok (.iconst 0, 1) := by decide +kernel
theorem dX10_areNear_24 : decode cX10_areNear 24 = .ok (.ireturn, 1) := by decide +kernel
theorem dX10_anew_0 : decode cX10_anew 0 = .ok (.aload_n 0, 1) := by decide +kernel
theorem dX10_anew_1 : decode cX10_anew 1 = .ok (.getfield 9, 3) := by decide +kernel
theorem dX10_anew_4 : decode cX10_anew 4 = .ok (.iload_n 1, 1) := by decide +kernel
theorem dX10_anew_5 : decode cX10_anew 5 = .ok (.iload_n 2, 1) := by decide +kernel
theorem dX10_anew_6 : decode cX10_anew 6 = .ok (.iastore, 1) := by decide +kernel
theorem dX10_anew_7 : decode cX10_anew 7 = .ok (.aload_n 0, 1) := by decide +kernel
theorem dX10_anew_8 : decode cX10_anew 8 = .ok (.getfield 13, 3) := by decide +kernel
theorem dX10_anew_11 : decode cX10_anew 11 = .ok (.iload_n 1, 1) := by decide +kernel
theorem dX10_anew_12 : decode cX10_anew 12 = .ok (.iload_n 3, 1) := by decide +kernel
theorem dX10_anew_13 : decode cX10_anew 13 = .ok (.iastore, 1) := by decide +kernel
theorem dX10_anew_14 : decode cX10_anew 14 = .ok (.aload_n 0, 1) := by decide +kernel
theorem dX10_anew_15 : decode cX10_anew 15 = .ok (.getfield 25, 3) := by decide +kernel
theorem dX10_anew_18 : decode cX10_anew 18 = .ok (.iload_n 1, 1) := by decide +kernel
theorem dX10_anew_19 : decode cX10_anew 19 = .ok (.dup2, 1) := by decide +kernel
theorem dX10_anew_20 : decode cX10_anew 20 = .ok (.iaload, 1) := by decide +kernel
theorem dX10_anew_21 : decode cX10_anew 21 = .ok (.iconst 1, 1) := by decide +kernel
theorem dX10_anew_22 : decode cX10_anew 22 = .ok (.iadd, 1) := by decide +kernel
theorem dX10_anew_23 : decode cX10_anew 23 = .ok (.iastore, 1) := by decide +kernel
theorem dX10_anew_24 : decode cX10_anew 24 = .ok (.iconst 0, 1) := by decide +kernel
theorem dX10_anew_25 : decode cX10_anew 25 = .ok (.istore 4, 2) := by decide +kernel
theorem dX10_anew_27 : decode cX10_anew 27 = .ok (.iload 4, 2) := by decide +kernel
theorem dX10_anew_29 : decode cX10_anew 29 = .ok (.bipush 24, 2) := by decide +kernel
theorem dX10_anew_31 : decode cX10_anew 31 = .ok (.if_icmp .ge 35, 3) := by decide +kernel
theorem dX10_anew_34 : decode cX10_anew 34 = .ok (.aload_n 0, 1) := by decide +kernel
theorem dX10_anew_35 : decode cX10_anew 35 = .ok (.getfield 16, 3) := by decide +kernel
theorem dX10_anew_38 : decode cX10_anew 38 = .ok (.bipush 24, 2) := by decide +kernel
theorem dX10_anew_40 : decode cX10_anew 40 = .ok (.iload_n 1, 1) := by decide +kernel
theorem dX10_anew_41 : decode cX10_anew 41 = .ok (.imul, 1) := by decide +kernel
theorem dX10_anew_42 : decode cX10_anew 42 = .ok (.iload 4, 2) := by decide +kernel
theorem dX10_anew_44 : decode cX10_anew 44 = .ok (.iadd, 1) := by decide +kernel
theorem dX10_anew_45 : decode cX10_anew 45 = .ok (.iconst 0, 1) := by decide +kernel
theorem dX10_anew_46 : decode cX10_anew 46 = .ok (.iastore, 1) := by decide +kernel
theorem dX10_anew_47 : decode cX10_anew 47 = .ok (.aload_n 0, 1) := by decide +kernel
theorem dX10_anew_48 : decode cX10_anew 48 = .ok (.getfield 19, 3) := by decide +kernel
theorem dX10_anew_51 : decode cX10_anew 51 = .ok (.bipush 24, 2) := by decide +kernel
theorem dX10_anew_53 : decode cX10_anew 53 = .ok (.iload_n 1, 1) := by decide +kernel
theorem dX10_anew_54 : decode cX10_anew 54 = .ok (.imul, 1) := by decide +kernel
theorem dX10_anew_55 : decode cX10_anew 55 = .ok (.iload 4, 2) := by decide +kernel
theorem dX10_anew_57 : decode cX10_anew 57 = .ok (.iadd, 1) := by decide +kernel
theorem dX10_anew_58 : decode cX10_anew 58 = .ok (.iconst 0, 1) := by decide +kernel
theorem dX10_anew_59 : decode cX10_anew 59 = .ok (.iastore, 1) := by decide +kernel
theorem dX10_anew_60 : decode cX10_anew 60 = .ok (.iinc 4 1, 3) := by decide +kernel
theorem dX10_anew_63 : decode cX10_anew 63 = .ok (.goto (-36), 3) := by decide +kernel
theorem dX10_anew_66 : decode cX10_anew 66 = .ok (.aload_n 0, 1) := by decide +kernel
theorem dX10_anew_67 : decode cX10_anew 67 = .ok (.iload_n 1, 1) := by decide +kernel
theorem dX10_anew_68 : decode cX10_anew 68 = .ok (.invokevirtual 89, 3) := by decide +kernel
theorem dX10_anew_71 : decode cX10_anew 71 = .ok (.return_, 1) := by decide +kernel
theorem dX10_noRows_0 : decode cX10_noRows 0 = .ok (.iconst 0, 1) := by decide +kernel
theorem dX10_noRows_1 : decode cX10_noRows 1 = .ok (.istore_n 2, 1) := by decide +kernel
theorem dX10_noRows_2 : decode cX10_noRows 2 = .ok (.iload_n 2, 1) := by decide +kernel
theorem dX10_noRows_3 : decode cX10_noRows 3 = .ok (.sipush 150, 3) := by decide +kernel
theorem dX10_noRows_6 : decode cX10_noRows 6 = .ok (.if_icmp .ge 22, 3) := by decide +kernel
theorem dX10_noRows_9 : decode cX10_noRows 9 = .ok (.aload_n 0, 1) := by decide +kernel
theorem dX10_noRows_10 : decode cX10_noRows 10 = .ok (.getfield 22, 3) := by decide +kernel
theorem dX10_noRows_13 : decode cX10_noRows 13 = .ok (.sipush 150, 3) := by decide +kernel
theorem dX10_noRows_16 : decode cX10_noRows 16 = .ok (.iload_n 1, 1) := by decide +kernel
theorem dX10_noRows_17 : decode cX10_noRows 17 = .ok (.imul, 1) := by decide +kernel
theorem dX10_noRows_18 : decode cX10_noRows 18 = .ok (.iload_n 2, 1) := by decide +kernel
theorem dX10_noRows_19 : decode cX10_noRows 19 = .ok (.iadd, 1) := by decide +kernel
theorem dX10_noRows_20 : decode cX10_noRows 20 = .ok (.iconst 0, 1) := by decide +kernel
theorem dX10_noRows_21 : decode cX10_noRows 21 = .ok (.iastore, 1) := by decide +kernel
theorem dX10_noRows_22 : decode cX10_noRows 22 = .ok (.iinc 2 1, 3) := by decide +kernel
theorem dX10_noRows_25 : decode cX10_noRows 25 = .ok (.goto (-23), 3) := by decide +kernel
theorem dX10_noRows_28 : decode cX10_noRows 28 = .ok (.return_, 1) := by decide +kernel
theorem dX10_join_0 : decode cX10_join 0 = .ok (.aload_n 0, 1) := by decide +kernel
theorem dX10_join_1 : decode cX10_join 1 = .ok (.getfield 16, 3) := by decide +kernel
theorem dX10_join_4 : decode cX10_join 4 = .ok (.bipush 24, 2) := by decide +kernel
theorem dX10_join_6 : decode cX10_join 6 = .ok (.iload_n 1, 1) := by decide +kernel
theorem dX10_join_7 : decode cX10_join 7 = .ok (.imul, 1) := by decide +kernel
theorem dX10_join_8 : decode cX10_join 8 = .ok (.iload_n 2, 1) := by decide +kernel
theorem dX10_join_9 : decode cX10_join 9 = .ok (.iadd, 1) := by decide +kernel
theorem dX10_join_10 : decode cX10_join 10 = .ok (.dup2, 1) := by decide +kernel
theorem dX10_join_11 : decode cX10_join 11 = .ok (.iaload, 1) := by decide +kernel
theorem dX10_join_12 : decode cX10_join 12 = .ok (.iconst 1, 1) := by decide +kernel
theorem dX10_join_13 : decode cX10_join 13 = .ok (.iload_n 3, 1) := by decide +kernel
theorem dX10_join_14 : decode cX10_join 14 = .ok (.ishl, 1) := by decide +kernel
theorem dX10_join_15 : decode cX10_join 15 = .ok (.ior, 1) := by decide +kernel
theorem dX10_join_16 : decode cX10_join 16 = .ok (.iastore, 1) := by decide +kernel
theorem dX10_join_17 : decode cX10_join 17 = .ok (.aload_n 0, 1) := by decide +kernel
theorem dX10_join_18 : decode cX10_join 18 = .ok (.getfield 16, 3) := by decide +kernel
theorem dX10_join_21 : decode cX10_join 21 = .ok (.bipush 24, 2) := by decide +kernel
theorem dX10_join_23 : decode cX10_join 23 = .ok (.iload_n 1, 1) := by decide +kernel
theorem dX10_join_24 : decode cX10_join 24 = .ok (.imul, 1) := by decide +kernel
theorem dX10_join_25 : decode cX10_join 25 = .ok (.iload_n 3, 1) := by decide +kernel
theorem dX10_join_26 : decode cX10_join 26 = .ok (.iadd, 1) := by decide +kernel
theorem dX10_join_27 : decode cX10_join 27 = .ok (.dup2, 1) := by decide +kernel
theorem dX10_join_28 : decode cX10_join 28 = .ok (.iaload, 1) := by decide +kernel
theorem dX10_join_29 : decode cX10_join 29 = .ok (.iconst 1, 1) := by decide +kernel
theorem dX10_join_30 : decode cX10_join 30 = .ok (.iload_n 2, 1) := by decide +kernel
theorem dX10_join_31 : decode cX10_join 31 = .ok (.ishl, 1) := by decide +kernel
theorem dX10_join_32 : decode cX10_join 32 = .ok (.ior, 1) := by decide +kernel
theorem dX10_join_33 : decode cX10_join 33 = .ok (.iastore, 1) := by decide +kernel
theorem dX10_join_34 : decode cX10_join 34 = .ok (.return_, 1) := by decide +kernel
theorem dX10_feed_0 : decode cX10_feed 0 = .ok (.aload_n 0, 1) := by decide +kernel
theorem dX10_feed_1 : decode cX10_feed 1 = .ok (.getfield 93, 3) := by decide +kernel
theorem dX10_feed_4 : decode cX10_feed 4 = .ok (.bipush 20, 2) := by decide +kernel
theorem dX10_feed_6 : decode cX10_feed 6 = .ok (.iadd, 1) := by decide +kernel
theorem dX10_feed_7 : decode cX10_feed 7 = .ok (.sipush 600, 3) := by decide +kernel
theorem dX10_feed_10 : decode cX10_feed 10 = .ok (.if_icmp .le 6, 3) := by decide +kernel
theorem dX10_feed_13 : decode cX10_feed 13 = .ok (.bipush (-3), 2) := by decide +kernel
theorem dX10_feed_15 : decode cX10_feed 15 = .ok (.ireturn, 1) := by decide +kernel
theorem dX10_feed_16 : decode cX10_feed 16 = .ok (.aload_n 0, 1) := by decide +kernel
theorem dX10_feed_17 : decode cX10_feed 17 = .ok (.iload_n 1, 1) := by decide +kernel
theorem dX10_feed_18 : decode cX10_feed 18 = .ok (.invokevirtual 96, 3) := by decide +kernel
theorem dX10_feed_21 : decode cX10_feed 21 = .ok (.aload_n 0, 1) := by decide +kernel
theorem dX10_feed_22 : decode cX10_feed 22 = .ok (.iload_n 2, 1) := by decide +kernel
theorem dX10_feed_23 : decode cX10_feed 23 = .ok (.invokevirtual 96, 3) := by decide +kernel
theorem dX10_feed_26 : decode cX10_feed 26 = .ok (.aload_n 0, 1) := by decide +kernel
theorem dX10_feed_27 : decode cX10_feed 27 = .ok (.iload_n 3, 1) := by decide +kernel
theorem dX10_feed_28 : decode cX10_feed 28 = .ok (.invokevirtual 96, 3) := by decide +kernel
theorem dX10_feed_31 : decode cX10_feed 31 = .ok (.aload_n 0, 1) := by decide +kernel
theorem dX10_feed_32 : decode cX10_feed 32 = .ok (.iload 4, 2) := by decide +kernel
theorem dX10_feed_34 : decode cX10_feed 34 = .ok (.invokevirtual 96, 3) := by decide +kernel
theorem dX10_feed_37 : decode cX10_feed 37 = .ok (.aload_n 0, 1) := by decide +kernel
theorem dX10_feed_38 : decode cX10_feed 38 = .ok (.iload 5, 2) := by decide +kernel
theorem dX10_feed_40 : decode cX10_feed 40 = .ok (.invokevirtual 96, 3) := by decide +kernel
theorem dX10_feed_43 : decode cX10_feed 43 = .ok (.aload_n 0, 1) := by decide +kernel
theorem dX10_feed_44 : decode cX10_feed 44 = .ok (.getfield 93, 3) := by decide +kernel
theorem dX10_feed_47 : decode cX10_feed 47 = .ok (.ireturn, 1) := by decide +kernel
theorem dX10_lay_0 : decode cX10_lay 0 = .ok (.bipush 24, 2) := by decide +kernel
theorem dX10_lay_2 : decode cX10_lay 2 = .ok (.istore_n 2, 1) := by decide +kernel
theorem dX10_lay_3 : decode cX10_lay 3 = .ok (.iload_n 2, 1) := by decide +kernel
theorem dX10_lay_4 : decode cX10_lay 4 = .ok (.ifCond .lt 32, 3) := by decide +kernel
theorem dX10_lay_7 : decode cX10_lay 7 = .ok (.aload_n 0, 1) := by decide +kernel
theorem dX10_lay_8 : decode cX10_lay 8 = .ok (.getfield 28, 3) := by decide +kernel
theorem dX10_lay_11 : decode cX10_lay 11 = .ok (.aload_n 0, 1) := by decide +kernel
theorem dX10_lay_12 : decode cX10_lay 12 = .ok (.getfield 93, 3) := by decide +kernel
theorem dX10_lay_15 : decode cX10_lay 15 = .ok (.iload_n 1, 1) := by decide +kernel
theorem dX10_lay_16 : decode cX10_lay 16 = .ok (.iload_n 2, 1) := by decide +kernel
theorem dX10_lay_17 : decode cX10_lay 17 = .ok (.ishr, 1) := by decide +kernel
theorem dX10_lay_18 : decode cX10_lay 18 = .ok (.i2b, 1) := by decide +kernel
theorem dX10_lay_19 : decode cX10_lay 19 = .ok (.bastore, 1) := by decide +kernel
theorem dX10_lay_20 : decode cX10_lay 20 = .ok (.aload_n 0, 1) := by decide +kernel
theorem dX10_lay_21 : decode cX10_lay 21 = .ok (.dup, 1) := by decide +kernel
theorem dX10_lay_22 : decode cX10_lay 22 = .ok (.getfield 93, 3) := by decide +kernel
theorem dX10_lay_25 : decode cX10_lay 25 = .ok (.iconst 1, 1) := by decide +kernel
theorem dX10_lay_26 : decode cX10_lay 26 = .ok (.iadd, 1) := by decide +kernel
theorem dX10_lay_27 : decode cX10_lay 27 = .ok (.putfield 93, 3) := by decide +kernel
theorem dX10_lay_30 : decode cX10_lay 30 = .ok (.iinc 2 (-8), 3) := by decide +kernel
theorem dX10_lay_33 : decode cX10_lay 33 = .ok (.goto (-30), 3) := by decide +kernel
theorem dX10_lay_36 : decode cX10_lay 36 = .ok (.return_, 1) := by decide +kernel
theorem dX10_end_0 : decode cX10_end 0 = .ok (.iload_n 1, 1) := by decide +kernel
theorem dX10_end_1 : decode cX10_end 1 = .ok (.i2l, 1) := by decide +kernel
theorem dX10_end_2 : decode cX10_end 2 = .ok (.lconst 0, 1) := by decide +kernel
theorem dX10_end_3 : decode cX10_end 3 = .ok (.aload_n 0, 1) := by decide +kernel
theorem dX10_end_4 : decode cX10_end 4 = .ok (.getfield 93, 3) := by decide +kernel
theorem dX10_end_7 : decode cX10_end 7 = .ok (.i2l, 1) := by decide +kernel
theorem dX10_end_8 : decode cX10_end 8 = .ok (.invokestatic 81, 3) := by decide +kernel
theorem dX10_end_11 : decode cX10_end 11 = .ok (.ifCond .ne 5, 3) := by decide +kernel
theorem dX10_end_14 : decode cX10_end 14 = .ok (.iconst (-1), 1) := by decide +kernel
theorem dX10_end_15 : decode cX10_end 15 = .ok (.ireturn, 1) := by decide +kernel
theorem dX10_end_16 : decode cX10_end 16 = .ok (.aload_n 0, 1) := by decide +kernel
theorem dX10_end_17 : decode cX10_end 17 = .ok (.iload_n 1, 1) := by decide +kernel
theorem dX10_end_18 : decode cX10_end 18 = .ok (.putfield 93, 3) := by decide +kernel
theorem dX10_end_21 : decode cX10_end 21 = .ok (.iload_n 1, 1) := by decide +kernel
theorem dX10_end_22 : decode cX10_end 22 = .ok (.ireturn, 1) := by decide +kernel
theorem dX10_net_0 : decode cX10_net 0 = .ok (.iload_n 1, 1) := by decide +kernel
theorem dX10_net_1 : decode cX10_net 1 = .ok (.invokestatic 85, 3) := by decide +kernel
theorem dX10_net_4 : decode cX10_net 4 = .ok (.ifCond .eq 15, 3) := by decide +kernel
theorem dX10_net_7 : decode cX10_net 7 = .ok (.iload_n 2, 1) := by decide +kernel
theorem dX10_net_8 : decode cX10_net 8 = .ok (.i2l, 1) := by decide +kernel
theorem dX10_net_9 : decode cX10_net 9 = .ok (.lconst 1, 1) := by decide +kernel
theorem dX10_net_10 : decode cX10_net 10 = .ok (.ldc2_w 99, 3) := by decide +kernel
theorem dX10_net_13 : decode cX10_net 13 = .ok (.invokestatic 81, 3) := by decide +kernel
theorem dX10_net_16 : decode cX10_net 16 = .ok (.ifCond .ne 6, 3) := by decide +kernel
theorem dX10_net_19 : decode cX10_net 19 = .ok (.bipush (-2), 2) := by decide +kernel
theorem dX10_net_21 : decode cX10_net 21 = .ok (.ireturn, 1) := by decide +kernel
theorem dX10_net_22 : decode cX10_net 22 = .ok (.aload_n 0, 1) := by decide +kernel
theorem dX10_net_23 : decode cX10_net 23 = .ok (.iload_n 1, 1) := by decide +kernel
theorem dX10_net_24 : decode cX10_net 24 = .ok (.iload_n 2, 1) := by decide +kernel
theorem dX10_net_25 : decode cX10_net 25 = .ok (.iconst 0, 1) := by decide +kernel
theorem dX10_net_26 : decode cX10_net 26 = .ok (.invokevirtual 101, 3) := by decide +kernel
theorem dX10_net_29 : decode cX10_net 29 = .ok (.iload_n 2, 1) := by decide +kernel
theorem dX10_net_30 : decode cX10_net 30 = .ok (.ireturn, 1) := by decide +kernel
theorem dX10_mistake_0 : decode cX10_mistake 0 = .ok (.aload_n 0, 1) := by decide +kernel
theorem dX10_mistake_1 : decode cX10_mistake 1 = .ok (.iload_n 1, 1) := by decide +kernel
theorem dX10_mistake_2 : decode cX10_mistake 2 = .ok (.iload_n 2, 1) := by decide +kernel
theorem dX10_mistake_3 : decode cX10_mistake 3 = .ok (.invokevirtual 105, 3) := by decide +kernel
theorem dX10_mistake_6 : decode cX10_mistake 6 = .ok (.ifCond .eq 17, 3) := by decide +kernel
theorem dX10_mistake_9 : decode cX10_mistake 9 = .ok (.aload_n 0, 1) := by decide +kernel
theorem dX10_mistake_10 : decode cX10_mistake 10 = .ok (.iload_n 1, 1) := by decide +kernel
theorem dX10_mistake_11 : decode cX10_mistake 11 = .ok (.iload_n 3, 1) := by decide +kernel
theorem dX10_mistake_12 : decode cX10_mistake 12 = .ok (.invokevirtual 105, 3) := by decide +kernel
theorem dX10_mistake_15 : decode cX10_mistake 15 = .ok (.ifCond .eq 8, 3) := by decide +kernel
theorem dX10_mistake_18 : decode cX10_mistake 18 = .ok (.iload_n 2, 1) := by decide +kernel
theorem dX10_mistake_19 : decode cX10_mistake 19 = .ok (.iload_n 3, 1) := by decide +kernel
theorem dX10_mistake_20 : decode cX10_mistake 20 = .ok (.if_icmp .ne 6, 3) := by decide +kernel
theorem dX10_mistake_23 : decode cX10_mistake 23 = .ok (.bipush (-2), 2) := by decide +kernel
theorem dX10_mistake_25 : decode cX10_mistake 25 = .ok (.ireturn, 1) := by decide +kernel
theorem dX10_mistake_26 : decode cX10_mistake 26 = .ok (.aload_n 0, 1) := by decide +kernel
theorem dX10_mistake_27 : decode cX10_mistake 27 = .ok (.getfield 13, 3) := by decide +kernel
theorem dX10_mistake_30 : decode cX10_mistake 30 = .ok (.iload_n 1, 1) := by decide +kernel
theorem dX10_mistake_31 : decode cX10_mistake 31 = .ok (.iaload, 1) := by decide +kernel
theorem dX10_mistake_32 : decode cX10_mistake 32 = .ok (.ifCond .eq 6, 3) := by decide +kernel
theorem dX10_mistake_35 : decode cX10_mistake 35 = .ok (.bipush (-4), 2) := by decide +kernel
theorem dX10_mistake_37 : decode cX10_mistake 37 = .ok (.ireturn, 1) := by decide +kernel
theorem dX10_mistake_38 : decode cX10_mistake 38 = .ok (.aload_n 0, 1) := by decide +kernel
theorem dX10_mistake_39 : decode cX10_mistake 39 = .ok (.iload_n 1, 1) := by decide +kernel
theorem dX10_mistake_40 : decode cX10_mistake 40 = .ok (.iload_n 2, 1) := by decide +kernel
theorem dX10_mistake_41 : decode cX10_mistake 41 = .ok (.iload_n 3, 1) := by decide +kernel
theorem dX10_mistake_42 : decode cX10_mistake 42 = .ok (.invokevirtual 109, 3) := by decide +kernel
theorem dX10_mistake_45 : decode cX10_mistake 45 = .ok (.iload 4, 2) := by decide +kernel
theorem dX10_mistake_47 : decode cX10_mistake 47 = .ok (.if_icmp .ne 5, 3) := by decide +kernel
theorem dX10_mistake_50 : decode cX10_mistake 50 = .ok (.iconst 0, 1) := by decide +kernel
theorem dX10_mistake_51 : decode cX10_mistake 51 = .ok (.ireturn, 1) := by decide +kernel
theorem dX10_mistake_52 : decode cX10_mistake 52 = .ok (.aload_n 0, 1) := by decide +kernel
theorem dX10_mistake_53 : decode cX10_mistake 53 = .ok (.getfield 16, 3) := by decide +kernel
theorem dX10_mistake_56 : decode cX10_mistake 56 = .ok (.bipush 24, 2) := by decide +kernel
theorem dX10_mistake_58 : decode cX10_mistake 58 = .ok (.iload_n 1, 1) := by decide +kernel
theorem dX10_mistake_59 : decode cX10_mistake 59 = .ok (.imul, 1) := by decide +kernel
theorem dX10_mistake_60 : decode cX10_mistake 60 = .ok (.iload_n 2, 1) := by decide +kernel
theorem dX10_mistake_61 : decode cX10_mistake 61 = .ok (.iadd, 1) := by decide +kernel
theorem dX10_mistake_62 : decode cX10_mistake 62 = .ok (.dup2, 1) := by decide +kernel
theorem dX10_mistake_63 : decode cX10_mistake 63 = .ok (.iaload, 1) := by decide +kernel
theorem dX10_mistake_64 : decode cX10_mistake 64 = .ok (.iconst 1, 1) := by decide +kernel
theorem dX10_mistake_65 : decode cX10_mistake 65 = .ok (.iload_n 3, 1) := by decide +kernel
theorem dX10_mistake_66 : decode cX10_mistake 66 = .ok (.ishl, 1) := by decide +kernel
theorem dX10_mistake_67 : decode cX10_mistake 67 = .ok (.ixor, 1) := by decide +kernel
theorem dX10_mistake_68 : decode cX10_mistake 68 = .ok (.iastore, 1) := by decide +kernel
theorem dX10_mistake_69 : decode cX10_mistake 69 = .ok (.aload_n 0, 1) := by decide +kernel
theorem dX10_mistake_70 : decode cX10_mistake 70 = .ok (.getfield 16, 3) := by decide +kernel
theorem dX10_mistake_73 : decode cX10_mistake 73 = .ok (.bipush 24, 2) := by decide +kernel
theorem dX10_mistake_75 : decode cX10_mistake 75 = .ok (.iload_n 1, 1) := by decide +kernel
theorem dX10_mistake_76 : decode cX10_mistake 76 = .ok (.imul, 1) := by decide +kernel
theorem dX10_mistake_77 : decode cX10_mistake 77 = .ok (.iload_n 3, 1) := by decide +kernel
theorem dX10_mistake_78 : decode cX10_mistake 78 = .ok (.iadd, 1) := by decide +kernel
theorem dX10_mistake_79 : decode cX10_mistake 79 = .ok (.dup2, 1) := by decide +kernel
theorem dX10_mistake_80 : decode cX10_mistake 80 = .ok (.iaload, 1) := by decide +kernel
theorem dX10_mistake_81 : decode cX10_mistake 81 = .ok (.iconst 1, 1) := by decide +kernel
theorem dX10_mistake_82 : decode cX10_mistake 82 = .ok (.iload_n 2, 1) := by decide +kernel
theorem dX10_mistake_83 : decode cX10_mistake 83 = .ok (.ishl, 1) := by decide +kernel
theorem dX10_mistake_84 : decode cX10_mistake 84 = .ok (.ixor, 1) := by decide +kernel
theorem dX10_mistake_85 : decode cX10_mistake 85 = .ok (.iastore, 1) := by decide +kernel
theorem dX10_mistake_86 : decode cX10_mistake 86 = .ok (.aload_n 0, 1) := by decide +kernel
theorem dX10_mistake_87 : decode cX10_mistake 87 = .ok (.iload_n 1, 1) := by decide +kernel
theorem dX10_mistake_88 : decode cX10_mistake 88 = .ok (.invokevirtual 89, 3) := by decide +kernel
theorem dX10_mistake_91 : decode cX10_mistake 91 = .ok (.iconst 1, 1) := by decide +kernel
end
section
theorem dX10_mistake_92 : decode cX10_mistake 92 = .ok (.ireturn, 1) := by decide +kernel
theorem dX10_ring_0 : decode cX10_ring 0 = .ok (.iload_n 1, 1) := by decide +kernel
theorem dX10_ring_1 : decode cX10_ring 1 = .ok (.invokestatic 85, 3) := by decide +kernel
theorem dX10_ring_4 : decode cX10_ring 4 = .ok (.ifCond .eq 17, 3) := by decide +kernel
theorem dX10_ring_7 : decode cX10_ring 7 = .ok (.iload_n 2, 1) := by decide +kernel
theorem dX10_ring_8 : decode cX10_ring 8 = .ok (.i2l, 1) := by decide +kernel
theorem dX10_ring_9 : decode cX10_ring 9 = .ok (.ldc2_w 113, 3) := by decide +kernel
theorem dX10_ring_12 : decode cX10_ring 12 = .ok (.ldc2_w 99, 3) := by decide +kernel
theorem dX10_ring_15 : decode cX10_ring 15 = .ok (.invokestatic 81, 3) := by decide +kernel
theorem dX10_ring_18 : decode cX10_ring 18 = .ok (.ifCond .ne 6, 3) := by decide +kernel
theorem dX10_ring_21 : decode cX10_ring 21 = .ok (.bipush (-2), 2) := by decide +kernel
theorem dX10_ring_23 : decode cX10_ring 23 = .ok (.ireturn, 1) := by decide +kernel
theorem dX10_ring_24 : decode cX10_ring 24 = .ok (.aload_n 0, 1) := by decide +kernel
theorem dX10_ring_25 : decode cX10_ring 25 = .ok (.iload_n 1, 1) := by decide +kernel
theorem dX10_ring_26 : decode cX10_ring 26 = .ok (.iload_n 2, 1) := by decide +kernel
theorem dX10_ring_27 : decode cX10_ring 27 = .ok (.iconst 2, 1) := by decide +kernel
theorem dX10_ring_28 : decode cX10_ring 28 = .ok (.invokevirtual 101, 3) := by decide +kernel
theorem dX10_ring_31 : decode cX10_ring 31 = .ok (.iconst 0, 1) := by decide +kernel
theorem dX10_ring_32 : decode cX10_ring 32 = .ok (.istore_n 3, 1) := by decide +kernel
theorem dX10_ring_33 : decode cX10_ring 33 = .ok (.iload_n 3, 1) := by decide +kernel
theorem dX10_ring_34 : decode cX10_ring 34 = .ok (.iload_n 2, 1) := by decide +kernel
theorem dX10_ring_35 : decode cX10_ring 35 = .ok (.if_icmp .ge 20, 3) := by decide +kernel
theorem dX10_ring_38 : decode cX10_ring 38 = .ok (.aload_n 0, 1) := by decide +kernel
theorem dX10_ring_39 : decode cX10_ring 39 = .ok (.iload_n 1, 1) := by decide +kernel
theorem dX10_ring_40 : decode cX10_ring 40 = .ok (.iload_n 3, 1) := by decide +kernel
theorem dX10_ring_41 : decode cX10_ring 41 = .ok (.iload_n 3, 1) := by decide +kernel
theorem dX10_ring_42 : decode cX10_ring 42 = .ok (.iconst 1, 1) := by decide +kernel
theorem dX10_ring_43 : decode cX10_ring 43 = .ok (.iadd, 1) := by decide +kernel
theorem dX10_ring_44 : decode cX10_ring 44 = .ok (.iload_n 2, 1) := by decide +kernel
theorem dX10_ring_45 : decode cX10_ring 45 = .ok (.irem, 1) := by decide +kernel
theorem dX10_ring_46 : decode cX10_ring 46 = .ok (.invokevirtual 115, 3) := by decide +kernel
theorem dX10_ring_49 : decode cX10_ring 49 = .ok (.iinc 3 1, 3) := by decide +kernel
theorem dX10_ring_52 : decode cX10_ring 52 = .ok (.goto (-19), 3) := by decide +kernel
theorem dX10_ring_55 : decode cX10_ring 55 = .ok (.iload_n 2, 1) := by decide +kernel
theorem dX10_ring_56 : decode cX10_ring 56 = .ok (.ireturn, 1) := by decide +kernel
theorem dX10_wrong_0 : decode cX10_wrong 0 = .ok (.aload_n 0, 1) := by decide +kernel
theorem dX10_wrong_1 : decode cX10_wrong 1 = .ok (.iload_n 1, 1) := by decide +kernel
theorem dX10_wrong_2 : decode cX10_wrong 2 = .ok (.putfield 118, 3) := by decide +kernel
theorem dX10_wrong_5 : decode cX10_wrong 5 = .ok (.aload_n 0, 1) := by decide +kernel
theorem dX10_wrong_6 : decode cX10_wrong 6 = .ok (.iload_n 2, 1) := by decide +kernel
theorem dX10_wrong_7 : decode cX10_wrong 7 = .ok (.putfield 32, 3) := by decide +kernel
theorem dX10_wrong_10 : decode cX10_wrong 10 = .ok (.iconst (-1), 1) := by decide +kernel
theorem dX10_wrong_11 : decode cX10_wrong 11 = .ok (.ireturn, 1) := by decide +kernel
theorem dX10_told_0 : decode cX10_told 0 = .ok (.aload_n 0, 1) := by decide +kernel
theorem dX10_told_1 : decode cX10_told 1 = .ok (.getfield 93, 3) := by decide +kernel
theorem dX10_told_4 : decode cX10_told 4 = .ok (.istore_n 2, 1) := by decide +kernel
theorem dX10_told_5 : decode cX10_told 5 = .ok (.aload_n 0, 1) := by decide +kernel
theorem dX10_told_6 : decode cX10_told 6 = .ok (.iconst 0, 1) := by decide +kernel
theorem dX10_told_7 : decode cX10_told 7 = .ok (.putfield 93, 3) := by decide +kernel
theorem dX10_told_10 : decode cX10_told 10 = .ok (.iload_n 1, 1) := by decide +kernel
theorem dX10_told_11 : decode cX10_told 11 = .ok (.invokestatic 85, 3) := by decide +kernel
theorem dX10_told_14 : decode cX10_told 14 = .ok (.ifCond .ne 6, 3) := by decide +kernel
theorem dX10_told_17 : decode cX10_told 17 = .ok (.bipush (-2), 2) := by decide +kernel
theorem dX10_told_19 : decode cX10_told 19 = .ok (.ireturn, 1) := by decide +kernel
theorem dX10_told_20 : decode cX10_told 20 = .ok (.iconst 0, 1) := by decide +kernel
theorem dX10_told_21 : decode cX10_told 21 = .ok (.istore_n 3, 1) := by decide +kernel
theorem dX10_told_22 : decode cX10_told 22 = .ok (.iconst 0, 1) := by decide +kernel
theorem dX10_told_23 : decode cX10_told 23 = .ok (.istore 4, 2) := by decide +kernel
theorem dX10_told_25 : decode cX10_told 25 = .ok (.iconst 0, 1) := by decide +kernel
theorem dX10_told_26 : decode cX10_told 26 = .ok (.istore 5, 2) := by decide +kernel
theorem dX10_told_28 : decode cX10_told 28 = .ok (.iload 5, 2) := by decide +kernel
theorem dX10_told_30 : decode cX10_told 30 = .ok (.iload_n 2, 1) := by decide +kernel
theorem dX10_told_31 : decode cX10_told 31 = .ok (.if_icmp .ge 140, 3) := by decide +kernel
theorem dX10_told_34 : decode cX10_told 34 = .ok (.aload_n 0, 1) := by decide +kernel
theorem dX10_told_35 : decode cX10_told 35 = .ok (.getfield 28, 3) := by decide +kernel
theorem dX10_told_38 : decode cX10_told 38 = .ok (.iload 5, 2) := by decide +kernel
theorem dX10_told_40 : decode cX10_told 40 = .ok (.baload, 1) := by decide +kernel
theorem dX10_told_41 : decode cX10_told 41 = .ok (.istore 6, 2) := by decide +kernel
theorem dX10_told_43 : decode cX10_told 43 = .ok (.iload 6, 2) := by decide +kernel
theorem dX10_told_45 : decode cX10_told 45 = .ok (.bipush 32, 2) := by decide +kernel
theorem dX10_told_47 : decode cX10_told 47 = .ok (.if_icmp .eq 118, 3) := by decide +kernel
theorem dX10_told_50 : decode cX10_told 50 = .ok (.iload 6, 2) := by decide +kernel
theorem dX10_told_52 : decode cX10_told 52 = .ok (.bipush 10, 2) := by decide +kernel
theorem dX10_told_54 : decode cX10_told 54 = .ok (.if_icmp .ne 6, 3) := by decide +kernel
theorem dX10_told_57 : decode cX10_told 57 = .ok (.goto 108, 3) := by decide +kernel
theorem dX10_told_60 : decode cX10_told 60 = .ok (.iload 6, 2) := by decide +kernel
theorem dX10_told_62 : decode cX10_told 62 = .ok (.bipush 59, 2) := by decide +kernel
theorem dX10_told_64 : decode cX10_told 64 = .ok (.if_icmp .ne 47, 3) := by decide +kernel
theorem dX10_told_67 : decode cX10_told 67 = .ok (.iload 4, 2) := by decide +kernel
theorem dX10_told_69 : decode cX10_told 69 = .ok (.ifCond .ne 11, 3) := by decide +kernel
theorem dX10_told_72 : decode cX10_told 72 = .ok (.aload_n 0, 1) := by decide +kernel
theorem dX10_told_73 : decode cX10_told 73 = .ok (.iconst 2, 1) := by decide +kernel
theorem dX10_told_74 : decode cX10_told 74 = .ok (.iload 5, 2) := by decide +kernel
theorem dX10_told_76 : decode cX10_told 76 = .ok (.invokevirtual 121, 3) := by decide +kernel
theorem dX10_told_79 : decode cX10_told 79 = .ok (.ireturn, 1) := by decide +kernel
theorem dX10_told_80 : decode cX10_told 80 = .ok (.iload_n 3, 1) := by decide +kernel
theorem dX10_told_81 : decode cX10_told 81 = .ok (.bipush 23, 2) := by decide +kernel
theorem dX10_told_83 : decode cX10_told 83 = .ok (.if_icmp .ne 11, 3) := by decide +kernel
theorem dX10_told_86 : decode cX10_told 86 = .ok (.aload_n 0, 1) := by decide +kernel
theorem dX10_told_87 : decode cX10_told 87 = .ok (.iconst 3, 1) := by decide +kernel
theorem dX10_told_88 : decode cX10_told 88 = .ok (.iload 5, 2) := by decide +kernel
theorem dX10_told_90 : decode cX10_told 90 = .ok (.invokevirtual 121, 3) := by decide +kernel
theorem dX10_told_93 : decode cX10_told 93 = .ok (.ireturn, 1) := by decide +kernel
theorem dX10_told_94 : decode cX10_told 94 = .ok (.aload_n 0, 1) := by decide +kernel
theorem dX10_told_95 : decode cX10_told 95 = .ok (.getfield 36, 3) := by decide +kernel
theorem dX10_told_98 : decode cX10_told 98 = .ok (.iload_n 3, 1) := by decide +kernel
theorem dX10_told_99 : decode cX10_told 99 = .ok (.iload 4, 2) := by decide +kernel
theorem dX10_told_101 : decode cX10_told 101 = .ok (.iastore, 1) := by decide +kernel
theorem dX10_told_102 : decode cX10_told 102 = .ok (.iinc 3 1, 3) := by decide +kernel
theorem dX10_told_105 : decode cX10_told 105 = .ok (.iconst 0, 1) := by decide +kernel
theorem dX10_told_106 : decode cX10_told 106 = .ok (.istore 4, 2) := by decide +kernel
theorem dX10_told_108 : decode cX10_told 108 = .ok (.goto 57, 3) := by decide +kernel
theorem dX10_told_111 : decode cX10_told 111 = .ok (.iload 6, 2) := by decide +kernel
theorem dX10_told_113 : decode cX10_told 113 = .ok (.bipush 97, 2) := by decide +kernel
theorem dX10_told_115 : decode cX10_told 115 = .ok (.if_icmp .lt 10, 3) := by decide +kernel
theorem dX10_told_118 : decode cX10_told 118 = .ok (.iload 6, 2) := by decide +kernel
theorem dX10_told_120 : decode cX10_told 120 = .ok (.bipush 120, 2) := by decide +kernel
theorem dX10_told_122 : decode cX10_told 122 = .ok (.if_icmp .le 11, 3) := by decide +kernel
theorem dX10_told_125 : decode cX10_told 125 = .ok (.aload_n 0, 1) := by decide +kernel
theorem dX10_told_126 : decode cX10_told 126 = .ok (.iconst 1, 1) := by decide +kernel
theorem dX10_told_127 : decode cX10_told 127 = .ok (.iload 5, 2) := by decide +kernel
theorem dX10_told_129 : decode cX10_told 129 = .ok (.invokevirtual 121, 3) := by decide +kernel
theorem dX10_told_132 : decode cX10_told 132 = .ok (.ireturn, 1) := by decide +kernel
theorem dX10_told_133 : decode cX10_told 133 = .ok (.iconst 1, 1) := by decide +kernel
theorem dX10_told_134 : decode cX10_told 134 = .ok (.iload 6, 2) := by decide +kernel
theorem dX10_told_136 : decode cX10_told 136 = .ok (.bipush 97, 2) := by decide +kernel
theorem dX10_told_138 : decode cX10_told 138 = .ok (.isub, 1) := by decide +kernel
theorem dX10_told_139 : decode cX10_told 139 = .ok (.ishl, 1) := by decide +kernel
theorem dX10_told_140 : decode cX10_told 140 = .ok (.istore 7, 2) := by decide +kernel
theorem dX10_told_142 : decode cX10_told 142 = .ok (.iload 4, 2) := by decide +kernel
theorem dX10_told_144 : decode cX10_told 144 = .ok (.iload 7, 2) := by decide +kernel
theorem dX10_told_146 : decode cX10_told 146 = .ok (.iand, 1) := by decide +kernel
theorem dX10_told_147 : decode cX10_told 147 = .ok (.ifCond .eq 11, 3) := by decide +kernel
theorem dX10_told_150 : decode cX10_told 150 = .ok (.aload_n 0, 1) := by decide +kernel
theorem dX10_told_151 : decode cX10_told 151 = .ok (.iconst 4, 1) := by decide +kernel
theorem dX10_told_152 : decode cX10_told 152 = .ok (.iload 5, 2) := by decide +kernel
theorem dX10_told_154 : decode cX10_told 154 = .ok (.invokevirtual 121, 3) := by decide +kernel
theorem dX10_told_157 : decode cX10_told 157 = .ok (.ireturn, 1) := by decide +kernel
theorem dX10_told_158 : decode cX10_told 158 = .ok (.iload 4, 2) := by decide +kernel
theorem dX10_told_160 : decode cX10_told 160 = .ok (.iload 7, 2) := by decide +kernel
theorem dX10_told_162 : decode cX10_told 162 = .ok (.ior, 1) := by decide +kernel
theorem dX10_told_163 : decode cX10_told 163 = .ok (.istore 4, 2) := by decide +kernel
theorem dX10_told_165 : decode cX10_told 165 = .ok (.iinc 5 1, 3) := by decide +kernel
theorem dX10_told_168 : decode cX10_told 168 = .ok (.goto (-140), 3) := by decide +kernel
theorem dX10_told_171 : decode cX10_told 171 = .ok (.iload 4, 2) := by decide +kernel
theorem dX10_told_173 : decode cX10_told 173 = .ok (.ifCond .ne 10, 3) := by decide +kernel
theorem dX10_told_176 : decode cX10_told 176 = .ok (.aload_n 0, 1) := by decide +kernel
theorem dX10_told_177 : decode cX10_told 177 = .ok (.iconst 2, 1) := by decide +kernel
theorem dX10_told_178 : decode cX10_told 178 = .ok (.iload_n 2, 1) := by decide +kernel
theorem dX10_told_179 : decode cX10_told 179 = .ok (.invokevirtual 121, 3) := by decide +kernel
theorem dX10_told_182 : decode cX10_told 182 = .ok (.ireturn, 1) := by decide +kernel
theorem dX10_told_183 : decode cX10_told 183 = .ok (.aload_n 0, 1) := by decide +kernel
theorem dX10_told_184 : decode cX10_told 184 = .ok (.getfield 36, 3) := by decide +kernel
theorem dX10_told_187 : decode cX10_told 187 = .ok (.iload_n 3, 1) := by decide +kernel
theorem dX10_told_188 : decode cX10_told 188 = .ok (.iload 4, 2) := by decide +kernel
theorem dX10_told_190 : decode cX10_told 190 = .ok (.iastore, 1) := by decide +kernel
theorem dX10_told_191 : decode cX10_told 191 = .ok (.iinc 3 1, 3) := by decide +kernel
theorem dX10_told_194 : decode cX10_told 194 = .ok (.aload_n 0, 1) := by decide +kernel
theorem dX10_told_195 : decode cX10_told 195 = .ok (.iconst 0, 1) := by decide +kernel
theorem dX10_told_196 : decode cX10_told 196 = .ok (.iconst (-1), 1) := by decide +kernel
theorem dX10_told_197 : decode cX10_told 197 = .ok (.invokevirtual 121, 3) := by decide +kernel
theorem dX10_told_200 : decode cX10_told 200 = .ok (.istore 5, 2) := by decide +kernel
theorem dX10_told_202 : decode cX10_told 202 = .ok (.aload_n 0, 1) := by decide +kernel
theorem dX10_told_203 : decode cX10_told 203 = .ok (.iload_n 1, 1) := by decide +kernel
theorem dX10_told_204 : decode cX10_told 204 = .ok (.iload_n 3, 1) := by decide +kernel
theorem dX10_told_205 : decode cX10_told 205 = .ok (.iconst 1, 1) := by decide +kernel
theorem dX10_told_206 : decode cX10_told 206 = .ok (.invokevirtual 101, 3) := by decide +kernel
theorem dX10_told_209 : decode cX10_told 209 = .ok (.iconst 0, 1) := by decide +kernel
theorem dX10_told_210 : decode cX10_told 210 = .ok (.istore 6, 2) := by decide +kernel
theorem dX10_told_212 : decode cX10_told 212 = .ok (.iload 6, 2) := by decide +kernel
theorem dX10_told_214 : decode cX10_told 214 = .ok (.iload_n 3, 1) := by decide +kernel
theorem dX10_told_215 : decode cX10_told 215 = .ok (.if_icmp .ge 71, 3) := by decide +kernel
theorem dX10_told_218 : decode cX10_told 218 = .ok (.aload_n 0, 1) := by decide +kernel
theorem dX10_told_219 : decode cX10_told 219 = .ok (.getfield 19, 3) := by decide +kernel
theorem dX10_told_222 : decode cX10_told 222 = .ok (.bipush 24, 2) := by decide +kernel
theorem dX10_told_224 : decode cX10_told 224 = .ok (.iload_n 1, 1) := by decide +kernel
theorem dX10_told_225 : decode cX10_told 225 = .ok (.imul, 1) := by decide +kernel
theorem dX10_told_226 : decode cX10_told 226 = .ok (.iload 6, 2) := by decide +kernel
theorem dX10_told_228 : decode cX10_told 228 = .ok (.iadd, 1) := by decide +kernel
theorem dX10_told_229 : decode cX10_told 229 = .ok (.aload_n 0, 1) := by decide +kernel
theorem dX10_told_230 : decode cX10_told 230 = .ok (.getfield 36, 3) := by decide +kernel
theorem dX10_told_233 : decode cX10_told 233 = .ok (.iload 6, 2) := by decide +kernel
theorem dX10_told_235 : decode cX10_told 235 = .ok (.iaload, 1) := by decide +kernel
theorem dX10_told_236 : decode cX10_told 236 = .ok (.iastore, 1) := by decide +kernel
theorem dX10_told_237 : decode cX10_told 237 = .ok (.iconst 0, 1) := by decide +kernel
theorem dX10_told_238 : decode cX10_told 238 = .ok (.istore 7, 2) := by decide +kernel
theorem dX10_told_240 : decode cX10_told 240 = .ok (.iload 7, 2) := by decide +kernel
theorem dX10_told_242 : decode cX10_told 242 = .ok (.iload 6, 2) := by decide +kernel
theorem dX10_told_244 : decode cX10_told 244 = .ok (.if_icmp .ge 36, 3) := by decide +kernel
theorem dX10_told_247 : decode cX10_told 247 = .ok (.aload_n 0, 1) := by decide +kernel
theorem dX10_told_248 : decode cX10_told 248 = .ok (.getfield 36, 3) := by decide +kernel
theorem dX10_told_251 : decode cX10_told 251 = .ok (.iload 6, 2) := by decide +kernel
theorem dX10_told_253 : decode cX10_told 253 = .ok (.iaload, 1) := by decide +kernel
theorem dX10_told_254 : decode cX10_told 254 = .ok (.aload_n 0, 1) := by decide +kernel
theorem dX10_told_255 : decode cX10_told 255 = .ok (.getfield 36, 3) := by decide +kernel
theorem dX10_told_258 : decode cX10_told 258 = .ok (.iload 7, 2) := by decide +kernel
theorem dX10_told_260 : decode cX10_told 260 = .ok (.iaload, 1) := by decide +kernel
theorem dX10_told_261 : decode cX10_told 261 = .ok (.iand, 1) := by decide +kernel
theorem dX10_told_262 : decode cX10_told 262 = .ok (.ifCond .eq 12, 3) := by decide +kernel
theorem dX10_told_265 : decode cX10_told 265 = .ok (.aload_n 0, 1) := by decide +kernel
theorem dX10_told_266 : decode cX10_told 266 = .ok (.iload_n 1, 1) := by decide +kernel
theorem dX10_told_267 : decode cX10_told 267 = .ok (.iload 6, 2) := by decide +kernel
theorem dX10_told_269 : decode cX10_told 269 = .ok (.iload 7, 2) := by decide +kernel
theorem dX10_told_271 : decode cX10_told 271 = .ok (.invokevirtual 115, 3) := by decide +kernel
theorem dX10_told_274 : decode cX10_told 274 = .ok (.iinc 7 1, 3) := by decide +kernel
theorem dX10_told_277 : decode cX10_told 277 = .ok (.goto (-37), 3) := by decide +kernel
theorem dX10_told_280 : decode cX10_told 280 = .ok (.iinc 6 1, 3) := by decide +kernel
theorem dX10_told_283 : decode cX10_told 283 = .ok (.goto (-71), 3) := by decide +kernel
theorem dX10_told_286 : decode cX10_told 286 = .ok (.iload_n 3, 1) := by decide +kernel
theorem dX10_told_287 : decode cX10_told 287 = .ok (.ireturn, 1) := by decide +kernel
theorem dX10_fault_0 : decode cX10_fault 0 = .ok (.iload_n 1, 1) := by decide +kernel
theorem dX10_fault_1 : decode cX10_fault 1 = .ok (.ifCond .ne 10, 3) := by decide +kernel
theorem dX10_fault_4 : decode cX10_fault 4 = .ok (.aload_n 0, 1) := by decide +kernel
theorem dX10_fault_5 : decode cX10_fault 5 = .ok (.getfield 118, 3) := by decide +kernel
theorem dX10_fault_8 : decode cX10_fault 8 = .ok (.goto 16, 3) := by decide +kernel
theorem dX10_fault_11 : decode cX10_fault 11 = .ok (.iload_n 1, 1) := by decide +kernel
theorem dX10_fault_12 : decode cX10_fault 12 = .ok (.iconst 1, 1) := by decide +kernel
theorem dX10_fault_13 : decode cX10_fault 13 = .ok (.if_icmp .ne 10, 3) := by decide +kernel
theorem dX10_fault_16 : decode cX10_fault 16 = .ok (.aload_n 0, 1) := by decide +kernel
theorem dX10_fault_17 : decode cX10_fault 17 = .ok (.getfield 32, 3) := by decide +kernel
theorem dX10_fault_20 : decode cX10_fault 20 = .ok (.goto 4, 3) := by decide +kernel
theorem dX10_fault_23 : decode cX10_fault 23 = .ok (.iconst (-1), 1) := by decide +kernel
theorem dX10_fault_24 : decode cX10_fault 24 = .ok (.ireturn, 1) := by decide +kernel
theorem dX10_isLike_0 : decode cX10_isLike 0 = .ok (.iload_n 2, 1) := by decide +kernel
theorem dX10_isLike_1 : decode cX10_isLike 1 = .ok (.iload_n 3, 1) := by decide +kernel
theorem dX10_isLike_2 : decode cX10_isLike 2 = .ok (.if_icmp .eq 13, 3) := by decide +kernel
theorem dX10_isLike_5 : decode cX10_isLike 5 = .ok (.aload_n 0, 1) := by decide +kernel
theorem dX10_isLike_6 : decode cX10_isLike 6 = .ok (.iload_n 1, 1) := by decide +kernel
theorem dX10_isLike_7 : decode cX10_isLike 7 = .ok (.iload_n 2, 1) := by decide +kernel
theorem dX10_isLike_8 : decode cX10_isLike 8 = .ok (.iload_n 3, 1) := by decide +kernel
theorem dX10_isLike_9 : decode cX10_isLike 9 = .ok (.invokevirtual 109, 3) := by decide +kernel
theorem dX10_isLike_12 : decode cX10_isLike 12 = .ok (.ifCond .eq 7, 3) := by decide +kernel
theorem dX10_isLike_15 : decode cX10_isLike 15 = .ok (.iconst 1, 1) := by decide +kernel
theorem dX10_isLike_16 : decode cX10_isLike 16 = .ok (.goto 4, 3) := by decide +kernel
theorem dX10_isLike_19 : decode cX10_isLike 19 = .ok (.iconst 0, 1) := by decide +kernel
theorem dX10_isLike_20 : decode cX10_isLike 20 = .ok (.ireturn, 1) := by decide +kernel
theorem dX10_both_0 : decode cX10_both 0 = .ok (.iload_n 1, 1) := by decide +kernel
theorem dX10_both_1 : decode cX10_both 1 = .ok (.invokestatic 85, 3) := by decide +kernel
theorem dX10_both_4 : decode cX10_both 4 = .ok (.ifCond .eq 17, 3) := by decide +kernel
theorem dX10_both_7 : decode cX10_both 7 = .ok (.iload_n 2, 1) := by decide +kernel
theorem dX10_both_8 : decode cX10_both 8 = .ok (.invokestatic 85, 3) := by decide +kernel
theorem dX10_both_11 : decode cX10_both 11 = .ok (.ifCond .eq 10, 3) := by decide +kernel
theorem dX10_both_14 : decode cX10_both 14 = .ok (.iload_n 3, 1) := by decide +kernel
theorem dX10_both_15 : decode cX10_both 15 = .ok (.invokestatic 85, 3) := by decide +kernel
theorem dX10_both_18 : decode cX10_both 18 = .ok (.ifCond .ne 6, 3) := by decide +kernel
theorem dX10_both_21 : decode cX10_both 21 = .ok (.bipush (-2), 2) := by decide +kernel
theorem dX10_both_23 : decode cX10_both 23 = .ok (.ireturn, 1) := by decide +kernel
theorem dX10_both_24 : decode cX10_both 24 = .ok (.aload_n 0, 1) := by decide +kernel
theorem dX10_both_25 : decode cX10_both 25 = .ok (.getfield 9, 3) := by decide +kernel
theorem dX10_both_28 : decode cX10_both 28 = .ok (.iload_n 1, 1) := by decide +kernel
theorem dX10_both_29 : decode cX10_both 29 = .ok (.iaload, 1) := by decide +kernel
theorem dX10_both_30 : decode cX10_both 30 = .ok (.aload_n 0, 1) := by decide +kernel
theorem dX10_both_31 : decode cX10_both 31 = .ok (.getfield 9, 3) := by decide +kernel
theorem dX10_both_34 : decode cX10_both 34 = .ok (.iload_n 2, 1) := by decide +kernel
theorem dX10_both_35 : decode cX10_both 35 = .ok (.iaload, 1) := by decide +kernel
theorem dX10_both_36 : decode cX10_both 36 = .ok (.imul, 1) := by decide +kernel
theorem dX10_both_37 : decode cX10_both 37 = .ok (.istore 4, 2) := by decide +kernel
theorem dX10_both_39 : decode cX10_both 39 = .ok (.iload 4, 2) := by decide +kernel
theorem dX10_both_41 : decode cX10_both 41 = .ok (.bipush 24, 2) := by decide +kernel
theorem dX10_both_43 : decode cX10_both 43 = .ok (.if_icmp .le 6, 3) := by decide +kernel
theorem dX10_both_46 : decode cX10_both 46 = .ok (.bipush (-3), 2) := by decide +kernel
theorem dX10_both_48 : decode cX10_both 48 = .ok (.ireturn, 1) := by decide +kernel
theorem dX10_both_49 : decode cX10_both 49 = .ok (.iconst 0, 1) := by decide +kernel
theorem dX10_both_50 : decode cX10_both 50 = .ok (.istore 5, 2) := by decide +kernel
theorem dX10_both_52 : decode cX10_both 52 = .ok (.iload 5, 2) := by decide +kernel
theorem dX10_both_54 : decode cX10_both 54 = .ok (.iload 4, 2) := by decide +kernel
theorem dX10_both_56 : decode cX10_both 56 = .ok (.if_icmp .ge 106, 3) := by decide +kernel
theorem dX10_both_59 : decode cX10_both 59 = .ok (.aload_n 0, 1) := by decide +kernel
theorem dX10_both_60 : decode cX10_both 60 = .ok (.getfield 39, 3) := by decide +kernel
theorem dX10_both_63 : decode cX10_both 63 = .ok (.iload 5, 2) := by decide +kernel
theorem dX10_both_65 : decode cX10_both 65 = .ok (.iconst 0, 1) := by decide +kernel
theorem dX10_both_66 : decode cX10_both 66 = .ok (.iastore, 1) := by decide +kernel
theorem dX10_both_67 : decode cX10_both 67 = .ok (.iconst 0, 1) := by decide +kernel
theorem dX10_both_68 : decode cX10_both 68 = .ok (.istore 6, 2) := by decide +kernel
theorem dX10_both_70 : decode cX10_both 70 = .ok (.iload 6, 2) := by decide +kernel
theorem dX10_both_72 : decode cX10_both 72 = .ok (.iload 4, 2) := by decide +kernel
theorem dX10_both_74 : decode cX10_both 74 = .ok (.if_icmp .ge 82, 3) := by decide +kernel
theorem dX10_both_77 : decode cX10_both 77 = .ok (.iload 5, 2) := by decide +kernel
theorem dX10_both_79 : decode cX10_both 79 = .ok (.iload 6, 2) := by decide +kernel
theorem dX10_both_81 : decode cX10_both 81 = .ok (.if_icmp .eq 69, 3) := by decide +kernel
theorem dX10_both_84 : decode cX10_both 84 = .ok (.aload_n 0, 1) := by decide +kernel
theorem dX10_both_85 : decode cX10_both 85 = .ok (.iload_n 1, 1) := by decide +kernel
theorem dX10_both_86 : decode cX10_both 86 = .ok (.iload 5, 2) := by decide +kernel
theorem dX10_both_88 : decode cX10_both 88 = .ok (.aload_n 0, 1) := by decide +kernel
theorem dX10_both_89 : decode cX10_both 89 = .ok (.getfield 9, 3) := by decide +kernel
theorem dX10_both_92 : decode cX10_both 92 = .ok (.iload_n 2, 1) := by decide +kernel
theorem dX10_both_93 : decode cX10_both 93 = .ok (.iaload, 1) := by decide +kernel
theorem dX10_both_94 : decode cX10_both 94 = .ok (.idiv, 1) := by decide +kernel
theorem dX10_both_95 : decode cX10_both 95 = .ok (.iload 6, 2) := by decide +kernel
theorem dX10_both_97 : decode cX10_both 97 = .ok (.aload_n 0, 1) := by decide +kernel
theorem dX10_both_98 : decode cX10_both 98 = .ok (.getfield 9, 3) := by decide +kernel
theorem dX10_both_101 : decode cX10_both 101 = .ok (.iload_n 2, 1) := by decide +kernel
theorem dX10_both_102 : decode cX10_both 102 = .ok (.iaload, 1) := by decide +kernel
theorem dX10_both_103 : decode cX10_both 103 = .ok (.idiv, 1) := by decide +kernel
theorem dX10_both_104 : decode cX10_both 104 = .ok (.invokevirtual 125, 3) := by decide +kernel
theorem dX10_both_107 : decode cX10_both 107 = .ok (.ifCond .eq 43, 3) := by decide +kernel
theorem dX10_both_110 : decode cX10_both 110 = .ok (.aload_n 0, 1) := by decide +kernel
theorem dX10_both_111 : decode cX10_both 111 = .ok (.iload_n 2, 1) := by decide +kernel
theorem dX10_both_112 : decode cX10_both 112 = .ok (.iload 5, 2) := by decide +kernel
theorem dX10_both_114 : decode cX10_both 114 = .ok (.aload_n 0, 1) := by decide +kernel
theorem dX10_both_115 : decode cX10_both 115 = .ok (.getfield 9, 3) := by decide +kernel
theorem dX10_both_118 : decode cX10_both 118 = .ok (.iload_n 2, 1) := by decide +kernel
theorem dX10_both_119 : decode cX10_both 119 = .ok (.iaload, 1) := by decide +kernel
theorem dX10_both_120 : decode cX10_both 120 = .ok (.irem, 1) := by decide +kernel
theorem dX10_both_121 : decode cX10_both 121 = .ok (.iload 6, 2) := by decide +kernel
theorem dX10_both_123 : decode cX10_both 123 = .ok (.aload_n 0, 1) := by decide +kernel
theorem dX10_both_124 : decode cX10_both 124 = .ok (.getfield 9, 3) := by decide +kernel
theorem dX10_both_127 : decode cX10_both 127 = .ok (.iload_n 2, 1) := by decide +kernel
theorem dX10_both_128 : decode cX10_both 128 = .ok (.iaload, 1) := by decide +kernel
theorem dX10_both_129 : decode cX10_both 129 = .ok (.irem, 1) := by decide +kernel
theorem dX10_both_130 : decode cX10_both 130 = .ok (.invokevirtual 125, 3) := by decide +kernel
theorem dX10_both_133 : decode cX10_both 133 = .ok (.ifCond .eq 17, 3) := by decide +kernel
theorem dX10_both_136 : decode cX10_both 136 = .ok (.aload_n 0, 1) := by decide +kernel
theorem dX10_both_137 : decode cX10_both 137 = .ok (.getfield 39, 3) := by decide +kernel
theorem dX10_both_140 : decode cX10_both 140 = .ok (.iload 5, 2) := by decide +kernel
theorem dX10_both_142 : decode cX10_both 142 = .ok (.dup2, 1) := by decide +kernel
theorem dX10_both_143 : decode cX10_both 143 = .ok (.iaload, 1) := by decide +kernel
theorem dX10_both_144 : decode cX10_both 144 = .ok (.iconst 1, 1) := by decide +kernel
theorem dX10_both_145 : decode cX10_both 145 = .ok (.iload 6, 2) := by decide +kernel
theorem dX10_both_147 : decode cX10_both 147 = .ok (.ishl, 1) := by decide +kernel
theorem dX10_both_148 : decode cX10_both 148 = .ok (.ior, 1) := by decide +kernel
theorem dX10_both_149 : decode cX10_both 149 = .ok (.iastore, 1) := by decide +kernel
theorem dX10_both_150 : decode cX10_both 150 = .ok (.iinc 6 1, 3) := by decide +kernel
theorem dX10_both_153 : decode cX10_both 153 = .ok (.goto (-83), 3) := by decide +kernel
theorem dX10_both_156 : decode cX10_both 156 = .ok (.iinc 5 1, 3) := by decide +kernel
theorem dX10_both_159 : decode cX10_both 159 = .ok (.goto (-107), 3) := by decide +kernel
theorem dX10_both_162 : decode cX10_both 162 = .ok (.aload_n 0, 1) := by decide +kernel
theorem dX10_both_163 : decode cX10_both 163 = .ok (.iload_n 3, 1) := by decide +kernel
theorem dX10_both_164 : decode cX10_both 164 = .ok (.iload 4, 2) := by decide +kernel
theorem dX10_both_166 : decode cX10_both 166 = .ok (.invokevirtual 128, 3) := by decide +kernel
theorem dX10_both_169 : decode cX10_both 169 = .ok (.ireturn, 1) := by decide +kernel
theorem dX10_either_0 : decode cX10_either 0 = .ok (.iload_n 1, 1) := by decide +kernel
theorem dX10_either_1 : decode cX10_either 1 = .ok (.invokestatic 85, 3) := by decide +kernel
theorem dX10_either_4 : decode cX10_either 4 = .ok (.ifCond .eq 17, 3) := by decide +kernel
theorem dX10_either_7 : decode cX10_either 7 = .ok (.iload_n 2, 1) := by decide +kernel
theorem dX10_either_8 : decode cX10_either 8 = .ok (.invokestatic 85, 3) := by decide +kernel
theorem dX10_either_11 : decode cX10_either 11 = .ok (.ifCond .eq 10, 3) := by decide +kernel
theorem dX10_either_14 : decode cX10_either 14 = .ok (.iload_n 3, 1) := by decide +kernel
theorem dX10_either_15 : decode cX10_either 15 = .ok (.invokestatic 85, 3) := by decide +kernel
theorem dX10_either_18 : decode cX10_either 18 = .ok (.ifCond .ne 6, 3) := by decide +kernel
theorem dX10_either_21 : decode cX10_either 21 = .ok (.bipush (-2), 2) := by decide +kernel
theorem dX10_either_23 : decode cX10_either 23 = .ok (.ireturn, 1) := by decide +kernel
theorem dX10_either_24 : decode cX10_either 24 = .ok (.aload_n 0, 1) := by decide +kernel
theorem dX10_either_25 : decode cX10_either 25 = .ok (.getfield 9, 3) := by decide +kernel
theorem dX10_either_28 : decode cX10_either 28 = .ok (.iload_n 1, 1) := by decide +kernel
theorem dX10_either_29 : decode cX10_either 29 = .ok (.iaload, 1) := by decide +kernel
theorem dX10_either_30 : decode cX10_either 30 = .ok (.aload_n 0, 1) := by decide +kernel
theorem dX10_either_31 : decode cX10_either 31 = .ok (.getfield 9, 3) := by decide +kernel
theorem dX10_either_34 : decode cX10_either 34 = .ok (.iload_n 2, 1) := by decide +kernel
theorem dX10_either_35 : decode cX10_either 35 = .ok (.iaload, 1) := by decide +kernel
theorem dX10_either_36 : decode cX10_either 36 = .ok (.iadd, 1) := by decide +kernel
theorem dX10_either_37 : decode cX10_either 37 = .ok (.istore 4, 2) := by decide +kernel
theorem dX10_either_39 : decode cX10_either 39 = .ok (.iload 4, 2) := by decide +kernel
theorem dX10_either_41 : decode cX10_either 41 = .ok (.bipush 24, 2) := by decide +kernel
theorem dX10_either_43 : decode cX10_either 43 = .ok (.if_icmp .le 6, 3) := by decide +kernel
theorem dX10_either_46 : decode cX10_either 46 = .ok (.bipush (-3), 2) := by decide +kernel
theorem dX10_either_48 : decode cX10_either 48 = .ok (.ireturn, 1) := by decide +kernel
theorem dX10_either_49 : decode cX10_either 49 = .ok (.iconst 0, 1) := by decide +kernel
theorem dX10_either_50 : decode cX10_either 50 = .ok (.istore 5, 2) := by decide +kernel
theorem dX10_either_52 : decode cX10_either 52 = .ok (.iload 5, 2) := by decide +kernel
theorem dX10_either_54 : decode cX10_either 54 = .ok (.iload 4, 2) := by decide +kernel
theorem dX10_either_56 : decode cX10_either 56 = .ok (.if_icmp .ge 68, 3) := by decide +kernel
theorem dX10_either_59 : decode cX10_either 59 = .ok (.aload_n 0, 1) := by decide +kernel
theorem dX10_either_60 : decode cX10_either 60 = .ok (.getfield 39, 3) := by decide +kernel
theorem dX10_either_63 : decode cX10_either 63 = .ok (.iload 5, 2) := by decide +kernel
theorem dX10_either_65 : decode cX10_either 65 = .ok (.iload 5, 2) := by decide +kernel
theorem dX10_either_67 : decode cX10_either 67 = .ok (.aload_n 0, 1) := by decide +kernel
theorem dX10_either_68 : decode cX10_either 68 = .ok (.getfield 9, 3) := by decide +kernel
theorem dX10_either_71 : decode cX10_either 71 = .ok (.iload_n 1, 1) := by decide +kernel
theorem dX10_either_72 : decode cX10_either 72 = .ok (.iaload, 1) := by decide +kernel
theorem dX10_either_73 : decode cX10_either 73 = .ok (.if_icmp .ge 18, 3) := by decide +kernel
theorem dX10_either_76 : decode cX10_either 76 = .ok (.aload_n 0, 1) := by decide +kernel
theorem dX10_either_77 : decode cX10_either 77 = .ok (.getfield 16, 3) := by decide +kernel
theorem dX10_either_80 : decode cX10_either 80 = .ok (.bipush 24, 2) := by decide +kernel
theorem dX10_either_82 : decode cX10_either 82 = .ok (.iload_n 1, 1) := by decide +kernel
theorem dX10_either_83 : decode cX10_either 83 = .ok (.imul, 1) := by decide +kernel
theorem dX10_either_84 : decode cX10_either 84 = .ok (.iload 5, 2) := by decide +kernel
theorem dX10_either_86 : decode cX10_either 86 = .ok (.iadd, 1) := by decide +kernel
theorem dX10_either_87 : decode cX10_either 87 = .ok (.iaload, 1) := by decide +kernel
theorem dX10_either_88 : decode cX10_either 88 = .ok (.goto 29, 3) := by decide +kernel
theorem dX10_either_91 : decode cX10_either 91 = .ok (.aload_n 0, 1) := by decide +kernel
theorem dX10_either_92 : decode cX10_either 92 = .ok (.getfield 16, 3) := by decide +kernel
theorem dX10_either_95 : decode cX10_either 95 = .ok (.bipush 24, 2) := by decide +kernel
theorem dX10_either_97 : decode cX10_either 97 = .ok (.iload_n 2, 1) := by decide +kernel
theorem dX10_either_98 : decode cX10_either 98 = .ok (.imul, 1) := by decide +kernel
theorem dX10_either_99 : decode cX10_either 99 = .ok (.iload 5, 2) := by decide +kernel
theorem dX10_either_101 : decode cX10_either 101 = .ok (.iadd, 1) := by decide +kernel
theorem dX10_either_102 : decode cX10_either 102 = .ok (.aload_n 0, 1) := by decide +kernel
theorem dX10_either_103 : decode cX10_either 103 = .ok (.getfield 9, 3) := by decide +kernel
theorem dX10_either_106 : decode cX10_either 106 = .ok (.iload_n 1, 1) := by decide +kernel
theorem dX10_either_107 : decode cX10_either 107 = .ok (.iaload, 1) := by decide +kernel
theorem dX10_either_108 : decode cX10_either 108 = .ok (.isub, 1) := by decide +kernel
theorem dX10_either_109 : decode cX10_either 109 = .ok (.iaload, 1) := by decide +kernel
theorem dX10_either_110 : decode cX10_either 110 = .ok (.aload_n 0, 1) := by decide +kernel
theorem dX10_either_111 : decode cX10_either 111 = .ok (.getfield 9, 3) := by decide +kernel
theorem dX10_either_114 : decode cX10_either 114 = .ok (.iload_n 1, 1) := by decide +kernel
theorem dX10_either_115 : decode cX10_either 115 = .ok (.iaload, 1) := by decide +kernel
theorem dX10_either_116 : decode cX10_either 116 = .ok (.ishl, 1) := by decide +kernel
theorem dX10_either_117 : decode cX10_either 117 = .ok (.iastore, 1) := by decide +kernel
theorem dX10_either_118 : decode cX10_either 118 = .ok (.iinc 5 1, 3) := by decide +kernel
theorem dX10_either_121 : decode cX10_either 121 = .ok (.goto (-69), 3) := by decide +kernel
theorem dX10_either_124 : decode cX10_either 124 = .ok (.aload_n 0, 1) := by decide +kernel
theorem dX10_either_125 : decode cX10_either 125 = .ok (.iload_n 3, 1) := by decide +kernel
theorem dX10_either_126 : decode cX10_either 126 = .ok (.iload 4, 2) := by decide +kernel
theorem dX10_either_128 : decode cX10_either 128 = .ok (.invokevirtual 128, 3) := by decide +kernel
theorem dX10_either_131 : decode cX10_either 131 = .ok (.ireturn, 1) := by decide +kernel
theorem dX10_put_0 : decode cX10_put 0 = .ok (.aload_n 0, 1) := by decide +kernel
theorem dX10_put_1 : decode cX10_put 1 = .ok (.iload_n 1, 1) := by decide +kernel
theorem dX10_put_2 : decode cX10_put 2 = .ok (.iload_n 2, 1) := by decide +kernel
theorem dX10_put_3 : decode cX10_put 3 = .ok (.iconst 0, 1) := by decide +kernel
theorem dX10_put_4 : decode cX10_put 4 = .ok (.invokevirtual 101, 3) := by decide +kernel
theorem dX10_put_7 : decode cX10_put 7 = .ok (.iconst 0, 1) := by decide +kernel
theorem dX10_put_8 : decode cX10_put 8 = .ok (.istore_n 3, 1) := by decide +kernel
theorem dX10_put_9 : decode cX10_put 9 = .ok (.iload_n 3, 1) := by decide +kernel
theorem dX10_put_10 : decode cX10_put 10 = .ok (.iload_n 2, 1) := by decide +kernel
theorem dX10_put_11 : decode cX10_put 11 = .ok (.if_icmp .ge 26, 3) := by decide +kernel
theorem dX10_put_14 : decode cX10_put 14 = .ok (.aload_n 0, 1) := by decide +kernel
theorem dX10_put_15 : decode cX10_put 15 = .ok (.getfield 16, 3) := by decide +kernel
theorem dX10_put_18 : decode cX10_put 18 = .ok (.bipush 24, 2) := by decide +kernel
theorem dX10_put_20 : decode cX10_put 20 = .ok (.iload_n 1, 1) := by decide +kernel
theorem dX10_put_21 : decode cX10_put 21 = .ok (.imul, 1) := by decide +kernel
theorem dX10_put_22 : decode cX10_put 22 = .ok (.iload_n 3, 1) := by decide +kernel
theorem dX10_put_23 : decode cX10_put 23 = .ok (.iadd, 1) := by decide +kernel
theorem dX10_put_24 : decode cX10_put 24 = .ok (.aload_n 0, 1) := by decide +kernel
theorem dX10_put_25 : decode cX10_put 25 = .ok (.getfield 39, 3) := by decide +kernel
theorem dX10_put_28 : decode cX10_put 28 = .ok (.iload_n 3, 1) := by decide +kernel
theorem dX10_put_29 : decode cX10_put 29 = .ok (.iaload, 1) := by decide +kernel
theorem dX10_put_30 : decode cX10_put 30 = .ok (.iastore, 1) := by decide +kernel
theorem dX10_put_31 : decode cX10_put 31 = .ok (.iinc 3 1, 3) := by decide +kernel
theorem dX10_put_34 : decode cX10_put 34 = .ok (.goto (-25), 3) := by decide +kernel
theorem dX10_put_37 : decode cX10_put 37 = .ok (.iload_n 2, 1) := by decide +kernel
theorem dX10_put_38 : decode cX10_put 38 = .ok (.ireturn, 1) := by decide +kernel
theorem dX10_bits_0 : decode cX10_bits 0 = .ok (.iconst 0, 1) := by decide +kernel
theorem dX10_bits_1 : decode cX10_bits 1 = .ok (.istore_n 2, 1) := by decide +kernel
theorem dX10_bits_2 : decode cX10_bits 2 = .ok (.lload_n 0, 1) := by decide +kernel
theorem dX10_bits_3 : decode cX10_bits 3 = .ok (.lstore_n 3, 1) := by decide +kernel
theorem dX10_bits_4 : decode cX10_bits 4 = .ok (.lload_n 3, 1) := by decide +kernel
theorem dX10_bits_5 : decode cX10_bits 5 = .ok (.lconst 0, 1) := by decide +kernel
theorem dX10_bits_6 : decode cX10_bits 6 = .ok (.lcmp, 1) := by decide +kernel
theorem dX10_bits_7 : decode cX10_bits 7 = .ok (.ifCond .eq 15, 3) := by decide +kernel
theorem dX10_bits_10 : decode cX10_bits 10 = .ok (.iinc 2 1, 3) := by decide +kernel
theorem dX10_bits_13 : decode cX10_bits 13 = .ok (.lload_n 3, 1) := by decide +kernel
theorem dX10_bits_14 : decode cX10_bits 14 = .ok (.lload_n 3, 1) := by decide +kernel
theorem dX10_bits_15 : decode cX10_bits 15 = .ok (.lconst 1, 1) := by decide +kernel
theorem dX10_bits_16 : decode cX10_bits 16 = .ok (.lsub, 1) := by decide +kernel
theorem dX10_bits_17 : decode cX10_bits 17 = .ok (.land, 1) := by decide +kernel
theorem dX10_bits_18 : decode cX10_bits 18 = .ok (.lstore_n 3, 1) := by decide +kernel
theorem dX10_bits_19 : decode cX10_bits 19 = .ok (.goto (-15), 3) := by decide +kernel
theorem dX10_bits_22 : decode cX10_bits 22 = .ok (.iload_n 2, 1) := by decide +kernel
theorem dX10_bits_23 : decode cX10_bits 23 = .ok (.ireturn, 1) := by decide +kernel
theorem dX10_about_0 : decode cX10_about 0 = .ok (.iload_n 1, 1) := by decide +kernel
theorem dX10_about_1 : decode cX10_about 1 = .ok (.invokestatic 85, 3) := by decide +kernel
theorem dX10_about_4 : decode cX10_about 4 = .ok (.ifCond .ne 5, 3) := by decide +kernel
theorem dX10_about_7 : decode cX10_about 7 = .ok (.iconst (-1), 1) := by decide +kernel
theorem dX10_about_8 : decode cX10_about 8 = .ok (.ireturn, 1) := by decide +kernel
theorem dX10_about_9 : decode cX10_about 9 = .ok (.iload_n 2, 1) := by decide +kernel
theorem dX10_about_10 : decode cX10_about 10 = .ok (.i2l, 1) := by decide +kernel
theorem dX10_about_11 : decode cX10_about 11 = .ok (.ldc2_w 131, 3) := by decide +kernel
theorem dX10_about_14 : decode cX10_about 14 = .ok (.ldc2_w 133, 3) := by decide +kernel
theorem dX10_about_17 : decode cX10_about 17 = .ok (.aload_n 0, 1) := by decide +kernel
theorem dX10_about_18 : decode cX10_about 18 = .ok (.getfield 9, 3) := by decide +kernel
theorem dX10_about_21 : decode cX10_about 21 = .ok (.iload_n 1, 1) := by decide +kernel
theorem dX10_about_22 : decode cX10_about 22 = .ok (.iaload, 1) := by decide +kernel
theorem dX10_about_23 : decode cX10_about 23 = .ok (.i2l, 1) := by decide +kernel
theorem dX10_about_24 : decode cX10_about 24 = .ok (.ladd, 1) := by decide +kernel
theorem dX10_about_25 : decode cX10_about 25 = .ok (.invokestatic 81, 3) := by decide +kernel
theorem dX10_about_28 : decode cX10_about 28 = .ok (.ifCond .eq 18, 3) := by decide +kernel
theorem dX10_about_31 : decode cX10_about 31 = .ok (.aload_n 0, 1) := by decide +kernel
theorem dX10_about_32 : decode cX10_about 32 = .ok (.getfield 16, 3) := by decide +kernel
theorem dX10_about_35 : decode cX10_about 35 = .ok (.bipush 24, 2) := by decide +kernel
theorem dX10_about_37 : decode cX10_about 37 = .ok (.iload_n 1, 1) := by decide +kernel
theorem dX10_about_38 : decode cX10_about 38 = .ok (.imul, 1) := by decide +kernel
theorem dX10_about_39 : decode cX10_about 39 = .ok (.iload_n 2, 1) := by decide +kernel
theorem dX10_about_40 : decode cX10_about 40 = .ok (.iadd, 1) := by decide +kernel
theorem dX10_about_41 : decode cX10_about 41 = .ok (.bipush 10, 2) := by decide +kernel
theorem dX10_about_43 : decode cX10_about 43 = .ok (.isub, 1) := by decide +kernel
theorem dX10_about_44 : decode cX10_about 44 = .ok (.iaload, 1) := by decide +kernel
theorem dX10_about_45 : decode cX10_about 45 = .ok (.ireturn, 1) := by decide +kernel
theorem dX10_about_46 : decode cX10_about 46 = .ok (.iload_n 2, 1) := by decide +kernel
theorem dX10_about_47 : decode cX10_about 47 = .ok (.i2l, 1) := by decide +kernel
theorem dX10_about_48 : decode cX10_about 48 = .ok (.ldc2_w 135, 3) := by decide +kernel
theorem dX10_about_51 : decode cX10_about 51 = .ok (.ldc2_w 137, 3) := by decide +kernel
theorem dX10_about_54 : decode cX10_about 54 = .ok (.aload_n 0, 1) := by decide +kernel
theorem dX10_about_55 : decode cX10_about 55 = .ok (.getfield 9, 3) := by decide +kernel
theorem dX10_about_58 : decode cX10_about 58 = .ok (.iload_n 1, 1) := by decide +kernel
theorem dX10_about_59 : decode cX10_about 59 = .ok (.iaload, 1) := by decide +kernel
theorem dX10_about_60 : decode cX10_about 60 = .ok (.i2l, 1) := by decide +kernel
theorem dX10_about_61 : decode cX10_about 61 = .ok (.ladd, 1) := by decide +kernel
theorem dX10_about_62 : decode cX10_about 62 = .ok (.invokestatic 81, 3) := by decide +kernel
theorem dX10_about_65 : decode cX10_about 65 = .ok (.ifCond .eq 32, 3) := by decide +kernel
theorem dX10_about_68 : decode cX10_about 68 = .ok (.aload_n 0, 1) := by decide +kernel
theorem dX10_about_69 : decode cX10_about 69 = .ok (.getfield 13, 3) := by decide +kernel
theorem dX10_about_72 : decode cX10_about 72 = .ok (.iload_n 1, 1) := by decide +kernel
theorem dX10_about_73 : decode cX10_about 73 = .ok (.iaload, 1) := by decide +kernel
theorem dX10_about_74 : decode cX10_about 74 = .ok (.iconst 1, 1) := by decide +kernel
theorem dX10_about_75 : decode cX10_about 75 = .ok (.if_icmp .ne 20, 3) := by decide +kernel
theorem dX10_about_78 : decode cX10_about 78 = .ok (.aload_n 0, 1) := by decide +kernel
theorem dX10_about_79 : decode cX10_about 79 = .ok (.getfield 19, 3) := by decide +kernel
theorem dX10_about_82 : decode cX10_about 82 = .ok (.bipush 24, 2) := by decide +kernel
theorem dX10_about_84 : decode cX10_about 84 = .ok (.iload_n 1, 1) := by decide +kernel
theorem dX10_about_85 : decode cX10_about 85 = .ok (.imul, 1) := by decide +kernel
theorem dX10_about_86 : decode cX10_about 86 = .ok (.iload_n 2, 1) := by decide +kernel
theorem dX10_about_87 : decode cX10_about 87 = .ok (.iadd, 1) := by decide +kernel
theorem dX10_about_88 : decode cX10_about 88 = .ok (.bipush 40, 2) := by decide +kernel
theorem dX10_about_90 : decode cX10_about 90 = .ok (.isub, 1) := by decide +kernel
theorem dX10_about_91 : decode cX10_about 91 = .ok (.iaload, 1) := by decide +kernel
theorem dX10_about_92 : decode cX10_about 92 = .ok (.goto 4, 3) := by decide +kernel
theorem dX10_about_95 : decode cX10_about 95 = .ok (.iconst (-1), 1) := by decide +kernel
theorem dX10_about_96 : decode cX10_about 96 = .ok (.ireturn, 1) := by decide +kernel
theorem dX10_about_97 : decode cX10_about 97 = .ok (.iconst 0, 1) := by decide +kernel
theorem dX10_about_98 : decode cX10_about 98 = .ok (.istore_n 3, 1) := by decide +kernel
theorem dX10_about_99 : decode cX10_about 99 = .ok (.iconst 0, 1) := by decide +kernel
theorem dX10_about_100 : decode cX10_about 100 = .ok (.istore 4, 2) := by decide +kernel
theorem dX10_about_102 : decode cX10_about 102 = .ok (.iconst 0, 1) := by decide +kernel
theorem dX10_about_103 : decode cX10_about 103 = .ok (.istore 5, 2) := by decide +kernel
theorem dX10_about_105 : decode cX10_about 105 = .ok (.iload 5, 2) := by decide +kernel
theorem dX10_about_107 : decode cX10_about 107 = .ok (.aload_n 0, 1) := by decide +kernel
theorem dX10_about_108 : decode cX10_about 108 = .ok (.getfield 9, 3) := by decide +kernel
theorem dX10_about_111 : decode cX10_about 111 = .ok (.iload_n 1, 1) := by decide +kernel
theorem dX10_about_112 : decode cX10_about 112 = .ok (.iaload, 1) := by decide +kernel
theorem dX10_about_113 : decode cX10_about 113 = .ok (.if_icmp .ge 45, 3) := by decide +kernel
theorem dX10_about_116 : decode cX10_about 116 = .ok (.iload_n 3, 1) := by decide +kernel
theorem dX10_about_117 : decode cX10_about 117 = .ok (.aload_n 0, 1) := by decide +kernel
theorem dX10_about_118 : decode cX10_about 118 = .ok (.getfield 16, 3) := by decide +kernel
theorem dX10_about_121 : decode cX10_about 121 = .ok (.bipush 24, 2) := by decide +kernel
theorem dX10_about_123 : decode cX10_about 123 = .ok (.iload_n 1, 1) := by decide +kernel
theorem dX10_about_124 : decode cX10_about 124 = .ok (.imul, 1) := by decide +kernel
theorem dX10_about_125 : decode cX10_about 125 = .ok (.iload 5, 2) := by decide +kernel
theorem dX10_about_127 : decode cX10_about 127 = .ok (.iadd, 1) := by decide +kernel
theorem dX10_about_128 : decode cX10_about 128 = .ok (.iaload, 1) := by decide +kernel
theorem dX10_about_129 : decode cX10_about 129 = .ok (.i2l, 1) := by decide +kernel
theorem dX10_about_130 : decode cX10_about 130 = .ok (.invokestatic 139, 3) := by decide +kernel
theorem dX10_about_133 : decode cX10_about 133 = .ok (.iadd, 1) := by decide +kernel
theorem dX10_about_134 : decode cX10_about 134 = .ok (.istore_n 3, 1) := by decide +kernel
theorem dX10_about_135 : decode cX10_about 135 = .ok (.iload 4, 2) := by decide +kernel
theorem dX10_about_137 : decode cX10_about 137 = .ok (.aload_n 0, 1) := by decide +kernel
theorem dX10_about_138 : decode cX10_about 138 = .ok (.getfield 19, 3) := by decide +kernel
theorem dX10_about_141 : decode cX10_about 141 = .ok (.bipush 24, 2) := by decide +kernel
theorem dX10_about_143 : decode cX10_about 143 = .ok (.iload_n 1, 1) := by decide +kernel
theorem dX10_about_144 : decode cX10_about 144 = .ok (.imul, 1) := by decide +kernel
theorem dX10_about_145 : decode cX10_about 145 = .ok (.iload 5, 2) := by decide +kernel
theorem dX10_about_147 : decode cX10_about 147 = .ok (.iadd, 1) := by decide +kernel
theorem dX10_about_148 : decode cX10_about 148 = .ok (.iaload, 1) := by decide +kernel
theorem dX10_about_149 : decode cX10_about 149 = .ok (.ior, 1) := by decide +kernel
theorem dX10_about_150 : decode cX10_about 150 = .ok (.istore 4, 2) := by decide +kernel
theorem dX10_about_152 : decode cX10_about 152 = .ok (.iinc 5 1, 3) := by decide +kernel
theorem dX10_about_155 : decode cX10_about 155 = .ok (.goto (-50), 3) := by decide +kernel
theorem dX10_about_158 : decode cX10_about 158 = .ok (.iload_n 2, 1) := by decide +kernel
theorem dX10_about_159 : decode cX10_about 159 = .ok (.ifCond .ne 12, 3) := by decide +kernel
theorem dX10_about_162 : decode cX10_about 162 = .ok (.aload_n 0, 1) := by decide +kernel
theorem dX10_about_163 : decode cX10_about 163 = .ok (.getfield 9, 3) := by decide +kernel
theorem dX10_about_166 : decode cX10_about 166 = .ok (.iload_n 1, 1) := by decide +kernel
theorem dX10_about_167 : decode cX10_about 167 = .ok (.iaload, 1) := by decide +kernel
theorem dX10_about_168 : decode cX10_about 168 = .ok (.goto 43, 3) := by decide +kernel
theorem dX10_about_171 : decode cX10_about 171 = .ok (.iload_n 2, 1) := by decide +kernel
theorem dX10_about_172 : decode cX10_about 172 = .ok (.iconst 1, 1) := by decide +kernel
theorem dX10_about_173 : decode cX10_about 173 = .ok (.if_icmp .ne 12, 3) := by decide +kernel
theorem dX10_about_176 : decode cX10_about 176 = .ok (.aload_n 0, 1) := by decide +kernel
theorem dX10_about_177 : decode cX10_about 177 = .ok (.getfield 13, 3) := by decide +kernel
theorem dX10_about_180 : decode cX10_about 180 = .ok (.iload_n 1, 1) := by decide +kernel
theorem dX10_about_181 : decode cX10_about 181 = .ok (.iaload, 1) := by decide +kernel
theorem dX10_about_182 : decode cX10_about 182 = .ok (.goto 29, 3) := by decide +kernel
theorem dX10_about_185 : decode cX10_about 185 = .ok (.iload_n 2, 1) := by decide +kernel
theorem dX10_about_186 : decode cX10_about 186 = .ok (.iconst 3, 1) := by decide +kernel
theorem dX10_about_187 : decode cX10_about 187 = .ok (.if_icmp .ne 9, 3) := by decide +kernel
theorem dX10_about_190 : decode cX10_about 190 = .ok (.iload_n 3, 1) := by decide +kernel
theorem dX10_about_191 : decode cX10_about 191 = .ok (.iconst 2, 1) := by decide +kernel
theorem dX10_about_192 : decode cX10_about 192 = .ok (.idiv, 1) := by decide +kernel
theorem dX10_about_193 : decode cX10_about 193 = .ok (.goto 18, 3) := by decide +kernel
theorem dX10_about_196 : decode cX10_about 196 = .ok (.iload_n 2, 1) := by decide +kernel
theorem dX10_about_197 : decode cX10_about 197 = .ok (.iconst 4, 1) := by decide +kernel
theorem dX10_about_198 : decode cX10_about 198 = .ok (.if_icmp .ne 12, 3) := by decide +kernel
theorem dX10_about_201 : decode cX10_about 201 = .ok (.iload 4, 2) := by decide +kernel
theorem dX10_about_203 : decode cX10_about 203 = .ok (.i2l, 1) := by decide +kernel
theorem dX10_about_204 : decode cX10_about 204 = .ok (.invokestatic 139, 3) := by decide +kernel
theorem dX10_about_207 : decode cX10_about 207 = .ok (.goto 4, 3) := by decide +kernel
theorem dX10_about_210 : decode cX10_about 210 = .ok (.iconst (-1), 1) := by decide +kernel
theorem dX10_about_211 : decode cX10_about 211 = .ok (.ireturn, 1) := by decide +kernel
theorem dX10_power_0 : decode cX10_power 0 = .ok (.iconst 1, 1) := by decide +kernel
theorem dX10_power_1 : decode cX10_power 1 = .ok (.istore_n 2, 1) := by decide +kernel
theorem dX10_power_2 : decode cX10_power 2 = .ok (.iconst 0, 1) := by decide +kernel
theorem dX10_power_3 : decode cX10_power 3 = .ok (.istore_n 3, 1) := by decide +kernel
theorem dX10_power_4 : decode cX10_power 4 = .ok (.iload_n 3, 1) := by decide +kernel
theorem dX10_power_5 : decode cX10_power 5 = .ok (.iload_n 1, 1) := by decide +kernel
theorem dX10_power_6 : decode cX10_power 6 = .ok (.if_icmp .ge 13, 3) := by decide +kernel
theorem dX10_power_9 : decode cX10_power 9 = .ok (.iload_n 2, 1) := by decide +kernel
theorem dX10_power_10 : decode cX10_power 10 = .ok (.iload_n 0, 1) := by decide +kernel
theorem dX10_power_11 : decode cX10_power 11 = .ok (.imul, 1) := by decide +kernel
theorem dX10_power_12 : decode cX10_power 12 = .ok (.istore_n 2, 1) := by decide +kernel
theorem dX10_power_13 : decode cX10_power 13 = .ok (.iinc 3 1, 3) := by decide +kernel
theorem dX10_power_16 : decode cX10_power 16 = .ok (.goto (-12), 3) := by decide +kernel
theorem dX10_power_19 : decode cX10_power 19 = .ok (.iload_n 2, 1) := by decide +kernel
theorem dX10_power_20 : decode cX10_power 20 = .ok (.ireturn, 1) := by decide +kernel
theorem dX10_areTaken_0 : decode cX10_areTaken 0 = .ok (.iload_n 3, 1) := by decide +kernel
theorem dX10_areTaken_1 : decode cX10_areTaken 1 = .ok (.istore 5, 2) := by decide +kernel
theorem dX10_areTaken_3 : decode cX10_areTaken 3 = .ok (.iload 4, 2) := by decide +kernel
theorem dX10_areTaken_5 : decode cX10_areTaken 5 = .ok (.istore 6, 2) := by decide +kernel
theorem dX10_areTaken_7 : decode cX10_areTaken 7 = .ok (.iconst 0, 1) := by decide +kernel
theorem dX10_areTaken_8 : decode cX10_areTaken 8 = .ok (.istore 7, 2) := by decide +kernel
theorem dX10_areTaken_10 : decode cX10_areTaken 10 = .ok (.iload 7, 2) := by decide +kernel
theorem dX10_areTaken_12 : decode cX10_areTaken 12 = .ok (.iload_n 2, 1) := by decide +kernel
theorem dX10_areTaken_13 : decode cX10_areTaken 13 = .ok (.if_icmp .ge 59, 3) := by decide +kernel
theorem dX10_areTaken_16 : decode cX10_areTaken 16 = .ok (.aload_n 0, 1) := by decide +kernel
theorem dX10_areTaken_17 : decode cX10_areTaken 17 = .ok (.iload_n 1, 1) := by decide +kernel
theorem dX10_areTaken_18 : decode cX10_areTaken 18 = .ok (.iload 5, 2) := by decide +kernel
theorem dX10_areTaken_20 : decode cX10_areTaken 20 = .ok (.aload_n 0, 1) := by decide +kernel
theorem dX10_areTaken_21 : decode cX10_areTaken 21 = .ok (.getfield 9, 3) := by decide +kernel
theorem dX10_areTaken_24 : decode cX10_areTaken 24 = .ok (.iload_n 1, 1) := by decide +kernel
theorem dX10_areTaken_25 : decode cX10_areTaken 25 = .ok (.iaload, 1) := by decide +kernel
theorem dX10_areTaken_26 : decode cX10_areTaken 26 = .ok (.irem, 1) := by decide +kernel
theorem dX10_areTaken_27 : decode cX10_areTaken 27 = .ok (.iload 6, 2) := by decide +kernel
theorem dX10_areTaken_29 : decode cX10_areTaken 29 = .ok (.aload_n 0, 1) := by decide +kernel
theorem dX10_areTaken_30 : decode cX10_areTaken 30 = .ok (.getfield 9, 3) := by decide +kernel
theorem dX10_areTaken_33 : decode cX10_areTaken 33 = .ok (.iload_n 1, 1) := by decide +kernel
theorem dX10_areTaken_34 : decode cX10_areTaken 34 = .ok (.iaload, 1) := by decide +kernel
theorem dX10_areTaken_35 : decode cX10_areTaken 35 = .ok (.irem, 1) := by decide +kernel
theorem dX10_areTaken_36 : decode cX10_areTaken 36 = .ok (.invokevirtual 125, 3) := by decide +kernel
theorem dX10_areTaken_39 : decode cX10_areTaken 39 = .ok (.ifCond .ne 5, 3) := by decide +kernel
theorem dX10_areTaken_42 : decode cX10_areTaken 42 = .ok (.iconst 0, 1) := by decide +kernel
theorem dX10_areTaken_43 : decode cX10_areTaken 43 = .ok (.ireturn, 1) := by decide +kernel
theorem dX10_areTaken_44 : decode cX10_areTaken 44 = .ok (.iload 5, 2) := by decide +kernel
theorem dX10_areTaken_46 : decode cX10_areTaken 46 = .ok (.aload_n 0, 1) := by decide +kernel
theorem dX10_areTaken_47 : decode cX10_areTaken 47 = .ok (.getfield 9, 3) := by decide +kernel
theorem dX10_areTaken_50 : decode cX10_areTaken 50 = .ok (.iload_n 1, 1) := by decide +kernel
theorem dX10_areTaken_51 : decode cX10_areTaken 51 = .ok (.iaload, 1) := by decide +kernel
theorem dX10_areTaken_52 : decode cX10_areTaken 52 = .ok (.idiv, 1) := by decide +kernel
theorem dX10_areTaken_53 : decode cX10_areTaken 53 = .ok (.istore 5, 2) := by decide +kernel
theorem dX10_areTaken_55 : decode cX10_areTaken 55 = .ok (.iload 6, 2) := by decide +kernel
theorem dX10_areTaken_57 : decode cX10_areTaken 57 = .ok (.aload_n 0, 1) := by decide +kernel
theorem dX10_areTaken_58 : decode cX10_areTaken 58 = .ok (.getfield 9, 3) := by decide +kernel
theorem dX10_areTaken_61 : decode cX10_areTaken 61 = .ok (.iload_n 1, 1) := by decide +kernel
theorem dX10_areTaken_62 : decode cX10_areTaken 62 = .ok (.iaload, 1) := by decide +kernel
theorem dX10_areTaken_63 : decode cX10_areTaken 63 = .ok (.idiv, 1) := by decide +kernel
theorem dX10_areTaken_64 : decode cX10_areTaken 64 = .ok (.istore 6, 2) := by decide +kernel
theorem dX10_areTaken_66 : decode cX10_areTaken 66 = .ok (.iinc 7 1, 3) := by decide +kernel
theorem dX10_areTaken_69 : decode cX10_areTaken 69 = .ok (.goto (-59), 3) := by decide +kernel
theorem dX10_areTaken_72 : decode cX10_areTaken 72 = .ok (.iconst 1, 1) := by decide +kernel
theorem dX10_areTaken_73 : decode cX10_areTaken 73 = .ok (.ireturn, 1) := by decide +kernel
theorem dX10_taken_0 : decode cX10_taken 0 = .ok (.iload_n 1, 1) := by decide +kernel
theorem dX10_taken_1 : decode cX10_taken 1 = .ok (.invokestatic 85, 3) := by decide +kernel
theorem dX10_taken_4 : decode cX10_taken 4 = .ok (.ifCond .eq 21, 3) := by decide +kernel
theorem dX10_taken_7 : decode cX10_taken 7 = .ok (.iload_n 2, 1) := by decide +kernel
theorem dX10_taken_8 : decode cX10_taken 8 = .ok (.i2l, 1) := by decide +kernel
theorem dX10_taken_9 : decode cX10_taken 9 = .ok (.lconst 1, 1) := by decide +kernel
theorem dX10_taken_10 : decode cX10_taken 10 = .ok (.ldc2_w 143, 3) := by decide +kernel
theorem dX10_taken_13 : decode cX10_taken 13 = .ok (.invokestatic 81, 3) := by decide +kernel
theorem dX10_taken_16 : decode cX10_taken 16 = .ok (.ifCond .eq 9, 3) := by decide +kernel
theorem dX10_taken_19 : decode cX10_taken 19 = .ok (.iload_n 3, 1) := by decide +kernel
theorem dX10_taken_20 : decode cX10_taken 20 = .ok (.iload 4, 2) := by decide +kernel
theorem dX10_taken_22 : decode cX10_taken 22 = .ok (.if_icmp .ne 6, 3) := by decide +kernel
theorem dX10_taken_25 : decode cX10_taken 25 = .ok (.bipush (-2), 2) := by decide +kernel
theorem dX10_taken_27 : decode cX10_taken 27 = .ok (.ireturn, 1) := by decide +kernel
theorem dX10_taken_28 : decode cX10_taken 28 = .ok (.aload_n 0, 1) := by decide +kernel
theorem dX10_taken_29 : decode cX10_taken 29 = .ok (.getfield 9, 3) := by decide +kernel
theorem dX10_taken_32 : decode cX10_taken 32 = .ok (.iload_n 1, 1) := by decide +kernel
theorem dX10_taken_33 : decode cX10_taken 33 = .ok (.iaload, 1) := by decide +kernel
theorem dX10_taken_34 : decode cX10_taken 34 = .ok (.iload_n 2, 1) := by decide +kernel
theorem dX10_taken_35 : decode cX10_taken 35 = .ok (.invokestatic 145, 3) := by decide +kernel
theorem dX10_taken_38 : decode cX10_taken 38 = .ok (.istore 5, 2) := by decide +kernel
theorem dX10_taken_40 : decode cX10_taken 40 = .ok (.iload_n 3, 1) := by decide +kernel
theorem dX10_taken_41 : decode cX10_taken 41 = .ok (.i2l, 1) := by decide +kernel
theorem dX10_taken_42 : decode cX10_taken 42 = .ok (.lconst 0, 1) := by decide +kernel
theorem dX10_taken_43 : decode cX10_taken 43 = .ok (.iload 5, 2) := by decide +kernel
theorem dX10_taken_45 : decode cX10_taken 45 = .ok (.i2l, 1) := by decide +kernel
theorem dX10_taken_46 : decode cX10_taken 46 = .ok (.lconst 1, 1) := by decide +kernel
theorem dX10_taken_47 : decode cX10_taken 47 = .ok (.lsub, 1) := by decide +kernel
theorem dX10_taken_48 : decode cX10_taken 48 = .ok (.invokestatic 81, 3) := by decide +kernel
theorem dX10_taken_51 : decode cX10_taken 51 = .ok (.ifCond .eq 18, 3) := by decide +kernel
theorem dX10_taken_54 : decode cX10_taken 54 = .ok (.iload 4, 2) := by decide +kernel
theorem dX10_taken_56 : decode cX10_taken 56 = .ok (.i2l, 1) := by decide +kernel
theorem dX10_taken_57 : decode cX10_taken 57 = .ok (.lconst 0, 1) := by decide +kernel
theorem dX10_taken_58 : decode cX10_taken 58 = .ok (.iload 5, 2) := by decide +kernel
theorem dX10_taken_60 : decode cX10_taken 60 = .ok (.i2l, 1) := by decide +kernel
theorem dX10_taken_61 : decode cX10_taken 61 = .ok (.lconst 1, 1) := by decide +kernel
theorem dX10_taken_62 : decode cX10_taken 62 = .ok (.lsub, 1) := by decide +kernel
theorem dX10_taken_63 : decode cX10_taken 63 = .ok (.invokestatic 81, 3) := by decide +kernel
theorem dX10_taken_66 : decode cX10_taken 66 = .ok (.ifCond .ne 8, 3) := by decide +kernel
theorem dX10_taken_69 : decode cX10_taken 69 = .ok (.bipush (-2), 2) := by decide +kernel
theorem dX10_taken_71 : decode cX10_taken 71 = .ok (.goto 20, 3) := by decide +kernel
theorem dX10_taken_74 : decode cX10_taken 74 = .ok (.aload_n 0, 1) := by decide +kernel
theorem dX10_taken_75 : decode cX10_taken 75 = .ok (.iload_n 1, 1) := by decide +kernel
theorem dX10_taken_76 : decode cX10_taken 76 = .ok (.iload_n 2, 1) := by decide +kernel
theorem dX10_taken_77 : decode cX10_taken 77 = .ok (.iload_n 3, 1) := by decide +kernel
theorem dX10_taken_78 : decode cX10_taken 78 = .ok (.iload 4, 2) := by decide +kernel
theorem dX10_taken_80 : decode cX10_taken 80 = .ok (.invokevirtual 148, 3) := by decide +kernel
theorem dX10_taken_83 : decode cX10_taken 83 = .ok (.ifCond .eq 7, 3) := by decide +kernel
theorem dX10_taken_86 : decode cX10_taken 86 = .ok (.iconst 1, 1) := by decide +kernel
theorem dX10_taken_87 : decode cX10_taken 87 = .ok (.goto 4, 3) := by decide +kernel
theorem dX10_taken_90 : decode cX10_taken 90 = .ok (.iconst 0, 1) := by decide +kernel
theorem dX10_taken_91 : decode cX10_taken 91 = .ok (.ireturn, 1) := by decide +kernel
theorem dX10_spell_0 : decode cX10_spell 0 = .ok (.lconst 1, 1) := by decide +kernel
theorem dX10_spell_1 : decode cX10_spell 1 = .ok (.lstore 4, 2) := by decide +kernel
theorem dX10_spell_3 : decode cX10_spell 3 = .ok (.iconst 0, 1) := by decide +kernel
theorem dX10_spell_4 : decode cX10_spell 4 = .ok (.istore 6, 2) := by decide +kernel
theorem dX10_spell_6 : decode cX10_spell 6 = .ok (.iload 6, 2) := by decide +kernel
theorem dX10_spell_8 : decode cX10_spell 8 = .ok (.iload_n 2, 1) := by decide +kernel
theorem dX10_spell_9 : decode cX10_spell 9 = .ok (.if_icmp .ge 29, 3) := by decide +kernel
theorem dX10_spell_12 : decode cX10_spell 12 = .ok (.lload 4, 2) := by decide +kernel
theorem dX10_spell_14 : decode cX10_spell 14 = .ok (.iload_n 3, 1) := by decide +kernel
theorem dX10_spell_15 : decode cX10_spell 15 = .ok (.i2l, 1) := by decide +kernel
theorem dX10_spell_16 : decode cX10_spell 16 = .ok (.lcmp, 1) := by decide +kernel
theorem dX10_spell_17 : decode cX10_spell 17 = .ok (.ifCond .gt 21, 3) := by decide +kernel
theorem dX10_spell_20 : decode cX10_spell 20 = .ok (.lload 4, 2) := by decide +kernel
theorem dX10_spell_22 : decode cX10_spell 22 = .ok (.aload_n 0, 1) := by decide +kernel
theorem dX10_spell_23 : decode cX10_spell 23 = .ok (.getfield 9, 3) := by decide +kernel
theorem dX10_spell_26 : decode cX10_spell 26 = .ok (.iload_n 1, 1) := by decide +kernel
theorem dX10_spell_27 : decode cX10_spell 27 = .ok (.iaload, 1) := by decide +kernel
theorem dX10_spell_28 : decode cX10_spell 28 = .ok (.i2l, 1) := by decide +kernel
theorem dX10_spell_29 : decode cX10_spell 29 = .ok (.lmul, 1) := by decide +kernel
theorem dX10_spell_30 : decode cX10_spell 30 = .ok (.lstore 4, 2) := by decide +kernel
theorem dX10_spell_32 : decode cX10_spell 32 = .ok (.iinc 6 1, 3) := by decide +kernel
theorem dX10_spell_35 : decode cX10_spell 35 = .ok (.goto (-29), 3) := by decide +kernel
theorem dX10_spell_38 : decode cX10_spell 38 = .ok (.lload 4, 2) := by decide +kernel
theorem dX10_spell_40 : decode cX10_spell 40 = .ok (.iload_n 3, 1) := by decide +kernel
theorem dX10_spell_41 : decode cX10_spell 41 = .ok (.i2l, 1) := by decide +kernel
theorem dX10_spell_42 : decode cX10_spell 42 = .ok (.lcmp, 1) := by decide +kernel
theorem dX10_spell_43 : decode cX10_spell 43 = .ok (.ifCond .le 5, 3) := by decide +kernel
theorem dX10_spell_46 : decode cX10_spell 46 = .ok (.iconst 0, 1) := by decide +kernel
theorem dX10_spell_47 : decode cX10_spell 47 = .ok (.ireturn, 1) := by decide +kernel
theorem dX10_spell_48 : decode cX10_spell 48 = .ok (.aload_n 0, 1) := by decide +kernel
theorem dX10_spell_49 : decode cX10_spell 49 = .ok (.lload 4, 2) := by decide +kernel
theorem dX10_spell_51 : decode cX10_spell 51 = .ok (.l2i, 1) := by decide +kernel
theorem dX10_spell_52 : decode cX10_spell 52 = .ok (.putfield 152, 3) := by decide +kernel
theorem dX10_spell_55 : decode cX10_spell 55 = .ok (.iconst 0, 1) := by decide +kernel
theorem dX10_spell_56 : decode cX10_spell 56 = .ok (.istore 6, 2) := by decide +kernel
theorem dX10_spell_58 : decode cX10_spell 58 = .ok (.iload 6, 2) := by decide +kernel
theorem dX10_spell_60 : decode cX10_spell 60 = .ok (.aload_n 0, 1) := by decide +kernel
theorem dX10_spell_61 : decode cX10_spell 61 = .ok (.getfield 152, 3) := by decide +kernel
theorem dX10_spell_64 : decode cX10_spell 64 = .ok (.if_icmp .ge 69, 3) := by decide +kernel
theorem dX10_spell_67 : decode cX10_spell 67 = .ok (.aload_n 0, 1) := by decide +kernel
theorem dX10_spell_68 : decode cX10_spell 68 = .ok (.getfield 42, 3) := by decide +kernel
theorem dX10_spell_71 : decode cX10_spell 71 = .ok (.iload 6, 2) := by decide +kernel
theorem dX10_spell_73 : decode cX10_spell 73 = .ok (.lconst 0, 1) := by decide +kernel
theorem dX10_spell_74 : decode cX10_spell 74 = .ok (.lastore, 1) := by decide +kernel
theorem dX10_spell_75 : decode cX10_spell 75 = .ok (.iconst 0, 1) := by decide +kernel
theorem dX10_spell_76 : decode cX10_spell 76 = .ok (.istore 7, 2) := by decide +kernel
theorem dX10_spell_78 : decode cX10_spell 78 = .ok (.iload 7, 2) := by decide +kernel
theorem dX10_spell_80 : decode cX10_spell 80 = .ok (.aload_n 0, 1) := by decide +kernel
theorem dX10_spell_81 : decode cX10_spell 81 = .ok (.getfield 152, 3) := by decide +kernel
theorem dX10_spell_84 : decode cX10_spell 84 = .ok (.if_icmp .ge 43, 3) := by decide +kernel
theorem dX10_spell_87 : decode cX10_spell 87 = .ok (.iload 6, 2) := by decide +kernel
theorem dX10_spell_89 : decode cX10_spell 89 = .ok (.iload 7, 2) := by decide +kernel
theorem dX10_spell_91 : decode cX10_spell 91 = .ok (.if_icmp .eq 30, 3) := by decide +kernel
theorem dX10_spell_94 : decode cX10_spell 94 = .ok (.aload_n 0, 1) := by decide +kernel
theorem dX10_spell_95 : decode cX10_spell 95 = .ok (.iload_n 1, 1) := by decide +kernel
theorem dX10_spell_96 : decode cX10_spell 96 = .ok (.iload_n 2, 1) := by decide +kernel
theorem dX10_spell_97 : decode cX10_spell 97 = .ok (.iload 6, 2) := by decide +kernel
theorem dX10_spell_99 : decode cX10_spell 99 = .ok (.iload 7, 2) := by decide +kernel
theorem dX10_spell_101 : decode cX10_spell 101 = .ok (.invokevirtual 148, 3) := by decide +kernel
theorem dX10_spell_104 : decode cX10_spell 104 = .ok (.ifCond .eq 17, 3) := by decide +kernel
theorem dX10_spell_107 : decode cX10_spell 107 = .ok (.aload_n 0, 1) := by decide +kernel
theorem dX10_spell_108 : decode cX10_spell 108 = .ok (.getfield 42, 3) := by decide +kernel
theorem dX10_spell_111 : decode cX10_spell 111 = .ok (.iload 6, 2) := by decide +kernel
theorem dX10_spell_113 : decode cX10_spell 113 = .ok (.dup2, 1) := by decide +kernel
theorem dX10_spell_114 : decode cX10_spell 114 = .ok (.laload, 1) := by decide +kernel
theorem dX10_spell_115 : decode cX10_spell 115 = .ok (.lconst 1, 1) := by decide +kernel
theorem dX10_spell_116 : decode cX10_spell 116 = .ok (.iload 7, 2) := by decide +kernel
theorem dX10_spell_118 : decode cX10_spell 118 = .ok (.lshl, 1) := by decide +kernel
theorem dX10_spell_119 : decode cX10_spell 119 = .ok (.lor, 1) := by decide +kernel
theorem dX10_spell_120 : decode cX10_spell 120 = .ok (.lastore, 1) := by decide +kernel
theorem dX10_spell_121 : decode cX10_spell 121 = .ok (.iinc 7 1, 3) := by decide +kernel
theorem dX10_spell_124 : decode cX10_spell 124 = .ok (.goto (-46), 3) := by decide +kernel
theorem dX10_spell_127 : decode cX10_spell 127 = .ok (.iinc 6 1, 3) := by decide +kernel
theorem dX10_spell_130 : decode cX10_spell 130 = .ok (.goto (-72), 3) := by decide +kernel
theorem dX10_spell_133 : decode cX10_spell 133 = .ok (.iconst 1, 1) := by decide +kernel
theorem dX10_spell_134 : decode cX10_spell 134 = .ok (.ireturn, 1) := by decide +kernel
theorem dX10_all_0 : decode cX10_all 0 = .ok (.aload_n 0, 1) := by decide +kernel
theorem dX10_all_1 : decode cX10_all 1 = .ok (.getfield 152, 3) := by decide +kernel
theorem dX10_all_4 : decode cX10_all 4 = .ok (.bipush 64, 2) := by decide +kernel
theorem dX10_all_6 : decode cX10_all 6 = .ok (.if_icmp .ne 9, 3) := by decide +kernel
theorem dX10_all_9 : decode cX10_all 9 = .ok (.ldc2_w 155, 3) := by decide +kernel
theorem dX10_all_12 : decode cX10_all 12 = .ok (.goto 11, 3) := by decide +kernel
theorem dX10_all_15 : decode cX10_all 15 = .ok (.lconst 1, 1) := by decide +kernel
theorem dX10_all_16 : decode cX10_all 16 = .ok (.aload_n 0, 1) := by decide +kernel
theorem dX10_all_17 : decode cX10_all 17 = .ok (.getfield 152, 3) := by decide +kernel
theorem dX10_all_20 : decode cX10_all 20 = .ok (.lshl, 1) := by decide +kernel
theorem dX10_all_21 : decode cX10_all 21 = .ok (.lconst 1, 1) := by decide +kernel
theorem dX10_all_22 : decode cX10_all 22 = .ok (.lsub, 1) := by decide +kernel
theorem dX10_all_23 : decode cX10_all 23 = .ok (.lreturn, 1) := by decide +kernel
theorem dX10_lowest_0 : decode cX10_lowest 0 = .ok (.lload_n 0, 1) := by decide +kernel
theorem dX10_lowest_1 : decode cX10_lowest 1 = .ok (.lstore_n 2, 1) := by decide +kernel
theorem dX10_lowest_2 : decode cX10_lowest 2 = .ok (.iconst 0, 1) := by decide +kernel
theorem dX10_lowest_3 : decode cX10_lowest 3 = .ok (.istore 4, 2) := by decide +kernel
theorem dX10_lowest_5 : decode cX10_lowest 5 = .ok (.bipush 32, 2) := by decide +kernel
theorem dX10_lowest_7 : decode cX10_lowest 7 = .ok (.istore 5, 2) := by decide +kernel
theorem dX10_lowest_9 : decode cX10_lowest 9 = .ok (.iload 5, 2) := by decide +kernel
theorem dX10_lowest_11 : decode cX10_lowest 11 = .ok (.ifCond .le 40, 3) := by decide +kernel
theorem dX10_lowest_14 : decode cX10_lowest 14 = .ok (.lload_n 2, 1) := by decide +kernel
theorem dX10_lowest_15 : decode cX10_lowest 15 = .ok (.lconst 1, 1) := by decide +kernel
theorem dX10_lowest_16 : decode cX10_lowest 16 = .ok (.iload 5, 2) := by decide +kernel
theorem dX10_lowest_18 : decode cX10_lowest 18 = .ok (.lshl, 1) := by decide +kernel
theorem dX10_lowest_19 : decode cX10_lowest 19 = .ok (.lconst 1, 1) := by decide +kernel
theorem dX10_lowest_20 : decode cX10_lowest 20 = .ok (.lsub, 1) := by decide +kernel
theorem dX10_lowest_21 : decode cX10_lowest 21 = .ok (.land, 1) := by decide +kernel
theorem dX10_lowest_22 : decode cX10_lowest 22 = .ok (.lconst 0, 1) := by decide +kernel
theorem dX10_lowest_23 : decode cX10_lowest 23 = .ok (.lcmp, 1) := by decide +kernel
theorem dX10_lowest_24 : decode cX10_lowest 24 = .ok (.ifCond .eq 6, 3) := by decide +kernel
theorem dX10_lowest_27 : decode cX10_lowest 27 = .ok (.goto 15, 3) := by decide +kernel
theorem dX10_lowest_30 : decode cX10_lowest 30 = .ok (.lload_n 2, 1) := by decide +kernel
theorem dX10_lowest_31 : decode cX10_lowest 31 = .ok (.iload 5, 2) := by decide +kernel
theorem dX10_lowest_33 : decode cX10_lowest 33 = .ok (.lushr, 1) := by decide +kernel
theorem dX10_lowest_34 : decode cX10_lowest 34 = .ok (.lstore_n 2, 1) := by decide +kernel
theorem dX10_lowest_35 : decode cX10_lowest 35 = .ok (.iload 4, 2) := by decide +kernel
theorem dX10_lowest_37 : decode cX10_lowest 37 = .ok (.iload 5, 2) := by decide +kernel
theorem dX10_lowest_39 : decode cX10_lowest 39 = .ok (.iadd, 1) := by decide +kernel
theorem dX10_lowest_40 : decode cX10_lowest 40 = .ok (.istore 4, 2) := by decide +kernel
theorem dX10_lowest_42 : decode cX10_lowest 42 = .ok (.iload 5, 2) := by decide +kernel
theorem dX10_lowest_44 : decode cX10_lowest 44 = .ok (.iconst 1, 1) := by decide +kernel
theorem dX10_lowest_45 : decode cX10_lowest 45 = .ok (.ishr, 1) := by decide +kernel
theorem dX10_lowest_46 : decode cX10_lowest 46 = .ok (.istore 5, 2) := by decide +kernel
theorem dX10_lowest_48 : decode cX10_lowest 48 = .ok (.goto (-39), 3) := by decide +kernel
theorem dX10_lowest_51 : decode cX10_lowest 51 = .ok (.iload 4, 2) := by decide +kernel
theorem dX10_lowest_53 : decode cX10_lowest 53 = .ok (.ireturn, 1) := by decide +kernel
theorem dX10_cover_0 : decode cX10_cover 0 = .ok (.iconst 0, 1) := by decide +kernel
theorem dX10_cover_1 : decode cX10_cover 1 = .ok (.istore 4, 2) := by decide +kernel
theorem dX10_cover_3 : decode cX10_cover 3 = .ok (.lload_n 1, 1) := by decide +kernel
theorem dX10_cover_4 : decode cX10_cover 4 = .ok (.lstore 5, 2) := by decide +kernel
theorem dX10_cover_6 : decode cX10_cover 6 = .ok (.lload 5, 2) := by decide +kernel
theorem dX10_cover_8 : decode cX10_cover 8 = .ok (.lconst 0, 1) := by decide +kernel
theorem dX10_cover_9 : decode cX10_cover 9 = .ok (.lcmp, 1) := by decide +kernel
theorem dX10_cover_10 : decode cX10_cover 10 = .ok (.ifCond .eq 61, 3) := by decide +kernel
theorem dX10_cover_13 : decode cX10_cover 13 = .ok (.iload 4, 2) := by decide +kernel
theorem dX10_cover_15 : decode cX10_cover 15 = .ok (.iload_n 3, 1) := by decide +kernel
theorem dX10_cover_16 : decode cX10_cover 16 = .ok (.if_icmp .ge 55, 3) := by decide +kernel
theorem dX10_cover_19 : decode cX10_cover 19 = .ok (.lload 5, 2) := by decide +kernel
theorem dX10_cover_21 : decode cX10_cover 21 = .ok (.lstore 7, 2) := by decide +kernel
theorem dX10_cover_23 : decode cX10_cover 23 = .ok (.lload 7, 2) := by decide +kernel
theorem dX10_cover_25 : decode cX10_cover 25 = .ok (.lconst 0, 1) := by decide +kernel
theorem dX10_cover_26 : decode cX10_cover 26 = .ok (.lcmp, 1) := by decide +kernel
theorem dX10_cover_27 : decode cX10_cover 27 = .ok (.ifCond .eq 38, 3) := by decide +kernel
theorem dX10_cover_30 : decode cX10_cover 30 = .ok (.lload 7, 2) := by decide +kernel
theorem dX10_cover_32 : decode cX10_cover 32 = .ok (.invokestatic 157, 3) := by decide +kernel
theorem dX10_cover_35 : decode cX10_cover 35 = .ok (.istore 9, 2) := by decide +kernel
theorem dX10_cover_37 : decode cX10_cover 37 = .ok (.lload 5, 2) := by decide +kernel
theorem dX10_cover_39 : decode cX10_cover 39 = .ok (.lconst 1, 1) := by decide +kernel
theorem dX10_cover_40 : decode cX10_cover 40 = .ok (.iload 9, 2) := by decide +kernel
theorem dX10_cover_42 : decode cX10_cover 42 = .ok (.lshl, 1) := by decide +kernel
theorem dX10_cover_43 : decode cX10_cover 43 = .ok (.ldc2_w 155, 3) := by decide +kernel
theorem dX10_cover_46 : decode cX10_cover 46 = .ok (.lxor, 1) := by decide +kernel
theorem dX10_cover_47 : decode cX10_cover 47 = .ok (.land, 1) := by decide +kernel
theorem dX10_cover_48 : decode cX10_cover 48 = .ok (.lstore 5, 2) := by decide +kernel
theorem dX10_cover_50 : decode cX10_cover 50 = .ok (.lload 7, 2) := by decide +kernel
theorem dX10_cover_52 : decode cX10_cover 52 = .ok (.aload_n 0, 1) := by decide +kernel
theorem dX10_cover_53 : decode cX10_cover 53 = .ok (.getfield 42, 3) := by decide +kernel
theorem dX10_cover_56 : decode cX10_cover 56 = .ok (.iload 9, 2) := by decide +kernel
theorem dX10_cover_58 : decode cX10_cover 58 = .ok (.laload, 1) := by decide +kernel
theorem dX10_cover_59 : decode cX10_cover 59 = .ok (.land, 1) := by decide +kernel
theorem dX10_cover_60 : decode cX10_cover 60 = .ok (.lstore 7, 2) := by decide +kernel
theorem dX10_cover_62 : decode cX10_cover 62 = .ok (.goto (-39), 3) := by decide +kernel
theorem dX10_cover_65 : decode cX10_cover 65 = .ok (.iinc 4 1, 3) := by decide +kernel
theorem dX10_cover_68 : decode cX10_cover 68 = .ok (.goto (-62), 3) := by decide +kernel
theorem dX10_cover_71 : decode cX10_cover 71 = .ok (.iload 4, 2) := by decide +kernel
theorem dX10_cover_73 : decode cX10_cover 73 = .ok (.ireturn, 1) := by decide +kernel
theorem dX10_reaches_0 : decode cX10_reaches 0 = .ok (.iload_n 3, 1) := by decide +kernel
theorem dX10_reaches_1 : decode cX10_reaches 1 = .ok (.istore 4, 2) := by decide +kernel
theorem dX10_reaches_3 : decode cX10_reaches 3 = .ok (.lload_n 1, 1) := by decide +kernel
theorem dX10_reaches_4 : decode cX10_reaches 4 = .ok (.lstore 5, 2) := by decide +kernel
theorem dX10_reaches_6 : decode cX10_reaches 6 = .ok (.iload 4, 2) := by decide +kernel
theorem dX10_reaches_8 : decode cX10_reaches 8 = .ok (.ifCond .le 189, 3) := by decide +kernel
theorem dX10_reaches_11 : decode cX10_reaches 11 = .ok (.lload 5, 2) := by decide +kernel
theorem dX10_reaches_13 : decode cX10_reaches 13 = .ok (.invokestatic 139, 3) := by decide +kernel
theorem dX10_reaches_16 : decode cX10_reaches 16 = .ok (.iload 4, 2) := by decide +kernel
theorem dX10_reaches_18 : decode cX10_reaches 18 = .ok (.if_icmp .ge 5, 3) := by decide +kernel
theorem dX10_reaches_21 : decode cX10_reaches 21 = .ok (.iconst 0, 1) := by decide +kernel
theorem dX10_reaches_22 : decode cX10_reaches 22 = .ok (.ireturn, 1) := by decide +kernel
theorem dX10_reaches_23 : decode cX10_reaches 23 = .ok (.iconst (-1), 1) := by decide +kernel
theorem dX10_reaches_24 : decode cX10_reaches 24 = .ok (.istore 7, 2) := by decide +kernel
theorem dX10_reaches_26 : decode cX10_reaches 26 = .ok (.iconst (-1), 1) := by decide +kernel
theorem dX10_reaches_27 : decode cX10_reaches 27 = .ok (.istore 8, 2) := by decide +kernel
theorem dX10_reaches_29 : decode cX10_reaches 29 = .ok (.iconst (-1), 1) := by decide +kernel
theorem dX10_reaches_30 : decode cX10_reaches 30 = .ok (.istore 9, 2) := by decide +kernel
theorem dX10_reaches_32 : decode cX10_reaches 32 = .ok (.lload 5, 2) := by decide +kernel
theorem dX10_reaches_34 : decode cX10_reaches 34 = .ok (.lstore 10, 2) := by decide +kernel
theorem dX10_reaches_36 : decode cX10_reaches 36 = .ok (.lload 10, 2) := by decide +kernel
theorem dX10_reaches_38 : decode cX10_reaches 38 = .ok (.lconst 0, 1) := by decide +kernel
theorem dX10_reaches_39 : decode cX10_reaches 39 = .ok (.lcmp, 1) := by decide +kernel
theorem dX10_reaches_40 : decode cX10_reaches 40 = .ok (.ifCond .eq 68, 3) := by decide +kernel
theorem dX10_reaches_43 : decode cX10_reaches 43 = .ok (.iload 9, 2) := by decide +kernel
theorem dX10_reaches_45 : decode cX10_reaches 45 = .ok (.iconst (-1), 1) := by decide +kernel
theorem dX10_reaches_46 : decode cX10_reaches 46 = .ok (.if_icmp .ne 62, 3) := by decide +kernel
theorem dX10_reaches_49 : decode cX10_reaches 49 = .ok (.lload 10, 2) := by decide +kernel
theorem dX10_reaches_51 : decode cX10_reaches 51 = .ok (.invokestatic 157, 3) := by decide +kernel
theorem dX10_reaches_54 : decode cX10_reaches 54 = .ok (.istore 12, 2) := by decide +kernel
theorem dX10_reaches_56 : decode cX10_reaches 56 = .ok (.aload_n 0, 1) := by decide +kernel
theorem dX10_reaches_57 : decode cX10_reaches 57 = .ok (.getfield 42, 3) := by decide +kernel
theorem dX10_reaches_60 : decode cX10_reaches 60 = .ok (.iload 12, 2) := by decide +kernel
theorem dX10_reaches_62 : decode cX10_reaches 62 = .ok (.laload, 1) := by decide +kernel
theorem dX10_reaches_63 : decode cX10_reaches 63 = .ok (.lload 5, 2) := by decide +kernel
theorem dX10_reaches_65 : decode cX10_reaches 65 = .ok (.land, 1) := by decide +kernel
theorem dX10_reaches_66 : decode cX10_reaches 66 = .ok (.invokestatic 139, 3) := by decide +kernel
theorem dX10_reaches_69 : decode cX10_reaches 69 = .ok (.istore 13, 2) := by decide +kernel
theorem dX10_reaches_71 : decode cX10_reaches 71 = .ok (.iload 13, 2) := by decide +kernel
theorem dX10_reaches_73 : decode cX10_reaches 73 = .ok (.iconst 2, 1) := by decide +kernel
theorem dX10_reaches_74 : decode cX10_reaches 74 = .ok (.if_icmp .ge 7, 3) := by decide +kernel
theorem dX10_reaches_77 : decode cX10_reaches 77 = .ok (.iload 12, 2) := by decide +kernel
theorem dX10_reaches_79 : decode cX10_reaches 79 = .ok (.istore 9, 2) := by decide +kernel
theorem dX10_reaches_81 : decode cX10_reaches 81 = .ok (.iload 13, 2) := by decide +kernel
theorem dX10_reaches_83 : decode cX10_reaches 83 = .ok (.iload 8, 2) := by decide +kernel
theorem dX10_reaches_85 : decode cX10_reaches 85 = .ok (.if_icmp .le 11, 3) := by decide +kernel
theorem dX10_reaches_88 : decode cX10_reaches 88 = .ok (.iload 13, 2) := by decide +kernel
theorem dX10_reaches_90 : decode cX10_reaches 90 = .ok (.istore 8, 2) := by decide +kernel
theorem dX10_reaches_92 : decode cX10_reaches 92 = .ok (.iload 12, 2) := by decide +kernel
theorem dX10_reaches_94 : decode cX10_reaches 94 = .ok (.istore 7, 2) := by decide +kernel
theorem dX10_reaches_96 : decode cX10_reaches 96 = .ok (.lload 10, 2) := by decide +kernel
theorem dX10_reaches_98 : decode cX10_reaches 98 = .ok (.lload 10, 2) := by decide +kernel
theorem dX10_reaches_100 : decode cX10_reaches 100 = .ok (.lconst 1, 1) := by decide +kernel
theorem dX10_reaches_101 : decode cX10_reaches 101 = .ok (.lsub, 1) := by decide +kernel
theorem dX10_reaches_102 : decode cX10_reaches 102 = .ok (.land, 1) := by decide +kernel
theorem dX10_reaches_103 : decode cX10_reaches 103 = .ok (.lstore 10, 2) := by decide +kernel
theorem dX10_reaches_105 : decode cX10_reaches 105 = .ok (.goto (-69), 3) := by decide +kernel
theorem dX10_reaches_108 : decode cX10_reaches 108 = .ok (.iload 9, 2) := by decide +kernel
theorem dX10_reaches_110 : decode cX10_reaches 110 = .ok (.iconst (-1), 1) := by decide +kernel
theorem dX10_reaches_111 : decode cX10_reaches 111 = .ok (.if_icmp .ne 8, 3) := by decide +kernel
theorem dX10_reaches_114 : decode cX10_reaches 114 = .ok (.iload 7, 2) := by decide +kernel
theorem dX10_reaches_116 : decode cX10_reaches 116 = .ok (.goto 5, 3) := by decide +kernel
theorem dX10_reaches_119 : decode cX10_reaches 119 = .ok (.iload 9, 2) := by decide +kernel
theorem dX10_reaches_121 : decode cX10_reaches 121 = .ok (.istore 10, 2) := by decide +kernel
theorem dX10_reaches_123 : decode cX10_reaches 123 = .ok (.iload 9, 2) := by decide +kernel
theorem dX10_reaches_125 : decode cX10_reaches 125 = .ok (.iconst (-1), 1) := by decide +kernel
theorem dX10_reaches_126 : decode cX10_reaches 126 = .ok (.if_icmp .ne 40, 3) := by decide +kernel
theorem dX10_reaches_129 : decode cX10_reaches 129 = .ok (.aload_n 0, 1) := by decide +kernel
theorem dX10_reaches_130 : decode cX10_reaches 130 = .ok (.lload 5, 2) := by decide +kernel
theorem dX10_reaches_132 : decode cX10_reaches 132 = .ok (.iload 4, 2) := by decide +kernel
theorem dX10_reaches_134 : decode cX10_reaches 134 = .ok (.invokevirtual 160, 3) := by decide +kernel
theorem dX10_reaches_137 : decode cX10_reaches 137 = .ok (.iload 4, 2) := by decide +kernel
theorem dX10_reaches_139 : decode cX10_reaches 139 = .ok (.if_icmp .ge 5, 3) := by decide +kernel
theorem dX10_reaches_142 : decode cX10_reaches 142 = .ok (.iconst 0, 1) := by decide +kernel
theorem dX10_reaches_143 : decode cX10_reaches 143 = .ok (.ireturn, 1) := by decide +kernel
theorem dX10_reaches_144 : decode cX10_reaches 144 = .ok (.aload_n 0, 1) := by decide +kernel
theorem dX10_reaches_145 : decode cX10_reaches 145 = .ok (.lload 5, 2) := by decide +kernel
theorem dX10_reaches_147 : decode cX10_reaches 147 = .ok (.lconst 1, 1) := by decide +kernel
theorem dX10_reaches_148 : decode cX10_reaches 148 = .ok (.iload 10, 2) := by decide +kernel
theorem dX10_reaches_150 : decode cX10_reaches 150 = .ok (.lshl, 1) := by decide +kernel
theorem dX10_reaches_151 : decode cX10_reaches 151 = .ok (.ldc2_w 155, 3) := by decide +kernel
theorem dX10_reaches_154 : decode cX10_reaches 154 = .ok (.lxor, 1) := by decide +kernel
theorem dX10_reaches_155 : decode cX10_reaches 155 = .ok (.land, 1) := by decide +kernel
theorem dX10_reaches_156 : decode cX10_reaches 156 = .ok (.iload 4, 2) := by decide +kernel
theorem dX10_reaches_158 : decode cX10_reaches 158 = .ok (.invokevirtual 164, 3) := by decide +kernel
theorem dX10_reaches_161 : decode cX10_reaches 161 = .ok (.ifCond .eq 5, 3) := by decide +kernel
theorem dX10_reaches_164 : decode cX10_reaches 164 = .ok (.iconst 1, 1) := by decide +kernel
theorem dX10_reaches_165 : decode cX10_reaches 165 = .ok (.ireturn, 1) := by decide +kernel
theorem dX10_reaches_166 : decode cX10_reaches 166 = .ok (.iinc 4 (-1), 3) := by decide +kernel
theorem dX10_reaches_169 : decode cX10_reaches 169 = .ok (.lload 5, 2) := by decide +kernel
theorem dX10_reaches_171 : decode cX10_reaches 171 = .ok (.aload_n 0, 1) := by decide +kernel
theorem dX10_reaches_172 : decode cX10_reaches 172 = .ok (.getfield 42, 3) := by decide +kernel
theorem dX10_reaches_175 : decode cX10_reaches 175 = .ok (.iload 10, 2) := by decide +kernel
theorem dX10_reaches_177 : decode cX10_reaches 177 = .ok (.laload, 1) := by decide +kernel
theorem dX10_reaches_178 : decode cX10_reaches 178 = .ok (.ldc2_w 155, 3) := by decide +kernel
theorem dX10_reaches_181 : decode cX10_reaches 181 = .ok (.lxor, 1) := by decide +kernel
theorem dX10_reaches_182 : decode cX10_reaches 182 = .ok (.lconst 1, 1) := by decide +kernel
theorem dX10_reaches_183 : decode cX10_reaches 183 = .ok (.iload 10, 2) := by decide +kernel
theorem dX10_reaches_185 : decode cX10_reaches 185 = .ok (.lshl, 1) := by decide +kernel
theorem dX10_reaches_186 : decode cX10_reaches 186 = .ok (.ldc2_w 155, 3) := by decide +kernel
theorem dX10_reaches_189 : decode cX10_reaches 189 = .ok (.lxor, 1) := by decide +kernel
theorem dX10_reaches_190 : decode cX10_reaches 190 = .ok (.land, 1) := by decide +kernel
theorem dX10_reaches_191 : decode cX10_reaches 191 = .ok (.land, 1) := by decide +kernel
theorem dX10_reaches_192 : decode cX10_reaches 192 = .ok (.lstore 5, 2) := by decide +kernel
theorem dX10_reaches_194 : decode cX10_reaches 194 = .ok (.goto (-188), 3) := by decide +kernel
theorem dX10_reaches_197 : decode cX10_reaches 197 = .ok (.iconst 1, 1) := by decide +kernel
theorem dX10_reaches_198 : decode cX10_reaches 198 = .ok (.ireturn, 1) := by decide +kernel
theorem dX10_largest_0 : decode cX10_largest 0 = .ok (.aload_n 0, 1) := by decide +kernel
theorem dX10_largest_1 : decode cX10_largest 1 = .ok (.lload_n 1, 1) := by decide +kernel
theorem dX10_largest_2 : decode cX10_largest 2 = .ok (.bipush 64, 2) := by decide +kernel
theorem dX10_largest_4 : decode cX10_largest 4 = .ok (.invokevirtual 160, 3) := by decide +kernel
theorem dX10_largest_7 : decode cX10_largest 7 = .ok (.istore_n 3, 1) := by decide +kernel
theorem dX10_largest_8 : decode cX10_largest 8 = .ok (.aload_n 0, 1) := by decide +kernel
theorem dX10_largest_9 : decode cX10_largest 9 = .ok (.lload_n 1, 1) := by decide +kernel
theorem dX10_largest_10 : decode cX10_largest 10 = .ok (.iload_n 3, 1) := by decide +kernel
theorem dX10_largest_11 : decode cX10_largest 11 = .ok (.invokevirtual 164, 3) := by decide +kernel
theorem dX10_largest_14 : decode cX10_largest 14 = .ok (.ifCond .ne 9, 3) := by decide +kernel
theorem dX10_largest_17 : decode cX10_largest 17 = .ok (.iinc 3 (-1), 3) := by decide +kernel
theorem dX10_largest_20 : decode cX10_largest 20 = .ok (.goto (-12), 3) := by decide +kernel
theorem dX10_largest_23 : decode cX10_largest 23 = .ok (.iload_n 3, 1) := by decide +kernel
theorem dX10_largest_24 : decode cX10_largest 24 = .ok (.ireturn, 1) := by decide +kernel
theorem dX10_most_0 : decode cX10_most 0 = .ok (.iload_n 1, 1) := by decide +kernel
theorem dX10_most_1 : decode cX10_most 1 = .ok (.invokestatic 85, 3) := by decide +kernel
theorem dX10_most_4 : decode cX10_most 4 = .ok (.ifCond .eq 15, 3) := by decide +kernel
theorem dX10_most_7 : decode cX10_most 7 = .ok (.iload_n 2, 1) := by decide +kernel
theorem dX10_most_8 : decode cX10_most 8 = .ok (.i2l, 1) := by decide +kernel
theorem dX10_most_9 : decode cX10_most 9 = .ok (.lconst 1, 1) := by decide +kernel
theorem dX10_most_10 : decode cX10_most 10 = .ok (.ldc2_w 143, 3) := by decide +kernel
theorem dX10_most_13 : decode cX10_most 13 = .ok (.invokestatic 81, 3) := by decide +kernel
theorem dX10_most_16 : decode cX10_most 16 = .ok (.ifCond .ne 6, 3) := by decide +kernel
theorem dX10_most_19 : decode cX10_most 19 = .ok (.bipush (-2), 2) := by decide +kernel
theorem dX10_most_21 : decode cX10_most 21 = .ok (.ireturn, 1) := by decide +kernel
theorem dX10_most_22 : decode cX10_most 22 = .ok (.aload_n 0, 1) := by decide +kernel
theorem dX10_most_23 : decode cX10_most 23 = .ok (.iload_n 1, 1) := by decide +kernel
theorem dX10_most_24 : decode cX10_most 24 = .ok (.iload_n 2, 1) := by decide +kernel
theorem dX10_most_25 : decode cX10_most 25 = .ok (.bipush 64, 2) := by decide +kernel
theorem dX10_most_27 : decode cX10_most 27 = .ok (.invokevirtual 168, 3) := by decide +kernel
theorem dX10_most_30 : decode cX10_most 30 = .ok (.ifCond .ne 6, 3) := by decide +kernel
theorem dX10_most_33 : decode cX10_most 33 = .ok (.bipush (-3), 2) := by decide +kernel
theorem dX10_most_35 : decode cX10_most 35 = .ok (.ireturn, 1) := by decide +kernel
theorem dX10_most_36 : decode cX10_most 36 = .ok (.aload_n 0, 1) := by decide +kernel
theorem dX10_most_37 : decode cX10_most 37 = .ok (.invokevirtual 171, 3) := by decide +kernel
theorem dX10_most_40 : decode cX10_most 40 = .ok (.lstore_n 3, 1) := by decide +kernel
theorem dX10_most_41 : decode cX10_most 41 = .ok (.aload_n 0, 1) := by decide +kernel
theorem dX10_most_42 : decode cX10_most 42 = .ok (.lload_n 3, 1) := by decide +kernel
theorem dX10_most_43 : decode cX10_most 43 = .ok (.invokevirtual 175, 3) := by decide +kernel
theorem dX10_most_46 : decode cX10_most 46 = .ok (.istore 5, 2) := by decide +kernel
theorem dX10_most_48 : decode cX10_most 48 = .ok (.aload_n 0, 1) := by decide +kernel
theorem dX10_most_49 : decode cX10_most 49 = .ok (.iconst 0, 1) := by decide +kernel
theorem dX10_most_50 : decode cX10_most 50 = .ok (.putfield 49, 3) := by decide +kernel
theorem dX10_most_53 : decode cX10_most 53 = .ok (.iconst 0, 1) := by decide +kernel
theorem dX10_most_54 : decode cX10_most 54 = .ok (.istore 6, 2) := by decide +kernel
theorem dX10_most_56 : decode cX10_most 56 = .ok (.iload 6, 2) := by decide +kernel
theorem dX10_most_58 : decode cX10_most 58 = .ok (.aload_n 0, 1) := by decide +kernel
theorem dX10_most_59 : decode cX10_most 59 = .ok (.getfield 152, 3) := by decide +kernel
theorem dX10_most_62 : decode cX10_most 62 = .ok (.if_icmp .ge 106, 3) := by decide +kernel
theorem dX10_most_65 : decode cX10_most 65 = .ok (.iload 5, 2) := by decide +kernel
end
section
theorem dX10_most_67 : decode cX10_most 67 = .ok (.ifCond .le 101, 3) := by decide +kernel
theorem dX10_most_70 : decode cX10_most 70 = .ok (.lload_n 3, 1) := by decide +kernel
theorem dX10_most_71 : decode cX10_most 71 = .ok (.iload 6, 2) := by decide +kernel
theorem dX10_most_73 : decode cX10_most 73 = .ok (.lshr, 1) := by decide +kernel
theorem dX10_most_74 : decode cX10_most 74 = .ok (.lconst 1, 1) := by decide +kernel
theorem dX10_most_75 : decode cX10_most 75 = .ok (.land, 1) := by decide +kernel
theorem dX10_most_76 : decode cX10_most 76 = .ok (.lconst 0, 1) := by decide +kernel
theorem dX10_most_77 : decode cX10_most 77 = .ok (.lcmp, 1) := by decide +kernel
theorem dX10_most_78 : decode cX10_most 78 = .ok (.ifCond .ne 6, 3) := by decide +kernel
theorem dX10_most_81 : decode cX10_most 81 = .ok (.goto 81, 3) := by decide +kernel
theorem dX10_most_84 : decode cX10_most 84 = .ok (.lload_n 3, 1) := by decide +kernel
theorem dX10_most_85 : decode cX10_most 85 = .ok (.aload_n 0, 1) := by decide +kernel
theorem dX10_most_86 : decode cX10_most 86 = .ok (.getfield 42, 3) := by decide +kernel
theorem dX10_most_89 : decode cX10_most 89 = .ok (.iload 6, 2) := by decide +kernel
theorem dX10_most_91 : decode cX10_most 91 = .ok (.laload, 1) := by decide +kernel
theorem dX10_most_92 : decode cX10_most 92 = .ok (.ldc2_w 155, 3) := by decide +kernel
theorem dX10_most_95 : decode cX10_most 95 = .ok (.lxor, 1) := by decide +kernel
theorem dX10_most_96 : decode cX10_most 96 = .ok (.land, 1) := by decide +kernel
theorem dX10_most_97 : decode cX10_most 97 = .ok (.lconst 1, 1) := by decide +kernel
theorem dX10_most_98 : decode cX10_most 98 = .ok (.iload 6, 2) := by decide +kernel
theorem dX10_most_100 : decode cX10_most 100 = .ok (.lshl, 1) := by decide +kernel
theorem dX10_most_101 : decode cX10_most 101 = .ok (.ldc2_w 155, 3) := by decide +kernel
theorem dX10_most_104 : decode cX10_most 104 = .ok (.lxor, 1) := by decide +kernel
theorem dX10_most_105 : decode cX10_most 105 = .ok (.land, 1) := by decide +kernel
theorem dX10_most_106 : decode cX10_most 106 = .ok (.lstore 7, 2) := by decide +kernel
theorem dX10_most_108 : decode cX10_most 108 = .ok (.aload_n 0, 1) := by decide +kernel
theorem dX10_most_109 : decode cX10_most 109 = .ok (.lload 7, 2) := by decide +kernel
theorem dX10_most_111 : decode cX10_most 111 = .ok (.iload 5, 2) := by decide +kernel
theorem dX10_most_113 : decode cX10_most 113 = .ok (.iconst 1, 1) := by decide +kernel
theorem dX10_most_114 : decode cX10_most 114 = .ok (.isub, 1) := by decide +kernel
theorem dX10_most_115 : decode cX10_most 115 = .ok (.invokevirtual 164, 3) := by decide +kernel
theorem dX10_most_118 : decode cX10_most 118 = .ok (.ifCond .eq 33, 3) := by decide +kernel
theorem dX10_most_121 : decode cX10_most 121 = .ok (.aload_n 0, 1) := by decide +kernel
theorem dX10_most_122 : decode cX10_most 122 = .ok (.getfield 46, 3) := by decide +kernel
theorem dX10_most_125 : decode cX10_most 125 = .ok (.aload_n 0, 1) := by decide +kernel
theorem dX10_most_126 : decode cX10_most 126 = .ok (.getfield 49, 3) := by decide +kernel
theorem dX10_most_129 : decode cX10_most 129 = .ok (.iload 6, 2) := by decide +kernel
theorem dX10_most_131 : decode cX10_most 131 = .ok (.iastore, 1) := by decide +kernel
theorem dX10_most_132 : decode cX10_most 132 = .ok (.aload_n 0, 1) := by decide +kernel
theorem dX10_most_133 : decode cX10_most 133 = .ok (.dup, 1) := by decide +kernel
theorem dX10_most_134 : decode cX10_most 134 = .ok (.getfield 49, 3) := by decide +kernel
theorem dX10_most_137 : decode cX10_most 137 = .ok (.iconst 1, 1) := by decide +kernel
theorem dX10_most_138 : decode cX10_most 138 = .ok (.iadd, 1) := by decide +kernel
theorem dX10_most_139 : decode cX10_most 139 = .ok (.putfield 49, 3) := by decide +kernel
theorem dX10_most_142 : decode cX10_most 142 = .ok (.iinc 5 (-1), 3) := by decide +kernel
theorem dX10_most_145 : decode cX10_most 145 = .ok (.lload 7, 2) := by decide +kernel
theorem dX10_most_147 : decode cX10_most 147 = .ok (.lstore_n 3, 1) := by decide +kernel
theorem dX10_most_148 : decode cX10_most 148 = .ok (.goto 14, 3) := by decide +kernel
theorem dX10_most_151 : decode cX10_most 151 = .ok (.lload_n 3, 1) := by decide +kernel
theorem dX10_most_152 : decode cX10_most 152 = .ok (.lconst 1, 1) := by decide +kernel
theorem dX10_most_153 : decode cX10_most 153 = .ok (.iload 6, 2) := by decide +kernel
theorem dX10_most_155 : decode cX10_most 155 = .ok (.lshl, 1) := by decide +kernel
theorem dX10_most_156 : decode cX10_most 156 = .ok (.ldc2_w 155, 3) := by decide +kernel
theorem dX10_most_159 : decode cX10_most 159 = .ok (.lxor, 1) := by decide +kernel
theorem dX10_most_160 : decode cX10_most 160 = .ok (.land, 1) := by decide +kernel
theorem dX10_most_161 : decode cX10_most 161 = .ok (.lstore_n 3, 1) := by decide +kernel
theorem dX10_most_162 : decode cX10_most 162 = .ok (.iinc 6 1, 3) := by decide +kernel
theorem dX10_most_165 : decode cX10_most 165 = .ok (.goto (-109), 3) := by decide +kernel
theorem dX10_most_168 : decode cX10_most 168 = .ok (.aload_n 0, 1) := by decide +kernel
theorem dX10_most_169 : decode cX10_most 169 = .ok (.iload_n 2, 1) := by decide +kernel
theorem dX10_most_170 : decode cX10_most 170 = .ok (.putfield 52, 3) := by decide +kernel
theorem dX10_most_173 : decode cX10_most 173 = .ok (.aload_n 0, 1) := by decide +kernel
theorem dX10_most_174 : decode cX10_most 174 = .ok (.iload_n 1, 1) := by decide +kernel
theorem dX10_most_175 : decode cX10_most 175 = .ok (.putfield 55, 3) := by decide +kernel
theorem dX10_most_178 : decode cX10_most 178 = .ok (.aload_n 0, 1) := by decide +kernel
theorem dX10_most_179 : decode cX10_most 179 = .ok (.aload_n 0, 1) := by decide +kernel
theorem dX10_most_180 : decode cX10_most 180 = .ok (.getfield 25, 3) := by decide +kernel
theorem dX10_most_183 : decode cX10_most 183 = .ok (.iload_n 1, 1) := by decide +kernel
theorem dX10_most_184 : decode cX10_most 184 = .ok (.iaload, 1) := by decide +kernel
theorem dX10_most_185 : decode cX10_most 185 = .ok (.putfield 178, 3) := by decide +kernel
theorem dX10_most_188 : decode cX10_most 188 = .ok (.aload_n 0, 1) := by decide +kernel
theorem dX10_most_189 : decode cX10_most 189 = .ok (.getfield 49, 3) := by decide +kernel
theorem dX10_most_192 : decode cX10_most 192 = .ok (.ireturn, 1) := by decide +kernel
theorem dX10_word_0 : decode cX10_word 0 = .ok (.iload_n 1, 1) := by decide +kernel
theorem dX10_word_1 : decode cX10_word 1 = .ok (.i2l, 1) := by decide +kernel
theorem dX10_word_2 : decode cX10_word 2 = .ok (.lconst 0, 1) := by decide +kernel
theorem dX10_word_3 : decode cX10_word 3 = .ok (.aload_n 0, 1) := by decide +kernel
theorem dX10_word_4 : decode cX10_word 4 = .ok (.getfield 49, 3) := by decide +kernel
theorem dX10_word_7 : decode cX10_word 7 = .ok (.i2l, 1) := by decide +kernel
theorem dX10_word_8 : decode cX10_word 8 = .ok (.lconst 1, 1) := by decide +kernel
theorem dX10_word_9 : decode cX10_word 9 = .ok (.lsub, 1) := by decide +kernel
theorem dX10_word_10 : decode cX10_word 10 = .ok (.invokestatic 81, 3) := by decide +kernel
theorem dX10_word_13 : decode cX10_word 13 = .ok (.ifCond .eq 12, 3) := by decide +kernel
theorem dX10_word_16 : decode cX10_word 16 = .ok (.aload_n 0, 1) := by decide +kernel
theorem dX10_word_17 : decode cX10_word 17 = .ok (.getfield 46, 3) := by decide +kernel
theorem dX10_word_20 : decode cX10_word 20 = .ok (.iload_n 1, 1) := by decide +kernel
theorem dX10_word_21 : decode cX10_word 21 = .ok (.iaload, 1) := by decide +kernel
theorem dX10_word_22 : decode cX10_word 22 = .ok (.goto 4, 3) := by decide +kernel
theorem dX10_word_25 : decode cX10_word 25 = .ok (.iconst (-1), 1) := by decide +kernel
theorem dX10_word_26 : decode cX10_word 26 = .ok (.ireturn, 1) := by decide +kernel
theorem dX10_waysOf_0 : decode cX10_waysOf 0 = .ok (.iload_n 3, 1) := by decide +kernel
theorem dX10_waysOf_1 : decode cX10_waysOf 1 = .ok (.ifCond .ne 5, 3) := by decide +kernel
theorem dX10_waysOf_4 : decode cX10_waysOf 4 = .ok (.iconst 1, 1) := by decide +kernel
theorem dX10_waysOf_5 : decode cX10_waysOf 5 = .ok (.ireturn, 1) := by decide +kernel
theorem dX10_waysOf_6 : decode cX10_waysOf 6 = .ok (.lload_n 1, 1) := by decide +kernel
theorem dX10_waysOf_7 : decode cX10_waysOf 7 = .ok (.invokestatic 139, 3) := by decide +kernel
theorem dX10_waysOf_10 : decode cX10_waysOf 10 = .ok (.iload_n 3, 1) := by decide +kernel
theorem dX10_waysOf_11 : decode cX10_waysOf 11 = .ok (.if_icmp .ge 5, 3) := by decide +kernel
theorem dX10_waysOf_14 : decode cX10_waysOf 14 = .ok (.iconst 0, 1) := by decide +kernel
theorem dX10_waysOf_15 : decode cX10_waysOf 15 = .ok (.ireturn, 1) := by decide +kernel
theorem dX10_waysOf_16 : decode cX10_waysOf 16 = .ok (.lload_n 1, 1) := by decide +kernel
theorem dX10_waysOf_17 : decode cX10_waysOf 17 = .ok (.invokestatic 157, 3) := by decide +kernel
theorem dX10_waysOf_20 : decode cX10_waysOf 20 = .ok (.istore 4, 2) := by decide +kernel
theorem dX10_waysOf_22 : decode cX10_waysOf 22 = .ok (.aload_n 0, 1) := by decide +kernel
theorem dX10_waysOf_23 : decode cX10_waysOf 23 = .ok (.lload_n 1, 1) := by decide +kernel
theorem dX10_waysOf_24 : decode cX10_waysOf 24 = .ok (.aload_n 0, 1) := by decide +kernel
theorem dX10_waysOf_25 : decode cX10_waysOf 25 = .ok (.getfield 42, 3) := by decide +kernel
theorem dX10_waysOf_28 : decode cX10_waysOf 28 = .ok (.iload 4, 2) := by decide +kernel
theorem dX10_waysOf_30 : decode cX10_waysOf 30 = .ok (.laload, 1) := by decide +kernel
theorem dX10_waysOf_31 : decode cX10_waysOf 31 = .ok (.ldc2_w 155, 3) := by decide +kernel
theorem dX10_waysOf_34 : decode cX10_waysOf 34 = .ok (.lxor, 1) := by decide +kernel
theorem dX10_waysOf_35 : decode cX10_waysOf 35 = .ok (.land, 1) := by decide +kernel
theorem dX10_waysOf_36 : decode cX10_waysOf 36 = .ok (.lconst 1, 1) := by decide +kernel
theorem dX10_waysOf_37 : decode cX10_waysOf 37 = .ok (.iload 4, 2) := by decide +kernel
theorem dX10_waysOf_39 : decode cX10_waysOf 39 = .ok (.lshl, 1) := by decide +kernel
theorem dX10_waysOf_40 : decode cX10_waysOf 40 = .ok (.ldc2_w 155, 3) := by decide +kernel
theorem dX10_waysOf_43 : decode cX10_waysOf 43 = .ok (.lxor, 1) := by decide +kernel
theorem dX10_waysOf_44 : decode cX10_waysOf 44 = .ok (.land, 1) := by decide +kernel
theorem dX10_waysOf_45 : decode cX10_waysOf 45 = .ok (.iload_n 3, 1) := by decide +kernel
theorem dX10_waysOf_46 : decode cX10_waysOf 46 = .ok (.iconst 1, 1) := by decide +kernel
theorem dX10_waysOf_47 : decode cX10_waysOf 47 = .ok (.isub, 1) := by decide +kernel
theorem dX10_waysOf_48 : decode cX10_waysOf 48 = .ok (.invokevirtual 181, 3) := by decide +kernel
theorem dX10_waysOf_51 : decode cX10_waysOf 51 = .ok (.aload_n 0, 1) := by decide +kernel
theorem dX10_waysOf_52 : decode cX10_waysOf 52 = .ok (.lload_n 1, 1) := by decide +kernel
theorem dX10_waysOf_53 : decode cX10_waysOf 53 = .ok (.lconst 1, 1) := by decide +kernel
theorem dX10_waysOf_54 : decode cX10_waysOf 54 = .ok (.iload 4, 2) := by decide +kernel
theorem dX10_waysOf_56 : decode cX10_waysOf 56 = .ok (.lshl, 1) := by decide +kernel
theorem dX10_waysOf_57 : decode cX10_waysOf 57 = .ok (.ldc2_w 155, 3) := by decide +kernel
theorem dX10_waysOf_60 : decode cX10_waysOf 60 = .ok (.lxor, 1) := by decide +kernel
theorem dX10_waysOf_61 : decode cX10_waysOf 61 = .ok (.land, 1) := by decide +kernel
theorem dX10_waysOf_62 : decode cX10_waysOf 62 = .ok (.iload_n 3, 1) := by decide +kernel
theorem dX10_waysOf_63 : decode cX10_waysOf 63 = .ok (.invokevirtual 181, 3) := by decide +kernel
theorem dX10_waysOf_66 : decode cX10_waysOf 66 = .ok (.iadd, 1) := by decide +kernel
theorem dX10_waysOf_67 : decode cX10_waysOf 67 = .ok (.ireturn, 1) := by decide +kernel
theorem dX10_ways_0 : decode cX10_ways 0 = .ok (.iload_n 1, 1) := by decide +kernel
theorem dX10_ways_1 : decode cX10_ways 1 = .ok (.invokestatic 85, 3) := by decide +kernel
theorem dX10_ways_4 : decode cX10_ways 4 = .ok (.ifCond .eq 15, 3) := by decide +kernel
theorem dX10_ways_7 : decode cX10_ways 7 = .ok (.iload_n 2, 1) := by decide +kernel
theorem dX10_ways_8 : decode cX10_ways 8 = .ok (.i2l, 1) := by decide +kernel
theorem dX10_ways_9 : decode cX10_ways 9 = .ok (.lconst 1, 1) := by decide +kernel
theorem dX10_ways_10 : decode cX10_ways 10 = .ok (.ldc2_w 143, 3) := by decide +kernel
theorem dX10_ways_13 : decode cX10_ways 13 = .ok (.invokestatic 81, 3) := by decide +kernel
theorem dX10_ways_16 : decode cX10_ways 16 = .ok (.ifCond .ne 6, 3) := by decide +kernel
theorem dX10_ways_19 : decode cX10_ways 19 = .ok (.bipush (-2), 2) := by decide +kernel
theorem dX10_ways_21 : decode cX10_ways 21 = .ok (.ireturn, 1) := by decide +kernel
theorem dX10_ways_22 : decode cX10_ways 22 = .ok (.aload_n 0, 1) := by decide +kernel
theorem dX10_ways_23 : decode cX10_ways 23 = .ok (.iload_n 1, 1) := by decide +kernel
theorem dX10_ways_24 : decode cX10_ways 24 = .ok (.iload_n 2, 1) := by decide +kernel
theorem dX10_ways_25 : decode cX10_ways 25 = .ok (.bipush 24, 2) := by decide +kernel
theorem dX10_ways_27 : decode cX10_ways 27 = .ok (.invokevirtual 168, 3) := by decide +kernel
theorem dX10_ways_30 : decode cX10_ways 30 = .ok (.ifCond .eq 22, 3) := by decide +kernel
theorem dX10_ways_33 : decode cX10_ways 33 = .ok (.aload_n 0, 1) := by decide +kernel
theorem dX10_ways_34 : decode cX10_ways 34 = .ok (.aload_n 0, 1) := by decide +kernel
theorem dX10_ways_35 : decode cX10_ways 35 = .ok (.invokevirtual 171, 3) := by decide +kernel
theorem dX10_ways_38 : decode cX10_ways 38 = .ok (.aload_n 0, 1) := by decide +kernel
theorem dX10_ways_39 : decode cX10_ways 39 = .ok (.aload_n 0, 1) := by decide +kernel
theorem dX10_ways_40 : decode cX10_ways 40 = .ok (.invokevirtual 171, 3) := by decide +kernel
theorem dX10_ways_43 : decode cX10_ways 43 = .ok (.invokevirtual 175, 3) := by decide +kernel
theorem dX10_ways_46 : decode cX10_ways 46 = .ok (.invokevirtual 181, 3) := by decide +kernel
theorem dX10_ways_49 : decode cX10_ways 49 = .ok (.goto 5, 3) := by decide +kernel
theorem dX10_ways_52 : decode cX10_ways 52 = .ok (.bipush (-3), 2) := by decide +kernel
theorem dX10_ways_54 : decode cX10_ways 54 = .ok (.ireturn, 1) := by decide +kernel
theorem dX10_lonely_0 : decode cX10_lonely 0 = .ok (.iconst 0, 1) := by decide +kernel
theorem dX10_lonely_1 : decode cX10_lonely 1 = .ok (.istore 5, 2) := by decide +kernel
theorem dX10_lonely_3 : decode cX10_lonely 3 = .ok (.iconst 0, 1) := by decide +kernel
theorem dX10_lonely_4 : decode cX10_lonely 4 = .ok (.istore 6, 2) := by decide +kernel
theorem dX10_lonely_6 : decode cX10_lonely 6 = .ok (.iload_n 2, 1) := by decide +kernel
theorem dX10_lonely_7 : decode cX10_lonely 7 = .ok (.istore 7, 2) := by decide +kernel
theorem dX10_lonely_9 : decode cX10_lonely 9 = .ok (.iload 7, 2) := by decide +kernel
theorem dX10_lonely_11 : decode cX10_lonely 11 = .ok (.aload_n 0, 1) := by decide +kernel
theorem dX10_lonely_12 : decode cX10_lonely 12 = .ok (.getfield 9, 3) := by decide +kernel
theorem dX10_lonely_15 : decode cX10_lonely 15 = .ok (.iload_n 1, 1) := by decide +kernel
theorem dX10_lonely_16 : decode cX10_lonely 16 = .ok (.iaload, 1) := by decide +kernel
theorem dX10_lonely_17 : decode cX10_lonely 17 = .ok (.if_icmp .ge 113, 3) := by decide +kernel
theorem dX10_lonely_20 : decode cX10_lonely 20 = .ok (.iload 5, 2) := by decide +kernel
theorem dX10_lonely_22 : decode cX10_lonely 22 = .ok (.iload 4, 2) := by decide +kernel
theorem dX10_lonely_24 : decode cX10_lonely 24 = .ok (.if_icmp .gt 106, 3) := by decide +kernel
theorem dX10_lonely_27 : decode cX10_lonely 27 = .ok (.iload 6, 2) := by decide +kernel
theorem dX10_lonely_29 : decode cX10_lonely 29 = .ok (.iload 7, 2) := by decide +kernel
theorem dX10_lonely_31 : decode cX10_lonely 31 = .ok (.ishr, 1) := by decide +kernel
theorem dX10_lonely_32 : decode cX10_lonely 32 = .ok (.iconst 1, 1) := by decide +kernel
theorem dX10_lonely_33 : decode cX10_lonely 33 = .ok (.iand, 1) := by decide +kernel
theorem dX10_lonely_34 : decode cX10_lonely 34 = .ok (.ifCond .ne 7, 3) := by decide +kernel
theorem dX10_lonely_37 : decode cX10_lonely 37 = .ok (.iconst 1, 1) := by decide +kernel
theorem dX10_lonely_38 : decode cX10_lonely 38 = .ok (.goto 4, 3) := by decide +kernel
theorem dX10_lonely_41 : decode cX10_lonely 41 = .ok (.iconst 0, 1) := by decide +kernel
theorem dX10_lonely_42 : decode cX10_lonely 42 = .ok (.istore 8, 2) := by decide +kernel
theorem dX10_lonely_44 : decode cX10_lonely 44 = .ok (.iconst 0, 1) := by decide +kernel
theorem dX10_lonely_45 : decode cX10_lonely 45 = .ok (.istore 9, 2) := by decide +kernel
theorem dX10_lonely_47 : decode cX10_lonely 47 = .ok (.iload 9, 2) := by decide +kernel
theorem dX10_lonely_49 : decode cX10_lonely 49 = .ok (.iload_n 3, 1) := by decide +kernel
theorem dX10_lonely_50 : decode cX10_lonely 50 = .ok (.if_icmp .ge 46, 3) := by decide +kernel
theorem dX10_lonely_53 : decode cX10_lonely 53 = .ok (.iload 8, 2) := by decide +kernel
theorem dX10_lonely_55 : decode cX10_lonely 55 = .ok (.ifCond .eq 41, 3) := by decide +kernel
theorem dX10_lonely_58 : decode cX10_lonely 58 = .ok (.aload_n 0, 1) := by decide +kernel
theorem dX10_lonely_59 : decode cX10_lonely 59 = .ok (.getfield 61, 3) := by decide +kernel
theorem dX10_lonely_62 : decode cX10_lonely 62 = .ok (.iload 9, 2) := by decide +kernel
theorem dX10_lonely_64 : decode cX10_lonely 64 = .ok (.iaload, 1) := by decide +kernel
theorem dX10_lonely_65 : decode cX10_lonely 65 = .ok (.aload_n 0, 1) := by decide +kernel
theorem dX10_lonely_66 : decode cX10_lonely 66 = .ok (.getfield 16, 3) := by decide +kernel
theorem dX10_lonely_69 : decode cX10_lonely 69 = .ok (.bipush 24, 2) := by decide +kernel
theorem dX10_lonely_71 : decode cX10_lonely 71 = .ok (.iload_n 1, 1) := by decide +kernel
theorem dX10_lonely_72 : decode cX10_lonely 72 = .ok (.imul, 1) := by decide +kernel
theorem dX10_lonely_73 : decode cX10_lonely 73 = .ok (.iload 7, 2) := by decide +kernel
theorem dX10_lonely_75 : decode cX10_lonely 75 = .ok (.iadd, 1) := by decide +kernel
theorem dX10_lonely_76 : decode cX10_lonely 76 = .ok (.iaload, 1) := by decide +kernel
theorem dX10_lonely_77 : decode cX10_lonely 77 = .ok (.iconst (-1), 1) := by decide +kernel
theorem dX10_lonely_78 : decode cX10_lonely 78 = .ok (.ixor, 1) := by decide +kernel
theorem dX10_lonely_79 : decode cX10_lonely 79 = .ok (.iand, 1) := by decide +kernel
theorem dX10_lonely_80 : decode cX10_lonely 80 = .ok (.ifCond .eq 7, 3) := by decide +kernel
theorem dX10_lonely_83 : decode cX10_lonely 83 = .ok (.iconst 1, 1) := by decide +kernel
theorem dX10_lonely_84 : decode cX10_lonely 84 = .ok (.goto 4, 3) := by decide +kernel
theorem dX10_lonely_87 : decode cX10_lonely 87 = .ok (.iconst 0, 1) := by decide +kernel
theorem dX10_lonely_88 : decode cX10_lonely 88 = .ok (.istore 8, 2) := by decide +kernel
theorem dX10_lonely_90 : decode cX10_lonely 90 = .ok (.iinc 9 1, 3) := by decide +kernel
theorem dX10_lonely_93 : decode cX10_lonely 93 = .ok (.goto (-46), 3) := by decide +kernel
theorem dX10_lonely_96 : decode cX10_lonely 96 = .ok (.iload 8, 2) := by decide +kernel
theorem dX10_lonely_98 : decode cX10_lonely 98 = .ok (.ifCond .ne 6, 3) := by decide +kernel
theorem dX10_lonely_101 : decode cX10_lonely 101 = .ok (.goto 23, 3) := by decide +kernel
theorem dX10_lonely_104 : decode cX10_lonely 104 = .ok (.iinc 5 1, 3) := by decide +kernel
theorem dX10_lonely_107 : decode cX10_lonely 107 = .ok (.iload 6, 2) := by decide +kernel
theorem dX10_lonely_109 : decode cX10_lonely 109 = .ok (.aload_n 0, 1) := by decide +kernel
theorem dX10_lonely_110 : decode cX10_lonely 110 = .ok (.getfield 16, 3) := by decide +kernel
theorem dX10_lonely_113 : decode cX10_lonely 113 = .ok (.bipush 24, 2) := by decide +kernel
theorem dX10_lonely_115 : decode cX10_lonely 115 = .ok (.iload_n 1, 1) := by decide +kernel
theorem dX10_lonely_116 : decode cX10_lonely 116 = .ok (.imul, 1) := by decide +kernel
theorem dX10_lonely_117 : decode cX10_lonely 117 = .ok (.iload 7, 2) := by decide +kernel
theorem dX10_lonely_119 : decode cX10_lonely 119 = .ok (.iadd, 1) := by decide +kernel
theorem dX10_lonely_120 : decode cX10_lonely 120 = .ok (.iaload, 1) := by decide +kernel
theorem dX10_lonely_121 : decode cX10_lonely 121 = .ok (.ior, 1) := by decide +kernel
theorem dX10_lonely_122 : decode cX10_lonely 122 = .ok (.istore 6, 2) := by decide +kernel
theorem dX10_lonely_124 : decode cX10_lonely 124 = .ok (.iinc 7 1, 3) := by decide +kernel
theorem dX10_lonely_127 : decode cX10_lonely 127 = .ok (.goto (-118), 3) := by decide +kernel
theorem dX10_lonely_130 : decode cX10_lonely 130 = .ok (.iload 5, 2) := by decide +kernel
theorem dX10_lonely_132 : decode cX10_lonely 132 = .ok (.ireturn, 1) := by decide +kernel
theorem dX10_heapFrom_0 : decode cX10_heapFrom 0 = .ok (.iload_n 2, 1) := by decide +kernel
theorem dX10_heapFrom_1 : decode cX10_heapFrom 1 = .ok (.aload_n 0, 1) := by decide +kernel
theorem dX10_heapFrom_2 : decode cX10_heapFrom 2 = .ok (.getfield 9, 3) := by decide +kernel
theorem dX10_heapFrom_5 : decode cX10_heapFrom 5 = .ok (.iload_n 1, 1) := by decide +kernel
theorem dX10_heapFrom_6 : decode cX10_heapFrom 6 = .ok (.iaload, 1) := by decide +kernel
theorem dX10_heapFrom_7 : decode cX10_heapFrom 7 = .ok (.if_icmp .ne 5, 3) := by decide +kernel
theorem dX10_heapFrom_10 : decode cX10_heapFrom 10 = .ok (.iconst 1, 1) := by decide +kernel
theorem dX10_heapFrom_11 : decode cX10_heapFrom 11 = .ok (.ireturn, 1) := by decide +kernel
theorem dX10_heapFrom_12 : decode cX10_heapFrom 12 = .ok (.iload_n 3, 1) := by decide +kernel
theorem dX10_heapFrom_13 : decode cX10_heapFrom 13 = .ok (.aload_n 0, 1) := by decide +kernel
theorem dX10_heapFrom_14 : decode cX10_heapFrom 14 = .ok (.iload_n 1, 1) := by decide +kernel
theorem dX10_heapFrom_15 : decode cX10_heapFrom 15 = .ok (.iload_n 2, 1) := by decide +kernel
theorem dX10_heapFrom_16 : decode cX10_heapFrom 16 = .ok (.iload_n 3, 1) := by decide +kernel
theorem dX10_heapFrom_17 : decode cX10_heapFrom 17 = .ok (.iload 4, 2) := by decide +kernel
theorem dX10_heapFrom_19 : decode cX10_heapFrom 19 = .ok (.iload_n 3, 1) := by decide +kernel
theorem dX10_heapFrom_20 : decode cX10_heapFrom 20 = .ok (.isub, 1) := by decide +kernel
theorem dX10_heapFrom_21 : decode cX10_heapFrom 21 = .ok (.invokevirtual 184, 3) := by decide +kernel
theorem dX10_heapFrom_24 : decode cX10_heapFrom 24 = .ok (.iadd, 1) := by decide +kernel
theorem dX10_heapFrom_25 : decode cX10_heapFrom 25 = .ok (.iload 4, 2) := by decide +kernel
theorem dX10_heapFrom_27 : decode cX10_heapFrom 27 = .ok (.if_icmp .le 5, 3) := by decide +kernel
theorem dX10_heapFrom_30 : decode cX10_heapFrom 30 = .ok (.iconst 0, 1) := by decide +kernel
theorem dX10_heapFrom_31 : decode cX10_heapFrom 31 = .ok (.ireturn, 1) := by decide +kernel
theorem dX10_heapFrom_32 : decode cX10_heapFrom 32 = .ok (.iconst 0, 1) := by decide +kernel
theorem dX10_heapFrom_33 : decode cX10_heapFrom 33 = .ok (.istore 5, 2) := by decide +kernel
theorem dX10_heapFrom_35 : decode cX10_heapFrom 35 = .ok (.iload 5, 2) := by decide +kernel
theorem dX10_heapFrom_37 : decode cX10_heapFrom 37 = .ok (.iload_n 3, 1) := by decide +kernel
theorem dX10_heapFrom_38 : decode cX10_heapFrom 38 = .ok (.if_icmp .gt 102, 3) := by decide +kernel
theorem dX10_heapFrom_41 : decode cX10_heapFrom 41 = .ok (.iload 5, 2) := by decide +kernel
theorem dX10_heapFrom_43 : decode cX10_heapFrom 43 = .ok (.iload 4, 2) := by decide +kernel
theorem dX10_heapFrom_45 : decode cX10_heapFrom 45 = .ok (.if_icmp .ge 95, 3) := by decide +kernel
theorem dX10_heapFrom_48 : decode cX10_heapFrom 48 = .ok (.aload_n 0, 1) := by decide +kernel
theorem dX10_heapFrom_49 : decode cX10_heapFrom 49 = .ok (.getfield 61, 3) := by decide +kernel
theorem dX10_heapFrom_52 : decode cX10_heapFrom 52 = .ok (.iload 5, 2) := by decide +kernel
theorem dX10_heapFrom_54 : decode cX10_heapFrom 54 = .ok (.iaload, 1) := by decide +kernel
theorem dX10_heapFrom_55 : decode cX10_heapFrom 55 = .ok (.aload_n 0, 1) := by decide +kernel
theorem dX10_heapFrom_56 : decode cX10_heapFrom 56 = .ok (.getfield 16, 3) := by decide +kernel
theorem dX10_heapFrom_59 : decode cX10_heapFrom 59 = .ok (.bipush 24, 2) := by decide +kernel
theorem dX10_heapFrom_61 : decode cX10_heapFrom 61 = .ok (.iload_n 1, 1) := by decide +kernel
theorem dX10_heapFrom_62 : decode cX10_heapFrom 62 = .ok (.imul, 1) := by decide +kernel
theorem dX10_heapFrom_63 : decode cX10_heapFrom 63 = .ok (.iload_n 2, 1) := by decide +kernel
theorem dX10_heapFrom_64 : decode cX10_heapFrom 64 = .ok (.iadd, 1) := by decide +kernel
theorem dX10_heapFrom_65 : decode cX10_heapFrom 65 = .ok (.iaload, 1) := by decide +kernel
theorem dX10_heapFrom_66 : decode cX10_heapFrom 66 = .ok (.iconst (-1), 1) := by decide +kernel
theorem dX10_heapFrom_67 : decode cX10_heapFrom 67 = .ok (.ixor, 1) := by decide +kernel
theorem dX10_heapFrom_68 : decode cX10_heapFrom 68 = .ok (.iand, 1) := by decide +kernel
theorem dX10_heapFrom_69 : decode cX10_heapFrom 69 = .ok (.ifCond .eq 6, 3) := by decide +kernel
theorem dX10_heapFrom_72 : decode cX10_heapFrom 72 = .ok (.goto 62, 3) := by decide +kernel
theorem dX10_heapFrom_75 : decode cX10_heapFrom 75 = .ok (.aload_n 0, 1) := by decide +kernel
theorem dX10_heapFrom_76 : decode cX10_heapFrom 76 = .ok (.getfield 61, 3) := by decide +kernel
theorem dX10_heapFrom_79 : decode cX10_heapFrom 79 = .ok (.iload 5, 2) := by decide +kernel
theorem dX10_heapFrom_81 : decode cX10_heapFrom 81 = .ok (.dup2, 1) := by decide +kernel
theorem dX10_heapFrom_82 : decode cX10_heapFrom 82 = .ok (.iaload, 1) := by decide +kernel
theorem dX10_heapFrom_83 : decode cX10_heapFrom 83 = .ok (.iconst 1, 1) := by decide +kernel
theorem dX10_heapFrom_84 : decode cX10_heapFrom 84 = .ok (.iload_n 2, 1) := by decide +kernel
theorem dX10_heapFrom_85 : decode cX10_heapFrom 85 = .ok (.ishl, 1) := by decide +kernel
theorem dX10_heapFrom_86 : decode cX10_heapFrom 86 = .ok (.ior, 1) := by decide +kernel
theorem dX10_heapFrom_87 : decode cX10_heapFrom 87 = .ok (.iastore, 1) := by decide +kernel
theorem dX10_heapFrom_88 : decode cX10_heapFrom 88 = .ok (.aload_n 0, 1) := by decide +kernel
theorem dX10_heapFrom_89 : decode cX10_heapFrom 89 = .ok (.getfield 58, 3) := by decide +kernel
theorem dX10_heapFrom_92 : decode cX10_heapFrom 92 = .ok (.iload_n 2, 1) := by decide +kernel
theorem dX10_heapFrom_93 : decode cX10_heapFrom 93 = .ok (.iload 5, 2) := by decide +kernel
theorem dX10_heapFrom_95 : decode cX10_heapFrom 95 = .ok (.iastore, 1) := by decide +kernel
theorem dX10_heapFrom_96 : decode cX10_heapFrom 96 = .ok (.aload_n 0, 1) := by decide +kernel
theorem dX10_heapFrom_97 : decode cX10_heapFrom 97 = .ok (.iload_n 1, 1) := by decide +kernel
theorem dX10_heapFrom_98 : decode cX10_heapFrom 98 = .ok (.iload_n 2, 1) := by decide +kernel
theorem dX10_heapFrom_99 : decode cX10_heapFrom 99 = .ok (.iconst 1, 1) := by decide +kernel
theorem dX10_heapFrom_100 : decode cX10_heapFrom 100 = .ok (.iadd, 1) := by decide +kernel
theorem dX10_heapFrom_101 : decode cX10_heapFrom 101 = .ok (.iload_n 3, 1) := by decide +kernel
theorem dX10_heapFrom_102 : decode cX10_heapFrom 102 = .ok (.iload 5, 2) := by decide +kernel
theorem dX10_heapFrom_104 : decode cX10_heapFrom 104 = .ok (.iconst 1, 1) := by decide +kernel
theorem dX10_heapFrom_105 : decode cX10_heapFrom 105 = .ok (.iadd, 1) := by decide +kernel
theorem dX10_heapFrom_106 : decode cX10_heapFrom 106 = .ok (.invokestatic 188, 3) := by decide +kernel
theorem dX10_heapFrom_109 : decode cX10_heapFrom 109 = .ok (.iload 4, 2) := by decide +kernel
theorem dX10_heapFrom_111 : decode cX10_heapFrom 111 = .ok (.invokevirtual 193, 3) := by decide +kernel
theorem dX10_heapFrom_114 : decode cX10_heapFrom 114 = .ok (.ifCond .eq 5, 3) := by decide +kernel
theorem dX10_heapFrom_117 : decode cX10_heapFrom 117 = .ok (.iconst 1, 1) := by decide +kernel
theorem dX10_heapFrom_118 : decode cX10_heapFrom 118 = .ok (.ireturn, 1) := by decide +kernel
theorem dX10_heapFrom_119 : decode cX10_heapFrom 119 = .ok (.aload_n 0, 1) := by decide +kernel
theorem dX10_heapFrom_120 : decode cX10_heapFrom 120 = .ok (.getfield 61, 3) := by decide +kernel
theorem dX10_heapFrom_123 : decode cX10_heapFrom 123 = .ok (.iload 5, 2) := by decide +kernel
theorem dX10_heapFrom_125 : decode cX10_heapFrom 125 = .ok (.dup2, 1) := by decide +kernel
theorem dX10_heapFrom_126 : decode cX10_heapFrom 126 = .ok (.iaload, 1) := by decide +kernel
theorem dX10_heapFrom_127 : decode cX10_heapFrom 127 = .ok (.iconst 1, 1) := by decide +kernel
theorem dX10_heapFrom_128 : decode cX10_heapFrom 128 = .ok (.iload_n 2, 1) := by decide +kernel
theorem dX10_heapFrom_129 : decode cX10_heapFrom 129 = .ok (.ishl, 1) := by decide +kernel
theorem dX10_heapFrom_130 : decode cX10_heapFrom 130 = .ok (.iconst (-1), 1) := by decide +kernel
theorem dX10_heapFrom_131 : decode cX10_heapFrom 131 = .ok (.ixor, 1) := by decide +kernel
theorem dX10_heapFrom_132 : decode cX10_heapFrom 132 = .ok (.iand, 1) := by decide +kernel
theorem dX10_heapFrom_133 : decode cX10_heapFrom 133 = .ok (.iastore, 1) := by decide +kernel
theorem dX10_heapFrom_134 : decode cX10_heapFrom 134 = .ok (.iinc 5 1, 3) := by decide +kernel
theorem dX10_heapFrom_137 : decode cX10_heapFrom 137 = .ok (.goto (-102), 3) := by decide +kernel
theorem dX10_heapFrom_140 : decode cX10_heapFrom 140 = .ok (.iconst 0, 1) := by decide +kernel
theorem dX10_heapFrom_141 : decode cX10_heapFrom 141 = .ok (.ireturn, 1) := by decide +kernel
theorem dX10_heapsOf_0 : decode cX10_heapsOf 0 = .ok (.aload_n 0, 1) := by decide +kernel
theorem dX10_heapsOf_1 : decode cX10_heapsOf 1 = .ok (.iload_n 1, 1) := by decide +kernel
theorem dX10_heapsOf_2 : decode cX10_heapsOf 2 = .ok (.iconst 1, 1) := by decide +kernel
theorem dX10_heapsOf_3 : decode cX10_heapsOf 3 = .ok (.bipush 64, 2) := by decide +kernel
theorem dX10_heapsOf_5 : decode cX10_heapsOf 5 = .ok (.invokevirtual 168, 3) := by decide +kernel
theorem dX10_heapsOf_8 : decode cX10_heapsOf 8 = .ok (.istore_n 2, 1) := by decide +kernel
theorem dX10_heapsOf_9 : decode cX10_heapsOf 9 = .ok (.aload_n 0, 1) := by decide +kernel
theorem dX10_heapsOf_10 : decode cX10_heapsOf 10 = .ok (.aload_n 0, 1) := by decide +kernel
theorem dX10_heapsOf_11 : decode cX10_heapsOf 11 = .ok (.invokevirtual 171, 3) := by decide +kernel
theorem dX10_heapsOf_14 : decode cX10_heapsOf 14 = .ok (.invokevirtual 175, 3) := by decide +kernel
theorem dX10_heapsOf_17 : decode cX10_heapsOf 17 = .ok (.istore_n 3, 1) := by decide +kernel
theorem dX10_heapsOf_18 : decode cX10_heapsOf 18 = .ok (.iconst 0, 1) := by decide +kernel
theorem dX10_heapsOf_19 : decode cX10_heapsOf 19 = .ok (.istore 4, 2) := by decide +kernel
theorem dX10_heapsOf_21 : decode cX10_heapsOf 21 = .ok (.iload 4, 2) := by decide +kernel
theorem dX10_heapsOf_23 : decode cX10_heapsOf 23 = .ok (.bipush 24, 2) := by decide +kernel
theorem dX10_heapsOf_25 : decode cX10_heapsOf 25 = .ok (.if_icmp .ge 17, 3) := by decide +kernel
theorem dX10_heapsOf_28 : decode cX10_heapsOf 28 = .ok (.aload_n 0, 1) := by decide +kernel
theorem dX10_heapsOf_29 : decode cX10_heapsOf 29 = .ok (.getfield 61, 3) := by decide +kernel
theorem dX10_heapsOf_32 : decode cX10_heapsOf 32 = .ok (.iload 4, 2) := by decide +kernel
theorem dX10_heapsOf_34 : decode cX10_heapsOf 34 = .ok (.iconst 0, 1) := by decide +kernel
theorem dX10_heapsOf_35 : decode cX10_heapsOf 35 = .ok (.iastore, 1) := by decide +kernel
theorem dX10_heapsOf_36 : decode cX10_heapsOf 36 = .ok (.iinc 4 1, 3) := by decide +kernel
theorem dX10_heapsOf_39 : decode cX10_heapsOf 39 = .ok (.goto (-18), 3) := by decide +kernel
theorem dX10_heapsOf_42 : decode cX10_heapsOf 42 = .ok (.aload_n 0, 1) := by decide +kernel
theorem dX10_heapsOf_43 : decode cX10_heapsOf 43 = .ok (.iload_n 1, 1) := by decide +kernel
theorem dX10_heapsOf_44 : decode cX10_heapsOf 44 = .ok (.iconst 0, 1) := by decide +kernel
theorem dX10_heapsOf_45 : decode cX10_heapsOf 45 = .ok (.iconst 0, 1) := by decide +kernel
theorem dX10_heapsOf_46 : decode cX10_heapsOf 46 = .ok (.iload_n 3, 1) := by decide +kernel
theorem dX10_heapsOf_47 : decode cX10_heapsOf 47 = .ok (.invokevirtual 193, 3) := by decide +kernel
theorem dX10_heapsOf_50 : decode cX10_heapsOf 50 = .ok (.ifCond .ne 9, 3) := by decide +kernel
theorem dX10_heapsOf_53 : decode cX10_heapsOf 53 = .ok (.iinc 3 1, 3) := by decide +kernel
theorem dX10_heapsOf_56 : decode cX10_heapsOf 56 = .ok (.goto (-14), 3) := by decide +kernel
theorem dX10_heapsOf_59 : decode cX10_heapsOf 59 = .ok (.iload_n 3, 1) := by decide +kernel
theorem dX10_heapsOf_60 : decode cX10_heapsOf 60 = .ok (.ireturn, 1) := by decide +kernel
theorem dX10_heaps_0 : decode cX10_heaps 0 = .ok (.iload_n 1, 1) := by decide +kernel
theorem dX10_heaps_1 : decode cX10_heaps 1 = .ok (.invokestatic 85, 3) := by decide +kernel
theorem dX10_heaps_4 : decode cX10_heaps 4 = .ok (.ifCond .ne 6, 3) := by decide +kernel
theorem dX10_heaps_7 : decode cX10_heaps 7 = .ok (.bipush (-2), 2) := by decide +kernel
theorem dX10_heaps_9 : decode cX10_heaps 9 = .ok (.ireturn, 1) := by decide +kernel
theorem dX10_heaps_10 : decode cX10_heaps 10 = .ok (.aload_n 0, 1) := by decide +kernel
theorem dX10_heaps_11 : decode cX10_heaps 11 = .ok (.iload_n 1, 1) := by decide +kernel
theorem dX10_heaps_12 : decode cX10_heaps 12 = .ok (.invokevirtual 196, 3) := by decide +kernel
theorem dX10_heaps_15 : decode cX10_heaps 15 = .ok (.istore_n 2, 1) := by decide +kernel
theorem dX10_heaps_16 : decode cX10_heaps 16 = .ok (.aload_n 0, 1) := by decide +kernel
theorem dX10_heaps_17 : decode cX10_heaps 17 = .ok (.aload_n 0, 1) := by decide +kernel
theorem dX10_heaps_18 : decode cX10_heaps 18 = .ok (.getfield 9, 3) := by decide +kernel
theorem dX10_heaps_21 : decode cX10_heaps 21 = .ok (.iload_n 1, 1) := by decide +kernel
theorem dX10_heaps_22 : decode cX10_heaps 22 = .ok (.iaload, 1) := by decide +kernel
theorem dX10_heaps_23 : decode cX10_heaps 23 = .ok (.putfield 200, 3) := by decide +kernel
theorem dX10_heaps_26 : decode cX10_heaps 26 = .ok (.iconst 0, 1) := by decide +kernel
theorem dX10_heaps_27 : decode cX10_heaps 27 = .ok (.istore_n 3, 1) := by decide +kernel
theorem dX10_heaps_28 : decode cX10_heaps 28 = .ok (.iload_n 3, 1) := by decide +kernel
theorem dX10_heaps_29 : decode cX10_heaps 29 = .ok (.aload_n 0, 1) := by decide +kernel
theorem dX10_heaps_30 : decode cX10_heaps 30 = .ok (.getfield 200, 3) := by decide +kernel
theorem dX10_heaps_33 : decode cX10_heaps 33 = .ok (.if_icmp .ge 21, 3) := by decide +kernel
theorem dX10_heaps_36 : decode cX10_heaps 36 = .ok (.aload_n 0, 1) := by decide +kernel
theorem dX10_heaps_37 : decode cX10_heaps 37 = .ok (.getfield 64, 3) := by decide +kernel
theorem dX10_heaps_40 : decode cX10_heaps 40 = .ok (.iload_n 3, 1) := by decide +kernel
theorem dX10_heaps_41 : decode cX10_heaps 41 = .ok (.aload_n 0, 1) := by decide +kernel
theorem dX10_heaps_42 : decode cX10_heaps 42 = .ok (.getfield 58, 3) := by decide +kernel
theorem dX10_heaps_45 : decode cX10_heaps 45 = .ok (.iload_n 3, 1) := by decide +kernel
theorem dX10_heaps_46 : decode cX10_heaps 46 = .ok (.iaload, 1) := by decide +kernel
theorem dX10_heaps_47 : decode cX10_heaps 47 = .ok (.iastore, 1) := by decide +kernel
theorem dX10_heaps_48 : decode cX10_heaps 48 = .ok (.iinc 3 1, 3) := by decide +kernel
theorem dX10_heaps_51 : decode cX10_heaps 51 = .ok (.goto (-23), 3) := by decide +kernel
theorem dX10_heaps_54 : decode cX10_heaps 54 = .ok (.iload_n 2, 1) := by decide +kernel
theorem dX10_heaps_55 : decode cX10_heaps 55 = .ok (.ireturn, 1) := by decide +kernel
theorem dX10_heap_0 : decode cX10_heap 0 = .ok (.iload_n 1, 1) := by decide +kernel
theorem dX10_heap_1 : decode cX10_heap 1 = .ok (.i2l, 1) := by decide +kernel
theorem dX10_heap_2 : decode cX10_heap 2 = .ok (.lconst 0, 1) := by decide +kernel
theorem dX10_heap_3 : decode cX10_heap 3 = .ok (.aload_n 0, 1) := by decide +kernel
theorem dX10_heap_4 : decode cX10_heap 4 = .ok (.getfield 200, 3) := by decide +kernel
theorem dX10_heap_7 : decode cX10_heap 7 = .ok (.i2l, 1) := by decide +kernel
theorem dX10_heap_8 : decode cX10_heap 8 = .ok (.lconst 1, 1) := by decide +kernel
theorem dX10_heap_9 : decode cX10_heap 9 = .ok (.lsub, 1) := by decide +kernel
theorem dX10_heap_10 : decode cX10_heap 10 = .ok (.invokestatic 81, 3) := by decide +kernel
theorem dX10_heap_13 : decode cX10_heap 13 = .ok (.ifCond .eq 12, 3) := by decide +kernel
theorem dX10_heap_16 : decode cX10_heap 16 = .ok (.aload_n 0, 1) := by decide +kernel
theorem dX10_heap_17 : decode cX10_heap 17 = .ok (.getfield 64, 3) := by decide +kernel
theorem dX10_heap_20 : decode cX10_heap 20 = .ok (.iload_n 1, 1) := by decide +kernel
theorem dX10_heap_21 : decode cX10_heap 21 = .ok (.iaload, 1) := by decide +kernel
theorem dX10_heap_22 : decode cX10_heap 22 = .ok (.goto 4, 3) := by decide +kernel
theorem dX10_heap_25 : decode cX10_heap 25 = .ok (.iconst (-1), 1) := by decide +kernel
theorem dX10_heap_26 : decode cX10_heap 26 = .ok (.ireturn, 1) := by decide +kernel
theorem dX10_placeOf_0 : decode cX10_placeOf 0 = .ok (.bipush 25, 2) := by decide +kernel
theorem dX10_placeOf_2 : decode cX10_placeOf 2 = .ok (.iload_n 0, 1) := by decide +kernel
theorem dX10_placeOf_3 : decode cX10_placeOf 3 = .ok (.imul, 1) := by decide +kernel
theorem dX10_placeOf_4 : decode cX10_placeOf 4 = .ok (.iload_n 1, 1) := by decide +kernel
theorem dX10_placeOf_5 : decode cX10_placeOf 5 = .ok (.iconst (-1), 1) := by decide +kernel
theorem dX10_placeOf_6 : decode cX10_placeOf 6 = .ok (.if_icmp .ne 8, 3) := by decide +kernel
theorem dX10_placeOf_9 : decode cX10_placeOf 9 = .ok (.bipush 24, 2) := by decide +kernel
theorem dX10_placeOf_11 : decode cX10_placeOf 11 = .ok (.goto 4, 3) := by decide +kernel
theorem dX10_placeOf_14 : decode cX10_placeOf 14 = .ok (.iload_n 1, 1) := by decide +kernel
theorem dX10_placeOf_15 : decode cX10_placeOf 15 = .ok (.iadd, 1) := by decide +kernel
theorem dX10_placeOf_16 : decode cX10_placeOf 16 = .ok (.bipush 6, 2) := by decide +kernel
theorem dX10_placeOf_18 : decode cX10_placeOf 18 = .ok (.imul, 1) := by decide +kernel
theorem dX10_placeOf_19 : decode cX10_placeOf 19 = .ok (.ireturn, 1) := by decide +kernel
theorem dX10_row_0 : decode cX10_row 0 = .ok (.iload_n 1, 1) := by decide +kernel
theorem dX10_row_1 : decode cX10_row 1 = .ok (.invokestatic 85, 3) := by decide +kernel
theorem dX10_row_4 : decode cX10_row 4 = .ok (.ifCond .eq 50, 3) := by decide +kernel
theorem dX10_row_7 : decode cX10_row 7 = .ok (.iload_n 2, 1) := by decide +kernel
theorem dX10_row_8 : decode cX10_row 8 = .ok (.i2l, 1) := by decide +kernel
theorem dX10_row_9 : decode cX10_row 9 = .ok (.ldc2_w 155, 3) := by decide +kernel
theorem dX10_row_12 : decode cX10_row 12 = .ok (.aload_n 0, 1) := by decide +kernel
theorem dX10_row_13 : decode cX10_row 13 = .ok (.getfield 9, 3) := by decide +kernel
theorem dX10_row_16 : decode cX10_row 16 = .ok (.iload_n 1, 1) := by decide +kernel
theorem dX10_row_17 : decode cX10_row 17 = .ok (.iaload, 1) := by decide +kernel
theorem dX10_row_18 : decode cX10_row 18 = .ok (.i2l, 1) := by decide +kernel
theorem dX10_row_19 : decode cX10_row 19 = .ok (.lconst 1, 1) := by decide +kernel
theorem dX10_row_20 : decode cX10_row 20 = .ok (.lsub, 1) := by decide +kernel
theorem dX10_row_21 : decode cX10_row 21 = .ok (.invokestatic 81, 3) := by decide +kernel
theorem dX10_row_24 : decode cX10_row 24 = .ok (.ifCond .eq 30, 3) := by decide +kernel
theorem dX10_row_27 : decode cX10_row 27 = .ok (.iload_n 3, 1) := by decide +kernel
theorem dX10_row_28 : decode cX10_row 28 = .ok (.i2l, 1) := by decide +kernel
theorem dX10_row_29 : decode cX10_row 29 = .ok (.lconst 0, 1) := by decide +kernel
theorem dX10_row_30 : decode cX10_row 30 = .ok (.ldc2_w 203, 3) := by decide +kernel
theorem dX10_row_33 : decode cX10_row 33 = .ok (.invokestatic 81, 3) := by decide +kernel
theorem dX10_row_36 : decode cX10_row 36 = .ok (.ifCond .eq 18, 3) := by decide +kernel
theorem dX10_row_39 : decode cX10_row 39 = .ok (.iload 4, 2) := by decide +kernel
theorem dX10_row_41 : decode cX10_row 41 = .ok (.i2l, 1) := by decide +kernel
theorem dX10_row_42 : decode cX10_row 42 = .ok (.ldc2_w 205, 3) := by decide +kernel
theorem dX10_row_45 : decode cX10_row 45 = .ok (.ldc2_w 207, 3) := by decide +kernel
theorem dX10_row_48 : decode cX10_row 48 = .ok (.invokestatic 81, 3) := by decide +kernel
theorem dX10_row_51 : decode cX10_row 51 = .ok (.ifCond .ne 6, 3) := by decide +kernel
theorem dX10_row_54 : decode cX10_row 54 = .ok (.bipush (-31), 2) := by decide +kernel
theorem dX10_row_56 : decode cX10_row 56 = .ok (.ireturn, 1) := by decide +kernel
theorem dX10_row_57 : decode cX10_row 57 = .ok (.iload_n 1, 1) := by decide +kernel
theorem dX10_row_58 : decode cX10_row 58 = .ok (.iload_n 2, 1) := by decide +kernel
theorem dX10_row_59 : decode cX10_row 59 = .ok (.invokestatic 209, 3) := by decide +kernel
theorem dX10_row_62 : decode cX10_row 62 = .ok (.iload_n 3, 1) := by decide +kernel
theorem dX10_row_63 : decode cX10_row 63 = .ok (.iadd, 1) := by decide +kernel
theorem dX10_row_64 : decode cX10_row 64 = .ok (.istore 5, 2) := by decide +kernel
theorem dX10_row_66 : decode cX10_row 66 = .ok (.aload_n 0, 1) := by decide +kernel
theorem dX10_row_67 : decode cX10_row 67 = .ok (.getfield 22, 3) := by decide +kernel
theorem dX10_row_70 : decode cX10_row 70 = .ok (.iload 5, 2) := by decide +kernel
theorem dX10_row_72 : decode cX10_row 72 = .ok (.iaload, 1) := by decide +kernel
theorem dX10_row_73 : decode cX10_row 73 = .ok (.istore 6, 2) := by decide +kernel
theorem dX10_row_75 : decode cX10_row 75 = .ok (.aload_n 0, 1) := by decide +kernel
theorem dX10_row_76 : decode cX10_row 76 = .ok (.getfield 22, 3) := by decide +kernel
theorem dX10_row_79 : decode cX10_row 79 = .ok (.iload 5, 2) := by decide +kernel
theorem dX10_row_81 : decode cX10_row 81 = .ok (.iload 4, 2) := by decide +kernel
theorem dX10_row_83 : decode cX10_row 83 = .ok (.iastore, 1) := by decide +kernel
theorem dX10_row_84 : decode cX10_row 84 = .ok (.iload 6, 2) := by decide +kernel
theorem dX10_row_86 : decode cX10_row 86 = .ok (.ireturn, 1) := by decide +kernel
theorem dX10_product_0 : decode cX10_product 0 = .ok (.iconst 0, 1) := by decide +kernel
theorem dX10_product_1 : decode cX10_product 1 = .ok (.istore 4, 2) := by decide +kernel
theorem dX10_product_3 : decode cX10_product 3 = .ok (.iconst 0, 1) := by decide +kernel
theorem dX10_product_4 : decode cX10_product 4 = .ok (.istore 5, 2) := by decide +kernel
theorem dX10_product_6 : decode cX10_product 6 = .ok (.iload 5, 2) := by decide +kernel
theorem dX10_product_8 : decode cX10_product 8 = .ok (.bipush 6, 2) := by decide +kernel
theorem dX10_product_10 : decode cX10_product 10 = .ok (.if_icmp .ge 41, 3) := by decide +kernel
theorem dX10_product_13 : decode cX10_product 13 = .ok (.iload 4, 2) := by decide +kernel
theorem dX10_product_15 : decode cX10_product 15 = .ok (.aload_n 0, 1) := by decide +kernel
theorem dX10_product_16 : decode cX10_product 16 = .ok (.getfield 22, 3) := by decide +kernel
theorem dX10_product_19 : decode cX10_product 19 = .ok (.iload_n 1, 1) := by decide +kernel
theorem dX10_product_20 : decode cX10_product 20 = .ok (.iload_n 2, 1) := by decide +kernel
theorem dX10_product_21 : decode cX10_product 21 = .ok (.invokestatic 209, 3) := by decide +kernel
theorem dX10_product_24 : decode cX10_product 24 = .ok (.iload 5, 2) := by decide +kernel
theorem dX10_product_26 : decode cX10_product 26 = .ok (.iadd, 1) := by decide +kernel
theorem dX10_product_27 : decode cX10_product 27 = .ok (.iaload, 1) := by decide +kernel
theorem dX10_product_28 : decode cX10_product 28 = .ok (.aload_n 0, 1) := by decide +kernel
theorem dX10_product_29 : decode cX10_product 29 = .ok (.getfield 22, 3) := by decide +kernel
theorem dX10_product_32 : decode cX10_product 32 = .ok (.iload_n 1, 1) := by decide +kernel
theorem dX10_product_33 : decode cX10_product 33 = .ok (.iload_n 3, 1) := by decide +kernel
theorem dX10_product_34 : decode cX10_product 34 = .ok (.invokestatic 209, 3) := by decide +kernel
theorem dX10_product_37 : decode cX10_product 37 = .ok (.iload 5, 2) := by decide +kernel
theorem dX10_product_39 : decode cX10_product 39 = .ok (.iadd, 1) := by decide +kernel
theorem dX10_product_40 : decode cX10_product 40 = .ok (.iaload, 1) := by decide +kernel
theorem dX10_product_41 : decode cX10_product 41 = .ok (.imul, 1) := by decide +kernel
theorem dX10_product_42 : decode cX10_product 42 = .ok (.iadd, 1) := by decide +kernel
theorem dX10_product_43 : decode cX10_product 43 = .ok (.istore 4, 2) := by decide +kernel
theorem dX10_product_45 : decode cX10_product 45 = .ok (.iinc 5 1, 3) := by decide +kernel
theorem dX10_product_48 : decode cX10_product 48 = .ok (.goto (-42), 3) := by decide +kernel
theorem dX10_product_51 : decode cX10_product 51 = .ok (.iload 4, 2) := by decide +kernel
theorem dX10_product_53 : decode cX10_product 53 = .ok (.ireturn, 1) := by decide +kernel
theorem dX10_stands_0 : decode cX10_stands 0 = .ok (.iload_n 1, 1) := by decide +kernel
theorem dX10_stands_1 : decode cX10_stands 1 = .ok (.invokestatic 85, 3) := by decide +kernel
theorem dX10_stands_4 : decode cX10_stands 4 = .ok (.ifCond .ne 6, 3) := by decide +kernel
theorem dX10_stands_7 : decode cX10_stands 7 = .ok (.bipush (-2), 2) := by decide +kernel
theorem dX10_stands_9 : decode cX10_stands 9 = .ok (.ireturn, 1) := by decide +kernel
theorem dX10_stands_10 : decode cX10_stands 10 = .ok (.iconst 0, 1) := by decide +kernel
theorem dX10_stands_11 : decode cX10_stands 11 = .ok (.istore_n 2, 1) := by decide +kernel
theorem dX10_stands_12 : decode cX10_stands 12 = .ok (.iload_n 2, 1) := by decide +kernel
theorem dX10_stands_13 : decode cX10_stands 13 = .ok (.aload_n 0, 1) := by decide +kernel
theorem dX10_stands_14 : decode cX10_stands 14 = .ok (.getfield 9, 3) := by decide +kernel
theorem dX10_stands_17 : decode cX10_stands 17 = .ok (.iload_n 1, 1) := by decide +kernel
theorem dX10_stands_18 : decode cX10_stands 18 = .ok (.iaload, 1) := by decide +kernel
theorem dX10_stands_19 : decode cX10_stands 19 = .ok (.if_icmp .ge 56, 3) := by decide +kernel
theorem dX10_stands_22 : decode cX10_stands 22 = .ok (.iload_n 2, 1) := by decide +kernel
theorem dX10_stands_23 : decode cX10_stands 23 = .ok (.iconst 1, 1) := by decide +kernel
theorem dX10_stands_24 : decode cX10_stands 24 = .ok (.iadd, 1) := by decide +kernel
theorem dX10_stands_25 : decode cX10_stands 25 = .ok (.istore_n 3, 1) := by decide +kernel
theorem dX10_stands_26 : decode cX10_stands 26 = .ok (.iload_n 3, 1) := by decide +kernel
theorem dX10_stands_27 : decode cX10_stands 27 = .ok (.aload_n 0, 1) := by decide +kernel
theorem dX10_stands_28 : decode cX10_stands 28 = .ok (.getfield 9, 3) := by decide +kernel
theorem dX10_stands_31 : decode cX10_stands 31 = .ok (.iload_n 1, 1) := by decide +kernel
theorem dX10_stands_32 : decode cX10_stands 32 = .ok (.iaload, 1) := by decide +kernel
theorem dX10_stands_33 : decode cX10_stands 33 = .ok (.if_icmp .ge 36, 3) := by decide +kernel
theorem dX10_stands_36 : decode cX10_stands 36 = .ok (.aload_n 0, 1) := by decide +kernel
theorem dX10_stands_37 : decode cX10_stands 37 = .ok (.iload_n 1, 1) := by decide +kernel
theorem dX10_stands_38 : decode cX10_stands 38 = .ok (.iload_n 2, 1) := by decide +kernel
theorem dX10_stands_39 : decode cX10_stands 39 = .ok (.iload_n 3, 1) := by decide +kernel
theorem dX10_stands_40 : decode cX10_stands 40 = .ok (.invokevirtual 109, 3) := by decide +kernel
theorem dX10_stands_43 : decode cX10_stands 43 = .ok (.ifCond .ne 20, 3) := by decide +kernel
theorem dX10_stands_46 : decode cX10_stands 46 = .ok (.aload_n 0, 1) := by decide +kernel
theorem dX10_stands_47 : decode cX10_stands 47 = .ok (.iload_n 1, 1) := by decide +kernel
theorem dX10_stands_48 : decode cX10_stands 48 = .ok (.iload_n 2, 1) := by decide +kernel
theorem dX10_stands_49 : decode cX10_stands 49 = .ok (.iload_n 3, 1) := by decide +kernel
theorem dX10_stands_50 : decode cX10_stands 50 = .ok (.invokevirtual 212, 3) := by decide +kernel
theorem dX10_stands_53 : decode cX10_stands 53 = .ok (.ifCond .eq 10, 3) := by decide +kernel
theorem dX10_stands_56 : decode cX10_stands 56 = .ok (.bipush 100, 2) := by decide +kernel
theorem dX10_stands_58 : decode cX10_stands 58 = .ok (.iload_n 2, 1) := by decide +kernel
theorem dX10_stands_59 : decode cX10_stands 59 = .ok (.imul, 1) := by decide +kernel
theorem dX10_stands_60 : decode cX10_stands 60 = .ok (.iload_n 3, 1) := by decide +kernel
theorem dX10_stands_61 : decode cX10_stands 61 = .ok (.iadd, 1) := by decide +kernel
theorem dX10_stands_62 : decode cX10_stands 62 = .ok (.ireturn, 1) := by decide +kernel
theorem dX10_stands_63 : decode cX10_stands 63 = .ok (.iinc 3 1, 3) := by decide +kernel
theorem dX10_stands_66 : decode cX10_stands 66 = .ok (.goto (-40), 3) := by decide +kernel
theorem dX10_stands_69 : decode cX10_stands 69 = .ok (.iinc 2 1, 3) := by decide +kernel
theorem dX10_stands_72 : decode cX10_stands 72 = .ok (.goto (-60), 3) := by decide +kernel
theorem dX10_stands_75 : decode cX10_stands 75 = .ok (.iconst 0, 1) := by decide +kernel
theorem dX10_stands_76 : decode cX10_stands 76 = .ok (.istore_n 2, 1) := by decide +kernel
theorem dX10_stands_77 : decode cX10_stands 77 = .ok (.iload_n 2, 1) := by decide +kernel
theorem dX10_stands_78 : decode cX10_stands 78 = .ok (.aload_n 0, 1) := by decide +kernel
theorem dX10_stands_79 : decode cX10_stands 79 = .ok (.getfield 9, 3) := by decide +kernel
theorem dX10_stands_82 : decode cX10_stands 82 = .ok (.iload_n 1, 1) := by decide +kernel
theorem dX10_stands_83 : decode cX10_stands 83 = .ok (.iaload, 1) := by decide +kernel
theorem dX10_stands_84 : decode cX10_stands 84 = .ok (.if_icmp .ge 25, 3) := by decide +kernel
theorem dX10_stands_87 : decode cX10_stands 87 = .ok (.aload_n 0, 1) := by decide +kernel
theorem dX10_stands_88 : decode cX10_stands 88 = .ok (.iload_n 1, 1) := by decide +kernel
theorem dX10_stands_89 : decode cX10_stands 89 = .ok (.iload_n 2, 1) := by decide +kernel
theorem dX10_stands_90 : decode cX10_stands 90 = .ok (.iconst (-1), 1) := by decide +kernel
theorem dX10_stands_91 : decode cX10_stands 91 = .ok (.invokevirtual 212, 3) := by decide +kernel
theorem dX10_stands_94 : decode cX10_stands 94 = .ok (.ifCond .ne 9, 3) := by decide +kernel
theorem dX10_stands_97 : decode cX10_stands 97 = .ok (.sipush 10000, 3) := by decide +kernel
theorem dX10_stands_100 : decode cX10_stands 100 = .ok (.iload_n 2, 1) := by decide +kernel
theorem dX10_stands_101 : decode cX10_stands 101 = .ok (.iadd, 1) := by decide +kernel
theorem dX10_stands_102 : decode cX10_stands 102 = .ok (.ireturn, 1) := by decide +kernel
theorem dX10_stands_103 : decode cX10_stands 103 = .ok (.iinc 2 1, 3) := by decide +kernel
theorem dX10_stands_106 : decode cX10_stands 106 = .ok (.goto (-29), 3) := by decide +kernel
theorem dX10_stands_109 : decode cX10_stands 109 = .ok (.iconst (-1), 1) := by decide +kernel
theorem dX10_stands_110 : decode cX10_stands 110 = .ok (.ireturn, 1) := by decide +kernel
theorem dX10_findBound_0 : decode cX10_findBound 0 = .ok (.aload_n 0, 1) := by decide +kernel
theorem dX10_findBound_1 : decode cX10_findBound 1 = .ok (.iconst (-1), 1) := by decide +kernel
theorem dX10_findBound_2 : decode cX10_findBound 2 = .ok (.putfield 216, 3) := by decide +kernel
theorem dX10_findBound_5 : decode cX10_findBound 5 = .ok (.iconst 0, 1) := by decide +kernel
theorem dX10_findBound_6 : decode cX10_findBound 6 = .ok (.istore_n 2, 1) := by decide +kernel
theorem dX10_findBound_7 : decode cX10_findBound 7 = .ok (.iload_n 2, 1) := by decide +kernel
theorem dX10_findBound_8 : decode cX10_findBound 8 = .ok (.aload_n 0, 1) := by decide +kernel
theorem dX10_findBound_9 : decode cX10_findBound 9 = .ok (.getfield 9, 3) := by decide +kernel
theorem dX10_findBound_12 : decode cX10_findBound 12 = .ok (.iload_n 1, 1) := by decide +kernel
theorem dX10_findBound_13 : decode cX10_findBound 13 = .ok (.iaload, 1) := by decide +kernel
theorem dX10_findBound_14 : decode cX10_findBound 14 = .ok (.if_icmp .ge 90, 3) := by decide +kernel
theorem dX10_findBound_17 : decode cX10_findBound 17 = .ok (.aload_n 0, 1) := by decide +kernel
theorem dX10_findBound_18 : decode cX10_findBound 18 = .ok (.iload_n 1, 1) := by decide +kernel
theorem dX10_findBound_19 : decode cX10_findBound 19 = .ok (.iload_n 2, 1) := by decide +kernel
theorem dX10_findBound_20 : decode cX10_findBound 20 = .ok (.iload_n 2, 1) := by decide +kernel
theorem dX10_findBound_21 : decode cX10_findBound 21 = .ok (.invokevirtual 212, 3) := by decide +kernel
theorem dX10_findBound_24 : decode cX10_findBound 24 = .ok (.i2l, 1) := by decide +kernel
theorem dX10_findBound_25 : decode cX10_findBound 25 = .ok (.aload_n 0, 1) := by decide +kernel
theorem dX10_findBound_26 : decode cX10_findBound 26 = .ok (.iload_n 1, 1) := by decide +kernel
theorem dX10_findBound_27 : decode cX10_findBound 27 = .ok (.iconst (-1), 1) := by decide +kernel
theorem dX10_findBound_28 : decode cX10_findBound 28 = .ok (.iconst (-1), 1) := by decide +kernel
theorem dX10_findBound_29 : decode cX10_findBound 29 = .ok (.invokevirtual 212, 3) := by decide +kernel
theorem dX10_findBound_32 : decode cX10_findBound 32 = .ok (.i2l, 1) := by decide +kernel
theorem dX10_findBound_33 : decode cX10_findBound 33 = .ok (.lmul, 1) := by decide +kernel
theorem dX10_findBound_34 : decode cX10_findBound 34 = .ok (.lstore_n 3, 1) := by decide +kernel
theorem dX10_findBound_35 : decode cX10_findBound 35 = .ok (.aload_n 0, 1) := by decide +kernel
theorem dX10_findBound_36 : decode cX10_findBound 36 = .ok (.iload_n 1, 1) := by decide +kernel
theorem dX10_findBound_37 : decode cX10_findBound 37 = .ok (.iload_n 2, 1) := by decide +kernel
theorem dX10_findBound_38 : decode cX10_findBound 38 = .ok (.iconst (-1), 1) := by decide +kernel
theorem dX10_findBound_39 : decode cX10_findBound 39 = .ok (.invokevirtual 212, 3) := by decide +kernel
theorem dX10_findBound_42 : decode cX10_findBound 42 = .ok (.i2l, 1) := by decide +kernel
theorem dX10_findBound_43 : decode cX10_findBound 43 = .ok (.aload_n 0, 1) := by decide +kernel
theorem dX10_findBound_44 : decode cX10_findBound 44 = .ok (.iload_n 1, 1) := by decide +kernel
theorem dX10_findBound_45 : decode cX10_findBound 45 = .ok (.iload_n 2, 1) := by decide +kernel
theorem dX10_findBound_46 : decode cX10_findBound 46 = .ok (.iconst (-1), 1) := by decide +kernel
theorem dX10_findBound_47 : decode cX10_findBound 47 = .ok (.invokevirtual 212, 3) := by decide +kernel
theorem dX10_findBound_50 : decode cX10_findBound 50 = .ok (.i2l, 1) := by decide +kernel
theorem dX10_findBound_51 : decode cX10_findBound 51 = .ok (.lmul, 1) := by decide +kernel
theorem dX10_findBound_52 : decode cX10_findBound 52 = .ok (.lstore 5, 2) := by decide +kernel
theorem dX10_findBound_54 : decode cX10_findBound 54 = .ok (.aload_n 0, 1) := by decide +kernel
theorem dX10_findBound_55 : decode cX10_findBound 55 = .ok (.getfield 216, 3) := by decide +kernel
theorem dX10_findBound_58 : decode cX10_findBound 58 = .ok (.iconst (-1), 1) := by decide +kernel
theorem dX10_findBound_59 : decode cX10_findBound 59 = .ok (.if_icmp .eq 23, 3) := by decide +kernel
theorem dX10_findBound_62 : decode cX10_findBound 62 = .ok (.lload_n 3, 1) := by decide +kernel
theorem dX10_findBound_63 : decode cX10_findBound 63 = .ok (.aload_n 0, 1) := by decide +kernel
theorem dX10_findBound_64 : decode cX10_findBound 64 = .ok (.getfield 219, 3) := by decide +kernel
theorem dX10_findBound_67 : decode cX10_findBound 67 = .ok (.lmul, 1) := by decide +kernel
theorem dX10_findBound_68 : decode cX10_findBound 68 = .ok (.aload_n 0, 1) := by decide +kernel
theorem dX10_findBound_69 : decode cX10_findBound 69 = .ok (.getfield 223, 3) := by decide +kernel
theorem dX10_findBound_72 : decode cX10_findBound 72 = .ok (.lload 5, 2) := by decide +kernel
theorem dX10_findBound_74 : decode cX10_findBound 74 = .ok (.lmul, 1) := by decide +kernel
theorem dX10_findBound_75 : decode cX10_findBound 75 = .ok (.lcmp, 1) := by decide +kernel
theorem dX10_findBound_76 : decode cX10_findBound 76 = .ok (.ifCond .gt 6, 3) := by decide +kernel
theorem dX10_findBound_79 : decode cX10_findBound 79 = .ok (.goto 19, 3) := by decide +kernel
theorem dX10_findBound_82 : decode cX10_findBound 82 = .ok (.aload_n 0, 1) := by decide +kernel
theorem dX10_findBound_83 : decode cX10_findBound 83 = .ok (.iload_n 2, 1) := by decide +kernel
theorem dX10_findBound_84 : decode cX10_findBound 84 = .ok (.putfield 216, 3) := by decide +kernel
theorem dX10_findBound_87 : decode cX10_findBound 87 = .ok (.aload_n 0, 1) := by decide +kernel
theorem dX10_findBound_88 : decode cX10_findBound 88 = .ok (.lload_n 3, 1) := by decide +kernel
theorem dX10_findBound_89 : decode cX10_findBound 89 = .ok (.putfield 223, 3) := by decide +kernel
theorem dX10_findBound_92 : decode cX10_findBound 92 = .ok (.aload_n 0, 1) := by decide +kernel
theorem dX10_findBound_93 : decode cX10_findBound 93 = .ok (.lload 5, 2) := by decide +kernel
theorem dX10_findBound_95 : decode cX10_findBound 95 = .ok (.putfield 219, 3) := by decide +kernel
theorem dX10_findBound_98 : decode cX10_findBound 98 = .ok (.iinc 2 1, 3) := by decide +kernel
theorem dX10_findBound_101 : decode cX10_findBound 101 = .ok (.goto (-94), 3) := by decide +kernel
theorem dX10_findBound_104 : decode cX10_findBound 104 = .ok (.aload_n 0, 1) := by decide +kernel
theorem dX10_findBound_105 : decode cX10_findBound 105 = .ok (.getfield 223, 3) := by decide +kernel
theorem dX10_findBound_108 : decode cX10_findBound 108 = .ok (.lstore_n 2, 1) := by decide +kernel
theorem dX10_findBound_109 : decode cX10_findBound 109 = .ok (.aload_n 0, 1) := by decide +kernel
theorem dX10_findBound_110 : decode cX10_findBound 110 = .ok (.getfield 219, 3) := by decide +kernel
theorem dX10_findBound_113 : decode cX10_findBound 113 = .ok (.lstore 4, 2) := by decide +kernel
theorem dX10_findBound_115 : decode cX10_findBound 115 = .ok (.lload 4, 2) := by decide +kernel
theorem dX10_findBound_117 : decode cX10_findBound 117 = .ok (.lconst 0, 1) := by decide +kernel
theorem dX10_findBound_118 : decode cX10_findBound 118 = .ok (.lcmp, 1) := by decide +kernel
theorem dX10_findBound_119 : decode cX10_findBound 119 = .ok (.ifCond .eq 19, 3) := by decide +kernel
theorem dX10_findBound_122 : decode cX10_findBound 122 = .ok (.lload_n 2, 1) := by decide +kernel
theorem dX10_findBound_123 : decode cX10_findBound 123 = .ok (.lload 4, 2) := by decide +kernel
theorem dX10_findBound_125 : decode cX10_findBound 125 = .ok (.lrem, 1) := by decide +kernel
theorem dX10_findBound_126 : decode cX10_findBound 126 = .ok (.lstore 6, 2) := by decide +kernel
theorem dX10_findBound_128 : decode cX10_findBound 128 = .ok (.lload 4, 2) := by decide +kernel
theorem dX10_findBound_130 : decode cX10_findBound 130 = .ok (.lstore_n 2, 1) := by decide +kernel
theorem dX10_findBound_131 : decode cX10_findBound 131 = .ok (.lload 6, 2) := by decide +kernel
theorem dX10_findBound_133 : decode cX10_findBound 133 = .ok (.lstore 4, 2) := by decide +kernel
theorem dX10_findBound_135 : decode cX10_findBound 135 = .ok (.goto (-20), 3) := by decide +kernel
theorem dX10_findBound_138 : decode cX10_findBound 138 = .ok (.aload_n 0, 1) := by decide +kernel
theorem dX10_findBound_139 : decode cX10_findBound 139 = .ok (.dup, 1) := by decide +kernel
theorem dX10_findBound_140 : decode cX10_findBound 140 = .ok (.getfield 223, 3) := by decide +kernel
theorem dX10_findBound_143 : decode cX10_findBound 143 = .ok (.lload_n 2, 1) := by decide +kernel
theorem dX10_findBound_144 : decode cX10_findBound 144 = .ok (.ldiv, 1) := by decide +kernel
theorem dX10_findBound_145 : decode cX10_findBound 145 = .ok (.putfield 223, 3) := by decide +kernel
theorem dX10_findBound_148 : decode cX10_findBound 148 = .ok (.aload_n 0, 1) := by decide +kernel
theorem dX10_findBound_149 : decode cX10_findBound 149 = .ok (.dup, 1) := by decide +kernel
theorem dX10_findBound_150 : decode cX10_findBound 150 = .ok (.getfield 219, 3) := by decide +kernel
theorem dX10_findBound_153 : decode cX10_findBound 153 = .ok (.lload_n 2, 1) := by decide +kernel
theorem dX10_findBound_154 : decode cX10_findBound 154 = .ok (.ldiv, 1) := by decide +kernel
theorem dX10_findBound_155 : decode cX10_findBound 155 = .ok (.putfield 219, 3) := by decide +kernel
theorem dX10_findBound_158 : decode cX10_findBound 158 = .ok (.return_, 1) := by decide +kernel
theorem dX10_bound_0 : decode cX10_bound 0 = .ok (.iload_n 1, 1) := by decide +kernel
theorem dX10_bound_1 : decode cX10_bound 1 = .ok (.invokestatic 85, 3) := by decide +kernel
theorem dX10_bound_4 : decode cX10_bound 4 = .ok (.ifCond .eq 15, 3) := by decide +kernel
theorem dX10_bound_7 : decode cX10_bound 7 = .ok (.iload_n 2, 1) := by decide +kernel
theorem dX10_bound_8 : decode cX10_bound 8 = .ok (.i2l, 1) := by decide +kernel
theorem dX10_bound_9 : decode cX10_bound 9 = .ok (.lconst 0, 1) := by decide +kernel
theorem dX10_bound_10 : decode cX10_bound 10 = .ok (.ldc2_w 226, 3) := by decide +kernel
theorem dX10_bound_13 : decode cX10_bound 13 = .ok (.invokestatic 81, 3) := by decide +kernel
theorem dX10_bound_16 : decode cX10_bound 16 = .ok (.ifCond .ne 6, 3) := by decide +kernel
theorem dX10_bound_19 : decode cX10_bound 19 = .ok (.bipush (-2), 2) := by decide +kernel
theorem dX10_bound_21 : decode cX10_bound 21 = .ok (.ireturn, 1) := by decide +kernel
theorem dX10_bound_22 : decode cX10_bound 22 = .ok (.aload_n 0, 1) := by decide +kernel
theorem dX10_bound_23 : decode cX10_bound 23 = .ok (.iload_n 1, 1) := by decide +kernel
theorem dX10_bound_24 : decode cX10_bound 24 = .ok (.invokevirtual 228, 3) := by decide +kernel
theorem dX10_bound_27 : decode cX10_bound 27 = .ok (.iconst (-1), 1) := by decide +kernel
theorem dX10_bound_28 : decode cX10_bound 28 = .ok (.if_icmp .eq 5, 3) := by decide +kernel
theorem dX10_bound_31 : decode cX10_bound 31 = .ok (.iconst (-1), 1) := by decide +kernel
theorem dX10_bound_32 : decode cX10_bound 32 = .ok (.ireturn, 1) := by decide +kernel
theorem dX10_bound_33 : decode cX10_bound 33 = .ok (.aload_n 0, 1) := by decide +kernel
theorem dX10_bound_34 : decode cX10_bound 34 = .ok (.iload_n 1, 1) := by decide +kernel
theorem dX10_bound_35 : decode cX10_bound 35 = .ok (.invokevirtual 231, 3) := by decide +kernel
theorem dX10_bound_38 : decode cX10_bound 38 = .ok (.iload_n 2, 1) := by decide +kernel
theorem dX10_bound_39 : decode cX10_bound 39 = .ok (.ifCond .ne 11, 3) := by decide +kernel
theorem dX10_bound_42 : decode cX10_bound 42 = .ok (.aload_n 0, 1) := by decide +kernel
theorem dX10_bound_43 : decode cX10_bound 43 = .ok (.getfield 223, 3) := by decide +kernel
theorem dX10_bound_46 : decode cX10_bound 46 = .ok (.l2i, 1) := by decide +kernel
theorem dX10_bound_47 : decode cX10_bound 47 = .ok (.goto 20, 3) := by decide +kernel
theorem dX10_bound_50 : decode cX10_bound 50 = .ok (.iload_n 2, 1) := by decide +kernel
theorem dX10_bound_51 : decode cX10_bound 51 = .ok (.iconst 1, 1) := by decide +kernel
theorem dX10_bound_52 : decode cX10_bound 52 = .ok (.if_icmp .ne 11, 3) := by decide +kernel
theorem dX10_bound_55 : decode cX10_bound 55 = .ok (.aload_n 0, 1) := by decide +kernel
theorem dX10_bound_56 : decode cX10_bound 56 = .ok (.getfield 219, 3) := by decide +kernel
theorem dX10_bound_59 : decode cX10_bound 59 = .ok (.l2i, 1) := by decide +kernel
theorem dX10_bound_60 : decode cX10_bound 60 = .ok (.goto 7, 3) := by decide +kernel
theorem dX10_bound_63 : decode cX10_bound 63 = .ok (.aload_n 0, 1) := by decide +kernel
theorem dX10_bound_64 : decode cX10_bound 64 = .ok (.getfield 216, 3) := by decide +kernel
theorem dX10_bound_67 : decode cX10_bound 67 = .ok (.ireturn, 1) := by decide +kernel
theorem dX10_raise_0 : decode cX10_raise 0 = .ok (.iconst 0, 1) := by decide +kernel
theorem dX10_raise_1 : decode cX10_raise 1 = .ok (.istore 5, 2) := by decide +kernel
theorem dX10_raise_3 : decode cX10_raise 3 = .ok (.iload 5, 2) := by decide +kernel
theorem dX10_raise_5 : decode cX10_raise 5 = .ok (.bipush 12, 2) := by decide +kernel
theorem dX10_raise_7 : decode cX10_raise 7 = .ok (.if_icmp .ge 14, 3) := by decide +kernel
theorem dX10_raise_10 : decode cX10_raise 10 = .ok (.aload_n 0, 1) := by decide +kernel
theorem dX10_raise_11 : decode cX10_raise 11 = .ok (.iload 5, 2) := by decide +kernel
theorem dX10_raise_13 : decode cX10_raise 13 = .ok (.lconst 0, 1) := by decide +kernel
theorem dX10_raise_14 : decode cX10_raise 14 = .ok (.lastore, 1) := by decide +kernel
theorem dX10_raise_15 : decode cX10_raise 15 = .ok (.iinc 5 1, 3) := by decide +kernel
theorem dX10_raise_18 : decode cX10_raise 18 = .ok (.goto (-15), 3) := by decide +kernel
theorem dX10_raise_21 : decode cX10_raise 21 = .ok (.aload_n 0, 1) := by decide +kernel
theorem dX10_raise_22 : decode cX10_raise 22 = .ok (.iconst 0, 1) := by decide +kernel
theorem dX10_raise_23 : decode cX10_raise 23 = .ok (.iload_n 1, 1) := by decide +kernel
theorem dX10_raise_24 : decode cX10_raise 24 = .ok (.i2l, 1) := by decide +kernel
theorem dX10_raise_25 : decode cX10_raise 25 = .ok (.lastore, 1) := by decide +kernel
theorem dX10_raise_26 : decode cX10_raise 26 = .ok (.iconst 0, 1) := by decide +kernel
theorem dX10_raise_27 : decode cX10_raise 27 = .ok (.istore 5, 2) := by decide +kernel
theorem dX10_raise_29 : decode cX10_raise 29 = .ok (.iload 5, 2) := by decide +kernel
theorem dX10_raise_31 : decode cX10_raise 31 = .ok (.iload 4, 2) := by decide +kernel
theorem dX10_raise_33 : decode cX10_raise 33 = .ok (.if_icmp .ge 57, 3) := by decide +kernel
theorem dX10_raise_36 : decode cX10_raise 36 = .ok (.lconst 0, 1) := by decide +kernel
theorem dX10_raise_37 : decode cX10_raise 37 = .ok (.lstore 6, 2) := by decide +kernel
theorem dX10_raise_39 : decode cX10_raise 39 = .ok (.iconst 0, 1) := by decide +kernel
theorem dX10_raise_40 : decode cX10_raise 40 = .ok (.istore 8, 2) := by decide +kernel
theorem dX10_raise_42 : decode cX10_raise 42 = .ok (.iload 8, 2) := by decide +kernel
theorem dX10_raise_44 : decode cX10_raise 44 = .ok (.bipush 12, 2) := by decide +kernel
theorem dX10_raise_46 : decode cX10_raise 46 = .ok (.if_icmp .ge 38, 3) := by decide +kernel
theorem dX10_raise_49 : decode cX10_raise 49 = .ok (.aload_n 0, 1) := by decide +kernel
theorem dX10_raise_50 : decode cX10_raise 50 = .ok (.iload 8, 2) := by decide +kernel
theorem dX10_raise_52 : decode cX10_raise 52 = .ok (.laload, 1) := by decide +kernel
theorem dX10_raise_53 : decode cX10_raise 53 = .ok (.lload_n 2, 1) := by decide +kernel
theorem dX10_raise_54 : decode cX10_raise 54 = .ok (.lmul, 1) := by decide +kernel
theorem dX10_raise_55 : decode cX10_raise 55 = .ok (.lload 6, 2) := by decide +kernel
theorem dX10_raise_57 : decode cX10_raise 57 = .ok (.ladd, 1) := by decide +kernel
theorem dX10_raise_58 : decode cX10_raise 58 = .ok (.lstore 9, 2) := by decide +kernel
theorem dX10_raise_60 : decode cX10_raise 60 = .ok (.aload_n 0, 1) := by decide +kernel
theorem dX10_raise_61 : decode cX10_raise 61 = .ok (.iload 8, 2) := by decide +kernel
theorem dX10_raise_63 : decode cX10_raise 63 = .ok (.lload 9, 2) := by decide +kernel
theorem dX10_raise_65 : decode cX10_raise 65 = .ok (.ldc2_w 234, 3) := by decide +kernel
theorem dX10_raise_68 : decode cX10_raise 68 = .ok (.lrem, 1) := by decide +kernel
theorem dX10_raise_69 : decode cX10_raise 69 = .ok (.lastore, 1) := by decide +kernel
theorem dX10_raise_70 : decode cX10_raise 70 = .ok (.lload 9, 2) := by decide +kernel
theorem dX10_raise_72 : decode cX10_raise 72 = .ok (.ldc2_w 234, 3) := by decide +kernel
theorem dX10_raise_75 : decode cX10_raise 75 = .ok (.ldiv, 1) := by decide +kernel
theorem dX10_raise_76 : decode cX10_raise 76 = .ok (.lstore 6, 2) := by decide +kernel
theorem dX10_raise_78 : decode cX10_raise 78 = .ok (.iinc 8 1, 3) := by decide +kernel
theorem dX10_raise_81 : decode cX10_raise 81 = .ok (.goto (-39), 3) := by decide +kernel
theorem dX10_raise_84 : decode cX10_raise 84 = .ok (.iinc 5 1, 3) := by decide +kernel
theorem dX10_raise_87 : decode cX10_raise 87 = .ok (.goto (-58), 3) := by decide +kernel
theorem dX10_raise_90 : decode cX10_raise 90 = .ok (.return_, 1) := by decide +kernel
theorem dX10_held_0 : decode cX10_held 0 = .ok (.bipush 11, 2) := by decide +kernel
theorem dX10_held_2 : decode cX10_held 2 = .ok (.istore_n 1, 1) := by decide +kernel
theorem dX10_held_3 : decode cX10_held 3 = .ok (.iload_n 1, 1) := by decide +kernel
theorem dX10_held_4 : decode cX10_held 4 = .ok (.ifCond .lt 47, 3) := by decide +kernel
theorem dX10_held_7 : decode cX10_held 7 = .ok (.aload_n 0, 1) := by decide +kernel
theorem dX10_held_8 : decode cX10_held 8 = .ok (.getfield 67, 3) := by decide +kernel
theorem dX10_held_11 : decode cX10_held 11 = .ok (.iload_n 1, 1) := by decide +kernel
theorem dX10_held_12 : decode cX10_held 12 = .ok (.laload, 1) := by decide +kernel
theorem dX10_held_13 : decode cX10_held 13 = .ok (.aload_n 0, 1) := by decide +kernel
theorem dX10_held_14 : decode cX10_held 14 = .ok (.getfield 70, 3) := by decide +kernel
theorem dX10_held_17 : decode cX10_held 17 = .ok (.iload_n 1, 1) := by decide +kernel
theorem dX10_held_18 : decode cX10_held 18 = .ok (.laload, 1) := by decide +kernel
theorem dX10_held_19 : decode cX10_held 19 = .ok (.lcmp, 1) := by decide +kernel
theorem dX10_held_20 : decode cX10_held 20 = .ok (.ifCond .eq 25, 3) := by decide +kernel
theorem dX10_held_23 : decode cX10_held 23 = .ok (.aload_n 0, 1) := by decide +kernel
theorem dX10_held_24 : decode cX10_held 24 = .ok (.getfield 67, 3) := by decide +kernel
theorem dX10_held_27 : decode cX10_held 27 = .ok (.iload_n 1, 1) := by decide +kernel
theorem dX10_held_28 : decode cX10_held 28 = .ok (.laload, 1) := by decide +kernel
theorem dX10_held_29 : decode cX10_held 29 = .ok (.aload_n 0, 1) := by decide +kernel
theorem dX10_held_30 : decode cX10_held 30 = .ok (.getfield 70, 3) := by decide +kernel
theorem dX10_held_33 : decode cX10_held 33 = .ok (.iload_n 1, 1) := by decide +kernel
theorem dX10_held_34 : decode cX10_held 34 = .ok (.laload, 1) := by decide +kernel
theorem dX10_held_35 : decode cX10_held 35 = .ok (.lcmp, 1) := by decide +kernel
theorem dX10_held_36 : decode cX10_held 36 = .ok (.ifCond .ge 7, 3) := by decide +kernel
theorem dX10_held_39 : decode cX10_held 39 = .ok (.iconst (-1), 1) := by decide +kernel
theorem dX10_held_40 : decode cX10_held 40 = .ok (.goto 4, 3) := by decide +kernel
theorem dX10_held_43 : decode cX10_held 43 = .ok (.iconst 1, 1) := by decide +kernel
theorem dX10_held_44 : decode cX10_held 44 = .ok (.ireturn, 1) := by decide +kernel
theorem dX10_held_45 : decode cX10_held 45 = .ok (.iinc 1 (-1), 3) := by decide +kernel
theorem dX10_held_48 : decode cX10_held 48 = .ok (.goto (-45), 3) := by decide +kernel
theorem dX10_held_51 : decode cX10_held 51 = .ok (.iconst 0, 1) := by decide +kernel
theorem dX10_held_52 : decode cX10_held 52 = .ok (.ireturn, 1) := by decide +kernel
theorem dX10_heldRates_0 : decode cX10_heldRates 0 = .ok (.aload_n 0, 1) := by decide +kernel
theorem dX10_heldRates_1 : decode cX10_heldRates 1 = .ok (.getfield 67, 3) := by decide +kernel
theorem dX10_heldRates_4 : decode cX10_heldRates 4 = .ok (.iconst 1, 1) := by decide +kernel
theorem dX10_heldRates_5 : decode cX10_heldRates 5 = .ok (.iload_n 1, 1) := by decide +kernel
theorem dX10_heldRates_6 : decode cX10_heldRates 6 = .ok (.i2l, 1) := by decide +kernel
theorem dX10_heldRates_7 : decode cX10_heldRates 7 = .ok (.iload 4, 2) := by decide +kernel
theorem dX10_heldRates_9 : decode cX10_heldRates 9 = .ok (.invokestatic 236, 3) := by decide +kernel
theorem dX10_heldRates_12 : decode cX10_heldRates 12 = .ok (.aload_n 0, 1) := by decide +kernel
theorem dX10_heldRates_13 : decode cX10_heldRates 13 = .ok (.getfield 70, 3) := by decide +kernel
theorem dX10_heldRates_16 : decode cX10_heldRates 16 = .ok (.iconst 1, 1) := by decide +kernel
theorem dX10_heldRates_17 : decode cX10_heldRates 17 = .ok (.iload_n 3, 1) := by decide +kernel
theorem dX10_heldRates_18 : decode cX10_heldRates 18 = .ok (.i2l, 1) := by decide +kernel
theorem dX10_heldRates_19 : decode cX10_heldRates 19 = .ok (.iload_n 2, 1) := by decide +kernel
theorem dX10_heldRates_20 : decode cX10_heldRates 20 = .ok (.invokestatic 236, 3) := by decide +kernel
theorem dX10_heldRates_23 : decode cX10_heldRates 23 = .ok (.aload_n 0, 1) := by decide +kernel
theorem dX10_heldRates_24 : decode cX10_heldRates 24 = .ok (.invokevirtual 240, 3) := by decide +kernel
theorem dX10_heldRates_27 : decode cX10_heldRates 27 = .ok (.ireturn, 1) := by decide +kernel
theorem dX10_compare_0 : decode cX10_compare 0 = .ok (.iload_n 1, 1) := by decide +kernel
theorem dX10_compare_1 : decode cX10_compare 1 = .ok (.i2l, 1) := by decide +kernel
theorem dX10_compare_2 : decode cX10_compare 2 = .ok (.lconst 1, 1) := by decide +kernel
theorem dX10_compare_3 : decode cX10_compare 3 = .ok (.ldc2_w 244, 3) := by decide +kernel
theorem dX10_compare_6 : decode cX10_compare 6 = .ok (.invokestatic 81, 3) := by decide +kernel
theorem dX10_compare_9 : decode cX10_compare 9 = .ok (.ifCond .eq 52, 3) := by decide +kernel
theorem dX10_compare_12 : decode cX10_compare 12 = .ok (.iload_n 3, 1) := by decide +kernel
theorem dX10_compare_13 : decode cX10_compare 13 = .ok (.i2l, 1) := by decide +kernel
theorem dX10_compare_14 : decode cX10_compare 14 = .ok (.lconst 1, 1) := by decide +kernel
theorem dX10_compare_15 : decode cX10_compare 15 = .ok (.ldc2_w 244, 3) := by decide +kernel
theorem dX10_compare_18 : decode cX10_compare 18 = .ok (.invokestatic 81, 3) := by decide +kernel
theorem dX10_compare_21 : decode cX10_compare 21 = .ok (.ifCond .eq 40, 3) := by decide +kernel
theorem dX10_compare_24 : decode cX10_compare 24 = .ok (.iload_n 2, 1) := by decide +kernel
theorem dX10_compare_25 : decode cX10_compare 25 = .ok (.i2l, 1) := by decide +kernel
theorem dX10_compare_26 : decode cX10_compare 26 = .ok (.lconst 1, 1) := by decide +kernel
theorem dX10_compare_27 : decode cX10_compare 27 = .ok (.ldc2_w 246, 3) := by decide +kernel
theorem dX10_compare_30 : decode cX10_compare 30 = .ok (.invokestatic 81, 3) := by decide +kernel
theorem dX10_compare_33 : decode cX10_compare 33 = .ok (.ifCond .eq 28, 3) := by decide +kernel
theorem dX10_compare_36 : decode cX10_compare 36 = .ok (.iload 4, 2) := by decide +kernel
theorem dX10_compare_38 : decode cX10_compare 38 = .ok (.i2l, 1) := by decide +kernel
theorem dX10_compare_39 : decode cX10_compare 39 = .ok (.lconst 1, 1) := by decide +kernel
theorem dX10_compare_40 : decode cX10_compare 40 = .ok (.ldc2_w 246, 3) := by decide +kernel
theorem dX10_compare_43 : decode cX10_compare 43 = .ok (.invokestatic 81, 3) := by decide +kernel
theorem dX10_compare_46 : decode cX10_compare 46 = .ok (.ifCond .eq 15, 3) := by decide +kernel
theorem dX10_compare_49 : decode cX10_compare 49 = .ok (.aload_n 0, 1) := by decide +kernel
theorem dX10_compare_50 : decode cX10_compare 50 = .ok (.iload_n 1, 1) := by decide +kernel
theorem dX10_compare_51 : decode cX10_compare 51 = .ok (.iload_n 2, 1) := by decide +kernel
theorem dX10_compare_52 : decode cX10_compare 52 = .ok (.iload_n 3, 1) := by decide +kernel
theorem dX10_compare_53 : decode cX10_compare 53 = .ok (.iload 4, 2) := by decide +kernel
theorem dX10_compare_55 : decode cX10_compare 55 = .ok (.invokevirtual 248, 3) := by decide +kernel
theorem dX10_compare_58 : decode cX10_compare 58 = .ok (.goto 5, 3) := by decide +kernel
theorem dX10_compare_61 : decode cX10_compare 61 = .ok (.bipush (-2), 2) := by decide +kernel
theorem dX10_compare_63 : decode cX10_compare 63 = .ok (.ireturn, 1) := by decide +kernel
theorem dX10_bestOf_0 : decode cX10_bestOf 0 = .ok (.iconst (-1), 1) := by decide +kernel
theorem dX10_bestOf_1 : decode cX10_bestOf 1 = .ok (.istore_n 2, 1) := by decide +kernel
theorem dX10_bestOf_2 : decode cX10_bestOf 2 = .ok (.iconst 1, 1) := by decide +kernel
theorem dX10_bestOf_3 : decode cX10_bestOf 3 = .ok (.istore_n 3, 1) := by decide +kernel
theorem dX10_bestOf_4 : decode cX10_bestOf 4 = .ok (.iload_n 3, 1) := by decide +kernel
theorem dX10_bestOf_5 : decode cX10_bestOf 5 = .ok (.aload_n 0, 1) := by decide +kernel
theorem dX10_bestOf_6 : decode cX10_bestOf 6 = .ok (.getfield 9, 3) := by decide +kernel
theorem dX10_bestOf_9 : decode cX10_bestOf 9 = .ok (.iload_n 1, 1) := by decide +kernel
theorem dX10_bestOf_10 : decode cX10_bestOf 10 = .ok (.iaload, 1) := by decide +kernel
theorem dX10_bestOf_11 : decode cX10_bestOf 11 = .ok (.iconst 1, 1) := by decide +kernel
theorem dX10_bestOf_12 : decode cX10_bestOf 12 = .ok (.if_icmp .ne 7, 3) := by decide +kernel
theorem dX10_bestOf_15 : decode cX10_bestOf 15 = .ok (.iconst 1, 1) := by decide +kernel
theorem dX10_bestOf_16 : decode cX10_bestOf 16 = .ok (.goto 5, 3) := by decide +kernel
theorem dX10_bestOf_19 : decode cX10_bestOf 19 = .ok (.bipush 6, 2) := by decide +kernel
theorem dX10_bestOf_21 : decode cX10_bestOf 21 = .ok (.if_icmp .gt 64, 3) := by decide +kernel
theorem dX10_bestOf_24 : decode cX10_bestOf 24 = .ok (.aload_n 0, 1) := by decide +kernel
theorem dX10_bestOf_25 : decode cX10_bestOf 25 = .ok (.iload_n 1, 1) := by decide +kernel
theorem dX10_bestOf_26 : decode cX10_bestOf 26 = .ok (.iload_n 3, 1) := by decide +kernel
theorem dX10_bestOf_27 : decode cX10_bestOf 27 = .ok (.bipush 64, 2) := by decide +kernel
theorem dX10_bestOf_29 : decode cX10_bestOf 29 = .ok (.invokevirtual 168, 3) := by decide +kernel
theorem dX10_bestOf_32 : decode cX10_bestOf 32 = .ok (.ifCond .ne 6, 3) := by decide +kernel
theorem dX10_bestOf_35 : decode cX10_bestOf 35 = .ok (.goto 50, 3) := by decide +kernel
theorem dX10_bestOf_38 : decode cX10_bestOf 38 = .ok (.aload_n 0, 1) := by decide +kernel
theorem dX10_bestOf_39 : decode cX10_bestOf 39 = .ok (.aload_n 0, 1) := by decide +kernel
theorem dX10_bestOf_40 : decode cX10_bestOf 40 = .ok (.invokevirtual 171, 3) := by decide +kernel
theorem dX10_bestOf_43 : decode cX10_bestOf 43 = .ok (.invokevirtual 175, 3) := by decide +kernel
theorem dX10_bestOf_46 : decode cX10_bestOf 46 = .ok (.istore 4, 2) := by decide +kernel
theorem dX10_bestOf_48 : decode cX10_bestOf 48 = .ok (.iload_n 2, 1) := by decide +kernel
theorem dX10_bestOf_49 : decode cX10_bestOf 49 = .ok (.iconst (-1), 1) := by decide +kernel
theorem dX10_bestOf_50 : decode cX10_bestOf 50 = .ok (.if_icmp .eq 21, 3) := by decide +kernel
theorem dX10_bestOf_53 : decode cX10_bestOf 53 = .ok (.aload_n 0, 1) := by decide +kernel
theorem dX10_bestOf_54 : decode cX10_bestOf 54 = .ok (.iload 4, 2) := by decide +kernel
theorem dX10_bestOf_56 : decode cX10_bestOf 56 = .ok (.iload_n 3, 1) := by decide +kernel
theorem dX10_bestOf_57 : decode cX10_bestOf 57 = .ok (.aload_n 0, 1) := by decide +kernel
theorem dX10_bestOf_58 : decode cX10_bestOf 58 = .ok (.getfield 251, 3) := by decide +kernel
theorem dX10_bestOf_61 : decode cX10_bestOf 61 = .ok (.iload_n 2, 1) := by decide +kernel
theorem dX10_bestOf_62 : decode cX10_bestOf 62 = .ok (.invokevirtual 248, 3) := by decide +kernel
theorem dX10_bestOf_65 : decode cX10_bestOf 65 = .ok (.ifCond .gt 6, 3) := by decide +kernel
theorem dX10_bestOf_68 : decode cX10_bestOf 68 = .ok (.goto 11, 3) := by decide +kernel
theorem dX10_bestOf_71 : decode cX10_bestOf 71 = .ok (.iload_n 3, 1) := by decide +kernel
theorem dX10_bestOf_72 : decode cX10_bestOf 72 = .ok (.istore_n 2, 1) := by decide +kernel
theorem dX10_bestOf_73 : decode cX10_bestOf 73 = .ok (.aload_n 0, 1) := by decide +kernel
theorem dX10_bestOf_74 : decode cX10_bestOf 74 = .ok (.iload 4, 2) := by decide +kernel
theorem dX10_bestOf_76 : decode cX10_bestOf 76 = .ok (.putfield 251, 3) := by decide +kernel
theorem dX10_bestOf_79 : decode cX10_bestOf 79 = .ok (.iinc 3 1, 3) := by decide +kernel
theorem dX10_bestOf_82 : decode cX10_bestOf 82 = .ok (.goto (-78), 3) := by decide +kernel
theorem dX10_bestOf_85 : decode cX10_bestOf 85 = .ok (.iload_n 2, 1) := by decide +kernel
theorem dX10_bestOf_86 : decode cX10_bestOf 86 = .ok (.ireturn, 1) := by decide +kernel
theorem dX10_best_0 : decode cX10_best 0 = .ok (.iload_n 1, 1) := by decide +kernel
theorem dX10_best_1 : decode cX10_best 1 = .ok (.invokestatic 85, 3) := by decide +kernel
theorem dX10_best_4 : decode cX10_best 4 = .ok (.ifCond .eq 11, 3) := by decide +kernel
theorem dX10_best_7 : decode cX10_best 7 = .ok (.aload_n 0, 1) := by decide +kernel
theorem dX10_best_8 : decode cX10_best 8 = .ok (.iload_n 1, 1) := by decide +kernel
theorem dX10_best_9 : decode cX10_best 9 = .ok (.invokevirtual 254, 3) := by decide +kernel
theorem dX10_best_12 : decode cX10_best 12 = .ok (.goto 5, 3) := by decide +kernel
theorem dX10_best_15 : decode cX10_best 15 = .ok (.bipush (-2), 2) := by decide +kernel
theorem dX10_best_17 : decode cX10_best 17 = .ok (.ireturn, 1) := by decide +kernel
theorem dX10_met_0 : decode cX10_met 0 = .ok (.iload_n 1, 1) := by decide +kernel
theorem dX10_met_1 : decode cX10_met 1 = .ok (.invokestatic 85, 3) := by decide +kernel
theorem dX10_met_4 : decode cX10_met 4 = .ok (.ifCond .ne 6, 3) := by decide +kernel
theorem dX10_met_7 : decode cX10_met 7 = .ok (.bipush (-2), 2) := by decide +kernel
theorem dX10_met_9 : decode cX10_met 9 = .ok (.ireturn, 1) := by decide +kernel
theorem dX10_met_10 : decode cX10_met 10 = .ok (.aload_n 0, 1) := by decide +kernel
theorem dX10_met_11 : decode cX10_met 11 = .ok (.iload_n 1, 1) := by decide +kernel
theorem dX10_met_12 : decode cX10_met 12 = .ok (.invokevirtual 254, 3) := by decide +kernel
theorem dX10_met_15 : decode cX10_met 15 = .ok (.istore_n 2, 1) := by decide +kernel
theorem dX10_met_16 : decode cX10_met 16 = .ok (.aload_n 0, 1) := by decide +kernel
theorem dX10_met_17 : decode cX10_met 17 = .ok (.getfield 251, 3) := by decide +kernel
theorem dX10_met_20 : decode cX10_met 20 = .ok (.istore_n 3, 1) := by decide +kernel
theorem dX10_met_21 : decode cX10_met 21 = .ok (.aload_n 0, 1) := by decide +kernel
theorem dX10_met_22 : decode cX10_met 22 = .ok (.iload_n 1, 1) := by decide +kernel
theorem dX10_met_23 : decode cX10_met 23 = .ok (.invokevirtual 196, 3) := by decide +kernel
theorem dX10_met_26 : decode cX10_met 26 = .ok (.iload_n 2, 1) := by decide +kernel
theorem dX10_met_27 : decode cX10_met 27 = .ok (.invokestatic 145, 3) := by decide +kernel
theorem dX10_met_30 : decode cX10_met 30 = .ok (.iload_n 3, 1) := by decide +kernel
theorem dX10_met_31 : decode cX10_met 31 = .ok (.if_icmp .ne 7, 3) := by decide +kernel
theorem dX10_met_34 : decode cX10_met 34 = .ok (.iconst 1, 1) := by decide +kernel
theorem dX10_met_35 : decode cX10_met 35 = .ok (.goto 4, 3) := by decide +kernel
theorem dX10_met_38 : decode cX10_met 38 = .ok (.iconst 0, 1) := by decide +kernel
theorem dX10_met_39 : decode cX10_met 39 = .ok (.istore 4, 2) := by decide +kernel
theorem dX10_met_41 : decode cX10_met 41 = .ok (.aload_n 0, 1) := by decide +kernel
theorem dX10_met_42 : decode cX10_met 42 = .ok (.iload_n 1, 1) := by decide +kernel
theorem dX10_met_43 : decode cX10_met 43 = .ok (.invokevirtual 228, 3) := by decide +kernel
theorem dX10_met_46 : decode cX10_met 46 = .ok (.iconst (-1), 1) := by decide +kernel
theorem dX10_met_47 : decode cX10_met 47 = .ok (.if_icmp .eq 6, 3) := by decide +kernel
theorem dX10_met_50 : decode cX10_met 50 = .ok (.iload 4, 2) := by decide +kernel
theorem dX10_met_52 : decode cX10_met 52 = .ok (.ireturn, 1) := by decide +kernel
theorem dX10_met_53 : decode cX10_met 53 = .ok (.aload_n 0, 1) := by decide +kernel
theorem dX10_met_54 : decode cX10_met 54 = .ok (.iload_n 1, 1) := by decide +kernel
theorem dX10_met_55 : decode cX10_met 55 = .ok (.invokevirtual 231, 3) := by decide +kernel
theorem dX10_met_58 : decode cX10_met 58 = .ok (.aload_n 0, 1) := by decide +kernel
theorem dX10_met_59 : decode cX10_met 59 = .ok (.getfield 67, 3) := by decide +kernel
theorem dX10_met_62 : decode cX10_met 62 = .ok (.iload_n 3, 1) := by decide +kernel
theorem dX10_met_63 : decode cX10_met 63 = .ok (.aload_n 0, 1) := by decide +kernel
theorem dX10_met_64 : decode cX10_met 64 = .ok (.getfield 219, 3) := by decide +kernel
theorem dX10_met_67 : decode cX10_met 67 = .ok (.iload_n 2, 1) := by decide +kernel
theorem dX10_met_68 : decode cX10_met 68 = .ok (.invokestatic 236, 3) := by decide +kernel
theorem dX10_met_71 : decode cX10_met 71 = .ok (.aload_n 0, 1) := by decide +kernel
theorem dX10_met_72 : decode cX10_met 72 = .ok (.getfield 70, 3) := by decide +kernel
theorem dX10_met_75 : decode cX10_met 75 = .ok (.iconst 1, 1) := by decide +kernel
theorem dX10_met_76 : decode cX10_met 76 = .ok (.aload_n 0, 1) := by decide +kernel
theorem dX10_met_77 : decode cX10_met 77 = .ok (.getfield 223, 3) := by decide +kernel
theorem dX10_met_80 : decode cX10_met 80 = .ok (.iload_n 2, 1) := by decide +kernel
theorem dX10_met_81 : decode cX10_met 81 = .ok (.invokestatic 236, 3) := by decide +kernel
theorem dX10_met_84 : decode cX10_met 84 = .ok (.aload_n 0, 1) := by decide +kernel
theorem dX10_met_85 : decode cX10_met 85 = .ok (.invokevirtual 240, 3) := by decide +kernel
theorem dX10_met_88 : decode cX10_met 88 = .ok (.ifCond .ne 10, 3) := by decide +kernel
theorem dX10_met_91 : decode cX10_met 91 = .ok (.iload 4, 2) := by decide +kernel
theorem dX10_met_93 : decode cX10_met 93 = .ok (.iconst 2, 1) := by decide +kernel
theorem dX10_met_94 : decode cX10_met 94 = .ok (.ior, 1) := by decide +kernel
theorem dX10_met_95 : decode cX10_met 95 = .ok (.goto 5, 3) := by decide +kernel
theorem dX10_met_98 : decode cX10_met 98 = .ok (.iload 4, 2) := by decide +kernel
theorem dX10_met_100 : decode cX10_met 100 = .ok (.ireturn, 1) := by decide +kernel
theorem dX10_came_0 : decode cX10_came 0 = .ok (.aload_n 0, 1) := by decide +kernel
theorem dX10_came_1 : decode cX10_came 1 = .ok (.getfield 93, 3) := by decide +kernel
theorem dX10_came_4 : decode cX10_came 4 = .ok (.istore_n 2, 1) := by decide +kernel
theorem dX10_came_5 : decode cX10_came 5 = .ok (.aload_n 0, 1) := by decide +kernel
theorem dX10_came_6 : decode cX10_came 6 = .ok (.iconst 0, 1) := by decide +kernel
theorem dX10_came_7 : decode cX10_came 7 = .ok (.putfield 93, 3) := by decide +kernel
theorem dX10_came_10 : decode cX10_came 10 = .ok (.iload_n 1, 1) := by decide +kernel
theorem dX10_came_11 : decode cX10_came 11 = .ok (.invokestatic 85, 3) := by decide +kernel
theorem dX10_came_14 : decode cX10_came 14 = .ok (.ifCond .ne 6, 3) := by decide +kernel
theorem dX10_came_17 : decode cX10_came 17 = .ok (.bipush (-2), 2) := by decide +kernel
theorem dX10_came_19 : decode cX10_came 19 = .ok (.ireturn, 1) := by decide +kernel
theorem dX10_came_20 : decode cX10_came 20 = .ok (.aload_n 0, 1) := by decide +kernel
theorem dX10_came_21 : decode cX10_came 21 = .ok (.getfield 13, 3) := by decide +kernel
theorem dX10_came_24 : decode cX10_came 24 = .ok (.iload_n 1, 1) := by decide +kernel
theorem dX10_came_25 : decode cX10_came 25 = .ok (.iaload, 1) := by decide +kernel
theorem dX10_came_26 : decode cX10_came 26 = .ok (.iconst 1, 1) := by decide +kernel
theorem dX10_came_27 : decode cX10_came 27 = .ok (.if_icmp .ne 24, 3) := by decide +kernel
theorem dX10_came_30 : decode cX10_came 30 = .ok (.aload_n 0, 1) := by decide +kernel
theorem dX10_came_31 : decode cX10_came 31 = .ok (.getfield 55, 3) := by decide +kernel
theorem dX10_came_34 : decode cX10_came 34 = .ok (.iload_n 1, 1) := by decide +kernel
theorem dX10_came_35 : decode cX10_came 35 = .ok (.if_icmp .ne 16, 3) := by decide +kernel
theorem dX10_came_38 : decode cX10_came 38 = .ok (.aload_n 0, 1) := by decide +kernel
theorem dX10_came_39 : decode cX10_came 39 = .ok (.getfield 178, 3) := by decide +kernel
theorem dX10_came_42 : decode cX10_came 42 = .ok (.aload_n 0, 1) := by decide +kernel
theorem dX10_came_43 : decode cX10_came 43 = .ok (.getfield 25, 3) := by decide +kernel
theorem dX10_came_46 : decode cX10_came 46 = .ok (.iload_n 1, 1) := by decide +kernel
theorem dX10_came_47 : decode cX10_came 47 = .ok (.iaload, 1) := by decide +kernel
theorem dX10_came_48 : decode cX10_came 48 = .ok (.if_icmp .eq 6, 3) := by decide +kernel
theorem dX10_came_51 : decode cX10_came 51 = .ok (.bipush (-4), 2) := by decide +kernel
theorem dX10_came_53 : decode cX10_came 53 = .ok (.ireturn, 1) := by decide +kernel
theorem dX10_came_54 : decode cX10_came 54 = .ok (.iconst 0, 1) := by decide +kernel
theorem dX10_came_55 : decode cX10_came 55 = .ok (.istore_n 3, 1) := by decide +kernel
theorem dX10_came_56 : decode cX10_came 56 = .ok (.iconst 0, 1) := by decide +kernel
theorem dX10_came_57 : decode cX10_came 57 = .ok (.istore 4, 2) := by decide +kernel
theorem dX10_came_59 : decode cX10_came 59 = .ok (.iload 4, 2) := by decide +kernel
theorem dX10_came_61 : decode cX10_came 61 = .ok (.iload_n 2, 1) := by decide +kernel
theorem dX10_came_62 : decode cX10_came 62 = .ok (.if_icmp .ge 73, 3) := by decide +kernel
theorem dX10_came_65 : decode cX10_came 65 = .ok (.aload_n 0, 1) := by decide +kernel
theorem dX10_came_66 : decode cX10_came 66 = .ok (.getfield 28, 3) := by decide +kernel
theorem dX10_came_69 : decode cX10_came 69 = .ok (.iload 4, 2) := by decide +kernel
theorem dX10_came_71 : decode cX10_came 71 = .ok (.baload, 1) := by decide +kernel
theorem dX10_came_72 : decode cX10_came 72 = .ok (.istore 5, 2) := by decide +kernel
theorem dX10_came_74 : decode cX10_came 74 = .ok (.iload 5, 2) := by decide +kernel
theorem dX10_came_76 : decode cX10_came 76 = .ok (.bipush 32, 2) := by decide +kernel
theorem dX10_came_78 : decode cX10_came 78 = .ok (.if_icmp .eq 51, 3) := by decide +kernel
theorem dX10_came_81 : decode cX10_came 81 = .ok (.iload 5, 2) := by decide +kernel
theorem dX10_came_83 : decode cX10_came 83 = .ok (.bipush 10, 2) := by decide +kernel
theorem dX10_came_85 : decode cX10_came 85 = .ok (.if_icmp .ne 6, 3) := by decide +kernel
theorem dX10_came_88 : decode cX10_came 88 = .ok (.goto 41, 3) := by decide +kernel
theorem dX10_came_91 : decode cX10_came 91 = .ok (.iload 5, 2) := by decide +kernel
end
section
theorem dX10_came_93 : decode cX10_came 93 = .ok (.bipush 97, 2) := by decide +kernel
theorem dX10_came_95 : decode cX10_came 95 = .ok (.if_icmp .lt 18, 3) := by decide +kernel
theorem dX10_came_98 : decode cX10_came 98 = .ok (.iload 5, 2) := by decide +kernel
theorem dX10_came_100 : decode cX10_came 100 = .ok (.bipush 120, 2) := by decide +kernel
theorem dX10_came_102 : decode cX10_came 102 = .ok (.if_icmp .gt 11, 3) := by decide +kernel
theorem dX10_came_105 : decode cX10_came 105 = .ok (.iload_n 3, 1) := by decide +kernel
theorem dX10_came_106 : decode cX10_came 106 = .ok (.aload_n 0, 1) := by decide +kernel
theorem dX10_came_107 : decode cX10_came 107 = .ok (.getfield 52, 3) := by decide +kernel
theorem dX10_came_110 : decode cX10_came 110 = .ok (.if_icmp .ne 5, 3) := by decide +kernel
theorem dX10_came_113 : decode cX10_came 113 = .ok (.iconst (-1), 1) := by decide +kernel
theorem dX10_came_114 : decode cX10_came 114 = .ok (.ireturn, 1) := by decide +kernel
theorem dX10_came_115 : decode cX10_came 115 = .ok (.aload_n 0, 1) := by decide +kernel
theorem dX10_came_116 : decode cX10_came 116 = .ok (.getfield 36, 3) := by decide +kernel
theorem dX10_came_119 : decode cX10_came 119 = .ok (.iload_n 3, 1) := by decide +kernel
theorem dX10_came_120 : decode cX10_came 120 = .ok (.iload 5, 2) := by decide +kernel
theorem dX10_came_122 : decode cX10_came 122 = .ok (.bipush 97, 2) := by decide +kernel
theorem dX10_came_124 : decode cX10_came 124 = .ok (.isub, 1) := by decide +kernel
theorem dX10_came_125 : decode cX10_came 125 = .ok (.iastore, 1) := by decide +kernel
theorem dX10_came_126 : decode cX10_came 126 = .ok (.iinc 3 1, 3) := by decide +kernel
theorem dX10_came_129 : decode cX10_came 129 = .ok (.iinc 4 1, 3) := by decide +kernel
theorem dX10_came_132 : decode cX10_came 132 = .ok (.goto (-73), 3) := by decide +kernel
theorem dX10_came_135 : decode cX10_came 135 = .ok (.iload_n 3, 1) := by decide +kernel
theorem dX10_came_136 : decode cX10_came 136 = .ok (.aload_n 0, 1) := by decide +kernel
theorem dX10_came_137 : decode cX10_came 137 = .ok (.getfield 52, 3) := by decide +kernel
theorem dX10_came_140 : decode cX10_came 140 = .ok (.if_icmp .eq 5, 3) := by decide +kernel
theorem dX10_came_143 : decode cX10_came 143 = .ok (.iconst (-1), 1) := by decide +kernel
theorem dX10_came_144 : decode cX10_came 144 = .ok (.ireturn, 1) := by decide +kernel
theorem dX10_came_145 : decode cX10_came 145 = .ok (.iconst 0, 1) := by decide +kernel
theorem dX10_came_146 : decode cX10_came 146 = .ok (.istore 4, 2) := by decide +kernel
theorem dX10_came_148 : decode cX10_came 148 = .ok (.iconst 0, 1) := by decide +kernel
theorem dX10_came_149 : decode cX10_came 149 = .ok (.istore 5, 2) := by decide +kernel
theorem dX10_came_151 : decode cX10_came 151 = .ok (.iload 5, 2) := by decide +kernel
theorem dX10_came_153 : decode cX10_came 153 = .ok (.aload_n 0, 1) := by decide +kernel
theorem dX10_came_154 : decode cX10_came 154 = .ok (.getfield 49, 3) := by decide +kernel
theorem dX10_came_157 : decode cX10_came 157 = .ok (.if_icmp .ge 123, 3) := by decide +kernel
theorem dX10_came_160 : decode cX10_came 160 = .ok (.iconst 1, 1) := by decide +kernel
theorem dX10_came_161 : decode cX10_came 161 = .ok (.istore 6, 2) := by decide +kernel
theorem dX10_came_163 : decode cX10_came 163 = .ok (.aload_n 0, 1) := by decide +kernel
theorem dX10_came_164 : decode cX10_came 164 = .ok (.getfield 46, 3) := by decide +kernel
theorem dX10_came_167 : decode cX10_came 167 = .ok (.iload 5, 2) := by decide +kernel
theorem dX10_came_169 : decode cX10_came 169 = .ok (.iaload, 1) := by decide +kernel
theorem dX10_came_170 : decode cX10_came 170 = .ok (.istore 7, 2) := by decide +kernel
theorem dX10_came_172 : decode cX10_came 172 = .ok (.aload_n 0, 1) := by decide +kernel
theorem dX10_came_173 : decode cX10_came 173 = .ok (.getfield 52, 3) := by decide +kernel
theorem dX10_came_176 : decode cX10_came 176 = .ok (.iconst 1, 1) := by decide +kernel
theorem dX10_came_177 : decode cX10_came 177 = .ok (.isub, 1) := by decide +kernel
theorem dX10_came_178 : decode cX10_came 178 = .ok (.istore 8, 2) := by decide +kernel
theorem dX10_came_180 : decode cX10_came 180 = .ok (.iload 8, 2) := by decide +kernel
theorem dX10_came_182 : decode cX10_came 182 = .ok (.ifCond .lt 65, 3) := by decide +kernel
theorem dX10_came_185 : decode cX10_came 185 = .ok (.iload 6, 2) := by decide +kernel
theorem dX10_came_187 : decode cX10_came 187 = .ok (.ifCond .eq 40, 3) := by decide +kernel
theorem dX10_came_190 : decode cX10_came 190 = .ok (.aload_n 0, 1) := by decide +kernel
theorem dX10_came_191 : decode cX10_came 191 = .ok (.getfield 19, 3) := by decide +kernel
theorem dX10_came_194 : decode cX10_came 194 = .ok (.bipush 24, 2) := by decide +kernel
theorem dX10_came_196 : decode cX10_came 196 = .ok (.iload_n 1, 1) := by decide +kernel
theorem dX10_came_197 : decode cX10_came 197 = .ok (.imul, 1) := by decide +kernel
theorem dX10_came_198 : decode cX10_came 198 = .ok (.iload 7, 2) := by decide +kernel
theorem dX10_came_200 : decode cX10_came 200 = .ok (.aload_n 0, 1) := by decide +kernel
theorem dX10_came_201 : decode cX10_came 201 = .ok (.getfield 9, 3) := by decide +kernel
theorem dX10_came_204 : decode cX10_came 204 = .ok (.iload_n 1, 1) := by decide +kernel
theorem dX10_came_205 : decode cX10_came 205 = .ok (.iaload, 1) := by decide +kernel
theorem dX10_came_206 : decode cX10_came 206 = .ok (.irem, 1) := by decide +kernel
theorem dX10_came_207 : decode cX10_came 207 = .ok (.iadd, 1) := by decide +kernel
theorem dX10_came_208 : decode cX10_came 208 = .ok (.iaload, 1) := by decide +kernel
theorem dX10_came_209 : decode cX10_came 209 = .ok (.aload_n 0, 1) := by decide +kernel
theorem dX10_came_210 : decode cX10_came 210 = .ok (.getfield 36, 3) := by decide +kernel
theorem dX10_came_213 : decode cX10_came 213 = .ok (.iload 8, 2) := by decide +kernel
theorem dX10_came_215 : decode cX10_came 215 = .ok (.iaload, 1) := by decide +kernel
theorem dX10_came_216 : decode cX10_came 216 = .ok (.ishr, 1) := by decide +kernel
theorem dX10_came_217 : decode cX10_came 217 = .ok (.iconst 1, 1) := by decide +kernel
theorem dX10_came_218 : decode cX10_came 218 = .ok (.iand, 1) := by decide +kernel
theorem dX10_came_219 : decode cX10_came 219 = .ok (.iconst 1, 1) := by decide +kernel
theorem dX10_came_220 : decode cX10_came 220 = .ok (.if_icmp .ne 7, 3) := by decide +kernel
theorem dX10_came_223 : decode cX10_came 223 = .ok (.iconst 1, 1) := by decide +kernel
theorem dX10_came_224 : decode cX10_came 224 = .ok (.goto 4, 3) := by decide +kernel
theorem dX10_came_227 : decode cX10_came 227 = .ok (.iconst 0, 1) := by decide +kernel
theorem dX10_came_228 : decode cX10_came 228 = .ok (.istore 6, 2) := by decide +kernel
theorem dX10_came_230 : decode cX10_came 230 = .ok (.iload 7, 2) := by decide +kernel
theorem dX10_came_232 : decode cX10_came 232 = .ok (.aload_n 0, 1) := by decide +kernel
theorem dX10_came_233 : decode cX10_came 233 = .ok (.getfield 9, 3) := by decide +kernel
theorem dX10_came_236 : decode cX10_came 236 = .ok (.iload_n 1, 1) := by decide +kernel
theorem dX10_came_237 : decode cX10_came 237 = .ok (.iaload, 1) := by decide +kernel
theorem dX10_came_238 : decode cX10_came 238 = .ok (.idiv, 1) := by decide +kernel
theorem dX10_came_239 : decode cX10_came 239 = .ok (.istore 7, 2) := by decide +kernel
theorem dX10_came_241 : decode cX10_came 241 = .ok (.iinc 8 (-1), 3) := by decide +kernel
theorem dX10_came_244 : decode cX10_came 244 = .ok (.goto (-64), 3) := by decide +kernel
theorem dX10_came_247 : decode cX10_came 247 = .ok (.iload 6, 2) := by decide +kernel
theorem dX10_came_249 : decode cX10_came 249 = .ok (.ifCond .ne 6, 3) := by decide +kernel
theorem dX10_came_252 : decode cX10_came 252 = .ok (.goto 22, 3) := by decide +kernel
theorem dX10_came_255 : decode cX10_came 255 = .ok (.iload 4, 2) := by decide +kernel
theorem dX10_came_257 : decode cX10_came 257 = .ok (.ifCond .ne 14, 3) := by decide +kernel
theorem dX10_came_260 : decode cX10_came 260 = .ok (.aload_n 0, 1) := by decide +kernel
theorem dX10_came_261 : decode cX10_came 261 = .ok (.aload_n 0, 1) := by decide +kernel
theorem dX10_came_262 : decode cX10_came 262 = .ok (.getfield 46, 3) := by decide +kernel
theorem dX10_came_265 : decode cX10_came 265 = .ok (.iload 5, 2) := by decide +kernel
theorem dX10_came_267 : decode cX10_came 267 = .ok (.iaload, 1) := by decide +kernel
theorem dX10_came_268 : decode cX10_came 268 = .ok (.putfield 73, 3) := by decide +kernel
theorem dX10_came_271 : decode cX10_came 271 = .ok (.iinc 4 1, 3) := by decide +kernel
theorem dX10_came_274 : decode cX10_came 274 = .ok (.iinc 5 1, 3) := by decide +kernel
theorem dX10_came_277 : decode cX10_came 277 = .ok (.goto (-126), 3) := by decide +kernel
theorem dX10_came_280 : decode cX10_came 280 = .ok (.iload 4, 2) := by decide +kernel
theorem dX10_came_282 : decode cX10_came 282 = .ok (.ireturn, 1) := by decide +kernel
theorem dX10_sent_0 : decode cX10_sent 0 = .ok (.aload_n 0, 1) := by decide +kernel
theorem dX10_sent_1 : decode cX10_sent 1 = .ok (.getfield 73, 3) := by decide +kernel
theorem dX10_sent_4 : decode cX10_sent 4 = .ok (.ireturn, 1) := by decide +kernel
theorem dX10_isList_0 : decode cX10_isList 0 = .ok (.iconst 0, 1) := by decide +kernel
theorem dX10_isList_1 : decode cX10_isList 1 = .ok (.istore 4, 2) := by decide +kernel
theorem dX10_isList_3 : decode cX10_isList 3 = .ok (.iload 4, 2) := by decide +kernel
theorem dX10_isList_5 : decode cX10_isList 5 = .ok (.bipush 24, 2) := by decide +kernel
theorem dX10_isList_7 : decode cX10_isList 7 = .ok (.if_icmp .ge 81, 3) := by decide +kernel
theorem dX10_isList_10 : decode cX10_isList 10 = .ok (.iconst 0, 1) := by decide +kernel
theorem dX10_isList_11 : decode cX10_isList 11 = .ok (.istore 5, 2) := by decide +kernel
theorem dX10_isList_13 : decode cX10_isList 13 = .ok (.iconst 0, 1) := by decide +kernel
theorem dX10_isList_14 : decode cX10_isList 14 = .ok (.istore 6, 2) := by decide +kernel
theorem dX10_isList_16 : decode cX10_isList 16 = .ok (.iload 6, 2) := by decide +kernel
theorem dX10_isList_18 : decode cX10_isList 18 = .ok (.aload_n 0, 1) := by decide +kernel
theorem dX10_isList_19 : decode cX10_isList 19 = .ok (.getfield 9, 3) := by decide +kernel
theorem dX10_isList_22 : decode cX10_isList 22 = .ok (.iload_n 1, 1) := by decide +kernel
theorem dX10_isList_23 : decode cX10_isList 23 = .ok (.iaload, 1) := by decide +kernel
theorem dX10_isList_24 : decode cX10_isList 24 = .ok (.if_icmp .ge 50, 3) := by decide +kernel
theorem dX10_isList_27 : decode cX10_isList 27 = .ok (.iload 5, 2) := by decide +kernel
theorem dX10_isList_29 : decode cX10_isList 29 = .ok (.iload_n 2, 1) := by decide +kernel
theorem dX10_isList_30 : decode cX10_isList 30 = .ok (.iload 6, 2) := by decide +kernel
theorem dX10_isList_32 : decode cX10_isList 32 = .ok (.ishr, 1) := by decide +kernel
theorem dX10_isList_33 : decode cX10_isList 33 = .ok (.iconst 1, 1) := by decide +kernel
theorem dX10_isList_34 : decode cX10_isList 34 = .ok (.iand, 1) := by decide +kernel
theorem dX10_isList_35 : decode cX10_isList 35 = .ok (.iconst 1, 1) := by decide +kernel
theorem dX10_isList_36 : decode cX10_isList 36 = .ok (.if_icmp .ne 28, 3) := by decide +kernel
theorem dX10_isList_39 : decode cX10_isList 39 = .ok (.aload_n 0, 1) := by decide +kernel
theorem dX10_isList_40 : decode cX10_isList 40 = .ok (.getfield 19, 3) := by decide +kernel
theorem dX10_isList_43 : decode cX10_isList 43 = .ok (.bipush 24, 2) := by decide +kernel
theorem dX10_isList_45 : decode cX10_isList 45 = .ok (.iload_n 1, 1) := by decide +kernel
theorem dX10_isList_46 : decode cX10_isList 46 = .ok (.imul, 1) := by decide +kernel
theorem dX10_isList_47 : decode cX10_isList 47 = .ok (.iload 6, 2) := by decide +kernel
theorem dX10_isList_49 : decode cX10_isList 49 = .ok (.iadd, 1) := by decide +kernel
theorem dX10_isList_50 : decode cX10_isList 50 = .ok (.iaload, 1) := by decide +kernel
theorem dX10_isList_51 : decode cX10_isList 51 = .ok (.iload 4, 2) := by decide +kernel
theorem dX10_isList_53 : decode cX10_isList 53 = .ok (.ishr, 1) := by decide +kernel
theorem dX10_isList_54 : decode cX10_isList 54 = .ok (.iconst 1, 1) := by decide +kernel
theorem dX10_isList_55 : decode cX10_isList 55 = .ok (.iand, 1) := by decide +kernel
theorem dX10_isList_56 : decode cX10_isList 56 = .ok (.iconst 1, 1) := by decide +kernel
theorem dX10_isList_57 : decode cX10_isList 57 = .ok (.if_icmp .ne 7, 3) := by decide +kernel
theorem dX10_isList_60 : decode cX10_isList 60 = .ok (.iconst 1, 1) := by decide +kernel
theorem dX10_isList_61 : decode cX10_isList 61 = .ok (.goto 4, 3) := by decide +kernel
theorem dX10_isList_64 : decode cX10_isList 64 = .ok (.iconst 0, 1) := by decide +kernel
theorem dX10_isList_65 : decode cX10_isList 65 = .ok (.iadd, 1) := by decide +kernel
theorem dX10_isList_66 : decode cX10_isList 66 = .ok (.istore 5, 2) := by decide +kernel
theorem dX10_isList_68 : decode cX10_isList 68 = .ok (.iinc 6 1, 3) := by decide +kernel
theorem dX10_isList_71 : decode cX10_isList 71 = .ok (.goto (-55), 3) := by decide +kernel
theorem dX10_isList_74 : decode cX10_isList 74 = .ok (.iload 5, 2) := by decide +kernel
theorem dX10_isList_76 : decode cX10_isList 76 = .ok (.iload_n 3, 1) := by decide +kernel
theorem dX10_isList_77 : decode cX10_isList 77 = .ok (.if_icmp .le 5, 3) := by decide +kernel
theorem dX10_isList_80 : decode cX10_isList 80 = .ok (.iconst 0, 1) := by decide +kernel
theorem dX10_isList_81 : decode cX10_isList 81 = .ok (.ireturn, 1) := by decide +kernel
theorem dX10_isList_82 : decode cX10_isList 82 = .ok (.iinc 4 1, 3) := by decide +kernel
theorem dX10_isList_85 : decode cX10_isList 85 = .ok (.goto (-82), 3) := by decide +kernel
theorem dX10_isList_88 : decode cX10_isList 88 = .ok (.iconst 1, 1) := by decide +kernel
theorem dX10_isList_89 : decode cX10_isList 89 = .ok (.ireturn, 1) := by decide +kernel
theorem dX10_list_0 : decode cX10_list 0 = .ok (.iload_n 1, 1) := by decide +kernel
theorem dX10_list_1 : decode cX10_list 1 = .ok (.invokestatic 85, 3) := by decide +kernel
theorem dX10_list_4 : decode cX10_list 4 = .ok (.ifCond .eq 15, 3) := by decide +kernel
theorem dX10_list_7 : decode cX10_list 7 = .ok (.iload_n 2, 1) := by decide +kernel
theorem dX10_list_8 : decode cX10_list 8 = .ok (.i2l, 1) := by decide +kernel
theorem dX10_list_9 : decode cX10_list 9 = .ok (.lconst 1, 1) := by decide +kernel
theorem dX10_list_10 : decode cX10_list 10 = .ok (.ldc2_w 99, 3) := by decide +kernel
theorem dX10_list_13 : decode cX10_list 13 = .ok (.invokestatic 81, 3) := by decide +kernel
theorem dX10_list_16 : decode cX10_list 16 = .ok (.ifCond .ne 6, 3) := by decide +kernel
theorem dX10_list_19 : decode cX10_list 19 = .ok (.bipush (-2), 2) := by decide +kernel
theorem dX10_list_21 : decode cX10_list 21 = .ok (.ireturn, 1) := by decide +kernel
theorem dX10_list_22 : decode cX10_list 22 = .ok (.aload_n 0, 1) := by decide +kernel
theorem dX10_list_23 : decode cX10_list 23 = .ok (.getfield 13, 3) := by decide +kernel
theorem dX10_list_26 : decode cX10_list 26 = .ok (.iload_n 1, 1) := by decide +kernel
theorem dX10_list_27 : decode cX10_list 27 = .ok (.iaload, 1) := by decide +kernel
theorem dX10_list_28 : decode cX10_list 28 = .ok (.iconst 1, 1) := by decide +kernel
theorem dX10_list_29 : decode cX10_list 29 = .ok (.if_icmp .eq 6, 3) := by decide +kernel
theorem dX10_list_32 : decode cX10_list 32 = .ok (.bipush (-4), 2) := by decide +kernel
theorem dX10_list_34 : decode cX10_list 34 = .ok (.ireturn, 1) := by decide +kernel
theorem dX10_list_35 : decode cX10_list 35 = .ok (.aload_n 0, 1) := by decide +kernel
theorem dX10_list_36 : decode cX10_list 36 = .ok (.getfield 9, 3) := by decide +kernel
theorem dX10_list_39 : decode cX10_list 39 = .ok (.iload_n 1, 1) := by decide +kernel
theorem dX10_list_40 : decode cX10_list 40 = .ok (.iaload, 1) := by decide +kernel
theorem dX10_list_41 : decode cX10_list 41 = .ok (.bipush 16, 2) := by decide +kernel
theorem dX10_list_43 : decode cX10_list 43 = .ok (.if_icmp .le 6, 3) := by decide +kernel
theorem dX10_list_46 : decode cX10_list 46 = .ok (.bipush (-3), 2) := by decide +kernel
theorem dX10_list_48 : decode cX10_list 48 = .ok (.ireturn, 1) := by decide +kernel
theorem dX10_list_49 : decode cX10_list 49 = .ok (.iconst 0, 1) := by decide +kernel
theorem dX10_list_50 : decode cX10_list 50 = .ok (.istore_n 3, 1) := by decide +kernel
theorem dX10_list_51 : decode cX10_list 51 = .ok (.iconst (-1), 1) := by decide +kernel
theorem dX10_list_52 : decode cX10_list 52 = .ok (.istore 4, 2) := by decide +kernel
theorem dX10_list_54 : decode cX10_list 54 = .ok (.iconst 0, 1) := by decide +kernel
theorem dX10_list_55 : decode cX10_list 55 = .ok (.istore 5, 2) := by decide +kernel
theorem dX10_list_57 : decode cX10_list 57 = .ok (.iload 5, 2) := by decide +kernel
theorem dX10_list_59 : decode cX10_list 59 = .ok (.iconst 1, 1) := by decide +kernel
theorem dX10_list_60 : decode cX10_list 60 = .ok (.aload_n 0, 1) := by decide +kernel
theorem dX10_list_61 : decode cX10_list 61 = .ok (.getfield 9, 3) := by decide +kernel
theorem dX10_list_64 : decode cX10_list 64 = .ok (.iload_n 1, 1) := by decide +kernel
theorem dX10_list_65 : decode cX10_list 65 = .ok (.iaload, 1) := by decide +kernel
theorem dX10_list_66 : decode cX10_list 66 = .ok (.ishl, 1) := by decide +kernel
theorem dX10_list_67 : decode cX10_list 67 = .ok (.if_icmp .ge 45, 3) := by decide +kernel
theorem dX10_list_70 : decode cX10_list 70 = .ok (.iload 5, 2) := by decide +kernel
theorem dX10_list_72 : decode cX10_list 72 = .ok (.i2l, 1) := by decide +kernel
theorem dX10_list_73 : decode cX10_list 73 = .ok (.invokestatic 139, 3) := by decide +kernel
theorem dX10_list_76 : decode cX10_list 76 = .ok (.iload 4, 2) := by decide +kernel
theorem dX10_list_78 : decode cX10_list 78 = .ok (.if_icmp .le 28, 3) := by decide +kernel
theorem dX10_list_81 : decode cX10_list 81 = .ok (.aload_n 0, 1) := by decide +kernel
theorem dX10_list_82 : decode cX10_list 82 = .ok (.iload_n 1, 1) := by decide +kernel
theorem dX10_list_83 : decode cX10_list 83 = .ok (.iload 5, 2) := by decide +kernel
theorem dX10_list_85 : decode cX10_list 85 = .ok (.iload_n 2, 1) := by decide +kernel
theorem dX10_list_86 : decode cX10_list 86 = .ok (.invokevirtual 257, 3) := by decide +kernel
theorem dX10_list_89 : decode cX10_list 89 = .ok (.ifCond .ne 6, 3) := by decide +kernel
theorem dX10_list_92 : decode cX10_list 92 = .ok (.goto 14, 3) := by decide +kernel
theorem dX10_list_95 : decode cX10_list 95 = .ok (.iload 5, 2) := by decide +kernel
theorem dX10_list_97 : decode cX10_list 97 = .ok (.i2l, 1) := by decide +kernel
theorem dX10_list_98 : decode cX10_list 98 = .ok (.invokestatic 139, 3) := by decide +kernel
theorem dX10_list_101 : decode cX10_list 101 = .ok (.istore 4, 2) := by decide +kernel
theorem dX10_list_103 : decode cX10_list 103 = .ok (.iload 5, 2) := by decide +kernel
theorem dX10_list_105 : decode cX10_list 105 = .ok (.istore_n 3, 1) := by decide +kernel
theorem dX10_list_106 : decode cX10_list 106 = .ok (.iinc 5 1, 3) := by decide +kernel
theorem dX10_list_109 : decode cX10_list 109 = .ok (.goto (-52), 3) := by decide +kernel
theorem dX10_list_112 : decode cX10_list 112 = .ok (.aload_n 0, 1) := by decide +kernel
theorem dX10_list_113 : decode cX10_list 113 = .ok (.iload_n 3, 1) := by decide +kernel
theorem dX10_list_114 : decode cX10_list 114 = .ok (.putfield 76, 3) := by decide +kernel
theorem dX10_list_117 : decode cX10_list 117 = .ok (.iload 4, 2) := by decide +kernel
theorem dX10_list_119 : decode cX10_list 119 = .ok (.ireturn, 1) := by decide +kernel
theorem dX10_listed_0 : decode cX10_listed 0 = .ok (.aload_n 0, 1) := by decide +kernel
theorem dX10_listed_1 : decode cX10_listed 1 = .ok (.getfield 76, 3) := by decide +kernel
theorem dX10_listed_4 : decode cX10_listed 4 = .ok (.ireturn, 1) := by decide +kernel
theorem dX10_count_0 : decode cX10_count 0 = .ok (.iload_n 1, 1) := by decide +kernel
theorem dX10_count_1 : decode cX10_count 1 = .ok (.ifCond .ne 10, 3) := by decide +kernel
theorem dX10_count_4 : decode cX10_count 4 = .ok (.aload_n 0, 1) := by decide +kernel
theorem dX10_count_5 : decode cX10_count 5 = .ok (.getfield 93, 3) := by decide +kernel
theorem dX10_count_8 : decode cX10_count 8 = .ok (.goto 40, 3) := by decide +kernel
theorem dX10_count_11 : decode cX10_count 11 = .ok (.iload_n 1, 1) := by decide +kernel
theorem dX10_count_12 : decode cX10_count 12 = .ok (.iconst 1, 1) := by decide +kernel
theorem dX10_count_13 : decode cX10_count 13 = .ok (.if_icmp .ne 10, 3) := by decide +kernel
theorem dX10_count_16 : decode cX10_count 16 = .ok (.aload_n 0, 1) := by decide +kernel
theorem dX10_count_17 : decode cX10_count 17 = .ok (.getfield 49, 3) := by decide +kernel
theorem dX10_count_20 : decode cX10_count 20 = .ok (.goto 28, 3) := by decide +kernel
theorem dX10_count_23 : decode cX10_count 23 = .ok (.iload_n 1, 1) := by decide +kernel
theorem dX10_count_24 : decode cX10_count 24 = .ok (.iconst 2, 1) := by decide +kernel
theorem dX10_count_25 : decode cX10_count 25 = .ok (.if_icmp .ne 10, 3) := by decide +kernel
theorem dX10_count_28 : decode cX10_count 28 = .ok (.aload_n 0, 1) := by decide +kernel
theorem dX10_count_29 : decode cX10_count 29 = .ok (.getfield 52, 3) := by decide +kernel
theorem dX10_count_32 : decode cX10_count 32 = .ok (.goto 16, 3) := by decide +kernel
theorem dX10_count_35 : decode cX10_count 35 = .ok (.iload_n 1, 1) := by decide +kernel
theorem dX10_count_36 : decode cX10_count 36 = .ok (.iconst 3, 1) := by decide +kernel
theorem dX10_count_37 : decode cX10_count 37 = .ok (.if_icmp .ne 10, 3) := by decide +kernel
theorem dX10_count_40 : decode cX10_count 40 = .ok (.aload_n 0, 1) := by decide +kernel
theorem dX10_count_41 : decode cX10_count 41 = .ok (.getfield 55, 3) := by decide +kernel
theorem dX10_count_44 : decode cX10_count 44 = .ok (.goto 4, 3) := by decide +kernel
theorem dX10_count_47 : decode cX10_count 47 = .ok (.iconst (-1), 1) := by decide +kernel
theorem dX10_count_48 : decode cX10_count 48 = .ok (.ireturn, 1) := by decide +kernel
theorem dJ6_bitCount_0f7a4_0 : decode cJ6_bitCount_0f7a4 0 = .ok (.iload_n 0, 1) := by decide +kernel
theorem dJ6_bitCount_0f7a4_1 : decode cJ6_bitCount_0f7a4 1 = .ok (.iload_n 0, 1) := by decide +kernel
theorem dJ6_bitCount_0f7a4_2 : decode cJ6_bitCount_0f7a4 2 = .ok (.iconst 1, 1) := by decide +kernel
theorem dJ6_bitCount_0f7a4_3 : decode cJ6_bitCount_0f7a4 3 = .ok (.iushr, 1) := by decide +kernel
theorem dJ6_bitCount_0f7a4_4 : decode cJ6_bitCount_0f7a4 4 = .ok (.ldc_w 265, 3) := by decide +kernel
theorem dJ6_bitCount_0f7a4_7 : decode cJ6_bitCount_0f7a4 7 = .ok (.iand, 1) := by decide +kernel
theorem dJ6_bitCount_0f7a4_8 : decode cJ6_bitCount_0f7a4 8 = .ok (.isub, 1) := by decide +kernel
theorem dJ6_bitCount_0f7a4_9 : decode cJ6_bitCount_0f7a4 9 = .ok (.istore_n 0, 1) := by decide +kernel
theorem dJ6_bitCount_0f7a4_10 : decode cJ6_bitCount_0f7a4 10 = .ok (.iload_n 0, 1) := by decide +kernel
theorem dJ6_bitCount_0f7a4_11 : decode cJ6_bitCount_0f7a4 11 = .ok (.ldc_w 266, 3) := by decide +kernel
theorem dJ6_bitCount_0f7a4_14 : decode cJ6_bitCount_0f7a4 14 = .ok (.iand, 1) := by decide +kernel
theorem dJ6_bitCount_0f7a4_15 : decode cJ6_bitCount_0f7a4 15 = .ok (.iload_n 0, 1) := by decide +kernel
theorem dJ6_bitCount_0f7a4_16 : decode cJ6_bitCount_0f7a4 16 = .ok (.iconst 2, 1) := by decide +kernel
theorem dJ6_bitCount_0f7a4_17 : decode cJ6_bitCount_0f7a4 17 = .ok (.iushr, 1) := by decide +kernel
theorem dJ6_bitCount_0f7a4_18 : decode cJ6_bitCount_0f7a4 18 = .ok (.ldc_w 266, 3) := by decide +kernel
theorem dJ6_bitCount_0f7a4_21 : decode cJ6_bitCount_0f7a4 21 = .ok (.iand, 1) := by decide +kernel
theorem dJ6_bitCount_0f7a4_22 : decode cJ6_bitCount_0f7a4 22 = .ok (.iadd, 1) := by decide +kernel
theorem dJ6_bitCount_0f7a4_23 : decode cJ6_bitCount_0f7a4 23 = .ok (.istore_n 0, 1) := by decide +kernel
theorem dJ6_bitCount_0f7a4_24 : decode cJ6_bitCount_0f7a4 24 = .ok (.iload_n 0, 1) := by decide +kernel
theorem dJ6_bitCount_0f7a4_25 : decode cJ6_bitCount_0f7a4 25 = .ok (.iload_n 0, 1) := by decide +kernel
theorem dJ6_bitCount_0f7a4_26 : decode cJ6_bitCount_0f7a4 26 = .ok (.iconst 4, 1) := by decide +kernel
theorem dJ6_bitCount_0f7a4_27 : decode cJ6_bitCount_0f7a4 27 = .ok (.iushr, 1) := by decide +kernel
theorem dJ6_bitCount_0f7a4_28 : decode cJ6_bitCount_0f7a4 28 = .ok (.iadd, 1) := by decide +kernel
theorem dJ6_bitCount_0f7a4_29 : decode cJ6_bitCount_0f7a4 29 = .ok (.ldc_w 267, 3) := by decide +kernel
theorem dJ6_bitCount_0f7a4_32 : decode cJ6_bitCount_0f7a4 32 = .ok (.iand, 1) := by decide +kernel
theorem dJ6_bitCount_0f7a4_33 : decode cJ6_bitCount_0f7a4 33 = .ok (.istore_n 0, 1) := by decide +kernel
theorem dJ6_bitCount_0f7a4_34 : decode cJ6_bitCount_0f7a4 34 = .ok (.iload_n 0, 1) := by decide +kernel
theorem dJ6_bitCount_0f7a4_35 : decode cJ6_bitCount_0f7a4 35 = .ok (.iload_n 0, 1) := by decide +kernel
theorem dJ6_bitCount_0f7a4_36 : decode cJ6_bitCount_0f7a4 36 = .ok (.bipush 8, 2) := by decide +kernel
theorem dJ6_bitCount_0f7a4_38 : decode cJ6_bitCount_0f7a4 38 = .ok (.iushr, 1) := by decide +kernel
theorem dJ6_bitCount_0f7a4_39 : decode cJ6_bitCount_0f7a4 39 = .ok (.iadd, 1) := by decide +kernel
theorem dJ6_bitCount_0f7a4_40 : decode cJ6_bitCount_0f7a4 40 = .ok (.istore_n 0, 1) := by decide +kernel
theorem dJ6_bitCount_0f7a4_41 : decode cJ6_bitCount_0f7a4 41 = .ok (.iload_n 0, 1) := by decide +kernel
theorem dJ6_bitCount_0f7a4_42 : decode cJ6_bitCount_0f7a4 42 = .ok (.iload_n 0, 1) := by decide +kernel
theorem dJ6_bitCount_0f7a4_43 : decode cJ6_bitCount_0f7a4 43 = .ok (.bipush 16, 2) := by decide +kernel
theorem dJ6_bitCount_0f7a4_45 : decode cJ6_bitCount_0f7a4 45 = .ok (.iushr, 1) := by decide +kernel
theorem dJ6_bitCount_0f7a4_46 : decode cJ6_bitCount_0f7a4 46 = .ok (.iadd, 1) := by decide +kernel
theorem dJ6_bitCount_0f7a4_47 : decode cJ6_bitCount_0f7a4 47 = .ok (.istore_n 0, 1) := by decide +kernel
theorem dJ6_bitCount_0f7a4_48 : decode cJ6_bitCount_0f7a4 48 = .ok (.iload_n 0, 1) := by decide +kernel
theorem dJ6_bitCount_0f7a4_49 : decode cJ6_bitCount_0f7a4 49 = .ok (.bipush 63, 2) := by decide +kernel
theorem dJ6_bitCount_0f7a4_51 : decode cJ6_bitCount_0f7a4 51 = .ok (.iand, 1) := by decide +kernel
theorem dJ6_bitCount_0f7a4_52 : decode cJ6_bitCount_0f7a4 52 = .ok (.ireturn, 1) := by decide +kernel
theorem dJ13_bitCount_95d88_0 : decode cJ13_bitCount_95d88 0 = .ok (.lload_n 0, 1) := by decide +kernel
theorem dJ13_bitCount_95d88_1 : decode cJ13_bitCount_95d88 1 = .ok (.lload_n 0, 1) := by decide +kernel
theorem dJ13_bitCount_95d88_2 : decode cJ13_bitCount_95d88 2 = .ok (.iconst 1, 1) := by decide +kernel
theorem dJ13_bitCount_95d88_3 : decode cJ13_bitCount_95d88 3 = .ok (.lushr, 1) := by decide +kernel
theorem dJ13_bitCount_95d88_4 : decode cJ13_bitCount_95d88 4 = .ok (.ldc2_w 314, 3) := by decide +kernel
theorem dJ13_bitCount_95d88_7 : decode cJ13_bitCount_95d88 7 = .ok (.land, 1) := by decide +kernel
theorem dJ13_bitCount_95d88_8 : decode cJ13_bitCount_95d88 8 = .ok (.lsub, 1) := by decide +kernel
theorem dJ13_bitCount_95d88_9 : decode cJ13_bitCount_95d88 9 = .ok (.lstore_n 0, 1) := by decide +kernel
theorem dJ13_bitCount_95d88_10 : decode cJ13_bitCount_95d88 10 = .ok (.lload_n 0, 1) := by decide +kernel
theorem dJ13_bitCount_95d88_11 : decode cJ13_bitCount_95d88 11 = .ok (.ldc2_w 316, 3) := by decide +kernel
theorem dJ13_bitCount_95d88_14 : decode cJ13_bitCount_95d88 14 = .ok (.land, 1) := by decide +kernel
theorem dJ13_bitCount_95d88_15 : decode cJ13_bitCount_95d88 15 = .ok (.lload_n 0, 1) := by decide +kernel
theorem dJ13_bitCount_95d88_16 : decode cJ13_bitCount_95d88 16 = .ok (.iconst 2, 1) := by decide +kernel
theorem dJ13_bitCount_95d88_17 : decode cJ13_bitCount_95d88 17 = .ok (.lushr, 1) := by decide +kernel
theorem dJ13_bitCount_95d88_18 : decode cJ13_bitCount_95d88 18 = .ok (.ldc2_w 316, 3) := by decide +kernel
theorem dJ13_bitCount_95d88_21 : decode cJ13_bitCount_95d88 21 = .ok (.land, 1) := by decide +kernel
theorem dJ13_bitCount_95d88_22 : decode cJ13_bitCount_95d88 22 = .ok (.ladd, 1) := by decide +kernel
theorem dJ13_bitCount_95d88_23 : decode cJ13_bitCount_95d88 23 = .ok (.lstore_n 0, 1) := by decide +kernel
theorem dJ13_bitCount_95d88_24 : decode cJ13_bitCount_95d88 24 = .ok (.lload_n 0, 1) := by decide +kernel
theorem dJ13_bitCount_95d88_25 : decode cJ13_bitCount_95d88 25 = .ok (.lload_n 0, 1) := by decide +kernel
theorem dJ13_bitCount_95d88_26 : decode cJ13_bitCount_95d88 26 = .ok (.iconst 4, 1) := by decide +kernel
theorem dJ13_bitCount_95d88_27 : decode cJ13_bitCount_95d88 27 = .ok (.lushr, 1) := by decide +kernel
theorem dJ13_bitCount_95d88_28 : decode cJ13_bitCount_95d88 28 = .ok (.ladd, 1) := by decide +kernel
theorem dJ13_bitCount_95d88_29 : decode cJ13_bitCount_95d88 29 = .ok (.ldc2_w 318, 3) := by decide +kernel
theorem dJ13_bitCount_95d88_32 : decode cJ13_bitCount_95d88 32 = .ok (.land, 1) := by decide +kernel
theorem dJ13_bitCount_95d88_33 : decode cJ13_bitCount_95d88 33 = .ok (.lstore_n 0, 1) := by decide +kernel
theorem dJ13_bitCount_95d88_34 : decode cJ13_bitCount_95d88 34 = .ok (.lload_n 0, 1) := by decide +kernel
theorem dJ13_bitCount_95d88_35 : decode cJ13_bitCount_95d88 35 = .ok (.lload_n 0, 1) := by decide +kernel
theorem dJ13_bitCount_95d88_36 : decode cJ13_bitCount_95d88 36 = .ok (.bipush 8, 2) := by decide +kernel
theorem dJ13_bitCount_95d88_38 : decode cJ13_bitCount_95d88 38 = .ok (.lushr, 1) := by decide +kernel
theorem dJ13_bitCount_95d88_39 : decode cJ13_bitCount_95d88 39 = .ok (.ladd, 1) := by decide +kernel
theorem dJ13_bitCount_95d88_40 : decode cJ13_bitCount_95d88 40 = .ok (.lstore_n 0, 1) := by decide +kernel
theorem dJ13_bitCount_95d88_41 : decode cJ13_bitCount_95d88 41 = .ok (.lload_n 0, 1) := by decide +kernel
theorem dJ13_bitCount_95d88_42 : decode cJ13_bitCount_95d88 42 = .ok (.lload_n 0, 1) := by decide +kernel
theorem dJ13_bitCount_95d88_43 : decode cJ13_bitCount_95d88 43 = .ok (.bipush 16, 2) := by decide +kernel
theorem dJ13_bitCount_95d88_45 : decode cJ13_bitCount_95d88 45 = .ok (.lushr, 1) := by decide +kernel
theorem dJ13_bitCount_95d88_46 : decode cJ13_bitCount_95d88 46 = .ok (.ladd, 1) := by decide +kernel
theorem dJ13_bitCount_95d88_47 : decode cJ13_bitCount_95d88 47 = .ok (.lstore_n 0, 1) := by decide +kernel
theorem dJ13_bitCount_95d88_48 : decode cJ13_bitCount_95d88 48 = .ok (.lload_n 0, 1) := by decide +kernel
theorem dJ13_bitCount_95d88_49 : decode cJ13_bitCount_95d88 49 = .ok (.lload_n 0, 1) := by decide +kernel
theorem dJ13_bitCount_95d88_50 : decode cJ13_bitCount_95d88 50 = .ok (.bipush 32, 2) := by decide +kernel
theorem dJ13_bitCount_95d88_52 : decode cJ13_bitCount_95d88 52 = .ok (.lushr, 1) := by decide +kernel
theorem dJ13_bitCount_95d88_53 : decode cJ13_bitCount_95d88 53 = .ok (.ladd, 1) := by decide +kernel
theorem dJ13_bitCount_95d88_54 : decode cJ13_bitCount_95d88 54 = .ok (.lstore_n 0, 1) := by decide +kernel
theorem dJ13_bitCount_95d88_55 : decode cJ13_bitCount_95d88 55 = .ok (.lload_n 0, 1) := by decide +kernel
theorem dJ13_bitCount_95d88_56 : decode cJ13_bitCount_95d88 56 = .ok (.l2i, 1) := by decide +kernel
theorem dJ13_bitCount_95d88_57 : decode cJ13_bitCount_95d88 57 = .ok (.bipush 127, 2) := by decide +kernel
theorem dJ13_bitCount_95d88_59 : decode cJ13_bitCount_95d88 59 = .ok (.iand, 1) := by decide +kernel
theorem dJ13_bitCount_95d88_60 : decode cJ13_bitCount_95d88 60 = .ok (.ireturn, 1) := by decide +kernel
theorem dJ9_max_7cf53_0 : decode cJ9_max_7cf53 0 = .ok (.iload_n 0, 1) := by decide +kernel
theorem dJ9_max_7cf53_1 : decode cJ9_max_7cf53 1 = .ok (.iload_n 1, 1) := by decide +kernel
theorem dJ9_max_7cf53_2 : decode cJ9_max_7cf53 2 = .ok (.if_icmp .lt 7, 3) := by decide +kernel
theorem dJ9_max_7cf53_5 : decode cJ9_max_7cf53 5 = .ok (.iload_n 0, 1) := by decide +kernel
theorem dJ9_max_7cf53_6 : decode cJ9_max_7cf53 6 = .ok (.goto 4, 3) := by decide +kernel
theorem dJ9_max_7cf53_9 : decode cJ9_max_7cf53 9 = .ok (.iload_n 1, 1) := by decide +kernel
theorem dJ9_max_7cf53_10 : decode cJ9_max_7cf53 10 = .ok (.ireturn, 1) := by decide +kernel
theorem dJ9_max_f86c9_0 : decode cJ9_max_f86c9 0 = .ok (.lload_n 0, 1) := by decide +kernel
theorem dJ9_max_f86c9_1 : decode cJ9_max_f86c9 1 = .ok (.lload_n 2, 1) := by decide +kernel
theorem dJ9_max_f86c9_2 : decode cJ9_max_f86c9 2 = .ok (.lcmp, 1) := by decide +kernel
theorem dJ9_max_f86c9_3 : decode cJ9_max_f86c9 3 = .ok (.ifCond .lt 7, 3) := by decide +kernel
theorem dJ9_max_f86c9_6 : decode cJ9_max_f86c9 6 = .ok (.lload_n 0, 1) := by decide +kernel
theorem dJ9_max_f86c9_7 : decode cJ9_max_f86c9 7 = .ok (.goto 4, 3) := by decide +kernel
theorem dJ9_max_f86c9_10 : decode cJ9_max_f86c9 10 = .ok (.lload_n 2, 1) := by decide +kernel
theorem dJ9_max_f86c9_11 : decode cJ9_max_f86c9 11 = .ok (.lreturn, 1) := by decide +kernel
theorem dJ9_min_7cf53_0 : decode cJ9_min_7cf53 0 = .ok (.iload_n 0, 1) := by decide +kernel
theorem dJ9_min_7cf53_1 : decode cJ9_min_7cf53 1 = .ok (.iload_n 1, 1) := by decide +kernel
theorem dJ9_min_7cf53_2 : decode cJ9_min_7cf53 2 = .ok (.if_icmp .gt 7, 3) := by decide +kernel
theorem dJ9_min_7cf53_5 : decode cJ9_min_7cf53 5 = .ok (.iload_n 0, 1) := by decide +kernel
theorem dJ9_min_7cf53_6 : decode cJ9_min_7cf53 6 = .ok (.goto 4, 3) := by decide +kernel
theorem dJ9_min_7cf53_9 : decode cJ9_min_7cf53 9 = .ok (.iload_n 1, 1) := by decide +kernel
theorem dJ9_min_7cf53_10 : decode cJ9_min_7cf53 10 = .ok (.ireturn, 1) := by decide +kernel
theorem dL_law_0 : decode cL_law 0 = .ok (.new 7, 3) := by decide +kernel
theorem dL_law_3 : decode cL_law 3 = .ok (.dup, 1) := by decide +kernel
theorem dL_law_4 : decode cL_law 4 = .ok (.invokespecial 9, 3) := by decide +kernel
theorem dL_law_7 : decode cL_law 7 = .ok (.astore_n 1, 1) := by decide +kernel
theorem dL_law_8 : decode cL_law 8 = .ok (.new 10, 3) := by decide +kernel
theorem dL_law_11 : decode cL_law 11 = .ok (.dup, 1) := by decide +kernel
theorem dL_law_12 : decode cL_law 12 = .ok (.invokespecial 12, 3) := by decide +kernel
theorem dL_law_15 : decode cL_law 15 = .ok (.astore_n 2, 1) := by decide +kernel
theorem dL_law_16 : decode cL_law 16 = .ok (.iconst 0, 1) := by decide +kernel
theorem dL_law_17 : decode cL_law 17 = .ok (.istore_n 3, 1) := by decide +kernel
theorem dL_law_18 : decode cL_law 18 = .ok (.iload_n 3, 1) := by decide +kernel
theorem dL_law_19 : decode cL_law 19 = .ok (.aload_n 0, 1) := by decide +kernel
theorem dL_law_20 : decode cL_law 20 = .ok (.arraylength, 1) := by decide +kernel
theorem dL_law_21 : decode cL_law 21 = .ok (.bipush 6, 2) := by decide +kernel
theorem dL_law_23 : decode cL_law 23 = .ok (.isub, 1) := by decide +kernel
theorem dL_law_24 : decode cL_law 24 = .ok (.if_icmp .gt 1025, 3) := by decide +kernel
theorem dL_law_27 : decode cL_law 27 = .ok (.aload_n 0, 1) := by decide +kernel
theorem dL_law_28 : decode cL_law 28 = .ok (.iload_n 3, 1) := by decide +kernel
theorem dL_law_29 : decode cL_law 29 = .ok (.iaload, 1) := by decide +kernel
theorem dL_law_30 : decode cL_law 30 = .ok (.bipush 31, 2) := by decide +kernel
theorem dL_law_32 : decode cL_law 32 = .ok (.iand, 1) := by decide +kernel
theorem dL_law_33 : decode cL_law 33 = .ok (.tableswitch 1010 0 26 #[123, 186, 209, 242, 311, 344, 367, 390, 433, 476, 509, 562, 595, 618, 651, 674, 697, 750, 773, 806, 859, 882, 905, 928, 941, 974, 987], 123) := by decide +kernel
theorem dL_law_156 : decode cL_law 156 = .ok (.aload_n 1, 1) := by decide +kernel
theorem dL_law_157 : decode cL_law 157 = .ok (.aload_n 0, 1) := by decide +kernel
theorem dL_law_158 : decode cL_law 158 = .ok (.iload_n 3, 1) := by decide +kernel
theorem dL_law_159 : decode cL_law 159 = .ok (.iconst 1, 1) := by decide +kernel
theorem dL_law_160 : decode cL_law 160 = .ok (.iadd, 1) := by decide +kernel
theorem dL_law_161 : decode cL_law 161 = .ok (.iaload, 1) := by decide +kernel
theorem dL_law_162 : decode cL_law 162 = .ok (.aload_n 0, 1) := by decide +kernel
theorem dL_law_163 : decode cL_law 163 = .ok (.iload_n 3, 1) := by decide +kernel
theorem dL_law_164 : decode cL_law 164 = .ok (.iconst 2, 1) := by decide +kernel
theorem dL_law_165 : decode cL_law 165 = .ok (.iadd, 1) := by decide +kernel
theorem dL_law_166 : decode cL_law 166 = .ok (.iaload, 1) := by decide +kernel
theorem dL_law_167 : decode cL_law 167 = .ok (.aload_n 0, 1) := by decide +kernel
theorem dL_law_168 : decode cL_law 168 = .ok (.iload_n 3, 1) := by decide +kernel
theorem dL_law_169 : decode cL_law 169 = .ok (.iconst 3, 1) := by decide +kernel
theorem dL_law_170 : decode cL_law 170 = .ok (.iadd, 1) := by decide +kernel
theorem dL_law_171 : decode cL_law 171 = .ok (.iaload, 1) := by decide +kernel
theorem dL_law_172 : decode cL_law 172 = .ok (.aload_n 0, 1) := by decide +kernel
theorem dL_law_173 : decode cL_law 173 = .ok (.iload_n 3, 1) := by decide +kernel
theorem dL_law_174 : decode cL_law 174 = .ok (.iconst 4, 1) := by decide +kernel
theorem dL_law_175 : decode cL_law 175 = .ok (.iadd, 1) := by decide +kernel
theorem dL_law_176 : decode cL_law 176 = .ok (.iaload, 1) := by decide +kernel
theorem dL_law_177 : decode cL_law 177 = .ok (.aload_n 0, 1) := by decide +kernel
theorem dL_law_178 : decode cL_law 178 = .ok (.iload_n 3, 1) := by decide +kernel
theorem dL_law_179 : decode cL_law 179 = .ok (.iconst 5, 1) := by decide +kernel
theorem dL_law_180 : decode cL_law 180 = .ok (.iadd, 1) := by decide +kernel
theorem dL_law_181 : decode cL_law 181 = .ok (.iaload, 1) := by decide +kernel
theorem dL_law_182 : decode cL_law 182 = .ok (.invokevirtual 13, 3) := by decide +kernel
theorem dL_law_185 : decode cL_law 185 = .ok (.aload_n 2, 1) := by decide +kernel
theorem dL_law_186 : decode cL_law 186 = .ok (.aload_n 0, 1) := by decide +kernel
theorem dL_law_187 : decode cL_law 187 = .ok (.iload_n 3, 1) := by decide +kernel
theorem dL_law_188 : decode cL_law 188 = .ok (.iconst 1, 1) := by decide +kernel
theorem dL_law_189 : decode cL_law 189 = .ok (.iadd, 1) := by decide +kernel
theorem dL_law_190 : decode cL_law 190 = .ok (.iaload, 1) := by decide +kernel
theorem dL_law_191 : decode cL_law 191 = .ok (.aload_n 0, 1) := by decide +kernel
theorem dL_law_192 : decode cL_law 192 = .ok (.iload_n 3, 1) := by decide +kernel
theorem dL_law_193 : decode cL_law 193 = .ok (.iconst 2, 1) := by decide +kernel
theorem dL_law_194 : decode cL_law 194 = .ok (.iadd, 1) := by decide +kernel
theorem dL_law_195 : decode cL_law 195 = .ok (.iaload, 1) := by decide +kernel
theorem dL_law_196 : decode cL_law 196 = .ok (.aload_n 0, 1) := by decide +kernel
theorem dL_law_197 : decode cL_law 197 = .ok (.iload_n 3, 1) := by decide +kernel
theorem dL_law_198 : decode cL_law 198 = .ok (.iconst 3, 1) := by decide +kernel
theorem dL_law_199 : decode cL_law 199 = .ok (.iadd, 1) := by decide +kernel
theorem dL_law_200 : decode cL_law 200 = .ok (.iaload, 1) := by decide +kernel
theorem dL_law_201 : decode cL_law 201 = .ok (.aload_n 0, 1) := by decide +kernel
theorem dL_law_202 : decode cL_law 202 = .ok (.iload_n 3, 1) := by decide +kernel
theorem dL_law_203 : decode cL_law 203 = .ok (.iconst 4, 1) := by decide +kernel
theorem dL_law_204 : decode cL_law 204 = .ok (.iadd, 1) := by decide +kernel
theorem dL_law_205 : decode cL_law 205 = .ok (.iaload, 1) := by decide +kernel
theorem dL_law_206 : decode cL_law 206 = .ok (.aload_n 0, 1) := by decide +kernel
theorem dL_law_207 : decode cL_law 207 = .ok (.iload_n 3, 1) := by decide +kernel
theorem dL_law_208 : decode cL_law 208 = .ok (.iconst 5, 1) := by decide +kernel
theorem dL_law_209 : decode cL_law 209 = .ok (.iadd, 1) := by decide +kernel
theorem dL_law_210 : decode cL_law 210 = .ok (.iaload, 1) := by decide +kernel
theorem dL_law_211 : decode cL_law 211 = .ok (.invokevirtual 17, 3) := by decide +kernel
theorem dL_law_214 : decode cL_law 214 = .ok (.if_icmp .eq 829, 3) := by decide +kernel
theorem dL_law_217 : decode cL_law 217 = .ok (.iconst 0, 1) := by decide +kernel
theorem dL_law_218 : decode cL_law 218 = .ok (.ireturn, 1) := by decide +kernel
theorem dL_law_219 : decode cL_law 219 = .ok (.aload_n 1, 1) := by decide +kernel
theorem dL_law_220 : decode cL_law 220 = .ok (.aload_n 0, 1) := by decide +kernel
theorem dL_law_221 : decode cL_law 221 = .ok (.iload_n 3, 1) := by decide +kernel
theorem dL_law_222 : decode cL_law 222 = .ok (.iconst 1, 1) := by decide +kernel
theorem dL_law_223 : decode cL_law 223 = .ok (.iadd, 1) := by decide +kernel
theorem dL_law_224 : decode cL_law 224 = .ok (.iaload, 1) := by decide +kernel
theorem dL_law_225 : decode cL_law 225 = .ok (.invokevirtual 18, 3) := by decide +kernel
theorem dL_law_228 : decode cL_law 228 = .ok (.aload_n 2, 1) := by decide +kernel
theorem dL_law_229 : decode cL_law 229 = .ok (.aload_n 0, 1) := by decide +kernel
theorem dL_law_230 : decode cL_law 230 = .ok (.iload_n 3, 1) := by decide +kernel
theorem dL_law_231 : decode cL_law 231 = .ok (.iconst 1, 1) := by decide +kernel
theorem dL_law_232 : decode cL_law 232 = .ok (.iadd, 1) := by decide +kernel
theorem dL_law_233 : decode cL_law 233 = .ok (.iaload, 1) := by decide +kernel
theorem dL_law_234 : decode cL_law 234 = .ok (.invokevirtual 22, 3) := by decide +kernel
theorem dL_law_237 : decode cL_law 237 = .ok (.if_icmp .eq 806, 3) := by decide +kernel
theorem dL_law_240 : decode cL_law 240 = .ok (.iconst 0, 1) := by decide +kernel
theorem dL_law_241 : decode cL_law 241 = .ok (.ireturn, 1) := by decide +kernel
theorem dL_law_242 : decode cL_law 242 = .ok (.aload_n 1, 1) := by decide +kernel
theorem dL_law_243 : decode cL_law 243 = .ok (.aload_n 0, 1) := by decide +kernel
theorem dL_law_244 : decode cL_law 244 = .ok (.iload_n 3, 1) := by decide +kernel
theorem dL_law_245 : decode cL_law 245 = .ok (.iconst 1, 1) := by decide +kernel
theorem dL_law_246 : decode cL_law 246 = .ok (.iadd, 1) := by decide +kernel
theorem dL_law_247 : decode cL_law 247 = .ok (.iaload, 1) := by decide +kernel
theorem dL_law_248 : decode cL_law 248 = .ok (.aload_n 0, 1) := by decide +kernel
theorem dL_law_249 : decode cL_law 249 = .ok (.iload_n 3, 1) := by decide +kernel
theorem dL_law_250 : decode cL_law 250 = .ok (.iconst 2, 1) := by decide +kernel
theorem dL_law_251 : decode cL_law 251 = .ok (.iadd, 1) := by decide +kernel
theorem dL_law_252 : decode cL_law 252 = .ok (.iaload, 1) := by decide +kernel
theorem dL_law_253 : decode cL_law 253 = .ok (.invokevirtual 23, 3) := by decide +kernel
theorem dL_law_256 : decode cL_law 256 = .ok (.aload_n 2, 1) := by decide +kernel
theorem dL_law_257 : decode cL_law 257 = .ok (.aload_n 0, 1) := by decide +kernel
theorem dL_law_258 : decode cL_law 258 = .ok (.iload_n 3, 1) := by decide +kernel
theorem dL_law_259 : decode cL_law 259 = .ok (.iconst 1, 1) := by decide +kernel
theorem dL_law_260 : decode cL_law 260 = .ok (.iadd, 1) := by decide +kernel
theorem dL_law_261 : decode cL_law 261 = .ok (.iaload, 1) := by decide +kernel
theorem dL_law_262 : decode cL_law 262 = .ok (.aload_n 0, 1) := by decide +kernel
theorem dL_law_263 : decode cL_law 263 = .ok (.iload_n 3, 1) := by decide +kernel
theorem dL_law_264 : decode cL_law 264 = .ok (.iconst 2, 1) := by decide +kernel
theorem dL_law_265 : decode cL_law 265 = .ok (.iadd, 1) := by decide +kernel
theorem dL_law_266 : decode cL_law 266 = .ok (.iaload, 1) := by decide +kernel
theorem dL_law_267 : decode cL_law 267 = .ok (.invokevirtual 27, 3) := by decide +kernel
theorem dL_law_270 : decode cL_law 270 = .ok (.if_icmp .eq 773, 3) := by decide +kernel
theorem dL_law_273 : decode cL_law 273 = .ok (.iconst 0, 1) := by decide +kernel
theorem dL_law_274 : decode cL_law 274 = .ok (.ireturn, 1) := by decide +kernel
theorem dL_law_275 : decode cL_law 275 = .ok (.aload_n 1, 1) := by decide +kernel
theorem dL_law_276 : decode cL_law 276 = .ok (.aload_n 0, 1) := by decide +kernel
theorem dL_law_277 : decode cL_law 277 = .ok (.iload_n 3, 1) := by decide +kernel
theorem dL_law_278 : decode cL_law 278 = .ok (.iconst 1, 1) := by decide +kernel
theorem dL_law_279 : decode cL_law 279 = .ok (.iadd, 1) := by decide +kernel
theorem dL_law_280 : decode cL_law 280 = .ok (.iaload, 1) := by decide +kernel
theorem dL_law_281 : decode cL_law 281 = .ok (.aload_n 0, 1) := by decide +kernel
theorem dL_law_282 : decode cL_law 282 = .ok (.iload_n 3, 1) := by decide +kernel
theorem dL_law_283 : decode cL_law 283 = .ok (.iconst 2, 1) := by decide +kernel
theorem dL_law_284 : decode cL_law 284 = .ok (.iadd, 1) := by decide +kernel
theorem dL_law_285 : decode cL_law 285 = .ok (.iaload, 1) := by decide +kernel
theorem dL_law_286 : decode cL_law 286 = .ok (.aload_n 0, 1) := by decide +kernel
theorem dL_law_287 : decode cL_law 287 = .ok (.iload_n 3, 1) := by decide +kernel
theorem dL_law_288 : decode cL_law 288 = .ok (.iconst 3, 1) := by decide +kernel
theorem dL_law_289 : decode cL_law 289 = .ok (.iadd, 1) := by decide +kernel
theorem dL_law_290 : decode cL_law 290 = .ok (.iaload, 1) := by decide +kernel
theorem dL_law_291 : decode cL_law 291 = .ok (.aload_n 0, 1) := by decide +kernel
theorem dL_law_292 : decode cL_law 292 = .ok (.iload_n 3, 1) := by decide +kernel
theorem dL_law_293 : decode cL_law 293 = .ok (.iconst 4, 1) := by decide +kernel
theorem dL_law_294 : decode cL_law 294 = .ok (.iadd, 1) := by decide +kernel
theorem dL_law_295 : decode cL_law 295 = .ok (.iaload, 1) := by decide +kernel
theorem dL_law_296 : decode cL_law 296 = .ok (.ifCond .eq 7, 3) := by decide +kernel
theorem dL_law_299 : decode cL_law 299 = .ok (.iconst 1, 1) := by decide +kernel
theorem dL_law_300 : decode cL_law 300 = .ok (.goto 4, 3) := by decide +kernel
theorem dL_law_303 : decode cL_law 303 = .ok (.iconst 0, 1) := by decide +kernel
theorem dL_law_304 : decode cL_law 304 = .ok (.invokevirtual 28, 3) := by decide +kernel
theorem dL_law_307 : decode cL_law 307 = .ok (.aload_n 2, 1) := by decide +kernel
theorem dL_law_308 : decode cL_law 308 = .ok (.aload_n 0, 1) := by decide +kernel
theorem dL_law_309 : decode cL_law 309 = .ok (.iload_n 3, 1) := by decide +kernel
theorem dL_law_310 : decode cL_law 310 = .ok (.iconst 1, 1) := by decide +kernel
theorem dL_law_311 : decode cL_law 311 = .ok (.iadd, 1) := by decide +kernel
theorem dL_law_312 : decode cL_law 312 = .ok (.iaload, 1) := by decide +kernel
theorem dL_law_313 : decode cL_law 313 = .ok (.aload_n 0, 1) := by decide +kernel
theorem dL_law_314 : decode cL_law 314 = .ok (.iload_n 3, 1) := by decide +kernel
theorem dL_law_315 : decode cL_law 315 = .ok (.iconst 2, 1) := by decide +kernel
theorem dL_law_316 : decode cL_law 316 = .ok (.iadd, 1) := by decide +kernel
theorem dL_law_317 : decode cL_law 317 = .ok (.iaload, 1) := by decide +kernel
theorem dL_law_318 : decode cL_law 318 = .ok (.aload_n 0, 1) := by decide +kernel
theorem dL_law_319 : decode cL_law 319 = .ok (.iload_n 3, 1) := by decide +kernel
theorem dL_law_320 : decode cL_law 320 = .ok (.iconst 3, 1) := by decide +kernel
theorem dL_law_321 : decode cL_law 321 = .ok (.iadd, 1) := by decide +kernel
theorem dL_law_322 : decode cL_law 322 = .ok (.iaload, 1) := by decide +kernel
theorem dL_law_323 : decode cL_law 323 = .ok (.aload_n 0, 1) := by decide +kernel
theorem dL_law_324 : decode cL_law 324 = .ok (.iload_n 3, 1) := by decide +kernel
theorem dL_law_325 : decode cL_law 325 = .ok (.iconst 4, 1) := by decide +kernel
theorem dL_law_326 : decode cL_law 326 = .ok (.iadd, 1) := by decide +kernel
theorem dL_law_327 : decode cL_law 327 = .ok (.iaload, 1) := by decide +kernel
theorem dL_law_328 : decode cL_law 328 = .ok (.ifCond .eq 7, 3) := by decide +kernel
theorem dL_law_331 : decode cL_law 331 = .ok (.iconst 1, 1) := by decide +kernel
theorem dL_law_332 : decode cL_law 332 = .ok (.goto 4, 3) := by decide +kernel
theorem dL_law_335 : decode cL_law 335 = .ok (.iconst 0, 1) := by decide +kernel
theorem dL_law_336 : decode cL_law 336 = .ok (.invokevirtual 32, 3) := by decide +kernel
theorem dL_law_339 : decode cL_law 339 = .ok (.if_icmp .eq 704, 3) := by decide +kernel
theorem dL_law_342 : decode cL_law 342 = .ok (.iconst 0, 1) := by decide +kernel
theorem dL_law_343 : decode cL_law 343 = .ok (.ireturn, 1) := by decide +kernel
theorem dL_law_344 : decode cL_law 344 = .ok (.aload_n 1, 1) := by decide +kernel
theorem dL_law_345 : decode cL_law 345 = .ok (.aload_n 0, 1) := by decide +kernel
theorem dL_law_346 : decode cL_law 346 = .ok (.iload_n 3, 1) := by decide +kernel
theorem dL_law_347 : decode cL_law 347 = .ok (.iconst 1, 1) := by decide +kernel
theorem dL_law_348 : decode cL_law 348 = .ok (.iadd, 1) := by decide +kernel
theorem dL_law_349 : decode cL_law 349 = .ok (.iaload, 1) := by decide +kernel
theorem dL_law_350 : decode cL_law 350 = .ok (.aload_n 0, 1) := by decide +kernel
theorem dL_law_351 : decode cL_law 351 = .ok (.iload_n 3, 1) := by decide +kernel
theorem dL_law_352 : decode cL_law 352 = .ok (.iconst 2, 1) := by decide +kernel
theorem dL_law_353 : decode cL_law 353 = .ok (.iadd, 1) := by decide +kernel
theorem dL_law_354 : decode cL_law 354 = .ok (.iaload, 1) := by decide +kernel
theorem dL_law_355 : decode cL_law 355 = .ok (.invokevirtual 33, 3) := by decide +kernel
theorem dL_law_358 : decode cL_law 358 = .ok (.aload_n 2, 1) := by decide +kernel
theorem dL_law_359 : decode cL_law 359 = .ok (.aload_n 0, 1) := by decide +kernel
theorem dL_law_360 : decode cL_law 360 = .ok (.iload_n 3, 1) := by decide +kernel
theorem dL_law_361 : decode cL_law 361 = .ok (.iconst 1, 1) := by decide +kernel
theorem dL_law_362 : decode cL_law 362 = .ok (.iadd, 1) := by decide +kernel
theorem dL_law_363 : decode cL_law 363 = .ok (.iaload, 1) := by decide +kernel
theorem dL_law_364 : decode cL_law 364 = .ok (.aload_n 0, 1) := by decide +kernel
theorem dL_law_365 : decode cL_law 365 = .ok (.iload_n 3, 1) := by decide +kernel
theorem dL_law_366 : decode cL_law 366 = .ok (.iconst 2, 1) := by decide +kernel
theorem dL_law_367 : decode cL_law 367 = .ok (.iadd, 1) := by decide +kernel
theorem dL_law_368 : decode cL_law 368 = .ok (.iaload, 1) := by decide +kernel
theorem dL_law_369 : decode cL_law 369 = .ok (.invokevirtual 36, 3) := by decide +kernel
theorem dL_law_372 : decode cL_law 372 = .ok (.if_icmp .eq 671, 3) := by decide +kernel
theorem dL_law_375 : decode cL_law 375 = .ok (.iconst 0, 1) := by decide +kernel
theorem dL_law_376 : decode cL_law 376 = .ok (.ireturn, 1) := by decide +kernel
theorem dL_law_377 : decode cL_law 377 = .ok (.aload_n 1, 1) := by decide +kernel
theorem dL_law_378 : decode cL_law 378 = .ok (.aload_n 0, 1) := by decide +kernel
theorem dL_law_379 : decode cL_law 379 = .ok (.iload_n 3, 1) := by decide +kernel
theorem dL_law_380 : decode cL_law 380 = .ok (.iconst 1, 1) := by decide +kernel
theorem dL_law_381 : decode cL_law 381 = .ok (.iadd, 1) := by decide +kernel
theorem dL_law_382 : decode cL_law 382 = .ok (.iaload, 1) := by decide +kernel
theorem dL_law_383 : decode cL_law 383 = .ok (.invokevirtual 37, 3) := by decide +kernel
theorem dL_law_386 : decode cL_law 386 = .ok (.aload_n 2, 1) := by decide +kernel
theorem dL_law_387 : decode cL_law 387 = .ok (.aload_n 0, 1) := by decide +kernel
theorem dL_law_388 : decode cL_law 388 = .ok (.iload_n 3, 1) := by decide +kernel
theorem dL_law_389 : decode cL_law 389 = .ok (.iconst 1, 1) := by decide +kernel
theorem dL_law_390 : decode cL_law 390 = .ok (.iadd, 1) := by decide +kernel
theorem dL_law_391 : decode cL_law 391 = .ok (.iaload, 1) := by decide +kernel
theorem dL_law_392 : decode cL_law 392 = .ok (.invokevirtual 40, 3) := by decide +kernel
theorem dL_law_395 : decode cL_law 395 = .ok (.if_icmp .eq 648, 3) := by decide +kernel
theorem dL_law_398 : decode cL_law 398 = .ok (.iconst 0, 1) := by decide +kernel
theorem dL_law_399 : decode cL_law 399 = .ok (.ireturn, 1) := by decide +kernel
theorem dL_law_400 : decode cL_law 400 = .ok (.aload_n 1, 1) := by decide +kernel
theorem dL_law_401 : decode cL_law 401 = .ok (.aload_n 0, 1) := by decide +kernel
theorem dL_law_402 : decode cL_law 402 = .ok (.iload_n 3, 1) := by decide +kernel
theorem dL_law_403 : decode cL_law 403 = .ok (.iconst 1, 1) := by decide +kernel
theorem dL_law_404 : decode cL_law 404 = .ok (.iadd, 1) := by decide +kernel
theorem dL_law_405 : decode cL_law 405 = .ok (.iaload, 1) := by decide +kernel
theorem dL_law_406 : decode cL_law 406 = .ok (.invokevirtual 41, 3) := by decide +kernel
theorem dL_law_409 : decode cL_law 409 = .ok (.aload_n 2, 1) := by decide +kernel
theorem dL_law_410 : decode cL_law 410 = .ok (.aload_n 0, 1) := by decide +kernel
theorem dL_law_411 : decode cL_law 411 = .ok (.iload_n 3, 1) := by decide +kernel
theorem dL_law_412 : decode cL_law 412 = .ok (.iconst 1, 1) := by decide +kernel
theorem dL_law_413 : decode cL_law 413 = .ok (.iadd, 1) := by decide +kernel
theorem dL_law_414 : decode cL_law 414 = .ok (.iaload, 1) := by decide +kernel
theorem dL_law_415 : decode cL_law 415 = .ok (.invokevirtual 44, 3) := by decide +kernel
theorem dL_law_418 : decode cL_law 418 = .ok (.if_icmp .eq 625, 3) := by decide +kernel
theorem dL_law_421 : decode cL_law 421 = .ok (.iconst 0, 1) := by decide +kernel
theorem dL_law_422 : decode cL_law 422 = .ok (.ireturn, 1) := by decide +kernel
theorem dL_law_423 : decode cL_law 423 = .ok (.aload_n 1, 1) := by decide +kernel
theorem dL_law_424 : decode cL_law 424 = .ok (.aload_n 0, 1) := by decide +kernel
theorem dL_law_425 : decode cL_law 425 = .ok (.iload_n 3, 1) := by decide +kernel
theorem dL_law_426 : decode cL_law 426 = .ok (.iconst 1, 1) := by decide +kernel
theorem dL_law_427 : decode cL_law 427 = .ok (.iadd, 1) := by decide +kernel
theorem dL_law_428 : decode cL_law 428 = .ok (.iaload, 1) := by decide +kernel
theorem dL_law_429 : decode cL_law 429 = .ok (.aload_n 0, 1) := by decide +kernel
theorem dL_law_430 : decode cL_law 430 = .ok (.iload_n 3, 1) := by decide +kernel
theorem dL_law_431 : decode cL_law 431 = .ok (.iconst 2, 1) := by decide +kernel
theorem dL_law_432 : decode cL_law 432 = .ok (.iadd, 1) := by decide +kernel
theorem dL_law_433 : decode cL_law 433 = .ok (.iaload, 1) := by decide +kernel
theorem dL_law_434 : decode cL_law 434 = .ok (.aload_n 0, 1) := by decide +kernel
theorem dL_law_435 : decode cL_law 435 = .ok (.iload_n 3, 1) := by decide +kernel
theorem dL_law_436 : decode cL_law 436 = .ok (.iconst 3, 1) := by decide +kernel
theorem dL_law_437 : decode cL_law 437 = .ok (.iadd, 1) := by decide +kernel
theorem dL_law_438 : decode cL_law 438 = .ok (.iaload, 1) := by decide +kernel
theorem dL_law_439 : decode cL_law 439 = .ok (.invokevirtual 45, 3) := by decide +kernel
theorem dL_law_442 : decode cL_law 442 = .ok (.aload_n 2, 1) := by decide +kernel
theorem dL_law_443 : decode cL_law 443 = .ok (.aload_n 0, 1) := by decide +kernel
theorem dL_law_444 : decode cL_law 444 = .ok (.iload_n 3, 1) := by decide +kernel
theorem dL_law_445 : decode cL_law 445 = .ok (.iconst 1, 1) := by decide +kernel
theorem dL_law_446 : decode cL_law 446 = .ok (.iadd, 1) := by decide +kernel
theorem dL_law_447 : decode cL_law 447 = .ok (.iaload, 1) := by decide +kernel
theorem dL_law_448 : decode cL_law 448 = .ok (.aload_n 0, 1) := by decide +kernel
theorem dL_law_449 : decode cL_law 449 = .ok (.iload_n 3, 1) := by decide +kernel
theorem dL_law_450 : decode cL_law 450 = .ok (.iconst 2, 1) := by decide +kernel
theorem dL_law_451 : decode cL_law 451 = .ok (.iadd, 1) := by decide +kernel
theorem dL_law_452 : decode cL_law 452 = .ok (.iaload, 1) := by decide +kernel
theorem dL_law_453 : decode cL_law 453 = .ok (.aload_n 0, 1) := by decide +kernel
theorem dL_law_454 : decode cL_law 454 = .ok (.iload_n 3, 1) := by decide +kernel
theorem dL_law_455 : decode cL_law 455 = .ok (.iconst 3, 1) := by decide +kernel
theorem dL_law_456 : decode cL_law 456 = .ok (.iadd, 1) := by decide +kernel
theorem dL_law_457 : decode cL_law 457 = .ok (.iaload, 1) := by decide +kernel
theorem dL_law_458 : decode cL_law 458 = .ok (.invokevirtual 49, 3) := by decide +kernel
theorem dL_law_461 : decode cL_law 461 = .ok (.if_icmp .eq 582, 3) := by decide +kernel
theorem dL_law_464 : decode cL_law 464 = .ok (.iconst 0, 1) := by decide +kernel
theorem dL_law_465 : decode cL_law 465 = .ok (.ireturn, 1) := by decide +kernel
theorem dL_law_466 : decode cL_law 466 = .ok (.aload_n 1, 1) := by decide +kernel
theorem dL_law_467 : decode cL_law 467 = .ok (.aload_n 0, 1) := by decide +kernel
theorem dL_law_468 : decode cL_law 468 = .ok (.iload_n 3, 1) := by decide +kernel
theorem dL_law_469 : decode cL_law 469 = .ok (.iconst 1, 1) := by decide +kernel
theorem dL_law_470 : decode cL_law 470 = .ok (.iadd, 1) := by decide +kernel
theorem dL_law_471 : decode cL_law 471 = .ok (.iaload, 1) := by decide +kernel
theorem dL_law_472 : decode cL_law 472 = .ok (.aload_n 0, 1) := by decide +kernel
theorem dL_law_473 : decode cL_law 473 = .ok (.iload_n 3, 1) := by decide +kernel
theorem dL_law_474 : decode cL_law 474 = .ok (.iconst 2, 1) := by decide +kernel
theorem dL_law_475 : decode cL_law 475 = .ok (.iadd, 1) := by decide +kernel
theorem dL_law_476 : decode cL_law 476 = .ok (.iaload, 1) := by decide +kernel
theorem dL_law_477 : decode cL_law 477 = .ok (.aload_n 0, 1) := by decide +kernel
theorem dL_law_478 : decode cL_law 478 = .ok (.iload_n 3, 1) := by decide +kernel
theorem dL_law_479 : decode cL_law 479 = .ok (.iconst 3, 1) := by decide +kernel
theorem dL_law_480 : decode cL_law 480 = .ok (.iadd, 1) := by decide +kernel
theorem dL_law_481 : decode cL_law 481 = .ok (.iaload, 1) := by decide +kernel
theorem dL_law_482 : decode cL_law 482 = .ok (.invokevirtual 50, 3) := by decide +kernel
theorem dL_law_485 : decode cL_law 485 = .ok (.aload_n 2, 1) := by decide +kernel
theorem dL_law_486 : decode cL_law 486 = .ok (.aload_n 0, 1) := by decide +kernel
theorem dL_law_487 : decode cL_law 487 = .ok (.iload_n 3, 1) := by decide +kernel
theorem dL_law_488 : decode cL_law 488 = .ok (.iconst 1, 1) := by decide +kernel
theorem dL_law_489 : decode cL_law 489 = .ok (.iadd, 1) := by decide +kernel
theorem dL_law_490 : decode cL_law 490 = .ok (.iaload, 1) := by decide +kernel
theorem dL_law_491 : decode cL_law 491 = .ok (.aload_n 0, 1) := by decide +kernel
theorem dL_law_492 : decode cL_law 492 = .ok (.iload_n 3, 1) := by decide +kernel
theorem dL_law_493 : decode cL_law 493 = .ok (.iconst 2, 1) := by decide +kernel
theorem dL_law_494 : decode cL_law 494 = .ok (.iadd, 1) := by decide +kernel
theorem dL_law_495 : decode cL_law 495 = .ok (.iaload, 1) := by decide +kernel
theorem dL_law_496 : decode cL_law 496 = .ok (.aload_n 0, 1) := by decide +kernel
theorem dL_law_497 : decode cL_law 497 = .ok (.iload_n 3, 1) := by decide +kernel
theorem dL_law_498 : decode cL_law 498 = .ok (.iconst 3, 1) := by decide +kernel
theorem dL_law_499 : decode cL_law 499 = .ok (.iadd, 1) := by decide +kernel
theorem dL_law_500 : decode cL_law 500 = .ok (.iaload, 1) := by decide +kernel
theorem dL_law_501 : decode cL_law 501 = .ok (.invokevirtual 53, 3) := by decide +kernel
theorem dL_law_504 : decode cL_law 504 = .ok (.if_icmp .eq 539, 3) := by decide +kernel
theorem dL_law_507 : decode cL_law 507 = .ok (.iconst 0, 1) := by decide +kernel
theorem dL_law_508 : decode cL_law 508 = .ok (.ireturn, 1) := by decide +kernel
theorem dL_law_509 : decode cL_law 509 = .ok (.aload_n 1, 1) := by decide +kernel
theorem dL_law_510 : decode cL_law 510 = .ok (.aload_n 0, 1) := by decide +kernel
theorem dL_law_511 : decode cL_law 511 = .ok (.iload_n 3, 1) := by decide +kernel
theorem dL_law_512 : decode cL_law 512 = .ok (.iconst 1, 1) := by decide +kernel
theorem dL_law_513 : decode cL_law 513 = .ok (.iadd, 1) := by decide +kernel
theorem dL_law_514 : decode cL_law 514 = .ok (.iaload, 1) := by decide +kernel
theorem dL_law_515 : decode cL_law 515 = .ok (.aload_n 0, 1) := by decide +kernel
theorem dL_law_516 : decode cL_law 516 = .ok (.iload_n 3, 1) := by decide +kernel
theorem dL_law_517 : decode cL_law 517 = .ok (.iconst 2, 1) := by decide +kernel
theorem dL_law_518 : decode cL_law 518 = .ok (.iadd, 1) := by decide +kernel
theorem dL_law_519 : decode cL_law 519 = .ok (.iaload, 1) := by decide +kernel
theorem dL_law_520 : decode cL_law 520 = .ok (.invokevirtual 54, 3) := by decide +kernel
theorem dL_law_523 : decode cL_law 523 = .ok (.aload_n 2, 1) := by decide +kernel
theorem dL_law_524 : decode cL_law 524 = .ok (.aload_n 0, 1) := by decide +kernel
theorem dL_law_525 : decode cL_law 525 = .ok (.iload_n 3, 1) := by decide +kernel
theorem dL_law_526 : decode cL_law 526 = .ok (.iconst 1, 1) := by decide +kernel
theorem dL_law_527 : decode cL_law 527 = .ok (.iadd, 1) := by decide +kernel
theorem dL_law_528 : decode cL_law 528 = .ok (.iaload, 1) := by decide +kernel
theorem dL_law_529 : decode cL_law 529 = .ok (.aload_n 0, 1) := by decide +kernel
theorem dL_law_530 : decode cL_law 530 = .ok (.iload_n 3, 1) := by decide +kernel
theorem dL_law_531 : decode cL_law 531 = .ok (.iconst 2, 1) := by decide +kernel
theorem dL_law_532 : decode cL_law 532 = .ok (.iadd, 1) := by decide +kernel
theorem dL_law_533 : decode cL_law 533 = .ok (.iaload, 1) := by decide +kernel
theorem dL_law_534 : decode cL_law 534 = .ok (.invokevirtual 57, 3) := by decide +kernel
theorem dL_law_537 : decode cL_law 537 = .ok (.if_icmp .eq 506, 3) := by decide +kernel
theorem dL_law_540 : decode cL_law 540 = .ok (.iconst 0, 1) := by decide +kernel
theorem dL_law_541 : decode cL_law 541 = .ok (.ireturn, 1) := by decide +kernel
theorem dL_law_542 : decode cL_law 542 = .ok (.aload_n 1, 1) := by decide +kernel
theorem dL_law_543 : decode cL_law 543 = .ok (.aload_n 0, 1) := by decide +kernel
theorem dL_law_544 : decode cL_law 544 = .ok (.iload_n 3, 1) := by decide +kernel
theorem dL_law_545 : decode cL_law 545 = .ok (.iconst 1, 1) := by decide +kernel
theorem dL_law_546 : decode cL_law 546 = .ok (.iadd, 1) := by decide +kernel
theorem dL_law_547 : decode cL_law 547 = .ok (.iaload, 1) := by decide +kernel
theorem dL_law_548 : decode cL_law 548 = .ok (.aload_n 0, 1) := by decide +kernel
theorem dL_law_549 : decode cL_law 549 = .ok (.iload_n 3, 1) := by decide +kernel
theorem dL_law_550 : decode cL_law 550 = .ok (.iconst 2, 1) := by decide +kernel
theorem dL_law_551 : decode cL_law 551 = .ok (.iadd, 1) := by decide +kernel
theorem dL_law_552 : decode cL_law 552 = .ok (.iaload, 1) := by decide +kernel
theorem dL_law_553 : decode cL_law 553 = .ok (.aload_n 0, 1) := by decide +kernel
theorem dL_law_554 : decode cL_law 554 = .ok (.iload_n 3, 1) := by decide +kernel
theorem dL_law_555 : decode cL_law 555 = .ok (.iconst 3, 1) := by decide +kernel
theorem dL_law_556 : decode cL_law 556 = .ok (.iadd, 1) := by decide +kernel
theorem dL_law_557 : decode cL_law 557 = .ok (.iaload, 1) := by decide +kernel
theorem dL_law_558 : decode cL_law 558 = .ok (.aload_n 0, 1) := by decide +kernel
theorem dL_law_559 : decode cL_law 559 = .ok (.iload_n 3, 1) := by decide +kernel
theorem dL_law_560 : decode cL_law 560 = .ok (.iconst 4, 1) := by decide +kernel
theorem dL_law_561 : decode cL_law 561 = .ok (.iadd, 1) := by decide +kernel
theorem dL_law_562 : decode cL_law 562 = .ok (.iaload, 1) := by decide +kernel
theorem dL_law_563 : decode cL_law 563 = .ok (.invokevirtual 58, 3) := by decide +kernel
theorem dL_law_566 : decode cL_law 566 = .ok (.aload_n 2, 1) := by decide +kernel
theorem dL_law_567 : decode cL_law 567 = .ok (.aload_n 0, 1) := by decide +kernel
theorem dL_law_568 : decode cL_law 568 = .ok (.iload_n 3, 1) := by decide +kernel
theorem dL_law_569 : decode cL_law 569 = .ok (.iconst 1, 1) := by decide +kernel
theorem dL_law_570 : decode cL_law 570 = .ok (.iadd, 1) := by decide +kernel
theorem dL_law_571 : decode cL_law 571 = .ok (.iaload, 1) := by decide +kernel
theorem dL_law_572 : decode cL_law 572 = .ok (.aload_n 0, 1) := by decide +kernel
theorem dL_law_573 : decode cL_law 573 = .ok (.iload_n 3, 1) := by decide +kernel
theorem dL_law_574 : decode cL_law 574 = .ok (.iconst 2, 1) := by decide +kernel
theorem dL_law_575 : decode cL_law 575 = .ok (.iadd, 1) := by decide +kernel
theorem dL_law_576 : decode cL_law 576 = .ok (.iaload, 1) := by decide +kernel
theorem dL_law_577 : decode cL_law 577 = .ok (.aload_n 0, 1) := by decide +kernel
theorem dL_law_578 : decode cL_law 578 = .ok (.iload_n 3, 1) := by decide +kernel
theorem dL_law_579 : decode cL_law 579 = .ok (.iconst 3, 1) := by decide +kernel
theorem dL_law_580 : decode cL_law 580 = .ok (.iadd, 1) := by decide +kernel
theorem dL_law_581 : decode cL_law 581 = .ok (.iaload, 1) := by decide +kernel
theorem dL_law_582 : decode cL_law 582 = .ok (.aload_n 0, 1) := by decide +kernel
theorem dL_law_583 : decode cL_law 583 = .ok (.iload_n 3, 1) := by decide +kernel
theorem dL_law_584 : decode cL_law 584 = .ok (.iconst 4, 1) := by decide +kernel
theorem dL_law_585 : decode cL_law 585 = .ok (.iadd, 1) := by decide +kernel
theorem dL_law_586 : decode cL_law 586 = .ok (.iaload, 1) := by decide +kernel
theorem dL_law_587 : decode cL_law 587 = .ok (.invokevirtual 62, 3) := by decide +kernel
theorem dL_law_590 : decode cL_law 590 = .ok (.if_icmp .eq 453, 3) := by decide +kernel
theorem dL_law_593 : decode cL_law 593 = .ok (.iconst 0, 1) := by decide +kernel
theorem dL_law_594 : decode cL_law 594 = .ok (.ireturn, 1) := by decide +kernel
theorem dL_law_595 : decode cL_law 595 = .ok (.aload_n 1, 1) := by decide +kernel
theorem dL_law_596 : decode cL_law 596 = .ok (.aload_n 0, 1) := by decide +kernel
theorem dL_law_597 : decode cL_law 597 = .ok (.iload_n 3, 1) := by decide +kernel
theorem dL_law_598 : decode cL_law 598 = .ok (.iconst 1, 1) := by decide +kernel
theorem dL_law_599 : decode cL_law 599 = .ok (.iadd, 1) := by decide +kernel
theorem dL_law_600 : decode cL_law 600 = .ok (.iaload, 1) := by decide +kernel
theorem dL_law_601 : decode cL_law 601 = .ok (.aload_n 0, 1) := by decide +kernel
theorem dL_law_602 : decode cL_law 602 = .ok (.iload_n 3, 1) := by decide +kernel
theorem dL_law_603 : decode cL_law 603 = .ok (.iconst 2, 1) := by decide +kernel
theorem dL_law_604 : decode cL_law 604 = .ok (.iadd, 1) := by decide +kernel
theorem dL_law_605 : decode cL_law 605 = .ok (.iaload, 1) := by decide +kernel
theorem dL_law_606 : decode cL_law 606 = .ok (.invokevirtual 63, 3) := by decide +kernel
theorem dL_law_609 : decode cL_law 609 = .ok (.aload_n 2, 1) := by decide +kernel
theorem dL_law_610 : decode cL_law 610 = .ok (.aload_n 0, 1) := by decide +kernel
theorem dL_law_611 : decode cL_law 611 = .ok (.iload_n 3, 1) := by decide +kernel
theorem dL_law_612 : decode cL_law 612 = .ok (.iconst 1, 1) := by decide +kernel
theorem dL_law_613 : decode cL_law 613 = .ok (.iadd, 1) := by decide +kernel
theorem dL_law_614 : decode cL_law 614 = .ok (.iaload, 1) := by decide +kernel
theorem dL_law_615 : decode cL_law 615 = .ok (.aload_n 0, 1) := by decide +kernel
theorem dL_law_616 : decode cL_law 616 = .ok (.iload_n 3, 1) := by decide +kernel
theorem dL_law_617 : decode cL_law 617 = .ok (.iconst 2, 1) := by decide +kernel
theorem dL_law_618 : decode cL_law 618 = .ok (.iadd, 1) := by decide +kernel
theorem dL_law_619 : decode cL_law 619 = .ok (.iaload, 1) := by decide +kernel
theorem dL_law_620 : decode cL_law 620 = .ok (.invokevirtual 66, 3) := by decide +kernel
theorem dL_law_623 : decode cL_law 623 = .ok (.if_icmp .eq 420, 3) := by decide +kernel
theorem dL_law_626 : decode cL_law 626 = .ok (.iconst 0, 1) := by decide +kernel
theorem dL_law_627 : decode cL_law 627 = .ok (.ireturn, 1) := by decide +kernel
theorem dL_law_628 : decode cL_law 628 = .ok (.aload_n 1, 1) := by decide +kernel
theorem dL_law_629 : decode cL_law 629 = .ok (.aload_n 0, 1) := by decide +kernel
theorem dL_law_630 : decode cL_law 630 = .ok (.iload_n 3, 1) := by decide +kernel
theorem dL_law_631 : decode cL_law 631 = .ok (.iconst 1, 1) := by decide +kernel
theorem dL_law_632 : decode cL_law 632 = .ok (.iadd, 1) := by decide +kernel
theorem dL_law_633 : decode cL_law 633 = .ok (.iaload, 1) := by decide +kernel
theorem dL_law_634 : decode cL_law 634 = .ok (.invokevirtual 67, 3) := by decide +kernel
theorem dL_law_637 : decode cL_law 637 = .ok (.aload_n 2, 1) := by decide +kernel
theorem dL_law_638 : decode cL_law 638 = .ok (.aload_n 0, 1) := by decide +kernel
theorem dL_law_639 : decode cL_law 639 = .ok (.iload_n 3, 1) := by decide +kernel
theorem dL_law_640 : decode cL_law 640 = .ok (.iconst 1, 1) := by decide +kernel
theorem dL_law_641 : decode cL_law 641 = .ok (.iadd, 1) := by decide +kernel
theorem dL_law_642 : decode cL_law 642 = .ok (.iaload, 1) := by decide +kernel
theorem dL_law_643 : decode cL_law 643 = .ok (.invokevirtual 70, 3) := by decide +kernel
theorem dL_law_646 : decode cL_law 646 = .ok (.if_icmp .eq 397, 3) := by decide +kernel
theorem dL_law_649 : decode cL_law 649 = .ok (.iconst 0, 1) := by decide +kernel
theorem dL_law_650 : decode cL_law 650 = .ok (.ireturn, 1) := by decide +kernel
theorem dL_law_651 : decode cL_law 651 = .ok (.aload_n 1, 1) := by decide +kernel
theorem dL_law_652 : decode cL_law 652 = .ok (.aload_n 0, 1) := by decide +kernel
theorem dL_law_653 : decode cL_law 653 = .ok (.iload_n 3, 1) := by decide +kernel
theorem dL_law_654 : decode cL_law 654 = .ok (.iconst 1, 1) := by decide +kernel
theorem dL_law_655 : decode cL_law 655 = .ok (.iadd, 1) := by decide +kernel
theorem dL_law_656 : decode cL_law 656 = .ok (.iaload, 1) := by decide +kernel
theorem dL_law_657 : decode cL_law 657 = .ok (.aload_n 0, 1) := by decide +kernel
theorem dL_law_658 : decode cL_law 658 = .ok (.iload_n 3, 1) := by decide +kernel
theorem dL_law_659 : decode cL_law 659 = .ok (.iconst 2, 1) := by decide +kernel
theorem dL_law_660 : decode cL_law 660 = .ok (.iadd, 1) := by decide +kernel
theorem dL_law_661 : decode cL_law 661 = .ok (.iaload, 1) := by decide +kernel
theorem dL_law_662 : decode cL_law 662 = .ok (.invokevirtual 71, 3) := by decide +kernel
theorem dL_law_665 : decode cL_law 665 = .ok (.aload_n 2, 1) := by decide +kernel
theorem dL_law_666 : decode cL_law 666 = .ok (.aload_n 0, 1) := by decide +kernel
theorem dL_law_667 : decode cL_law 667 = .ok (.iload_n 3, 1) := by decide +kernel
theorem dL_law_668 : decode cL_law 668 = .ok (.iconst 1, 1) := by decide +kernel
theorem dL_law_669 : decode cL_law 669 = .ok (.iadd, 1) := by decide +kernel
theorem dL_law_670 : decode cL_law 670 = .ok (.iaload, 1) := by decide +kernel
theorem dL_law_671 : decode cL_law 671 = .ok (.aload_n 0, 1) := by decide +kernel
theorem dL_law_672 : decode cL_law 672 = .ok (.iload_n 3, 1) := by decide +kernel
theorem dL_law_673 : decode cL_law 673 = .ok (.iconst 2, 1) := by decide +kernel
theorem dL_law_674 : decode cL_law 674 = .ok (.iadd, 1) := by decide +kernel
theorem dL_law_675 : decode cL_law 675 = .ok (.iaload, 1) := by decide +kernel
theorem dL_law_676 : decode cL_law 676 = .ok (.invokevirtual 74, 3) := by decide +kernel
theorem dL_law_679 : decode cL_law 679 = .ok (.if_icmp .eq 364, 3) := by decide +kernel
theorem dL_law_682 : decode cL_law 682 = .ok (.iconst 0, 1) := by decide +kernel
theorem dL_law_683 : decode cL_law 683 = .ok (.ireturn, 1) := by decide +kernel
theorem dL_law_684 : decode cL_law 684 = .ok (.aload_n 1, 1) := by decide +kernel
theorem dL_law_685 : decode cL_law 685 = .ok (.aload_n 0, 1) := by decide +kernel
theorem dL_law_686 : decode cL_law 686 = .ok (.iload_n 3, 1) := by decide +kernel
theorem dL_law_687 : decode cL_law 687 = .ok (.iconst 1, 1) := by decide +kernel
theorem dL_law_688 : decode cL_law 688 = .ok (.iadd, 1) := by decide +kernel
theorem dL_law_689 : decode cL_law 689 = .ok (.iaload, 1) := by decide +kernel
theorem dL_law_690 : decode cL_law 690 = .ok (.invokevirtual 75, 3) := by decide +kernel
theorem dL_law_693 : decode cL_law 693 = .ok (.aload_n 2, 1) := by decide +kernel
theorem dL_law_694 : decode cL_law 694 = .ok (.aload_n 0, 1) := by decide +kernel
theorem dL_law_695 : decode cL_law 695 = .ok (.iload_n 3, 1) := by decide +kernel
theorem dL_law_696 : decode cL_law 696 = .ok (.iconst 1, 1) := by decide +kernel
theorem dL_law_697 : decode cL_law 697 = .ok (.iadd, 1) := by decide +kernel
theorem dL_law_698 : decode cL_law 698 = .ok (.iaload, 1) := by decide +kernel
theorem dL_law_699 : decode cL_law 699 = .ok (.invokevirtual 78, 3) := by decide +kernel
theorem dL_law_702 : decode cL_law 702 = .ok (.if_icmp .eq 341, 3) := by decide +kernel
theorem dL_law_705 : decode cL_law 705 = .ok (.iconst 0, 1) := by decide +kernel
theorem dL_law_706 : decode cL_law 706 = .ok (.ireturn, 1) := by decide +kernel
theorem dL_law_707 : decode cL_law 707 = .ok (.aload_n 1, 1) := by decide +kernel
theorem dL_law_708 : decode cL_law 708 = .ok (.aload_n 0, 1) := by decide +kernel
theorem dL_law_709 : decode cL_law 709 = .ok (.iload_n 3, 1) := by decide +kernel
theorem dL_law_710 : decode cL_law 710 = .ok (.iconst 1, 1) := by decide +kernel
theorem dL_law_711 : decode cL_law 711 = .ok (.iadd, 1) := by decide +kernel
theorem dL_law_712 : decode cL_law 712 = .ok (.iaload, 1) := by decide +kernel
theorem dL_law_713 : decode cL_law 713 = .ok (.invokevirtual 79, 3) := by decide +kernel
theorem dL_law_716 : decode cL_law 716 = .ok (.aload_n 2, 1) := by decide +kernel
theorem dL_law_717 : decode cL_law 717 = .ok (.aload_n 0, 1) := by decide +kernel
theorem dL_law_718 : decode cL_law 718 = .ok (.iload_n 3, 1) := by decide +kernel
theorem dL_law_719 : decode cL_law 719 = .ok (.iconst 1, 1) := by decide +kernel
theorem dL_law_720 : decode cL_law 720 = .ok (.iadd, 1) := by decide +kernel
theorem dL_law_721 : decode cL_law 721 = .ok (.iaload, 1) := by decide +kernel
theorem dL_law_722 : decode cL_law 722 = .ok (.invokevirtual 82, 3) := by decide +kernel
theorem dL_law_725 : decode cL_law 725 = .ok (.if_icmp .eq 318, 3) := by decide +kernel
theorem dL_law_728 : decode cL_law 728 = .ok (.iconst 0, 1) := by decide +kernel
theorem dL_law_729 : decode cL_law 729 = .ok (.ireturn, 1) := by decide +kernel
theorem dL_law_730 : decode cL_law 730 = .ok (.aload_n 1, 1) := by decide +kernel
theorem dL_law_731 : decode cL_law 731 = .ok (.aload_n 0, 1) := by decide +kernel
theorem dL_law_732 : decode cL_law 732 = .ok (.iload_n 3, 1) := by decide +kernel
theorem dL_law_733 : decode cL_law 733 = .ok (.iconst 1, 1) := by decide +kernel
theorem dL_law_734 : decode cL_law 734 = .ok (.iadd, 1) := by decide +kernel
theorem dL_law_735 : decode cL_law 735 = .ok (.iaload, 1) := by decide +kernel
theorem dL_law_736 : decode cL_law 736 = .ok (.aload_n 0, 1) := by decide +kernel
theorem dL_law_737 : decode cL_law 737 = .ok (.iload_n 3, 1) := by decide +kernel
theorem dL_law_738 : decode cL_law 738 = .ok (.iconst 2, 1) := by decide +kernel
theorem dL_law_739 : decode cL_law 739 = .ok (.iadd, 1) := by decide +kernel
theorem dL_law_740 : decode cL_law 740 = .ok (.iaload, 1) := by decide +kernel
theorem dL_law_741 : decode cL_law 741 = .ok (.aload_n 0, 1) := by decide +kernel
theorem dL_law_742 : decode cL_law 742 = .ok (.iload_n 3, 1) := by decide +kernel
theorem dL_law_743 : decode cL_law 743 = .ok (.iconst 3, 1) := by decide +kernel
theorem dL_law_744 : decode cL_law 744 = .ok (.iadd, 1) := by decide +kernel
theorem dL_law_745 : decode cL_law 745 = .ok (.iaload, 1) := by decide +kernel
theorem dL_law_746 : decode cL_law 746 = .ok (.aload_n 0, 1) := by decide +kernel
theorem dL_law_747 : decode cL_law 747 = .ok (.iload_n 3, 1) := by decide +kernel
theorem dL_law_748 : decode cL_law 748 = .ok (.iconst 4, 1) := by decide +kernel
theorem dL_law_749 : decode cL_law 749 = .ok (.iadd, 1) := by decide +kernel
theorem dL_law_750 : decode cL_law 750 = .ok (.iaload, 1) := by decide +kernel
theorem dL_law_751 : decode cL_law 751 = .ok (.invokevirtual 83, 3) := by decide +kernel
theorem dL_law_754 : decode cL_law 754 = .ok (.aload_n 2, 1) := by decide +kernel
theorem dL_law_755 : decode cL_law 755 = .ok (.aload_n 0, 1) := by decide +kernel
theorem dL_law_756 : decode cL_law 756 = .ok (.iload_n 3, 1) := by decide +kernel
theorem dL_law_757 : decode cL_law 757 = .ok (.iconst 1, 1) := by decide +kernel
theorem dL_law_758 : decode cL_law 758 = .ok (.iadd, 1) := by decide +kernel
theorem dL_law_759 : decode cL_law 759 = .ok (.iaload, 1) := by decide +kernel
theorem dL_law_760 : decode cL_law 760 = .ok (.aload_n 0, 1) := by decide +kernel
theorem dL_law_761 : decode cL_law 761 = .ok (.iload_n 3, 1) := by decide +kernel
theorem dL_law_762 : decode cL_law 762 = .ok (.iconst 2, 1) := by decide +kernel
theorem dL_law_763 : decode cL_law 763 = .ok (.iadd, 1) := by decide +kernel
theorem dL_law_764 : decode cL_law 764 = .ok (.iaload, 1) := by decide +kernel
theorem dL_law_765 : decode cL_law 765 = .ok (.aload_n 0, 1) := by decide +kernel
theorem dL_law_766 : decode cL_law 766 = .ok (.iload_n 3, 1) := by decide +kernel
theorem dL_law_767 : decode cL_law 767 = .ok (.iconst 3, 1) := by decide +kernel
theorem dL_law_768 : decode cL_law 768 = .ok (.iadd, 1) := by decide +kernel
theorem dL_law_769 : decode cL_law 769 = .ok (.iaload, 1) := by decide +kernel
theorem dL_law_770 : decode cL_law 770 = .ok (.aload_n 0, 1) := by decide +kernel
theorem dL_law_771 : decode cL_law 771 = .ok (.iload_n 3, 1) := by decide +kernel
theorem dL_law_772 : decode cL_law 772 = .ok (.iconst 4, 1) := by decide +kernel
theorem dL_law_773 : decode cL_law 773 = .ok (.iadd, 1) := by decide +kernel
theorem dL_law_774 : decode cL_law 774 = .ok (.iaload, 1) := by decide +kernel
theorem dL_law_775 : decode cL_law 775 = .ok (.invokevirtual 86, 3) := by decide +kernel
theorem dL_law_778 : decode cL_law 778 = .ok (.if_icmp .eq 265, 3) := by decide +kernel
theorem dL_law_781 : decode cL_law 781 = .ok (.iconst 0, 1) := by decide +kernel
theorem dL_law_782 : decode cL_law 782 = .ok (.ireturn, 1) := by decide +kernel
theorem dL_law_783 : decode cL_law 783 = .ok (.aload_n 1, 1) := by decide +kernel
theorem dL_law_784 : decode cL_law 784 = .ok (.aload_n 0, 1) := by decide +kernel
theorem dL_law_785 : decode cL_law 785 = .ok (.iload_n 3, 1) := by decide +kernel
theorem dL_law_786 : decode cL_law 786 = .ok (.iconst 1, 1) := by decide +kernel
theorem dL_law_787 : decode cL_law 787 = .ok (.iadd, 1) := by decide +kernel
theorem dL_law_788 : decode cL_law 788 = .ok (.iaload, 1) := by decide +kernel
theorem dL_law_789 : decode cL_law 789 = .ok (.invokevirtual 87, 3) := by decide +kernel
theorem dL_law_792 : decode cL_law 792 = .ok (.aload_n 2, 1) := by decide +kernel
theorem dL_law_793 : decode cL_law 793 = .ok (.aload_n 0, 1) := by decide +kernel
theorem dL_law_794 : decode cL_law 794 = .ok (.iload_n 3, 1) := by decide +kernel
theorem dL_law_795 : decode cL_law 795 = .ok (.iconst 1, 1) := by decide +kernel
theorem dL_law_796 : decode cL_law 796 = .ok (.iadd, 1) := by decide +kernel
theorem dL_law_797 : decode cL_law 797 = .ok (.iaload, 1) := by decide +kernel
theorem dL_law_798 : decode cL_law 798 = .ok (.invokevirtual 90, 3) := by decide +kernel
theorem dL_law_801 : decode cL_law 801 = .ok (.if_icmp .eq 242, 3) := by decide +kernel
theorem dL_law_804 : decode cL_law 804 = .ok (.iconst 0, 1) := by decide +kernel
theorem dL_law_805 : decode cL_law 805 = .ok (.ireturn, 1) := by decide +kernel
theorem dL_law_806 : decode cL_law 806 = .ok (.aload_n 1, 1) := by decide +kernel
theorem dL_law_807 : decode cL_law 807 = .ok (.aload_n 0, 1) := by decide +kernel
theorem dL_law_808 : decode cL_law 808 = .ok (.iload_n 3, 1) := by decide +kernel
theorem dL_law_809 : decode cL_law 809 = .ok (.iconst 1, 1) := by decide +kernel
theorem dL_law_810 : decode cL_law 810 = .ok (.iadd, 1) := by decide +kernel
theorem dL_law_811 : decode cL_law 811 = .ok (.iaload, 1) := by decide +kernel
theorem dL_law_812 : decode cL_law 812 = .ok (.aload_n 0, 1) := by decide +kernel
theorem dL_law_813 : decode cL_law 813 = .ok (.iload_n 3, 1) := by decide +kernel
theorem dL_law_814 : decode cL_law 814 = .ok (.iconst 2, 1) := by decide +kernel
theorem dL_law_815 : decode cL_law 815 = .ok (.iadd, 1) := by decide +kernel
theorem dL_law_816 : decode cL_law 816 = .ok (.iaload, 1) := by decide +kernel
theorem dL_law_817 : decode cL_law 817 = .ok (.invokevirtual 91, 3) := by decide +kernel
theorem dL_law_820 : decode cL_law 820 = .ok (.aload_n 2, 1) := by decide +kernel
theorem dL_law_821 : decode cL_law 821 = .ok (.aload_n 0, 1) := by decide +kernel
theorem dL_law_822 : decode cL_law 822 = .ok (.iload_n 3, 1) := by decide +kernel
theorem dL_law_823 : decode cL_law 823 = .ok (.iconst 1, 1) := by decide +kernel
theorem dL_law_824 : decode cL_law 824 = .ok (.iadd, 1) := by decide +kernel
theorem dL_law_825 : decode cL_law 825 = .ok (.iaload, 1) := by decide +kernel
theorem dL_law_826 : decode cL_law 826 = .ok (.aload_n 0, 1) := by decide +kernel
theorem dL_law_827 : decode cL_law 827 = .ok (.iload_n 3, 1) := by decide +kernel
theorem dL_law_828 : decode cL_law 828 = .ok (.iconst 2, 1) := by decide +kernel
theorem dL_law_829 : decode cL_law 829 = .ok (.iadd, 1) := by decide +kernel
theorem dL_law_830 : decode cL_law 830 = .ok (.iaload, 1) := by decide +kernel
theorem dL_law_831 : decode cL_law 831 = .ok (.invokevirtual 94, 3) := by decide +kernel
theorem dL_law_834 : decode cL_law 834 = .ok (.if_icmp .eq 209, 3) := by decide +kernel
theorem dL_law_837 : decode cL_law 837 = .ok (.iconst 0, 1) := by decide +kernel
theorem dL_law_838 : decode cL_law 838 = .ok (.ireturn, 1) := by decide +kernel
theorem dL_law_839 : decode cL_law 839 = .ok (.aload_n 1, 1) := by decide +kernel
theorem dL_law_840 : decode cL_law 840 = .ok (.aload_n 0, 1) := by decide +kernel
theorem dL_law_841 : decode cL_law 841 = .ok (.iload_n 3, 1) := by decide +kernel
theorem dL_law_842 : decode cL_law 842 = .ok (.iconst 1, 1) := by decide +kernel
theorem dL_law_843 : decode cL_law 843 = .ok (.iadd, 1) := by decide +kernel
theorem dL_law_844 : decode cL_law 844 = .ok (.iaload, 1) := by decide +kernel
theorem dL_law_845 : decode cL_law 845 = .ok (.aload_n 0, 1) := by decide +kernel
theorem dL_law_846 : decode cL_law 846 = .ok (.iload_n 3, 1) := by decide +kernel
theorem dL_law_847 : decode cL_law 847 = .ok (.iconst 2, 1) := by decide +kernel
theorem dL_law_848 : decode cL_law 848 = .ok (.iadd, 1) := by decide +kernel
theorem dL_law_849 : decode cL_law 849 = .ok (.iaload, 1) := by decide +kernel
theorem dL_law_850 : decode cL_law 850 = .ok (.aload_n 0, 1) := by decide +kernel
theorem dL_law_851 : decode cL_law 851 = .ok (.iload_n 3, 1) := by decide +kernel
theorem dL_law_852 : decode cL_law 852 = .ok (.iconst 3, 1) := by decide +kernel
theorem dL_law_853 : decode cL_law 853 = .ok (.iadd, 1) := by decide +kernel
theorem dL_law_854 : decode cL_law 854 = .ok (.iaload, 1) := by decide +kernel
theorem dL_law_855 : decode cL_law 855 = .ok (.aload_n 0, 1) := by decide +kernel
theorem dL_law_856 : decode cL_law 856 = .ok (.iload_n 3, 1) := by decide +kernel
theorem dL_law_857 : decode cL_law 857 = .ok (.iconst 4, 1) := by decide +kernel
theorem dL_law_858 : decode cL_law 858 = .ok (.iadd, 1) := by decide +kernel
theorem dL_law_859 : decode cL_law 859 = .ok (.iaload, 1) := by decide +kernel
theorem dL_law_860 : decode cL_law 860 = .ok (.invokevirtual 95, 3) := by decide +kernel
theorem dL_law_863 : decode cL_law 863 = .ok (.aload_n 2, 1) := by decide +kernel
theorem dL_law_864 : decode cL_law 864 = .ok (.aload_n 0, 1) := by decide +kernel
theorem dL_law_865 : decode cL_law 865 = .ok (.iload_n 3, 1) := by decide +kernel
theorem dL_law_866 : decode cL_law 866 = .ok (.iconst 1, 1) := by decide +kernel
theorem dL_law_867 : decode cL_law 867 = .ok (.iadd, 1) := by decide +kernel
theorem dL_law_868 : decode cL_law 868 = .ok (.iaload, 1) := by decide +kernel
theorem dL_law_869 : decode cL_law 869 = .ok (.aload_n 0, 1) := by decide +kernel
theorem dL_law_870 : decode cL_law 870 = .ok (.iload_n 3, 1) := by decide +kernel
theorem dL_law_871 : decode cL_law 871 = .ok (.iconst 2, 1) := by decide +kernel
theorem dL_law_872 : decode cL_law 872 = .ok (.iadd, 1) := by decide +kernel
theorem dL_law_873 : decode cL_law 873 = .ok (.iaload, 1) := by decide +kernel
theorem dL_law_874 : decode cL_law 874 = .ok (.aload_n 0, 1) := by decide +kernel
theorem dL_law_875 : decode cL_law 875 = .ok (.iload_n 3, 1) := by decide +kernel
theorem dL_law_876 : decode cL_law 876 = .ok (.iconst 3, 1) := by decide +kernel
theorem dL_law_877 : decode cL_law 877 = .ok (.iadd, 1) := by decide +kernel
theorem dL_law_878 : decode cL_law 878 = .ok (.iaload, 1) := by decide +kernel
theorem dL_law_879 : decode cL_law 879 = .ok (.aload_n 0, 1) := by decide +kernel
theorem dL_law_880 : decode cL_law 880 = .ok (.iload_n 3, 1) := by decide +kernel
theorem dL_law_881 : decode cL_law 881 = .ok (.iconst 4, 1) := by decide +kernel
theorem dL_law_882 : decode cL_law 882 = .ok (.iadd, 1) := by decide +kernel
theorem dL_law_883 : decode cL_law 883 = .ok (.iaload, 1) := by decide +kernel
theorem dL_law_884 : decode cL_law 884 = .ok (.invokevirtual 98, 3) := by decide +kernel
theorem dL_law_887 : decode cL_law 887 = .ok (.if_icmp .eq 156, 3) := by decide +kernel
theorem dL_law_890 : decode cL_law 890 = .ok (.iconst 0, 1) := by decide +kernel
theorem dL_law_891 : decode cL_law 891 = .ok (.ireturn, 1) := by decide +kernel
theorem dL_law_892 : decode cL_law 892 = .ok (.aload_n 1, 1) := by decide +kernel
theorem dL_law_893 : decode cL_law 893 = .ok (.aload_n 0, 1) := by decide +kernel
theorem dL_law_894 : decode cL_law 894 = .ok (.iload_n 3, 1) := by decide +kernel
theorem dL_law_895 : decode cL_law 895 = .ok (.iconst 1, 1) := by decide +kernel
theorem dL_law_896 : decode cL_law 896 = .ok (.iadd, 1) := by decide +kernel
end
section
theorem dL_law_897 : decode cL_law 897 = .ok (.iaload, 1) := by decide +kernel
theorem dL_law_898 : decode cL_law 898 = .ok (.invokevirtual 99, 3) := by decide +kernel
theorem dL_law_901 : decode cL_law 901 = .ok (.aload_n 2, 1) := by decide +kernel
theorem dL_law_902 : decode cL_law 902 = .ok (.aload_n 0, 1) := by decide +kernel
theorem dL_law_903 : decode cL_law 903 = .ok (.iload_n 3, 1) := by decide +kernel
theorem dL_law_904 : decode cL_law 904 = .ok (.iconst 1, 1) := by decide +kernel
theorem dL_law_905 : decode cL_law 905 = .ok (.iadd, 1) := by decide +kernel
theorem dL_law_906 : decode cL_law 906 = .ok (.iaload, 1) := by decide +kernel
theorem dL_law_907 : decode cL_law 907 = .ok (.invokevirtual 102, 3) := by decide +kernel
theorem dL_law_910 : decode cL_law 910 = .ok (.if_icmp .eq 133, 3) := by decide +kernel
theorem dL_law_913 : decode cL_law 913 = .ok (.iconst 0, 1) := by decide +kernel
theorem dL_law_914 : decode cL_law 914 = .ok (.ireturn, 1) := by decide +kernel
theorem dL_law_915 : decode cL_law 915 = .ok (.aload_n 1, 1) := by decide +kernel
theorem dL_law_916 : decode cL_law 916 = .ok (.aload_n 0, 1) := by decide +kernel
theorem dL_law_917 : decode cL_law 917 = .ok (.iload_n 3, 1) := by decide +kernel
theorem dL_law_918 : decode cL_law 918 = .ok (.iconst 1, 1) := by decide +kernel
theorem dL_law_919 : decode cL_law 919 = .ok (.iadd, 1) := by decide +kernel
theorem dL_law_920 : decode cL_law 920 = .ok (.iaload, 1) := by decide +kernel
theorem dL_law_921 : decode cL_law 921 = .ok (.invokevirtual 103, 3) := by decide +kernel
theorem dL_law_924 : decode cL_law 924 = .ok (.aload_n 2, 1) := by decide +kernel
theorem dL_law_925 : decode cL_law 925 = .ok (.aload_n 0, 1) := by decide +kernel
theorem dL_law_926 : decode cL_law 926 = .ok (.iload_n 3, 1) := by decide +kernel
theorem dL_law_927 : decode cL_law 927 = .ok (.iconst 1, 1) := by decide +kernel
theorem dL_law_928 : decode cL_law 928 = .ok (.iadd, 1) := by decide +kernel
theorem dL_law_929 : decode cL_law 929 = .ok (.iaload, 1) := by decide +kernel
theorem dL_law_930 : decode cL_law 930 = .ok (.invokevirtual 106, 3) := by decide +kernel
theorem dL_law_933 : decode cL_law 933 = .ok (.if_icmp .eq 110, 3) := by decide +kernel
theorem dL_law_936 : decode cL_law 936 = .ok (.iconst 0, 1) := by decide +kernel
theorem dL_law_937 : decode cL_law 937 = .ok (.ireturn, 1) := by decide +kernel
theorem dL_law_938 : decode cL_law 938 = .ok (.aload_n 1, 1) := by decide +kernel
theorem dL_law_939 : decode cL_law 939 = .ok (.aload_n 0, 1) := by decide +kernel
theorem dL_law_940 : decode cL_law 940 = .ok (.iload_n 3, 1) := by decide +kernel
theorem dL_law_941 : decode cL_law 941 = .ok (.iconst 1, 1) := by decide +kernel
theorem dL_law_942 : decode cL_law 942 = .ok (.iadd, 1) := by decide +kernel
theorem dL_law_943 : decode cL_law 943 = .ok (.iaload, 1) := by decide +kernel
theorem dL_law_944 : decode cL_law 944 = .ok (.invokevirtual 107, 3) := by decide +kernel
theorem dL_law_947 : decode cL_law 947 = .ok (.aload_n 2, 1) := by decide +kernel
theorem dL_law_948 : decode cL_law 948 = .ok (.aload_n 0, 1) := by decide +kernel
theorem dL_law_949 : decode cL_law 949 = .ok (.iload_n 3, 1) := by decide +kernel
theorem dL_law_950 : decode cL_law 950 = .ok (.iconst 1, 1) := by decide +kernel
theorem dL_law_951 : decode cL_law 951 = .ok (.iadd, 1) := by decide +kernel
theorem dL_law_952 : decode cL_law 952 = .ok (.iaload, 1) := by decide +kernel
theorem dL_law_953 : decode cL_law 953 = .ok (.invokevirtual 110, 3) := by decide +kernel
theorem dL_law_956 : decode cL_law 956 = .ok (.if_icmp .eq 87, 3) := by decide +kernel
theorem dL_law_959 : decode cL_law 959 = .ok (.iconst 0, 1) := by decide +kernel
theorem dL_law_960 : decode cL_law 960 = .ok (.ireturn, 1) := by decide +kernel
theorem dL_law_961 : decode cL_law 961 = .ok (.aload_n 1, 1) := by decide +kernel
theorem dL_law_962 : decode cL_law 962 = .ok (.invokevirtual 111, 3) := by decide +kernel
theorem dL_law_965 : decode cL_law 965 = .ok (.aload_n 2, 1) := by decide +kernel
theorem dL_law_966 : decode cL_law 966 = .ok (.invokevirtual 115, 3) := by decide +kernel
theorem dL_law_969 : decode cL_law 969 = .ok (.if_icmp .eq 74, 3) := by decide +kernel
theorem dL_law_972 : decode cL_law 972 = .ok (.iconst 0, 1) := by decide +kernel
theorem dL_law_973 : decode cL_law 973 = .ok (.ireturn, 1) := by decide +kernel
theorem dL_law_974 : decode cL_law 974 = .ok (.aload_n 1, 1) := by decide +kernel
theorem dL_law_975 : decode cL_law 975 = .ok (.aload_n 0, 1) := by decide +kernel
theorem dL_law_976 : decode cL_law 976 = .ok (.iload_n 3, 1) := by decide +kernel
theorem dL_law_977 : decode cL_law 977 = .ok (.iconst 1, 1) := by decide +kernel
theorem dL_law_978 : decode cL_law 978 = .ok (.iadd, 1) := by decide +kernel
theorem dL_law_979 : decode cL_law 979 = .ok (.iaload, 1) := by decide +kernel
theorem dL_law_980 : decode cL_law 980 = .ok (.aload_n 0, 1) := by decide +kernel
theorem dL_law_981 : decode cL_law 981 = .ok (.iload_n 3, 1) := by decide +kernel
theorem dL_law_982 : decode cL_law 982 = .ok (.iconst 2, 1) := by decide +kernel
theorem dL_law_983 : decode cL_law 983 = .ok (.iadd, 1) := by decide +kernel
theorem dL_law_984 : decode cL_law 984 = .ok (.iaload, 1) := by decide +kernel
theorem dL_law_985 : decode cL_law 985 = .ok (.invokevirtual 116, 3) := by decide +kernel
theorem dL_law_988 : decode cL_law 988 = .ok (.aload_n 2, 1) := by decide +kernel
theorem dL_law_989 : decode cL_law 989 = .ok (.aload_n 0, 1) := by decide +kernel
theorem dL_law_990 : decode cL_law 990 = .ok (.iload_n 3, 1) := by decide +kernel
theorem dL_law_991 : decode cL_law 991 = .ok (.iconst 1, 1) := by decide +kernel
theorem dL_law_992 : decode cL_law 992 = .ok (.iadd, 1) := by decide +kernel
theorem dL_law_993 : decode cL_law 993 = .ok (.iaload, 1) := by decide +kernel
theorem dL_law_994 : decode cL_law 994 = .ok (.aload_n 0, 1) := by decide +kernel
theorem dL_law_995 : decode cL_law 995 = .ok (.iload_n 3, 1) := by decide +kernel
theorem dL_law_996 : decode cL_law 996 = .ok (.iconst 2, 1) := by decide +kernel
theorem dL_law_997 : decode cL_law 997 = .ok (.iadd, 1) := by decide +kernel
theorem dL_law_998 : decode cL_law 998 = .ok (.iaload, 1) := by decide +kernel
theorem dL_law_999 : decode cL_law 999 = .ok (.invokevirtual 119, 3) := by decide +kernel
theorem dL_law_1002 : decode cL_law 1002 = .ok (.if_icmp .eq 41, 3) := by decide +kernel
theorem dL_law_1005 : decode cL_law 1005 = .ok (.iconst 0, 1) := by decide +kernel
theorem dL_law_1006 : decode cL_law 1006 = .ok (.ireturn, 1) := by decide +kernel
theorem dL_law_1007 : decode cL_law 1007 = .ok (.aload_n 1, 1) := by decide +kernel
theorem dL_law_1008 : decode cL_law 1008 = .ok (.invokevirtual 120, 3) := by decide +kernel
theorem dL_law_1011 : decode cL_law 1011 = .ok (.aload_n 2, 1) := by decide +kernel
theorem dL_law_1012 : decode cL_law 1012 = .ok (.invokevirtual 123, 3) := by decide +kernel
theorem dL_law_1015 : decode cL_law 1015 = .ok (.if_icmp .eq 28, 3) := by decide +kernel
theorem dL_law_1018 : decode cL_law 1018 = .ok (.iconst 0, 1) := by decide +kernel
theorem dL_law_1019 : decode cL_law 1019 = .ok (.ireturn, 1) := by decide +kernel
theorem dL_law_1020 : decode cL_law 1020 = .ok (.aload_n 1, 1) := by decide +kernel
theorem dL_law_1021 : decode cL_law 1021 = .ok (.aload_n 0, 1) := by decide +kernel
theorem dL_law_1022 : decode cL_law 1022 = .ok (.iload_n 3, 1) := by decide +kernel
theorem dL_law_1023 : decode cL_law 1023 = .ok (.iconst 1, 1) := by decide +kernel
theorem dL_law_1024 : decode cL_law 1024 = .ok (.iadd, 1) := by decide +kernel
theorem dL_law_1025 : decode cL_law 1025 = .ok (.iaload, 1) := by decide +kernel
theorem dL_law_1026 : decode cL_law 1026 = .ok (.invokevirtual 124, 3) := by decide +kernel
theorem dL_law_1029 : decode cL_law 1029 = .ok (.aload_n 2, 1) := by decide +kernel
theorem dL_law_1030 : decode cL_law 1030 = .ok (.aload_n 0, 1) := by decide +kernel
theorem dL_law_1031 : decode cL_law 1031 = .ok (.iload_n 3, 1) := by decide +kernel
theorem dL_law_1032 : decode cL_law 1032 = .ok (.iconst 1, 1) := by decide +kernel
theorem dL_law_1033 : decode cL_law 1033 = .ok (.iadd, 1) := by decide +kernel
theorem dL_law_1034 : decode cL_law 1034 = .ok (.iaload, 1) := by decide +kernel
theorem dL_law_1035 : decode cL_law 1035 = .ok (.invokevirtual 127, 3) := by decide +kernel
theorem dL_law_1038 : decode cL_law 1038 = .ok (.if_icmp .eq 5, 3) := by decide +kernel
theorem dL_law_1041 : decode cL_law 1041 = .ok (.iconst 0, 1) := by decide +kernel
theorem dL_law_1042 : decode cL_law 1042 = .ok (.ireturn, 1) := by decide +kernel
theorem dL_law_1043 : decode cL_law 1043 = .ok (.iinc 3 6, 3) := by decide +kernel
theorem dL_law_1046 : decode cL_law 1046 = .ok (.goto (-1028), 3) := by decide +kernel
theorem dL_law_1049 : decode cL_law 1049 = .ok (.iconst 1, 1) := by decide +kernel
theorem dL_law_1050 : decode cL_law 1050 = .ok (.ireturn, 1) := by decide +kernel
end
section
/-! ===== methods and links ===== -/
theorem zz_w {w : Cond} (i : Nat) (h : lw_tbl[i]? = some w) (hg : goodWord w = true) : w ∈ zz_tbl := zz_tbl_of (List.mem_of_getElem? h) hg
theorem zz_wn {w : Cond} (i : Nat) (h : lw_tbl[i]? = some w) (hg : w ∈ lw_tbl → w ∈ zz_nest) : w ∈ zz_nest := hg (List.mem_of_getElem? h)
def zz_lV (own : String) (idx : Nat) (y' : zz_Y) (n : Nat) : Prop := zz_lk y' n ∧ Cond.methodLink own idx y'.1 ∈ zz_tbl ∧ Cond.instanceMethod y'.1 ∈ zz_tbl ∧ Cond.selects y'.1.cls y'.1 y'.1 ∈ zz_tbl
def zz_lS (own : String) (idx : Nat) (y' : zz_Y) (n : Nat) : Prop := zz_lk y' n ∧ Cond.methodLink own idx y'.1 ∈ zz_tbl ∧ Cond.static y'.1 ∈ zz_tbl
def zz_lSN (own : String) (idx : Nat) (y' : zz_Y) (n : Nat) : Prop := zz_lk y' n ∧ Cond.methodLinkNest own idx y'.1 "NeverMistaken" ∈ zz_nest ∧ Cond.static y'.1 ∈ zz_tbl
def zz_lI (own : String) (idx : Nat) (y' : zz_Y) : Prop := zz_lk y' 0 ∧ Cond.methodLink own idx y'.1 ∈ zz_tbl ∧ Cond.instanceMethod y'.1 ∈ zz_tbl ∧ y'.1.name = "<init>" ∧ y'.2.2.2.1 = none
def zz_lIN (own : String) (idx : Nat) (y' : zz_Y) : Prop := zz_lk y' 0 ∧ Cond.methodLinkNest own idx y'.1 "NeverMistaken" ∈ zz_nest ∧ Cond.instanceMethod y'.1 ∈ zz_tbl ∧ y'.1.name = "<init>" ∧ y'.2.2.2.1 = none
section ZC
variable {y y' : zz_Y} {d k pc : Nat} {ls : List (Option Value)} {st : List Value} {M : zz_M} {I : zz_I} {J : zz_J} {Q : zz_Q}
theorem zz_cV0 {a ci idx : Nat} {w : vw_C} (hd : decode y.2.1 pc = .ok (.invokevirtual idx, 3)) (hl : zz_lV y.1.cls idx y' 0) (h0 : y'.2.2.2.2 = 0) (hs : zz_is M a 0 ci) (hcl : zz_cl[ci]? = some w) (hcn : w.1 = y'.1.cls) (hcat : (st.map fun v => v.category).sum ≤ 8) (hkk : k ≤ y.2.2.2.2) (kk : zz_D y' d [.ref a] M I J (fun v M' I' J' => zz_G y (d + 1) k (pc + 3) ls (v.toList ++ st) M' I' J' Q)) : zz_G y (d + 1) k pc ls (.ref a :: st) M I J Q := by
  obtain ⟨y1, y2, y3, y4, y5⟩ := y'
  have h0 : y5 = 0 := h0
  subst h0
  exact zz_callV (As := []) hd hl.1 hl.2.1 hl.2.2.1 hl.2.2.2 hs hcl hcn hcat hkk kk
theorem zz_cS0 {idx : Nat} (hd : decode y.2.1 pc = .ok (.invokestatic idx, 3)) (hl : zz_lS y.1.cls idx y' 0) (h0 : y'.2.2.2.2 = 0) (hcat : (st.map fun v => v.category).sum ≤ 8) (hkk : k ≤ y.2.2.2.2) (kk : zz_D y' d [] M I J (fun v M' I' J' => zz_G y (d + 1) k (pc + 3) ls (v.toList ++ st) M' I' J' Q)) : zz_G y (d + 1) k pc ls (st) M I J Q := by
  obtain ⟨y1, y2, y3, y4, y5⟩ := y'
  have h0 : y5 = 0 := h0
  subst h0
  exact zz_callS (As := []) hd hl.1 hl.2.1 hl.2.2 hcat hkk kk
theorem zz_cV1 {a ci idx : Nat} {w : vw_C} {v1 : Value} (hd : decode y.2.1 pc = .ok (.invokevirtual idx, 3)) (hl : zz_lV y.1.cls idx y' 1) (h0 : y'.2.2.2.2 = 0) (hs : zz_is M a 0 ci) (hcl : zz_cl[ci]? = some w) (hcn : w.1 = y'.1.cls) (hcat : (st.map fun v => v.category).sum ≤ 8) (hkk : k ≤ y.2.2.2.2) (kk : zz_D y' d [.ref a, v1] M I J (fun v M' I' J' => zz_G y (d + 1) k (pc + 3) ls (v.toList ++ st) M' I' J' Q)) : zz_G y (d + 1) k pc ls (v1 :: .ref a :: st) M I J Q := by
  obtain ⟨y1, y2, y3, y4, y5⟩ := y'
  have h0 : y5 = 0 := h0
  subst h0
  exact zz_callV (As := [v1]) hd hl.1 hl.2.1 hl.2.2.1 hl.2.2.2 hs hcl hcn hcat hkk kk
theorem zz_cS1 {idx : Nat} {v1 : Value} (hd : decode y.2.1 pc = .ok (.invokestatic idx, 3)) (hl : zz_lS y.1.cls idx y' 1) (h0 : y'.2.2.2.2 = 0) (hcat : (st.map fun v => v.category).sum ≤ 8) (hkk : k ≤ y.2.2.2.2) (kk : zz_D y' d [v1] M I J (fun v M' I' J' => zz_G y (d + 1) k (pc + 3) ls (v.toList ++ st) M' I' J' Q)) : zz_G y (d + 1) k pc ls (v1 :: st) M I J Q := by
  obtain ⟨y1, y2, y3, y4, y5⟩ := y'
  have h0 : y5 = 0 := h0
  subst h0
  exact zz_callS (As := [v1]) hd hl.1 hl.2.1 hl.2.2 hcat hkk kk
theorem zz_cSN1 {idx : Nat} {v1 : Value} (hd : decode y.2.1 pc = .ok (.invokestatic idx, 3)) (hl : zz_lSN y.1.cls idx y' 1) (h0 : y'.2.2.2.2 = 0) (hcat : (st.map fun v => v.category).sum ≤ 8) (hkk : k ≤ y.2.2.2.2) (kk : zz_D y' d [v1] M I J (fun v M' I' J' => zz_G y (d + 1) k (pc + 3) ls (v.toList ++ st) M' I' J' Q)) : zz_G y (d + 1) k pc ls (v1 :: st) M I J Q := by
  obtain ⟨y1, y2, y3, y4, y5⟩ := y'
  have h0 : y5 = 0 := h0
  subst h0
  exact zz_callSN (As := [v1]) hd hl.1 hl.2.1 hl.2.2 hcat hkk kk
theorem zz_cV2 {a ci idx : Nat} {w : vw_C} {v1 v2 : Value} (hd : decode y.2.1 pc = .ok (.invokevirtual idx, 3)) (hl : zz_lV y.1.cls idx y' 2) (h0 : y'.2.2.2.2 = 0) (hs : zz_is M a 0 ci) (hcl : zz_cl[ci]? = some w) (hcn : w.1 = y'.1.cls) (hcat : (st.map fun v => v.category).sum ≤ 8) (hkk : k ≤ y.2.2.2.2) (kk : zz_D y' d [.ref a, v1, v2] M I J (fun v M' I' J' => zz_G y (d + 1) k (pc + 3) ls (v.toList ++ st) M' I' J' Q)) : zz_G y (d + 1) k pc ls (v2 :: v1 :: .ref a :: st) M I J Q := by
  obtain ⟨y1, y2, y3, y4, y5⟩ := y'
  have h0 : y5 = 0 := h0
  subst h0
  exact zz_callV (As := [v1, v2]) hd hl.1 hl.2.1 hl.2.2.1 hl.2.2.2 hs hcl hcn hcat hkk kk
theorem zz_cS2 {idx : Nat} {v1 v2 : Value} (hd : decode y.2.1 pc = .ok (.invokestatic idx, 3)) (hl : zz_lS y.1.cls idx y' 2) (h0 : y'.2.2.2.2 = 0) (hcat : (st.map fun v => v.category).sum ≤ 8) (hkk : k ≤ y.2.2.2.2) (kk : zz_D y' d [v1, v2] M I J (fun v M' I' J' => zz_G y (d + 1) k (pc + 3) ls (v.toList ++ st) M' I' J' Q)) : zz_G y (d + 1) k pc ls (v2 :: v1 :: st) M I J Q := by
  obtain ⟨y1, y2, y3, y4, y5⟩ := y'
  have h0 : y5 = 0 := h0
  subst h0
  exact zz_callS (As := [v1, v2]) hd hl.1 hl.2.1 hl.2.2 hcat hkk kk
theorem zz_cV3 {a ci idx : Nat} {w : vw_C} {v1 v2 v3 : Value} (hd : decode y.2.1 pc = .ok (.invokevirtual idx, 3)) (hl : zz_lV y.1.cls idx y' 3) (h0 : y'.2.2.2.2 = 0) (hs : zz_is M a 0 ci) (hcl : zz_cl[ci]? = some w) (hcn : w.1 = y'.1.cls) (hcat : (st.map fun v => v.category).sum ≤ 8) (hkk : k ≤ y.2.2.2.2) (kk : zz_D y' d [.ref a, v1, v2, v3] M I J (fun v M' I' J' => zz_G y (d + 1) k (pc + 3) ls (v.toList ++ st) M' I' J' Q)) : zz_G y (d + 1) k pc ls (v3 :: v2 :: v1 :: .ref a :: st) M I J Q := by
  obtain ⟨y1, y2, y3, y4, y5⟩ := y'
  have h0 : y5 = 0 := h0
  subst h0
  exact zz_callV (As := [v1, v2, v3]) hd hl.1 hl.2.1 hl.2.2.1 hl.2.2.2 hs hcl hcn hcat hkk kk
theorem zz_cS3 {idx : Nat} {v1 v2 v3 : Value} (hd : decode y.2.1 pc = .ok (.invokestatic idx, 3)) (hl : zz_lS y.1.cls idx y' 3) (h0 : y'.2.2.2.2 = 0) (hcat : (st.map fun v => v.category).sum ≤ 8) (hkk : k ≤ y.2.2.2.2) (kk : zz_D y' d [v1, v2, v3] M I J (fun v M' I' J' => zz_G y (d + 1) k (pc + 3) ls (v.toList ++ st) M' I' J' Q)) : zz_G y (d + 1) k pc ls (v3 :: v2 :: v1 :: st) M I J Q := by
  obtain ⟨y1, y2, y3, y4, y5⟩ := y'
  have h0 : y5 = 0 := h0
  subst h0
  exact zz_callS (As := [v1, v2, v3]) hd hl.1 hl.2.1 hl.2.2 hcat hkk kk
theorem zz_cV4 {a ci idx : Nat} {w : vw_C} {v1 v2 v3 v4 : Value} (hd : decode y.2.1 pc = .ok (.invokevirtual idx, 3)) (hl : zz_lV y.1.cls idx y' 4) (h0 : y'.2.2.2.2 = 0) (hs : zz_is M a 0 ci) (hcl : zz_cl[ci]? = some w) (hcn : w.1 = y'.1.cls) (hcat : (st.map fun v => v.category).sum ≤ 8) (hkk : k ≤ y.2.2.2.2) (kk : zz_D y' d [.ref a, v1, v2, v3, v4] M I J (fun v M' I' J' => zz_G y (d + 1) k (pc + 3) ls (v.toList ++ st) M' I' J' Q)) : zz_G y (d + 1) k pc ls (v4 :: v3 :: v2 :: v1 :: .ref a :: st) M I J Q := by
  obtain ⟨y1, y2, y3, y4, y5⟩ := y'
  have h0 : y5 = 0 := h0
  subst h0
  exact zz_callV (As := [v1, v2, v3, v4]) hd hl.1 hl.2.1 hl.2.2.1 hl.2.2.2 hs hcl hcn hcat hkk kk
theorem zz_cS4 {idx : Nat} {v1 v2 v3 v4 : Value} (hd : decode y.2.1 pc = .ok (.invokestatic idx, 3)) (hl : zz_lS y.1.cls idx y' 4) (h0 : y'.2.2.2.2 = 0) (hcat : (st.map fun v => v.category).sum ≤ 8) (hkk : k ≤ y.2.2.2.2) (kk : zz_D y' d [v1, v2, v3, v4] M I J (fun v M' I' J' => zz_G y (d + 1) k (pc + 3) ls (v.toList ++ st) M' I' J' Q)) : zz_G y (d + 1) k pc ls (v4 :: v3 :: v2 :: v1 :: st) M I J Q := by
  obtain ⟨y1, y2, y3, y4, y5⟩ := y'
  have h0 : y5 = 0 := h0
  subst h0
  exact zz_callS (As := [v1, v2, v3, v4]) hd hl.1 hl.2.1 hl.2.2 hcat hkk kk
theorem zz_cV5 {a ci idx : Nat} {w : vw_C} {v1 v2 v3 v4 v5 : Value} (hd : decode y.2.1 pc = .ok (.invokevirtual idx, 3)) (hl : zz_lV y.1.cls idx y' 5) (h0 : y'.2.2.2.2 = 0) (hs : zz_is M a 0 ci) (hcl : zz_cl[ci]? = some w) (hcn : w.1 = y'.1.cls) (hcat : (st.map fun v => v.category).sum ≤ 8) (hkk : k ≤ y.2.2.2.2) (kk : zz_D y' d [.ref a, v1, v2, v3, v4, v5] M I J (fun v M' I' J' => zz_G y (d + 1) k (pc + 3) ls (v.toList ++ st) M' I' J' Q)) : zz_G y (d + 1) k pc ls (v5 :: v4 :: v3 :: v2 :: v1 :: .ref a :: st) M I J Q := by
  obtain ⟨y1, y2, y3, y4, y5⟩ := y'
  have h0 : y5 = 0 := h0
  subst h0
  exact zz_callV (As := [v1, v2, v3, v4, v5]) hd hl.1 hl.2.1 hl.2.2.1 hl.2.2.2 hs hcl hcn hcat hkk kk
theorem zz_cS5 {idx : Nat} {v1 v2 v3 v4 v5 : Value} (hd : decode y.2.1 pc = .ok (.invokestatic idx, 3)) (hl : zz_lS y.1.cls idx y' 5) (h0 : y'.2.2.2.2 = 0) (hcat : (st.map fun v => v.category).sum ≤ 8) (hkk : k ≤ y.2.2.2.2) (kk : zz_D y' d [v1, v2, v3, v4, v5] M I J (fun v M' I' J' => zz_G y (d + 1) k (pc + 3) ls (v.toList ++ st) M' I' J' Q)) : zz_G y (d + 1) k pc ls (v5 :: v4 :: v3 :: v2 :: v1 :: st) M I J Q := by
  obtain ⟨y1, y2, y3, y4, y5⟩ := y'
  have h0 : y5 = 0 := h0
  subst h0
  exact zz_callS (As := [v1, v2, v3, v4, v5]) hd hl.1 hl.2.1 hl.2.2 hcat hkk kk
theorem zz_cI {a idx : Nat} (hd : decode y.2.1 pc = .ok (.invokespecial idx, 3)) (hl : zz_lI y.1.cls idx y') (hcat : (st.map fun v => v.category).sum ≤ 8) (hkk : k + y'.2.2.2.2 ≤ y.2.2.2.2) (kk : zz_D y' d [.ref a] M I J (fun v M' I' J' => zz_G y (d + 1) (k + y'.2.2.2.2) (pc + 3) ls (v.toList ++ st) M' I' J' Q)) : zz_G y (d + 1) k pc ls (.ref a :: st) M I J Q :=
  zz_callI (As := []) hd hl.1 hl.2.1 hl.2.2.1 hl.2.2.2.1 hl.2.2.2.2 hcat hkk kk
theorem zz_cIN {a idx : Nat} (hd : decode y.2.1 pc = .ok (.invokespecial idx, 3)) (hl : zz_lIN y.1.cls idx y') (hcat : (st.map fun v => v.category).sum ≤ 8) (hkk : k + y'.2.2.2.2 ≤ y.2.2.2.2) (kk : zz_D y' d [.ref a] M I J (fun v M' I' J' => zz_G y (d + 1) (k + y'.2.2.2.2) (pc + 3) ls (v.toList ++ st) M' I' J' Q)) : zz_G y (d + 1) k pc ls (.ref a :: st) M I J Q :=
  zz_callIN (As := []) hd hl.1 hl.2.1 hl.2.2.1 hl.2.2.2.1 hl.2.2.2.2 hcat hkk kk
end ZC
abbrev mX0_init : zz_Y := (yX0_init, cX0_init, 1, none, 1)
theorem kX0_init : zz_lk mX0_init 0 := ⟨zz_w 223 (by decide +kernel) rfl, zz_w 59 (by decide +kernel) rfl, by decide +kernel, by decide⟩
abbrev mX0_keep : zz_Y := (yX0_keep, cX0_keep, 7, none, 0)
theorem kX0_keep : zz_lk mX0_keep 4 := ⟨zz_w 543 (by decide +kernel) rfl, zz_w 59 (by decide +kernel) rfl, by decide +kernel, by decide⟩
abbrev mX1_init : zz_Y := (yX1_init, cX1_init, 1, none, 1)
theorem kX1_init : zz_lk mX1_init 0 := ⟨zz_w 119 (by decide +kernel) rfl, zz_w 54 (by decide +kernel) rfl, by decide +kernel, by decide⟩
abbrev mX1_lay : zz_Y := (yX1_lay, cX1_lay, 4, none, 0)
theorem kX1_lay : zz_lk mX1_lay 2 := ⟨zz_w 480 (by decide +kernel) rfl, zz_w 54 (by decide +kernel) rfl, by decide +kernel, by decide⟩
abbrev mX1_layFar : zz_Y := (yX1_layFar, cX1_layFar, 3, none, 0)
theorem kX1_layFar : zz_lk mX1_layFar 1 := ⟨zz_w 583 (by decide +kernel) rfl, zz_w 54 (by decide +kernel) rfl, by decide +kernel, by decide⟩
abbrev mX1_lengthen : zz_Y := (yX1_lengthen, cX1_lengthen, 8, none, 0)
theorem kX1_lengthen : zz_lk mX1_lengthen 1 := ⟨zz_w 484 (by decide +kernel) rfl, zz_w 54 (by decide +kernel) rfl, by decide +kernel, by decide⟩
abbrev mX1_allWords : zz_Y := (yX1_allWords, cX1_allWords, 1, (some FieldType.long), 0)
theorem kX1_allWords : zz_lk mX1_allWords 0 := ⟨zz_w 496 (by decide +kernel) rfl, zz_w 54 (by decide +kernel) rfl, by decide +kernel, by decide⟩
abbrev mX1_findLargest : zz_Y := (yX1_findLargest, cX1_findLargest, 1, (some FieldType.int), 0)
theorem kX1_findLargest : zz_lk mX1_findLargest 0 := ⟨zz_w 492 (by decide +kernel) rfl, zz_w 54 (by decide +kernel) rfl, by decide +kernel, by decide⟩
abbrev mX1_leastLargest : zz_Y := (yX1_leastLargest, cX1_leastLargest, 10, (some FieldType.long), 0)
theorem kX1_leastLargest : zz_lk mX1_leastLargest 0 := ⟨zz_w 535 (by decide +kernel) rfl, zz_w 54 (by decide +kernel) rfl, by decide +kernel, by decide⟩
abbrev mX1_reaches : zz_Y := (yX1_reaches, cX1_reaches, 6, (some FieldType.boolean), 0)
theorem kX1_reaches : zz_lk mX1_reaches 2 := ⟨zz_w 539 (by decide +kernel) rfl, zz_w 54 (by decide +kernel) rfl, by decide +kernel, by decide⟩
abbrev mX1_explore : zz_Y := (yX1_explore, cX1_explore, 16, none, 0)
theorem kX1_explore : zz_lk mX1_explore 3 := ⟨zz_w 501 (by decide +kernel) rfl, zz_w 54 (by decide +kernel) rfl, by decide +kernel, by decide⟩
abbrev mX1_needed : zz_Y := (yX1_needed, cX1_needed, 14, (some FieldType.long), 0)
theorem kX1_needed : zz_lk mX1_needed 1 := ⟨zz_w 505 (by decide +kernel) rfl, zz_w 54 (by decide +kernel) rfl, by decide +kernel, by decide⟩
abbrev mX1_canBeSpared : zz_Y := (yX1_canBeSpared, cX1_canBeSpared, 10, (some FieldType.boolean), 0)
theorem kX1_canBeSpared : zz_lk mX1_canBeSpared 2 := ⟨zz_w 519 (by decide +kernel) rfl, zz_w 54 (by decide +kernel) rfl, by decide +kernel, by decide⟩
abbrev mX1_loneWords : zz_Y := (yX1_loneWords, cX1_loneWords, 10, (some FieldType.long), 0)
theorem kX1_loneWords : zz_lk mX1_loneWords 1 := ⟨zz_w 523 (by decide +kernel) rfl, zz_w 54 (by decide +kernel) rfl, by decide +kernel, by decide⟩
abbrev mX1_groups : zz_Y := (yX1_groups, cX1_groups, 11, (some FieldType.int), 0)
theorem kX1_groups : zz_lk mX1_groups 1 := ⟨zz_w 527 (by decide +kernel) rfl, zz_w 54 (by decide +kernel) rfl, by decide +kernel, by decide⟩
abbrev mX1_busiest : zz_Y := (yX1_busiest, cX1_busiest, 11, (some FieldType.int), 0)
theorem kX1_busiest : zz_lk mX1_busiest 1 := ⟨zz_w 531 (by decide +kernel) rfl, zz_w 54 (by decide +kernel) rfl, by decide +kernel, by decide⟩
abbrev mX1_countLargest : zz_Y := (yX1_countLargest, cX1_countLargest, 1, (some FieldType.int), 0)
theorem kX1_countLargest : zz_lk mX1_countLargest 0 := ⟨zz_w 555 (by decide +kernel) rfl, zz_w 54 (by decide +kernel) rfl, by decide +kernel, by decide⟩
abbrev mX1_tally : zz_Y := (yX1_tally, cX1_tally, 18, (some FieldType.long), 0)
theorem kX1_tally : zz_lk mX1_tally 2 := ⟨zz_w 559 (by decide +kernel) rfl, zz_w 54 (by decide +kernel) rfl, by decide +kernel, by decide⟩
abbrev mX1_standsApart : zz_Y := (yX1_standsApart, cX1_standsApart, 9, (some FieldType.boolean), 0)
theorem kX1_standsApart : zz_lk mX1_standsApart 2 := ⟨zz_w 563 (by decide +kernel) rfl, zz_w 54 (by decide +kernel) rfl, by decide +kernel, by decide⟩
abbrev mX1_joinTallies : zz_Y := (yX1_joinTallies, cX1_joinTallies, 4, (some FieldType.long), 0)
theorem kX1_joinTallies : zz_lk mX1_joinTallies 2 := ⟨zz_w 567 (by decide +kernel) rfl, zz_w 54 (by decide +kernel) rfl, by decide +kernel, by decide⟩
abbrev mX2_init : zz_Y := (yX2_init, cX2_init, 1, none, 3)
theorem kX2_init : zz_lk mX2_init 0 := ⟨zz_w 142 (by decide +kernel) rfl, zz_w 55 (by decide +kernel) rfl, by decide +kernel, by decide⟩
abbrev mX2_fewest : zz_Y := (yX2_fewest, cX2_fewest, 5, (some FieldType.int), 0)
theorem kX2_fewest : zz_lk mX2_fewest 3 := ⟨zz_w 588 (by decide +kernel) rfl, zz_w 55 (by decide +kernel) rfl, by decide +kernel, by decide⟩
abbrev mX2_leastRow : zz_Y := (yX2_leastRow, cX2_leastRow, 7, none, 0)
theorem kX2_leastRow : zz_lk mX2_leastRow 1 := ⟨zz_w 613 (by decide +kernel) rfl, zz_w 55 (by decide +kernel) rfl, by decide +kernel, by decide⟩
abbrev mX2_layRow : zz_Y := (yX2_layRow, cX2_layRow, 4, none, 0)
theorem kX2_layRow : zz_lk mX2_layRow 2 := ⟨zz_w 617 (by decide +kernel) rfl, zz_w 55 (by decide +kernel) rfl, by decide +kernel, by decide⟩
abbrev mX2_add : zz_Y := (yX2_add, cX2_add, 3, none, 0)
theorem kX2_add : zz_lk mX2_add 2 := ⟨zz_w 609 (by decide +kernel) rfl, zz_w 55 (by decide +kernel) rfl, by decide +kernel, by decide⟩
abbrev mX2_fill : zz_Y := (yX2_fill, cX2_fill, 12, (some FieldType.boolean), 0)
theorem kX2_fill : zz_lk mX2_fill 3 := ⟨zz_w 595 (by decide +kernel) rfl, zz_w 55 (by decide +kernel) rfl, by decide +kernel, by decide⟩
abbrev mX2_hasRoom : zz_Y := (yX2_hasRoom, cX2_hasRoom, 5, (some FieldType.boolean), 0)
theorem kX2_hasRoom : zz_lk mX2_hasRoom 2 := ⟨zz_w 599 (by decide +kernel) rfl, zz_w 55 (by decide +kernel) rfl, by decide +kernel, by decide⟩
abbrev mX2_loneliest : zz_Y := (yX2_loneliest, cX2_loneliest, 7, (some FieldType.int), 0)
theorem kX2_loneliest : zz_lk mX2_loneliest 2 := ⟨zz_w 605 (by decide +kernel) rfl, zz_w 55 (by decide +kernel) rfl, by decide +kernel, by decide⟩
abbrev mX3_init : zz_Y := (yX3_init, cX3_init, 1, none, 28)
theorem kX3_init : zz_lk mX3_init 0 := ⟨zz_w 249 (by decide +kernel) rfl, zz_w 60 (by decide +kernel) rfl, by decide +kernel, by decide⟩
abbrev mX3_renew : zz_Y := (yX3_renew, cX3_renew, 4, none, 0)
theorem kX3_renew : zz_lk mX3_renew 2 := ⟨zz_w 355 (by decide +kernel) rfl, zz_w 60 (by decide +kernel) rfl, by decide +kernel, by decide⟩
abbrev mX3_clearRows : zz_Y := (yX3_clearRows, cX3_clearRows, 3, none, 0)
theorem kX3_clearRows : zz_lk mX3_clearRows 0 := ⟨zz_w 359 (by decide +kernel) rfl, zz_w 60 (by decide +kernel) rfl, by decide +kernel, by decide⟩
abbrev mX3_takeNear : zz_Y := (yX3_takeNear, cX3_takeNear, 3, none, 0)
theorem kX3_takeNear : zz_lk mX3_takeNear 1 := ⟨zz_w 431 (by decide +kernel) rfl, zz_w 60 (by decide +kernel) rfl, by decide +kernel, by decide⟩
abbrev mX3_takeSigns : zz_Y := (yX3_takeSigns, cX3_takeSigns, 4, none, 0)
theorem kX3_takeSigns : zz_lk mX3_takeSigns 1 := ⟨zz_w 410 (by decide +kernel) rfl, zz_w 60 (by decide +kernel) rfl, by decide +kernel, by decide⟩
abbrev mX3_has : zz_Y := (yX3_has, cX3_has, 2, (some FieldType.boolean), 0)
theorem kX3_has : zz_lk mX3_has 1 := ⟨zz_w 367 (by decide +kernel) rfl, zz_w 60 (by decide +kernel) rfl, by decide +kernel, by decide⟩
abbrev mX3_mistakes : zz_Y := (yX3_mistakes, cX3_mistakes, 3, (some FieldType.boolean), 0)
theorem kX3_mistakes : zz_lk mX3_mistakes 2 := ⟨zz_w 371 (by decide +kernel) rfl, zz_w 60 (by decide +kernel) rfl, by decide +kernel, by decide⟩
abbrev mX3_alike : zz_Y := (yX3_alike, cX3_alike, 3, (some FieldType.boolean), 0)
theorem kX3_alike : zz_lk mX3_alike 2 := ⟨zz_w 426 (by decide +kernel) rfl, zz_w 60 (by decide +kernel) rfl, by decide +kernel, by decide⟩
abbrev mX3_flip : zz_Y := (yX3_flip, cX3_flip, 3, none, 0)
theorem kX3_flip : zz_lk mX3_flip 2 := ⟨zz_w 375 (by decide +kernel) rfl, zz_w 60 (by decide +kernel) rfl, by decide +kernel, by decide⟩
abbrev mX3_pairs : zz_Y := (yX3_pairs, cX3_pairs, 3, (some FieldType.int), 0)
theorem kX3_pairs : zz_lk mX3_pairs 0 := ⟨zz_w 443 (by decide +kernel) rfl, zz_w 60 (by decide +kernel) rfl, by decide +kernel, by decide⟩
abbrev mX3_signsInAll : zz_Y := (yX3_signsInAll, cX3_signsInAll, 3, (some FieldType.int), 0)
theorem kX3_signsInAll : zz_lk mX3_signsInAll 0 := ⟨zz_w 453 (by decide +kernel) rfl, zz_w 60 (by decide +kernel) rfl, by decide +kernel, by decide⟩
abbrev mX4_init : zz_Y := (yX4_init, cX4_init, 1, none, 3)
theorem kX4_init : zz_lk mX4_init 0 := ⟨zz_w 207 (by decide +kernel) rfl, zz_w 58 (by decide +kernel) rfl, by decide +kernel, by decide⟩
abbrev mX4_leastGreatest : zz_Y := (yX4_leastGreatest, cX4_leastGreatest, 8, (some FieldType.int), 0)
theorem kX4_leastGreatest : zz_lk mX4_leastGreatest 2 := ⟨zz_w 711 (by decide +kernel) rfl, zz_w 58 (by decide +kernel) rfl, by decide +kernel, by decide⟩
abbrev mX4_spread : zz_Y := (yX4_spread, cX4_spread, 4, (some FieldType.long), 0)
theorem kX4_spread : zz_lk mX4_spread 1 := ⟨zz_w 716 (by decide +kernel) rfl, zz_w 58 (by decide +kernel) rfl, by decide +kernel, by decide⟩
abbrev mX4_search : zz_Y := (yX4_search, cX4_search, 14, (some FieldType.int), 0)
theorem kX4_search : zz_lk mX4_search 4 := ⟨zz_w 720 (by decide +kernel) rfl, zz_w 58 (by decide +kernel) rfl, by decide +kernel, by decide⟩
abbrev mX5_init : zz_Y := (yX5_init, cX5_init, 1, none, 2)
theorem kX5_init : zz_lk mX5_init 0 := ⟨zz_w 186 (by decide +kernel) rfl, zz_w 57 (by decide +kernel) rfl, by decide +kernel, by decide⟩
abbrev mX5_offer : zz_Y := (yX5_offer, cX5_offer, 3, none, 0)
theorem kX5_offer : zz_lk mX5_offer 2 := ⟨zz_w 678 (by decide +kernel) rfl, zz_w 57 (by decide +kernel) rfl, by decide +kernel, by decide⟩
abbrev mX5_hold : zz_Y := (yX5_hold, cX5_hold, 6, (some FieldType.int), 0)
theorem kX5_hold : zz_lk mX5_hold 4 := ⟨zz_w 662 (by decide +kernel) rfl, zz_w 57 (by decide +kernel) rfl, by decide +kernel, by decide⟩
abbrev mX5_raise : zz_Y := (yX5_raise, cX5_raise, 9, none, 0)
theorem kX5_raise : zz_lk mX5_raise 3 := ⟨zz_w 665 (by decide +kernel) rfl, zz_w 57 (by decide +kernel) rfl, by decide +kernel, by decide⟩
abbrev mX5_isPower : zz_Y := (yX5_isPower, cX5_isPower, 7, (some FieldType.boolean), 0)
theorem kX5_isPower : zz_lk mX5_isPower 3 := ⟨zz_w 687 (by decide +kernel) rfl, zz_w 57 (by decide +kernel) rfl, by decide +kernel, by decide⟩
abbrev mX6_init : zz_Y := (yX6_init, cX6_init, 1, none, 0)
theorem kX6_init : zz_lk mX6_init 0 := ⟨zz_w 167 (by decide +kernel) rfl, zz_w 56 (by decide +kernel) rfl, by decide +kernel, by decide⟩
abbrev mX6_firstFlaw : zz_Y := (yX6_firstFlaw, cX6_firstFlaw, 4, (some FieldType.int), 0)
theorem kX6_firstFlaw : zz_lk mX6_firstFlaw 1 := ⟨zz_w 633 (by decide +kernel) rfl, zz_w 56 (by decide +kernel) rfl, by decide +kernel, by decide⟩
abbrev mX6_measure : zz_Y := (yX6_measure, cX6_measure, 6, (some FieldType.boolean), 0)
theorem kX6_measure : zz_lk mX6_measure 1 := ⟨zz_w 645 (by decide +kernel) rfl, zz_w 56 (by decide +kernel) rfl, by decide +kernel, by decide⟩
abbrev mX6_offer : zz_Y := (yX6_offer, cX6_offer, 4, none, 0)
theorem kX6_offer : zz_lk mX6_offer 3 := ⟨zz_w 650 (by decide +kernel) rfl, zz_w 56 (by decide +kernel) rfl, by decide +kernel, by decide⟩
abbrev mX6_cut : zz_Y := (yX6_cut, cX6_cut, 5, none, 0)
theorem kX6_cut : zz_lk mX6_cut 0 := ⟨zz_w 654 (by decide +kernel) rfl, zz_w 56 (by decide +kernel) rfl, by decide +kernel, by decide⟩
abbrev mX6_product : zz_Y := (yX6_product, cX6_product, 4, (some FieldType.int), 0)
theorem kX6_product : zz_lk mX6_product 2 := ⟨zz_w 637 (by decide +kernel) rfl, zz_w 56 (by decide +kernel) rfl, by decide +kernel, by decide⟩
abbrev mX7_init : zz_Y := (yX7_init, cX7_init, 1, none, 1)
theorem kX7_init : zz_lk mX7_init 0 := ⟨zz_w 77 (by decide +kernel) rfl, zz_w 52 (by decide +kernel) rfl, by decide +kernel, by decide⟩
abbrev mX7_empty : zz_Y := (yX7_empty, cX7_empty, 1, none, 0)
theorem kX7_empty : zz_lk mX7_empty 0 := ⟨zz_w 388 (by decide +kernel) rfl, zz_w 52 (by decide +kernel) rfl, by decide +kernel, by decide⟩
abbrev mX7_hasRoomFor : zz_Y := (yX7_hasRoomFor, cX7_hasRoomFor, 2, (some FieldType.boolean), 0)
theorem kX7_hasRoomFor : zz_lk mX7_hasRoomFor 1 := ⟨zz_w 335 (by decide +kernel) rfl, zz_w 52 (by decide +kernel) rfl, by decide +kernel, by decide⟩
abbrev mX7_push : zz_Y := (yX7_push, cX7_push, 3, none, 0)
theorem kX7_push : zz_lk mX7_push 1 := ⟨zz_w 339 (by decide +kernel) rfl, zz_w 52 (by decide +kernel) rfl, by decide +kernel, by decide⟩
abbrev mX8_init : zz_Y := (yX8_init, cX8_init, 1, none, 1)
theorem kX8_init : zz_lk mX8_init 0 := ⟨zz_w 94 (by decide +kernel) rfl, zz_w 53 (by decide +kernel) rfl, by decide +kernel, by decide⟩
abbrev mX8_read : zz_Y := (yX8_read, cX8_read, 5, none, 0)
theorem kX8_read : zz_lk mX8_read 1 := ⟨zz_w 392 (by decide +kernel) rfl, zz_w 53 (by decide +kernel) rfl, by decide +kernel, by decide⟩
abbrev mX8_readSigns : zz_Y := (yX8_readSigns, cX8_readSigns, 5, (some FieldType.int), 0)
theorem kX8_readSigns : zz_lk mX8_readSigns 1 := ⟨zz_w 695 (by decide +kernel) rfl, zz_w 53 (by decide +kernel) rfl, by decide +kernel, by decide⟩
abbrev mX8_blameIf : zz_Y := (yX8_blameIf, cX8_blameIf, 4, none, 0)
theorem kX8_blameIf : zz_lk mX8_blameIf 3 := ⟨zz_w 399 (by decide +kernel) rfl, zz_w 53 (by decide +kernel) rfl, by decide +kernel, by decide⟩
abbrev mX8_close : zz_Y := (yX8_close, cX8_close, 2, none, 0)
theorem kX8_close : zz_lk mX8_close 1 := ⟨zz_w 403 (by decide +kernel) rfl, zz_w 53 (by decide +kernel) rfl, by decide +kernel, by decide⟩
abbrev mX8_signAt : zz_Y := (yX8_signAt, cX8_signAt, 3, (some FieldType.int), 0)
theorem kX8_signAt : zz_lk mX8_signAt 2 := ⟨zz_w 395 (by decide +kernel) rfl, zz_w 53 (by decide +kernel) rfl, by decide +kernel, by decide⟩
abbrev mX8_isBlank : zz_Y := (yX8_isBlank, cX8_isBlank, 1, (some FieldType.boolean), 0)
theorem kX8_isBlank : zz_lk mX8_isBlank 1 := ⟨zz_w 406 (by decide +kernel) rfl, zz_w 53 (by decide +kernel) rfl, by decide +kernel, by decide⟩
abbrev mX9_init : zz_Y := (yX9_init, cX9_init, 2, none, 255)
theorem kX9_init : zz_lk mX9_init 0 := ⟨zz_w 69 (by decide +kernel) rfl, zz_w 51 (by decide +kernel) rfl, by decide +kernel, by decide⟩
abbrev mX9_feed : zz_Y := (yX9_feed, cX9_feed, 6, (some FieldType.int), 0)
theorem kX9_feed : zz_lk mX9_feed 5 := ⟨zz_w 331 (by decide +kernel) rfl, zz_w 51 (by decide +kernel) rfl, by decide +kernel, by decide⟩
abbrev mX9_end : zz_Y := (yX9_end, cX9_end, 2, (some FieldType.int), 0)
theorem kX9_end : zz_lk mX9_end 1 := ⟨zz_w 343 (by decide +kernel) rfl, zz_w 51 (by decide +kernel) rfl, by decide +kernel, by decide⟩
abbrev mX9_net : zz_Y := (yX9_net, cX9_net, 4, (some FieldType.int), 0)
theorem kX9_net : zz_lk mX9_net 2 := ⟨zz_w 347 (by decide +kernel) rfl, zz_w 51 (by decide +kernel) rfl, by decide +kernel, by decide⟩
abbrev mX9_mistake : zz_Y := (yX9_mistake, cX9_mistake, 6, (some FieldType.int), 0)
theorem kX9_mistake : zz_lk mX9_mistake 4 := ⟨zz_w 363 (by decide +kernel) rfl, zz_w 51 (by decide +kernel) rfl, by decide +kernel, by decide⟩
abbrev mX9_ring : zz_Y := (yX9_ring, cX9_ring, 5, (some FieldType.int), 0)
theorem kX9_ring : zz_lk mX9_ring 2 := ⟨zz_w 380 (by decide +kernel) rfl, zz_w 51 (by decide +kernel) rfl, by decide +kernel, by decide⟩
abbrev mX9_told : zz_Y := (yX9_told, cX9_told, 3, (some FieldType.int), 0)
theorem kX9_told : zz_lk mX9_told 1 := ⟨zz_w 384 (by decide +kernel) rfl, zz_w 51 (by decide +kernel) rfl, by decide +kernel, by decide⟩
abbrev mX9_fault : zz_Y := (yX9_fault, cX9_fault, 2, (some FieldType.int), 0)
theorem kX9_fault : zz_lk mX9_fault 1 := ⟨zz_w 415 (by decide +kernel) rfl, zz_w 51 (by decide +kernel) rfl, by decide +kernel, by decide⟩
abbrev mX9_both : zz_Y := (yX9_both, cX9_both, 11, (some FieldType.int), 0)
theorem kX9_both : zz_lk mX9_both 3 := ⟨zz_w 419 (by decide +kernel) rfl, zz_w 51 (by decide +kernel) rfl, by decide +kernel, by decide⟩
abbrev mX9_either : zz_Y := (yX9_either, cX9_either, 10, (some FieldType.int), 0)
theorem kX9_either : zz_lk mX9_either 3 := ⟨zz_w 435 (by decide +kernel) rfl, zz_w 51 (by decide +kernel) rfl, by decide +kernel, by decide⟩
abbrev mX9_about : zz_Y := (yX9_about, cX9_about, 4, (some FieldType.int), 0)
theorem kX9_about : zz_lk mX9_about 2 := ⟨zz_w 439 (by decide +kernel) rfl, zz_w 51 (by decide +kernel) rfl, by decide +kernel, by decide⟩
abbrev mX9_taken : zz_Y := (yX9_taken, cX9_taken, 10, (some FieldType.int), 0)
theorem kX9_taken : zz_lk mX9_taken 4 := ⟨zz_w 460 (by decide +kernel) rfl, zz_w 51 (by decide +kernel) rfl, by decide +kernel, by decide⟩
abbrev mX9_most : zz_Y := (yX9_most, cX9_most, 4, (some FieldType.int), 0)
theorem kX9_most : zz_lk mX9_most 2 := ⟨zz_w 476 (by decide +kernel) rfl, zz_w 51 (by decide +kernel) rfl, by decide +kernel, by decide⟩
abbrev mX9_word : zz_Y := (yX9_word, cX9_word, 2, (some FieldType.int), 0)
theorem kX9_word : zz_lk mX9_word 1 := ⟨zz_w 547 (by decide +kernel) rfl, zz_w 51 (by decide +kernel) rfl, by decide +kernel, by decide⟩
abbrev mX9_ways : zz_Y := (yX9_ways, cX9_ways, 4, (some FieldType.int), 0)
theorem kX9_ways : zz_lk mX9_ways 2 := ⟨zz_w 551 (by decide +kernel) rfl, zz_w 51 (by decide +kernel) rfl, by decide +kernel, by decide⟩
abbrev mX9_heaps : zz_Y := (yX9_heaps, cX9_heaps, 4, (some FieldType.int), 0)
theorem kX9_heaps : zz_lk mX9_heaps 1 := ⟨zz_w 575 (by decide +kernel) rfl, zz_w 51 (by decide +kernel) rfl, by decide +kernel, by decide⟩
abbrev mX9_heap : zz_Y := (yX9_heap, cX9_heap, 2, (some FieldType.int), 0)
theorem kX9_heap : zz_lk mX9_heap 1 := ⟨zz_w 621 (by decide +kernel) rfl, zz_w 51 (by decide +kernel) rfl, by decide +kernel, by decide⟩
abbrev mX9_row : zz_Y := (yX9_row, cX9_row, 8, (some FieldType.int), 0)
theorem kX9_row : zz_lk mX9_row 4 := ⟨zz_w 625 (by decide +kernel) rfl, zz_w 51 (by decide +kernel) rfl, by decide +kernel, by decide⟩
abbrev mX9_stands : zz_Y := (yX9_stands, cX9_stands, 3, (some FieldType.int), 0)
theorem kX9_stands : zz_lk mX9_stands 1 := ⟨zz_w 629 (by decide +kernel) rfl, zz_w 51 (by decide +kernel) rfl, by decide +kernel, by decide⟩
abbrev mX9_bound : zz_Y := (yX9_bound, cX9_bound, 4, (some FieldType.int), 0)
theorem kX9_bound : zz_lk mX9_bound 2 := ⟨zz_w 641 (by decide +kernel) rfl, zz_w 51 (by decide +kernel) rfl, by decide +kernel, by decide⟩
abbrev mX9_compare : zz_Y := (yX9_compare, cX9_compare, 5, (some FieldType.int), 0)
theorem kX9_compare : zz_lk mX9_compare 4 := ⟨zz_w 658 (by decide +kernel) rfl, zz_w 51 (by decide +kernel) rfl, by decide +kernel, by decide⟩
abbrev mX9_best : zz_Y := (yX9_best, cX9_best, 3, (some FieldType.int), 0)
theorem kX9_best : zz_lk mX9_best 1 := ⟨zz_w 670 (by decide +kernel) rfl, zz_w 51 (by decide +kernel) rfl, by decide +kernel, by decide⟩
abbrev mX9_met : zz_Y := (yX9_met, cX9_met, 4, (some FieldType.int), 0)
theorem kX9_met : zz_lk mX9_met 1 := ⟨zz_w 683 (by decide +kernel) rfl, zz_w 51 (by decide +kernel) rfl, by decide +kernel, by decide⟩
abbrev mX9_came : zz_Y := (yX9_came, cX9_came, 6, (some FieldType.int), 0)
theorem kX9_came : zz_lk mX9_came 1 := ⟨zz_w 691 (by decide +kernel) rfl, zz_w 51 (by decide +kernel) rfl, by decide +kernel, by decide⟩
abbrev mX9_sent : zz_Y := (yX9_sent, cX9_sent, 1, (some FieldType.int), 0)
theorem kX9_sent : zz_lk mX9_sent 0 := ⟨zz_w 703 (by decide +kernel) rfl, zz_w 51 (by decide +kernel) rfl, by decide +kernel, by decide⟩
abbrev mX9_list : zz_Y := (yX9_list, cX9_list, 4, (some FieldType.int), 0)
theorem kX9_list : zz_lk mX9_list 2 := ⟨zz_w 707 (by decide +kernel) rfl, zz_w 51 (by decide +kernel) rfl, by decide +kernel, by decide⟩
abbrev mX9_listed : zz_Y := (yX9_listed, cX9_listed, 1, (some FieldType.int), 0)
theorem kX9_listed : zz_lk mX9_listed 0 := ⟨zz_w 726 (by decide +kernel) rfl, zz_w 51 (by decide +kernel) rfl, by decide +kernel, by decide⟩
abbrev mX9_count : zz_Y := (yX9_count, cX9_count, 2, (some FieldType.int), 0)
theorem kX9_count : zz_lk mX9_count 1 := ⟨zz_w 730 (by decide +kernel) rfl, zz_w 51 (by decide +kernel) rfl, by decide +kernel, by decide⟩
abbrev mX9_lineAt : zz_Y := (yX9_lineAt, cX9_lineAt, 2, (some (FieldType.object "NeverMistaken$Line")), 0)
theorem kX9_lineAt : zz_lk mX9_lineAt 1 := ⟨zz_w 351 (by decide +kernel) rfl, zz_w 51 (by decide +kernel) rfl, by decide +kernel, by decide⟩
abbrev mX9_isLength : zz_Y := (yX9_isLength, cX9_isLength, 1, (some FieldType.boolean), 0)
theorem kX9_isLength : zz_lk mX9_isLength 1 := ⟨zz_w 463 (by decide +kernel) rfl, zz_w 51 (by decide +kernel) rfl, by decide +kernel, by decide⟩
abbrev mX9_quotient : zz_Y := (yX9_quotient, cX9_quotient, 2, (some FieldType.int), 0)
theorem kX9_quotient : zz_lk mX9_quotient 2 := ⟨zz_w 472 (by decide +kernel) rfl, zz_w 51 (by decide +kernel) rfl, by decide +kernel, by decide⟩
abbrev mX9_remainder : zz_Y := (yX9_remainder, cX9_remainder, 2, (some FieldType.int), 0)
theorem kX9_remainder : zz_lk mX9_remainder 2 := ⟨zz_w 469 (by decide +kernel) rfl, zz_w 51 (by decide +kernel) rfl, by decide +kernel, by decide⟩
abbrev mX9_lowest : zz_Y := (yX9_lowest, cX9_lowest, 2, (some FieldType.int), 0)
theorem kX9_lowest : zz_lk mX9_lowest 1 := ⟨zz_w 514 (by decide +kernel) rfl, zz_w 51 (by decide +kernel) rfl, by decide +kernel, by decide⟩
abbrev mX9_wordsInAll : zz_Y := (yX9_wordsInAll, cX9_wordsInAll, 4, (some FieldType.int), 0)
theorem kX9_wordsInAll : zz_lk mX9_wordsInAll 2 := ⟨zz_w 466 (by decide +kernel) rfl, zz_w 51 (by decide +kernel) rfl, by decide +kernel, by decide⟩
abbrev mX9_pairsNear : zz_Y := (yX9_pairsNear, cX9_pairsNear, 6, (some FieldType.int), 0)
theorem kX9_pairsNear : zz_lk mX9_pairsNear 4 := ⟨zz_w 422 (by decide +kernel) rfl, zz_w 51 (by decide +kernel) rfl, by decide +kernel, by decide⟩
abbrev mX9_aboutLetter : zz_Y := (yX9_aboutLetter, cX9_aboutLetter, 2, (some FieldType.int), 0)
theorem kX9_aboutLetter : zz_lk mX9_aboutLetter 2 := ⟨zz_w 456 (by decide +kernel) rfl, zz_w 51 (by decide +kernel) rfl, by decide +kernel, by decide⟩
abbrev mX9_fewestHeaps : zz_Y := (yX9_fewestHeaps, cX9_fewestHeaps, 3, (some FieldType.int), 0)
theorem kX9_fewestHeaps : zz_lk mX9_fewestHeaps 1 := ⟨zz_w 579 (by decide +kernel) rfl, zz_w 51 (by decide +kernel) rfl, by decide +kernel, by decide⟩
abbrev mX9_findBest : zz_Y := (yX9_findBest, cX9_findBest, 4, none, 0)
theorem kX9_findBest : zz_lk mX9_findBest 1 := ⟨zz_w 674 (by decide +kernel) rfl, zz_w 51 (by decide +kernel) rfl, by decide +kernel, by decide⟩
abbrev mX9_couldMake : zz_Y := (yX9_couldMake, cX9_couldMake, 6, (some FieldType.boolean), 0)
theorem kX9_couldMake : zz_lk mX9_couldMake 2 := ⟨zz_w 699 (by decide +kernel) rfl, zz_w 51 (by decide +kernel) rfl, by decide +kernel, by decide⟩
abbrev mX10_in : zz_Y := (yX10_in, cX10_in, 6, (some FieldType.boolean), 0)
theorem kX10_in : zz_lk mX10_in 3 := ⟨zz_w 846 (by decide +kernel) rfl, zz_w 61 (by decide +kernel) rfl, by decide +kernel, by decide⟩
abbrev mX10_init : zz_Y := (yX10_init, cX10_init, 2, none, 16)
theorem kX10_init : zz_lk mX10_init 0 := ⟨zz_w 735 (by decide +kernel) rfl, zz_w 61 (by decide +kernel) rfl, by decide +kernel, by decide⟩
abbrev mX10_isLine : zz_Y := (yX10_isLine, cX10_isLine, 1, (some FieldType.boolean), 0)
theorem kX10_isLine : zz_lk mX10_isLine 1 := ⟨zz_w 853 (by decide +kernel) rfl, zz_w 61 (by decide +kernel) rfl, by decide +kernel, by decide⟩
abbrev mX10_isLetter : zz_Y := (yX10_isLetter, cX10_isLetter, 3, (some FieldType.boolean), 0)
theorem kX10_isLetter : zz_lk mX10_isLetter 2 := ⟨zz_w 871 (by decide +kernel) rfl, zz_w 61 (by decide +kernel) rfl, by decide +kernel, by decide⟩
abbrev mX10_areNear : zz_Y := (yX10_areNear, cX10_areNear, 4, (some FieldType.boolean), 0)
theorem kX10_areNear : zz_lk mX10_areNear 3 := ⟨zz_w 875 (by decide +kernel) rfl, zz_w 61 (by decide +kernel) rfl, by decide +kernel, by decide⟩
abbrev mX10_anew : zz_Y := (yX10_anew, cX10_anew, 5, none, 0)
theorem kX10_anew : zz_lk mX10_anew 3 := ⟨zz_w 859 (by decide +kernel) rfl, zz_w 61 (by decide +kernel) rfl, by decide +kernel, by decide⟩
abbrev mX10_noRows : zz_Y := (yX10_noRows, cX10_noRows, 3, none, 0)
theorem kX10_noRows : zz_lk mX10_noRows 1 := ⟨zz_w 863 (by decide +kernel) rfl, zz_w 61 (by decide +kernel) rfl, by decide +kernel, by decide⟩
abbrev mX10_join : zz_Y := (yX10_join, cX10_join, 4, none, 0)
theorem kX10_join : zz_lk mX10_join 3 := ⟨zz_w 884 (by decide +kernel) rfl, zz_w 61 (by decide +kernel) rfl, by decide +kernel, by decide⟩
abbrev mX10_feed : zz_Y := (yX10_feed, cX10_feed, 6, (some FieldType.int), 0)
theorem kX10_feed : zz_lk mX10_feed 5 := ⟨zz_w 835 (by decide +kernel) rfl, zz_w 61 (by decide +kernel) rfl, by decide +kernel, by decide⟩
abbrev mX10_lay : zz_Y := (yX10_lay, cX10_lay, 3, none, 0)
theorem kX10_lay : zz_lk mX10_lay 1 := ⟨zz_w 839 (by decide +kernel) rfl, zz_w 61 (by decide +kernel) rfl, by decide +kernel, by decide⟩
abbrev mX10_end : zz_Y := (yX10_end, cX10_end, 2, (some FieldType.int), 0)
theorem kX10_end : zz_lk mX10_end 1 := ⟨zz_w 843 (by decide +kernel) rfl, zz_w 61 (by decide +kernel) rfl, by decide +kernel, by decide⟩
abbrev mX10_net : zz_Y := (yX10_net, cX10_net, 3, (some FieldType.int), 0)
theorem kX10_net : zz_lk mX10_net 2 := ⟨zz_w 850 (by decide +kernel) rfl, zz_w 61 (by decide +kernel) rfl, by decide +kernel, by decide⟩
abbrev mX10_mistake : zz_Y := (yX10_mistake, cX10_mistake, 5, (some FieldType.int), 0)
theorem kX10_mistake : zz_lk mX10_mistake 4 := ⟨zz_w 867 (by decide +kernel) rfl, zz_w 61 (by decide +kernel) rfl, by decide +kernel, by decide⟩
abbrev mX10_ring : zz_Y := (yX10_ring, cX10_ring, 4, (some FieldType.int), 0)
theorem kX10_ring : zz_lk mX10_ring 2 := ⟨zz_w 879 (by decide +kernel) rfl, zz_w 61 (by decide +kernel) rfl, by decide +kernel, by decide⟩
abbrev mX10_wrong : zz_Y := (yX10_wrong, cX10_wrong, 3, (some FieldType.int), 0)
theorem kX10_wrong : zz_lk mX10_wrong 2 := ⟨zz_w 892 (by decide +kernel) rfl, zz_w 61 (by decide +kernel) rfl, by decide +kernel, by decide⟩
abbrev mX10_told : zz_Y := (yX10_told, cX10_told, 8, (some FieldType.int), 0)
theorem kX10_told : zz_lk mX10_told 1 := ⟨zz_w 888 (by decide +kernel) rfl, zz_w 61 (by decide +kernel) rfl, by decide +kernel, by decide⟩
abbrev mX10_fault : zz_Y := (yX10_fault, cX10_fault, 2, (some FieldType.int), 0)
theorem kX10_fault : zz_lk mX10_fault 1 := ⟨zz_w 896 (by decide +kernel) rfl, zz_w 61 (by decide +kernel) rfl, by decide +kernel, by decide⟩
abbrev mX10_isLike : zz_Y := (yX10_isLike, cX10_isLike, 4, (some FieldType.boolean), 0)
theorem kX10_isLike : zz_lk mX10_isLike 3 := ⟨zz_w 904 (by decide +kernel) rfl, zz_w 61 (by decide +kernel) rfl, by decide +kernel, by decide⟩
abbrev mX10_both : zz_Y := (yX10_both, cX10_both, 7, (some FieldType.int), 0)
theorem kX10_both : zz_lk mX10_both 3 := ⟨zz_w 900 (by decide +kernel) rfl, zz_w 61 (by decide +kernel) rfl, by decide +kernel, by decide⟩
abbrev mX10_either : zz_Y := (yX10_either, cX10_either, 6, (some FieldType.int), 0)
theorem kX10_either : zz_lk mX10_either 3 := ⟨zz_w 912 (by decide +kernel) rfl, zz_w 61 (by decide +kernel) rfl, by decide +kernel, by decide⟩
abbrev mX10_put : zz_Y := (yX10_put, cX10_put, 4, (some FieldType.int), 0)
theorem kX10_put : zz_lk mX10_put 2 := ⟨zz_w 908 (by decide +kernel) rfl, zz_w 61 (by decide +kernel) rfl, by decide +kernel, by decide⟩
abbrev mX10_bits : zz_Y := (yX10_bits, cX10_bits, 5, (some FieldType.int), 0)
theorem kX10_bits : zz_lk mX10_bits 1 := ⟨zz_w 923 (by decide +kernel) rfl, zz_w 61 (by decide +kernel) rfl, by decide +kernel, by decide⟩
abbrev mX10_about : zz_Y := (yX10_about, cX10_about, 6, (some FieldType.int), 0)
theorem kX10_about : zz_lk mX10_about 2 := ⟨zz_w 916 (by decide +kernel) rfl, zz_w 61 (by decide +kernel) rfl, by decide +kernel, by decide⟩
abbrev mX10_power : zz_Y := (yX10_power, cX10_power, 4, (some FieldType.int), 0)
theorem kX10_power : zz_lk mX10_power 2 := ⟨zz_w 931 (by decide +kernel) rfl, zz_w 61 (by decide +kernel) rfl, by decide +kernel, by decide⟩
abbrev mX10_areTaken : zz_Y := (yX10_areTaken, cX10_areTaken, 8, (some FieldType.boolean), 0)
theorem kX10_areTaken : zz_lk mX10_areTaken 4 := ⟨zz_w 935 (by decide +kernel) rfl, zz_w 61 (by decide +kernel) rfl, by decide +kernel, by decide⟩
abbrev mX10_taken : zz_Y := (yX10_taken, cX10_taken, 6, (some FieldType.int), 0)
theorem kX10_taken : zz_lk mX10_taken 4 := ⟨zz_w 927 (by decide +kernel) rfl, zz_w 61 (by decide +kernel) rfl, by decide +kernel, by decide⟩
abbrev mX10_spell : zz_Y := (yX10_spell, cX10_spell, 8, (some FieldType.boolean), 0)
theorem kX10_spell : zz_lk mX10_spell 3 := ⟨zz_w 943 (by decide +kernel) rfl, zz_w 61 (by decide +kernel) rfl, by decide +kernel, by decide⟩
abbrev mX10_all : zz_Y := (yX10_all, cX10_all, 1, (some FieldType.long), 0)
theorem kX10_all : zz_lk mX10_all 0 := ⟨zz_w 947 (by decide +kernel) rfl, zz_w 61 (by decide +kernel) rfl, by decide +kernel, by decide⟩
abbrev mX10_lowest : zz_Y := (yX10_lowest, cX10_lowest, 6, (some FieldType.int), 0)
theorem kX10_lowest : zz_lk mX10_lowest 1 := ⟨zz_w 959 (by decide +kernel) rfl, zz_w 61 (by decide +kernel) rfl, by decide +kernel, by decide⟩
abbrev mX10_cover : zz_Y := (yX10_cover, cX10_cover, 10, (some FieldType.int), 0)
theorem kX10_cover : zz_lk mX10_cover 2 := ⟨zz_w 956 (by decide +kernel) rfl, zz_w 61 (by decide +kernel) rfl, by decide +kernel, by decide⟩
abbrev mX10_reaches : zz_Y := (yX10_reaches, cX10_reaches, 14, (some FieldType.boolean), 0)
theorem kX10_reaches : zz_lk mX10_reaches 2 := ⟨zz_w 963 (by decide +kernel) rfl, zz_w 61 (by decide +kernel) rfl, by decide +kernel, by decide⟩
abbrev mX10_largest : zz_Y := (yX10_largest, cX10_largest, 4, (some FieldType.int), 0)
theorem kX10_largest : zz_lk mX10_largest 1 := ⟨zz_w 952 (by decide +kernel) rfl, zz_w 61 (by decide +kernel) rfl, by decide +kernel, by decide⟩
abbrev mX10_most : zz_Y := (yX10_most, cX10_most, 9, (some FieldType.int), 0)
theorem kX10_most : zz_lk mX10_most 2 := ⟨zz_w 939 (by decide +kernel) rfl, zz_w 61 (by decide +kernel) rfl, by decide +kernel, by decide⟩
abbrev mX10_word : zz_Y := (yX10_word, cX10_word, 2, (some FieldType.int), 0)
theorem kX10_word : zz_lk mX10_word 1 := ⟨zz_w 967 (by decide +kernel) rfl, zz_w 61 (by decide +kernel) rfl, by decide +kernel, by decide⟩
abbrev mX10_waysOf : zz_Y := (yX10_waysOf, cX10_waysOf, 5, (some FieldType.int), 0)
theorem kX10_waysOf : zz_lk mX10_waysOf 2 := ⟨zz_w 975 (by decide +kernel) rfl, zz_w 61 (by decide +kernel) rfl, by decide +kernel, by decide⟩
abbrev mX10_ways : zz_Y := (yX10_ways, cX10_ways, 3, (some FieldType.int), 0)
theorem kX10_ways : zz_lk mX10_ways 2 := ⟨zz_w 971 (by decide +kernel) rfl, zz_w 61 (by decide +kernel) rfl, by decide +kernel, by decide⟩
abbrev mX10_lonely : zz_Y := (yX10_lonely, cX10_lonely, 10, (some FieldType.int), 0)
theorem kX10_lonely : zz_lk mX10_lonely 4 := ⟨zz_w 991 (by decide +kernel) rfl, zz_w 61 (by decide +kernel) rfl, by decide +kernel, by decide⟩
abbrev mX10_heapFrom : zz_Y := (yX10_heapFrom, cX10_heapFrom, 6, (some FieldType.boolean), 0)
theorem kX10_heapFrom : zz_lk mX10_heapFrom 4 := ⟨zz_w 987 (by decide +kernel) rfl, zz_w 61 (by decide +kernel) rfl, by decide +kernel, by decide⟩
abbrev mX10_heapsOf : zz_Y := (yX10_heapsOf, cX10_heapsOf, 5, (some FieldType.int), 0)
theorem kX10_heapsOf : zz_lk mX10_heapsOf 1 := ⟨zz_w 983 (by decide +kernel) rfl, zz_w 61 (by decide +kernel) rfl, by decide +kernel, by decide⟩
abbrev mX10_heaps : zz_Y := (yX10_heaps, cX10_heaps, 4, (some FieldType.int), 0)
theorem kX10_heaps : zz_lk mX10_heaps 1 := ⟨zz_w 979 (by decide +kernel) rfl, zz_w 61 (by decide +kernel) rfl, by decide +kernel, by decide⟩
abbrev mX10_heap : zz_Y := (yX10_heap, cX10_heap, 2, (some FieldType.int), 0)
theorem kX10_heap : zz_lk mX10_heap 1 := ⟨zz_w 996 (by decide +kernel) rfl, zz_w 61 (by decide +kernel) rfl, by decide +kernel, by decide⟩
abbrev mX10_placeOf : zz_Y := (yX10_placeOf, cX10_placeOf, 2, (some FieldType.int), 0)
theorem kX10_placeOf : zz_lk mX10_placeOf 2 := ⟨zz_w 1006 (by decide +kernel) rfl, zz_w 61 (by decide +kernel) rfl, by decide +kernel, by decide⟩
abbrev mX10_row : zz_Y := (yX10_row, cX10_row, 7, (some FieldType.int), 0)
theorem kX10_row : zz_lk mX10_row 4 := ⟨zz_w 1000 (by decide +kernel) rfl, zz_w 61 (by decide +kernel) rfl, by decide +kernel, by decide⟩
abbrev mX10_product : zz_Y := (yX10_product, cX10_product, 6, (some FieldType.int), 0)
theorem kX10_product : zz_lk mX10_product 3 := ⟨zz_w 1014 (by decide +kernel) rfl, zz_w 61 (by decide +kernel) rfl, by decide +kernel, by decide⟩
abbrev mX10_stands : zz_Y := (yX10_stands, cX10_stands, 4, (some FieldType.int), 0)
theorem kX10_stands : zz_lk mX10_stands 1 := ⟨zz_w 1010 (by decide +kernel) rfl, zz_w 61 (by decide +kernel) rfl, by decide +kernel, by decide⟩
abbrev mX10_findBound : zz_Y := (yX10_findBound, cX10_findBound, 8, none, 0)
theorem kX10_findBound : zz_lk mX10_findBound 1 := ⟨zz_w 1024 (by decide +kernel) rfl, zz_w 61 (by decide +kernel) rfl, by decide +kernel, by decide⟩
abbrev mX10_bound : zz_Y := (yX10_bound, cX10_bound, 3, (some FieldType.int), 0)
theorem kX10_bound : zz_lk mX10_bound 2 := ⟨zz_w 1018 (by decide +kernel) rfl, zz_w 61 (by decide +kernel) rfl, by decide +kernel, by decide⟩
abbrev mX10_raise : zz_Y := (yX10_raise, cX10_raise, 11, none, 0)
theorem kX10_raise : zz_lk mX10_raise 4 := ⟨zz_w 1037 (by decide +kernel) rfl, zz_w 61 (by decide +kernel) rfl, by decide +kernel, by decide⟩
abbrev mX10_held : zz_Y := (yX10_held, cX10_held, 2, (some FieldType.int), 0)
theorem kX10_held : zz_lk mX10_held 0 := ⟨zz_w 1042 (by decide +kernel) rfl, zz_w 61 (by decide +kernel) rfl, by decide +kernel, by decide⟩
abbrev mX10_heldRates : zz_Y := (yX10_heldRates, cX10_heldRates, 5, (some FieldType.int), 0)
theorem kX10_heldRates : zz_lk mX10_heldRates 4 := ⟨zz_w 1034 (by decide +kernel) rfl, zz_w 61 (by decide +kernel) rfl, by decide +kernel, by decide⟩
abbrev mX10_compare : zz_Y := (yX10_compare, cX10_compare, 5, (some FieldType.int), 0)
theorem kX10_compare : zz_lk mX10_compare 4 := ⟨zz_w 1028 (by decide +kernel) rfl, zz_w 61 (by decide +kernel) rfl, by decide +kernel, by decide⟩
abbrev mX10_bestOf : zz_Y := (yX10_bestOf, cX10_bestOf, 5, (some FieldType.int), 0)
theorem kX10_bestOf : zz_lk mX10_bestOf 1 := ⟨zz_w 1050 (by decide +kernel) rfl, zz_w 61 (by decide +kernel) rfl, by decide +kernel, by decide⟩
abbrev mX10_best : zz_Y := (yX10_best, cX10_best, 2, (some FieldType.int), 0)
theorem kX10_best : zz_lk mX10_best 1 := ⟨zz_w 1046 (by decide +kernel) rfl, zz_w 61 (by decide +kernel) rfl, by decide +kernel, by decide⟩
abbrev mX10_met : zz_Y := (yX10_met, cX10_met, 5, (some FieldType.int), 0)
theorem kX10_met : zz_lk mX10_met 1 := ⟨zz_w 1054 (by decide +kernel) rfl, zz_w 61 (by decide +kernel) rfl, by decide +kernel, by decide⟩
abbrev mX10_came : zz_Y := (yX10_came, cX10_came, 9, (some FieldType.int), 0)
theorem kX10_came : zz_lk mX10_came 1 := ⟨zz_w 1058 (by decide +kernel) rfl, zz_w 61 (by decide +kernel) rfl, by decide +kernel, by decide⟩
abbrev mX10_sent : zz_Y := (yX10_sent, cX10_sent, 1, (some FieldType.int), 0)
theorem kX10_sent : zz_lk mX10_sent 0 := ⟨zz_w 1062 (by decide +kernel) rfl, zz_w 61 (by decide +kernel) rfl, by decide +kernel, by decide⟩
abbrev mX10_isList : zz_Y := (yX10_isList, cX10_isList, 7, (some FieldType.boolean), 0)
theorem kX10_isList : zz_lk mX10_isList 3 := ⟨zz_w 1070 (by decide +kernel) rfl, zz_w 61 (by decide +kernel) rfl, by decide +kernel, by decide⟩
abbrev mX10_list : zz_Y := (yX10_list, cX10_list, 6, (some FieldType.int), 0)
theorem kX10_list : zz_lk mX10_list 2 := ⟨zz_w 1066 (by decide +kernel) rfl, zz_w 61 (by decide +kernel) rfl, by decide +kernel, by decide⟩
abbrev mX10_listed : zz_Y := (yX10_listed, cX10_listed, 1, (some FieldType.int), 0)
theorem kX10_listed : zz_lk mX10_listed 0 := ⟨zz_w 1074 (by decide +kernel) rfl, zz_w 61 (by decide +kernel) rfl, by decide +kernel, by decide⟩
abbrev mX10_count : zz_Y := (yX10_count, cX10_count, 2, (some FieldType.int), 0)
theorem kX10_count : zz_lk mX10_count 1 := ⟨zz_w 1078 (by decide +kernel) rfl, zz_w 61 (by decide +kernel) rfl, by decide +kernel, by decide⟩
abbrev mJ6_bitCount_0f7a4 : zz_Y := (yJ6_bitCount_0f7a4, cJ6_bitCount_0f7a4, 1, (some FieldType.int), 0)
theorem kJ6_bitCount_0f7a4 : zz_lk mJ6_bitCount_0f7a4 1 := ⟨zz_w 446 (by decide +kernel) rfl, zz_w 62 (by decide +kernel) rfl, by decide +kernel, by decide⟩
abbrev mJ13_bitCount_95d88 : zz_Y := (yJ13_bitCount_95d88, cJ13_bitCount_95d88, 2, (some FieldType.int), 0)
theorem kJ13_bitCount_95d88 : zz_lk mJ13_bitCount_95d88 1 := ⟨zz_w 508 (by decide +kernel) rfl, zz_w 64 (by decide +kernel) rfl, by decide +kernel, by decide⟩
abbrev mJ9_max_7cf53 : zz_Y := (yJ9_max_7cf53, cJ9_max_7cf53, 2, (some FieldType.int), 0)
theorem kJ9_max_7cf53 : zz_lk mJ9_max_7cf53 2 := ⟨zz_w 591 (by decide +kernel) rfl, zz_w 63 (by decide +kernel) rfl, by decide +kernel, by decide⟩
abbrev mJ9_max_f86c9 : zz_Y := (yJ9_max_f86c9, cJ9_max_f86c9, 4, (some FieldType.long), 0)
theorem kJ9_max_f86c9 : zz_lk mJ9_max_f86c9 2 := ⟨zz_w 571 (by decide +kernel) rfl, zz_w 63 (by decide +kernel) rfl, by decide +kernel, by decide⟩
abbrev mJ9_min_7cf53 : zz_Y := (yJ9_min_7cf53, cJ9_min_7cf53, 2, (some FieldType.int), 0)
theorem kJ9_min_7cf53 : zz_lk mJ9_min_7cf53 2 := ⟨zz_w 488 (by decide +kernel) rfl, zz_w 63 (by decide +kernel) rfl, by decide +kernel, by decide⟩
theorem fX7_9 : zz_fd RX7 9 7 0 := ⟨(RX7, TX7, 2), rfl, by decide, zz_w 79 (by decide +kernel) rfl⟩
theorem fX8_38 : zz_fd RX8 38 7 0 := ⟨(RX7, TX7, 2), rfl, by decide, zz_w 80 (by decide +kernel) rfl⟩
theorem fX7_13 : zz_fd RX7 13 7 1 := ⟨(RX7, TX7, 2), rfl, by decide, zz_w 81 (by decide +kernel) rfl⟩
theorem fX8_25 : zz_fd RX8 25 7 1 := ⟨(RX7, TX7, 2), rfl, by decide, zz_w 82 (by decide +kernel) rfl⟩
theorem fX9_97 : zz_fd RX9 97 7 1 := ⟨(RX7, TX7, 2), rfl, by decide, zz_w 83 (by decide +kernel) rfl⟩
theorem fX8_9 : zz_fd RX8 9 8 0 := ⟨(RX8, TX8, 4), rfl, by decide, zz_w 96 (by decide +kernel) rfl⟩
theorem fX9_137 : zz_fd RX9 137 8 0 := ⟨(RX8, TX8, 4), rfl, by decide, zz_w 97 (by decide +kernel) rfl⟩
theorem fX8_15 : zz_fd RX8 15 8 1 := ⟨(RX8, TX8, 4), rfl, by decide, zz_w 98 (by decide +kernel) rfl⟩
theorem fX9_134 : zz_fd RX9 134 8 1 := ⟨(RX8, TX8, 4), rfl, by decide, zz_w 99 (by decide +kernel) rfl⟩
theorem fX8_19 : zz_fd RX8 19 8 2 := ⟨(RX8, TX8, 4), rfl, by decide, zz_w 100 (by decide +kernel) rfl⟩
theorem fX9_131 : zz_fd RX9 131 8 2 := ⟨(RX8, TX8, 4), rfl, by decide, zz_w 101 (by decide +kernel) rfl⟩
theorem fX8_22 : zz_fd RX8 22 8 3 := ⟨(RX8, TX8, 4), rfl, by decide, zz_w 102 (by decide +kernel) rfl⟩
theorem fX9_145 : zz_fd RX9 145 8 3 := ⟨(RX8, TX8, 4), rfl, by decide, zz_w 103 (by decide +kernel) rfl⟩
theorem fX1_9 : zz_fd RX1 9 1 0 := ⟨(RX1, TX1, 5), rfl, by decide, zz_w 121 (by decide +kernel) rfl⟩
theorem fX1_15 : zz_fd RX1 15 1 1 := ⟨(RX1, TX1, 5), rfl, by decide, zz_w 122 (by decide +kernel) rfl⟩
theorem fX1_19 : zz_fd RX1 19 1 2 := ⟨(RX1, TX1, 5), rfl, by decide, zz_w 123 (by decide +kernel) rfl⟩
theorem fX1_23 : zz_fd RX1 23 1 3 := ⟨(RX1, TX1, 5), rfl, by decide, zz_w 124 (by decide +kernel) rfl⟩
theorem fX1_26 : zz_fd RX1 26 1 4 := ⟨(RX1, TX1, 5), rfl, by decide, zz_w 125 (by decide +kernel) rfl⟩
theorem fX2_9 : zz_fd RX2 9 2 0 := ⟨(RX2, TX2, 6), rfl, by decide, zz_w 144 (by decide +kernel) rfl⟩
theorem fX2_15 : zz_fd RX2 15 2 1 := ⟨(RX2, TX2, 6), rfl, by decide, zz_w 145 (by decide +kernel) rfl⟩
theorem fX2_18 : zz_fd RX2 18 2 2 := ⟨(RX2, TX2, 6), rfl, by decide, zz_w 146 (by decide +kernel) rfl⟩
theorem fX2_21 : zz_fd RX2 21 2 3 := ⟨(RX2, TX2, 6), rfl, by decide, zz_w 147 (by decide +kernel) rfl⟩
theorem fX2_25 : zz_fd RX2 25 2 4 := ⟨(RX2, TX2, 6), rfl, by decide, zz_w 148 (by decide +kernel) rfl⟩
theorem fX2_28 : zz_fd RX2 28 2 5 := ⟨(RX2, TX2, 6), rfl, by decide, zz_w 149 (by decide +kernel) rfl⟩
theorem fX6_9 : zz_fd RX6 9 6 0 := ⟨(RX6, TX6, 3), rfl, by decide, zz_w 169 (by decide +kernel) rfl⟩
theorem fX9_230 : zz_fd RX9 230 6 0 := ⟨(RX6, TX6, 3), rfl, by decide, zz_w 170 (by decide +kernel) rfl⟩
theorem fX6_15 : zz_fd RX6 15 6 1 := ⟨(RX6, TX6, 3), rfl, by decide, zz_w 171 (by decide +kernel) rfl⟩
theorem fX9_233 : zz_fd RX9 233 6 1 := ⟨(RX6, TX6, 3), rfl, by decide, zz_w 172 (by decide +kernel) rfl⟩
theorem fX6_18 : zz_fd RX6 18 6 2 := ⟨(RX6, TX6, 3), rfl, by decide, zz_w 173 (by decide +kernel) rfl⟩
theorem fX9_236 : zz_fd RX9 236 6 2 := ⟨(RX6, TX6, 3), rfl, by decide, zz_w 174 (by decide +kernel) rfl⟩
theorem fX5_9 : zz_fd RX5 9 5 0 := ⟨(RX5, TX5, 4), rfl, by decide, zz_w 188 (by decide +kernel) rfl⟩
theorem fX5_13 : zz_fd RX5 13 5 1 := ⟨(RX5, TX5, 4), rfl, by decide, zz_w 189 (by decide +kernel) rfl⟩
theorem fX5_16 : zz_fd RX5 16 5 2 := ⟨(RX5, TX5, 4), rfl, by decide, zz_w 190 (by decide +kernel) rfl⟩
theorem fX9_247 : zz_fd RX9 247 5 2 := ⟨(RX5, TX5, 4), rfl, by decide, zz_w 191 (by decide +kernel) rfl⟩
theorem fX5_20 : zz_fd RX5 20 5 3 := ⟨(RX5, TX5, 4), rfl, by decide, zz_w 192 (by decide +kernel) rfl⟩
theorem fX9_250 : zz_fd RX9 250 5 3 := ⟨(RX5, TX5, 4), rfl, by decide, zz_w 193 (by decide +kernel) rfl⟩
theorem fX4_11 : zz_fd RX4 11 4 0 := ⟨(RX4, TX4, 3), rfl, by decide, zz_w 209 (by decide +kernel) rfl⟩
theorem fX4_15 : zz_fd RX4 15 4 1 := ⟨(RX4, TX4, 3), rfl, by decide, zz_w 210 (by decide +kernel) rfl⟩
theorem fX4_18 : zz_fd RX4 18 4 2 := ⟨(RX4, TX4, 3), rfl, by decide, zz_w 211 (by decide +kernel) rfl⟩
theorem fX0_9 : zz_fd RX0 9 0 0 := ⟨(RX0, TX0, 5), rfl, by decide, zz_w 225 (by decide +kernel) rfl⟩
theorem fX9_206 : zz_fd RX9 206 0 0 := ⟨(RX0, TX0, 5), rfl, by decide, zz_w 226 (by decide +kernel) rfl⟩
theorem fX0_15 : zz_fd RX0 15 0 1 := ⟨(RX0, TX0, 5), rfl, by decide, zz_w 227 (by decide +kernel) rfl⟩
theorem fX9_203 : zz_fd RX9 203 0 1 := ⟨(RX0, TX0, 5), rfl, by decide, zz_w 228 (by decide +kernel) rfl⟩
theorem fX0_19 : zz_fd RX0 19 0 2 := ⟨(RX0, TX0, 5), rfl, by decide, zz_w 229 (by decide +kernel) rfl⟩
theorem fX9_265 : zz_fd RX9 265 0 2 := ⟨(RX0, TX0, 5), rfl, by decide, zz_w 230 (by decide +kernel) rfl⟩
theorem fX0_22 : zz_fd RX0 22 0 3 := ⟨(RX0, TX0, 5), rfl, by decide, zz_w 231 (by decide +kernel) rfl⟩
theorem fX9_261 : zz_fd RX9 261 0 3 := ⟨(RX0, TX0, 5), rfl, by decide, zz_w 232 (by decide +kernel) rfl⟩
theorem fX0_25 : zz_fd RX0 25 0 4 := ⟨(RX0, TX0, 5), rfl, by decide, zz_w 233 (by decide +kernel) rfl⟩
theorem fX9_264 : zz_fd RX9 264 0 4 := ⟨(RX0, TX0, 5), rfl, by decide, zz_w 234 (by decide +kernel) rfl⟩
theorem fX3_9 : zz_fd RX3 9 3 0 := ⟨(RX3, TX3, 6), rfl, by decide, zz_w 253 (by decide +kernel) rfl⟩
theorem fX9_111 : zz_fd RX9 111 3 0 := ⟨(RX3, TX3, 6), rfl, by decide, zz_w 254 (by decide +kernel) rfl⟩
theorem fX3_15 : zz_fd RX3 15 3 1 := ⟨(RX3, TX3, 6), rfl, by decide, zz_w 255 (by decide +kernel) rfl⟩
theorem fX4_22 : zz_fd RX4 22 3 1 := ⟨(RX3, TX3, 6), rfl, by decide, zz_w 256 (by decide +kernel) rfl⟩
theorem fX2_31 : zz_fd RX2 31 3 1 := ⟨(RX3, TX3, 6), rfl, by decide, zz_w 257 (by decide +kernel) rfl⟩
theorem fX6_21 : zz_fd RX6 21 3 1 := ⟨(RX3, TX3, 6), rfl, by decide, zz_w 258 (by decide +kernel) rfl⟩
theorem fX1_43 : zz_fd RX1 43 3 1 := ⟨(RX3, TX3, 6), rfl, by decide, zz_w 259 (by decide +kernel) rfl⟩
theorem fX9_144 : zz_fd RX9 144 3 1 := ⟨(RX3, TX3, 6), rfl, by decide, zz_w 260 (by decide +kernel) rfl⟩
theorem fX3_18 : zz_fd RX3 18 3 2 := ⟨(RX3, TX3, 6), rfl, by decide, zz_w 261 (by decide +kernel) rfl⟩
theorem fX9_196 : zz_fd RX9 196 3 2 := ⟨(RX3, TX3, 6), rfl, by decide, zz_w 262 (by decide +kernel) rfl⟩
theorem fX3_21 : zz_fd RX3 21 3 3 := ⟨(RX3, TX3, 6), rfl, by decide, zz_w 263 (by decide +kernel) rfl⟩
theorem fX2_34 : zz_fd RX2 34 3 3 := ⟨(RX3, TX3, 6), rfl, by decide, zz_w 264 (by decide +kernel) rfl⟩
theorem fX9_155 : zz_fd RX9 155 3 3 := ⟨(RX3, TX3, 6), rfl, by decide, zz_w 265 (by decide +kernel) rfl⟩
theorem fX3_25 : zz_fd RX3 25 3 4 := ⟨(RX3, TX3, 6), rfl, by decide, zz_w 266 (by decide +kernel) rfl⟩
theorem fX4_36 : zz_fd RX4 36 3 4 := ⟨(RX3, TX3, 6), rfl, by decide, zz_w 267 (by decide +kernel) rfl⟩
theorem fX9_284 : zz_fd RX9 284 3 4 := ⟨(RX3, TX3, 6), rfl, by decide, zz_w 268 (by decide +kernel) rfl⟩
theorem fX3_30 : zz_fd RX3 30 3 5 := ⟨(RX3, TX3, 6), rfl, by decide, zz_w 269 (by decide +kernel) rfl⟩
theorem fX6_30 : zz_fd RX6 30 3 5 := ⟨(RX3, TX3, 6), rfl, by decide, zz_w 270 (by decide +kernel) rfl⟩
theorem fX9_219 : zz_fd RX9 219 3 5 := ⟨(RX3, TX3, 6), rfl, by decide, zz_w 271 (by decide +kernel) rfl⟩
theorem fX9_10 : zz_fd RX9 10 9 0 := ⟨(RX9, TX9, 14), rfl, by decide, zz_w 285 (by decide +kernel) rfl⟩
theorem fX9_19 : zz_fd RX9 19 9 1 := ⟨(RX9, TX9, 14), rfl, by decide, zz_w 286 (by decide +kernel) rfl⟩
theorem fX9_25 : zz_fd RX9 25 9 2 := ⟨(RX9, TX9, 14), rfl, by decide, zz_w 287 (by decide +kernel) rfl⟩
theorem fX9_29 : zz_fd RX9 29 9 3 := ⟨(RX9, TX9, 14), rfl, by decide, zz_w 288 (by decide +kernel) rfl⟩
theorem fX9_36 : zz_fd RX9 36 9 4 := ⟨(RX9, TX9, 14), rfl, by decide, zz_w 289 (by decide +kernel) rfl⟩
theorem fX9_43 : zz_fd RX9 43 9 5 := ⟨(RX9, TX9, 14), rfl, by decide, zz_w 290 (by decide +kernel) rfl⟩
theorem fX9_50 : zz_fd RX9 50 9 6 := ⟨(RX9, TX9, 14), rfl, by decide, zz_w 291 (by decide +kernel) rfl⟩
theorem fX9_57 : zz_fd RX9 57 9 7 := ⟨(RX9, TX9, 14), rfl, by decide, zz_w 292 (by decide +kernel) rfl⟩
theorem fX9_64 : zz_fd RX9 64 9 8 := ⟨(RX9, TX9, 14), rfl, by decide, zz_w 293 (by decide +kernel) rfl⟩
theorem fX9_71 : zz_fd RX9 71 9 9 := ⟨(RX9, TX9, 14), rfl, by decide, zz_w 294 (by decide +kernel) rfl⟩
theorem fX9_75 : zz_fd RX9 75 9 10 := ⟨(RX9, TX9, 14), rfl, by decide, zz_w 295 (by decide +kernel) rfl⟩
theorem fX9_78 : zz_fd RX9 78 9 11 := ⟨(RX9, TX9, 14), rfl, by decide, zz_w 296 (by decide +kernel) rfl⟩
theorem fX9_82 : zz_fd RX9 82 9 12 := ⟨(RX9, TX9, 14), rfl, by decide, zz_w 297 (by decide +kernel) rfl⟩
theorem fX9_85 : zz_fd RX9 85 9 13 := ⟨(RX9, TX9, 14), rfl, by decide, zz_w 298 (by decide +kernel) rfl⟩
theorem fX10_9 : zz_fd RX10 9 10 0 := ⟨(RX10, TX10, 31), rfl, by decide, zz_w 737 (by decide +kernel) rfl⟩
theorem fX10_13 : zz_fd RX10 13 10 1 := ⟨(RX10, TX10, 31), rfl, by decide, zz_w 738 (by decide +kernel) rfl⟩
theorem fX10_16 : zz_fd RX10 16 10 2 := ⟨(RX10, TX10, 31), rfl, by decide, zz_w 739 (by decide +kernel) rfl⟩
theorem fX10_19 : zz_fd RX10 19 10 3 := ⟨(RX10, TX10, 31), rfl, by decide, zz_w 740 (by decide +kernel) rfl⟩
theorem fX10_22 : zz_fd RX10 22 10 4 := ⟨(RX10, TX10, 31), rfl, by decide, zz_w 741 (by decide +kernel) rfl⟩
theorem fX10_25 : zz_fd RX10 25 10 5 := ⟨(RX10, TX10, 31), rfl, by decide, zz_w 742 (by decide +kernel) rfl⟩
theorem fX10_28 : zz_fd RX10 28 10 6 := ⟨(RX10, TX10, 31), rfl, by decide, zz_w 743 (by decide +kernel) rfl⟩
theorem fX10_93 : zz_fd RX10 93 10 7 := ⟨(RX10, TX10, 31), rfl, by decide, zz_w 744 (by decide +kernel) rfl⟩
theorem fX10_118 : zz_fd RX10 118 10 8 := ⟨(RX10, TX10, 31), rfl, by decide, zz_w 745 (by decide +kernel) rfl⟩
theorem fX10_32 : zz_fd RX10 32 10 9 := ⟨(RX10, TX10, 31), rfl, by decide, zz_w 746 (by decide +kernel) rfl⟩
theorem fX10_36 : zz_fd RX10 36 10 10 := ⟨(RX10, TX10, 31), rfl, by decide, zz_w 747 (by decide +kernel) rfl⟩
theorem fX10_39 : zz_fd RX10 39 10 11 := ⟨(RX10, TX10, 31), rfl, by decide, zz_w 748 (by decide +kernel) rfl⟩
theorem fX10_42 : zz_fd RX10 42 10 12 := ⟨(RX10, TX10, 31), rfl, by decide, zz_w 749 (by decide +kernel) rfl⟩
theorem fX10_152 : zz_fd RX10 152 10 13 := ⟨(RX10, TX10, 31), rfl, by decide, zz_w 750 (by decide +kernel) rfl⟩
theorem fX10_46 : zz_fd RX10 46 10 14 := ⟨(RX10, TX10, 31), rfl, by decide, zz_w 751 (by decide +kernel) rfl⟩
theorem fX10_49 : zz_fd RX10 49 10 15 := ⟨(RX10, TX10, 31), rfl, by decide, zz_w 752 (by decide +kernel) rfl⟩
theorem fX10_52 : zz_fd RX10 52 10 16 := ⟨(RX10, TX10, 31), rfl, by decide, zz_w 753 (by decide +kernel) rfl⟩
theorem fX10_55 : zz_fd RX10 55 10 17 := ⟨(RX10, TX10, 31), rfl, by decide, zz_w 754 (by decide +kernel) rfl⟩
theorem fX10_178 : zz_fd RX10 178 10 18 := ⟨(RX10, TX10, 31), rfl, by decide, zz_w 755 (by decide +kernel) rfl⟩
theorem fX10_58 : zz_fd RX10 58 10 19 := ⟨(RX10, TX10, 31), rfl, by decide, zz_w 756 (by decide +kernel) rfl⟩
theorem fX10_61 : zz_fd RX10 61 10 20 := ⟨(RX10, TX10, 31), rfl, by decide, zz_w 757 (by decide +kernel) rfl⟩
theorem fX10_200 : zz_fd RX10 200 10 21 := ⟨(RX10, TX10, 31), rfl, by decide, zz_w 758 (by decide +kernel) rfl⟩
theorem fX10_64 : zz_fd RX10 64 10 22 := ⟨(RX10, TX10, 31), rfl, by decide, zz_w 759 (by decide +kernel) rfl⟩
theorem fX10_223 : zz_fd RX10 223 10 23 := ⟨(RX10, TX10, 31), rfl, by decide, zz_w 760 (by decide +kernel) rfl⟩
theorem fX10_219 : zz_fd RX10 219 10 24 := ⟨(RX10, TX10, 31), rfl, by decide, zz_w 761 (by decide +kernel) rfl⟩
theorem fX10_216 : zz_fd RX10 216 10 25 := ⟨(RX10, TX10, 31), rfl, by decide, zz_w 762 (by decide +kernel) rfl⟩
theorem fX10_67 : zz_fd RX10 67 10 26 := ⟨(RX10, TX10, 31), rfl, by decide, zz_w 763 (by decide +kernel) rfl⟩
theorem fX10_70 : zz_fd RX10 70 10 27 := ⟨(RX10, TX10, 31), rfl, by decide, zz_w 764 (by decide +kernel) rfl⟩
theorem fX10_251 : zz_fd RX10 251 10 28 := ⟨(RX10, TX10, 31), rfl, by decide, zz_w 765 (by decide +kernel) rfl⟩
theorem fX10_73 : zz_fd RX10 73 10 29 := ⟨(RX10, TX10, 31), rfl, by decide, zz_w 766 (by decide +kernel) rfl⟩
theorem fX10_76 : zz_fd RX10 76 10 30 := ⟨(RX10, TX10, 31), rfl, by decide, zz_w 767 (by decide +kernel) rfl⟩
theorem lL_9 : zz_lI RL 9 mX9_init := ⟨kX9_init, zz_w 67 (by decide +kernel) rfl, zz_w 68 (by decide +kernel) rfl, rfl, rfl⟩
theorem oX9_1 : Cond.methodLink RX9 1 Lib.objectInit ∈ zz_tbl := zz_w 70 (by decide +kernel) rfl
theorem lX9_9 : zz_lIN RX9 9 mX7_init := ⟨kX7_init, zz_wn 75 (by decide +kernel) (fun h => List.mem_filter.mpr ⟨h, rfl⟩), zz_w 76 (by decide +kernel) rfl, rfl, rfl⟩
theorem oX7_1 : Cond.methodLink RX7 1 Lib.objectInit ∈ zz_tbl := zz_w 78 (by decide +kernel) rfl
theorem lX9_18 : zz_lIN RX9 18 mX8_init := ⟨kX8_init, zz_wn 92 (by decide +kernel) (fun h => List.mem_filter.mpr ⟨h, rfl⟩), zz_w 93 (by decide +kernel) rfl, rfl, rfl⟩
theorem oX8_3 : Cond.methodLink RX8 3 Lib.objectInit ∈ zz_tbl := zz_w 95 (by decide +kernel) rfl
theorem lX9_35 : zz_lIN RX9 35 mX1_init := ⟨kX1_init, zz_wn 117 (by decide +kernel) (fun h => List.mem_filter.mpr ⟨h, rfl⟩), zz_w 118 (by decide +kernel) rfl, rfl, rfl⟩
theorem oX1_3 : Cond.methodLink RX1 3 Lib.objectInit ∈ zz_tbl := zz_w 120 (by decide +kernel) rfl
theorem lX9_42 : zz_lIN RX9 42 mX2_init := ⟨kX2_init, zz_wn 140 (by decide +kernel) (fun h => List.mem_filter.mpr ⟨h, rfl⟩), zz_w 141 (by decide +kernel) rfl, rfl, rfl⟩
theorem oX2_3 : Cond.methodLink RX2 3 Lib.objectInit ∈ zz_tbl := zz_w 143 (by decide +kernel) rfl
theorem lX9_49 : zz_lIN RX9 49 mX6_init := ⟨kX6_init, zz_wn 165 (by decide +kernel) (fun h => List.mem_filter.mpr ⟨h, rfl⟩), zz_w 166 (by decide +kernel) rfl, rfl, rfl⟩
theorem oX6_3 : Cond.methodLink RX6 3 Lib.objectInit ∈ zz_tbl := zz_w 168 (by decide +kernel) rfl
theorem lX9_56 : zz_lIN RX9 56 mX5_init := ⟨kX5_init, zz_wn 184 (by decide +kernel) (fun h => List.mem_filter.mpr ⟨h, rfl⟩), zz_w 185 (by decide +kernel) rfl, rfl, rfl⟩
theorem oX5_1 : Cond.methodLink RX5 1 Lib.objectInit ∈ zz_tbl := zz_w 187 (by decide +kernel) rfl
theorem lX9_63 : zz_lIN RX9 63 mX4_init := ⟨kX4_init, zz_wn 205 (by decide +kernel) (fun h => List.mem_filter.mpr ⟨h, rfl⟩), zz_w 206 (by decide +kernel) rfl, rfl, rfl⟩
theorem oX4_5 : Cond.methodLink RX4 5 Lib.objectInit ∈ zz_tbl := zz_w 208 (by decide +kernel) rfl
theorem lX9_70 : zz_lIN RX9 70 mX0_init := ⟨kX0_init, zz_wn 221 (by decide +kernel) (fun h => List.mem_filter.mpr ⟨h, rfl⟩), zz_w 222 (by decide +kernel) rfl, rfl, rfl⟩
theorem oX0_3 : Cond.methodLink RX0 3 Lib.objectInit ∈ zz_tbl := zz_w 224 (by decide +kernel) rfl
theorem lX9_88 : zz_lIN RX9 88 mX3_init := ⟨kX3_init, zz_wn 247 (by decide +kernel) (fun h => List.mem_filter.mpr ⟨h, rfl⟩), zz_w 248 (by decide +kernel) rfl, rfl, rfl⟩
theorem oX3_3 : Cond.methodLink RX3 3 Lib.objectInit ∈ zz_tbl := zz_w 250 (by decide +kernel) rfl
theorem lL_13 : zz_lV RL 13 mX9_feed 5 := ⟨kX9_feed, zz_w 328 (by decide +kernel) rfl, zz_w 329 (by decide +kernel) rfl, zz_w 330 (by decide +kernel) rfl⟩
theorem lX9_89 : zz_lV RX9 89 mX7_hasRoomFor 1 := ⟨kX7_hasRoomFor, zz_w 332 (by decide +kernel) rfl, zz_w 333 (by decide +kernel) rfl, zz_w 334 (by decide +kernel) rfl⟩
theorem lX9_93 : zz_lV RX9 93 mX7_push 1 := ⟨kX7_push, zz_w 336 (by decide +kernel) rfl, zz_w 337 (by decide +kernel) rfl, zz_w 338 (by decide +kernel) rfl⟩
theorem lL_18 : zz_lV RL 18 mX9_end 1 := ⟨kX9_end, zz_w 340 (by decide +kernel) rfl, zz_w 341 (by decide +kernel) rfl, zz_w 342 (by decide +kernel) rfl⟩
theorem lL_23 : zz_lV RL 23 mX9_net 2 := ⟨kX9_net, zz_w 344 (by decide +kernel) rfl, zz_w 345 (by decide +kernel) rfl, zz_w 346 (by decide +kernel) rfl⟩
theorem lX9_100 : zz_lV RX9 100 mX9_lineAt 1 := ⟨kX9_lineAt, zz_w 348 (by decide +kernel) rfl, zz_w 350 (by decide +kernel) rfl, zz_w 0 (by decide +kernel) rfl⟩
theorem lX9_104 : zz_lV RX9 104 mX3_renew 2 := ⟨kX3_renew, zz_w 352 (by decide +kernel) rfl, zz_w 353 (by decide +kernel) rfl, zz_w 354 (by decide +kernel) rfl⟩
theorem lX3_33 : zz_lV RX3 33 mX3_clearRows 0 := ⟨kX3_clearRows, zz_w 356 (by decide +kernel) rfl, zz_w 357 (by decide +kernel) rfl, zz_w 358 (by decide +kernel) rfl⟩
theorem lL_28 : zz_lV RL 28 mX9_mistake 4 := ⟨kX9_mistake, zz_w 360 (by decide +kernel) rfl, zz_w 361 (by decide +kernel) rfl, zz_w 362 (by decide +kernel) rfl⟩
theorem lX9_108 : zz_lV RX9 108 mX3_has 1 := ⟨kX3_has, zz_w 364 (by decide +kernel) rfl, zz_w 365 (by decide +kernel) rfl, zz_w 366 (by decide +kernel) rfl⟩
theorem lX9_114 : zz_lV RX9 114 mX3_mistakes 2 := ⟨kX3_mistakes, zz_w 368 (by decide +kernel) rfl, zz_w 369 (by decide +kernel) rfl, zz_w 370 (by decide +kernel) rfl⟩
theorem lX9_118 : zz_lV RX9 118 mX3_flip 2 := ⟨kX3_flip, zz_w 372 (by decide +kernel) rfl, zz_w 373 (by decide +kernel) rfl, zz_w 374 (by decide +kernel) rfl⟩
theorem lX9_121 : zz_lV RX9 121 mX3_clearRows 0 := ⟨kX3_clearRows, zz_w 376 (by decide +kernel) rfl, zz_w 357 (by decide +kernel) rfl, zz_w 358 (by decide +kernel) rfl⟩
theorem lL_33 : zz_lV RL 33 mX9_ring 2 := ⟨kX9_ring, zz_w 377 (by decide +kernel) rfl, zz_w 378 (by decide +kernel) rfl, zz_w 379 (by decide +kernel) rfl⟩
theorem lL_37 : zz_lV RL 37 mX9_told 1 := ⟨kX9_told, zz_w 381 (by decide +kernel) rfl, zz_w 382 (by decide +kernel) rfl, zz_w 383 (by decide +kernel) rfl⟩
theorem lX9_124 : zz_lV RX9 124 mX7_empty 0 := ⟨kX7_empty, zz_w 385 (by decide +kernel) rfl, zz_w 386 (by decide +kernel) rfl, zz_w 387 (by decide +kernel) rfl⟩
theorem lX9_127 : zz_lV RX9 127 mX8_read 1 := ⟨kX8_read, zz_w 389 (by decide +kernel) rfl, zz_w 390 (by decide +kernel) rfl, zz_w 391 (by decide +kernel) rfl⟩
theorem lX8_30 : zz_lS RX8 30 mX8_signAt 2 := ⟨kX8_signAt, zz_w 393 (by decide +kernel) rfl, zz_w 394 (by decide +kernel) rfl⟩
theorem lX8_34 : zz_lV RX8 34 mX8_blameIf 3 := ⟨kX8_blameIf, zz_w 396 (by decide +kernel) rfl, zz_w 398 (by decide +kernel) rfl, zz_w 1 (by decide +kernel) rfl⟩
theorem lX8_41 : zz_lV RX8 41 mX8_close 1 := ⟨kX8_close, zz_w 400 (by decide +kernel) rfl, zz_w 402 (by decide +kernel) rfl, zz_w 2 (by decide +kernel) rfl⟩
theorem lX8_45 : zz_lS RX8 45 mX8_isBlank 1 := ⟨kX8_isBlank, zz_w 404 (by decide +kernel) rfl, zz_w 405 (by decide +kernel) rfl⟩
theorem lX9_140 : zz_lV RX9 140 mX3_takeSigns 1 := ⟨kX3_takeSigns, zz_w 407 (by decide +kernel) rfl, zz_w 408 (by decide +kernel) rfl, zz_w 409 (by decide +kernel) rfl⟩
theorem lX3_36 : zz_lV RX3 36 mX3_flip 2 := ⟨kX3_flip, zz_w 411 (by decide +kernel) rfl, zz_w 373 (by decide +kernel) rfl, zz_w 374 (by decide +kernel) rfl⟩
theorem lL_41 : zz_lV RL 41 mX9_fault 1 := ⟨kX9_fault, zz_w 412 (by decide +kernel) rfl, zz_w 413 (by decide +kernel) rfl, zz_w 414 (by decide +kernel) rfl⟩
theorem lL_45 : zz_lV RL 45 mX9_both 3 := ⟨kX9_both, zz_w 416 (by decide +kernel) rfl, zz_w 417 (by decide +kernel) rfl, zz_w 418 (by decide +kernel) rfl⟩
theorem lX9_148 : zz_lS RX9 148 mX9_pairsNear 4 := ⟨kX9_pairsNear, zz_w 420 (by decide +kernel) rfl, zz_w 421 (by decide +kernel) rfl⟩
theorem lX9_179 : zz_lV RX9 179 mX3_alike 2 := ⟨kX3_alike, zz_w 423 (by decide +kernel) rfl, zz_w 424 (by decide +kernel) rfl, zz_w 425 (by decide +kernel) rfl⟩
theorem lX3_40 : zz_lV RX3 40 mX3_mistakes 2 := ⟨kX3_mistakes, zz_w 427 (by decide +kernel) rfl, zz_w 369 (by decide +kernel) rfl, zz_w 370 (by decide +kernel) rfl⟩
theorem lX9_152 : zz_lV RX9 152 mX3_takeNear 1 := ⟨kX3_takeNear, zz_w 428 (by decide +kernel) rfl, zz_w 429 (by decide +kernel) rfl, zz_w 430 (by decide +kernel) rfl⟩
theorem lL_50 : zz_lV RL 50 mX9_either 3 := ⟨kX9_either, zz_w 432 (by decide +kernel) rfl, zz_w 433 (by decide +kernel) rfl, zz_w 434 (by decide +kernel) rfl⟩
theorem lL_54 : zz_lV RL 54 mX9_about 2 := ⟨kX9_about, zz_w 436 (by decide +kernel) rfl, zz_w 437 (by decide +kernel) rfl, zz_w 438 (by decide +kernel) rfl⟩
theorem lX9_158 : zz_lV RX9 158 mX3_pairs 0 := ⟨kX3_pairs, zz_w 440 (by decide +kernel) rfl, zz_w 441 (by decide +kernel) rfl, zz_w 442 (by decide +kernel) rfl⟩
theorem lX3_44 : zz_lS RX3 44 mJ6_bitCount_0f7a4 1 := ⟨kJ6_bitCount_0f7a4, zz_w 444 (by decide +kernel) rfl, zz_w 445 (by decide +kernel) rfl⟩
theorem lX9_162 : zz_lV RX9 162 mX3_signsInAll 0 := ⟨kX3_signsInAll, zz_w 450 (by decide +kernel) rfl, zz_w 451 (by decide +kernel) rfl, zz_w 452 (by decide +kernel) rfl⟩
theorem lX9_165 : zz_lS RX9 165 mX9_aboutLetter 2 := ⟨kX9_aboutLetter, zz_w 454 (by decide +kernel) rfl, zz_w 455 (by decide +kernel) rfl⟩
theorem lL_58 : zz_lV RL 58 mX9_taken 4 := ⟨kX9_taken, zz_w 457 (by decide +kernel) rfl, zz_w 458 (by decide +kernel) rfl, zz_w 459 (by decide +kernel) rfl⟩
theorem lX9_169 : zz_lS RX9 169 mX9_isLength 1 := ⟨kX9_isLength, zz_w 461 (by decide +kernel) rfl, zz_w 462 (by decide +kernel) rfl⟩
theorem lX9_172 : zz_lS RX9 172 mX9_wordsInAll 2 := ⟨kX9_wordsInAll, zz_w 464 (by decide +kernel) rfl, zz_w 465 (by decide +kernel) rfl⟩
theorem lX9_176 : zz_lS RX9 176 mX9_remainder 2 := ⟨kX9_remainder, zz_w 467 (by decide +kernel) rfl, zz_w 468 (by decide +kernel) rfl⟩
theorem lX9_182 : zz_lS RX9 182 mX9_quotient 2 := ⟨kX9_quotient, zz_w 470 (by decide +kernel) rfl, zz_w 471 (by decide +kernel) rfl⟩
theorem lL_63 : zz_lV RL 63 mX9_most 2 := ⟨kX9_most, zz_w 473 (by decide +kernel) rfl, zz_w 474 (by decide +kernel) rfl, zz_w 475 (by decide +kernel) rfl⟩
theorem lX9_185 : zz_lV RX9 185 mX1_lay 2 := ⟨kX1_lay, zz_w 477 (by decide +kernel) rfl, zz_w 478 (by decide +kernel) rfl, zz_w 479 (by decide +kernel) rfl⟩
theorem lX1_29 : zz_lV RX1 29 mX1_lengthen 1 := ⟨kX1_lengthen, zz_w 481 (by decide +kernel) rfl, zz_w 483 (by decide +kernel) rfl, zz_w 3 (by decide +kernel) rfl⟩
theorem lX1_48 : zz_lV RX1 48 mX3_alike 2 := ⟨kX3_alike, zz_w 485 (by decide +kernel) rfl, zz_w 424 (by decide +kernel) rfl, zz_w 425 (by decide +kernel) rfl⟩
theorem lX1_52 : zz_lS RX1 52 mJ9_min_7cf53 2 := ⟨kJ9_min_7cf53, zz_w 486 (by decide +kernel) rfl, zz_w 487 (by decide +kernel) rfl⟩
theorem lX9_189 : zz_lV RX9 189 mX1_findLargest 0 := ⟨kX1_findLargest, zz_w 489 (by decide +kernel) rfl, zz_w 490 (by decide +kernel) rfl, zz_w 491 (by decide +kernel) rfl⟩
theorem lX1_37 : zz_lV RX1 37 mX1_allWords 0 := ⟨kX1_allWords, zz_w 493 (by decide +kernel) rfl, zz_w 495 (by decide +kernel) rfl, zz_w 4 (by decide +kernel) rfl⟩
theorem lX1_58 : zz_lV RX1 58 mX1_explore 3 := ⟨kX1_explore, zz_w 498 (by decide +kernel) rfl, zz_w 500 (by decide +kernel) rfl, zz_w 5 (by decide +kernel) rfl⟩
theorem lX1_66 : zz_lV RX1 66 mX1_needed 1 := ⟨kX1_needed, zz_w 502 (by decide +kernel) rfl, zz_w 504 (by decide +kernel) rfl, zz_w 6 (by decide +kernel) rfl⟩
theorem lX1_73 : zz_lS RX1 73 mJ13_bitCount_95d88 1 := ⟨kJ13_bitCount_95d88, zz_w 506 (by decide +kernel) rfl, zz_w 507 (by decide +kernel) rfl⟩
theorem lX1_85 : zz_lSN RX1 85 mX9_lowest 1 := ⟨kX9_lowest, zz_wn 512 (by decide +kernel) (fun h => List.mem_filter.mpr ⟨h, rfl⟩), zz_w 513 (by decide +kernel) rfl⟩
theorem lX9_279 : zz_lS RX9 279 mJ13_bitCount_95d88 1 := ⟨kJ13_bitCount_95d88, zz_w 515 (by decide +kernel) rfl, zz_w 507 (by decide +kernel) rfl⟩
theorem lX1_88 : zz_lV RX1 88 mX1_canBeSpared 2 := ⟨kX1_canBeSpared, zz_w 516 (by decide +kernel) rfl, zz_w 518 (by decide +kernel) rfl, zz_w 7 (by decide +kernel) rfl⟩
theorem lX1_70 : zz_lV RX1 70 mX1_loneWords 1 := ⟨kX1_loneWords, zz_w 520 (by decide +kernel) rfl, zz_w 522 (by decide +kernel) rfl, zz_w 8 (by decide +kernel) rfl⟩
theorem lX1_79 : zz_lV RX1 79 mX1_groups 1 := ⟨kX1_groups, zz_w 524 (by decide +kernel) rfl, zz_w 526 (by decide +kernel) rfl, zz_w 9 (by decide +kernel) rfl⟩
theorem lX1_82 : zz_lV RX1 82 mX1_busiest 1 := ⟨kX1_busiest, zz_w 528 (by decide +kernel) rfl, zz_w 530 (by decide +kernel) rfl, zz_w 10 (by decide +kernel) rfl⟩
theorem lX9_192 : zz_lV RX9 192 mX1_leastLargest 0 := ⟨kX1_leastLargest, zz_w 532 (by decide +kernel) rfl, zz_w 533 (by decide +kernel) rfl, zz_w 534 (by decide +kernel) rfl⟩
theorem lX1_62 : zz_lV RX1 62 mX1_reaches 2 := ⟨kX1_reaches, zz_w 536 (by decide +kernel) rfl, zz_w 538 (by decide +kernel) rfl, zz_w 11 (by decide +kernel) rfl⟩
theorem lX9_199 : zz_lV RX9 199 mX0_keep 4 := ⟨kX0_keep, zz_w 540 (by decide +kernel) rfl, zz_w 541 (by decide +kernel) rfl, zz_w 542 (by decide +kernel) rfl⟩
theorem lL_67 : zz_lV RL 67 mX9_word 1 := ⟨kX9_word, zz_w 544 (by decide +kernel) rfl, zz_w 545 (by decide +kernel) rfl, zz_w 546 (by decide +kernel) rfl⟩
theorem lL_71 : zz_lV RL 71 mX9_ways 2 := ⟨kX9_ways, zz_w 548 (by decide +kernel) rfl, zz_w 549 (by decide +kernel) rfl, zz_w 550 (by decide +kernel) rfl⟩
theorem lX9_209 : zz_lV RX9 209 mX1_countLargest 0 := ⟨kX1_countLargest, zz_w 552 (by decide +kernel) rfl, zz_w 553 (by decide +kernel) rfl, zz_w 554 (by decide +kernel) rfl⟩
theorem lX1_92 : zz_lV RX1 92 mX1_tally 2 := ⟨kX1_tally, zz_w 556 (by decide +kernel) rfl, zz_w 558 (by decide +kernel) rfl, zz_w 12 (by decide +kernel) rfl⟩
theorem lX1_96 : zz_lV RX1 96 mX1_standsApart 2 := ⟨kX1_standsApart, zz_w 560 (by decide +kernel) rfl, zz_w 562 (by decide +kernel) rfl, zz_w 13 (by decide +kernel) rfl⟩
theorem lX1_101 : zz_lS RX1 101 mX1_joinTallies 2 := ⟨kX1_joinTallies, zz_w 565 (by decide +kernel) rfl, zz_w 566 (by decide +kernel) rfl⟩
theorem lX1_107 : zz_lS RX1 107 mJ9_max_f86c9 2 := ⟨kJ9_max_f86c9, zz_w 569 (by decide +kernel) rfl, zz_w 570 (by decide +kernel) rfl⟩
theorem lL_75 : zz_lV RL 75 mX9_heaps 1 := ⟨kX9_heaps, zz_w 572 (by decide +kernel) rfl, zz_w 573 (by decide +kernel) rfl, zz_w 574 (by decide +kernel) rfl⟩
theorem lX9_212 : zz_lV RX9 212 mX9_fewestHeaps 1 := ⟨kX9_fewestHeaps, zz_w 576 (by decide +kernel) rfl, zz_w 578 (by decide +kernel) rfl, zz_w 14 (by decide +kernel) rfl⟩
theorem lX9_285 : zz_lV RX9 285 mX1_layFar 1 := ⟨kX1_layFar, zz_w 580 (by decide +kernel) rfl, zz_w 581 (by decide +kernel) rfl, zz_w 582 (by decide +kernel) rfl⟩
theorem lX1_33 : zz_lV RX1 33 mX1_lay 2 := ⟨kX1_lay, zz_w 584 (by decide +kernel) rfl, zz_w 478 (by decide +kernel) rfl, zz_w 479 (by decide +kernel) rfl⟩
theorem lX9_288 : zz_lV RX9 288 mX2_fewest 3 := ⟨kX2_fewest, zz_w 585 (by decide +kernel) rfl, zz_w 586 (by decide +kernel) rfl, zz_w 587 (by decide +kernel) rfl⟩
theorem lX2_35 : zz_lS RX2 35 mJ9_max_7cf53 2 := ⟨kJ9_max_7cf53, zz_w 589 (by decide +kernel) rfl, zz_w 590 (by decide +kernel) rfl⟩
theorem lX2_41 : zz_lV RX2 41 mX2_fill 3 := ⟨kX2_fill, zz_w 592 (by decide +kernel) rfl, zz_w 594 (by decide +kernel) rfl, zz_w 15 (by decide +kernel) rfl⟩
theorem lX2_53 : zz_lV RX2 53 mX2_hasRoom 2 := ⟨kX2_hasRoom, zz_w 596 (by decide +kernel) rfl, zz_w 598 (by decide +kernel) rfl, zz_w 16 (by decide +kernel) rfl⟩
theorem lX2_60 : zz_lS RX2 60 mJ6_bitCount_0f7a4 1 := ⟨kJ6_bitCount_0f7a4, zz_w 600 (by decide +kernel) rfl, zz_w 445 (by decide +kernel) rfl⟩
theorem lX2_66 : zz_lS RX2 66 mJ9_min_7cf53 2 := ⟨kJ9_min_7cf53, zz_w 601 (by decide +kernel) rfl, zz_w 487 (by decide +kernel) rfl⟩
theorem lX2_57 : zz_lV RX2 57 mX2_loneliest 2 := ⟨kX2_loneliest, zz_w 602 (by decide +kernel) rfl, zz_w 604 (by decide +kernel) rfl, zz_w 17 (by decide +kernel) rfl⟩
theorem lX2_49 : zz_lV RX2 49 mX2_add 2 := ⟨kX2_add, zz_w 606 (by decide +kernel) rfl, zz_w 608 (by decide +kernel) rfl, zz_w 18 (by decide +kernel) rfl⟩
theorem lX9_216 : zz_lV RX9 216 mX2_leastRow 1 := ⟨kX2_leastRow, zz_w 610 (by decide +kernel) rfl, zz_w 611 (by decide +kernel) rfl, zz_w 612 (by decide +kernel) rfl⟩
theorem lX2_45 : zz_lV RX2 45 mX2_layRow 2 := ⟨kX2_layRow, zz_w 614 (by decide +kernel) rfl, zz_w 616 (by decide +kernel) rfl, zz_w 19 (by decide +kernel) rfl⟩
theorem lL_79 : zz_lV RL 79 mX9_heap 1 := ⟨kX9_heap, zz_w 618 (by decide +kernel) rfl, zz_w 619 (by decide +kernel) rfl, zz_w 620 (by decide +kernel) rfl⟩
theorem lL_83 : zz_lV RL 83 mX9_row 4 := ⟨kX9_row, zz_w 622 (by decide +kernel) rfl, zz_w 623 (by decide +kernel) rfl, zz_w 624 (by decide +kernel) rfl⟩
theorem lL_87 : zz_lV RL 87 mX9_stands 1 := ⟨kX9_stands, zz_w 626 (by decide +kernel) rfl, zz_w 627 (by decide +kernel) rfl, zz_w 628 (by decide +kernel) rfl⟩
theorem lX9_223 : zz_lV RX9 223 mX6_firstFlaw 1 := ⟨kX6_firstFlaw, zz_w 630 (by decide +kernel) rfl, zz_w 631 (by decide +kernel) rfl, zz_w 632 (by decide +kernel) rfl⟩
theorem lX6_26 : zz_lV RX6 26 mX3_mistakes 2 := ⟨kX3_mistakes, zz_w 634 (by decide +kernel) rfl, zz_w 369 (by decide +kernel) rfl, zz_w 370 (by decide +kernel) rfl⟩
theorem lX6_34 : zz_lS RX6 34 mX6_product 2 := ⟨kX6_product, zz_w 635 (by decide +kernel) rfl, zz_w 636 (by decide +kernel) rfl⟩
theorem lL_91 : zz_lV RL 91 mX9_bound 2 := ⟨kX9_bound, zz_w 638 (by decide +kernel) rfl, zz_w 639 (by decide +kernel) rfl, zz_w 640 (by decide +kernel) rfl⟩
theorem lX9_226 : zz_lV RX9 226 mX6_measure 1 := ⟨kX6_measure, zz_w 642 (by decide +kernel) rfl, zz_w 643 (by decide +kernel) rfl, zz_w 644 (by decide +kernel) rfl⟩
theorem lX6_38 : zz_lV RX6 38 mX6_firstFlaw 1 := ⟨kX6_firstFlaw, zz_w 646 (by decide +kernel) rfl, zz_w 631 (by decide +kernel) rfl, zz_w 632 (by decide +kernel) rfl⟩
theorem lX6_42 : zz_lV RX6 42 mX6_offer 3 := ⟨kX6_offer, zz_w 647 (by decide +kernel) rfl, zz_w 649 (by decide +kernel) rfl, zz_w 20 (by decide +kernel) rfl⟩
theorem lX6_46 : zz_lV RX6 46 mX6_cut 0 := ⟨kX6_cut, zz_w 651 (by decide +kernel) rfl, zz_w 653 (by decide +kernel) rfl, zz_w 21 (by decide +kernel) rfl⟩
theorem lL_95 : zz_lV RL 95 mX9_compare 4 := ⟨kX9_compare, zz_w 655 (by decide +kernel) rfl, zz_w 656 (by decide +kernel) rfl, zz_w 657 (by decide +kernel) rfl⟩
theorem lX9_239 : zz_lV RX9 239 mX5_hold 4 := ⟨kX5_hold, zz_w 659 (by decide +kernel) rfl, zz_w 660 (by decide +kernel) rfl, zz_w 661 (by decide +kernel) rfl⟩
theorem lX5_27 : zz_lS RX5 27 mX5_raise 3 := ⟨kX5_raise, zz_w 663 (by decide +kernel) rfl, zz_w 664 (by decide +kernel) rfl⟩
theorem lL_99 : zz_lV RL 99 mX9_best 1 := ⟨kX9_best, zz_w 667 (by decide +kernel) rfl, zz_w 668 (by decide +kernel) rfl, zz_w 669 (by decide +kernel) rfl⟩
theorem lX9_243 : zz_lV RX9 243 mX9_findBest 1 := ⟨kX9_findBest, zz_w 671 (by decide +kernel) rfl, zz_w 673 (by decide +kernel) rfl, zz_w 22 (by decide +kernel) rfl⟩
theorem lX9_292 : zz_lV RX9 292 mX5_offer 2 := ⟨kX5_offer, zz_w 675 (by decide +kernel) rfl, zz_w 676 (by decide +kernel) rfl, zz_w 677 (by decide +kernel) rfl⟩
theorem lX5_23 : zz_lV RX5 23 mX5_hold 4 := ⟨kX5_hold, zz_w 679 (by decide +kernel) rfl, zz_w 660 (by decide +kernel) rfl, zz_w 661 (by decide +kernel) rfl⟩
theorem lL_103 : zz_lV RL 103 mX9_met 1 := ⟨kX9_met, zz_w 680 (by decide +kernel) rfl, zz_w 681 (by decide +kernel) rfl, zz_w 682 (by decide +kernel) rfl⟩
theorem lX9_253 : zz_lV RX9 253 mX5_isPower 3 := ⟨kX5_isPower, zz_w 684 (by decide +kernel) rfl, zz_w 685 (by decide +kernel) rfl, zz_w 686 (by decide +kernel) rfl⟩
theorem lL_107 : zz_lV RL 107 mX9_came 1 := ⟨kX9_came, zz_w 688 (by decide +kernel) rfl, zz_w 689 (by decide +kernel) rfl, zz_w 690 (by decide +kernel) rfl⟩
theorem lX9_257 : zz_lV RX9 257 mX8_readSigns 1 := ⟨kX8_readSigns, zz_w 692 (by decide +kernel) rfl, zz_w 693 (by decide +kernel) rfl, zz_w 694 (by decide +kernel) rfl⟩
theorem lX9_266 : zz_lV RX9 266 mX9_couldMake 2 := ⟨kX9_couldMake, zz_w 696 (by decide +kernel) rfl, zz_w 698 (by decide +kernel) rfl, zz_w 23 (by decide +kernel) rfl⟩
theorem lL_111 : zz_lV RL 111 mX9_sent 0 := ⟨kX9_sent, zz_w 700 (by decide +kernel) rfl, zz_w 701 (by decide +kernel) rfl, zz_w 702 (by decide +kernel) rfl⟩
theorem lL_116 : zz_lV RL 116 mX9_list 2 := ⟨kX9_list, zz_w 704 (by decide +kernel) rfl, zz_w 705 (by decide +kernel) rfl, zz_w 706 (by decide +kernel) rfl⟩
theorem lX9_270 : zz_lV RX9 270 mX4_leastGreatest 2 := ⟨kX4_leastGreatest, zz_w 708 (by decide +kernel) rfl, zz_w 709 (by decide +kernel) rfl, zz_w 710 (by decide +kernel) rfl⟩
theorem lX4_28 : zz_lS RX4 28 mJ9_min_7cf53 2 := ⟨kJ9_min_7cf53, zz_w 712 (by decide +kernel) rfl, zz_w 487 (by decide +kernel) rfl⟩
theorem lX4_39 : zz_lS RX4 39 mX4_spread 1 := ⟨kX4_spread, zz_w 714 (by decide +kernel) rfl, zz_w 715 (by decide +kernel) rfl⟩
theorem lX4_43 : zz_lV RX4 43 mX4_search 4 := ⟨kX4_search, zz_w 717 (by decide +kernel) rfl, zz_w 719 (by decide +kernel) rfl, zz_w 24 (by decide +kernel) rfl⟩
theorem lX9_273 : zz_lS RX9 273 mJ6_bitCount_0f7a4 1 := ⟨kJ6_bitCount_0f7a4, zz_w 722 (by decide +kernel) rfl, zz_w 445 (by decide +kernel) rfl⟩
theorem lL_120 : zz_lV RL 120 mX9_listed 0 := ⟨kX9_listed, zz_w 723 (by decide +kernel) rfl, zz_w 724 (by decide +kernel) rfl, zz_w 725 (by decide +kernel) rfl⟩
theorem lL_124 : zz_lV RL 124 mX9_count 1 := ⟨kX9_count, zz_w 727 (by decide +kernel) rfl, zz_w 728 (by decide +kernel) rfl, zz_w 729 (by decide +kernel) rfl⟩
theorem lL_12 : zz_lI RL 12 mX10_init := ⟨kX10_init, zz_w 733 (by decide +kernel) rfl, zz_w 734 (by decide +kernel) rfl, rfl, rfl⟩
theorem oX10_1 : Cond.methodLink RX10 1 Lib.objectInit ∈ zz_tbl := zz_w 736 (by decide +kernel) rfl
theorem lL_17 : zz_lV RL 17 mX10_feed 5 := ⟨kX10_feed, zz_w 832 (by decide +kernel) rfl, zz_w 833 (by decide +kernel) rfl, zz_w 834 (by decide +kernel) rfl⟩
theorem lX10_96 : zz_lV RX10 96 mX10_lay 1 := ⟨kX10_lay, zz_w 836 (by decide +kernel) rfl, zz_w 838 (by decide +kernel) rfl, zz_w 25 (by decide +kernel) rfl⟩
theorem lL_22 : zz_lV RL 22 mX10_end 1 := ⟨kX10_end, zz_w 840 (by decide +kernel) rfl, zz_w 841 (by decide +kernel) rfl, zz_w 842 (by decide +kernel) rfl⟩
theorem lX10_81 : zz_lS RX10 81 mX10_in 3 := ⟨kX10_in, zz_w 844 (by decide +kernel) rfl, zz_w 845 (by decide +kernel) rfl⟩
theorem lL_27 : zz_lV RL 27 mX10_net 2 := ⟨kX10_net, zz_w 847 (by decide +kernel) rfl, zz_w 848 (by decide +kernel) rfl, zz_w 849 (by decide +kernel) rfl⟩
theorem lX10_85 : zz_lS RX10 85 mX10_isLine 1 := ⟨kX10_isLine, zz_w 851 (by decide +kernel) rfl, zz_w 852 (by decide +kernel) rfl⟩
theorem lX10_101 : zz_lV RX10 101 mX10_anew 3 := ⟨kX10_anew, zz_w 856 (by decide +kernel) rfl, zz_w 858 (by decide +kernel) rfl, zz_w 26 (by decide +kernel) rfl⟩
theorem lX10_89 : zz_lV RX10 89 mX10_noRows 1 := ⟨kX10_noRows, zz_w 860 (by decide +kernel) rfl, zz_w 862 (by decide +kernel) rfl, zz_w 27 (by decide +kernel) rfl⟩
theorem lL_32 : zz_lV RL 32 mX10_mistake 4 := ⟨kX10_mistake, zz_w 864 (by decide +kernel) rfl, zz_w 865 (by decide +kernel) rfl, zz_w 866 (by decide +kernel) rfl⟩
theorem lX10_105 : zz_lV RX10 105 mX10_isLetter 2 := ⟨kX10_isLetter, zz_w 868 (by decide +kernel) rfl, zz_w 870 (by decide +kernel) rfl, zz_w 28 (by decide +kernel) rfl⟩
theorem lX10_109 : zz_lV RX10 109 mX10_areNear 3 := ⟨kX10_areNear, zz_w 872 (by decide +kernel) rfl, zz_w 874 (by decide +kernel) rfl, zz_w 29 (by decide +kernel) rfl⟩
theorem lL_36 : zz_lV RL 36 mX10_ring 2 := ⟨kX10_ring, zz_w 876 (by decide +kernel) rfl, zz_w 877 (by decide +kernel) rfl, zz_w 878 (by decide +kernel) rfl⟩
theorem lX10_115 : zz_lV RX10 115 mX10_join 3 := ⟨kX10_join, zz_w 881 (by decide +kernel) rfl, zz_w 883 (by decide +kernel) rfl, zz_w 30 (by decide +kernel) rfl⟩
theorem lL_40 : zz_lV RL 40 mX10_told 1 := ⟨kX10_told, zz_w 885 (by decide +kernel) rfl, zz_w 886 (by decide +kernel) rfl, zz_w 887 (by decide +kernel) rfl⟩
theorem lX10_121 : zz_lV RX10 121 mX10_wrong 2 := ⟨kX10_wrong, zz_w 889 (by decide +kernel) rfl, zz_w 891 (by decide +kernel) rfl, zz_w 31 (by decide +kernel) rfl⟩
theorem lL_44 : zz_lV RL 44 mX10_fault 1 := ⟨kX10_fault, zz_w 893 (by decide +kernel) rfl, zz_w 894 (by decide +kernel) rfl, zz_w 895 (by decide +kernel) rfl⟩
theorem lL_49 : zz_lV RL 49 mX10_both 3 := ⟨kX10_both, zz_w 897 (by decide +kernel) rfl, zz_w 898 (by decide +kernel) rfl, zz_w 899 (by decide +kernel) rfl⟩
theorem lX10_125 : zz_lV RX10 125 mX10_isLike 3 := ⟨kX10_isLike, zz_w 901 (by decide +kernel) rfl, zz_w 903 (by decide +kernel) rfl, zz_w 32 (by decide +kernel) rfl⟩
theorem lX10_128 : zz_lV RX10 128 mX10_put 2 := ⟨kX10_put, zz_w 905 (by decide +kernel) rfl, zz_w 907 (by decide +kernel) rfl, zz_w 33 (by decide +kernel) rfl⟩
theorem lL_53 : zz_lV RL 53 mX10_either 3 := ⟨kX10_either, zz_w 909 (by decide +kernel) rfl, zz_w 910 (by decide +kernel) rfl, zz_w 911 (by decide +kernel) rfl⟩
theorem lL_57 : zz_lV RL 57 mX10_about 2 := ⟨kX10_about, zz_w 913 (by decide +kernel) rfl, zz_w 914 (by decide +kernel) rfl, zz_w 915 (by decide +kernel) rfl⟩
theorem lX10_139 : zz_lS RX10 139 mX10_bits 1 := ⟨kX10_bits, zz_w 921 (by decide +kernel) rfl, zz_w 922 (by decide +kernel) rfl⟩
theorem lL_62 : zz_lV RL 62 mX10_taken 4 := ⟨kX10_taken, zz_w 924 (by decide +kernel) rfl, zz_w 925 (by decide +kernel) rfl, zz_w 926 (by decide +kernel) rfl⟩
theorem lX10_145 : zz_lS RX10 145 mX10_power 2 := ⟨kX10_power, zz_w 929 (by decide +kernel) rfl, zz_w 930 (by decide +kernel) rfl⟩
theorem lX10_148 : zz_lV RX10 148 mX10_areTaken 4 := ⟨kX10_areTaken, zz_w 932 (by decide +kernel) rfl, zz_w 934 (by decide +kernel) rfl, zz_w 34 (by decide +kernel) rfl⟩
theorem lL_66 : zz_lV RL 66 mX10_most 2 := ⟨kX10_most, zz_w 936 (by decide +kernel) rfl, zz_w 937 (by decide +kernel) rfl, zz_w 938 (by decide +kernel) rfl⟩
theorem lX10_168 : zz_lV RX10 168 mX10_spell 3 := ⟨kX10_spell, zz_w 940 (by decide +kernel) rfl, zz_w 942 (by decide +kernel) rfl, zz_w 35 (by decide +kernel) rfl⟩
theorem lX10_171 : zz_lV RX10 171 mX10_all 0 := ⟨kX10_all, zz_w 944 (by decide +kernel) rfl, zz_w 946 (by decide +kernel) rfl, zz_w 36 (by decide +kernel) rfl⟩
theorem lX10_175 : zz_lV RX10 175 mX10_largest 1 := ⟨kX10_largest, zz_w 949 (by decide +kernel) rfl, zz_w 951 (by decide +kernel) rfl, zz_w 37 (by decide +kernel) rfl⟩
theorem lX10_160 : zz_lV RX10 160 mX10_cover 2 := ⟨kX10_cover, zz_w 953 (by decide +kernel) rfl, zz_w 955 (by decide +kernel) rfl, zz_w 38 (by decide +kernel) rfl⟩
theorem lX10_157 : zz_lS RX10 157 mX10_lowest 1 := ⟨kX10_lowest, zz_w 957 (by decide +kernel) rfl, zz_w 958 (by decide +kernel) rfl⟩
theorem lX10_164 : zz_lV RX10 164 mX10_reaches 2 := ⟨kX10_reaches, zz_w 960 (by decide +kernel) rfl, zz_w 962 (by decide +kernel) rfl, zz_w 39 (by decide +kernel) rfl⟩
theorem lL_70 : zz_lV RL 70 mX10_word 1 := ⟨kX10_word, zz_w 964 (by decide +kernel) rfl, zz_w 965 (by decide +kernel) rfl, zz_w 966 (by decide +kernel) rfl⟩
theorem lL_74 : zz_lV RL 74 mX10_ways 2 := ⟨kX10_ways, zz_w 968 (by decide +kernel) rfl, zz_w 969 (by decide +kernel) rfl, zz_w 970 (by decide +kernel) rfl⟩
theorem lX10_181 : zz_lV RX10 181 mX10_waysOf 2 := ⟨kX10_waysOf, zz_w 972 (by decide +kernel) rfl, zz_w 974 (by decide +kernel) rfl, zz_w 40 (by decide +kernel) rfl⟩
theorem lL_78 : zz_lV RL 78 mX10_heaps 1 := ⟨kX10_heaps, zz_w 976 (by decide +kernel) rfl, zz_w 977 (by decide +kernel) rfl, zz_w 978 (by decide +kernel) rfl⟩
theorem lX10_196 : zz_lV RX10 196 mX10_heapsOf 1 := ⟨kX10_heapsOf, zz_w 980 (by decide +kernel) rfl, zz_w 982 (by decide +kernel) rfl, zz_w 41 (by decide +kernel) rfl⟩
theorem lX10_193 : zz_lV RX10 193 mX10_heapFrom 4 := ⟨kX10_heapFrom, zz_w 984 (by decide +kernel) rfl, zz_w 986 (by decide +kernel) rfl, zz_w 42 (by decide +kernel) rfl⟩
theorem lX10_184 : zz_lV RX10 184 mX10_lonely 4 := ⟨kX10_lonely, zz_w 988 (by decide +kernel) rfl, zz_w 990 (by decide +kernel) rfl, zz_w 43 (by decide +kernel) rfl⟩
theorem lX10_188 : zz_lS RX10 188 mJ9_max_7cf53 2 := ⟨kJ9_max_7cf53, zz_w 992 (by decide +kernel) rfl, zz_w 590 (by decide +kernel) rfl⟩
theorem lL_82 : zz_lV RL 82 mX10_heap 1 := ⟨kX10_heap, zz_w 993 (by decide +kernel) rfl, zz_w 994 (by decide +kernel) rfl, zz_w 995 (by decide +kernel) rfl⟩
theorem lL_86 : zz_lV RL 86 mX10_row 4 := ⟨kX10_row, zz_w 997 (by decide +kernel) rfl, zz_w 998 (by decide +kernel) rfl, zz_w 999 (by decide +kernel) rfl⟩
theorem lX10_209 : zz_lS RX10 209 mX10_placeOf 2 := ⟨kX10_placeOf, zz_w 1004 (by decide +kernel) rfl, zz_w 1005 (by decide +kernel) rfl⟩
theorem lL_90 : zz_lV RL 90 mX10_stands 1 := ⟨kX10_stands, zz_w 1007 (by decide +kernel) rfl, zz_w 1008 (by decide +kernel) rfl, zz_w 1009 (by decide +kernel) rfl⟩
theorem lX10_212 : zz_lV RX10 212 mX10_product 3 := ⟨kX10_product, zz_w 1011 (by decide +kernel) rfl, zz_w 1013 (by decide +kernel) rfl, zz_w 44 (by decide +kernel) rfl⟩
theorem lL_94 : zz_lV RL 94 mX10_bound 2 := ⟨kX10_bound, zz_w 1015 (by decide +kernel) rfl, zz_w 1016 (by decide +kernel) rfl, zz_w 1017 (by decide +kernel) rfl⟩
theorem lX10_228 : zz_lV RX10 228 mX10_stands 1 := ⟨kX10_stands, zz_w 1020 (by decide +kernel) rfl, zz_w 1008 (by decide +kernel) rfl, zz_w 1009 (by decide +kernel) rfl⟩
theorem lX10_231 : zz_lV RX10 231 mX10_findBound 1 := ⟨kX10_findBound, zz_w 1021 (by decide +kernel) rfl, zz_w 1023 (by decide +kernel) rfl, zz_w 45 (by decide +kernel) rfl⟩
theorem lL_98 : zz_lV RL 98 mX10_compare 4 := ⟨kX10_compare, zz_w 1025 (by decide +kernel) rfl, zz_w 1026 (by decide +kernel) rfl, zz_w 1027 (by decide +kernel) rfl⟩
theorem lX10_248 : zz_lV RX10 248 mX10_heldRates 4 := ⟨kX10_heldRates, zz_w 1031 (by decide +kernel) rfl, zz_w 1033 (by decide +kernel) rfl, zz_w 46 (by decide +kernel) rfl⟩
theorem lX10_236 : zz_lS RX10 236 mX10_raise 4 := ⟨kX10_raise, zz_w 1035 (by decide +kernel) rfl, zz_w 1036 (by decide +kernel) rfl⟩
theorem lX10_240 : zz_lV RX10 240 mX10_held 0 := ⟨kX10_held, zz_w 1039 (by decide +kernel) rfl, zz_w 1041 (by decide +kernel) rfl, zz_w 47 (by decide +kernel) rfl⟩
theorem lL_102 : zz_lV RL 102 mX10_best 1 := ⟨kX10_best, zz_w 1043 (by decide +kernel) rfl, zz_w 1044 (by decide +kernel) rfl, zz_w 1045 (by decide +kernel) rfl⟩
theorem lX10_254 : zz_lV RX10 254 mX10_bestOf 1 := ⟨kX10_bestOf, zz_w 1047 (by decide +kernel) rfl, zz_w 1049 (by decide +kernel) rfl, zz_w 48 (by decide +kernel) rfl⟩
theorem lL_106 : zz_lV RL 106 mX10_met 1 := ⟨kX10_met, zz_w 1051 (by decide +kernel) rfl, zz_w 1052 (by decide +kernel) rfl, zz_w 1053 (by decide +kernel) rfl⟩
theorem lL_110 : zz_lV RL 110 mX10_came 1 := ⟨kX10_came, zz_w 1055 (by decide +kernel) rfl, zz_w 1056 (by decide +kernel) rfl, zz_w 1057 (by decide +kernel) rfl⟩
theorem lL_115 : zz_lV RL 115 mX10_sent 0 := ⟨kX10_sent, zz_w 1059 (by decide +kernel) rfl, zz_w 1060 (by decide +kernel) rfl, zz_w 1061 (by decide +kernel) rfl⟩
theorem lL_119 : zz_lV RL 119 mX10_list 2 := ⟨kX10_list, zz_w 1063 (by decide +kernel) rfl, zz_w 1064 (by decide +kernel) rfl, zz_w 1065 (by decide +kernel) rfl⟩
theorem lX10_257 : zz_lV RX10 257 mX10_isList 3 := ⟨kX10_isList, zz_w 1067 (by decide +kernel) rfl, zz_w 1069 (by decide +kernel) rfl, zz_w 49 (by decide +kernel) rfl⟩
theorem lL_123 : zz_lV RL 123 mX10_listed 0 := ⟨kX10_listed, zz_w 1071 (by decide +kernel) rfl, zz_w 1072 (by decide +kernel) rfl, zz_w 1073 (by decide +kernel) rfl⟩
theorem lL_127 : zz_lV RL 127 mX10_count 1 := ⟨kX10_count, zz_w 1075 (by decide +kernel) rfl, zz_w 1076 (by decide +kernel) rfl, zz_w 1077 (by decide +kernel) rfl⟩
theorem zz_oi1 : Cond.instanceMethod Lib.objectInit ∈ zz_tbl := zz_w 71 (by decide +kernel) rfl
theorem zz_oi2 : Cond.code Lib.objectInit ⟨#[0xb1]⟩ 1 none ∈ zz_tbl := zz_w 72 (by decide +kernel) rfl
theorem tJ6_265 : Cond.constant RJ6 265 (1431655765) ∈ zz_tbl := zz_w 447 (by decide +kernel) rfl
theorem tJ6_266 : Cond.constant RJ6 266 (858993459) ∈ zz_tbl := zz_w 448 (by decide +kernel) rfl
theorem tJ6_267 : Cond.constant RJ6 267 (252645135) ∈ zz_tbl := zz_w 449 (by decide +kernel) rfl
theorem tX1_41 : Cond.constantLong RX1 41 (-1) ∈ zz_tbl := zz_w 497 (by decide +kernel) rfl
theorem tJ13_314 : Cond.constantLong RJ13 314 (6148914691236517205) ∈ zz_tbl := zz_w 509 (by decide +kernel) rfl
theorem tJ13_316 : Cond.constantLong RJ13 316 (3689348814741910323) ∈ zz_tbl := zz_w 510 (by decide +kernel) rfl
theorem tJ13_318 : Cond.constantLong RJ13 318 (1085102592571150095) ∈ zz_tbl := zz_w 511 (by decide +kernel) rfl
theorem tX1_99 : Cond.constantLong RX1 99 (4294967296) ∈ zz_tbl := zz_w 564 (by decide +kernel) rfl
theorem tX1_105 : Cond.constantLong RX1 105 (4294967295) ∈ zz_tbl := zz_w 568 (by decide +kernel) rfl
theorem tX5_31 : Cond.constantLong RX5 31 (1000000000000) ∈ zz_tbl := zz_w 666 (by decide +kernel) rfl
theorem tX4_34 : Cond.constantLong RX4 34 (37191016277640225) ∈ zz_tbl := zz_w 713 (by decide +kernel) rfl
theorem tX4_47 : Cond.constantLong RX4 47 (595056260442243600) ∈ zz_tbl := zz_w 721 (by decide +kernel) rfl
theorem tX10_79 : Cond.constantLong RX10 79 (7) ∈ zz_tbl := zz_w 854 (by decide +kernel) rfl
theorem tX10_99 : Cond.constantLong RX10 99 (24) ∈ zz_tbl := zz_w 855 (by decide +kernel) rfl
theorem tX10_113 : Cond.constantLong RX10 113 (3) ∈ zz_tbl := zz_w 880 (by decide +kernel) rfl
theorem tX10_131 : Cond.constantLong RX10 131 (10) ∈ zz_tbl := zz_w 917 (by decide +kernel) rfl
theorem tX10_133 : Cond.constantLong RX10 133 (9) ∈ zz_tbl := zz_w 918 (by decide +kernel) rfl
theorem tX10_135 : Cond.constantLong RX10 135 (40) ∈ zz_tbl := zz_w 919 (by decide +kernel) rfl
theorem tX10_137 : Cond.constantLong RX10 137 (39) ∈ zz_tbl := zz_w 920 (by decide +kernel) rfl
theorem tX10_143 : Cond.constantLong RX10 143 (6) ∈ zz_tbl := zz_w 928 (by decide +kernel) rfl
theorem tX10_155 : Cond.constantLong RX10 155 (-1) ∈ zz_tbl := zz_w 948 (by decide +kernel) rfl
theorem tX10_203 : Cond.constantLong RX10 203 (5) ∈ zz_tbl := zz_w 1001 (by decide +kernel) rfl
theorem tX10_205 : Cond.constantLong RX10 205 (-30) ∈ zz_tbl := zz_w 1002 (by decide +kernel) rfl
theorem tX10_207 : Cond.constantLong RX10 207 (30) ∈ zz_tbl := zz_w 1003 (by decide +kernel) rfl
theorem tX10_226 : Cond.constantLong RX10 226 (2) ∈ zz_tbl := zz_w 1019 (by decide +kernel) rfl
theorem tX10_244 : Cond.constantLong RX10 244 (1000) ∈ zz_tbl := zz_w 1029 (by decide +kernel) rfl
theorem tX10_246 : Cond.constantLong RX10 246 (12) ∈ zz_tbl := zz_w 1030 (by decide +kernel) rfl
theorem tX10_234 : Cond.constantLong RX10 234 (1000000000) ∈ zz_tbl := zz_w 1038 (by decide +kernel) rfl
theorem qL_7 : Cond.classLink RL 7 RX9 ∈ zz_tbl := zz_w 65 (by decide +kernel) rfl
theorem qX9_7 : Cond.classLink RX9 7 RX7 ∈ zz_tbl := zz_w 73 (by decide +kernel) rfl
theorem qX9_16 : Cond.classLink RX9 16 RX8 ∈ zz_tbl := zz_w 90 (by decide +kernel) rfl
theorem qX9_23 : Cond.classLink RX9 23 RX3 ∈ zz_tbl := zz_w 113 (by decide +kernel) rfl
theorem qX9_33 : Cond.classLink RX9 33 RX1 ∈ zz_tbl := zz_w 115 (by decide +kernel) rfl
theorem qX9_40 : Cond.classLink RX9 40 RX2 ∈ zz_tbl := zz_w 138 (by decide +kernel) rfl
theorem qX9_47 : Cond.classLink RX9 47 RX6 ∈ zz_tbl := zz_w 163 (by decide +kernel) rfl
theorem qX9_54 : Cond.classLink RX9 54 RX5 ∈ zz_tbl := zz_w 182 (by decide +kernel) rfl
theorem qX9_61 : Cond.classLink RX9 61 RX4 ∈ zz_tbl := zz_w 203 (by decide +kernel) rfl
theorem qX9_68 : Cond.classLink RX9 68 RX0 ∈ zz_tbl := zz_w 219 (by decide +kernel) rfl
theorem qX3_28 : Cond.classLink RX3 28 "[[I" ∈ zz_tbl := zz_w 251 (by decide +kernel) rfl
theorem qL_10 : Cond.classLink RL 10 RX10 ∈ zz_tbl := zz_w 731 (by decide +kernel) rfl
theorem iiX9 : Cond.initialized RX9 ∈ zz_tbl := zz_w 51 (by decide +kernel) rfl
theorem iiX7 : Cond.initialized RX7 ∈ zz_tbl := zz_w 52 (by decide +kernel) rfl
theorem iiX8 : Cond.initialized RX8 ∈ zz_tbl := zz_w 53 (by decide +kernel) rfl
theorem iiX1 : Cond.initialized RX1 ∈ zz_tbl := zz_w 54 (by decide +kernel) rfl
theorem iiX2 : Cond.initialized RX2 ∈ zz_tbl := zz_w 55 (by decide +kernel) rfl
theorem iiX6 : Cond.initialized RX6 ∈ zz_tbl := zz_w 56 (by decide +kernel) rfl
theorem iiX5 : Cond.initialized RX5 ∈ zz_tbl := zz_w 57 (by decide +kernel) rfl
theorem iiX4 : Cond.initialized RX4 ∈ zz_tbl := zz_w 58 (by decide +kernel) rfl
theorem iiX0 : Cond.initialized RX0 ∈ zz_tbl := zz_w 59 (by decide +kernel) rfl
theorem iiX3 : Cond.initialized RX3 ∈ zz_tbl := zz_w 60 (by decide +kernel) rfl
theorem iiX10 : Cond.initialized RX10 ∈ zz_tbl := zz_w 61 (by decide +kernel) rfl
theorem inX9 : Cond.instantiable RX9 14 ∈ zz_tbl := zz_w 66 (by decide +kernel) rfl
theorem inX7 : Cond.instantiable RX7 2 ∈ zz_tbl := zz_w 74 (by decide +kernel) rfl
theorem ac_int : Cond.arrayClass .int ∈ zz_tbl := zz_w 89 (by decide +kernel) rfl
theorem inX8 : Cond.instantiable RX8 4 ∈ zz_tbl := zz_w 91 (by decide +kernel) rfl
theorem inX1 : Cond.instantiable RX1 5 ∈ zz_tbl := zz_w 116 (by decide +kernel) rfl
theorem ac_long : Cond.arrayClass .long ∈ zz_tbl := zz_w 137 (by decide +kernel) rfl
theorem inX2 : Cond.instantiable RX2 6 ∈ zz_tbl := zz_w 139 (by decide +kernel) rfl
theorem inX6 : Cond.instantiable RX6 3 ∈ zz_tbl := zz_w 164 (by decide +kernel) rfl
theorem inX5 : Cond.instantiable RX5 4 ∈ zz_tbl := zz_w 183 (by decide +kernel) rfl
theorem inX4 : Cond.instantiable RX4 3 ∈ zz_tbl := zz_w 204 (by decide +kernel) rfl
theorem inX0 : Cond.instantiable RX0 5 ∈ zz_tbl := zz_w 220 (by decide +kernel) rfl
theorem inX3 : Cond.instantiable RX3 6 ∈ zz_tbl := zz_w 246 (by decide +kernel) rfl
theorem inX10 : Cond.instantiable RX10 31 ∈ zz_tbl := zz_w 732 (by decide +kernel) rfl
theorem ac_byte : Cond.arrayClass .byte ∈ zz_tbl := zz_w 831 (by decide +kernel) rfl
end
section
/-! ===== the cells behind the two constructors ===== -/
def LN (l : Nat) : Nat := 25 + 29 * l
def zo_sh : List (Nat × Nat × Nat) := [(1, 0, 9), (2, 0, 7), (3, 1, 600), (4, 0, 8), (5, 1, 24), (6, 4, 8), (7, 1, 24), (8, 0, 1), (9, 2, 64), (10, 0, 2), (11, 1, 24), (12, 1, 24), (13, 1, 24), (14, 0, 6), (15, 0, 5), (16, 2, 4), (17, 2, 4), (18, 0, 4), (19, 2, 16), (20, 2, 16), (21, 1, 17), (22, 0, 0), (23, 1, 64), (24, 1, 24), (257, 0, 10), (258, 1, 8), (259, 1, 8), (260, 1, 192), (261, 1, 192), (262, 1, 1200), (263, 1, 8), (264, 3, 600), (265, 1, 24), (266, 1, 24), (267, 2, 64), (268, 1, 64), (269, 1, 24), (270, 1, 24), (271, 1, 24), (272, 2, 12), (273, 2, 12)]
def zo_rf : List (Nat × Nat × Nat) := [(1, 0, 2), (1, 1, 4), (1, 2, 6), (1, 3, 7), (1, 4, 8), (1, 5, 10), (1, 6, 14), (1, 7, 15), (1, 8, 18), (1, 9, 22), (1, 10, 24), (2, 0, 3), (4, 0, 5), (8, 0, 9), (10, 0, 11), (10, 1, 12), (10, 2, 13), (15, 0, 16), (15, 1, 17), (18, 0, 19), (18, 1, 20), (18, 2, 21), (22, 0, 23), (257, 0, 258), (257, 1, 259), (257, 2, 260), (257, 3, 261), (257, 4, 262), (257, 5, 263), (257, 6, 264), (257, 10, 265), (257, 11, 266), (257, 12, 267), (257, 14, 268), (257, 19, 269), (257, 20, 270), (257, 22, 271), (257, 26, 272), (257, 27, 273)]
def zo_ln (M : zz_M) (l : Nat) : Prop := zz_is M (LN l) 0 3 ∧ (M.2 6).2.2 l = some (LN l) ∧ zz_is M (LN l + 1) 1 24 ∧ (M.2 (LN l)).2.2 3 = some (LN l + 1) ∧ zz_is M (LN l + 2) 1 24 ∧ (M.2 (LN l)).2.2 4 = some (LN l + 2) ∧ zz_is M (LN l + 3) 5 25 ∧ (M.2 (LN l)).2.2 5 = some (LN l + 3) ∧ ∀ a, a < 25 → (M.2 (LN l + 3)).2.2 a = some (LN l + 4 + a) ∧ zz_is M (LN l + 4 + a) 1 6
def OK (M : zz_M) : Prop := (∀ q ∈ zo_sh, zz_is M q.1 q.2.1 q.2.2) ∧ (∀ q ∈ zo_rf, (M.2 q.1).2.2 q.2.1 = some q.2.2) ∧ ∀ l, l < 8 → zo_ln M l
section ZO
variable {M : zz_M} {l : Nat}
theorem os_1 (h : OK M) : zz_is M 1 0 9 := h.1 (1, 0, 9) (by decide +kernel)
theorem os_2 (h : OK M) : zz_is M 2 0 7 := h.1 (2, 0, 7) (by decide +kernel)
theorem os_3 (h : OK M) : zz_is M 3 1 600 := h.1 (3, 1, 600) (by decide +kernel)
theorem os_4 (h : OK M) : zz_is M 4 0 8 := h.1 (4, 0, 8) (by decide +kernel)
theorem os_5 (h : OK M) : zz_is M 5 1 24 := h.1 (5, 1, 24) (by decide +kernel)
theorem os_6 (h : OK M) : zz_is M 6 4 8 := h.1 (6, 4, 8) (by decide +kernel)
theorem os_7 (h : OK M) : zz_is M 7 1 24 := h.1 (7, 1, 24) (by decide +kernel)
theorem os_8 (h : OK M) : zz_is M 8 0 1 := h.1 (8, 0, 1) (by decide +kernel)
theorem os_9 (h : OK M) : zz_is M 9 2 64 := h.1 (9, 2, 64) (by decide +kernel)
theorem os_10 (h : OK M) : zz_is M 10 0 2 := h.1 (10, 0, 2) (by decide +kernel)
theorem os_11 (h : OK M) : zz_is M 11 1 24 := h.1 (11, 1, 24) (by decide +kernel)
theorem os_12 (h : OK M) : zz_is M 12 1 24 := h.1 (12, 1, 24) (by decide +kernel)
theorem os_13 (h : OK M) : zz_is M 13 1 24 := h.1 (13, 1, 24) (by decide +kernel)
theorem os_14 (h : OK M) : zz_is M 14 0 6 := h.1 (14, 0, 6) (by decide +kernel)
theorem os_15 (h : OK M) : zz_is M 15 0 5 := h.1 (15, 0, 5) (by decide +kernel)
theorem os_16 (h : OK M) : zz_is M 16 2 4 := h.1 (16, 2, 4) (by decide +kernel)
theorem os_17 (h : OK M) : zz_is M 17 2 4 := h.1 (17, 2, 4) (by decide +kernel)
theorem os_18 (h : OK M) : zz_is M 18 0 4 := h.1 (18, 0, 4) (by decide +kernel)
theorem os_19 (h : OK M) : zz_is M 19 2 16 := h.1 (19, 2, 16) (by decide +kernel)
theorem os_20 (h : OK M) : zz_is M 20 2 16 := h.1 (20, 2, 16) (by decide +kernel)
theorem os_21 (h : OK M) : zz_is M 21 1 17 := h.1 (21, 1, 17) (by decide +kernel)
theorem os_22 (h : OK M) : zz_is M 22 0 0 := h.1 (22, 0, 0) (by decide +kernel)
theorem os_23 (h : OK M) : zz_is M 23 1 64 := h.1 (23, 1, 64) (by decide +kernel)
theorem os_24 (h : OK M) : zz_is M 24 1 24 := h.1 (24, 1, 24) (by decide +kernel)
theorem os_257 (h : OK M) : zz_is M 257 0 10 := h.1 (257, 0, 10) (by decide +kernel)
theorem os_258 (h : OK M) : zz_is M 258 1 8 := h.1 (258, 1, 8) (by decide +kernel)
theorem os_259 (h : OK M) : zz_is M 259 1 8 := h.1 (259, 1, 8) (by decide +kernel)
theorem os_260 (h : OK M) : zz_is M 260 1 192 := h.1 (260, 1, 192) (by decide +kernel)
theorem os_261 (h : OK M) : zz_is M 261 1 192 := h.1 (261, 1, 192) (by decide +kernel)
theorem os_262 (h : OK M) : zz_is M 262 1 1200 := h.1 (262, 1, 1200) (by decide +kernel)
theorem os_263 (h : OK M) : zz_is M 263 1 8 := h.1 (263, 1, 8) (by decide +kernel)
theorem os_264 (h : OK M) : zz_is M 264 3 600 := h.1 (264, 3, 600) (by decide +kernel)
theorem os_265 (h : OK M) : zz_is M 265 1 24 := h.1 (265, 1, 24) (by decide +kernel)
theorem os_266 (h : OK M) : zz_is M 266 1 24 := h.1 (266, 1, 24) (by decide +kernel)
theorem os_267 (h : OK M) : zz_is M 267 2 64 := h.1 (267, 2, 64) (by decide +kernel)
theorem os_268 (h : OK M) : zz_is M 268 1 64 := h.1 (268, 1, 64) (by decide +kernel)
theorem os_269 (h : OK M) : zz_is M 269 1 24 := h.1 (269, 1, 24) (by decide +kernel)
theorem os_270 (h : OK M) : zz_is M 270 1 24 := h.1 (270, 1, 24) (by decide +kernel)
theorem os_271 (h : OK M) : zz_is M 271 1 24 := h.1 (271, 1, 24) (by decide +kernel)
theorem os_272 (h : OK M) : zz_is M 272 2 12 := h.1 (272, 2, 12) (by decide +kernel)
theorem os_273 (h : OK M) : zz_is M 273 2 12 := h.1 (273, 2, 12) (by decide +kernel)
theorem or_1_0 (h : OK M) : (M.2 1).2.2 0 = some 2 := h.2.1 (1, 0, 2) (by decide +kernel)
theorem or_1_1 (h : OK M) : (M.2 1).2.2 1 = some 4 := h.2.1 (1, 1, 4) (by decide +kernel)
theorem or_1_2 (h : OK M) : (M.2 1).2.2 2 = some 6 := h.2.1 (1, 2, 6) (by decide +kernel)
theorem or_1_3 (h : OK M) : (M.2 1).2.2 3 = some 7 := h.2.1 (1, 3, 7) (by decide +kernel)
theorem or_1_4 (h : OK M) : (M.2 1).2.2 4 = some 8 := h.2.1 (1, 4, 8) (by decide +kernel)
theorem or_1_5 (h : OK M) : (M.2 1).2.2 5 = some 10 := h.2.1 (1, 5, 10) (by decide +kernel)
theorem or_1_6 (h : OK M) : (M.2 1).2.2 6 = some 14 := h.2.1 (1, 6, 14) (by decide +kernel)
theorem or_1_7 (h : OK M) : (M.2 1).2.2 7 = some 15 := h.2.1 (1, 7, 15) (by decide +kernel)
theorem or_1_8 (h : OK M) : (M.2 1).2.2 8 = some 18 := h.2.1 (1, 8, 18) (by decide +kernel)
theorem or_1_9 (h : OK M) : (M.2 1).2.2 9 = some 22 := h.2.1 (1, 9, 22) (by decide +kernel)
theorem or_1_10 (h : OK M) : (M.2 1).2.2 10 = some 24 := h.2.1 (1, 10, 24) (by decide +kernel)
theorem or_2_0 (h : OK M) : (M.2 2).2.2 0 = some 3 := h.2.1 (2, 0, 3) (by decide +kernel)
theorem or_4_0 (h : OK M) : (M.2 4).2.2 0 = some 5 := h.2.1 (4, 0, 5) (by decide +kernel)
theorem or_8_0 (h : OK M) : (M.2 8).2.2 0 = some 9 := h.2.1 (8, 0, 9) (by decide +kernel)
theorem or_10_0 (h : OK M) : (M.2 10).2.2 0 = some 11 := h.2.1 (10, 0, 11) (by decide +kernel)
theorem or_10_1 (h : OK M) : (M.2 10).2.2 1 = some 12 := h.2.1 (10, 1, 12) (by decide +kernel)
theorem or_10_2 (h : OK M) : (M.2 10).2.2 2 = some 13 := h.2.1 (10, 2, 13) (by decide +kernel)
theorem or_15_0 (h : OK M) : (M.2 15).2.2 0 = some 16 := h.2.1 (15, 0, 16) (by decide +kernel)
theorem or_15_1 (h : OK M) : (M.2 15).2.2 1 = some 17 := h.2.1 (15, 1, 17) (by decide +kernel)
theorem or_18_0 (h : OK M) : (M.2 18).2.2 0 = some 19 := h.2.1 (18, 0, 19) (by decide +kernel)
theorem or_18_1 (h : OK M) : (M.2 18).2.2 1 = some 20 := h.2.1 (18, 1, 20) (by decide +kernel)
theorem or_18_2 (h : OK M) : (M.2 18).2.2 2 = some 21 := h.2.1 (18, 2, 21) (by decide +kernel)
theorem or_22_0 (h : OK M) : (M.2 22).2.2 0 = some 23 := h.2.1 (22, 0, 23) (by decide +kernel)
theorem or_257_0 (h : OK M) : (M.2 257).2.2 0 = some 258 := h.2.1 (257, 0, 258) (by decide +kernel)
theorem or_257_1 (h : OK M) : (M.2 257).2.2 1 = some 259 := h.2.1 (257, 1, 259) (by decide +kernel)
theorem or_257_2 (h : OK M) : (M.2 257).2.2 2 = some 260 := h.2.1 (257, 2, 260) (by decide +kernel)
theorem or_257_3 (h : OK M) : (M.2 257).2.2 3 = some 261 := h.2.1 (257, 3, 261) (by decide +kernel)
theorem or_257_4 (h : OK M) : (M.2 257).2.2 4 = some 262 := h.2.1 (257, 4, 262) (by decide +kernel)
theorem or_257_5 (h : OK M) : (M.2 257).2.2 5 = some 263 := h.2.1 (257, 5, 263) (by decide +kernel)
theorem or_257_6 (h : OK M) : (M.2 257).2.2 6 = some 264 := h.2.1 (257, 6, 264) (by decide +kernel)
theorem or_257_10 (h : OK M) : (M.2 257).2.2 10 = some 265 := h.2.1 (257, 10, 265) (by decide +kernel)
theorem or_257_11 (h : OK M) : (M.2 257).2.2 11 = some 266 := h.2.1 (257, 11, 266) (by decide +kernel)
theorem or_257_12 (h : OK M) : (M.2 257).2.2 12 = some 267 := h.2.1 (257, 12, 267) (by decide +kernel)
theorem or_257_14 (h : OK M) : (M.2 257).2.2 14 = some 268 := h.2.1 (257, 14, 268) (by decide +kernel)
theorem or_257_19 (h : OK M) : (M.2 257).2.2 19 = some 269 := h.2.1 (257, 19, 269) (by decide +kernel)
theorem or_257_20 (h : OK M) : (M.2 257).2.2 20 = some 270 := h.2.1 (257, 20, 270) (by decide +kernel)
theorem or_257_22 (h : OK M) : (M.2 257).2.2 22 = some 271 := h.2.1 (257, 22, 271) (by decide +kernel)
theorem or_257_26 (h : OK M) : (M.2 257).2.2 26 = some 272 := h.2.1 (257, 26, 272) (by decide +kernel)
theorem or_257_27 (h : OK M) : (M.2 257).2.2 27 = some 273 := h.2.1 (257, 27, 273) (by decide +kernel)
theorem ol_obj (h : OK M) (hl : l < 8) : zz_is M (LN l) 0 3 := (h.2.2 l hl).1
theorem olr_line (h : OK M) (hl : l < 8) : (M.2 6).2.2 l = some (LN l) := (h.2.2 l hl).2.1
theorem ol_near (h : OK M) (hl : l < 8) : zz_is M (LN l + 1) 1 24 := (h.2.2 l hl).2.2.1
theorem olr_near (h : OK M) (hl : l < 8) : (M.2 (LN l)).2.2 3 = some (LN l + 1) := (h.2.2 l hl).2.2.2.1
theorem ol_signs (h : OK M) (hl : l < 8) : zz_is M (LN l + 2) 1 24 := (h.2.2 l hl).2.2.2.2.1
theorem olr_signs (h : OK M) (hl : l < 8) : (M.2 (LN l)).2.2 4 = some (LN l + 2) := (h.2.2 l hl).2.2.2.2.2.1
theorem ol_num (h : OK M) (hl : l < 8) : zz_is M (LN l + 3) 5 25 := (h.2.2 l hl).2.2.2.2.2.2.1
theorem olr_num (h : OK M) (hl : l < 8) : (M.2 (LN l)).2.2 5 = some (LN l + 3) := (h.2.2 l hl).2.2.2.2.2.2.2.1
theorem olr_row (h : OK M) (hl : l < 8) {a : Nat} (ha : a < 25) : (M.2 (LN l + 3)).2.2 a = some (LN l + 4 + a) := ((h.2.2 l hl).2.2.2.2.2.2.2.2 a ha).1
theorem ol_row (h : OK M) (hl : l < 8) {a : Nat} (ha : a < 25) : zz_is M (LN l + 4 + a) 1 6 := ((h.2.2 l hl).2.2.2.2.2.2.2.2 a ha).2
end ZO
end
section
/-! rows on bits, shifts and unsigned numbers, to paste: each family out of a closed proof of our own, whole with what it rests on; each by itself clean at Lean in its own claim (generation 39, form 5). Take a family whole -/
/-! ===== Int32 by its bits: bt x i ===== -/
def bt (x : Int32) (i : Nat) : Bool := x.toBitVec.getLsbD i
theorem b_ext {x y : Int32} (h : ∀ i, i < 32 → bt x i = bt y i) : x = y := Int32.toBitVec_inj.mp (BitVec.eq_of_getLsbD_eq (fun i hi => h i hi))
theorem b_or (x y : Int32) (i : Nat) : bt (x ||| y) i = (bt x i || bt y i) := by unfold bt; rw [Int32.toBitVec_or, BitVec.getLsbD_or]
theorem b_and (x y : Int32) (i : Nat) : bt (x &&& y) i = (bt x i && bt y i) := by unfold bt; rw [Int32.toBitVec_and, BitVec.getLsbD_and]
theorem b_xor (x y : Int32) (i : Nat) : bt (x ^^^ y) i = (bt x i ^^ bt y i) := by unfold bt; rw [Int32.toBitVec_xor, BitVec.getLsbD_xor]
theorem b_big {x : Int32} {i : Nat} (h : 32 ≤ i) : bt x i = false := BitVec.getLsbD_of_ge _ _ h
theorem b_255 (i : Nat) : bt 255 i = decide (i < 8) := by
  rcases Nat.lt_or_ge i 32 with h | h
  · exact (by decide +kernel : ∀ i, i < 32 → bt 255 i = decide (i < 8)) i h
  · rw [b_big h, decide_eq_false (by omega)]
theorem b_65535 (i : Nat) : bt 65535 i = decide (i < 16) := by
  rcases Nat.lt_or_ge i 32 with h | h
  · exact (by decide +kernel : ∀ i, i < 32 → bt 65535 i = decide (i < 16)) i h
  · rw [b_big h, decide_eq_false (by omega)]
theorem b_m1 : ∀ i, i < 32 → bt (-1) i = true := by decide +kernel
theorem b_0 (i : Nat) : bt 0 i = false := BitVec.getLsbD_zero
theorem s_l : ∀ n, n < 32 → ((nI n &&& 31).toBitVec.smod 32).toNat = n := by decide +kernel
theorem s_u : ∀ n, n < 32 → (((nI n).toUInt32 &&& Int32.toUInt32 31).toBitVec % 32).toNat = n := by decide +kernel
theorem b_shl (n : Nat) (hn : n < 32) (x : Int32) {i : Nat} (hi : i < 32) : bt (x <<< (nI n &&& 31)) i = (decide (n ≤ i) && bt x (i - n)) := by
  unfold bt
  rw [Int32.toBitVec_shiftLeft]
  show (x.toBitVec <<< ((nI n &&& 31).toBitVec.smod 32).toNat).getLsbD i = _
  rw [s_l n hn, BitVec.getLsbD_shiftLeft]
  rcases Nat.lt_or_ge i n with h | h
  · simp [h, Nat.not_le.mpr h]
  · simp [hi, h, Nat.not_lt.mpr h]
theorem b_ushr (n : Nat) (hn : n < 32) (x : Int32) (i : Nat) : bt ((x.toUInt32 >>> ((nI n).toUInt32 &&& Int32.toUInt32 31)).toInt32) i = bt x (n + i) := by
  show (x.toUInt32 >>> ((nI n).toUInt32 &&& Int32.toUInt32 31)).toBitVec.getLsbD i = x.toUInt32.toBitVec.getLsbD (n + i)
  rw [UInt32.toBitVec_shiftRight]
  show (x.toUInt32.toBitVec >>> (((nI n).toUInt32 &&& Int32.toUInt32 31).toBitVec % 32).toNat).getLsbD i = _
  rw [s_u n hn, BitVec.getLsbD_ushiftRight]
theorem b_sshr (n : Nat) (hn : n < 32) (x : Int32) {i : Nat} (hi : i < 32) : bt (x >>> (nI n &&& 31)) i = if n + i < 32 then bt x (n + i) else bt x 31 := by
  unfold bt
  rw [Int32.toBitVec_shiftRight]
  show (x.toBitVec.sshiftRight ((nI n &&& 31).toBitVec.smod 32).toNat).getLsbD i = _
  rw [s_l n hn, BitVec.getLsbD_sshiftRight, BitVec.msb_eq_getLsbD_last]
  simp [hi]
theorem b_shl8 (x : Int32) {i : Nat} (hi : i < 32) : bt (x <<< ((8 : Int32) &&& 31)) i = (decide (8 ≤ i) && bt x (i - 8)) := b_shl 8 (by omega) x hi
theorem b_shl16 (x : Int32) {i : Nat} (hi : i < 32) : bt (x <<< ((16 : Int32) &&& 31)) i = (decide (16 ≤ i) && bt x (i - 16)) := b_shl 16 (by omega) x hi
theorem b_shl24 (x : Int32) {i : Nat} (hi : i < 32) : bt (x <<< ((24 : Int32) &&& 31)) i = (decide (24 ≤ i) && bt x (i - 24)) := b_shl 24 (by omega) x hi
theorem b_sshr8 (x : Int32) {i : Nat} (hi : i < 32) : bt (x >>> ((8 : Int32) &&& 31)) i = if 8 + i < 32 then bt x (8 + i) else bt x 31 := b_sshr 8 (by omega) x hi
/-! ===== nI under and, xor, >>>, one bit, 65535 ===== -/
theorem nx_and (a b : Nat) : nI a &&& nI b = nI (a &&& b) := by
  apply Int32.toBitVec_inj.1
  show BitVec.ofNat 32 a &&& BitVec.ofNat 32 b = BitVec.ofNat 32 (a &&& b)
  apply BitVec.eq_of_getLsbD_eq
  intro i hi
  simp [hi]
theorem nx_xor (a b : Nat) : nI a ^^^ nI b = nI (a ^^^ b) := by
  apply Int32.toBitVec_inj.1
  show BitVec.ofNat 32 a ^^^ BitVec.ofNat 32 b = BitVec.ofNat 32 (a ^^^ b)
  apply BitVec.eq_of_getLsbD_eq
  intro i hi
  simp [hi]
theorem nx_cnt : ∀ j : Fin 32, (UInt32.ofNat j.val &&& Int32.toUInt32 31).toNat % 32 = j.val := by decide +kernel
theorem nx_ush {k j : Nat} (hk : k < 65536) (hj : j < 32) : ((nI k).toUInt32 >>> ((nI j).toUInt32 &&& Int32.toUInt32 31)).toInt32 = nI (k >>> j) := by
  have hs : k >>> j ≤ k := by
    rw [Nat.shiftRight_eq_div_pow]
    exact Nat.div_le_self _ _
  have e2 : UInt32.ofNat k >>> (UInt32.ofNat j &&& Int32.toUInt32 31) = UInt32.ofNat (k >>> j) := by
    apply UInt32.toNat_inj.1
    have h1 : (UInt32.ofNat k).toNat = k := Nat.mod_eq_of_lt (by omega)
    have h2 : (UInt32.ofNat (k >>> j)).toNat = k >>> j := Nat.mod_eq_of_lt (by omega)
    rw [UInt32.toNat_shiftRight, nx_cnt ⟨j, hj⟩, h1, h2]
  show (UInt32.ofNat k >>> (UInt32.ofNat j &&& Int32.toUInt32 31)).toInt32 = _
  rw [e2]
  rfl
theorem nx_bit {k j : Nat} (hk : k < 65536) (hj : j < 16) : (((nI k).toUInt32 >>> ((nI j).toUInt32 &&& Int32.toUInt32 31)).toInt32 &&& 1) = 0 ↔ k.testBit j = false := by
  rw [nx_ush hk (by omega)]
  show nI (k >>> j) &&& nI 1 = 0 ↔ _
  rw [nx_and, Nat.and_one_is_mod, ← nI_0, nI_eq (by omega) (by omega), Nat.testBit_eq_decide_div_mod_eq, Nat.shiftRight_eq_div_pow, decide_eq_false_iff_not]
  generalize k / 2 ^ j = z
  omega
theorem nx_mod (k : Nat) : nI k &&& 65535 = nI (k % 65536) := by
  show nI k &&& nI 65535 = _
  rw [nx_and, show (65535 : Nat) = 2 ^ 16 - 1 from rfl, Nat.and_two_pow_sub_one_eq_mod]
theorem nx_m16 {k : Nat} (h : k < 65536) : nI k &&& 65535 = nI k := by rw [nx_mod, Nat.mod_eq_of_lt h]
theorem nx_mask (x : Int32) : ∃ k, k < 65536 ∧ x &&& 65535 = nI k := by
  have e : x = nI x.toBitVec.toNat := by
    apply Int32.toBitVec_inj.1
    show x.toBitVec = BitVec.ofNat 32 x.toBitVec.toNat
    simp
  refine ⟨x.toBitVec.toNat % 65536, Nat.mod_lt _ (by omega), ?_⟩
  rw [← nx_mod, ← e]
/-! ===== Int32 as a set of bits: test, set ===== -/
def nf_M (m : Int32) : Nat := 4294967296 - m.toBitVec.toNat
theorem nf_sh : ∀ l, l < 32 → ((1 : Int32) <<< (nI l &&& 31)).toBitVec = BitVec.twoPow 32 l := by decide +kernel
theorem nf_sl : ∀ l, l < 32 → (((nI l).toUInt32 &&& Int32.toUInt32 31).toBitVec % 32).toNat = l := by decide +kernel
theorem nf_tp : ∀ l, l < 32 → BitVec.twoPow 32 l ≠ 0#32 := by decide +kernel
theorem nf_bit (m : Int32) (l : Nat) (hl : l < 32) : ((m.toUInt32 >>> ((nI l).toUInt32 &&& Int32.toUInt32 31)).toInt32 &&& 1) = 0 ↔ (m &&& ((1 : Int32) <<< (nI l &&& 31))) = 0 := by
  have e : ((m.toUInt32 >>> ((nI l).toUInt32 &&& Int32.toUInt32 31)).toInt32).toBitVec = m.toBitVec >>> l := by
    show m.toBitVec >>> (((nI l).toUInt32 &&& Int32.toUInt32 31).toBitVec % 32) = m.toBitVec >>> l
    rw [BitVec.ushiftRight_eq', nf_sl l hl]
  rw [← Int32.toBitVec_inj, ← Int32.toBitVec_inj, Int32.toBitVec_and, Int32.toBitVec_and, nf_sh l hl, e, BitVec.and_twoPow]
  show (m.toBitVec >>> l &&& 1#32) = 0#32 ↔ _ = 0#32
  rw [BitVec.and_one_eq_setWidth_ofBool_getLsbD, BitVec.getLsbD_ushiftRight, Nat.add_zero]
  cases hb : m.toBitVec.getLsbD l
  · exact ⟨fun _ => by simp, fun _ => by decide⟩
  · exact ⟨fun z => absurd z (by decide), fun z => absurd ((if_pos rfl).symm.trans z) (nf_tp l hl)⟩
theorem nf_gr (m k : Int32) (h : m &&& k = 0) (hk : k ≠ 0) : nf_M (m ||| k) < nf_M m := by
  have hm := m.toBitVec.isLt
  have hm' := (m ||| k).toBitVec.isLt
  have h1 : m.toBitVec.toNat ≤ (m ||| k).toBitVec.toNat := by
    rw [Int32.toBitVec_or, BitVec.toNat_or]
    exact Nat.left_le_or
  have h2 : m.toBitVec.toNat ≠ (m ||| k).toBitVec.toNat := by
    intro e
    have e2 : m = m ||| k := Int32.toBitVec_inj.mp (BitVec.eq_of_toNat_eq e)
    apply hk
    apply Int32.toBitVec_inj.mp
    show k.toBitVec = 0#32
    apply BitVec.eq_of_getLsbD_eq
    intro i hi
    have a : m.toBitVec.getLsbD i = (m.toBitVec.getLsbD i || k.toBitVec.getLsbD i) := by rw [← BitVec.getLsbD_or, ← Int32.toBitVec_or, ← e2]
    have b : (m.toBitVec.getLsbD i && k.toBitVec.getLsbD i) = false := by
      rw [← BitVec.getLsbD_and, ← Int32.toBitVec_and, h]
      exact BitVec.getLsbD_zero
    rw [BitVec.getLsbD_zero]
    revert a b
    cases m.toBitVec.getLsbD i <;> cases k.toBitVec.getLsbD i <;> simp
  unfold nf_M
  omega
/-! ===== a byte read unsigned ===== -/
theorem bp_b (x : Int32) : x.toInt8.toInt32 &&& 255 = x &&& 255 := by
  apply Int32.toBitVec_inj.mp
  rw [Int32.toBitVec_and, Int32.toBitVec_and, Int8.toBitVec_toInt32, Int32.toBitVec_toInt8]
  apply BitVec.eq_of_getLsbD_eq
  intro i hi
  rw [BitVec.getLsbD_and, BitVec.getLsbD_and]
  have hm : ∀ i < 32, 8 ≤ i → (255 : Int32).toBitVec.getLsbD i = false := by decide
  rcases Nat.lt_or_ge i 8 with z | z
  · rw [BitVec.getLsbD_signExtend, BitVec.getLsbD_signExtend, if_pos z, if_pos hi]
    simp only [z, hi, decide_true, Bool.true_and]
  · rw [hm i hi z]; simp
/-! ===== the char cast and 65535 ===== -/
/-! ===== Int64 as a set of bits: test, set, clear ===== -/
theorem ts_nf {x : Bool} (h : ¬ x = false) : x = true := by cases x <;> first | rfl | exact absurd rfl h
theorem ts_nt {x : Bool} (h : ¬ x = true) : x = false := by cases x <;> first | rfl | exact absurd rfl h
theorem ts_bit {w : Int64} {s : UInt64} {j : Nat} (hj : j < 64) (hs : s.toNat = j) : ((w.toUInt64 >>> s).toInt64 &&& 1) = 0 ↔ w.toBitVec.getLsbD j = false := by
  have e : (w.toUInt64 >>> s).toInt64.toBitVec = w.toBitVec >>> j := by
    apply BitVec.eq_of_toNat_eq
    show (w.toUInt64 >>> s).toNat = _
    rw [UInt64.toNat_shiftRight, hs, Nat.mod_eq_of_lt hj, BitVec.toNat_ushiftRight]
    rfl
  rw [← Int64.toBitVec_inj, Int64.toBitVec_and, e]
  show w.toBitVec >>> j &&& 1#64 = 0#64 ↔ _
  constructor
  · intro h
    have t := congrArg (fun x => x.getLsbD 0) h
    simpa using t
  · intro h
    apply BitVec.eq_of_getLsbD_eq
    intro i hi
    cases i with
    | zero => simp [h]
    | succ i => simp
theorem ts_or {w m : Int64} {j : Nat} (hj : j < 64) (hm : m.toBitVec = BitVec.twoPow 64 j) : (w ||| m) = w ↔ w.toBitVec.getLsbD j = true := by
  rw [← Int64.toBitVec_inj, Int64.toBitVec_or, hm]
  constructor
  · intro h
    have t := congrArg (fun x => x.getLsbD j) h
    simp only [BitVec.getLsbD_or, BitVec.getLsbD_twoPow] at t
    simpa [hj] using t.symm
  · intro h
    apply BitVec.eq_of_getLsbD_eq
    intro i hi
    rw [BitVec.getLsbD_or, BitVec.getLsbD_twoPow]
    by_cases e : j = i
    · subst e; rw [h, Bool.true_or]
    · simp [e]
theorem ts_and {w m : Int64} {j : Nat} (hj : j < 64) (hm : m.toBitVec = BitVec.twoPow 64 j) : (w &&& (m ^^^ (-1))) = w ↔ w.toBitVec.getLsbD j = false := by
  have ha : (-1 : Int64).toBitVec = BitVec.allOnes 64 := by decide
  rw [← Int64.toBitVec_inj, Int64.toBitVec_and, Int64.toBitVec_xor, hm, ha]
  constructor
  · intro h
    have t := congrArg (fun x => x.getLsbD j) h
    simp only [BitVec.getLsbD_and, BitVec.getLsbD_xor, BitVec.getLsbD_twoPow, BitVec.getLsbD_allOnes] at t
    simpa [hj] using t.symm
  · intro h
    apply BitVec.eq_of_getLsbD_eq
    intro i hi
    rw [BitVec.getLsbD_and, BitVec.getLsbD_xor, BitVec.getLsbD_twoPow, BitVec.getLsbD_allOnes]
    by_cases e : j = i
    · subst e; rw [h, Bool.false_and]
    · simp [e, hi]
/-! ===== lN n to 2^64: shifts, and, or, masks, one bit ===== -/
theorem wb_tb (n : Nat) : (lN n).toBitVec = BitVec.ofNat 64 n := rfl
theorem wb_inj {a b : Int64} (h : a.toBitVec = b.toBitVec) : a = b := Int64.toBitVec_inj.mp h
theorem wb_tn {n : Nat} (h : n < 2 ^ 64) : (lN n).toBitVec.toNat = n := by rw [wb_tb, BitVec.toNat_ofNat, Nat.mod_eq_of_lt h]
theorem wb_of (x : Int64) : ∃ n, n < 2 ^ 64 ∧ x = lN n := ⟨x.toBitVec.toNat, x.toBitVec.isLt, wb_inj (by rw [wb_tb]; simp)⟩
theorem wb_of32 (x : Int32) : ∃ n, n < 2 ^ 32 ∧ x = nI n := ⟨x.toBitVec.toNat, x.toBitVec.isLt, Int32.toBitVec_inj.mp (by show _ = BitVec.ofNat 32 _; simp)⟩
theorem wb_c : ∀ k, k < 64 → ((nI k).toInt64 &&& 63) = lN k := by decide +kernel
theorem wb_cu : ∀ k, k < 64 → ((nI k).toInt64.toUInt64 &&& Int64.toUInt64 63) = UInt64.ofNat k := by decide +kernel
theorem wb_sm : ∀ k, k < 64 → (BitVec.ofNat 64 k).smod 64 = BitVec.ofNat 64 k := by decide +kernel
theorem wb_pw {a b : Nat} (h : a ≤ b) : 2 ^ b = 2 ^ a * 2 ^ (b - a) := by rw [← Nat.pow_add]; congr 1; omega
theorem wb_lt2 {a b : Nat} (h : a < b) : 2 ^ a < 2 ^ b := Nat.pow_lt_pow_right (by decide) h
theorem wb_mod (n : Nat) : lN n = lN (n % 2 ^ 64) := wb_inj (by rw [wb_tb, wb_tb]; apply BitVec.eq_of_toNat_eq; rw [BitVec.toNat_ofNat, BitVec.toNat_ofNat, Nat.mod_mod])
theorem wb_shr {n k : Nat} (hn : n < 2 ^ 64) (hk : k < 64) : ((lN n).toUInt64 >>> ((nI k).toInt64.toUInt64 &&& Int64.toUInt64 63)).toInt64 = lN (n / 2 ^ k) := by
  rw [wb_cu k hk]
  apply wb_inj
  apply BitVec.eq_of_toNat_eq
  show ((lN n).toUInt64 >>> UInt64.ofNat k).toNat = (BitVec.ofNat 64 _).toNat
  have h1 : (UInt64.ofNat k).toNat = k := by
    show (BitVec.ofNat 64 k).toNat = k
    rw [BitVec.toNat_ofNat, Nat.mod_eq_of_lt (by omega)]
  have h2 : (lN n).toUInt64.toNat = n := wb_tn hn
  rw [UInt64.toNat_shiftRight, h1, h2, Nat.mod_eq_of_lt hk, Nat.shiftRight_eq_div_pow, BitVec.toNat_ofNat, Nat.mod_eq_of_lt (Nat.lt_of_le_of_lt (Nat.div_le_self _ _) hn)]
theorem wb_shl (n : Nat) {k : Nat} (hk : k < 64) : lN n <<< ((nI k).toInt64 &&& 63) = lN (n * 2 ^ k) := by
  rw [wb_c k hk]
  apply wb_inj
  rw [Int64.toBitVec_shiftLeft, wb_tb, wb_tb, wb_tb, wb_sm k hk]
  apply BitVec.eq_of_toNat_eq
  rw [BitVec.shiftLeft_eq', BitVec.toNat_shiftLeft, BitVec.toNat_ofNat, BitVec.toNat_ofNat, BitVec.toNat_ofNat, Nat.mod_eq_of_lt (show k < 2 ^ 64 by omega), Nat.shiftLeft_eq, Nat.mul_mod, Nat.mod_mod, ← Nat.mul_mod]
theorem wb_and {a b : Nat} (ha : a < 2 ^ 64) (hb : b < 2 ^ 64) : lN a &&& lN b = lN (a &&& b) := by
  apply wb_inj
  rw [Int64.toBitVec_and, wb_tb, wb_tb, wb_tb]
  apply BitVec.eq_of_toNat_eq
  rw [BitVec.toNat_and, BitVec.toNat_ofNat, BitVec.toNat_ofNat, BitVec.toNat_ofNat, Nat.mod_eq_of_lt ha, Nat.mod_eq_of_lt hb, Nat.mod_eq_of_lt (Nat.and_lt_two_pow _ hb)]
theorem wb_or {a b : Nat} (ha : a < 2 ^ 64) (hb : b < 2 ^ 64) : lN a ||| lN b = lN (a ||| b) := by
  apply wb_inj
  rw [Int64.toBitVec_or, wb_tb, wb_tb, wb_tb]
  apply BitVec.eq_of_toNat_eq
  rw [BitVec.toNat_or, BitVec.toNat_ofNat, BitVec.toNat_ofNat, BitVec.toNat_ofNat, Nat.mod_eq_of_lt ha, Nat.mod_eq_of_lt hb, Nat.mod_eq_of_lt (Nat.or_lt_two_pow ha hb)]
theorem wb_mask {n k : Nat} (hn : n < 2 ^ 64) (hk : k < 64) : lN n &&& lN (2 ^ k - 1) = lN (n % 2 ^ k) := by
  rw [wb_and hn (by have := wb_lt2 hk; omega), Nat.and_two_pow_sub_one_eq_mod]
theorem wb_a1 {n : Nat} (hn : n < 2 ^ 64) : lN n &&& 1 = lN (n % 2) := wb_mask (k := 1) hn (by decide)
theorem wb_bit {n k : Nat} (hn : n < 2 ^ 64) (hk : k < 64) : ((lN n).toUInt64 >>> ((nI k).toInt64.toUInt64 &&& Int64.toUInt64 63)).toInt64 &&& 1 = lN (n / 2 ^ k % 2) := by
  rw [wb_shr hn hk, wb_a1 (Nat.lt_of_le_of_lt (Nat.div_le_self _ _) hn)]
theorem wb_xor {q k : Nat} (hk : k < 63) (h : 2 ^ k ≤ q) (h2 : q < 2 ^ (k + 1)) : lN q ^^^ lN (2 ^ k) = lN (q - 2 ^ k) := by
  obtain ⟨r, rfl⟩ : ∃ r, q = 2 ^ k + r := ⟨q - 2 ^ k, by omega⟩
  have hr : r < 2 ^ k := by rw [Nat.pow_succ] at h2; omega
  have hx : (2 ^ k + r) ^^^ 2 ^ k = r := by
    apply Nat.eq_of_testBit_eq
    intro i
    rw [Nat.testBit_xor, Nat.testBit_two_pow]
    rcases Nat.lt_trichotomy i k with h | h | h
    · rw [Nat.testBit_two_pow_add_gt h]
      simp [show ¬ k = i by omega]
    · subst h
      rw [Nat.testBit_two_pow_add_eq]
      simp
    · have a1 : 2 ^ (k + 1) ≤ 2 ^ i := Nat.pow_le_pow_right (by decide) h
      rw [Nat.testBit_lt_two_pow (show 2 ^ k + r < 2 ^ i by omega), Nat.testBit_lt_two_pow (show r < 2 ^ i by omega)]
      simp [show ¬ k = i by omega]
  have b1 := wb_lt2 (show k + 1 < 64 by omega)
  have b2 := wb_lt2 (show k < 64 by omega)
  apply wb_inj
  rw [Int64.toBitVec_xor, wb_tb, wb_tb, wb_tb]
  apply BitVec.eq_of_toNat_eq
  rw [BitVec.toNat_xor, BitVec.toNat_ofNat, BitVec.toNat_ofNat, BitVec.toNat_ofNat, Nat.mod_eq_of_lt (by omega : 2 ^ k + r < 2 ^ 64), Nat.mod_eq_of_lt b2, hx, Nat.add_sub_cancel_left, Nat.mod_eq_of_lt (by omega)]
/-! ===== lN: masks, 'or' of parts that don't overlap is a sum ===== -/
theorem u_tn {n : Nat} (h : n < 2 ^ 64) : (UInt64.ofNat n).toNat = n := Nat.mod_eq_of_lt h
theorem g_and {a b c : Nat} (ha : a < 2 ^ 64) (hb : b < 2 ^ 64) (hc : a &&& b = c) : lN a &&& lN b = lN c := by
  subst hc
  have h : UInt64.ofNat a &&& UInt64.ofNat b = UInt64.ofNat (a &&& b) := UInt64.toNat_inj.mp (by rw [UInt64.toNat_and, u_tn ha, u_tn hb, u_tn (Nat.and_lt_two_pow a hb)])
  have h2 := congrArg UInt64.toInt64 h
  exact h2
theorem g_and1 {a : Nat} (ha : a < 2 ^ 64) : lN a &&& 1 = lN (a % 2) := g_and (b := 1) ha (by decide) (Nat.and_two_pow_sub_one_eq_mod a 1)
theorem g_mask {a s p : Nat} (hp : 2 ^ s = p) (hs : s < 64) (ha : a < 2 ^ 64) : lN a &&& lN (p - 1) = lN (a % p) := by
  subst hp
  have := Nat.pow_lt_pow_right (show 1 < 2 by decide) hs
  exact g_and ha (by omega) (Nat.and_two_pow_sub_one_eq_mod a s)
theorem g_or {k p a b : Nat} (hp : 2 ^ k = p) (ha : a < p) (h : b * p + a < 2 ^ 64) : lN (b * p) ||| lN a = lN (b * p + a) := by
  subst hp
  have h1 : b * 2 ^ k ||| a = b * 2 ^ k + a := by rw [← Nat.shiftLeft_eq, Nat.shiftLeft_add_eq_or_of_lt ha]
  have h3 : UInt64.ofNat (b * 2 ^ k) ||| UInt64.ofNat a = UInt64.ofNat (b * 2 ^ k + a) := UInt64.toNat_inj.mp (by rw [UInt64.toNat_or, u_tn (by omega), u_tn (by omega), u_tn h, h1])
  have h2 := congrArg UInt64.toInt64 h3
  exact h2
theorem g_or' {k p a b : Nat} (hp : 2 ^ k = p) (ha : a < p) (h : a + b * p < 2 ^ 64) : lN a ||| lN (b * p) = lN (a + b * p) := by
  rw [Int64.or_comm, g_or hp ha (by omega), Nat.add_comm]
theorem g_ushr {a k p : Nat} {y : UInt64} (hy : y = UInt64.ofNat k) (hk : k < 64) (hp : 2 ^ k = p) (ha : a < 2 ^ 64) : ((lN a).toUInt64 >>> y).toInt64 = lN (a / p) := by
  subst hy hp
  have h : UInt64.ofNat a >>> UInt64.ofNat k = UInt64.ofNat (a / 2 ^ k) := UInt64.toNat_inj.mp (by rw [UInt64.toNat_shiftRight, u_tn ha, u_tn (by omega), u_tn (Nat.lt_of_le_of_lt (Nat.div_le_self _ _) ha), Nat.mod_eq_of_lt hk, Nat.shiftRight_eq_div_pow])
  have h2 := congrArg UInt64.toInt64 h
  exact h2
theorem g_shl {a k p : Nat} {y : Int64} (hy : y.toBitVec.smod 64 = BitVec.ofNat 64 k) (hk : k < 64) (hp : 2 ^ k = p) (ha : a < 2 ^ 64) : lN a <<< y = lN (a * p) := by
  subst hp
  apply Int64.toBitVec_inj.mp
  rw [Int64.toBitVec_shiftLeft, hy]
  apply BitVec.eq_of_toNat_eq
  have hb : (lN a).toBitVec.toNat = a := Nat.mod_eq_of_lt ha
  have hk' : (BitVec.ofNat 64 k).toNat = k := Nat.mod_eq_of_lt (by omega)
  have h : ((lN a).toBitVec <<< BitVec.ofNat 64 k).toNat = (a * 2 ^ k) % 2 ^ 64 := by simp only [BitVec.shiftLeft_eq', BitVec.toNat_shiftLeft, hb, hk', Nat.shiftLeft_eq]
  exact h
/-! ===== lN to 2^62 under >> and >>> ===== -/
theorem pf_lI {a : Nat} (h : a < 2 ^ 63) : (lN a).toInt = (a : Int) := lg_ofNat_toInt h
theorem pf_shr {a d : Nat} {D : Int64} (hD : (D.toBitVec.smod 64).toNat = d) (h : a < 2 ^ 62) : lN a >>> D = lN (a / 2 ^ d) := by
  have hd : a / 2 ^ d ≤ a := Nat.div_le_self _ _
  apply Int64.toInt_inj.mp
  have e : (lN a >>> D).toInt = (lN a).toInt >>> d := by
    rw [← hD]
    exact BitVec.toInt_sshiftRight ..
  rw [e, Int.shiftRight_eq_div_pow, pf_lI (by omega), pf_lI (by omega)]
  rfl
theorem pf_ushr {a d : Nat} {D : UInt64} (hD : D.toNat % 64 = d) (h : a < 2 ^ 62) : ((lN a).toUInt64 >>> D).toInt64 = lN (a / 2 ^ d) := by
  have hd : a / 2 ^ d ≤ a := Nat.div_le_self _ _
  have e : (lN a).toUInt64 >>> D = UInt64.ofNat (a / 2 ^ d) := UInt64.toNat_inj.mp (by
    rw [UInt64.toNat_shiftRight, hD, Nat.shiftRight_eq_div_pow, UInt64.toNat_ofNat']
    show (UInt64.ofNat a).toNat / 2 ^ d = _
    rw [UInt64.toNat_ofNat', Nat.mod_eq_of_lt (by omega), Nat.mod_eq_of_lt (by omega)])
  rw [e]
  rfl
theorem pf_andw (x : Int64) : ∃ m, m < 2 ^ 32 ∧ x &&& 4294967295 = lN m := ⟨x.toBitVec.toNat % 2 ^ 32, Nat.mod_lt _ (by decide), Int64.toBitVec_inj.mp (BitVec.eq_of_toNat_eq (by
  show (x.toBitVec &&& 4294967295#64).toNat = (BitVec.ofNat 64 (x.toBitVec.toNat % 2 ^ 32)).toNat
  rw [BitVec.toNat_and, show (4294967295#64).toNat = 2 ^ 32 - 1 from by decide, Nat.and_two_pow_sub_one_eq_mod, BitVec.toNat_ofNat]
  omega))⟩
/-! ===== Int64 as an unsigned number: uN x ===== -/
def uN (x : Int64) : Nat := x.toUInt64.toNat
theorem uN_lt (x : Int64) : uN x < 18446744073709551616 := x.toUInt64.toNat_lt
theorem uN_inj {x y : Int64} (h : uN x = uN y) : x = y := congrArg UInt64.toInt64 (UInt64.toNat_inj.mp h)
theorem uN_add (x y : Int64) : uN (x + y) = (uN x + uN y) % 18446744073709551616 := by
  show (x.toUInt64 + y.toUInt64).toNat = _
  exact UInt64.toNat_add _ _
theorem uN_mul (x y : Int64) : uN (x * y) = (uN x * uN y) % 18446744073709551616 := by
  show (x.toUInt64 * y.toUInt64).toNat = _
  exact UInt64.toNat_mul _ _
theorem uN_shl (x : Int64) : uN (x <<< ((1 : Int32).toInt64 &&& 63)) = (2 * uN x) % 18446744073709551616 := by
  have h : (((1 : Int32).toInt64 &&& 63).toBitVec.smod 64).toNat = 1 := by decide
  show (x.toBitVec <<< (((1 : Int32).toInt64 &&& 63).toBitVec.smod 64).toNat).toNat = _
  rw [h, BitVec.toNat_shiftLeft, Nat.shiftLeft_eq, Nat.mul_comm]
  rfl
theorem uN_shr (x : Int64) (s : UInt64) : uN (x.toUInt64 >>> s).toInt64 = uN x / 2 ^ (s.toNat % 64) := by
  show (x.toUInt64 >>> s).toNat = _
  rw [UInt64.toNat_shiftRight, Nat.shiftRight_eq_div_pow]
  rfl
theorem uN_s32 (x : Int64) : uN (x.toUInt64 >>> ((32 : Int32).toInt64.toUInt64 &&& Int64.toUInt64 63)).toInt64 = uN x / 4294967296 := by
  have h : ((32 : Int32).toInt64.toUInt64 &&& Int64.toUInt64 63).toNat % 64 = 32 := by decide
  rw [uN_shr, h]
theorem uN_s63 (x : Int64) : uN (x.toUInt64 >>> ((63 : Int32).toInt64.toUInt64 &&& Int64.toUInt64 63)).toInt64 = uN x / 9223372036854775808 := by
  have h : ((63 : Int32).toInt64.toUInt64 &&& Int64.toUInt64 63).toNat % 64 = 63 := by decide
  rw [uN_shr, h]
theorem uN_lo (x : Int64) : uN (x &&& 4294967295) = uN x % 4294967296 := by
  show (x.toUInt64 &&& Int64.toUInt64 4294967295).toNat = _
  rw [UInt64.toNat_and]
  exact Nat.and_two_pow_sub_one_eq_mod _ 32
theorem uN_bit (x : Int64) : (x &&& 1) = 0 ↔ uN x % 2 = 0 := by
  have h : uN (x &&& 1) = uN x % 2 := by
    show (x.toUInt64 &&& Int64.toUInt64 1).toNat = _
    rw [UInt64.toNat_and]
    exact Nat.and_two_pow_sub_one_eq_mod _ 1
  rw [← h]
  exact ⟨fun z => by rw [z]; rfl, fun z => uN_inj (z.trans rfl)⟩
theorem uN_or {x y : Int64} (hy : uN y < 2) : uN ((x <<< ((1 : Int32).toInt64 &&& 63)) ||| y) = (2 * uN x) % 18446744073709551616 + uN y := by
  have h1 : uN ((x <<< ((1 : Int32).toInt64 &&& 63)) ||| y) = uN (x <<< ((1 : Int32).toInt64 &&& 63)) ||| uN y := UInt64.toNat_or _ _
  have h2 : (2 * uN x) % 18446744073709551616 = 2 ^ 1 * (uN x % 9223372036854775808) := by omega
  rw [h1, uN_shl, h2]
  exact (Nat.two_pow_add_eq_or_of_lt (i := 1) hy _).symm
theorem nat_xor {a : Nat} (h : a < 18446744073709551616) : a ^^^ 2 ^ 63 = (a + 9223372036854775808) % 18446744073709551616 := by
  have h1 : (a ^^^ 2 ^ 63) % 2 ^ 63 = a % 2 ^ 63 := by rw [Nat.xor_mod_two_pow, Nat.mod_self, Nat.xor_zero]
  have h2 : (a ^^^ 2 ^ 63) / 2 ^ 63 = (a / 2 ^ 63) ^^^ 1 := by rw [Nat.xor_div_two_pow, Nat.div_self (Nat.two_pow_pos 63)]
  have h3 : a / 2 ^ 63 = 0 ∨ a / 2 ^ 63 = 1 := by omega
  generalize a ^^^ 2 ^ 63 = t at h1 h2
  rcases h3 with h3 | h3
  · rw [h3] at h2
    have h2 : t / 2 ^ 63 = 1 := h2
    omega
  · rw [h3] at h2
    have h2 : t / 2 ^ 63 = 0 := h2
    omega
theorem uN_xor (x : Int64) : uN (x ^^^ (-9223372036854775808)) = (uN x + 9223372036854775808) % 18446744073709551616 := by
  rw [← nat_xor (uN_lt x)]
  exact UInt64.toNat_xor _ _
theorem uN_int (x : Int64) : x.toInt = if 2 * uN x < 18446744073709551616 then (uN x : Int) else (uN x : Int) - 18446744073709551616 := BitVec.toInt_eq_toNat_cond _
theorem uN_le (x y : Int64) : (x ^^^ (-9223372036854775808)) ≤ (y ^^^ (-9223372036854775808)) ↔ uN x ≤ uN y := by
  have hx := uN_lt x
  have hy := uN_lt y
  rw [Int64.le_iff_toInt_le, uN_int, uN_int, uN_xor, uN_xor]
  omega
theorem uN_sk (x : Int64) {k : Nat} (hk : k < 64) : uN (x.toUInt64 >>> ((nI k).toInt64.toUInt64 &&& Int64.toUInt64 63)).toInt64 = uN x / 2 ^ k := by
  have h : ((nI k).toInt64.toUInt64 &&& Int64.toUInt64 63).toNat % 64 = k := by
    rw [nI_l (by omega), UInt64.toNat_and]
    have e : (lN k).toUInt64.toNat = k % 2 ^ 64 := rfl
    have e2 : (Int64.toUInt64 63).toNat = 2 ^ 6 - 1 := by decide
    rw [e, e2, Nat.and_two_pow_sub_one_eq_mod]
    omega
  rw [uN_shr, h]
/-! ===== unsigned comparison by xor with the least ===== -/
theorem lN_bv (n : Nat) : (lN n).toBitVec = BitVec.ofNat 64 n := rfl
theorem lN_nat {n : Nat} (h : n < 2 ^ 64) : (lN n).toBitVec.toNat = n := by rw [lN_bv, BitVec.toNat_ofNat]; exact Nat.mod_eq_of_lt h
theorem lN_xor (a b : Nat) : lN a ^^^ lN b = lN (a ^^^ b) := by
  apply Int64.toBitVec_inj.mp; rw [Int64.toBitVec_xor, lN_bv, lN_bv, lN_bv]; apply BitVec.eq_of_getLsbD_eq; intro i hi; simp [BitVec.getLsbD_ofNat, Nat.testBit_xor, hi]
theorem lN_ti {m : Nat} (h : m < 2 ^ 64) : (lN m).toInt = if m < 2 ^ 63 then (m : Int) else (m : Int) - 2 ^ 64 := by
  have c := BitVec.toInt_eq_toNat_cond (lN m).toBitVec
  rw [lN_nat h] at c
  show (lN m).toBitVec.toInt = _
  rw [c]
  split <;> split <;> omega
theorem xor63 {x : Nat} (h : x < 2 ^ 63) : x ^^^ 2 ^ 63 = 2 ^ 63 + x := by
  apply Nat.eq_of_testBit_eq
  intro i
  rw [Nat.testBit_xor, Nat.testBit_two_pow]
  rcases Nat.lt_trichotomy i 63 with z | z | z
  · rw [Nat.testBit_two_pow_add_gt z, decide_eq_false (by omega)]; simp
  · subst z; rw [Nat.testBit_two_pow_add_eq]; simp
  · have hp : 2 ^ 64 ≤ 2 ^ i := Nat.pow_le_pow_right (by decide) z
    rw [Nat.testBit_lt_two_pow (show x < 2 ^ i by omega), Nat.testBit_lt_two_pow (show 2 ^ 63 + x < 2 ^ i by omega), decide_eq_false (by omega)]; rfl
theorem xorS {a : Nat} (h : a < 2 ^ 64) : (lN a ^^^ (-9223372036854775808)).toInt = (a : Int) - 2 ^ 63 := by
  rw [show (-9223372036854775808 : Int64) = lN (2 ^ 63) from by decide +kernel, lN_xor]
  rcases Nat.lt_or_ge a (2 ^ 63) with z | z
  · rw [xor63 z, lN_ti (by omega), if_neg (by omega)]; omega
  · obtain ⟨x, rfl⟩ : ∃ x, a = 2 ^ 63 + x := ⟨a - 2 ^ 63, by omega⟩
    rw [← xor63 (by omega), Nat.xor_assoc, Nat.xor_self, Nat.xor_zero, lN_ti (by omega), if_pos (by omega), xor63 (by omega)]; omega
theorem ultL {a b : Nat} (ha : a < 2 ^ 64) (hb : b < 2 ^ 64) : ((lN b ^^^ (-9223372036854775808)) ≤ (lN a ^^^ (-9223372036854775808))) ↔ b ≤ a := by
  rw [Int64.le_iff_toInt_le, xorS ha, xorS hb]; omega
/-! ===== Int64 masks of n low bits ===== -/
theorem cr_bits (W U M : BitVec 64) : ((W &&& U) &&& (U &&& (M ^^^ BitVec.allOnes 64))) = 0#64 ↔ (W &&& U) &&& M = W &&& U := by
  constructor
  · intro h
    apply BitVec.eq_of_getLsbD_eq
    intro i hi
    have e := congrArg (fun x => BitVec.getLsbD x i) h
    simp only [BitVec.getLsbD_and, BitVec.getLsbD_xor, BitVec.getLsbD_allOnes, BitVec.getLsbD_zero, hi, decide_true] at e ⊢
    revert e
    cases W.getLsbD i <;> cases U.getLsbD i <;> cases M.getLsbD i <;> decide
  · intro h
    apply BitVec.eq_of_getLsbD_eq
    intro i hi
    have e := congrArg (fun x => BitVec.getLsbD x i) h
    simp only [BitVec.getLsbD_and, BitVec.getLsbD_xor, BitVec.getLsbD_allOnes, BitVec.getLsbD_zero, hi, decide_true] at e ⊢
    revert e
    cases W.getLsbD i <;> cases U.getLsbD i <;> cases M.getLsbD i <;> decide
theorem cr_mask (w U m : Int64) (n : Nat) (hm : m.toBitVec.toNat = 2 ^ n - 1) : ((w &&& U) &&& (U &&& (m ^^^ (-1)))) = 0 ↔ (w &&& U).toBitVec.toNat < 2 ^ n := by
  have e0 : (-1 : Int64).toBitVec = BitVec.allOnes 64 := by decide
  have z0 : (0 : Int64).toBitVec = 0#64 := by decide
  rw [← Int64.toBitVec_inj, z0, Int64.toBitVec_and, Int64.toBitVec_and, Int64.toBitVec_and, Int64.toBitVec_xor, e0, cr_bits]
  generalize w.toBitVec &&& U.toBitVec = T
  rw [← BitVec.toNat_inj, BitVec.toNat_and, hm, Nat.and_two_pow_sub_one_eq_mod]
  constructor
  · intro h
    have t := Nat.mod_lt T.toNat (Nat.two_pow_pos n)
    rw [h] at t
    exact t
  · exact Nat.mod_eq_of_lt
theorem cr_shr (t : Int64) (x : UInt64) (n : Nat) (hx : x.toNat % 64 = n) : (t.toUInt64 >>> x).toInt64 = 0 ↔ t.toBitVec.toNat < 2 ^ n := by
  rw [← Int64.toBitVec_inj, ← BitVec.toNat_inj]
  show (t.toUInt64 >>> x).toNat = 0 ↔ t.toUInt64.toNat < 2 ^ n
  rw [UInt64.toNat_shiftRight, hx, Nat.shiftRight_eq_div_pow]
  constructor
  · intro h
    have d : t.toUInt64.toNat / 2 ^ n < 1 := by
      rw [h]
      decide
    have e := (Nat.div_lt_iff_lt_mul (Nat.two_pow_pos n)).mp d
    rw [Nat.one_mul] at e
    exact e
  · exact Nat.div_eq_of_lt
theorem cr_amt (s : Int64) : ∃ n, n < 64 ∧ s &&& 63 = lN n ∧ (s.toUInt64 &&& Int64.toUInt64 63).toNat % 64 = n := by
  have e : (s.toUInt64 &&& Int64.toUInt64 63).toNat = s.toUInt64.toNat % 2 ^ 6 := by
    rw [UInt64.toNat_and, show (Int64.toUInt64 63).toNat = 2 ^ 6 - 1 from by decide, Nat.and_two_pow_sub_one_eq_mod]
  refine ⟨s.toUInt64.toNat % 2 ^ 6, by omega, ?_, by omega⟩
  rw [← Int64.toBitVec_inj, ← BitVec.toNat_inj]
  show (s.toUInt64 &&& Int64.toUInt64 63).toNat = (BitVec.ofNat 64 (s.toUInt64.toNat % 2 ^ 6)).toNat
  rw [e, BitVec.toNat_ofNat]
  omega
end
section
/-! plain facts on numbers and arrays, to paste: each family by itself; over the kit's rows on nI and upd -/
/-! ===== order of ints, in all its forms, and through longs ===== -/
theorem fa_lt (a b : Int32) : a < b ↔ a.toInt < b.toInt := Int32.lt_iff_toInt_lt
theorem fa_le (a b : Int32) : a ≤ b ↔ a.toInt ≤ b.toInt := Int32.le_iff_toInt_le
theorem fa_eq (a b : Int32) : a = b ↔ a.toInt = b.toInt := Int32.toInt_inj.symm
theorem fa_lt64 (a b : Int64) : a < b ↔ a.toInt < b.toInt := Int64.lt_iff_toInt_lt
theorem fa_le64 (a b : Int64) : a ≤ b ↔ a.toInt ≤ b.toInt := Int64.le_iff_toInt_le
theorem fa_eq64 (a b : Int64) : a = b ↔ a.toInt = b.toInt := Int64.toInt_inj.symm
/-- a comparison of two ints taken as longs -/
theorem fa_wide_lt (a b : Int32) : a.toInt64 < b.toInt64 ↔ a < b := by rw [fa_lt64, fa_lt, Int32.toInt_toInt64, Int32.toInt_toInt64]
theorem fa_wide_le (a b : Int32) : a.toInt64 ≤ b.toInt64 ↔ a ≤ b := by rw [fa_le64, fa_le, Int32.toInt_toInt64, Int32.toInt_toInt64]
theorem fa_wide_eq (a b : Int32) : a.toInt64 = b.toInt64 ↔ a = b := by rw [fa_eq64, fa_eq, Int32.toInt_toInt64, Int32.toInt_toInt64]
/-- one strict comparison gives all the others -/
theorem fa_of_lt {a b : Int32} (h : a < b) : a ≤ b ∧ ¬ b ≤ a ∧ ¬ b < a ∧ a ≠ b ∧ b ≠ a := by
  rw [fa_lt] at h
  refine ⟨?_, ?_, ?_, ?_, ?_⟩
  · rw [fa_le]; omega
  · rw [fa_le]; omega
  · rw [fa_lt]; omega
  · intro e; rw [fa_eq] at e; omega
  · intro e; rw [fa_eq] at e; omega
theorem fa_of_nlt {a b : Int32} (h : ¬ a < b) : b ≤ a := by
  rw [fa_lt] at h
  rw [fa_le]
  omega
theorem fa_of_nle {a b : Int32} (h : ¬ a ≤ b) : b < a := by
  rw [fa_le] at h
  rw [fa_lt]
  omega
theorem fa_le_ne {a b : Int32} (h : a ≤ b) (h2 : a ≠ b) : a < b := by
  rw [fa_le] at h
  rw [fa_lt]
  have h3 : a.toInt ≠ b.toInt := fun e => h2 ((fa_eq a b).mpr e)
  omega
theorem fa_three (a b : Int32) : a < b ∨ a = b ∨ b < a := by
  rw [fa_lt, fa_lt, fa_eq]
  omega
theorem fa_trans {a b c : Int32} (h : a < b) (h2 : b ≤ c) : a < c := by
  rw [fa_lt] at *
  rw [fa_le] at h2
  omega
/-! ===== small literals as numbers ===== -/
theorem fa_lit (n : Nat) : (OfNat.ofNat n : Int32) = nI n := rfl
theorem fa_litL (n : Nat) : (OfNat.ofNat n : Int64) = lN n := rfl
/-! ===== bits of a number: 'or', masks, one bit ===== -/
theorem fa_and (a b : Nat) : nI a &&& nI b = nI (a &&& b) := by
  apply Int32.toBitVec_inj.1
  show BitVec.ofNat 32 a &&& BitVec.ofNat 32 b = BitVec.ofNat 32 (a &&& b)
  apply BitVec.eq_of_getLsbD_eq
  intro i hi
  simp [hi]
theorem fa_or (a b : Nat) : nI a ||| nI b = nI (a ||| b) := by
  apply Int32.toBitVec_inj.1
  show BitVec.ofNat 32 a ||| BitVec.ofNat 32 b = BitVec.ofNat 32 (a ||| b)
  apply BitVec.eq_of_getLsbD_eq
  intro i hi
  simp [hi]
/-- a remainder by a power of two, as a mask -/
theorem fa_mask (n k : Nat) : nI n &&& nI (2 ^ k - 1) = nI (n % 2 ^ k) := by rw [fa_and, Nat.and_two_pow_sub_one_eq_mod]
/-- 'or' of a high part and a low one that don't meet is their sum -/
theorem fa_or_sum {a k : Nat} (b : Nat) (h : a < 2 ^ k) : nI (2 ^ k * b) ||| nI a = nI (2 ^ k * b + a) := by rw [fa_or, Nat.two_pow_add_eq_or_of_lt h]
/-- one bit, by 'and' with a power of two -/
theorem fa_bit {n j : Nat} (hj : j < 31) : nI n &&& nI (2 ^ j) = 0 ↔ n.testBit j = false := by
  have h2 : (2 : Nat) ^ j < 2 ^ 31 := Nat.pow_lt_pow_right (by decide) hj
  have hle : n &&& 2 ^ j ≤ 2 ^ j := Nat.and_le_right
  have e : n &&& 2 ^ j = 0 ↔ n.testBit j = false := by
    constructor
    · intro h
      have h1 : (n &&& 2 ^ j).testBit j = false := by rw [h]; simp
      rw [Nat.testBit_and] at h1
      first | simpa using h1 | simpa [Nat.testBit_two_pow_self] using h1 | simpa [Nat.testBit_two_pow] using h1
    · intro h
      apply Nat.eq_of_testBit_eq
      intro i
      rw [Nat.testBit_and]
      by_cases hi : j = i
      · subst hi; simp [h]
      · first | (simp [Nat.testBit_two_pow, hi]; done) | (simp [Nat.testBit_two_pow_of_ne hi]; done)
  rw [fa_and]
  constructor
  · intro h
    apply e.mp
    rcases Nat.eq_zero_or_pos (n &&& 2 ^ j) with z | z
    · exact z
    · exact absurd h (nI_ne0 z (Nat.lt_of_le_of_lt hle h2))
  · intro h
    rw [e.mpr h]; exact nI_0
/-- a remainder by a power of two of a number that isn't negative, as Java divides -/
theorem fa_rem {a k : Nat} (ha : a < 2 ^ 31) (hk : k < 31) : nI a - nI a / nI (2 ^ k) * nI (2 ^ k) = nI (a % 2 ^ k) := pk_rem ha (Nat.two_pow_pos k) (Nat.pow_lt_pow_right (by decide) hk)
/-! ===== cuts to a byte, a short ===== -/
theorem fa_byte_xor (x y : Int32) : (x ^^^ y).toInt8 = x.toInt8 ^^^ y.toInt8 := by
  apply Int8.toBitVec_inj.1
  apply BitVec.eq_of_getLsbD_eq
  intro i hi
  first | (simp [hi]; done) | (simp [hi, BitVec.getLsbD_setWidth, BitVec.getLsbD_signExtend]; done)
theorem fa_short_xor (x y : Int32) : (x ^^^ y).toInt16 = x.toInt16 ^^^ y.toInt16 := by
  apply Int16.toBitVec_inj.1
  apply BitVec.eq_of_getLsbD_eq
  intro i hi
  first | (simp [hi]; done) | (simp [hi, BitVec.getLsbD_setWidth, BitVec.getLsbD_signExtend]; done)
/-- the cut to a byte sees the low byte alone -/
theorem fa_byte_low (x : Int32) : (x &&& 255).toInt8 = x.toInt8 := by
  apply Int8.toBitVec_inj.1
  apply BitVec.eq_of_getLsbD_eq
  intro i hi
  have h2 : (255 : Int32).toBitVec.getLsbD i = true := by
    have : ∀ j : Fin 8, (255 : Int32).toBitVec.getLsbD j.val = true := by decide +kernel
    exact this ⟨i, hi⟩
  have h4 : (x &&& 255).toBitVec.getLsbD i = x.toBitVec.getLsbD i := by
    show (x.toBitVec &&& (255 : Int32).toBitVec).getLsbD i = _
    rw [BitVec.getLsbD_and, h2, Bool.and_true]
  have h3 : i < 32 := by omega
  first
    | (show (((x &&& 255).toBitVec).signExtend 8).getLsbD i = (x.toBitVec.signExtend 8).getLsbD i; rw [BitVec.getLsbD_signExtend, BitVec.getLsbD_signExtend, if_pos h3, if_pos h3, h4])
    | (show (((x &&& 255).toBitVec).setWidth 8).getLsbD i = (x.toBitVec.setWidth 8).getLsbD i; rw [BitVec.getLsbD_setWidth, BitVec.getLsbD_setWidth, h4])
    | (simp [hi, h3, h4]; done)
theorem fa_short_low (x : Int32) : (x &&& 65535).toInt16 = x.toInt16 := by
  apply Int16.toBitVec_inj.1
  apply BitVec.eq_of_getLsbD_eq
  intro i hi
  have h2 : (65535 : Int32).toBitVec.getLsbD i = true := by
    have : ∀ j : Fin 16, (65535 : Int32).toBitVec.getLsbD j.val = true := by decide +kernel
    exact this ⟨i, hi⟩
  have h4 : (x &&& 65535).toBitVec.getLsbD i = x.toBitVec.getLsbD i := by
    show (x.toBitVec &&& (65535 : Int32).toBitVec).getLsbD i = _
    rw [BitVec.getLsbD_and, h2, Bool.and_true]
  have h3 : i < 32 := by omega
  first
    | (show (((x &&& 65535).toBitVec).signExtend 16).getLsbD i = (x.toBitVec.signExtend 16).getLsbD i; rw [BitVec.getLsbD_signExtend, BitVec.getLsbD_signExtend, if_pos h3, if_pos h3, h4])
    | (show (((x &&& 65535).toBitVec).setWidth 16).getLsbD i = (x.toBitVec.setWidth 16).getLsbD i; rw [BitVec.getLsbD_setWidth, BitVec.getLsbD_setWidth, h4])
    | (simp [hi, h3, h4]; done)
/-- a small number is its own byte, its own short -/
theorem fa_byte_small {n : Nat} (h : n < 128) : (nI n).toInt8.toInt32 = nI n := by
  have : ∀ j : Fin 128, (nI j.val).toInt8.toInt32 = nI j.val := by decide +kernel
  exact this ⟨n, h⟩
/-! ===== absolute difference ===== -/
theorem fa_absdiff {a b : Nat} (ha : a < 2 ^ 31) (hb : b < 2 ^ 31) : (if nI a < nI b then nI b - nI a else nI a - nI b) = nI (if a < b then b - a else a - b) := by
  by_cases h : a < b
  · rw [if_pos (nI_lt h hb), if_pos h]
    exact pk_sub (Nat.le_of_lt h)
  · rw [if_neg (nI_nlt (Nat.le_of_not_lt h) ha), if_neg h]
    exact pk_sub (Nat.le_of_not_lt h)
/-! ===== an array behind i stores, a conditional store, a row copied ===== -/
/-- f where k < i, what stood there else -/
def fa_fill {α : Type} (f g : Nat → α) (i : Nat) : Nat → α := fun k => if k < i then f k else g k
theorem fa_fill_0 {α : Type} (f g : Nat → α) : fa_fill f g 0 = g := funext fun k => if_neg (Nat.not_lt_zero k)
theorem fa_fill_in {α : Type} {f g : Nat → α} {i k : Nat} (h : k < i) : fa_fill f g i k = f k := if_pos h
theorem fa_fill_out {α : Type} {f g : Nat → α} {i k : Nat} (h : i ≤ k) : fa_fill f g i k = g k := if_neg (Nat.not_lt.mpr h)
theorem fa_fill_succ (f g : Nat → Int32) (i : Nat) : upd (fa_fill f g i) i (f i) = fa_fill f g (i + 1) := by
  funext k
  by_cases e : k = i
  · subst e
    rw [pk_us]
    exact (if_pos (Nat.lt_succ_self k)).symm
  · rw [pk_un e]
    by_cases h : k < i
    · rw [fa_fill_in h, fa_fill_in (Nat.lt_succ_of_lt h)]
    · rw [fa_fill_out (Nat.le_of_not_lt h), fa_fill_out (by omega)]
/-- a store that changes nothing -/
theorem fa_upd_same {f : Nat → Int32} {i : Nat} {x : Int32} (h : f i = x) : upd f i x = f := by
  funext k
  by_cases e : k = i
  · subst e
    rw [pk_us, h]
  · rw [pk_un e]
/-- a store under a condition, told as one -/
theorem fa_upd_if (c : Prop) [Decidable c] (f : Nat → Int32) (i : Nat) (x : Int32) : (if c then upd f i x else f) = upd f i (if c then x else f i) := by
  by_cases h : c
  · rw [if_pos h, if_pos h]
  · rw [if_neg h, if_neg h, fa_upd_same rfl]
/-- two stores at one place, at two -/
theorem fa_upd_twice (f : Nat → Int32) (i : Nat) (x y : Int32) : upd (upd f i x) i y = upd f i y := by
  funext k
  by_cases e : k = i
  · subst e
    rw [pk_us, pk_us]
  · rw [pk_un e, pk_un e, pk_un e]
theorem fa_upd_swap (f : Nat → Int32) {i j : Nat} (h : i ≠ j) (x y : Int32) : upd (upd f i x) j y = upd (upd f j y) i x := by
  funext k
  by_cases e : k = i
  · subst e
    rw [pk_un h, pk_us, pk_us]
  · by_cases e2 : k = j
    · subst e2
      rw [pk_us, pk_un e, pk_us]
    · rw [pk_un e2, pk_un e, pk_un e, pk_un e2]
/-! ===== the first index with a property; a count ===== -/
/-- the first k < n with p k, n if there is none -/
def fa_first (p : Nat → Bool) : Nat → Nat
  | 0 => 0
  | n + 1 => if fa_first p n < n then fa_first p n else if p n then n else n + 1
theorem fa_first_le (p : Nat → Bool) : ∀ n, fa_first p n ≤ n
  | 0 => Nat.le_refl 0
  | n + 1 => by
    have ih := fa_first_le p n
    unfold fa_first
    split
    · omega
    · split
      · omega
      · omega
theorem fa_first_no (p : Nat → Bool) : ∀ n k, k < fa_first p n → p k = false
  | 0, k, h => absurd h (Nat.not_lt_zero k)
  | n + 1, k, h => by
    have ih := fa_first_no p n
    have hl := fa_first_le p n
    unfold fa_first at h
    split at h
    · exact ih k h
    · rename_i h1
      split at h
      · exact ih k (by omega)
      · rename_i h2
        by_cases e : k = n
        · subst e
          exact Bool.eq_false_iff.mpr h2
        · exact ih k (by omega)
theorem fa_first_yes (p : Nat → Bool) : ∀ n, fa_first p n < n → p (fa_first p n) = true
  | 0, h => absurd h (Nat.not_lt_zero _)
  | n + 1, h => by
    have ih := fa_first_yes p n
    have hl := fa_first_le p n
    unfold fa_first at h ⊢
    split at h
    · rename_i h1
      rw [if_pos h1]
      exact ih h1
    · rename_i h1
      rw [if_neg h1]
      split at h
      · rename_i h2
        rw [if_pos h2]
        exact h2
      · omega
/-- how many k < n have p k -/
def fa_cnt (p : Nat → Bool) : Nat → Nat
  | 0 => 0
  | n + 1 => fa_cnt p n + if p n then 1 else 0
theorem fa_cnt_le (p : Nat → Bool) : ∀ n, fa_cnt p n ≤ n
  | 0 => Nat.le_refl 0
  | n + 1 => by
    have ih := fa_cnt_le p n
    unfold fa_cnt
    split
    · omega
    · omega
theorem fa_cnt_yes {p : Nat → Bool} {n : Nat} (h : p n = true) : fa_cnt p (n + 1) = fa_cnt p n + 1 := by rw [fa_cnt, if_pos h]
theorem fa_cnt_no {p : Nat → Bool} {n : Nat} (h : p n = false) : fa_cnt p (n + 1) = fa_cnt p n := by rw [fa_cnt, if_neg (by rw [h]; decide)]; rfl
theorem fa_cnt_cong {p q : Nat → Bool} : ∀ {n : Nat}, (∀ k, k < n → p k = q k) → fa_cnt p n = fa_cnt q n
  | 0, _ => rfl
  | n + 1, h => by rw [fa_cnt, fa_cnt, fa_cnt_cong (fun k hk => h k (Nat.lt_succ_of_lt hk)), h n (Nat.lt_succ_self n)]
/-! ===== an answer carried into a post; a branch on a boolean answer ===== -/
theorem fa_post {α : Type} {P : α → Prop} {x y : α} (h : x = y) (hp : P y) : P x := h ▸ hp
theorem fa_post2 {α β : Type} {P : α → β → Prop} {x y : α} {u v : β} (h : x = y) (h2 : u = v) (hp : P y v) : P x u := h ▸ h2 ▸ hp
theorem fa_bool {r : Int32} {b : Bool} (h : r = if b then 1 else 0) : (r = 0 ↔ b = false) ∧ (¬ r = 0 ↔ b = true) := by
  subst h
  cases b
  · exact ⟨⟨fun _ => rfl, fun _ => rfl⟩, ⟨fun h => absurd rfl h, fun h => absurd h (by decide)⟩⟩
  · exact ⟨⟨fun h => absurd h (by decide), fun h => absurd h (by decide)⟩, ⟨fun _ => rfl, fun _ => by decide⟩⟩
/-- a boolean's narrowing changes nothing -/
theorem fa_bool_and {r : Int32} (h : r = 0 ∨ r = 1) : r &&& 1 = r := by
  rcases h with rfl | rfl
  · decide
  · decide
theorem fa_bool_prop {c : Prop} [Decidable c] {r : Int32} (h : r = if c then 1 else 0) : (r = 0 ↔ ¬ c) ∧ (¬ r = 0 ↔ c) := by
  subst h
  by_cases hc : c
  · rw [if_pos hc]
    exact ⟨⟨fun h => absurd h (by decide), fun h => absurd hc h⟩, ⟨fun _ => hc, fun _ => by decide⟩⟩
  · rw [if_neg hc]
    exact ⟨⟨fun _ => hc, fun _ => rfl⟩, ⟨fun h => absurd rfl h, fun h => absurd h hc⟩⟩
end
section
/-! plain facts to paste, each family by itself; over the kit's nI, lN and upd -/
/-! ===== drawers: more things than places ===== -/
theorem fb_holes : ∀ (m n : Nat) (f : Nat → Nat), (∀ i, i < n → f i < m) → (∀ i j, i < j → j < n → f i ≠ f j) → n ≤ m := by
  intro m
  induction m with
  | zero =>
    intro n f h1 _
    rcases Nat.eq_zero_or_pos n with h | h
    · omega
    · exact absurd (h1 0 h) (Nat.not_lt_zero _)
  | succ m ih =>
    intro n f h1 h2
    by_cases hx : ∃ i, i < n ∧ f i = m
    · obtain ⟨a, ha, hfa⟩ := hx
      have hg := ih (n - 1) (fun i => if i < a then f i else f (i + 1)) (by
        intro i hi
        by_cases q : i < a
        · simp only [if_pos q]
          have b1 := h1 i (by omega)
          have b2 := h2 i a q ha
          omega
        · simp only [if_neg q]
          have b1 := h1 (i + 1) (by omega)
          have b2 := h2 a (i + 1) (by omega) (by omega)
          omega) (by
        intro i j hij hj
        by_cases q : i < a
        · by_cases r : j < a
          · simp only [if_pos q, if_pos r]
            exact h2 i j hij (by omega)
          · simp only [if_pos q, if_neg r]
            exact h2 i (j + 1) (by omega) (by omega)
        · have r : ¬ j < a := by omega
          simp only [if_neg q, if_neg r]
          exact h2 (i + 1) (j + 1) (by omega) (by omega))
      omega
    · have hg := ih n f (fun i hi => by
        have b1 := h1 i hi
        have b2 : f i ≠ m := fun e => hx ⟨i, hi, e⟩
        omega) h2
      omega
/-- two of them in one place -/
theorem fb_twice {m n : Nat} {f : Nat → Nat} (h : ∀ i, i < n → f i < m) (hm : m < n) : ∃ i j, i < j ∧ j < n ∧ f i = f j := by
  refine Classical.byContradiction fun hx => ?_
  have := fb_holes m n f h (fun i j hij hj e => hx ⟨i, j, hij, hj, e⟩)
  omega
/-- as many as places, none twice: each place is taken -/
theorem fb_onto {n : Nat} {f : Nat → Nat} (h : ∀ i, i < n → f i < n) (h2 : ∀ i j, i < j → j < n → f i ≠ f j) {y : Nat} (hy : y < n) : ∃ i, i < n ∧ f i = y := by
  refine Classical.byContradiction fun hx => ?_
  have hne : ∀ i, i < n → f i ≠ y := fun i hi e => hx ⟨i, hi, e⟩
  have := fb_holes (n - 1) n (fun i => if f i < y then f i else f i - 1) (by
    intro i hi
    have b1 := h i hi
    have b2 := hne i hi
    by_cases q : f i < y
    · simp only [if_pos q]; omega
    · simp only [if_neg q]; omega) (by
    intro i j hij hj
    have b1 := hne i (by omega)
    have b2 := hne j hj
    have b3 := h2 i j hij hj
    by_cases q : f i < y
    · by_cases r : f j < y
      · simp only [if_pos q, if_pos r]; exact b3
      · simp only [if_pos q, if_neg r]; omega
    · by_cases r : f j < y
      · simp only [if_neg q, if_pos r]; omega
      · simp only [if_neg q, if_neg r]; omega)
  omega
/-! ===== how many places have a property ===== -/
def fb_ct (p : Nat → Bool) : Nat → Nat
  | 0 => 0
  | n + 1 => fb_ct p n + (if p n then 1 else 0)
theorem fb_ct_succ (p : Nat → Bool) (n : Nat) : fb_ct p (n + 1) = fb_ct p n + (if p n then 1 else 0) := rfl
theorem fb_ct_le (p : Nat → Bool) : ∀ n, fb_ct p n ≤ n
  | 0 => Nat.le_refl _
  | n + 1 => by
    have h := fb_ct_le p n
    rw [fb_ct_succ]
    split <;> omega
theorem fb_ct_step (p : Nat → Bool) (m : Nat) : ∀ n, fb_ct p m ≤ fb_ct p (m + n)
  | 0 => Nat.le_refl _
  | n + 1 => by
    have h := fb_ct_step p m n
    show fb_ct p m ≤ fb_ct p (m + n + 1)
    rw [fb_ct_succ]
    omega
theorem fb_ct_mono (p : Nat → Bool) {m n : Nat} (h : m ≤ n) : fb_ct p m ≤ fb_ct p n := by
  have := fb_ct_step p m (n - m)
  rwa [Nat.add_sub_cancel' h] at this
theorem fb_ct_cong {p q : Nat → Bool} : ∀ {n : Nat}, (∀ k, k < n → p k = q k) → fb_ct p n = fb_ct q n
  | 0, _ => rfl
  | n + 1, h => by
    rw [fb_ct_succ, fb_ct_succ, fb_ct_cong (fun k hk => h k (by omega)), h n (by omega)]
/-- one place changed -/
theorem fb_ct_out (p : Nat → Bool) (b : Bool) {i n : Nat} (h : n ≤ i) : fb_ct (fun k => if k = i then b else p k) n = fb_ct p n :=
  fb_ct_cong fun k hk => if_neg (by omega)
theorem fb_ct_upd (p : Nat → Bool) (b : Bool) {i : Nat} : ∀ {n : Nat}, i < n → fb_ct (fun k => if k = i then b else p k) n + (if p i then 1 else 0) = fb_ct p n + (if b then 1 else 0)
  | 0, h => absurd h (Nat.not_lt_zero i)
  | n + 1, h => by
    rw [fb_ct_succ, fb_ct_succ]
    rcases Nat.lt_or_ge i n with q | q
    · have := fb_ct_upd p b q
      have e : (if n = i then b else p n) = p n := if_neg (by omega)
      rw [e]
      omega
    · have e : i = n := by omega
      subst e
      rw [fb_ct_out p b (Nat.le_refl _)]
      simp only [if_true]
      omega
theorem fb_ct_sub {p q : Nat → Bool} : ∀ {n : Nat}, (∀ k, k < n → p k = true → q k = true) → fb_ct p n ≤ fb_ct q n
  | 0, _ => Nat.le_refl _
  | n + 1, h => by
    have h1 := fb_ct_sub (n := n) (p := p) (q := q) (fun k hk => h k (by omega))
    have h2 := h n (by omega)
    rw [fb_ct_succ, fb_ct_succ]
    cases hp : p n <;> cases hq : q n <;> simp_all <;> omega
theorem fb_ct_or {p q : Nat → Bool} : ∀ {n : Nat}, (∀ k, k < n → ¬ (p k = true ∧ q k = true)) → fb_ct (fun k => p k || q k) n = fb_ct p n + fb_ct q n
  | 0, _ => rfl
  | n + 1, h => by
    have h1 := fb_ct_or (n := n) (p := p) (q := q) (fun k hk => h k (by omega))
    have h2 := h n (by omega)
    rw [fb_ct_succ, fb_ct_succ, fb_ct_succ, h1]
    cases hp : p n <;> cases hq : q n <;> simp_all <;> omega
theorem fb_ct_not (p : Nat → Bool) : ∀ n, fb_ct p n + fb_ct (fun k => !p k) n = n
  | 0 => rfl
  | n + 1 => by
    have h := fb_ct_not p n
    rw [fb_ct_succ, fb_ct_succ]
    cases p n <;> simp <;> omega
theorem fb_ct_split (p : Nat → Bool) (m : Nat) : ∀ n, fb_ct p (m + n) = fb_ct p m + fb_ct (fun k => p (m + k)) n
  | 0 => rfl
  | n + 1 => by
    have h := fb_ct_split p m n
    show fb_ct p (m + n + 1) = _
    rw [fb_ct_succ, fb_ct_succ, h, Nat.add_assoc]
theorem fb_ct_zero {p : Nat → Bool} : ∀ {n : Nat}, fb_ct p n = 0 ↔ ∀ k, k < n → p k = false
  | 0 => ⟨fun _ k hk => absurd hk (Nat.not_lt_zero k), fun _ => rfl⟩
  | n + 1 => by
    have h := fb_ct_zero (p := p) (n := n)
    rw [fb_ct_succ]
    constructor
    · intro e k hk
      have e1 : fb_ct p n = 0 := by omega
      rcases Nat.lt_or_ge k n with q | q
      · exact h.mp e1 k q
      · have ek : k = n := by omega
        subst ek
        cases hp : p k
        · rfl
        · simp [hp] at e
    · intro a
      rw [h.mpr (fun k hk => a k (by omega)), a n (by omega)]
      rfl
theorem fb_ct_pos {p : Nat → Bool} {n : Nat} : 0 < fb_ct p n ↔ ∃ k, k < n ∧ p k = true := by
  constructor
  · intro h
    refine Classical.byContradiction fun hx => ?_
    have := fb_ct_zero.mpr (fun k hk => by
      cases hp : p k
      · rfl
      · exact absurd ⟨k, hk, hp⟩ hx : ∀ k, k < n → p k = false)
    omega
  · rintro ⟨k, hk, hp⟩
    rcases Nat.eq_zero_or_pos (fb_ct p n) with e | e
    · have := fb_ct_zero.mp e k hk
      rw [this] at hp
      cases hp
    · exact e
theorem fb_ct_all {p : Nat → Bool} {n : Nat} : fb_ct p n = n ↔ ∀ k, k < n → p k = true := by
  have h := fb_ct_not p n
  constructor
  · intro e k hk
    have z : fb_ct (fun k => !p k) n = 0 := by omega
    have := fb_ct_zero.mp z k hk
    cases hp : p k
    · simp [hp] at this
    · rfl
  · intro a
    have z : fb_ct (fun k => !p k) n = 0 := fb_ct_zero.mpr (fun k hk => by simp [a k hk])
    omega
/-- the k-th place with the property -/
theorem fb_ct_kth {p : Nat → Bool} {k : Nat} : ∀ {n : Nat}, k < fb_ct p n → ∃ i, i < n ∧ p i = true ∧ fb_ct p i = k
  | 0, h => absurd h (Nat.not_lt_zero k)
  | n + 1, h => by
    rcases Nat.lt_or_ge k (fb_ct p n) with q | q
    · obtain ⟨i, h1, h2⟩ := fb_ct_kth q
      exact ⟨i, by omega, h2⟩
    · rw [fb_ct_succ] at h
      cases hp : p n
      · simp [hp] at h; omega
      · simp [hp] at h
        exact ⟨n, by omega, hp, by omega⟩
theorem fb_ct_kth_one {p : Nat → Bool} {i j : Nat} (hi : p i = true) (hj : p j = true) (e : fb_ct p i = fb_ct p j) : i = j := by
  have key : ∀ a b : Nat, a < b → p a = true → fb_ct p a < fb_ct p b := by
    intro a b hab ha
    have h := fb_ct_mono p (show a + 1 ≤ b from hab)
    rw [fb_ct_succ, ha] at h
    simp at h
    omega
  rcases Nat.lt_trichotomy i j with q | q | q
  · have := key i j q hi; omega
  · exact q
  · have := key j i q hj; omega
/-! ===== sums over a range: one place changed, parts, bounds ===== -/
def fb_sm (f : Nat → Nat) : Nat → Nat
  | 0 => 0
  | n + 1 => fb_sm f n + f n
theorem fb_sm_succ (f : Nat → Nat) (n : Nat) : fb_sm f (n + 1) = fb_sm f n + f n := rfl
theorem fb_sm_cong {f g : Nat → Nat} : ∀ {n : Nat}, (∀ k, k < n → f k = g k) → fb_sm f n = fb_sm g n
  | 0, _ => rfl
  | n + 1, h => by rw [fb_sm_succ, fb_sm_succ, fb_sm_cong (fun k hk => h k (by omega)), h n (by omega)]
theorem fb_sm_out (f : Nat → Nat) (v : Nat) {i n : Nat} (h : n ≤ i) : fb_sm (fun k => if k = i then v else f k) n = fb_sm f n :=
  fb_sm_cong fun k hk => if_neg (by omega)
theorem fb_sm_upd (f : Nat → Nat) (v : Nat) {i : Nat} : ∀ {n : Nat}, i < n → fb_sm (fun k => if k = i then v else f k) n + f i = fb_sm f n + v
  | 0, h => absurd h (Nat.not_lt_zero i)
  | n + 1, h => by
    rw [fb_sm_succ, fb_sm_succ]
    rcases Nat.lt_or_ge i n with q | q
    · have := fb_sm_upd f v q
      have e : (if n = i then v else f n) = f n := if_neg (by omega)
      rw [e]
      omega
    · have e : i = n := by omega
      subst e
      rw [fb_sm_out f v (Nat.le_refl _)]
      simp only [if_true]
      omega
theorem fb_sm_add (f g : Nat → Nat) : ∀ n, fb_sm (fun k => f k + g k) n = fb_sm f n + fb_sm g n
  | 0 => rfl
  | n + 1 => by
    have h := fb_sm_add f g n
    rw [fb_sm_succ, fb_sm_succ, fb_sm_succ, h]
    omega
theorem fb_sm_le {f g : Nat → Nat} : ∀ {n : Nat}, (∀ k, k < n → f k ≤ g k) → fb_sm f n ≤ fb_sm g n
  | 0, _ => Nat.le_refl _
  | n + 1, h => by
    have h1 := fb_sm_le (n := n) (f := f) (g := g) (fun k hk => h k (by omega))
    have h2 := h n (by omega)
    rw [fb_sm_succ, fb_sm_succ]
    omega
theorem fb_sm_const (c : Nat) : ∀ n, fb_sm (fun _ => c) n = n * c
  | 0 => by rw [Nat.zero_mul]; rfl
  | n + 1 => by rw [fb_sm_succ, fb_sm_const c n, Nat.succ_mul]
theorem fb_sm_bound {f : Nat → Nat} {c n : Nat} (h : ∀ k, k < n → f k ≤ c) : fb_sm f n ≤ n * c := by
  rw [← fb_sm_const c n]
  exact fb_sm_le h
theorem fb_sm_mono (f : Nat → Nat) (m : Nat) : ∀ n, fb_sm f m ≤ fb_sm f (m + n)
  | 0 => Nat.le_refl _
  | n + 1 => by
    have h := fb_sm_mono f m n
    show fb_sm f m ≤ fb_sm f (m + n + 1)
    rw [fb_sm_succ]
    omega
theorem fb_sm_part (f : Nat → Nat) {i n : Nat} (h : i < n) : fb_sm f i + f i ≤ fb_sm f n := by
  have := fb_sm_mono f (i + 1) (n - (i + 1))
  rw [fb_sm_succ, show i + 1 + (n - (i + 1)) = n by omega] at this
  exact this
theorem fb_sm_split (f : Nat → Nat) (m : Nat) : ∀ n, fb_sm f (m + n) = fb_sm f m + fb_sm (fun k => f (m + k)) n
  | 0 => rfl
  | n + 1 => by
    have h := fb_sm_split f m n
    show fb_sm f (m + n + 1) = _
    rw [fb_sm_succ, fb_sm_succ, h, Nat.add_assoc]
theorem fb_sm_zero {f : Nat → Nat} {n : Nat} (h : fb_sm f n = 0) : ∀ k, k < n → f k = 0 := fun k hk => by
  have := fb_sm_part f hk
  omega
/-- the same over whole numbers -/
def fb_si (f : Nat → Int) : Nat → Int
  | 0 => 0
  | n + 1 => fb_si f n + f n
theorem fb_si_succ (f : Nat → Int) (n : Nat) : fb_si f (n + 1) = fb_si f n + f n := rfl
theorem fb_si_cong {f g : Nat → Int} : ∀ {n : Nat}, (∀ k, k < n → f k = g k) → fb_si f n = fb_si g n
  | 0, _ => rfl
  | n + 1, h => by rw [fb_si_succ, fb_si_succ, fb_si_cong (fun k hk => h k (by omega)), h n (by omega)]
theorem fb_si_out (f : Nat → Int) (v : Int) {i n : Nat} (h : n ≤ i) : fb_si (fun k => if k = i then v else f k) n = fb_si f n :=
  fb_si_cong fun k hk => if_neg (by omega)
theorem fb_si_upd (f : Nat → Int) (v : Int) {i : Nat} : ∀ {n : Nat}, i < n → fb_si (fun k => if k = i then v else f k) n = fb_si f n - f i + v
  | 0, h => absurd h (Nat.not_lt_zero i)
  | n + 1, h => by
    rw [fb_si_succ, fb_si_succ]
    rcases Nat.lt_or_ge i n with q | q
    · have := fb_si_upd f v q
      have e : (if n = i then v else f n) = f n := if_neg (by omega)
      rw [e]
      omega
    · have e : i = n := by omega
      subst e
      rw [fb_si_out f v (Nat.le_refl _)]
      simp only [if_true]
      omega
theorem fb_si_add (f g : Nat → Int) : ∀ n, fb_si (fun k => f k + g k) n = fb_si f n + fb_si g n
  | 0 => rfl
  | n + 1 => by
    have h := fb_si_add f g n
    rw [fb_si_succ, fb_si_succ, fb_si_succ, h]
    omega
theorem fb_si_sub (f g : Nat → Int) : ∀ n, fb_si (fun k => f k - g k) n = fb_si f n - fb_si g n
  | 0 => rfl
  | n + 1 => by
    have h := fb_si_sub f g n
    rw [fb_si_succ, fb_si_succ, fb_si_succ, h]
    omega
theorem fb_si_mul (c : Int) (f : Nat → Int) : ∀ n, fb_si (fun k => c * f k) n = c * fb_si f n
  | 0 => (Int.mul_zero c).symm
  | n + 1 => by
    have h := fb_si_mul c f n
    rw [fb_si_succ, fb_si_succ, h, Int.mul_add]
theorem fb_si_split (f : Nat → Int) (m : Nat) : ∀ n, fb_si f (m + n) = fb_si f m + fb_si (fun k => f (m + k)) n
  | 0 => (Int.add_zero _).symm
  | n + 1 => by
    have h := fb_si_split f m n
    show fb_si f (m + n + 1) = _
    rw [fb_si_succ, fb_si_succ, h, Int.add_assoc]
theorem fb_si_nat (f : Nat → Nat) : ∀ n, fb_si (fun k => (f k : Int)) n = (fb_sm f n : Int)
  | 0 => rfl
  | n + 1 => by
    have h := fb_si_nat f n
    rw [fb_si_succ, fb_sm_succ, h]
    omega
theorem fb_si_bound {f : Nat → Int} {c : Int} (hc : 0 ≤ c) : ∀ {n : Nat}, (∀ k, k < n → -c ≤ f k ∧ f k ≤ c) → -(n * c) ≤ fb_si f n ∧ fb_si f n ≤ n * c
  | 0, _ => by simp [fb_si]
  | n + 1, h => by
    have h1 := fb_si_bound (n := n) (f := f) hc (fun k hk => h k (by omega))
    have h2 := h n (by omega)
    have e : ((n + 1 : Nat) : Int) * c = n * c + c := by rw [Int.natCast_add, Int.add_mul]; simp
    rw [fb_si_succ, e]
    omega
/-! ===== bits of a long that isn't negative ===== -/
theorem fb_andL (a b : Nat) : lN a &&& lN b = lN (a &&& b) := by
  apply Int64.toBitVec_inj.1
  show BitVec.ofNat 64 a &&& BitVec.ofNat 64 b = BitVec.ofNat 64 (a &&& b)
  apply BitVec.eq_of_getLsbD_eq
  intro i hi
  simp [hi]
theorem fb_orL (a b : Nat) : lN a ||| lN b = lN (a ||| b) := by
  apply Int64.toBitVec_inj.1
  show BitVec.ofNat 64 a ||| BitVec.ofNat 64 b = BitVec.ofNat 64 (a ||| b)
  apply BitVec.eq_of_getLsbD_eq
  intro i hi
  simp [hi]
theorem fb_xorL (a b : Nat) : lN a ^^^ lN b = lN (a ^^^ b) := by
  apply Int64.toBitVec_inj.1
  show BitVec.ofNat 64 a ^^^ BitVec.ofNat 64 b = BitVec.ofNat 64 (a ^^^ b)
  apply BitVec.eq_of_getLsbD_eq
  intro i hi
  simp [hi]
theorem fb_xorI (a b : Nat) : nI a ^^^ nI b = nI (a ^^^ b) := by
  apply Int32.toBitVec_inj.1
  show BitVec.ofNat 32 a ^^^ BitVec.ofNat 32 b = BitVec.ofNat 32 (a ^^^ b)
  apply BitVec.eq_of_getLsbD_eq
  intro i hi
  simp [hi]
theorem fb_maskL (n k : Nat) : lN n &&& lN (2 ^ k - 1) = lN (n % 2 ^ k) := by rw [fb_andL, Nat.and_two_pow_sub_one_eq_mod]
theorem fb_or_sumL {a k : Nat} (b : Nat) (h : a < 2 ^ k) : lN (2 ^ k * b) ||| lN a = lN (2 ^ k * b + a) := by rw [fb_orL, Nat.two_pow_add_eq_or_of_lt h]
theorem fb_lN_inj {a b : Nat} (ha : a < 2 ^ 63) (hb : b < 2 ^ 63) : lN a = lN b ↔ a = b := by
  constructor
  · intro h
    have h1 : (BitVec.ofNat 64 a).toNat = (BitVec.ofNat 64 b).toNat := congrArg (fun x : Int64 => x.toBitVec.toNat) h
    rw [BitVec.toNat_ofNat, BitVec.toNat_ofNat, Nat.mod_eq_of_lt (by omega), Nat.mod_eq_of_lt (by omega)] at h1
    exact h1
  · rintro rfl; rfl
theorem fb_bit_nat (n j : Nat) : n &&& 2 ^ j = 0 ↔ n.testBit j = false := by
  constructor
  · intro h
    have h1 : (n &&& 2 ^ j).testBit j = false := by rw [h]; simp
    rw [Nat.testBit_and] at h1
    simpa using h1
  · intro h
    apply Nat.eq_of_testBit_eq
    intro i
    rw [Nat.testBit_and]
    by_cases hi : j = i
    · subst hi; simp [h]
    · first | (simp [Nat.testBit_two_pow, hi]; done) | (simp [Nat.testBit_two_pow_of_ne hi]; done)
/-- one bit of a long -/
theorem fb_bitL {n j : Nat} (hj : j < 63) : lN n &&& lN (2 ^ j) = 0 ↔ n.testBit j = false := by
  have h2 : (2 : Nat) ^ j < 2 ^ 63 := Nat.pow_lt_pow_right (by decide) hj
  have hle : n &&& 2 ^ j ≤ 2 ^ j := Nat.and_le_right
  rw [fb_andL, ← fb_bit_nat, show (0 : Int64) = lN 0 from rfl]
  exact fb_lN_inj (by omega) (by decide)
/-- a bit set, a bit taken off -/
theorem fb_bit_set (n j i : Nat) : (n ||| 2 ^ j).testBit i = (n.testBit i || decide (i = j)) := by
  rw [Nat.testBit_or]
  by_cases h : j = i
  · subst h; simp
  · have h2 : ¬ i = j := fun e => h e.symm
    first | (simp [Nat.testBit_two_pow, h, h2]; done) | (simp [Nat.testBit_two_pow_of_ne h, h2]; done)
theorem fb_bit_flip (n j i : Nat) : (n ^^^ 2 ^ j).testBit i = (n.testBit i ^^ decide (i = j)) := by
  rw [Nat.testBit_xor]
  by_cases h : j = i
  · subst h; simp
  · have h2 : ¬ i = j := fun e => h e.symm
    first | (simp [Nat.testBit_two_pow, h, h2]; done) | (simp [Nat.testBit_two_pow_of_ne h, h2]; done)
/-! ===== a stretch of an array written over by a function ===== -/
def fb_put {α : Type} (f g : Nat → α) (a n : Nat) : Nat → α := fun k => if a ≤ k ∧ k < a + n then g (k - a) else f k
theorem fb_put_0 {α : Type} (f g : Nat → α) (a : Nat) : fb_put f g a 0 = f := funext fun k => if_neg (by omega)
theorem fb_put_in {α : Type} {f g : Nat → α} {a n k : Nat} (h1 : a ≤ k) (h2 : k < a + n) : fb_put f g a n k = g (k - a) := if_pos ⟨h1, h2⟩
theorem fb_put_out {α : Type} {f g : Nat → α} {a n k : Nat} (h : k < a ∨ a + n ≤ k) : fb_put f g a n k = f k := if_neg (by omega)
theorem fb_put_succ (f g : Nat → Int32) (a n : Nat) : upd (fb_put f g a n) (a + n) (g n) = fb_put f g a (n + 1) := by
  funext k
  by_cases h : k = a + n
  · subst h
    simp [upd, fb_put]
  · by_cases h1 : a ≤ k ∧ k < a + n
    · have h2 : a ≤ k ∧ k < a + (n + 1) := by omega
      simp only [upd, fb_put, if_neg h, if_pos h1, if_pos h2]
    · have h2 : ¬ (a ≤ k ∧ k < a + (n + 1)) := by omega
      simp only [upd, fb_put, if_neg h, if_neg h1, if_neg h2]
/-- .. from the far end down -/
theorem fb_put_down (f g : Nat → Int32) {a n m : Nat} (h : m < n) : upd (fb_put f (fun k => g (k + (m + 1))) (a + (m + 1)) (n - (m + 1))) (a + m) (g m) = fb_put f (fun k => g (k + m)) (a + m) (n - m) := by
  funext k
  by_cases h0 : k = a + m
  · subst h0
    simp only [upd, if_true]
    rw [fb_put_in (by omega) (by omega)]
    exact congrArg g (by omega)
  · simp only [upd, if_neg h0]
    by_cases h1 : a + (m + 1) ≤ k ∧ k < a + (m + 1) + (n - (m + 1))
    · rw [fb_put_in h1.1 h1.2, fb_put_in (by omega) (by omega)]
      exact congrArg g (by omega)
    · rw [fb_put_out (by omega), fb_put_out (by omega)]
theorem fb_put_cong {α : Type} {f f2 g g2 : Nat → α} {a n : Nat} (hf : ∀ k, (k < a ∨ a + n ≤ k) → f k = f2 k) (hg : ∀ k, k < n → g k = g2 k) : fb_put f g a n = fb_put f2 g2 a n := by
  funext k
  by_cases h : a ≤ k ∧ k < a + n
  · rw [fb_put_in h.1 h.2, fb_put_in h.1 h.2, hg _ (by omega)]
  · rw [fb_put_out (by omega), fb_put_out (by omega), hf _ (by omega)]
/-! ===== the least, the first, the best so far; that there is one alone ===== -/
theorem fb_first {p : Nat → Prop} [DecidablePred p] : ∀ {n : Nat}, (∃ i, i < n ∧ p i) → ∃ i, i < n ∧ p i ∧ ∀ j, j < i → ¬ p j
  | 0, h => by obtain ⟨i, hi, -⟩ := h; exact absurd hi (Nat.not_lt_zero i)
  | n + 1, h => by
    by_cases q : ∃ i, i < n ∧ p i
    · obtain ⟨i, h1, h2⟩ := fb_first q
      exact ⟨i, by omega, h2⟩
    · obtain ⟨i, h1, h2⟩ := h
      have e : i = n := by
        rcases Nat.lt_or_ge i n with r | r
        · exact absurd ⟨i, r, h2⟩ q
        · omega
      subst e
      exact ⟨i, by omega, h2, fun j hj hp => q ⟨j, hj, hp⟩⟩
theorem fb_first_one {p : Nat → Prop} {i j : Nat} (hi : p i) (hi2 : ∀ k, k < i → ¬ p k) (hj : p j) (hj2 : ∀ k, k < j → ¬ p k) : i = j := by
  rcases Nat.lt_trichotomy i j with q | q | q
  · exact absurd hi (hj2 i q)
  · exact q
  · exact absurd hj (hi2 j q)
theorem fb_last {p : Nat → Prop} [DecidablePred p] : ∀ {n : Nat}, (∃ i, i < n ∧ p i) → ∃ i, i < n ∧ p i ∧ ∀ j, i < j → j < n → ¬ p j
  | 0, h => by obtain ⟨i, hi, -⟩ := h; exact absurd hi (Nat.not_lt_zero i)
  | n + 1, h => by
    by_cases q : p n
    · exact ⟨n, by omega, q, fun j h1 h2 => by omega⟩
    · obtain ⟨i, h1, h2⟩ := h
      have hi : i < n := by
        rcases Nat.lt_or_ge i n with r | r
        · exact r
        · have e : i = n := by omega
          subst e
          exact absurd h2 q
      obtain ⟨i2, a1, a2, a3⟩ := fb_last (n := n) ⟨i, hi, h2⟩
      refine ⟨i2, by omega, a2, fun j b1 b2 => ?_⟩
      rcases Nat.lt_or_ge j n with r | r
      · exact a3 j b1 r
      · have e : j = n := by omega
        subst e
        exact q
/-- the first greatest -/
theorem fb_best (f : Nat → Int) : ∀ {n : Nat}, 0 < n → ∃ i, i < n ∧ (∀ j, j < n → f j ≤ f i) ∧ ∀ j, j < i → f j < f i
  | 0, h => absurd h (Nat.lt_irrefl 0)
  | 1, _ => ⟨0, by omega, fun j hj => by have e : j = 0 := by omega
                                         subst e; exact Int.le_refl _, fun j hj => absurd hj (Nat.not_lt_zero j)⟩
  | n + 2, _ => by
    obtain ⟨i, h1, h2, h3⟩ := fb_best f (n := n + 1) (by omega)
    by_cases q : f i < f (n + 1)
    · refine ⟨n + 1, by omega, fun j hj => ?_, fun j hj => ?_⟩
      · rcases Nat.lt_or_ge j (n + 1) with r | r
        · have := h2 j r; omega
        · have e : j = n + 1 := by omega
          subst e; exact Int.le_refl _
      · have := h2 j hj; omega
    · refine ⟨i, by omega, fun j hj => ?_, h3⟩
      rcases Nat.lt_or_ge j (n + 1) with r | r
      · exact h2 j r
      · have e : j = n + 1 := by omega
        subst e; omega
theorem fb_best_one {f : Nat → Int} {n i j : Nat} (hi : i < n) (hi2 : ∀ k, k < n → f k ≤ f i) (hi3 : ∀ k, k < i → f k < f i) (hj : j < n) (hj2 : ∀ k, k < n → f k ≤ f j) (hj3 : ∀ k, k < j → f k < f j) : i = j := by
  rcases Nat.lt_trichotomy i j with q | q | q
  · have a := hj3 i q
    have b := hi2 j hj
    omega
  · exact q
  · have a := hi3 j q
    have b := hj2 i hi
    omega
/-- the first least -/
theorem fb_low (f : Nat → Int) {n : Nat} (h : 0 < n) : ∃ i, i < n ∧ (∀ j, j < n → f i ≤ f j) ∧ ∀ j, j < i → f i < f j := by
  obtain ⟨i, h1, h2, h3⟩ := fb_best (fun k => -f k) h
  exact ⟨i, h1, fun j hj => by have := h2 j hj; omega, fun j hj => by have := h3 j hj; omega⟩
/-! ===== signed ints as whole numbers, within bounds ===== -/
theorem fb_rng (x : Int32) : -2147483648 ≤ x.toInt ∧ x.toInt < 2147483648 := by
  have h1 := Int32.le_toInt x
  have h2 := Int32.toInt_lt x
  omega
theorem fb_bmod {z : Int} (h1 : -2147483648 ≤ z) (h2 : z < 2147483648) : z.bmod (2 ^ 32) = z := by
  rw [Int.bmod_eq_of_le (by omega) (by omega)]
theorem fb_addI {x y : Int32} (h1 : -2147483648 ≤ x.toInt + y.toInt) (h2 : x.toInt + y.toInt < 2147483648) : (x + y).toInt = x.toInt + y.toInt := by
  rw [Int32.toInt_add, fb_bmod h1 h2]
theorem fb_subI {x y : Int32} (h1 : -2147483648 ≤ x.toInt - y.toInt) (h2 : x.toInt - y.toInt < 2147483648) : (x - y).toInt = x.toInt - y.toInt := by
  rw [Int32.toInt_sub, fb_bmod h1 h2]
theorem fb_mulI {x y : Int32} (h1 : -2147483648 ≤ x.toInt * y.toInt) (h2 : x.toInt * y.toInt < 2147483648) : (x * y).toInt = x.toInt * y.toInt := by
  rw [Int32.toInt_mul, fb_bmod h1 h2]
theorem fb_negI {x : Int32} (h : x.toInt ≠ -2147483648) : (-x).toInt = -x.toInt := by
  have := fb_rng x
  rw [Int32.toInt_neg, fb_bmod (by omega) (by omega)]
theorem fb_ofI {z : Int} (h1 : -2147483648 ≤ z) (h2 : z < 2147483648) : (Int32.ofInt z).toInt = z := by
  rw [Int32.toInt_ofInt, fb_bmod h1 h2]
theorem fb_asI (x : Int32) : Int32.ofInt x.toInt = x := Int32.ofInt_toInt x
theorem fb_rngL (x : Int64) : -9223372036854775808 ≤ x.toInt ∧ x.toInt < 9223372036854775808 := by
  have h1 := Int64.le_toInt x
  have h2 := Int64.toInt_lt x
  omega
theorem fb_bmodL {z : Int} (h1 : -9223372036854775808 ≤ z) (h2 : z < 9223372036854775808) : z.bmod (2 ^ 64) = z := by
  rw [Int.bmod_eq_of_le (by omega) (by omega)]
theorem fb_addL {x y : Int64} (h1 : -9223372036854775808 ≤ x.toInt + y.toInt) (h2 : x.toInt + y.toInt < 9223372036854775808) : (x + y).toInt = x.toInt + y.toInt := by
  rw [Int64.toInt_add, fb_bmodL h1 h2]
theorem fb_subL {x y : Int64} (h1 : -9223372036854775808 ≤ x.toInt - y.toInt) (h2 : x.toInt - y.toInt < 9223372036854775808) : (x - y).toInt = x.toInt - y.toInt := by
  rw [Int64.toInt_sub, fb_bmodL h1 h2]
theorem fb_mulL {x y : Int64} (h1 : -9223372036854775808 ≤ x.toInt * y.toInt) (h2 : x.toInt * y.toInt < 9223372036854775808) : (x * y).toInt = x.toInt * y.toInt := by
  rw [Int64.toInt_mul, fb_bmodL h1 h2]
/-! ===== cuts of what is narrow already ===== -/
theorem fb_byte {x : Int32} (h1 : -128 ≤ x.toInt) (h2 : x.toInt < 128) : x.toInt8.toInt32 = x := by
  apply Int32.toInt_inj.1
  rw [Int8.toInt_toInt32, Int32.toInt_toInt8, Int.bmod_eq_of_le (by omega) (by omega)]
theorem fb_short {x : Int32} (h1 : -32768 ≤ x.toInt) (h2 : x.toInt < 32768) : x.toInt16.toInt32 = x := by
  apply Int32.toInt_inj.1
  rw [Int16.toInt_toInt32, Int32.toInt_toInt16, Int.bmod_eq_of_le (by omega) (by omega)]
theorem fb_byte_rng (x : Int32) : -128 ≤ x.toInt8.toInt32.toInt ∧ x.toInt8.toInt32.toInt < 128 := by
  rw [Int8.toInt_toInt32]
  have h1 := Int8.le_toInt x.toInt8
  have h2 := Int8.toInt_lt x.toInt8
  omega
theorem fb_short_rng (x : Int32) : -32768 ≤ x.toInt16.toInt32.toInt ∧ x.toInt16.toInt32.toInt < 32768 := by
  rw [Int16.toInt_toInt32]
  have h1 := Int16.le_toInt x.toInt16
  have h2 := Int16.toInt_lt x.toInt16
  omega
theorem fb_byte_twice (x : Int32) : x.toInt8.toInt32.toInt8.toInt32 = x.toInt8.toInt32 := fb_byte (fb_byte_rng x).1 (fb_byte_rng x).2
theorem fb_short_twice (x : Int32) : x.toInt16.toInt32.toInt16.toInt32 = x.toInt16.toInt32 := fb_short (fb_short_rng x).1 (fb_short_rng x).2
theorem fb_char {n : Nat} (h : n < 65536) : (nI n).toUInt32.toUInt16.toUInt32.toInt32 = nI n := by
  apply Int32.toBitVec_inj.1
  apply BitVec.eq_of_toNat_eq
  have e1 : (nI n).toBitVec.toNat = n := by
    show (BitVec.ofNat 32 n).toNat = n
    rw [BitVec.toNat_ofNat, Nat.mod_eq_of_lt (by omega)]
  have e2 : ((nI n).toUInt32.toUInt16.toUInt32).toNat = n := by
    rw [UInt16.toNat_toUInt32, UInt32.toNat_toUInt16]
    show (nI n).toBitVec.toNat % 2 ^ 16 = n
    rw [e1, Nat.mod_eq_of_lt (by omega)]
  rw [e1]
  exact e2
end
section
/-! ===== counting bits the JDK's way ===== -/
def pp_5 : Nat → Nat
  | 0 => 0
  | k + 1 => 256 * pp_5 k + 85
def pp_3 : Nat → Nat
  | 0 => 0
  | k + 1 => 256 * pp_3 k + 51
def pp_f : Nat → Nat
  | 0 => 0
  | k + 1 => 256 * pp_f k + 15
def pp_A (k n : Nat) : Nat := n - ((n / 2) &&& pp_5 k)
def pp_B (k n : Nat) : Nat := (pp_A k n &&& pp_3 k) + ((pp_A k n / 4) &&& pp_3 k)
def pp_C (k n : Nat) : Nat := (pp_B k n + pp_B k n / 16) &&& pp_f k
theorem pp_and {a b c d : Nat} (hb : b < 256) (hd : d < 256) : (256 * a + b) &&& (256 * c + d) = 256 * (a &&& c) + (b &&& d) := by
  have h1 : ((256 * a + b) &&& (256 * c + d)) % 2 ^ 8 = b &&& d := by
    rw [Nat.and_mod_two_pow]
    rw [show (256 * a + b) % 2 ^ 8 = b by omega, show (256 * c + d) % 2 ^ 8 = d by omega]
  have h2 : ((256 * a + b) &&& (256 * c + d)) / 2 ^ 8 = a &&& c := by
    rw [Nat.and_div_two_pow]
    rw [show (256 * a + b) / 2 ^ 8 = a by omega, show (256 * c + d) / 2 ^ 8 = c by omega]
  omega
theorem pp_d1 : ∀ e, e < 2 → ∀ r, r < 256 → (128 * e + r / 2) &&& 85 = (r / 2) &&& 85 := by decide +kernel
theorem pp_d2 : ∀ e, e < 4 → ∀ r, r < 256 → (64 * e + r / 4) &&& 51 = (r / 4) &&& 51 := by decide +kernel
theorem pp_d3 : ∀ r, r < 256 → (r / 2) &&& 85 ≤ r ∧ r - ((r / 2) &&& 85) < 256 := by decide +kernel
theorem pp_d4 : ∀ r, r < 256 → (((r - ((r / 2) &&& 85)) &&& 51) + (((r - ((r / 2) &&& 85)) / 4) &&& 51)) % 16 ≤ 4 ∧ (((r - ((r / 2) &&& 85)) &&& 51) + (((r - ((r / 2) &&& 85)) / 4) &&& 51)) / 16 ≤ 4 := by decide +kernel
theorem pp_d5 : ∀ t, t < 256 → t &&& 15 = t % 16 := by decide +kernel
theorem pp_A1 {m r : Nat} (k : Nat) (hr : r < 256) : pp_A (k + 1) (256 * m + r) = 256 * pp_A k m + pp_A 1 r := by
  have e : (256 * m + r) / 2 = 256 * (m / 2) + (128 * (m % 2) + r / 2) := by omega
  have h1 : (128 * (m % 2) + r / 2) &&& 85 = (r / 2) &&& 85 := pp_d1 _ (by omega) _ hr
  have h2 := pp_d3 r hr
  have h3 : (m / 2) &&& pp_5 k ≤ m / 2 := Nat.and_le_left
  show 256 * m + r - (((256 * m + r) / 2) &&& (256 * pp_5 k + 85)) = 256 * (m - ((m / 2) &&& pp_5 k)) + (r - ((r / 2) &&& 85))
  rw [e, pp_and (by omega) (by omega), h1]
  omega
theorem pp_Alt {r : Nat} (hr : r < 256) : pp_A 1 r < 256 := (pp_d3 r hr).2
theorem pp_B1 {m r : Nat} (k : Nat) (hr : r < 256) : pp_B (k + 1) (256 * m + r) = 256 * pp_B k m + pp_B 1 r := by
  have ha := pp_Alt hr
  have e : (256 * pp_A k m + pp_A 1 r) / 4 = 256 * (pp_A k m / 4) + (64 * (pp_A k m % 4) + pp_A 1 r / 4) := by omega
  have h1 : (64 * (pp_A k m % 4) + pp_A 1 r / 4) &&& 51 = (pp_A 1 r / 4) &&& 51 := pp_d2 _ (by omega) _ ha
  show (pp_A (k + 1) (256 * m + r) &&& (256 * pp_3 k + 51)) + ((pp_A (k + 1) (256 * m + r) / 4) &&& (256 * pp_3 k + 51)) = 256 * ((pp_A k m &&& pp_3 k) + ((pp_A k m / 4) &&& pp_3 k)) + ((pp_A 1 r &&& 51) + ((pp_A 1 r / 4) &&& 51))
  rw [pp_A1 k hr, e, pp_and ha (by omega), pp_and (by omega) (by omega), h1]
  omega
theorem pp_Bnib {r : Nat} (hr : r < 256) : pp_B 1 r % 16 ≤ 4 ∧ pp_B 1 r / 16 ≤ 4 := pp_d4 r hr
theorem pp_Bn : ∀ (k m : Nat), m < 256 ^ k → pp_B k m % 16 ≤ 4
  | 0, m, h => by
    have : m = 0 := by simpa using h
    subst this
    decide
  | k + 1, m, h => by
    have e : m = 256 * (m / 256) + m % 256 := by omega
    rw [e, pp_B1 k (by omega)]
    have := (pp_Bnib (r := m % 256) (by omega)).1
    omega
theorem pp_C1 {m r : Nat} (k : Nat) (hm : m < 256 ^ k) (hr : r < 256) : pp_C (k + 1) (256 * m + r) = 256 * pp_C k m + pp_C 1 r := by
  have hb := pp_Bnib hr
  have hB := pp_Bn k m hm
  have e : 256 * pp_B k m + pp_B 1 r + (256 * pp_B k m + pp_B 1 r) / 16 = 256 * (pp_B k m + pp_B k m / 16) + (16 * (pp_B k m % 16) + pp_B 1 r + pp_B 1 r / 16) := by omega
  show (pp_B (k + 1) (256 * m + r) + pp_B (k + 1) (256 * m + r) / 16) &&& (256 * pp_f k + 15) = 256 * ((pp_B k m + pp_B k m / 16) &&& pp_f k) + ((pp_B 1 r + pp_B 1 r / 16) &&& 15)
  rw [pp_B1 k hr, e, pp_and (by omega) (by omega), pp_d5 _ (by omega), pp_d5 _ (by omega)]
  omega
theorem pp_8 : ∀ r, r < 256 → pp_C 1 r = fb_ct (fun i => r.testBit i) 8 ∧ pp_C 1 r ≤ 8 := by decide +kernel
theorem pp_tb {m r : Nat} (hr : r < 256) (j : Nat) : (256 * m + r).testBit (8 + j) = m.testBit j := by
  rw [Nat.add_comm 8 j, Nat.testBit_add, show (256 * m + r) / 2 ^ 8 = m by omega]
theorem pp_tb0 {m r : Nat} {j : Nat} (hr : r < 256) (hj : j < 8) : (256 * m + r).testBit j = r.testBit j := by
  have : r = (256 * m + r) % 2 ^ 8 := by omega
  conv => rhs; rw [this]
  rw [Nat.testBit_mod_two_pow]
  simp [hj]
theorem pp_ct {m r : Nat} (k : Nat) (hr : r < 256) : fb_ct (fun i => (256 * m + r).testBit i) (8 + k) = fb_ct (fun i => r.testBit i) 8 + fb_ct (fun i => m.testBit i) k := by
  rw [fb_ct_split]
  congr 1
  · exact fb_ct_cong (fun j hj => pp_tb0 hr hj)
  · exact fb_ct_cong (fun j _ => pp_tb hr j)
/-- the bytes' counts, one behind another -/
def pp_sum : Nat → Nat → Nat
  | 0, _ => 0
  | k + 1, c => c % 256 + pp_sum k (c / 256)
theorem pp_Csum : ∀ (k n : Nat), n < 256 ^ k → pp_C k n < 256 ^ k ∧ pp_sum k (pp_C k n) = fb_ct (fun i => n.testBit i) (8 * k)
  | 0, n, h => by
    have : n = 0 := by simpa using h
    subst this
    exact ⟨by decide, rfl⟩
  | k + 1, n, h => by
    have e : n = 256 * (n / 256) + n % 256 := by omega
    have hm : n / 256 < 256 ^ k := by rw [Nat.pow_succ] at h; omega
    obtain ⟨h1, h2⟩ := pp_Csum k (n / 256) hm
    have h8 := pp_8 (n % 256) (by omega)
    rw [e, pp_C1 k hm (by omega)]
    refine ⟨by rw [Nat.pow_succ]; omega, ?_⟩
    rw [show 8 * (k + 1) = 8 + 8 * k by omega, pp_ct _ (by omega), ← h8.1, ← h2]
    show (256 * pp_C k (n / 256) + pp_C 1 (n % 256)) % 256 + pp_sum k ((256 * pp_C k (n / 256) + pp_C 1 (n % 256)) / 256) = _
    rw [show (256 * pp_C k (n / 256) + pp_C 1 (n % 256)) % 256 = pp_C 1 (n % 256) by omega, show (256 * pp_C k (n / 256) + pp_C 1 (n % 256)) / 256 = pp_C k (n / 256) by omega]
theorem pp_dig : ∀ (k n : Nat), n < 256 ^ k → ∀ j, pp_C k n / 256 ^ j % 256 ≤ 8
  | 0, n, h, j => by
    have : n = 0 := by simpa using h
    subst this
    show 0 / 256 ^ j % 256 ≤ 8
    simp
  | k + 1, n, h, j => by
    have e : n = 256 * (n / 256) + n % 256 := by omega
    have hm : n / 256 < 256 ^ k := by rw [Nat.pow_succ] at h; omega
    have h8 := pp_8 (n % 256) (by omega)
    rw [e, pp_C1 k hm (by omega)]
    cases j with
    | zero => simp; omega
    | succ j =>
      have := pp_dig k (n / 256) hm j
      rw [Nat.pow_succ, Nat.mul_comm (256 ^ j) 256, ← Nat.div_div_eq_div_mul, show (256 * pp_C k (n / 256) + pp_C 1 (n % 256)) / 256 = pp_C k (n / 256) by omega]
      exact this
theorem pp_v1 {c d X : Nat} (h : c = d + 256 * X) (hd : d < 256) : c / 256 = X := by omega
theorem pp_v2 {e s X : Nat} (h : e = s + 65536 * X) (hs : s < 65536) : e / 65536 = X := by omega
theorem pp_v4 {e s X : Nat} (h : e = s + 4294967296 * X) (hs : s < 4294967296) : e / 4294967296 = X := by omega
theorem pp_s8 {c d0 d1 d2 d3 d4 d5 d6 d7 X1 X2 X3 X4 X5 X6 : Nat} (hc : c = d0 + 256 * X1) (x1 : X1 = d1 + 256 * X2) (x2 : X2 = d2 + 256 * X3) (x3 : X3 = d3 + 256 * X4) (x4 : X4 = d4 + 256 * X5) (x5 : X5 = d5 + 256 * X6) (x6 : X6 = d6 + 256 * d7) (h0 : d0 ≤ 8) (h1 : d1 ≤ 8) (h2 : d2 ≤ 8) (h3 : d3 ≤ 8) (h4 : d4 ≤ 8) (h5 : d5 ≤ 8) (h6 : d6 ≤ 8) (h7 : d7 ≤ 8) :
    (c + c / 256 + (c + c / 256) / 65536 + (c + c / 256 + (c + c / 256) / 65536) / 4294967296) % 128 = d0 + d1 + d2 + d3 + d4 + d5 + d6 + d7 := by
  rw [pp_v1 hc (by omega)]
  have e2 : c + X1 = ((d0 + d1) + 256 * (d1 + d2)) + 65536 * (X2 + X3) := by rw [hc, x1, x2]; omega
  rw [pp_v2 e2 (by omega)]
  have e4 : c + X1 + (X2 + X3) = ((d0 + d1 + d2 + d3) + 256 * (d1 + d2 + d3 + d4) + 65536 * (d2 + d3 + d4 + d5) + 16777216 * (d3 + d4 + d5 + d6)) + 4294967296 * (X4 + X5 + X6 + d7) := by
    rw [e2]
    have e5 : X2 + X3 = (d2 + d3) + 256 * (d3 + d4) + 65536 * (X4 + X5) := by rw [x2, x3, x4]; omega
    have e6 : X4 + X5 = (d4 + d5) + 256 * (d5 + d6) + 65536 * (X6 + d7) := by rw [x4, x5, x6]; omega
    clear hc x1 x2 x3 x4 x5 x6 e2
    omega
  rw [pp_v4 e4 (by omega), e4]
  have e7 : X4 + X5 + X6 + d7 = (d4 + d5 + d6 + d7) + 256 * (X5 + X6 + d7) := by rw [x4, x5, x6]; omega
  rw [e7]
  clear hc x1 x2 x3 x4 x5 x6 e2 e4 e7
  omega
theorem pp_s4 {c d0 d1 d2 d3 X1 X2 : Nat} (hc : c = d0 + 256 * X1) (x1 : X1 = d1 + 256 * X2) (x2 : X2 = d2 + 256 * d3) (h0 : d0 ≤ 8) (h1 : d1 ≤ 8) (h2 : d2 ≤ 8) (h3 : d3 ≤ 8) :
    (c + c / 256 + (c + c / 256) / 65536) % 64 = d0 + d1 + d2 + d3 := by
  rw [pp_v1 hc (by omega)]
  have e2 : c + X1 = ((d0 + d1) + 256 * (d1 + d2)) + 65536 * (X2 + d3) := by rw [hc, x1, x2]; omega
  rw [pp_v2 e2 (by omega), e2]
  omega
theorem pp_64 (n : Nat) (h : n < 2 ^ 64) : (pp_C 8 n + pp_C 8 n / 256 + (pp_C 8 n + pp_C 8 n / 256) / 65536 + (pp_C 8 n + pp_C 8 n / 256 + (pp_C 8 n + pp_C 8 n / 256) / 65536) / 4294967296) % 128 = fb_ct (fun i => n.testBit i) 64 := by
  have h256 : n < 256 ^ 8 := by have : (256 : Nat) ^ 8 = 2 ^ 64 := by decide
                                omega
  obtain ⟨h1, h2⟩ := pp_Csum 8 n h256
  have hd := pp_dig 8 n h256
  rw [show fb_ct (fun i => n.testBit i) 64 = fb_ct (fun i => n.testBit i) (8 * 8) from rfl, ← h2]
  generalize pp_C 8 n = c at *
  have d0 := hd 0
  have d1 := hd 1
  have d2 := hd 2
  have d3 := hd 3
  have d4 := hd 4
  have d5 := hd 5
  have d6 := hd 6
  have d7 := hd 7
  simp only [Nat.reducePow, Nat.div_one] at d0 d1 d2 d3 d4 d5 d6 d7 h1
  rw [pp_s8 (d0 := c % 256) (d1 := c / 256 % 256) (d2 := c / 65536 % 256) (d3 := c / 16777216 % 256) (d4 := c / 4294967296 % 256) (d5 := c / 1099511627776 % 256) (d6 := c / 281474976710656 % 256) (d7 := c / 72057594037927936 % 256) (X1 := c / 256) (X2 := c / 65536) (X3 := c / 16777216) (X4 := c / 4294967296) (X5 := c / 1099511627776) (X6 := c / 281474976710656) (by omega) (by omega) (by omega) (by omega) (by omega) (by omega) (by omega) d0 d1 d2 d3 d4 d5 d6 d7]
  simp only [pp_sum, Nat.div_div_eq_div_mul, Nat.reduceMul]
  omega
theorem pp_32 (n : Nat) (h : n < 2 ^ 32) : (pp_C 4 n + pp_C 4 n / 256 + (pp_C 4 n + pp_C 4 n / 256) / 65536) % 64 = fb_ct (fun i => n.testBit i) 32 := by
  have h256 : n < 256 ^ 4 := by have : (256 : Nat) ^ 4 = 2 ^ 32 := by decide
                                omega
  obtain ⟨h1, h2⟩ := pp_Csum 4 n h256
  have hd := pp_dig 4 n h256
  rw [show fb_ct (fun i => n.testBit i) 32 = fb_ct (fun i => n.testBit i) (8 * 4) from rfl, ← h2]
  generalize pp_C 4 n = c at *
  have d0 := hd 0
  have d1 := hd 1
  have d2 := hd 2
  have d3 := hd 3
  simp only [Nat.reducePow, Nat.div_one] at d0 d1 d2 d3 h1
  rw [pp_s4 (d0 := c % 256) (d1 := c / 256 % 256) (d2 := c / 65536 % 256) (d3 := c / 16777216 % 256) (X1 := c / 256) (X2 := c / 65536) (by omega) (by omega) (by omega) d0 d1 d2 d3]
  simp only [pp_sum, Nat.div_div_eq_div_mul, Nat.reduceMul]
  omega
end
section
/-! ===== longs as sets ===== -/
def bl (x : Int64) (i : Nat) : Bool := x.toBitVec.getLsbD i
theorem bl_lN (n i : Nat) : bl (lN n) i = (decide (i < 64) && n.testBit i) := by
  unfold bl
  rw [wb_tb]
  simp [BitVec.getLsbD_ofNat]
theorem bl_ext {x y : Int64} (h : ∀ i, i < 64 → bl x i = bl y i) : x = y := by
  apply wb_inj
  exact BitVec.eq_of_getLsbD_eq (fun i hi => h i hi)
theorem bl_big {x : Int64} {i : Nat} (h : 64 ≤ i) : bl x i = false := BitVec.getLsbD_of_ge _ _ h
theorem bl_lt {x : Int64} {i : Nat} (h : bl x i = true) : i < 64 := Nat.lt_of_not_le fun q => by rw [bl_big q] at h; cases h
theorem bl_and (x y : Int64) (i : Nat) : bl (x &&& y) i = (bl x i && bl y i) := by
  unfold bl
  rw [Int64.toBitVec_and, BitVec.getLsbD_and]
theorem bl_or (x y : Int64) (i : Nat) : bl (x ||| y) i = (bl x i || bl y i) := by
  unfold bl
  rw [Int64.toBitVec_or, BitVec.getLsbD_or]
theorem bl_xor (x y : Int64) (i : Nat) : bl (x ^^^ y) i = (bl x i ^^ bl y i) := by
  unfold bl
  rw [Int64.toBitVec_xor, BitVec.getLsbD_xor]
theorem bl_m1 : ∀ i, i < 64 → bl (-1) i = true := by decide +kernel
theorem bl_0 (i : Nat) : bl 0 i = false := by simp [bl]
theorem bl_not (x : Int64) {i : Nat} (hi : i < 64) : bl (x ^^^ (-1)) i = !bl x i := by
  rw [bl_xor, bl_m1 i hi]
  simp
theorem bl_zero {x : Int64} : x = 0 ↔ ∀ i, bl x i = false := by
  constructor
  · intro h i; rw [h]; exact bl_0 i
  · intro h; exact bl_ext (fun i _ => by rw [h i, bl_0])
theorem bl_nz {x : Int64} (h : ¬ x = 0) : ∃ i, i < 64 ∧ bl x i = true := by
  refine Classical.byContradiction fun q => h (bl_zero.mpr fun i => ?_)
  cases hb : bl x i with
  | false => rfl
  | true => exact absurd ⟨i, bl_lt hb, hb⟩ q
theorem lsh_nI {n k : Nat} (hk : k < 64) : jv_lshl (lN n) (nI k) = lN (n * 2 ^ k) := wb_shl n hk
theorem bl_one {k i : Nat} (hk : k < 64) (hi : i < 64) : bl (jv_lshl 1 (nI k)) i = decide (i = k) := by
  rw [show (1 : Int64) = lN 1 from rfl, lsh_nI hk, bl_lN, Nat.one_mul, Nat.testBit_two_pow]
  by_cases e : i = k
  · subst e; simp [hi]
  · simp [e, Ne.symm e]
theorem bl_one' {k : Nat} (hk : k < 64) (i : Nat) : bl (jv_lshl 1 (nI k)) i = decide (i = k) := by
  by_cases hi : i < 64
  · exact bl_one hk hi
  · rw [bl_big (by omega)]
    simp; omega
/-- the lowest of a set -/
def lowb (x : Int64) (k : Nat) : Prop := bl x k = true ∧ ∀ i, i < k → bl x i = false
theorem lowb_ex {x : Int64} (h : ¬ x = 0) : ∃ k, k < 64 ∧ lowb x k := by
  obtain ⟨i, hi, hb⟩ := bl_nz h
  obtain ⟨k, hk, h1, h2⟩ := fb_first (p := fun i => bl x i = true) ⟨i, hi, hb⟩
  exact ⟨k, hk, h1, fun j hj => by cases hx : bl x j with | false => rfl | true => exact absurd hx (h2 j hj)⟩
theorem lowb_one {x : Int64} {k j : Nat} (h : lowb x k) (h2 : lowb x j) : k = j := by
  rcases Nat.lt_trichotomy k j with q | q | q
  · have := h.1; rw [h2.2 k q] at this; cases this
  · exact q
  · have := h2.1; rw [h.2 j q] at this; cases this
/-- a number by its lowest bit -/
theorem lw_form : ∀ (n k : Nat), n.testBit k = true → (∀ i, i < k → n.testBit i = false) → ∃ q, n = 2 ^ (k + 1) * q + 2 ^ k := by
  intro n k h1 h2
  refine ⟨n / 2 ^ (k + 1), ?_⟩
  have hm : n % 2 ^ (k + 1) = 2 ^ k := by
    apply Nat.eq_of_testBit_eq
    intro i
    rw [Nat.testBit_mod_two_pow, Nat.testBit_two_pow]
    by_cases e : i = k
    · subst e; simp [h1]
    · by_cases g : i < k
      · rw [h2 i g]; simp; omega
      · have : ¬ i < k + 1 := by omega
        simp [this]; omega
  have := Nat.div_add_mod n (2 ^ (k + 1))
  omega
theorem lw_bits (q k i : Nat) : (2 ^ (k + 1) * q + 2 ^ k).testBit i = (decide (i = k) || (decide (k < i) && q.testBit (i - k - 1))) := by
  rw [Nat.testBit_two_pow_mul_add _ (Nat.pow_lt_pow_right (by decide) (Nat.lt_succ_self k))]
  by_cases g : i < k + 1
  · rw [if_pos g, Nat.testBit_two_pow]
    by_cases e : i = k
    · subst e; simp
    · have : ¬ k < i := by omega
      simp [this, e]; omega
  · rw [if_neg g]
    have h1 : k < i := by omega
    have h2 : ¬ i = k := by omega
    simp [h1, h2, Nat.sub_sub]
theorem lw_pred (q k i : Nat) : (2 ^ (k + 1) * q + 2 ^ k - 1).testBit i = (decide (i < k) || (decide (k < i) && q.testBit (i - k - 1))) := by
  have hp : 0 < 2 ^ k := Nat.two_pow_pos k
  have hlt : 2 ^ k - 1 < 2 ^ (k + 1) := by rw [Nat.pow_succ]; omega
  rw [show 2 ^ (k + 1) * q + 2 ^ k - 1 = 2 ^ (k + 1) * q + (2 ^ k - 1) by omega, Nat.testBit_two_pow_mul_add _ hlt]
  by_cases g : i < k + 1
  · rw [if_pos g, Nat.testBit_two_pow_sub_one]
    by_cases e : i < k
    · simp [e]
    · have : ¬ k < i := by omega
      simp [e, this]
  · rw [if_neg g]
    have h1 : k < i := by omega
    have h2 : ¬ i < k := by omega
    simp [h1, h2, Nat.sub_sub]
theorem lN_pred {n : Nat} (h : 0 < n) : lN n - 1 = lN (n - 1) := lN_sub (b := 1) h
/-- without its lowest -/
theorem bl_drop {x : Int64} {k : Nat} (h : lowb x k) (i : Nat) : bl (x &&& (x - 1)) i = (bl x i && !decide (i = k)) := by
  obtain ⟨n, hn, rfl⟩ := wb_of x
  have hk : k < 64 := bl_lt h.1
  have h1 : n.testBit k = true := by have := h.1; rw [bl_lN] at this; simpa [hk] using this
  have h2 : ∀ i, i < k → n.testBit i = false := fun i hi => by have := h.2 i hi; rw [bl_lN] at this; simpa [show i < 64 by omega] using this
  obtain ⟨q, e⟩ := lw_form n k h1 h2
  have hp : 0 < n := by rw [e]; have := Nat.two_pow_pos k; omega
  rw [bl_and, lN_pred hp, bl_lN, bl_lN, e, lw_bits, lw_pred]
  rcases Nat.lt_trichotomy i k with a | a | a
  · simp [show ¬ i = k by omega, show ¬ k < i by omega]
  · simp [a]
  · simp [show ¬ i = k by omega, a, show ¬ i < k by omega]
theorem lN_neg {n : Nat} (h : n < 2 ^ 64) : -(lN n) = lN (2 ^ 64 - n) := by
  have h1 : lN (2 ^ 64 - n) + lN n = 0 := by
    rw [lN_add, show 2 ^ 64 - n + n = 2 ^ 64 by omega]
    decide
  have h2 : lN (2 ^ 64 - n) = 0 - lN n := by
    rw [← h1]
    simp
  rw [h2]
  simp
theorem bl_lowbit {x : Int64} {k : Nat} (h : lowb x k) : x &&& -x = jv_lshl 1 (nI k) := by
  obtain ⟨n, hn, rfl⟩ := wb_of x
  have hk : k < 64 := bl_lt h.1
  have h1 : n.testBit k = true := by have := h.1; rw [bl_lN] at this; simpa [hk] using this
  have h2 : ∀ i, i < k → n.testBit i = false := fun i hi => by have := h.2 i hi; rw [bl_lN] at this; simpa [show i < 64 by omega] using this
  obtain ⟨q, e⟩ := lw_form n k h1 h2
  have hpk : 2 ^ 64 = 2 ^ (k + 1) * 2 ^ (63 - k) := by rw [← Nat.pow_add]; congr 1; omega
  have hp := Nat.two_pow_pos k
  have hq : q < 2 ^ (63 - k) := by
    refine Nat.lt_of_not_le fun g => ?_
    have : 2 ^ (k + 1) * 2 ^ (63 - k) ≤ 2 ^ (k + 1) * q := Nat.mul_le_mul_left _ g
    omega
  have e2 : 2 ^ 64 - n = 2 ^ (k + 1) * (2 ^ (63 - k) - (q + 1)) + 2 ^ k := by
    rw [Nat.mul_sub, ← hpk, e, Nat.mul_add]
    have : 2 ^ (k + 1) = 2 ^ k + 2 ^ k := by rw [Nat.pow_succ]; omega
    have h3 : 2 ^ (k + 1) * q + 2 ^ (k + 1) * 1 ≤ 2 ^ 64 := by rw [hpk, ← Nat.mul_add]; exact Nat.mul_le_mul_left _ hq
    omega
  apply bl_ext
  intro i hi
  rw [bl_and, lN_neg hn, bl_lN, bl_lN, bl_one hk hi, e2, e, lw_bits, lw_bits]
  by_cases a : i = k
  · simp [a, hk]
  · by_cases b : k < i
    · rw [Nat.testBit_two_pow_sub_succ hq]
      have : i - k - 1 < 63 - k := by omega
      simp [a, b, hi, this]
    · simp [a, b]
theorem ct_below (k : Nat) : ∀ n, fb_ct (fun i => decide (i < k)) n = min k n
  | 0 => by simp [fb_ct]
  | n + 1 => by
    rw [fb_ct_succ, ct_below k n]
    by_cases h : n < k
    · simp [h]; omega
    · simp [h]; omega
theorem bl_lowct {x : Int64} {k : Nat} (h : lowb x k) : fb_ct (bl ((x &&& -x) - 1)) 64 = k := by
  have hk : k < 64 := bl_lt h.1
  rw [bl_lowbit h, show (1 : Int64) = lN 1 from rfl, lsh_nI hk, Nat.one_mul]
  have hp := Nat.two_pow_pos k
  rw [show lN (2 ^ k) - lN 1 = lN (2 ^ k - 1) from lN_sub hp]
  rw [fb_ct_cong (q := fun i => decide (i < k)) (fun i hi => by rw [bl_lN, Nat.testBit_two_pow_sub_one]; simp [hi]), ct_below]
  omega
end
