section
-- ===== PART A: goes FIRST, ahead of the names: the tables' words, and 'selects' of the private methods out of them =====
/-- a private method of a class that the tables say can be made, by its rows of tables_1 -/
def lw_okq (q : MethodName × Nat) : Prop := (q.1.cls ≠ "java/lang/invoke/MethodHandle" ∧ q.1.cls ≠ "java/lang/invoke/VarHandle") ∧ Cond.instantiable q.1.cls q.2 ∈ tables_1 ∧ Cond.privateMethod q.1 ∈ tables_1 ∧ Cond.instanceMethod q.1 ∈ tables_1
theorem lw_p0 : lw_okq (⟨"NeverMistaken", "lineAt", "(I)LNeverMistaken$Line;"⟩, 14) := ⟨⟨by decide +kernel, by decide +kernel⟩, List.mem_of_getElem? (i := 16) (by decide +kernel), List.mem_of_getElem? (i := 299) (by decide +kernel), List.mem_of_getElem? (i := 300) (by decide +kernel)⟩
theorem lw_p1 : lw_okq (⟨"NeverMistaken$Text", "blameIf", "(ZII)V"⟩, 4) := ⟨⟨by decide +kernel, by decide +kernel⟩, List.mem_of_getElem? (i := 41) (by decide +kernel), List.mem_of_getElem? (i := 347) (by decide +kernel), List.mem_of_getElem? (i := 348) (by decide +kernel)⟩
theorem lw_p2 : lw_okq (⟨"NeverMistaken$Text", "close", "(I)V"⟩, 4) := ⟨⟨by decide +kernel, by decide +kernel⟩, List.mem_of_getElem? (i := 41) (by decide +kernel), List.mem_of_getElem? (i := 351) (by decide +kernel), List.mem_of_getElem? (i := 352) (by decide +kernel)⟩
theorem lw_p3 : lw_okq (⟨"NeverMistaken$Codes", "lengthen", "(LNeverMistaken$Line;)V"⟩, 5) := ⟨⟨by decide +kernel, by decide +kernel⟩, List.mem_of_getElem? (i := 66) (by decide +kernel), List.mem_of_getElem? (i := 432) (by decide +kernel), List.mem_of_getElem? (i := 433) (by decide +kernel)⟩
theorem lw_p4 : lw_okq (⟨"NeverMistaken$Codes", "allWords", "()J"⟩, 5) := ⟨⟨by decide +kernel, by decide +kernel⟩, List.mem_of_getElem? (i := 66) (by decide +kernel), List.mem_of_getElem? (i := 444) (by decide +kernel), List.mem_of_getElem? (i := 445) (by decide +kernel)⟩
theorem lw_p5 : lw_okq (⟨"NeverMistaken$Codes", "explore", "(JJI)V"⟩, 5) := ⟨⟨by decide +kernel, by decide +kernel⟩, List.mem_of_getElem? (i := 66) (by decide +kernel), List.mem_of_getElem? (i := 449) (by decide +kernel), List.mem_of_getElem? (i := 450) (by decide +kernel)⟩
theorem lw_p6 : lw_okq (⟨"NeverMistaken$Codes", "needed", "(J)J"⟩, 5) := ⟨⟨by decide +kernel, by decide +kernel⟩, List.mem_of_getElem? (i := 66) (by decide +kernel), List.mem_of_getElem? (i := 453) (by decide +kernel), List.mem_of_getElem? (i := 454) (by decide +kernel)⟩
theorem lw_p7 : lw_okq (⟨"NeverMistaken$Codes", "canBeSpared", "(IJ)Z"⟩, 5) := ⟨⟨by decide +kernel, by decide +kernel⟩, List.mem_of_getElem? (i := 66) (by decide +kernel), List.mem_of_getElem? (i := 467) (by decide +kernel), List.mem_of_getElem? (i := 468) (by decide +kernel)⟩
theorem lw_p8 : lw_okq (⟨"NeverMistaken$Codes", "loneWords", "(J)J"⟩, 5) := ⟨⟨by decide +kernel, by decide +kernel⟩, List.mem_of_getElem? (i := 66) (by decide +kernel), List.mem_of_getElem? (i := 471) (by decide +kernel), List.mem_of_getElem? (i := 472) (by decide +kernel)⟩
theorem lw_p9 : lw_okq (⟨"NeverMistaken$Codes", "groups", "(J)I"⟩, 5) := ⟨⟨by decide +kernel, by decide +kernel⟩, List.mem_of_getElem? (i := 66) (by decide +kernel), List.mem_of_getElem? (i := 475) (by decide +kernel), List.mem_of_getElem? (i := 476) (by decide +kernel)⟩
theorem lw_p10 : lw_okq (⟨"NeverMistaken$Codes", "busiest", "(J)I"⟩, 5) := ⟨⟨by decide +kernel, by decide +kernel⟩, List.mem_of_getElem? (i := 66) (by decide +kernel), List.mem_of_getElem? (i := 479) (by decide +kernel), List.mem_of_getElem? (i := 480) (by decide +kernel)⟩
theorem lw_p11 : lw_okq (⟨"NeverMistaken$Codes", "reaches", "(JJ)Z"⟩, 5) := ⟨⟨by decide +kernel, by decide +kernel⟩, List.mem_of_getElem? (i := 66) (by decide +kernel), List.mem_of_getElem? (i := 487) (by decide +kernel), List.mem_of_getElem? (i := 488) (by decide +kernel)⟩
theorem lw_p12 : lw_okq (⟨"NeverMistaken$Codes", "tally", "(JI)J"⟩, 5) := ⟨⟨by decide +kernel, by decide +kernel⟩, List.mem_of_getElem? (i := 66) (by decide +kernel), List.mem_of_getElem? (i := 507) (by decide +kernel), List.mem_of_getElem? (i := 508) (by decide +kernel)⟩
theorem lw_p13 : lw_okq (⟨"NeverMistaken$Codes", "standsApart", "(JJ)Z"⟩, 5) := ⟨⟨by decide +kernel, by decide +kernel⟩, List.mem_of_getElem? (i := 66) (by decide +kernel), List.mem_of_getElem? (i := 511) (by decide +kernel), List.mem_of_getElem? (i := 512) (by decide +kernel)⟩
theorem lw_p14 : lw_okq (⟨"NeverMistaken", "fewestHeaps", "(LNeverMistaken$Line;)I"⟩, 14) := ⟨⟨by decide +kernel, by decide +kernel⟩, List.mem_of_getElem? (i := 16) (by decide +kernel), List.mem_of_getElem? (i := 527) (by decide +kernel), List.mem_of_getElem? (i := 528) (by decide +kernel)⟩
theorem lw_p15 : lw_okq (⟨"NeverMistaken$Cover", "fill", "(III)Z"⟩, 6) := ⟨⟨by decide +kernel, by decide +kernel⟩, List.mem_of_getElem? (i := 89) (by decide +kernel), List.mem_of_getElem? (i := 543) (by decide +kernel), List.mem_of_getElem? (i := 544) (by decide +kernel)⟩
def lw_privs_1 : List (MethodName × Nat) := [(⟨"NeverMistaken", "lineAt", "(I)LNeverMistaken$Line;"⟩, 14), (⟨"NeverMistaken$Text", "blameIf", "(ZII)V"⟩, 4), (⟨"NeverMistaken$Text", "close", "(I)V"⟩, 4), (⟨"NeverMistaken$Codes", "lengthen", "(LNeverMistaken$Line;)V"⟩, 5), (⟨"NeverMistaken$Codes", "allWords", "()J"⟩, 5), (⟨"NeverMistaken$Codes", "explore", "(JJI)V"⟩, 5), (⟨"NeverMistaken$Codes", "needed", "(J)J"⟩, 5), (⟨"NeverMistaken$Codes", "canBeSpared", "(IJ)Z"⟩, 5), (⟨"NeverMistaken$Codes", "loneWords", "(J)J"⟩, 5), (⟨"NeverMistaken$Codes", "groups", "(J)I"⟩, 5), (⟨"NeverMistaken$Codes", "busiest", "(J)I"⟩, 5), (⟨"NeverMistaken$Codes", "reaches", "(JJ)Z"⟩, 5), (⟨"NeverMistaken$Codes", "tally", "(JI)J"⟩, 5), (⟨"NeverMistaken$Codes", "standsApart", "(JJ)Z"⟩, 5), (⟨"NeverMistaken", "fewestHeaps", "(LNeverMistaken$Line;)I"⟩, 14), (⟨"NeverMistaken$Cover", "fill", "(III)Z"⟩, 6)]
theorem lw_r1 : ∀ q ∈ lw_privs_1, lw_okq q := List.forall_mem_cons.mpr ⟨lw_p0, List.forall_mem_cons.mpr ⟨lw_p1, List.forall_mem_cons.mpr ⟨lw_p2, List.forall_mem_cons.mpr ⟨lw_p3, List.forall_mem_cons.mpr ⟨lw_p4, List.forall_mem_cons.mpr ⟨lw_p5, List.forall_mem_cons.mpr ⟨lw_p6, List.forall_mem_cons.mpr ⟨lw_p7, List.forall_mem_cons.mpr ⟨lw_p8, List.forall_mem_cons.mpr ⟨lw_p9, List.forall_mem_cons.mpr ⟨lw_p10, List.forall_mem_cons.mpr ⟨lw_p11, List.forall_mem_cons.mpr ⟨lw_p12, List.forall_mem_cons.mpr ⟨lw_p13, List.forall_mem_cons.mpr ⟨lw_p14, List.forall_mem_cons.mpr ⟨lw_p15, fun _ h => absurd h List.not_mem_nil⟩⟩⟩⟩⟩⟩⟩⟩⟩⟩⟩⟩⟩⟩⟩⟩
theorem lw_p16 : lw_okq (⟨"NeverMistaken$Cover", "hasRoom", "(II)Z"⟩, 6) := ⟨⟨by decide +kernel, by decide +kernel⟩, List.mem_of_getElem? (i := 89) (by decide +kernel), List.mem_of_getElem? (i := 547) (by decide +kernel), List.mem_of_getElem? (i := 548) (by decide +kernel)⟩
theorem lw_p17 : lw_okq (⟨"NeverMistaken$Cover", "loneliest", "(II)I"⟩, 6) := ⟨⟨by decide +kernel, by decide +kernel⟩, List.mem_of_getElem? (i := 89) (by decide +kernel), List.mem_of_getElem? (i := 553) (by decide +kernel), List.mem_of_getElem? (i := 554) (by decide +kernel)⟩
theorem lw_p18 : lw_okq (⟨"NeverMistaken$Cover", "add", "(II)V"⟩, 6) := ⟨⟨by decide +kernel, by decide +kernel⟩, List.mem_of_getElem? (i := 89) (by decide +kernel), List.mem_of_getElem? (i := 557) (by decide +kernel), List.mem_of_getElem? (i := 558) (by decide +kernel)⟩
theorem lw_p19 : lw_okq (⟨"NeverMistaken$Cover", "layRow", "([II)V"⟩, 6) := ⟨⟨by decide +kernel, by decide +kernel⟩, List.mem_of_getElem? (i := 89) (by decide +kernel), List.mem_of_getElem? (i := 565) (by decide +kernel), List.mem_of_getElem? (i := 566) (by decide +kernel)⟩
theorem lw_p20 : lw_okq (⟨"NeverMistaken$Rows", "offer", "(III)V"⟩, 3) := ⟨⟨by decide +kernel, by decide +kernel⟩, List.mem_of_getElem? (i := 114) (by decide +kernel), List.mem_of_getElem? (i := 598) (by decide +kernel), List.mem_of_getElem? (i := 599) (by decide +kernel)⟩
theorem lw_p21 : lw_okq (⟨"NeverMistaken$Rows", "cut", "()V"⟩, 3) := ⟨⟨by decide +kernel, by decide +kernel⟩, List.mem_of_getElem? (i := 114) (by decide +kernel), List.mem_of_getElem? (i := 602) (by decide +kernel), List.mem_of_getElem? (i := 603) (by decide +kernel)⟩
theorem lw_p22 : lw_okq (⟨"NeverMistaken", "findBest", "(LNeverMistaken$Line;)V"⟩, 14) := ⟨⟨by decide +kernel, by decide +kernel⟩, List.mem_of_getElem? (i := 16) (by decide +kernel), List.mem_of_getElem? (i := 622) (by decide +kernel), List.mem_of_getElem? (i := 623) (by decide +kernel)⟩
theorem lw_p23 : lw_okq (⟨"NeverMistaken", "couldMake", "(LNeverMistaken$Line;I)Z"⟩, 14) := ⟨⟨by decide +kernel, by decide +kernel⟩, List.mem_of_getElem? (i := 16) (by decide +kernel), List.mem_of_getElem? (i := 647) (by decide +kernel), List.mem_of_getElem? (i := 648) (by decide +kernel)⟩
theorem lw_p24 : lw_okq (⟨"NeverMistaken$Lists", "search", "(IJJI)I"⟩, 3) := ⟨⟨by decide +kernel, by decide +kernel⟩, List.mem_of_getElem? (i := 154) (by decide +kernel), List.mem_of_getElem? (i := 668) (by decide +kernel), List.mem_of_getElem? (i := 669) (by decide +kernel)⟩
theorem lw_p25 : lw_okq (⟨"NeverMistakenModel", "lay", "(I)V"⟩, 31) := ⟨⟨by decide +kernel, by decide +kernel⟩, List.mem_of_getElem? (i := 682) (by decide +kernel), List.mem_of_getElem? (i := 787) (by decide +kernel), List.mem_of_getElem? (i := 788) (by decide +kernel)⟩
theorem lw_p26 : lw_okq (⟨"NeverMistakenModel", "anew", "(III)V"⟩, 31) := ⟨⟨by decide +kernel, by decide +kernel⟩, List.mem_of_getElem? (i := 682) (by decide +kernel), List.mem_of_getElem? (i := 807) (by decide +kernel), List.mem_of_getElem? (i := 808) (by decide +kernel)⟩
theorem lw_p27 : lw_okq (⟨"NeverMistakenModel", "noRows", "(I)V"⟩, 31) := ⟨⟨by decide +kernel, by decide +kernel⟩, List.mem_of_getElem? (i := 682) (by decide +kernel), List.mem_of_getElem? (i := 811) (by decide +kernel), List.mem_of_getElem? (i := 812) (by decide +kernel)⟩
theorem lw_p28 : lw_okq (⟨"NeverMistakenModel", "isLetter", "(II)Z"⟩, 31) := ⟨⟨by decide +kernel, by decide +kernel⟩, List.mem_of_getElem? (i := 682) (by decide +kernel), List.mem_of_getElem? (i := 819) (by decide +kernel), List.mem_of_getElem? (i := 820) (by decide +kernel)⟩
theorem lw_p29 : lw_okq (⟨"NeverMistakenModel", "areNear", "(III)Z"⟩, 31) := ⟨⟨by decide +kernel, by decide +kernel⟩, List.mem_of_getElem? (i := 682) (by decide +kernel), List.mem_of_getElem? (i := 823) (by decide +kernel), List.mem_of_getElem? (i := 824) (by decide +kernel)⟩
theorem lw_p30 : lw_okq (⟨"NeverMistakenModel", "join", "(III)V"⟩, 31) := ⟨⟨by decide +kernel, by decide +kernel⟩, List.mem_of_getElem? (i := 682) (by decide +kernel), List.mem_of_getElem? (i := 832) (by decide +kernel), List.mem_of_getElem? (i := 833) (by decide +kernel)⟩
theorem lw_p31 : lw_okq (⟨"NeverMistakenModel", "wrong", "(II)I"⟩, 31) := ⟨⟨by decide +kernel, by decide +kernel⟩, List.mem_of_getElem? (i := 682) (by decide +kernel), List.mem_of_getElem? (i := 840) (by decide +kernel), List.mem_of_getElem? (i := 841) (by decide +kernel)⟩
def lw_privs_2 : List (MethodName × Nat) := [(⟨"NeverMistaken$Cover", "hasRoom", "(II)Z"⟩, 6), (⟨"NeverMistaken$Cover", "loneliest", "(II)I"⟩, 6), (⟨"NeverMistaken$Cover", "add", "(II)V"⟩, 6), (⟨"NeverMistaken$Cover", "layRow", "([II)V"⟩, 6), (⟨"NeverMistaken$Rows", "offer", "(III)V"⟩, 3), (⟨"NeverMistaken$Rows", "cut", "()V"⟩, 3), (⟨"NeverMistaken", "findBest", "(LNeverMistaken$Line;)V"⟩, 14), (⟨"NeverMistaken", "couldMake", "(LNeverMistaken$Line;I)Z"⟩, 14), (⟨"NeverMistaken$Lists", "search", "(IJJI)I"⟩, 3), (⟨"NeverMistakenModel", "lay", "(I)V"⟩, 31), (⟨"NeverMistakenModel", "anew", "(III)V"⟩, 31), (⟨"NeverMistakenModel", "noRows", "(I)V"⟩, 31), (⟨"NeverMistakenModel", "isLetter", "(II)Z"⟩, 31), (⟨"NeverMistakenModel", "areNear", "(III)Z"⟩, 31), (⟨"NeverMistakenModel", "join", "(III)V"⟩, 31), (⟨"NeverMistakenModel", "wrong", "(II)I"⟩, 31)]
theorem lw_r2 : ∀ q ∈ lw_privs_2, lw_okq q := List.forall_mem_cons.mpr ⟨lw_p16, List.forall_mem_cons.mpr ⟨lw_p17, List.forall_mem_cons.mpr ⟨lw_p18, List.forall_mem_cons.mpr ⟨lw_p19, List.forall_mem_cons.mpr ⟨lw_p20, List.forall_mem_cons.mpr ⟨lw_p21, List.forall_mem_cons.mpr ⟨lw_p22, List.forall_mem_cons.mpr ⟨lw_p23, List.forall_mem_cons.mpr ⟨lw_p24, List.forall_mem_cons.mpr ⟨lw_p25, List.forall_mem_cons.mpr ⟨lw_p26, List.forall_mem_cons.mpr ⟨lw_p27, List.forall_mem_cons.mpr ⟨lw_p28, List.forall_mem_cons.mpr ⟨lw_p29, List.forall_mem_cons.mpr ⟨lw_p30, List.forall_mem_cons.mpr ⟨lw_p31, fun _ h => absurd h List.not_mem_nil⟩⟩⟩⟩⟩⟩⟩⟩⟩⟩⟩⟩⟩⟩⟩⟩
theorem lw_p32 : lw_okq (⟨"NeverMistakenModel", "isLike", "(III)Z"⟩, 31) := ⟨⟨by decide +kernel, by decide +kernel⟩, List.mem_of_getElem? (i := 682) (by decide +kernel), List.mem_of_getElem? (i := 852) (by decide +kernel), List.mem_of_getElem? (i := 853) (by decide +kernel)⟩
theorem lw_p33 : lw_okq (⟨"NeverMistakenModel", "put", "(II)I"⟩, 31) := ⟨⟨by decide +kernel, by decide +kernel⟩, List.mem_of_getElem? (i := 682) (by decide +kernel), List.mem_of_getElem? (i := 856) (by decide +kernel), List.mem_of_getElem? (i := 857) (by decide +kernel)⟩
theorem lw_p34 : lw_okq (⟨"NeverMistakenModel", "areTaken", "(IIII)Z"⟩, 31) := ⟨⟨by decide +kernel, by decide +kernel⟩, List.mem_of_getElem? (i := 682) (by decide +kernel), List.mem_of_getElem? (i := 883) (by decide +kernel), List.mem_of_getElem? (i := 884) (by decide +kernel)⟩
theorem lw_p35 : lw_okq (⟨"NeverMistakenModel", "spell", "(III)Z"⟩, 31) := ⟨⟨by decide +kernel, by decide +kernel⟩, List.mem_of_getElem? (i := 682) (by decide +kernel), List.mem_of_getElem? (i := 891) (by decide +kernel), List.mem_of_getElem? (i := 892) (by decide +kernel)⟩
theorem lw_p36 : lw_okq (⟨"NeverMistakenModel", "all", "()J"⟩, 31) := ⟨⟨by decide +kernel, by decide +kernel⟩, List.mem_of_getElem? (i := 682) (by decide +kernel), List.mem_of_getElem? (i := 895) (by decide +kernel), List.mem_of_getElem? (i := 896) (by decide +kernel)⟩
theorem lw_p37 : lw_okq (⟨"NeverMistakenModel", "largest", "(J)I"⟩, 31) := ⟨⟨by decide +kernel, by decide +kernel⟩, List.mem_of_getElem? (i := 682) (by decide +kernel), List.mem_of_getElem? (i := 900) (by decide +kernel), List.mem_of_getElem? (i := 901) (by decide +kernel)⟩
theorem lw_p38 : lw_okq (⟨"NeverMistakenModel", "cover", "(JI)I"⟩, 31) := ⟨⟨by decide +kernel, by decide +kernel⟩, List.mem_of_getElem? (i := 682) (by decide +kernel), List.mem_of_getElem? (i := 904) (by decide +kernel), List.mem_of_getElem? (i := 905) (by decide +kernel)⟩
theorem lw_p39 : lw_okq (⟨"NeverMistakenModel", "reaches", "(JI)Z"⟩, 31) := ⟨⟨by decide +kernel, by decide +kernel⟩, List.mem_of_getElem? (i := 682) (by decide +kernel), List.mem_of_getElem? (i := 911) (by decide +kernel), List.mem_of_getElem? (i := 912) (by decide +kernel)⟩
theorem lw_p40 : lw_okq (⟨"NeverMistakenModel", "waysOf", "(JI)I"⟩, 31) := ⟨⟨by decide +kernel, by decide +kernel⟩, List.mem_of_getElem? (i := 682) (by decide +kernel), List.mem_of_getElem? (i := 923) (by decide +kernel), List.mem_of_getElem? (i := 924) (by decide +kernel)⟩
theorem lw_p41 : lw_okq (⟨"NeverMistakenModel", "heapsOf", "(I)I"⟩, 31) := ⟨⟨by decide +kernel, by decide +kernel⟩, List.mem_of_getElem? (i := 682) (by decide +kernel), List.mem_of_getElem? (i := 931) (by decide +kernel), List.mem_of_getElem? (i := 932) (by decide +kernel)⟩
theorem lw_p42 : lw_okq (⟨"NeverMistakenModel", "heapFrom", "(IIII)Z"⟩, 31) := ⟨⟨by decide +kernel, by decide +kernel⟩, List.mem_of_getElem? (i := 682) (by decide +kernel), List.mem_of_getElem? (i := 935) (by decide +kernel), List.mem_of_getElem? (i := 936) (by decide +kernel)⟩
theorem lw_p43 : lw_okq (⟨"NeverMistakenModel", "lonely", "(IIII)I"⟩, 31) := ⟨⟨by decide +kernel, by decide +kernel⟩, List.mem_of_getElem? (i := 682) (by decide +kernel), List.mem_of_getElem? (i := 939) (by decide +kernel), List.mem_of_getElem? (i := 940) (by decide +kernel)⟩
theorem lw_p44 : lw_okq (⟨"NeverMistakenModel", "product", "(III)I"⟩, 31) := ⟨⟨by decide +kernel, by decide +kernel⟩, List.mem_of_getElem? (i := 682) (by decide +kernel), List.mem_of_getElem? (i := 962) (by decide +kernel), List.mem_of_getElem? (i := 963) (by decide +kernel)⟩
theorem lw_p45 : lw_okq (⟨"NeverMistakenModel", "findBound", "(I)V"⟩, 31) := ⟨⟨by decide +kernel, by decide +kernel⟩, List.mem_of_getElem? (i := 682) (by decide +kernel), List.mem_of_getElem? (i := 972) (by decide +kernel), List.mem_of_getElem? (i := 973) (by decide +kernel)⟩
theorem lw_p46 : lw_okq (⟨"NeverMistakenModel", "heldRates", "(IIII)I"⟩, 31) := ⟨⟨by decide +kernel, by decide +kernel⟩, List.mem_of_getElem? (i := 682) (by decide +kernel), List.mem_of_getElem? (i := 982) (by decide +kernel), List.mem_of_getElem? (i := 983) (by decide +kernel)⟩
theorem lw_p47 : lw_okq (⟨"NeverMistakenModel", "held", "()I"⟩, 31) := ⟨⟨by decide +kernel, by decide +kernel⟩, List.mem_of_getElem? (i := 682) (by decide +kernel), List.mem_of_getElem? (i := 990) (by decide +kernel), List.mem_of_getElem? (i := 991) (by decide +kernel)⟩
def lw_privs_3 : List (MethodName × Nat) := [(⟨"NeverMistakenModel", "isLike", "(III)Z"⟩, 31), (⟨"NeverMistakenModel", "put", "(II)I"⟩, 31), (⟨"NeverMistakenModel", "areTaken", "(IIII)Z"⟩, 31), (⟨"NeverMistakenModel", "spell", "(III)Z"⟩, 31), (⟨"NeverMistakenModel", "all", "()J"⟩, 31), (⟨"NeverMistakenModel", "largest", "(J)I"⟩, 31), (⟨"NeverMistakenModel", "cover", "(JI)I"⟩, 31), (⟨"NeverMistakenModel", "reaches", "(JI)Z"⟩, 31), (⟨"NeverMistakenModel", "waysOf", "(JI)I"⟩, 31), (⟨"NeverMistakenModel", "heapsOf", "(I)I"⟩, 31), (⟨"NeverMistakenModel", "heapFrom", "(IIII)Z"⟩, 31), (⟨"NeverMistakenModel", "lonely", "(IIII)I"⟩, 31), (⟨"NeverMistakenModel", "product", "(III)I"⟩, 31), (⟨"NeverMistakenModel", "findBound", "(I)V"⟩, 31), (⟨"NeverMistakenModel", "heldRates", "(IIII)I"⟩, 31), (⟨"NeverMistakenModel", "held", "()I"⟩, 31)]
theorem lw_r3 : ∀ q ∈ lw_privs_3, lw_okq q := List.forall_mem_cons.mpr ⟨lw_p32, List.forall_mem_cons.mpr ⟨lw_p33, List.forall_mem_cons.mpr ⟨lw_p34, List.forall_mem_cons.mpr ⟨lw_p35, List.forall_mem_cons.mpr ⟨lw_p36, List.forall_mem_cons.mpr ⟨lw_p37, List.forall_mem_cons.mpr ⟨lw_p38, List.forall_mem_cons.mpr ⟨lw_p39, List.forall_mem_cons.mpr ⟨lw_p40, List.forall_mem_cons.mpr ⟨lw_p41, List.forall_mem_cons.mpr ⟨lw_p42, List.forall_mem_cons.mpr ⟨lw_p43, List.forall_mem_cons.mpr ⟨lw_p44, List.forall_mem_cons.mpr ⟨lw_p45, List.forall_mem_cons.mpr ⟨lw_p46, List.forall_mem_cons.mpr ⟨lw_p47, fun _ h => absurd h List.not_mem_nil⟩⟩⟩⟩⟩⟩⟩⟩⟩⟩⟩⟩⟩⟩⟩⟩
theorem lw_p48 : lw_okq (⟨"NeverMistakenModel", "bestOf", "(I)I"⟩, 31) := ⟨⟨by decide +kernel, by decide +kernel⟩, List.mem_of_getElem? (i := 682) (by decide +kernel), List.mem_of_getElem? (i := 998) (by decide +kernel), List.mem_of_getElem? (i := 999) (by decide +kernel)⟩
theorem lw_p49 : lw_okq (⟨"NeverMistakenModel", "isList", "(III)Z"⟩, 31) := ⟨⟨by decide +kernel, by decide +kernel⟩, List.mem_of_getElem? (i := 682) (by decide +kernel), List.mem_of_getElem? (i := 1018) (by decide +kernel), List.mem_of_getElem? (i := 1019) (by decide +kernel)⟩
def lw_privs_4 : List (MethodName × Nat) := [(⟨"NeverMistakenModel", "bestOf", "(I)I"⟩, 31), (⟨"NeverMistakenModel", "isList", "(III)Z"⟩, 31)]
theorem lw_r4 : ∀ q ∈ lw_privs_4, lw_okq q := List.forall_mem_cons.mpr ⟨lw_p48, List.forall_mem_cons.mpr ⟨lw_p49, fun _ h => absurd h List.not_mem_nil⟩⟩
def lw_privs : List (MethodName × Nat) := lw_privs_1 ++ (lw_privs_2 ++ (lw_privs_3 ++ (lw_privs_4)))
def lw_tbl : List Cond := k2_sels lw_privs ++ tables_1
theorem lw_privs_ok : ∀ q ∈ lw_privs, lw_okq q := by
  show ∀ q ∈ lw_privs_1 ++ (lw_privs_2 ++ (lw_privs_3 ++ (lw_privs_4))), lw_okq q
  exact List.forall_mem_append.mpr ⟨lw_r1, List.forall_mem_append.mpr ⟨lw_r2, List.forall_mem_append.mpr ⟨lw_r3, lw_r4⟩⟩⟩
end
section
def RX0 : String := "NeverMistaken$Code"
def TX0 : u_T := fun k => match k with
  | 0 => ("NeverMistaken$Code", "words", "[I", true)
  | 1 => ("NeverMistaken$Code", "size", "I", false)
  | 2 => ("NeverMistaken$Code", "length", "I", false)
  | 3 => ("NeverMistaken$Code", "line", "I", false)
  | _ => ("NeverMistaken$Code", "age", "I", false)
def tyX0 : Nat → FieldType := fun k => match k with
  | 0 => .array .int
  | 1 => .int
  | 2 => .int
  | 3 => .int
  | _ => .int
abbrev wsX00 : List Cond := u_ws RX0 TX0 5
theorem nmX0 : ∀ a, a < 5 → ∀ b, b < 5 → a ≠ b → (TX0 a).2.1 ≠ (TX0 b).2.1 := by decide +kernel
theorem tyX0_ok : ∀ k, k < 5 → parseFieldDescriptor (TX0 k).2.2.1 = some (tyX0 k) := by decide +kernel
abbrev cX0_init : ByteArray := prog_2_method_1_code
def yX0_init : MethodName := ⟨RX0, "<init>", "()V"⟩
abbrev cX0_keep : ByteArray := prog_2_method_2_code
def yX0_keep : MethodName := ⟨RX0, "keep", "(JIII)V"⟩
def RX1 : String := "NeverMistaken$Codes"
def TX1 : u_T := fun k => match k with
  | 0 => ("NeverMistaken$Codes", "near", "[J", true)
  | 1 => ("NeverMistaken$Codes", "words", "I", false)
  | 2 => ("NeverMistaken$Codes", "found", "J", false)
  | 3 => ("NeverMistaken$Codes", "size", "I", false)
  | _ => ("NeverMistaken$Codes", "enough", "I", false)
def tyX1 : Nat → FieldType := fun k => match k with
  | 0 => .array .long
  | 1 => .int
  | 2 => .long
  | 3 => .int
  | _ => .int
abbrev wsX10 : List Cond := u_ws RX1 TX1 5
theorem nmX1 : ∀ a, a < 5 → ∀ b, b < 5 → a ≠ b → (TX1 a).2.1 ≠ (TX1 b).2.1 := by decide +kernel
theorem tyX1_ok : ∀ k, k < 5 → parseFieldDescriptor (TX1 k).2.2.1 = some (tyX1 k) := by decide +kernel
abbrev cX1_init : ByteArray := prog_3_method_1_code
def yX1_init : MethodName := ⟨RX1, "<init>", "()V"⟩
abbrev cX1_lay : ByteArray := prog_3_method_2_code
def yX1_lay : MethodName := ⟨RX1, "lay", "(LNeverMistaken$Line;I)V"⟩
abbrev cX1_layFar : ByteArray := prog_3_method_3_code
def yX1_layFar : MethodName := ⟨RX1, "layFar", "(LNeverMistaken$Line;)V"⟩
abbrev cX1_lengthen : ByteArray := prog_3_method_4_code
def yX1_lengthen : MethodName := ⟨RX1, "lengthen", "(LNeverMistaken$Line;)V"⟩
abbrev cX1_allWords : ByteArray := prog_3_method_5_code
def yX1_allWords : MethodName := ⟨RX1, "allWords", "()J"⟩
abbrev cX1_findLargest : ByteArray := prog_3_method_6_code
def yX1_findLargest : MethodName := ⟨RX1, "findLargest", "()I"⟩
abbrev cX1_leastLargest : ByteArray := prog_3_method_7_code
def yX1_leastLargest : MethodName := ⟨RX1, "leastLargest", "()J"⟩
abbrev cX1_reaches : ByteArray := prog_3_method_8_code
def yX1_reaches : MethodName := ⟨RX1, "reaches", "(JJ)Z"⟩
abbrev cX1_explore : ByteArray := prog_3_method_9_code
def yX1_explore : MethodName := ⟨RX1, "explore", "(JJI)V"⟩
abbrev cX1_needed : ByteArray := prog_3_method_10_code
def yX1_needed : MethodName := ⟨RX1, "needed", "(J)J"⟩
abbrev cX1_canBeSpared : ByteArray := prog_3_method_11_code
def yX1_canBeSpared : MethodName := ⟨RX1, "canBeSpared", "(IJ)Z"⟩
abbrev cX1_loneWords : ByteArray := prog_3_method_12_code
def yX1_loneWords : MethodName := ⟨RX1, "loneWords", "(J)J"⟩
abbrev cX1_groups : ByteArray := prog_3_method_13_code
def yX1_groups : MethodName := ⟨RX1, "groups", "(J)I"⟩
abbrev cX1_busiest : ByteArray := prog_3_method_14_code
def yX1_busiest : MethodName := ⟨RX1, "busiest", "(J)I"⟩
abbrev cX1_countLargest : ByteArray := prog_3_method_15_code
def yX1_countLargest : MethodName := ⟨RX1, "countLargest", "()I"⟩
abbrev cX1_tally : ByteArray := prog_3_method_16_code
def yX1_tally : MethodName := ⟨RX1, "tally", "(JI)J"⟩
abbrev cX1_standsApart : ByteArray := prog_3_method_17_code
def yX1_standsApart : MethodName := ⟨RX1, "standsApart", "(JJ)Z"⟩
abbrev cX1_joinTallies : ByteArray := prog_3_method_18_code
def yX1_joinTallies : MethodName := ⟨RX1, "joinTallies", "(JJ)J"⟩
def RX2 : String := "NeverMistaken$Cover"
def TX2 : u_T := fun k => match k with
  | 0 => ("NeverMistaken$Cover", "near", "[I", true)
  | 1 => ("NeverMistaken$Cover", "fits", "[I", true)
  | 2 => ("NeverMistaken$Cover", "held", "[I", true)
  | 3 => ("NeverMistaken$Cover", "letters", "I", false)
  | 4 => ("NeverMistaken$Cover", "limit", "I", false)
  | _ => ("NeverMistaken$Cover", "widest", "I", false)
def tyX2 : Nat → FieldType := fun k => match k with
  | 0 => .array .int
  | 1 => .array .int
  | 2 => .array .int
  | 3 => .int
  | 4 => .int
  | _ => .int
abbrev wsX20 : List Cond := u_ws RX2 TX2 6
theorem nmX2 : ∀ a, a < 6 → ∀ b, b < 6 → a ≠ b → (TX2 a).2.1 ≠ (TX2 b).2.1 := by decide +kernel
theorem tyX2_ok : ∀ k, k < 6 → parseFieldDescriptor (TX2 k).2.2.1 = some (tyX2 k) := by decide +kernel
abbrev cX2_init : ByteArray := prog_4_method_1_code
def yX2_init : MethodName := ⟨RX2, "<init>", "()V"⟩
abbrev cX2_fewest : ByteArray := prog_4_method_2_code
def yX2_fewest : MethodName := ⟨RX2, "fewest", "(LNeverMistaken$Line;II)I"⟩
abbrev cX2_leastRow : ByteArray := prog_4_method_3_code
def yX2_leastRow : MethodName := ⟨RX2, "leastRow", "([I)V"⟩
abbrev cX2_layRow : ByteArray := prog_4_method_4_code
def yX2_layRow : MethodName := ⟨RX2, "layRow", "([II)V"⟩
abbrev cX2_add : ByteArray := prog_4_method_5_code
def yX2_add : MethodName := ⟨RX2, "add", "(II)V"⟩
abbrev cX2_fill : ByteArray := prog_4_method_6_code
def yX2_fill : MethodName := ⟨RX2, "fill", "(III)Z"⟩
abbrev cX2_hasRoom : ByteArray := prog_4_method_7_code
def yX2_hasRoom : MethodName := ⟨RX2, "hasRoom", "(II)Z"⟩
abbrev cX2_loneliest : ByteArray := prog_4_method_8_code
def yX2_loneliest : MethodName := ⟨RX2, "loneliest", "(II)I"⟩
def RX3 : String := "NeverMistaken$Line"
def TX3 : u_T := fun k => match k with
  | 0 => ("NeverMistaken$Line", "kind", "I", false)
  | 1 => ("NeverMistaken$Line", "letters", "I", false)
  | 2 => ("NeverMistaken$Line", "age", "I", false)
  | 3 => ("NeverMistaken$Line", "near", "[I", true)
  | 4 => ("NeverMistaken$Line", "signs", "[I", true)
  | _ => ("NeverMistaken$Line", "numbers", "[[I", true)
def tyX3 : Nat → FieldType := fun k => match k with
  | 0 => .int
  | 1 => .int
  | 2 => .int
  | 3 => .array .int
  | 4 => .array .int
  | _ => .array (.array .int)
abbrev wsX30 : List Cond := u_ws RX3 TX3 6
theorem nmX3 : ∀ a, a < 6 → ∀ b, b < 6 → a ≠ b → (TX3 a).2.1 ≠ (TX3 b).2.1 := by decide +kernel
theorem tyX3_ok : ∀ k, k < 6 → parseFieldDescriptor (TX3 k).2.2.1 = some (tyX3 k) := by decide +kernel
abbrev cX3_init : ByteArray := prog_5_method_1_code
def yX3_init : MethodName := ⟨RX3, "<init>", "()V"⟩
abbrev cX3_renew : ByteArray := prog_5_method_2_code
def yX3_renew : MethodName := ⟨RX3, "renew", "(II)V"⟩
abbrev cX3_clearRows : ByteArray := prog_5_method_3_code
def yX3_clearRows : MethodName := ⟨RX3, "clearRows", "()V"⟩
abbrev cX3_takeNear : ByteArray := prog_5_method_4_code
def yX3_takeNear : MethodName := ⟨RX3, "takeNear", "([I)V"⟩
abbrev cX3_takeSigns : ByteArray := prog_5_method_5_code
def yX3_takeSigns : MethodName := ⟨RX3, "takeSigns", "([I)V"⟩
abbrev cX3_has : ByteArray := prog_5_method_6_code
def yX3_has : MethodName := ⟨RX3, "has", "(I)Z"⟩
abbrev cX3_mistakes : ByteArray := prog_5_method_7_code
def yX3_mistakes : MethodName := ⟨RX3, "mistakes", "(II)Z"⟩
abbrev cX3_alike : ByteArray := prog_5_method_8_code
def yX3_alike : MethodName := ⟨RX3, "alike", "(II)Z"⟩
abbrev cX3_flip : ByteArray := prog_5_method_9_code
def yX3_flip : MethodName := ⟨RX3, "flip", "(II)V"⟩
abbrev cX3_pairs : ByteArray := prog_5_method_10_code
def yX3_pairs : MethodName := ⟨RX3, "pairs", "()I"⟩
abbrev cX3_signsInAll : ByteArray := prog_5_method_11_code
def yX3_signsInAll : MethodName := ⟨RX3, "signsInAll", "()I"⟩
def RX4 : String := "NeverMistaken$Lists"
def TX4 : u_T := fun k => match k with
  | 0 => ("NeverMistaken$Lists", "low", "[J", true)
  | 1 => ("NeverMistaken$Lists", "high", "[J", true)
  | _ => ("NeverMistaken$Lists", "reach", "[I", true)
def tyX4 : Nat → FieldType := fun k => match k with
  | 0 => .array .long
  | 1 => .array .long
  | _ => .array .int
abbrev wsX40 : List Cond := u_ws RX4 TX4 3
theorem nmX4 : ∀ a, a < 3 → ∀ b, b < 3 → a ≠ b → (TX4 a).2.1 ≠ (TX4 b).2.1 := by decide +kernel
theorem tyX4_ok : ∀ k, k < 3 → parseFieldDescriptor (TX4 k).2.2.1 = some (tyX4 k) := by decide +kernel
abbrev cX4_init : ByteArray := prog_6_method_1_code
def yX4_init : MethodName := ⟨RX4, "<init>", "()V"⟩
abbrev cX4_leastGreatest : ByteArray := prog_6_method_2_code
def yX4_leastGreatest : MethodName := ⟨RX4, "leastGreatest", "(LNeverMistaken$Line;I)I"⟩
abbrev cX4_spread : ByteArray := prog_6_method_3_code
def yX4_spread : MethodName := ⟨RX4, "spread", "(I)J"⟩
abbrev cX4_search : ByteArray := prog_6_method_4_code
def yX4_search : MethodName := ⟨RX4, "search", "(IJJI)I"⟩
def RX5 : String := "NeverMistaken$Powers"
def TX5 : u_T := fun k => match k with
  | 0 => ("NeverMistaken$Powers", "left", "[J", true)
  | 1 => ("NeverMistaken$Powers", "right", "[J", true)
  | 2 => ("NeverMistaken$Powers", "bestLength", "I", false)
  | _ => ("NeverMistaken$Powers", "bestSize", "I", false)
def tyX5 : Nat → FieldType := fun k => match k with
  | 0 => .array .long
  | 1 => .array .long
  | 2 => .int
  | _ => .int
abbrev wsX50 : List Cond := u_ws RX5 TX5 4
theorem nmX5 : ∀ a, a < 4 → ∀ b, b < 4 → a ≠ b → (TX5 a).2.1 ≠ (TX5 b).2.1 := by decide +kernel
theorem tyX5_ok : ∀ k, k < 4 → parseFieldDescriptor (TX5 k).2.2.1 = some (tyX5 k) := by decide +kernel
abbrev cX5_init : ByteArray := prog_7_method_1_code
def yX5_init : MethodName := ⟨RX5, "<init>", "()V"⟩
abbrev cX5_offer : ByteArray := prog_7_method_2_code
def yX5_offer : MethodName := ⟨RX5, "offer", "(II)V"⟩
abbrev cX5_hold : ByteArray := prog_7_method_3_code
def yX5_hold : MethodName := ⟨RX5, "hold", "(IIII)I"⟩
abbrev cX5_raise : ByteArray := prog_7_method_4_code
def yX5_raise : MethodName := ⟨RX5, "raise", "([JII)V"⟩
abbrev cX5_isPower : ByteArray := prog_7_method_5_code
def yX5_isPower : MethodName := ⟨RX5, "isPower", "(III)Z"⟩
def RX6 : String := "NeverMistaken$Rows"
def TX6 : u_T := fun k => match k with
  | 0 => ("NeverMistaken$Rows", "above", "I", false)
  | 1 => ("NeverMistaken$Rows", "below", "I", false)
  | _ => ("NeverMistaken$Rows", "letter", "I", false)
def tyX6 : Nat → FieldType := fun k => match k with
  | 0 => .int
  | 1 => .int
  | _ => .int
abbrev wsX60 : List Cond := u_ws RX6 TX6 3
theorem nmX6 : ∀ a, a < 3 → ∀ b, b < 3 → a ≠ b → (TX6 a).2.1 ≠ (TX6 b).2.1 := by decide +kernel
theorem tyX6_ok : ∀ k, k < 3 → parseFieldDescriptor (TX6 k).2.2.1 = some (tyX6 k) := by decide +kernel
abbrev cX6_init : ByteArray := prog_8_method_1_code
def yX6_init : MethodName := ⟨RX6, "<init>", "()V"⟩
abbrev cX6_firstFlaw : ByteArray := prog_8_method_2_code
def yX6_firstFlaw : MethodName := ⟨RX6, "firstFlaw", "(LNeverMistaken$Line;)I"⟩
abbrev cX6_measure : ByteArray := prog_8_method_3_code
def yX6_measure : MethodName := ⟨RX6, "measure", "(LNeverMistaken$Line;)Z"⟩
abbrev cX6_offer : ByteArray := prog_8_method_4_code
def yX6_offer : MethodName := ⟨RX6, "offer", "(III)V"⟩
abbrev cX6_cut : ByteArray := prog_8_method_5_code
def yX6_cut : MethodName := ⟨RX6, "cut", "()V"⟩
abbrev cX6_product : ByteArray := prog_8_method_6_code
def yX6_product : MethodName := ⟨RX6, "product", "([I[I)I"⟩
def RX7 : String := "NeverMistaken$Tape"
def TX7 : u_T := fun k => match k with
  | 0 => ("NeverMistaken$Tape", "bytes", "[I", true)
  | _ => ("NeverMistaken$Tape", "length", "I", false)
def tyX7 : Nat → FieldType := fun k => match k with
  | 0 => .array .int
  | _ => .int
abbrev wsX70 : List Cond := u_ws RX7 TX7 2
theorem nmX7 : ∀ a, a < 2 → ∀ b, b < 2 → a ≠ b → (TX7 a).2.1 ≠ (TX7 b).2.1 := by decide +kernel
theorem tyX7_ok : ∀ k, k < 2 → parseFieldDescriptor (TX7 k).2.2.1 = some (tyX7 k) := by decide +kernel
abbrev cX7_init : ByteArray := prog_9_method_1_code
def yX7_init : MethodName := ⟨RX7, "<init>", "()V"⟩
abbrev cX7_empty : ByteArray := prog_9_method_2_code
def yX7_empty : MethodName := ⟨RX7, "empty", "()V"⟩
abbrev cX7_hasRoomFor : ByteArray := prog_9_method_3_code
def yX7_hasRoomFor : MethodName := ⟨RX7, "hasRoomFor", "(I)Z"⟩
abbrev cX7_push : ByteArray := prog_9_method_4_code
def yX7_push : MethodName := ⟨RX7, "push", "(I)V"⟩
def RX8 : String := "NeverMistaken$Text"
def TX8 : u_T := fun k => match k with
  | 0 => ("NeverMistaken$Text", "signs", "[I", true)
  | 1 => ("NeverMistaken$Text", "letters", "I", false)
  | 2 => ("NeverMistaken$Text", "fault", "I", false)
  | _ => ("NeverMistaken$Text", "place", "I", false)
def tyX8 : Nat → FieldType := fun k => match k with
  | 0 => .array .int
  | 1 => .int
  | 2 => .int
  | _ => .int
abbrev wsX80 : List Cond := u_ws RX8 TX8 4
theorem nmX8 : ∀ a, a < 4 → ∀ b, b < 4 → a ≠ b → (TX8 a).2.1 ≠ (TX8 b).2.1 := by decide +kernel
theorem tyX8_ok : ∀ k, k < 4 → parseFieldDescriptor (TX8 k).2.2.1 = some (tyX8 k) := by decide +kernel
abbrev cX8_init : ByteArray := prog_10_method_1_code
def yX8_init : MethodName := ⟨RX8, "<init>", "()V"⟩
abbrev cX8_read : ByteArray := prog_10_method_2_code
def yX8_read : MethodName := ⟨RX8, "read", "(LNeverMistaken$Tape;)V"⟩
abbrev cX8_readSigns : ByteArray := prog_10_method_3_code
def yX8_readSigns : MethodName := ⟨RX8, "readSigns", "(LNeverMistaken$Tape;)I"⟩
abbrev cX8_blameIf : ByteArray := prog_10_method_4_code
def yX8_blameIf : MethodName := ⟨RX8, "blameIf", "(ZII)V"⟩
abbrev cX8_close : ByteArray := prog_10_method_5_code
def yX8_close : MethodName := ⟨RX8, "close", "(I)V"⟩
abbrev cX8_signAt : ByteArray := prog_10_method_6_code
def yX8_signAt : MethodName := ⟨RX8, "signAt", "(LNeverMistaken$Tape;I)I"⟩
abbrev cX8_isBlank : ByteArray := prog_10_method_7_code
def yX8_isBlank : MethodName := ⟨RX8, "isBlank", "(I)Z"⟩
def RX9 : String := "NeverMistaken"
def TX9 : u_T := fun k => match k with
  | 0 => ("NeverMistaken", "tape", "LNeverMistaken$Tape;", true)
  | 1 => ("NeverMistaken", "text", "LNeverMistaken$Text;", true)
  | 2 => ("NeverMistaken", "lines", "[LNeverMistaken$Line;", true)
  | 3 => ("NeverMistaken", "joined", "[I", true)
  | 4 => ("NeverMistaken", "codes", "LNeverMistaken$Codes;", true)
  | 5 => ("NeverMistaken", "cover", "LNeverMistaken$Cover;", true)
  | 6 => ("NeverMistaken", "rows", "LNeverMistaken$Rows;", true)
  | 7 => ("NeverMistaken", "powers", "LNeverMistaken$Powers;", true)
  | 8 => ("NeverMistaken", "lists", "LNeverMistaken$Lists;", true)
  | 9 => ("NeverMistaken", "latestCode", "LNeverMistaken$Code;", true)
  | 10 => ("NeverMistaken", "latestHeaps", "[I", true)
  | 11 => ("NeverMistaken", "latestHeapsLetters", "I", false)
  | 12 => ("NeverMistaken", "latestSent", "I", false)
  | _ => ("NeverMistaken", "latestListed", "I", false)
def tyX9 : Nat → FieldType := fun k => match k with
  | 0 => .object "NeverMistaken$Tape"
  | 1 => .object "NeverMistaken$Text"
  | 2 => .array (.object "NeverMistaken$Line")
  | 3 => .array .int
  | 4 => .object "NeverMistaken$Codes"
  | 5 => .object "NeverMistaken$Cover"
  | 6 => .object "NeverMistaken$Rows"
  | 7 => .object "NeverMistaken$Powers"
  | 8 => .object "NeverMistaken$Lists"
  | 9 => .object "NeverMistaken$Code"
  | 10 => .array .int
  | 11 => .int
  | 12 => .int
  | _ => .int
abbrev wsX90 : List Cond := u_ws RX9 TX9 14
theorem nmX9 : ∀ a, a < 14 → ∀ b, b < 14 → a ≠ b → (TX9 a).2.1 ≠ (TX9 b).2.1 := by decide +kernel
theorem tyX9_ok : ∀ k, k < 14 → parseFieldDescriptor (TX9 k).2.2.1 = some (tyX9 k) := by decide +kernel
abbrev cX9_init : ByteArray := prog_1_method_1_code
def yX9_init : MethodName := ⟨RX9, "<init>", "()V"⟩
abbrev cX9_feed : ByteArray := prog_1_method_2_code
def yX9_feed : MethodName := ⟨RX9, "feed", "(IIIII)I"⟩
abbrev cX9_end : ByteArray := prog_1_method_3_code
def yX9_end : MethodName := ⟨RX9, "end", "(I)I"⟩
abbrev cX9_net : ByteArray := prog_1_method_4_code
def yX9_net : MethodName := ⟨RX9, "net", "(II)I"⟩
abbrev cX9_mistake : ByteArray := prog_1_method_5_code
def yX9_mistake : MethodName := ⟨RX9, "mistake", "(IIIZ)I"⟩
abbrev cX9_ring : ByteArray := prog_1_method_6_code
def yX9_ring : MethodName := ⟨RX9, "ring", "(II)I"⟩
abbrev cX9_told : ByteArray := prog_1_method_7_code
def yX9_told : MethodName := ⟨RX9, "told", "(I)I"⟩
abbrev cX9_fault : ByteArray := prog_1_method_8_code
def yX9_fault : MethodName := ⟨RX9, "fault", "(I)I"⟩
abbrev cX9_both : ByteArray := prog_1_method_9_code
def yX9_both : MethodName := ⟨RX9, "both", "(III)I"⟩
abbrev cX9_either : ByteArray := prog_1_method_10_code
def yX9_either : MethodName := ⟨RX9, "either", "(III)I"⟩
abbrev cX9_about : ByteArray := prog_1_method_11_code
def yX9_about : MethodName := ⟨RX9, "about", "(II)I"⟩
abbrev cX9_taken : ByteArray := prog_1_method_12_code
def yX9_taken : MethodName := ⟨RX9, "taken", "(IIII)I"⟩
abbrev cX9_most : ByteArray := prog_1_method_13_code
def yX9_most : MethodName := ⟨RX9, "most", "(II)I"⟩
abbrev cX9_word : ByteArray := prog_1_method_14_code
def yX9_word : MethodName := ⟨RX9, "word", "(I)I"⟩
abbrev cX9_ways : ByteArray := prog_1_method_15_code
def yX9_ways : MethodName := ⟨RX9, "ways", "(II)I"⟩
abbrev cX9_heaps : ByteArray := prog_1_method_16_code
def yX9_heaps : MethodName := ⟨RX9, "heaps", "(I)I"⟩
abbrev cX9_heap : ByteArray := prog_1_method_17_code
def yX9_heap : MethodName := ⟨RX9, "heap", "(I)I"⟩
abbrev cX9_row : ByteArray := prog_1_method_18_code
def yX9_row : MethodName := ⟨RX9, "row", "(IIII)I"⟩
abbrev cX9_stands : ByteArray := prog_1_method_19_code
def yX9_stands : MethodName := ⟨RX9, "stands", "(I)I"⟩
abbrev cX9_bound : ByteArray := prog_1_method_20_code
def yX9_bound : MethodName := ⟨RX9, "bound", "(II)I"⟩
abbrev cX9_compare : ByteArray := prog_1_method_21_code
def yX9_compare : MethodName := ⟨RX9, "compare", "(IIII)I"⟩
abbrev cX9_best : ByteArray := prog_1_method_22_code
def yX9_best : MethodName := ⟨RX9, "best", "(I)I"⟩
abbrev cX9_met : ByteArray := prog_1_method_23_code
def yX9_met : MethodName := ⟨RX9, "met", "(I)I"⟩
abbrev cX9_came : ByteArray := prog_1_method_24_code
def yX9_came : MethodName := ⟨RX9, "came", "(I)I"⟩
abbrev cX9_sent : ByteArray := prog_1_method_25_code
def yX9_sent : MethodName := ⟨RX9, "sent", "()I"⟩
abbrev cX9_list : ByteArray := prog_1_method_26_code
def yX9_list : MethodName := ⟨RX9, "list", "(II)I"⟩
abbrev cX9_listed : ByteArray := prog_1_method_27_code
def yX9_listed : MethodName := ⟨RX9, "listed", "()I"⟩
abbrev cX9_count : ByteArray := prog_1_method_28_code
def yX9_count : MethodName := ⟨RX9, "count", "(I)I"⟩
abbrev cX9_lineAt : ByteArray := prog_1_method_29_code
def yX9_lineAt : MethodName := ⟨RX9, "lineAt", "(I)LNeverMistaken$Line;"⟩
abbrev cX9_isLength : ByteArray := prog_1_method_30_code
def yX9_isLength : MethodName := ⟨RX9, "isLength", "(I)Z"⟩
abbrev cX9_quotient : ByteArray := prog_1_method_31_code
def yX9_quotient : MethodName := ⟨RX9, "quotient", "(II)I"⟩
abbrev cX9_remainder : ByteArray := prog_1_method_32_code
def yX9_remainder : MethodName := ⟨RX9, "remainder", "(II)I"⟩
abbrev cX9_lowest : ByteArray := prog_1_method_33_code
def yX9_lowest : MethodName := ⟨RX9, "lowest", "(J)I"⟩
abbrev cX9_wordsInAll : ByteArray := prog_1_method_34_code
def yX9_wordsInAll : MethodName := ⟨RX9, "wordsInAll", "(II)I"⟩
abbrev cX9_pairsNear : ByteArray := prog_1_method_35_code
def yX9_pairsNear : MethodName := ⟨RX9, "pairsNear", "(LNeverMistaken$Line;ILNeverMistaken$Line;I)I"⟩
abbrev cX9_aboutLetter : ByteArray := prog_1_method_36_code
def yX9_aboutLetter : MethodName := ⟨RX9, "aboutLetter", "(LNeverMistaken$Line;I)I"⟩
abbrev cX9_fewestHeaps : ByteArray := prog_1_method_37_code
def yX9_fewestHeaps : MethodName := ⟨RX9, "fewestHeaps", "(LNeverMistaken$Line;)I"⟩
abbrev cX9_findBest : ByteArray := prog_1_method_38_code
def yX9_findBest : MethodName := ⟨RX9, "findBest", "(LNeverMistaken$Line;)V"⟩
abbrev cX9_couldMake : ByteArray := prog_1_method_39_code
def yX9_couldMake : MethodName := ⟨RX9, "couldMake", "(LNeverMistaken$Line;I)Z"⟩
def RX10 : String := "NeverMistakenModel"
def TX10 : u_T := fun k => match k with
  | 0 => ("NeverMistakenModel", "size", "[I", true)
  | 1 => ("NeverMistakenModel", "kind", "[I", true)
  | 2 => ("NeverMistakenModel", "near", "[I", true)
  | 3 => ("NeverMistakenModel", "signs", "[I", true)
  | 4 => ("NeverMistakenModel", "rows", "[I", true)
  | 5 => ("NeverMistakenModel", "times", "[I", true)
  | 6 => ("NeverMistakenModel", "tape", "[B", true)
  | 7 => ("NeverMistakenModel", "taped", "I", false)
  | 8 => ("NeverMistakenModel", "fault", "I", false)
  | 9 => ("NeverMistakenModel", "faultAt", "I", false)
  | 10 => ("NeverMistakenModel", "read", "[I", true)
  | 11 => ("NeverMistakenModel", "made", "[I", true)
  | 12 => ("NeverMistakenModel", "rivals", "[J", true)
  | 13 => ("NeverMistakenModel", "words", "I", false)
  | 14 => ("NeverMistakenModel", "code", "[I", true)
  | 15 => ("NeverMistakenModel", "codeMany", "I", false)
  | 16 => ("NeverMistakenModel", "codeLength", "I", false)
  | 17 => ("NeverMistakenModel", "codeLine", "I", false)
  | 18 => ("NeverMistakenModel", "codeTold", "I", false)
  | 19 => ("NeverMistakenModel", "heapOf", "[I", true)
  | 20 => ("NeverMistakenModel", "heapSet", "[I", true)
  | 21 => ("NeverMistakenModel", "heapLetters", "I", false)
  | 22 => ("NeverMistakenModel", "heapTold", "[I", true)
  | 23 => ("NeverMistakenModel", "above", "J", false)
  | 24 => ("NeverMistakenModel", "below", "J", false)
  | 25 => ("NeverMistakenModel", "boundLetter", "I", false)
  | 26 => ("NeverMistakenModel", "one", "[J", true)
  | 27 => ("NeverMistakenModel", "two", "[J", true)
  | 28 => ("NeverMistakenModel", "bestMany", "I", false)
  | 29 => ("NeverMistakenModel", "sent", "I", false)
  | _ => ("NeverMistakenModel", "listed", "I", false)
def tyX10 : Nat → FieldType := fun k => match k with
  | 0 => .array .int
  | 1 => .array .int
  | 2 => .array .int
  | 3 => .array .int
  | 4 => .array .int
  | 5 => .array .int
  | 6 => .array .byte
  | 7 => .int
  | 8 => .int
  | 9 => .int
  | 10 => .array .int
  | 11 => .array .int
  | 12 => .array .long
  | 13 => .int
  | 14 => .array .int
  | 15 => .int
  | 16 => .int
  | 17 => .int
  | 18 => .int
  | 19 => .array .int
  | 20 => .array .int
  | 21 => .int
  | 22 => .array .int
  | 23 => .long
  | 24 => .long
  | 25 => .int
  | 26 => .array .long
  | 27 => .array .long
  | 28 => .int
  | 29 => .int
  | _ => .int
abbrev wsX100 : List Cond := u_ws RX10 TX10 31
theorem nmX10 : ∀ a, a < 31 → ∀ b, b < 31 → a ≠ b → (TX10 a).2.1 ≠ (TX10 b).2.1 := by decide +kernel
theorem tyX10_ok : ∀ k, k < 31 → parseFieldDescriptor (TX10 k).2.2.1 = some (tyX10 k) := by decide +kernel
abbrev cX10_in : ByteArray := prog_12_method_1_code
def yX10_in : MethodName := ⟨RX10, "in", "(JJJ)Z"⟩
abbrev cX10_init : ByteArray := prog_12_method_2_code
def yX10_init : MethodName := ⟨RX10, "<init>", "()V"⟩
abbrev cX10_isLine : ByteArray := prog_12_method_3_code
def yX10_isLine : MethodName := ⟨RX10, "isLine", "(I)Z"⟩
abbrev cX10_isLetter : ByteArray := prog_12_method_4_code
def yX10_isLetter : MethodName := ⟨RX10, "isLetter", "(II)Z"⟩
abbrev cX10_areNear : ByteArray := prog_12_method_5_code
def yX10_areNear : MethodName := ⟨RX10, "areNear", "(III)Z"⟩
abbrev cX10_anew : ByteArray := prog_12_method_6_code
def yX10_anew : MethodName := ⟨RX10, "anew", "(III)V"⟩
abbrev cX10_noRows : ByteArray := prog_12_method_7_code
def yX10_noRows : MethodName := ⟨RX10, "noRows", "(I)V"⟩
abbrev cX10_join : ByteArray := prog_12_method_8_code
def yX10_join : MethodName := ⟨RX10, "join", "(III)V"⟩
abbrev cX10_feed : ByteArray := prog_12_method_9_code
def yX10_feed : MethodName := ⟨RX10, "feed", "(IIIII)I"⟩
abbrev cX10_lay : ByteArray := prog_12_method_10_code
def yX10_lay : MethodName := ⟨RX10, "lay", "(I)V"⟩
abbrev cX10_end : ByteArray := prog_12_method_11_code
def yX10_end : MethodName := ⟨RX10, "end", "(I)I"⟩
abbrev cX10_net : ByteArray := prog_12_method_12_code
def yX10_net : MethodName := ⟨RX10, "net", "(II)I"⟩
abbrev cX10_mistake : ByteArray := prog_12_method_13_code
def yX10_mistake : MethodName := ⟨RX10, "mistake", "(IIIZ)I"⟩
abbrev cX10_ring : ByteArray := prog_12_method_14_code
def yX10_ring : MethodName := ⟨RX10, "ring", "(II)I"⟩
abbrev cX10_wrong : ByteArray := prog_12_method_15_code
def yX10_wrong : MethodName := ⟨RX10, "wrong", "(II)I"⟩
abbrev cX10_told : ByteArray := prog_12_method_16_code
def yX10_told : MethodName := ⟨RX10, "told", "(I)I"⟩
abbrev cX10_fault : ByteArray := prog_12_method_17_code
def yX10_fault : MethodName := ⟨RX10, "fault", "(I)I"⟩
abbrev cX10_isLike : ByteArray := prog_12_method_18_code
def yX10_isLike : MethodName := ⟨RX10, "isLike", "(III)Z"⟩
abbrev cX10_both : ByteArray := prog_12_method_19_code
def yX10_both : MethodName := ⟨RX10, "both", "(III)I"⟩
abbrev cX10_either : ByteArray := prog_12_method_20_code
def yX10_either : MethodName := ⟨RX10, "either", "(III)I"⟩
abbrev cX10_put : ByteArray := prog_12_method_21_code
def yX10_put : MethodName := ⟨RX10, "put", "(II)I"⟩
abbrev cX10_bits : ByteArray := prog_12_method_22_code
def yX10_bits : MethodName := ⟨RX10, "bits", "(J)I"⟩
abbrev cX10_about : ByteArray := prog_12_method_23_code
def yX10_about : MethodName := ⟨RX10, "about", "(II)I"⟩
abbrev cX10_power : ByteArray := prog_12_method_24_code
def yX10_power : MethodName := ⟨RX10, "power", "(II)I"⟩
abbrev cX10_areTaken : ByteArray := prog_12_method_25_code
def yX10_areTaken : MethodName := ⟨RX10, "areTaken", "(IIII)Z"⟩
abbrev cX10_taken : ByteArray := prog_12_method_26_code
def yX10_taken : MethodName := ⟨RX10, "taken", "(IIII)I"⟩
abbrev cX10_spell : ByteArray := prog_12_method_27_code
def yX10_spell : MethodName := ⟨RX10, "spell", "(III)Z"⟩
abbrev cX10_all : ByteArray := prog_12_method_28_code
def yX10_all : MethodName := ⟨RX10, "all", "()J"⟩
abbrev cX10_lowest : ByteArray := prog_12_method_29_code
def yX10_lowest : MethodName := ⟨RX10, "lowest", "(J)I"⟩
abbrev cX10_cover : ByteArray := prog_12_method_30_code
def yX10_cover : MethodName := ⟨RX10, "cover", "(JI)I"⟩
abbrev cX10_reaches : ByteArray := prog_12_method_31_code
def yX10_reaches : MethodName := ⟨RX10, "reaches", "(JI)Z"⟩
abbrev cX10_largest : ByteArray := prog_12_method_32_code
def yX10_largest : MethodName := ⟨RX10, "largest", "(J)I"⟩
abbrev cX10_most : ByteArray := prog_12_method_33_code
def yX10_most : MethodName := ⟨RX10, "most", "(II)I"⟩
abbrev cX10_word : ByteArray := prog_12_method_34_code
def yX10_word : MethodName := ⟨RX10, "word", "(I)I"⟩
abbrev cX10_waysOf : ByteArray := prog_12_method_35_code
def yX10_waysOf : MethodName := ⟨RX10, "waysOf", "(JI)I"⟩
abbrev cX10_ways : ByteArray := prog_12_method_36_code
def yX10_ways : MethodName := ⟨RX10, "ways", "(II)I"⟩
abbrev cX10_lonely : ByteArray := prog_12_method_37_code
def yX10_lonely : MethodName := ⟨RX10, "lonely", "(IIII)I"⟩
abbrev cX10_heapFrom : ByteArray := prog_12_method_38_code
def yX10_heapFrom : MethodName := ⟨RX10, "heapFrom", "(IIII)Z"⟩
abbrev cX10_heapsOf : ByteArray := prog_12_method_39_code
def yX10_heapsOf : MethodName := ⟨RX10, "heapsOf", "(I)I"⟩
abbrev cX10_heaps : ByteArray := prog_12_method_40_code
def yX10_heaps : MethodName := ⟨RX10, "heaps", "(I)I"⟩
abbrev cX10_heap : ByteArray := prog_12_method_41_code
def yX10_heap : MethodName := ⟨RX10, "heap", "(I)I"⟩
abbrev cX10_placeOf : ByteArray := prog_12_method_42_code
def yX10_placeOf : MethodName := ⟨RX10, "placeOf", "(II)I"⟩
abbrev cX10_row : ByteArray := prog_12_method_43_code
def yX10_row : MethodName := ⟨RX10, "row", "(IIII)I"⟩
abbrev cX10_product : ByteArray := prog_12_method_44_code
def yX10_product : MethodName := ⟨RX10, "product", "(III)I"⟩
abbrev cX10_stands : ByteArray := prog_12_method_45_code
def yX10_stands : MethodName := ⟨RX10, "stands", "(I)I"⟩
abbrev cX10_findBound : ByteArray := prog_12_method_46_code
def yX10_findBound : MethodName := ⟨RX10, "findBound", "(I)V"⟩
abbrev cX10_bound : ByteArray := prog_12_method_47_code
def yX10_bound : MethodName := ⟨RX10, "bound", "(II)I"⟩
abbrev cX10_raise : ByteArray := prog_12_method_48_code
def yX10_raise : MethodName := ⟨RX10, "raise", "([JIJI)V"⟩
abbrev cX10_held : ByteArray := prog_12_method_49_code
def yX10_held : MethodName := ⟨RX10, "held", "()I"⟩
abbrev cX10_heldRates : ByteArray := prog_12_method_50_code
def yX10_heldRates : MethodName := ⟨RX10, "heldRates", "(IIII)I"⟩
abbrev cX10_compare : ByteArray := prog_12_method_51_code
def yX10_compare : MethodName := ⟨RX10, "compare", "(IIII)I"⟩
abbrev cX10_bestOf : ByteArray := prog_12_method_52_code
def yX10_bestOf : MethodName := ⟨RX10, "bestOf", "(I)I"⟩
abbrev cX10_best : ByteArray := prog_12_method_53_code
def yX10_best : MethodName := ⟨RX10, "best", "(I)I"⟩
abbrev cX10_met : ByteArray := prog_12_method_54_code
def yX10_met : MethodName := ⟨RX10, "met", "(I)I"⟩
abbrev cX10_came : ByteArray := prog_12_method_55_code
def yX10_came : MethodName := ⟨RX10, "came", "(I)I"⟩
abbrev cX10_sent : ByteArray := prog_12_method_56_code
def yX10_sent : MethodName := ⟨RX10, "sent", "()I"⟩
abbrev cX10_isList : ByteArray := prog_12_method_57_code
def yX10_isList : MethodName := ⟨RX10, "isList", "(III)Z"⟩
abbrev cX10_list : ByteArray := prog_12_method_58_code
def yX10_list : MethodName := ⟨RX10, "list", "(II)I"⟩
abbrev cX10_listed : ByteArray := prog_12_method_59_code
def yX10_listed : MethodName := ⟨RX10, "listed", "()I"⟩
abbrev cX10_count : ByteArray := prog_12_method_60_code
def yX10_count : MethodName := ⟨RX10, "count", "(I)I"⟩
def RJ6 : String := "java/lang/Integer"
def TJ6 : u_T := fun k => match k with
  | _ => ("", "", "", false)
def tyJ6 : Nat → FieldType := fun k => match k with
  | _ => .int
abbrev wsJ60 : List Cond := u_ws RJ6 TJ6 0
theorem nmJ6 : ∀ a, a < 0 → ∀ b, b < 0 → a ≠ b → (TJ6 a).2.1 ≠ (TJ6 b).2.1 := by decide +kernel
theorem tyJ6_ok : ∀ k, k < 0 → parseFieldDescriptor (TJ6 k).2.2.1 = some (tyJ6 k) := by decide +kernel
abbrev cJ6_bitCount_0f7a4 : ByteArray := prog_13_method_49_code
def yJ6_bitCount_0f7a4 : MethodName := ⟨RJ6, "bitCount", "(I)I"⟩
def RJ13 : String := "java/lang/Long"
def TJ13 : u_T := fun k => match k with
  | _ => ("", "", "", false)
def tyJ13 : Nat → FieldType := fun k => match k with
  | _ => .int
abbrev wsJ130 : List Cond := u_ws RJ13 TJ13 0
theorem nmJ13 : ∀ a, a < 0 → ∀ b, b < 0 → a ≠ b → (TJ13 a).2.1 ≠ (TJ13 b).2.1 := by decide +kernel
theorem tyJ13_ok : ∀ k, k < 0 → parseFieldDescriptor (TJ13 k).2.2.1 = some (tyJ13 k) := by decide +kernel
abbrev cJ13_bitCount_95d88 : ByteArray := prog_14_method_50_code
def yJ13_bitCount_95d88 : MethodName := ⟨RJ13, "bitCount", "(J)I"⟩
def RJ9 : String := "java/lang/Math"
def TJ9 : u_T := fun k => match k with
  | _ => ("", "", "", false)
def tyJ9 : Nat → FieldType := fun k => match k with
  | _ => .int
abbrev wsJ90 : List Cond := u_ws RJ9 TJ9 0
theorem nmJ9 : ∀ a, a < 0 → ∀ b, b < 0 → a ≠ b → (TJ9 a).2.1 ≠ (TJ9 b).2.1 := by decide +kernel
theorem tyJ9_ok : ∀ k, k < 0 → parseFieldDescriptor (TJ9 k).2.2.1 = some (tyJ9 k) := by decide +kernel
abbrev cJ9_max_7cf53 : ByteArray := prog_15_method_65_code
def yJ9_max_7cf53 : MethodName := ⟨RJ9, "max", "(II)I"⟩
abbrev cJ9_max_f86c9 : ByteArray := prog_15_method_66_code
def yJ9_max_f86c9 : MethodName := ⟨RJ9, "max", "(JJ)J"⟩
abbrev cJ9_min_7cf53 : ByteArray := prog_15_method_69_code
def yJ9_min_7cf53 : MethodName := ⟨RJ9, "min", "(II)I"⟩
def RL : String := "NeverMistakenLaw"
abbrev cL_law : ByteArray := code
def yL_law : MethodName := ⟨RL, "law", "([I)Z"⟩
end
section
/-! ===== THE SMALL MACHINE: cells by number (0: the script; k + 1: the cell at base + k), shapes, ints, longs ===== -/
/-- kind (0: an object, 1: int[], 2: long[], 3: byte[], 4: Line[], 5: int[][]), class or length, references -/
abbrev zz_S : Type := Nat × Nat × (Nat → Option Nat)
/-- how many cells, and their shapes -/
abbrev zz_M : Type := Nat × (Nat → zz_S)
abbrev zz_I : Type := Nat → Nat → Int32
abbrev zz_J : Type := Nat → Nat → Int64
abbrev zz_Q : Type := Option Value → zz_M → zz_I → zz_J → Prop
/-- a method: its name, its code, its locals, its answer's type, the cells that it makes at most -/
abbrev zz_Y : Type := MethodName × ByteArray × Nat × Option FieldType × Nat
def zz_ad (base b : Nat) : Nat → Nat
  | 0 => b
  | k + 1 => base + k
def zz_tr (base b : Nat) : Value → Value
  | .ref a => .ref (zz_ad base b a)
  | v => v
theorem zz_tr_cat (base b : Nat) (v : Value) : (zz_tr base b v).category = v.category := by cases v <;> rfl
def zz_cl : List vw_C := [(RX0, TX0, 5), (RX1, TX1, 5), (RX2, TX2, 6), (RX3, TX3, 6), (RX4, TX4, 3), (RX5, TX5, 4), (RX6, TX6, 3), (RX7, TX7, 2), (RX8, TX8, 4), (RX9, TX9, 14), (RX10, TX10, 31)]
def zz_ty : Nat → Nat → FieldType
  | 0 => tyX0
  | 1 => tyX1
  | 2 => tyX2
  | 3 => tyX3
  | 4 => tyX4
  | 5 => tyX5
  | 6 => tyX6
  | 7 => tyX7
  | 8 => tyX8
  | 9 => tyX9
  | _ => tyX10
def zz_nf : Nat → Nat
  | 0 => 5
  | 1 => 5
  | 2 => 6
  | 3 => 6
  | 4 => 3
  | 5 => 4
  | 6 => 3
  | 7 => 2
  | 8 => 4
  | 9 => 14
  | _ => 31
/-- the words that go along with every call -/
def zz_tbl : List Cond := lw_tbl.filter goodWord
theorem zz_tbl_in : ∀ w ∈ zz_tbl, w ∈ lw_tbl := fun w h => (List.mem_filter.mp h).1
theorem zz_tbl_of {w : Cond} (h : w ∈ lw_tbl) (hg : goodWord w = true) : w ∈ zz_tbl := List.mem_filter.mpr ⟨h, hg⟩
theorem zz_tbl_good : ∀ w ∈ zz_tbl, goodWord w = true := fun w h => (List.mem_filter.mp h).2
/-- what a class's tables say, as the rows want it -/
def zz_ok (ci : Nat) (q : vw_C) : Prop := q.2.2 = zz_nf ci ∧ (∀ w ∈ u_ws q.1 q.2.1 q.2.2, w ∈ zz_tbl) ∧ (∀ k, k < q.2.2 → parseFieldDescriptor (q.2.1 k).2.2.1 = some (zz_ty ci k)) ∧ (∀ a, a < q.2.2 → ∀ b, b < q.2.2 → a ≠ b → (q.2.1 a).2.1 ≠ (q.2.1 b).2.1) ∧ ∀ k, k < q.2.2 → (q.2.1 k).1 = q.1
theorem zz_in0 : ∀ w ∈ u_ws RX0 TX0 5, w ∈ zz_tbl := by decide +kernel
theorem zz_in1 : ∀ w ∈ u_ws RX1 TX1 5, w ∈ zz_tbl := by decide +kernel
theorem zz_in2 : ∀ w ∈ u_ws RX2 TX2 6, w ∈ zz_tbl := by decide +kernel
theorem zz_in3 : ∀ w ∈ u_ws RX3 TX3 6, w ∈ zz_tbl := by decide +kernel
theorem zz_in4 : ∀ w ∈ u_ws RX4 TX4 3, w ∈ zz_tbl := by decide +kernel
theorem zz_in5 : ∀ w ∈ u_ws RX5 TX5 4, w ∈ zz_tbl := by decide +kernel
theorem zz_in6 : ∀ w ∈ u_ws RX6 TX6 3, w ∈ zz_tbl := by decide +kernel
theorem zz_in7 : ∀ w ∈ u_ws RX7 TX7 2, w ∈ zz_tbl := by decide +kernel
theorem zz_in8 : ∀ w ∈ u_ws RX8 TX8 4, w ∈ zz_tbl := by decide +kernel
theorem zz_in9 : ∀ w ∈ u_ws RX9 TX9 14, w ∈ zz_tbl := by decide +kernel
theorem zz_in10 : ∀ w ∈ u_ws RX10 TX10 31, w ∈ zz_tbl := by decide +kernel
theorem zz_oks (ci : Nat) (q : vw_C) (h : zz_cl[ci]? = some q) : zz_ok ci q := by
  match ci, h with
  | 0, h => cases h; exact ⟨rfl, zz_in0, tyX0_ok, nmX0, by decide +kernel⟩
  | 1, h => cases h; exact ⟨rfl, zz_in1, tyX1_ok, nmX1, by decide +kernel⟩
  | 2, h => cases h; exact ⟨rfl, zz_in2, tyX2_ok, nmX2, by decide +kernel⟩
  | 3, h => cases h; exact ⟨rfl, zz_in3, tyX3_ok, nmX3, by decide +kernel⟩
  | 4, h => cases h; exact ⟨rfl, zz_in4, tyX4_ok, nmX4, by decide +kernel⟩
  | 5, h => cases h; exact ⟨rfl, zz_in5, tyX5_ok, nmX5, by decide +kernel⟩
  | 6, h => cases h; exact ⟨rfl, zz_in6, tyX6_ok, nmX6, by decide +kernel⟩
  | 7, h => cases h; exact ⟨rfl, zz_in7, tyX7_ok, nmX7, by decide +kernel⟩
  | 8, h => cases h; exact ⟨rfl, zz_in8, tyX8_ok, nmX8, by decide +kernel⟩
  | 9, h => cases h; exact ⟨rfl, zz_in9, tyX9_ok, nmX9, by decide +kernel⟩
  | 10, h => cases h; exact ⟨rfl, zz_in10, tyX10_ok, nmX10, by decide +kernel⟩
  | n + 11, h => simp [zz_cl] at h
/-- what a field holds -/
def zz_fv (ad : Nat → Nat) (t : FieldType) (i : Int32) (j : Int64) (r : Option Nat) : Value := match t with
  | .int => .int i
  | .long => .long j
  | _ => va_rf (r.map ad)
def zz_aty : Nat → FieldType
  | 1 => .int
  | 2 => .long
  | 3 => .byte
  | 4 => .object "NeverMistaken$Line"
  | _ => .array .int
def zz_tys (cT : Nat → ClassId) : List (ClassId × FieldType) := [(cT 1, .int), (cT 2, .long), (cT 3, .byte), (cT 4, .object "NeverMistaken$Line"), (cT 5, .array .int)]
/-- the cell a as the kit's worlds have it -/
def zz_E (ad : Nat → Nat) (cT : Nat → ClassId) (S : zz_S) (i : Nat → Int32) (j : Nat → Int64) : va_E := match S.1 with
  | 0 => .inr (S.2.1, (List.range (zz_nf S.2.1)).map fun k => zz_fv ad (zz_ty S.2.1 k) (i k) (j k) (S.2.2 k))
  | 1 => .inl (cT 1, S.2.1, .inl i)
  | 2 => .inl (cT 2, S.2.1, .inr (.inl j))
  | 3 => .inl (cT 3, S.2.1, .inl i)
  | 4 => .inl (cT 4, S.2.1, .inr (.inr (.inr (.inr (fun k => (S.2.2 k).map ad)))))
  | _ => .inl (cT 5, S.2.1, .inr (.inr (.inr (.inr (fun k => (S.2.2 k).map ad)))))
def zz_W (base b : Nat) (D : va_G) (cT : Nat → ClassId) (M : zz_M) (I : zz_I) (J : zz_J) (H : Heap) : Prop :=
  H.size = base + M.1 ∧ ∀ k, k < M.1 → va_at D zz_cl (base + k, zz_E (zz_ad base b) cT (M.2 (k + 1)) (I (k + 1)) (J (k + 1))) H
def zz_X (base b : Nat) (M : zz_M) (I : zz_I) (U : State) (H : Heap) : Prop := b < base ∧ (M.2 0).1 = 1 ∧ va_X b (M.2 0).2.1 (I 0) U H
def zz_nest : List Cond := lw_tbl.filter fun w => match w with
  | .methodLinkNest _ _ _ _ => true
  | _ => false
def zz_AOA (U : State) : Prop := (Cond.arrayOver (.array .int)).before #[] U = true
def zz_K (D : va_G) (cT : Nat → ClassId) (U : State) : Prop := va_K D zz_cl (zz_tys cT) U ∧ (∀ w ∈ zz_nest, va_Nw w U) ∧ va_AO "NeverMistaken$Line" U ∧ zz_AOA U
theorem zz_AOA.moved {u U : State} (hvm : u.vm.Alike U.vm) (h : zz_AOA u) : zz_AOA U := by
  obtain ⟨comp, c, k, h1, h2, h3, h4, h5⟩ := arrayOverA_spec h
  obtain ⟨k', hk', he⟩ := hvm.2.2 _ _ h3
  have hi0 := (va_idx_bare U.vm comp).symm
  first | rw [hvm.bare_eq] at hi0 | rw [← hvm.bare_eq] at hi0
  rw [va_idx_bare] at hi0
  have hi := hi0.trans h2
  have hkind : k'.kind = .array comp (.array .int) := by rw [he]; exact h4
  have f1 : U.vm.findClass (FieldType.array .int).toString = some comp := by rw [hvm.findClass]; exact h1
  have f2 : U.vm.findClass ("[" ++ (FieldType.array .int).toString) = some c := by rw [hvm.findClass]; exact h5
  unfold zz_AOA Cond.before Cond.holds
  simp only [Cond.value]
  rw [f1, Option.bind_some]
  refine (congrArg (fun o : Option Nat => (o.bind (fun c => (U.vm.classes[c]?).map fun (k : Class) => match k.kind with | .array _ ty => decide (ty = FieldType.array .int) && decide (U.vm.findClass ("[" ++ (FieldType.array .int).toString) = some c) | _ => false) == some true)) hi).trans ?_
  simp [hk', hkind, f2]
theorem zz_K.moved {D : va_G} {cT : Nat → ClassId} {u U : State} (hW : u.WarmedH U.vm) (h : zz_K D cT u) : zz_K D cT U := by
  refine ⟨va_K.moved hW.alike h.1, fun w hw => ?_, va_AO.moved hW.alike h.2.2.1, zz_AOA.moved hW.alike h.2.2.2⟩
  have h1 := h.2.1 w hw
  have h2 := (List.mem_filter.mp hw).2
  cases w <;> simp at h2
  exact va_Nw.warmM hW h1
theorem zz_K.called {D : va_G} {cT : Nat → ClassId} {U : State} {a : Array Value} {g : JFrame} {mk : MethodId} (h : zz_K D cT U) : zz_K D cT (U.calling g mk a) := by
  refine ⟨va_K.moved (u := U) (Vm.Alike.refl U.vm) h.1, fun w hw => ?_, va_AO.moved (u := U) (Vm.Alike.refl U.vm) h.2.2.1, zz_AOA.moved (u := U) (Vm.Alike.refl U.vm) h.2.2.2⟩
  have h1 := h.2.1 w hw
  have h2 := (List.mem_filter.mp hw).2
  cases w <;> simp at h2
  exact va_tabs rfl (rfl : U.vm = (U.calling g mk a).vm) h1
/-! ===== locals ===== -/
def zz_L (base b : Nat) (arr : Array Slot) (n : Nat) (ls : List (Option Value)) : Prop := arr.size = n ∧ lv_wf arr ∧ ∀ (i : Nat) (v : Value), ls[i]? = some (some v) → arr[i]? = some (.val (zz_tr base b v))
/-- a long whose second half is overwritten is gone -/
def zz_kill (ls : List (Option Value)) : Nat → List (Option Value)
  | 0 => ls
  | j + 1 => match ls[j]? with
    | some (some (.long _)) => ls.set j none
    | some (some (.double _)) => ls.set j none
    | _ => ls
def zz_s1 (ls : List (Option Value)) (i : Nat) (v : Value) : List (Option Value) := (zz_kill ls i).set i (some v)
def zz_s2 (ls : List (Option Value)) (i : Nat) (v : Value) : List (Option Value) := ((zz_kill ls i).set i (some v)).set (i + 1) none
theorem zz_kill_get {ls : List (Option Value)} {i j : Nat} {w : Value} (h : (zz_kill ls i)[j]? = some (some w)) : ls[j]? = some (some w) ∧ ¬ (j + 1 = i ∧ w.category = 2) := by
  cases i with
  | zero => exact ⟨h, fun q => by omega⟩
  | succ i =>
    unfold zz_kill at h
    by_cases hj : j = i
    · subst hj
      cases hx : ls[j]? with
      | none => simp [hx] at h
      | some o =>
        cases o with
        | none => simp [hx] at h
        | some v =>
          cases v <;> simp [hx] at h <;> first | (subst h; refine ⟨rfl, fun q => ?_⟩; simp [Value.category] at q; done) | (rw [List.getElem?_set_self'] at h; simp [hx] at h; done)
    · have : (zz_kill ls (i + 1))[j]? = ls[j]? := by
        have hs : (ls.set i none)[j]? = ls[j]? := List.getElem?_set_ne (Ne.symm hj)
        cases hx : ls[i]? with
        | none => simp [zz_kill, hx]
        | some o =>
          cases o with
          | none => simp [zz_kill, hx]
          | some v => cases v <;> simp [zz_kill, hx, hs]
      unfold zz_kill at this
      rw [this] at h
      exact ⟨h, fun q => by omega⟩
/-- all that the locals hold, as the kit lists it -/
def zz_al (base b : Nat) (ls : List (Option Value)) : List (Nat × Value) := (List.range ls.length).filterMap fun i => match ls[i]? with
  | some (some v) => some (i, zz_tr base b v)
  | _ => none
theorem zz_al_mem {base b : Nat} {ls : List (Option Value)} {q : Nat × Value} : q ∈ zz_al base b ls ↔ ∃ v, ls[q.1]? = some (some v) ∧ q.2 = zz_tr base b v := by
  unfold zz_al
  rw [List.mem_filterMap]
  constructor
  · rintro ⟨i, -, h⟩
    split at h
    · rename_i v hv
      cases h
      exact ⟨v, hv, rfl⟩
    · cases h
  · rintro ⟨v, h1, h2⟩
    refine ⟨q.1, List.mem_range.mpr (List.getElem?_eq_some_iff.mp h1).1, ?_⟩
    rw [h1]
    simp [← h2]
theorem zz_L.has {base b n : Nat} {arr : Array Slot} {ls : List (Option Value)} (h : zz_L base b arr n ls) : lv_has arr n (zz_al base b ls) := by
  refine ⟨h.1, h.2.1, fun q hq => ?_⟩
  obtain ⟨v, h1, h2⟩ := zz_al_mem.mp hq
  rw [h2]
  exact h.2.2 _ _ h1
theorem zz_L.store1 {base b n i : Nat} {arr : Array Slot} {ls : List (Option Value)} {v : Value} (h : lv_has arr n ((i, zz_tr base b v) :: (zz_al base b ls).filter (fun q => !(q.1 == i) && !(q.1 + 1 == i && q.2.category == 2)))) : zz_L base b arr n (zz_s1 ls i v) := by
  refine ⟨h.1, h.2.1, fun j w hj => ?_⟩
  unfold zz_s1 at hj
  by_cases e : j = i
  · subst e
    rw [List.getElem?_set_self'] at hj
    cases hx : (zz_kill ls j)[j]? with
    | none => simp [hx] at hj
    | some o =>
      simp [hx] at hj
      subst hj
      exact h.2.2 _ List.mem_cons_self
  · rw [List.getElem?_set_ne (Ne.symm e)] at hj
    obtain ⟨h1, h2⟩ := zz_kill_get hj
    refine h.2.2 (j, zz_tr base b w) (List.mem_cons_of_mem _ (List.mem_filter.mpr ⟨zz_al_mem.mpr ⟨w, h1, rfl⟩, ?_⟩))
    simp only [zz_tr_cat, Bool.and_eq_true, Bool.not_eq_true', beq_eq_false_iff_ne, ne_eq, Bool.and_eq_false_iff]
    refine ⟨e, ?_⟩
    by_cases q : j + 1 = i
    · exact Or.inr (fun c => h2 ⟨q, c⟩)
    · exact Or.inl q
theorem zz_L.store2 {base b n i : Nat} {arr : Array Slot} {ls : List (Option Value)} {v : Value} (h : lv_has arr n ((i, zz_tr base b v) :: (zz_al base b ls).filter (fun q => !(q.1 == i) && (!(q.1 == i + 1) && !(q.1 + 1 == i && q.2.category == 2))))) : zz_L base b arr n (zz_s2 ls i v) := by
  refine ⟨h.1, h.2.1, fun j w hj => ?_⟩
  unfold zz_s2 at hj
  by_cases e2 : j = i + 1
  · subst e2
    rw [List.getElem?_set_self'] at hj
    cases hx : ((zz_kill ls i).set i (some v))[i + 1]? with
    | none => simp [hx] at hj
    | some o => simp [hx] at hj
  rw [List.getElem?_set_ne (Ne.symm e2)] at hj
  by_cases e : j = i
  · subst e
    rw [List.getElem?_set_self'] at hj
    cases hx : (zz_kill ls j)[j]? with
    | none => simp [hx] at hj
    | some o =>
      simp [hx] at hj
      subst hj
      exact h.2.2 _ List.mem_cons_self
  · rw [List.getElem?_set_ne (Ne.symm e)] at hj
    obtain ⟨h1, h2⟩ := zz_kill_get hj
    refine h.2.2 (j, zz_tr base b w) (List.mem_cons_of_mem _ (List.mem_filter.mpr ⟨zz_al_mem.mpr ⟨w, h1, rfl⟩, ?_⟩))
    simp only [zz_tr_cat, Bool.and_eq_true, Bool.not_eq_true', beq_eq_false_iff_ne, ne_eq, Bool.and_eq_false_iff]
    refine ⟨e, e2, ?_⟩
    by_cases q : j + 1 = i
    · exact Or.inr (fun c => h2 ⟨q, c⟩)
    · exact Or.inl q
/-- the locals at a method's entry -/
def zz_fl : List Value → List (Option Value)
  | [] => []
  | .long x :: vs => some (.long x) :: none :: zz_fl vs
  | .double x :: vs => some (.double x) :: none :: zz_fl vs
  | v :: vs => some v :: zz_fl vs
def zz_ent (n : Nat) (vs : List Value) : List (Option Value) := zz_fl vs ++ List.replicate (n - (zz_fl vs).length) none
theorem zz_fl_len (vs : List Value) (base b : Nat) : (lg_sl (vs.map (zz_tr base b))).length = (zz_fl vs).length := by
  induction vs with
  | nil => rfl
  | cons v vs ih => cases v <;> simpa [lg_sl, zz_fl, zz_tr, Value.category] using ih
theorem zz_fl_get (base b : Nat) : ∀ (vs : List Value) (o i : Nat) (v : Value), (zz_fl vs)[i]? = some (some v) → (o + i, zz_tr base b v) ∈ lv_args o (vs.map (zz_tr base b)) := by
  intro vs
  induction vs with
  | nil => intro o i v h; simp [zz_fl] at h
  | cons w vs ih =>
    intro o i v h
    have one : ∀ (u : Value), u.category = 1 → zz_fl (u :: vs) = some u :: zz_fl vs → (zz_fl (u :: vs))[i]? = some (some v) → (o + i, zz_tr base b v) ∈ lv_args o ((u :: vs).map (zz_tr base b)) := by
      intro u hu e h
      rw [e] at h
      have hc : (zz_tr base b u).category ≠ 2 := by rw [zz_tr_cat, hu]; decide
      simp only [List.map_cons, lv_args, if_neg hc]
      cases i with
      | zero => simp at h; subst h; exact List.mem_cons_self
      | succ i =>
        simp at h
        have := ih (o + 1) i v h
        rw [show o + (i + 1) = o + 1 + i by omega]
        exact List.mem_cons_of_mem _ this
    have two : ∀ (u : Value), u.category = 2 → zz_fl (u :: vs) = some u :: none :: zz_fl vs → (zz_fl (u :: vs))[i]? = some (some v) → (o + i, zz_tr base b v) ∈ lv_args o ((u :: vs).map (zz_tr base b)) := by
      intro u hu e h
      rw [e] at h
      have hc : (zz_tr base b u).category = 2 := by rw [zz_tr_cat, hu]
      simp only [List.map_cons, lv_args, if_pos hc]
      match i, h with
      | 0, h => simp at h; subst h; exact List.mem_cons_self
      | 1, h => simp at h
      | i + 2, h =>
        simp at h
        have := ih (o + 2) i v h
        rw [show o + (i + 2) = o + 2 + i by omega]
        exact List.mem_cons_of_mem _ this
    cases w with
    | long x => exact two (.long x) rfl rfl h
    | double x => exact two (.double x) rfl rfl h
    | int x => exact one (.int x) rfl rfl h
    | float x => exact one (.float x) rfl rfl h
    | null => exact one .null rfl rfl h
    | ref x => exact one (.ref x) rfl rfl h
    | retAddr x => exact one (.retAddr x) rfl rfl h
theorem zz_L.entry {base b n : Nat} {vs : List Value} (h : (zz_fl vs).length ≤ n) : zz_L base b ((lg_sl (vs.map (zz_tr base b)) ++ List.replicate (n - (lg_sl (vs.map (zz_tr base b))).length) Slot.unset).toArray) n (zz_ent n vs) := by
  have h0 := lv_entry (vs.map (zz_tr base b)) (n := n) (by rw [zz_fl_len]; exact h)
  refine ⟨h0.1, h0.2.1, fun i v hi => ?_⟩
  unfold zz_ent at hi
  by_cases hl : i < (zz_fl vs).length
  · rw [List.getElem?_append_left hl] at hi
    have := zz_fl_get base b vs 0 i v hi
    rw [Nat.zero_add] at this
    exact h0.2.2 _ this
  · rw [List.getElem?_append_right (by omega)] at hi
    have := List.eq_of_mem_replicate (List.mem_of_getElem? hi)
    cases this
end
section
/-! ===== the judgement: from here the machine comes to an end with Q ===== -/
/-- a cell that the worlds hold: its kind, its class or length -/
def zz_is (M : zz_M) (a t n : Nat) : Prop := 0 < a ∧ a ≤ M.1 ∧ (M.2 a).1 = t ∧ (M.2 a).2.1 = n
def zz_R (r : Option FieldType) (ins : Instr) (v : Option Value) : Prop :=
  (ins = .ireturn ∧ ∃ (x : Int32) (ty : FieldType), v = some (.int x) ∧ r = some ty ∧ narrow ty (.int x) = .int x) ∨ (ins = .lreturn ∧ ∃ x : Int64, v = some (.long x) ∧ r = some .long) ∨
  (ins = .areturn ∧ ∃ n : String, r = some (.object n) ∧ (v = some .null ∨ ∃ a : Nat, v = some (.ref a))) ∨ (ins = .return_ ∧ v = none ∧ r = none)
def zz_C (y : zz_Y) (d : Nat) (p : Program) (R : Room) (t0 : State) (m : MethodId) (args : Array Value) (meth : Method) (c : Code) (base : Nat) (D : va_G) (cT : Nat → ClassId) : Prop :=
  p.tables.exec = Jvm.exec ∧ c.code = y.2.1 ∧ c.maxLocals = y.2.2.1 ∧ t0.vm.findClass y.1.cls = some m.cls ∧ (∀ w ∈ zz_tbl, w.before args t0 = true) ∧ zz_K D cT t0 ∧ base ≤ t0.heap.size ∧ d ≤ R.frames ∧ 100 * d ≤ R.locals ∧ y.2.2.2.2 ≤ R.cells ∧ 1200 * y.2.2.2.2 ≤ R.slots ∧ (y.1.name = "<init>" → meth.name = "<init>")
def zz_Z (y : zz_Y) (Q : zz_Q) (p : Program) (l : Launch) (e : Env) (R : Room) (t0 : State) (m : MethodId) (args : Array Value) (below : List Frame) (meth : Method) (c : Code) (Z : State → Prop) (base b : Nat) (D : va_G) (cT : Nat → ClassId) : Prop :=
  ∀ (k pc : Nat) (H : Heap) (locs : List Loc) (arr : Array Slot) (ins : Instr) (v : Option Value) (M : zz_M) (I : zz_I) (J : zz_J), decode y.2.1 pc = .ok (ins, 1) → zz_R y.2.2.2.1 ins v → k ≤ y.2.2.2.2 → zz_W base b D cT M I J H → zz_X base b M I t0 H → va_S (fun q => base ≤ q) t0.heap H locs → Q v M I J →
    W p l e R t0 m args below meth c H locs k (1200 * k) Z (F0 m pc arr ((v.map (zz_tr base b)).toList))
def zz_H (y : zz_Y) (d k : Nat) (ls : List (Option Value)) (M : zz_M) (I : zz_I) (J : zz_J) (Q : zz_Q) (p : Program) (l : Launch) (e : Env) (R : Room) (t0 : State) (m : MethodId) (args : Array Value) (below : List Frame) (meth : Method) (c : Code) (Z : State → Prop) (base b : Nat) (D : va_G) (cT : Nat → ClassId) (H : Heap) (locs : List Loc) (arr : Array Slot) : Prop :=
  zz_C y d p R t0 m args meth c base D cT ∧ zz_Z y Q p l e R t0 m args below meth c Z base b D cT ∧ k ≤ y.2.2.2.2 ∧ zz_L base b arr y.2.2.1 ls ∧ zz_W base b D cT M I J H ∧ zz_X base b M I t0 H ∧ va_S (fun q => base ≤ q) t0.heap H locs
/-- from pc, with these locals, this stack, these cells, method y comes to its end, and Q holds of its answer and of the cells then -/
def zz_G (y : zz_Y) (d k pc : Nat) (ls : List (Option Value)) (st : List Value) (M : zz_M) (I : zz_I) (J : zz_J) (Q : zz_Q) : Prop :=
  ∀ (p : Program) (l : Launch) (e : Env) (R : Room) (t0 : State) (m : MethodId) (args : Array Value) (below : List Frame) (meth : Method) (c : Code) (Z : State → Prop) (base b : Nat) (D : va_G) (cT : Nat → ClassId) (H : Heap) (locs : List Loc) (arr : Array Slot),
    zz_H y d k ls M I J Q p l e R t0 m args below meth c Z base b D cT H locs arr → W p l e R t0 m args below meth c H locs k (1200 * k) Z (F0 m pc arr (st.map (zz_tr base b)))
def zz_rm (y : zz_Y) (d : Nat) : Room := { frames := d, cells := y.2.2.2.2, slots := 1200 * y.2.2.2.2, locals := 100 * d }
def zz_ws (y : zz_Y) : List Cond := Cond.code y.1 y.2.1 y.2.2.1 y.2.2.2.1 :: zz_tbl
def zz_Pc (base b : Nat) (D : va_G) (cT : Nat → ClassId) (As : List Value) (M : zz_M) (I : zz_I) (J : zz_J) : Array Value → State → Prop := fun v U => v = (As.map (zz_tr base b)).toArray ∧ zz_W base b D cT M I J U.heap ∧ zz_X base b M I U U.heap ∧ zz_K D cT U
def zz_Qc (base b : Nat) (D : va_G) (cT : Nat → ClassId) (Q : zz_Q) : Array Value → State → Outcome → State → Prop := fun _ st o t => (∃ (v : Option Value) (M : zz_M) (I : zz_I) (J : zz_J), o = .returned (v.map (zz_tr base b)) ∧ Q v M I J ∧ zz_W base b D cT M I J t.heap ∧ zz_X base b M I t t.heap) ∧ va_F (fun q => base ≤ q) st t
/-- the method y, called with As at these cells, returns, and Q holds of its answer and of the cells then -/
def zz_D (y : zz_Y) (d : Nat) (As : List Value) (M : zz_M) (I : zz_I) (J : zz_J) (Q : zz_Q) : Prop :=
  ∀ (l : Launch) (base b : Nat) (D : va_G) (cT : Nat → ClassId), Met l y.1 (zz_ws y) (zz_rm y d) (zz_Pc base b D cT As M I J) (zz_Qc base b D cT Q) y.2.2.2.2 (1200 * y.2.2.2.2) (fun q => base ≤ q)
theorem zz_X.moved {base b : Nat} {M : zz_M} {I : zz_I} {u U : State} {H : Heap} (hvm : u.vm.Alike U.vm) (h : zz_X base b M I u H) : zz_X base b M I U H := ⟨h.1, h.2.1, h.2.2.moved hvm⟩
theorem zz_D_of {y : zz_Y} {d : Nat} {As : List Value} {M : zz_M} {I : zz_I} {J : zz_J} {Q : zz_Q} (hy : plainName y.1.cls = true) (hf : (zz_fl As).length ≤ y.2.2.1) (h : zz_G y d 0 0 (zz_ent y.2.2.1 As) [] M I J Q) : zz_D y d As M I J Q := by
  intro l base b D cT
  refine Met.ofW (cc := y.2.1) (maxL := y.2.2.1) (ret := y.2.2.2.1) hy rfl ?_
  intro p e s m args below meth c s₁ B hml hv
  obtain ⟨rfl, hW, hX, hK⟩ := hv
  have hts := atoms_spec (ws := zz_ws y) B.pre
  have hown : s.vm.findClass y.1.cls = some m.cls := findClass_of_methodNamed B.named
  have hin : meth.name = y.1.name := (name_of_methodNamed B.named B.method).1
  have hr := B.returns
  have hlocks := B.notSynchronized
  rw [lg_entry_eq]
  refine h p l e (zz_rm y d) s m _ below meth c _ base b D cT s.heap [] _ ⟨⟨B.exec, B.bytes, hml, hown, fun w hw => hts w (List.mem_cons_of_mem _ hw), hK, by rw [hW.1]; omega, Nat.le_refl _, Nat.le_refl _, Nat.le_refl _, Nat.le_refl _, fun h => hin.trans h⟩, ?_, Nat.zero_le _, zz_L.entry hf, hW, hX, va_S.rf⟩
  intro k pc H locs arr ins v M' I' J' hd hR hk hW' hX' hS hQ
  have hq : ∀ (o : Option Value), o = v.map (zz_tr base b) → ∀ t : State, t.heap = H → s.WarmedH t.vm → zz_Qc base b D cT Q (As.map (zz_tr base b)).toArray s (.returned o) t := by
    intro o ho t ht hw
    subst ho
    refine ⟨⟨v, M', I', J', rfl, hQ, by rw [ht]; exact hW', ?_⟩, hS.F ht⟩
    rw [ht]
    exact hX'.moved hw.alike
  refine W.widen (k := y.2.2.2.2) (n := 1200 * y.2.2.2.2) hk (Nat.mul_le_mul_left _ hk) ?_
  rcases hR with ⟨rfl, x, ty, rfl, h1, h2⟩ | ⟨rfl, x, rfl, h1⟩ | ⟨rfl, n, h1, h2⟩ | ⟨rfl, rfl, h1⟩
  · exact W.zret (ty := ty) B.exec B.bytes (hr.trans h1) h2 (hq _ rfl) hS.2.2 hd hlocks
  · exact W.lret B.exec B.bytes (hr.trans h1) (hq _ rfl) hS.2.2 hd hlocks
  · rcases h2 with rfl | ⟨a, rfl⟩
    · exact W.aret B.exec B.bytes (hr.trans h1) (Or.inl ⟨n, rfl⟩) (Or.inl rfl) (hq _ rfl) hS.2.2 hd hlocks
    · exact W.aret B.exec B.bytes (hr.trans h1) (Or.inl ⟨n, rfl⟩) (Or.inr ⟨_, rfl⟩) (hq _ rfl) hS.2.2 hd hlocks
  · exact W.vret B.exec B.bytes (hr.trans h1) (hq _ rfl) hS.2.2 hd hlocks
theorem zz_Pc.blind {base b : Nat} {D : va_G} {cT : Nat → ClassId} {As : List Value} {M : zz_M} {I : zz_I} {J : zz_J} : FrameBlind (zz_Pc base b D cT As M I J) := by
  intro a U g mk h
  exact ⟨h.1, h.2.1, zz_X.moved (u := U) (U := U.calling g mk a) (Vm.Alike.refl U.vm) h.2.2.1, h.2.2.2.called⟩
theorem zz_Pc.at {base b : Nat} {D : va_G} {cT : Nat → ClassId} {As : List Value} {M : zz_M} {I : zz_I} {J : zz_J} {t0 : State} {H : Heap} (hW : zz_W base b D cT M I J H) (hX : zz_X base b M I t0 H) (hK : zz_K D cT t0) : ∀ U : State, U.heap = H → t0.WarmedH U.vm → zz_Pc base b D cT As M I J (As.map (zz_tr base b)).toArray U := by
  intro U hU hw
  refine ⟨rfl, by rw [hU]; exact hW, ?_, hK.moved hw⟩
  rw [hU]
  exact hX.moved hw.alike
/-- behind a call -/
theorem zz_back {y : zz_Y} {d k mc pc : Nat} {ls : List (Option Value)} {st st0 : List Value} {Q Q' : zz_Q} {p : Program} {l : Launch} {e : Env} {R : Room} {t0 : State} {m : MethodId} {args : Array Value} {below : List Frame} {meth : Method} {c : Code} {Z : State → Prop} {base b : Nat} {D : va_G} {cT : Nat → ClassId} {H : Heap} {locs : List Loc} {arr : Array Slot} {av : Array Value}
    (hC : zz_C y d p R t0 m args meth c base D cT) (hZ : zz_Z y Q p l e R t0 m args below meth c Z base b D cT) (hk : k + mc ≤ y.2.2.2.2) (hL : zz_L base b arr y.2.2.1 ls) (hS : va_S (fun q => base ≤ q) t0.heap H locs)
    (hr : va_Run p l e R t0 m args below meth c H locs k (1200 * k) mc (1200 * mc) (F0 m pc arr st0) (st.map (zz_tr base b)) (zz_Qc base b D cT Q' av) (fun q => base ≤ q))
    (kk : ∀ (v : Option Value) (M' : zz_M) (I' : zz_I) (J' : zz_J), Q' v M' I' J' → zz_G y d (k + mc) (pc + 3) ls (v.toList ++ st) M' I' J' Q) : W p l e R t0 m args below meth c H locs k (1200 * k) Z (F0 m pc arr st0) := by
  intro T hT X
  obtain ⟨v, st₀, t, T', L, h0, X', hLo, e1, e2, ⟨⟨w, M', I', J', hv, hq, hW', hX'⟩, hz, hkk⟩, stp⟩ := hr T hT X
  cases hv
  rw [h0] at hz hkk
  have hS' : va_S (fun q => base ≤ q) t0.heap T'.heap (locs ++ L) := by
    refine ⟨Nat.le_trans hS.1 (by rw [e1]; exact hz), fun q h1 h2 => ?_, fun q hq => ?_⟩
    · rw [e1, hkk q (Nat.lt_of_lt_of_le h1 hS.1) h2]
      exact hS.2.1 q h1 h2
    · rcases List.mem_append.mp hq with h | h
      · exact hS.2.2 q h
      · exact hLo q h
  rw [← Nat.mul_add] at X'
  obtain ⟨t2, a1, b1⟩ := kk w M' I' J' hq p l e R t0 m args below meth c Z base b D cT T'.heap (locs ++ L) arr ⟨hC, hZ, hk, hL, by rw [e1]; exact hW', by rw [e1]; exact hX'.moved (by rw [← e2]; exact X'.warmed.alike.symm), hS'⟩ T' rfl X'
  refine ⟨t2, stp t2 ?_, b1⟩
  have hh : (w.toList ++ st).map (zz_tr base b) = (w.map (zz_tr base b)).toList ++ st.map (zz_tr base b) := by cases w <;> simp
  rw [hh] at a1
  exact a1
end
section
/-! ===== rows: an instruction each ===== -/
def jv_ushr (x z : Int32) : Int32 := (x.toUInt32 >>> (z.toUInt32 &&& Int32.toUInt32 31)).toInt32
def jv_lushr (x : Int64) (z : Int32) : Int64 := (x.toUInt64 >>> (z.toInt64.toUInt64 &&& Int64.toUInt64 63)).toInt64
def jv_lshl (x : Int64) (z : Int32) : Int64 := x <<< (z.toInt64 &&& 63)
def jv_lshr (x : Int64) (z : Int32) : Int64 := x >>> (z.toInt64 &&& 63)
def jv_b (x : Int32) : Int32 := x.toInt8.toInt32
def jv_rem (x z : Int32) : Int32 := x - x / z * z
def jv_lrem (x z : Int64) : Int64 := x - x / z * z
section ZR
variable {y : zz_Y} {d k pc : Nat} {ls : List (Option Value)} {st : List Value} {M : zz_M} {I : zz_I} {J : zz_J} {Q : zz_Q}
theorem zz_iconst {n : Int} {v : Int32} (hv : Int32.ofInt n = v) (hd : decode y.2.1 pc = .ok (.iconst n, 1)) (kk : zz_G y d k (pc + 1) ls (.int v :: st) M I J Q) : zz_G y d k pc ls (st) M I J Q := by
  intro p l e R t0 m args below meth c Z base b D cT H locs arr hh
  obtain ⟨hC, hZ, hk, hL, hW, hX, hS⟩ := hh
  exact lv_iconst hC.1 hC.2.1 hd hv (kk p l e R t0 m args below meth c Z base b D cT H locs arr ⟨hC, hZ, hk, hL, hW, hX, hS⟩)
theorem zz_bipush {n : Int} {v : Int32} (hv : (Int8.ofInt n).toInt32 = v) (hd : decode y.2.1 pc = .ok (.bipush n, 2)) (kk : zz_G y d k (pc + 2) ls (.int v :: st) M I J Q) : zz_G y d k pc ls (st) M I J Q := by
  intro p l e R t0 m args below meth c Z base b D cT H locs arr hh
  obtain ⟨hC, hZ, hk, hL, hW, hX, hS⟩ := hh
  exact lv_bipush hC.1 hC.2.1 hd hv (kk p l e R t0 m args below meth c Z base b D cT H locs arr ⟨hC, hZ, hk, hL, hW, hX, hS⟩)
theorem zz_sipush {n : Int} {v : Int32} (hv : (Int16.ofInt n).toInt32 = v) (hd : decode y.2.1 pc = .ok (.sipush n, 3)) (kk : zz_G y d k (pc + 3) ls (.int v :: st) M I J Q) : zz_G y d k pc ls (st) M I J Q := by
  intro p l e R t0 m args below meth c Z base b D cT H locs arr hh
  obtain ⟨hC, hZ, hk, hL, hW, hX, hS⟩ := hh
  exact lv_sipush hC.1 hC.2.1 hd hv (kk p l e R t0 m args below meth c Z base b D cT H locs arr ⟨hC, hZ, hk, hL, hW, hX, hS⟩)
theorem zz_lconst {n : Fin 2} {v : Int64} (hv : Int64.ofNat (n : Nat) = v) (hd : decode y.2.1 pc = .ok (.lconst n, 1)) (kk : zz_G y d k (pc + 1) ls (.long v :: st) M I J Q) : zz_G y d k pc ls (st) M I J Q := by
  intro p l e R t0 m args below meth c Z base b D cT H locs arr hh
  obtain ⟨hC, hZ, hk, hL, hW, hX, hS⟩ := hh
  exact lv_lconst hC.1 hC.2.1 hd hv (kk p l e R t0 m args below meth c Z base b D cT H locs arr ⟨hC, hZ, hk, hL, hW, hX, hS⟩)
theorem zz_null  (hd : decode y.2.1 pc = .ok (.aconst_null, 1)) (kk : zz_G y d k (pc + 1) ls (.null :: st) M I J Q) : zz_G y d k pc ls (st) M I J Q := by
  intro p l e R t0 m args below meth c Z base b D cT H locs arr hh
  obtain ⟨hC, hZ, hk, hL, hW, hX, hS⟩ := hh
  exact lv_null hC.1 hC.2.1 hd (kk p l e R t0 m args below meth c Z base b D cT H locs arr ⟨hC, hZ, hk, hL, hW, hX, hS⟩)
theorem zz_ldc {n : Nat} {v : Int32} (hw : Cond.constant y.1.cls n v ∈ zz_tbl) (hd : decode y.2.1 pc = .ok (.ldc n, 2)) (kk : zz_G y d k (pc + 2) ls (.int v :: st) M I J Q) : zz_G y d k pc ls (st) M I J Q := by
  intro p l e R t0 m args below meth c Z base b D cT H locs arr hh
  obtain ⟨hC, hZ, hk, hL, hW, hX, hS⟩ := hh
  exact lv_ldc hC.1 hC.2.1 hC.2.2.2.1 (hC.2.2.2.2.1 _ hw) hd (kk p l e R t0 m args below meth c Z base b D cT H locs arr ⟨hC, hZ, hk, hL, hW, hX, hS⟩)
theorem zz_ldcw {n : Nat} {v : Int32} (hw : Cond.constant y.1.cls n v ∈ zz_tbl) (hd : decode y.2.1 pc = .ok (.ldc_w n, 3)) (kk : zz_G y d k (pc + 3) ls (.int v :: st) M I J Q) : zz_G y d k pc ls (st) M I J Q := by
  intro p l e R t0 m args below meth c Z base b D cT H locs arr hh
  obtain ⟨hC, hZ, hk, hL, hW, hX, hS⟩ := hh
  exact lv_ldcw hC.1 hC.2.1 hC.2.2.2.1 (hC.2.2.2.2.1 _ hw) hd (kk p l e R t0 m args below meth c Z base b D cT H locs arr ⟨hC, hZ, hk, hL, hW, hX, hS⟩)
theorem zz_ldc2 {n : Nat} {v : Int64} (hw : Cond.constantLong y.1.cls n v ∈ zz_tbl) (hd : decode y.2.1 pc = .ok (.ldc2_w n, 3)) (kk : zz_G y d k (pc + 3) ls (.long v :: st) M I J Q) : zz_G y d k pc ls (st) M I J Q := by
  intro p l e R t0 m args below meth c Z base b D cT H locs arr hh
  obtain ⟨hC, hZ, hk, hL, hW, hX, hS⟩ := hh
  exact lv_ldc2 hC.1 hC.2.1 hC.2.2.2.1 (hC.2.2.2.2.1 _ hw) hd (kk p l e R t0 m args below meth c Z base b D cT H locs arr ⟨hC, hZ, hk, hL, hW, hX, hS⟩)
theorem zz_iload_n {n : Fin 4} {x : Int32} (hl : ls[(n : Nat)]? = some (some (.int x))) (hd : decode y.2.1 pc = .ok (.iload_n n, 1)) (kk : zz_G y d k (pc + 1) ls (.int x :: st) M I J Q) : zz_G y d k pc ls (st) M I J Q := by
  intro p l e R t0 m args below meth c Z base b D cT H locs arr hh
  obtain ⟨hC, hZ, hk, hL, hW, hX, hS⟩ := hh
  exact lv_iload_n hC.1 hC.2.1 hd rfl (hL.2.2 _ _ hl) (kk p l e R t0 m args below meth c Z base b D cT H locs arr ⟨hC, hZ, hk, hL, hW, hX, hS⟩)
theorem zz_iload {n : Nat} {x : Int32} (hl : ls[n]? = some (some (.int x))) (hd : decode y.2.1 pc = .ok (.iload n, 2)) (kk : zz_G y d k (pc + 2) ls (.int x :: st) M I J Q) : zz_G y d k pc ls (st) M I J Q := by
  intro p l e R t0 m args below meth c Z base b D cT H locs arr hh
  obtain ⟨hC, hZ, hk, hL, hW, hX, hS⟩ := hh
  exact lv_iload hC.1 hC.2.1 hd (hL.2.2 _ _ hl) (kk p l e R t0 m args below meth c Z base b D cT H locs arr ⟨hC, hZ, hk, hL, hW, hX, hS⟩)
theorem zz_lload_n {n : Fin 4} {x : Int64} (hl : ls[(n : Nat)]? = some (some (.long x))) (hd : decode y.2.1 pc = .ok (.lload_n n, 1)) (kk : zz_G y d k (pc + 1) ls (.long x :: st) M I J Q) : zz_G y d k pc ls (st) M I J Q := by
  intro p l e R t0 m args below meth c Z base b D cT H locs arr hh
  obtain ⟨hC, hZ, hk, hL, hW, hX, hS⟩ := hh
  exact lv_lload_n hC.1 hC.2.1 hd rfl (hL.2.2 _ _ hl) (kk p l e R t0 m args below meth c Z base b D cT H locs arr ⟨hC, hZ, hk, hL, hW, hX, hS⟩)
theorem zz_lload {n : Nat} {x : Int64} (hl : ls[n]? = some (some (.long x))) (hd : decode y.2.1 pc = .ok (.lload n, 2)) (kk : zz_G y d k (pc + 2) ls (.long x :: st) M I J Q) : zz_G y d k pc ls (st) M I J Q := by
  intro p l e R t0 m args below meth c Z base b D cT H locs arr hh
  obtain ⟨hC, hZ, hk, hL, hW, hX, hS⟩ := hh
  exact lv_lload hC.1 hC.2.1 hd (hL.2.2 _ _ hl) (kk p l e R t0 m args below meth c Z base b D cT H locs arr ⟨hC, hZ, hk, hL, hW, hX, hS⟩)
theorem zz_aload_n {n : Fin 4} {x : Nat} (hl : ls[(n : Nat)]? = some (some (.ref x))) (hd : decode y.2.1 pc = .ok (.aload_n n, 1)) (kk : zz_G y d k (pc + 1) ls (.ref x :: st) M I J Q) : zz_G y d k pc ls (st) M I J Q := by
  intro p l e R t0 m args below meth c Z base b D cT H locs arr hh
  obtain ⟨hC, hZ, hk, hL, hW, hX, hS⟩ := hh
  exact lv_aload_n hC.1 hC.2.1 hd rfl (hL.2.2 _ _ hl) (kk p l e R t0 m args below meth c Z base b D cT H locs arr ⟨hC, hZ, hk, hL, hW, hX, hS⟩)
theorem zz_aload {n : Nat} {x : Nat} (hl : ls[n]? = some (some (.ref x))) (hd : decode y.2.1 pc = .ok (.aload n, 2)) (kk : zz_G y d k (pc + 2) ls (.ref x :: st) M I J Q) : zz_G y d k pc ls (st) M I J Q := by
  intro p l e R t0 m args below meth c Z base b D cT H locs arr hh
  obtain ⟨hC, hZ, hk, hL, hW, hX, hS⟩ := hh
  exact lv_aload hC.1 hC.2.1 hd (hL.2.2 _ _ hl) (kk p l e R t0 m args below meth c Z base b D cT H locs arr ⟨hC, hZ, hk, hL, hW, hX, hS⟩)
theorem zz_nload_n {n : Fin 4} (hl : ls[(n : Nat)]? = some (some .null)) (hd : decode y.2.1 pc = .ok (.aload_n n, 1)) (kk : zz_G y d k (pc + 1) ls (.null :: st) M I J Q) : zz_G y d k pc ls (st) M I J Q := by
  intro p l e R t0 m args below meth c Z base b D cT H locs arr hh
  obtain ⟨hC, hZ, hk, hL, hW, hX, hS⟩ := hh
  exact lv_aload_nN hC.1 hC.2.1 hd rfl (hL.2.2 _ _ hl) (kk p l e R t0 m args below meth c Z base b D cT H locs arr ⟨hC, hZ, hk, hL, hW, hX, hS⟩)
theorem zz_nload {n : Nat} (hl : ls[n]? = some (some .null)) (hd : decode y.2.1 pc = .ok (.aload n, 2)) (kk : zz_G y d k (pc + 2) ls (.null :: st) M I J Q) : zz_G y d k pc ls (st) M I J Q := by
  intro p l e R t0 m args below meth c Z base b D cT H locs arr hh
  obtain ⟨hC, hZ, hk, hL, hW, hX, hS⟩ := hh
  exact lv_aloadN hC.1 hC.2.1 hd (hL.2.2 _ _ hl) (kk p l e R t0 m args below meth c Z base b D cT H locs arr ⟨hC, hZ, hk, hL, hW, hX, hS⟩)
theorem zz_istore_n {n : Fin 4} {x : Int32} (hd : decode y.2.1 pc = .ok (.istore_n n, 1)) (hn : (n : Nat) < y.2.2.1) (kk : zz_G y d k (pc + 1) (zz_s1 ls (n : Nat) (.int x)) st M I J Q) : zz_G y d k pc ls (.int x :: st) M I J Q := by
  intro p l e R t0 m args below meth c Z base b D cT H locs arr hh
  obtain ⟨hC, hZ, hk, hL, hW, hX, hS⟩ := hh
  exact lv_istore_n hC.1 hC.2.1 hd rfl hL.has hn rfl (fun arr' hl => kk p l e R t0 m args below meth c Z base b D cT H locs arr' ⟨hC, hZ, hk, zz_L.store1 (v := .int x) hl, hW, hX, hS⟩)
theorem zz_istore {n : Nat} {x : Int32} (hd : decode y.2.1 pc = .ok (.istore n, 2)) (hn : n < y.2.2.1) (kk : zz_G y d k (pc + 2) (zz_s1 ls n (.int x)) st M I J Q) : zz_G y d k pc ls (.int x :: st) M I J Q := by
  intro p l e R t0 m args below meth c Z base b D cT H locs arr hh
  obtain ⟨hC, hZ, hk, hL, hW, hX, hS⟩ := hh
  exact lv_istore hC.1 hC.2.1 hd hL.has hn rfl (fun arr' hl => kk p l e R t0 m args below meth c Z base b D cT H locs arr' ⟨hC, hZ, hk, zz_L.store1 (v := .int x) hl, hW, hX, hS⟩)
theorem zz_lstore_n {n : Fin 4} {x : Int64} (hd : decode y.2.1 pc = .ok (.lstore_n n, 1)) (hn : (n : Nat) + 1 < y.2.2.1) (kk : zz_G y d k (pc + 1) (zz_s2 ls (n : Nat) (.long x)) st M I J Q) : zz_G y d k pc ls (.long x :: st) M I J Q := by
  intro p l e R t0 m args below meth c Z base b D cT H locs arr hh
  obtain ⟨hC, hZ, hk, hL, hW, hX, hS⟩ := hh
  exact lv_lstore_n hC.1 hC.2.1 hd rfl hL.has hn rfl (fun arr' hl => kk p l e R t0 m args below meth c Z base b D cT H locs arr' ⟨hC, hZ, hk, zz_L.store2 (v := .long x) hl, hW, hX, hS⟩)
theorem zz_lstore {n : Nat} {x : Int64} (hd : decode y.2.1 pc = .ok (.lstore n, 2)) (hn : n + 1 < y.2.2.1) (kk : zz_G y d k (pc + 2) (zz_s2 ls n (.long x)) st M I J Q) : zz_G y d k pc ls (.long x :: st) M I J Q := by
  intro p l e R t0 m args below meth c Z base b D cT H locs arr hh
  obtain ⟨hC, hZ, hk, hL, hW, hX, hS⟩ := hh
  exact lv_lstore hC.1 hC.2.1 hd hL.has hn rfl (fun arr' hl => kk p l e R t0 m args below meth c Z base b D cT H locs arr' ⟨hC, hZ, hk, zz_L.store2 (v := .long x) hl, hW, hX, hS⟩)
theorem zz_astore_n {n : Fin 4} {x : Nat} (hd : decode y.2.1 pc = .ok (.astore_n n, 1)) (hn : (n : Nat) < y.2.2.1) (kk : zz_G y d k (pc + 1) (zz_s1 ls (n : Nat) (.ref x)) st M I J Q) : zz_G y d k pc ls (.ref x :: st) M I J Q := by
  intro p l e R t0 m args below meth c Z base b D cT H locs arr hh
  obtain ⟨hC, hZ, hk, hL, hW, hX, hS⟩ := hh
  exact lv_astore_n hC.1 hC.2.1 hd rfl hL.has hn rfl (fun arr' hl => kk p l e R t0 m args below meth c Z base b D cT H locs arr' ⟨hC, hZ, hk, zz_L.store1 (v := .ref x) hl, hW, hX, hS⟩)
theorem zz_astore {n : Nat} {x : Nat} (hd : decode y.2.1 pc = .ok (.astore n, 2)) (hn : n < y.2.2.1) (kk : zz_G y d k (pc + 2) (zz_s1 ls n (.ref x)) st M I J Q) : zz_G y d k pc ls (.ref x :: st) M I J Q := by
  intro p l e R t0 m args below meth c Z base b D cT H locs arr hh
  obtain ⟨hC, hZ, hk, hL, hW, hX, hS⟩ := hh
  exact lv_astore hC.1 hC.2.1 hd hL.has hn rfl (fun arr' hl => kk p l e R t0 m args below meth c Z base b D cT H locs arr' ⟨hC, hZ, hk, zz_L.store1 (v := .ref x) hl, hW, hX, hS⟩)
theorem zz_nstore_n {n : Fin 4} (hd : decode y.2.1 pc = .ok (.astore_n n, 1)) (hn : (n : Nat) < y.2.2.1) (kk : zz_G y d k (pc + 1) (zz_s1 ls (n : Nat) (.null)) st M I J Q) : zz_G y d k pc ls (.null :: st) M I J Q := by
  intro p l e R t0 m args below meth c Z base b D cT H locs arr hh
  obtain ⟨hC, hZ, hk, hL, hW, hX, hS⟩ := hh
  exact lv_astore_nN hC.1 hC.2.1 hd rfl hL.has hn rfl (fun arr' hl => kk p l e R t0 m args below meth c Z base b D cT H locs arr' ⟨hC, hZ, hk, zz_L.store1 (v := .null) hl, hW, hX, hS⟩)
theorem zz_nstore {n : Nat} (hd : decode y.2.1 pc = .ok (.astore n, 2)) (hn : n < y.2.2.1) (kk : zz_G y d k (pc + 2) (zz_s1 ls n (.null)) st M I J Q) : zz_G y d k pc ls (.null :: st) M I J Q := by
  intro p l e R t0 m args below meth c Z base b D cT H locs arr hh
  obtain ⟨hC, hZ, hk, hL, hW, hX, hS⟩ := hh
  exact lv_astoreN hC.1 hC.2.1 hd hL.has hn rfl (fun arr' hl => kk p l e R t0 m args below meth c Z base b D cT H locs arr' ⟨hC, hZ, hk, zz_L.store1 (v := .null) hl, hW, hX, hS⟩)
theorem zz_iinc {n : Nat} {j : Int} {x v : Int32} (hd : decode y.2.1 pc = .ok (.iinc n j, 3)) (hl : ls[n]? = some (some (.int x))) (hv : x + Int32.ofInt j = v) (hn : n < y.2.2.1) (kk : zz_G y d k (pc + 3) (zz_s1 ls n (.int v)) st M I J Q) : zz_G y d k pc ls st M I J Q := by
  intro p l e R t0 m args below meth c Z base b D cT H locs arr hh
  obtain ⟨hC, hZ, hk, hL, hW, hX, hS⟩ := hh
  obtain ⟨q, hq⟩ := List.getElem?_of_mem (zz_al_mem.mpr ⟨.int x, hl, rfl⟩ : ((n, zz_tr base b (.int x)) : Nat × Value) ∈ zz_al base b ls)
  exact lv_iinc hC.1 hC.2.1 hd hL.has hq hv hn rfl (fun arr' hl => kk p l e R t0 m args below meth c Z base b D cT H locs arr' ⟨hC, hZ, hk, zz_L.store1 (v := .int v) hl, hW, hX, hS⟩)
theorem zz_iadd {x z : Int32} (hd : decode y.2.1 pc = .ok (.iadd, 1)) (kk : zz_G y d k (pc + 1) ls (.int (x + z) :: st) M I J Q) : zz_G y d k pc ls (.int z :: .int x :: st) M I J Q := by
  intro p l e R t0 m args below meth c Z base b D cT H locs arr hh
  obtain ⟨hC, hZ, hk, hL, hW, hX, hS⟩ := hh
  exact lv_iadd hC.1 hC.2.1 hd (kk p l e R t0 m args below meth c Z base b D cT H locs arr ⟨hC, hZ, hk, hL, hW, hX, hS⟩)
theorem zz_isub {x z : Int32} (hd : decode y.2.1 pc = .ok (.isub, 1)) (kk : zz_G y d k (pc + 1) ls (.int (x - z) :: st) M I J Q) : zz_G y d k pc ls (.int z :: .int x :: st) M I J Q := by
  intro p l e R t0 m args below meth c Z base b D cT H locs arr hh
  obtain ⟨hC, hZ, hk, hL, hW, hX, hS⟩ := hh
  exact lv_isub hC.1 hC.2.1 hd (kk p l e R t0 m args below meth c Z base b D cT H locs arr ⟨hC, hZ, hk, hL, hW, hX, hS⟩)
theorem zz_imul {x z : Int32} (hd : decode y.2.1 pc = .ok (.imul, 1)) (kk : zz_G y d k (pc + 1) ls (.int (x * z) :: st) M I J Q) : zz_G y d k pc ls (.int z :: .int x :: st) M I J Q := by
  intro p l e R t0 m args below meth c Z base b D cT H locs arr hh
  obtain ⟨hC, hZ, hk, hL, hW, hX, hS⟩ := hh
  exact lv_imul hC.1 hC.2.1 hd (kk p l e R t0 m args below meth c Z base b D cT H locs arr ⟨hC, hZ, hk, hL, hW, hX, hS⟩)
theorem zz_iand {x z : Int32} (hd : decode y.2.1 pc = .ok (.iand, 1)) (kk : zz_G y d k (pc + 1) ls (.int (x &&& z) :: st) M I J Q) : zz_G y d k pc ls (.int z :: .int x :: st) M I J Q := by
  intro p l e R t0 m args below meth c Z base b D cT H locs arr hh
  obtain ⟨hC, hZ, hk, hL, hW, hX, hS⟩ := hh
  exact lv_iand hC.1 hC.2.1 hd (kk p l e R t0 m args below meth c Z base b D cT H locs arr ⟨hC, hZ, hk, hL, hW, hX, hS⟩)
theorem zz_ior {x z : Int32} (hd : decode y.2.1 pc = .ok (.ior, 1)) (kk : zz_G y d k (pc + 1) ls (.int (x ||| z) :: st) M I J Q) : zz_G y d k pc ls (.int z :: .int x :: st) M I J Q := by
  intro p l e R t0 m args below meth c Z base b D cT H locs arr hh
  obtain ⟨hC, hZ, hk, hL, hW, hX, hS⟩ := hh
  exact lv_ior hC.1 hC.2.1 hd (kk p l e R t0 m args below meth c Z base b D cT H locs arr ⟨hC, hZ, hk, hL, hW, hX, hS⟩)
theorem zz_ixor {x z : Int32} (hd : decode y.2.1 pc = .ok (.ixor, 1)) (kk : zz_G y d k (pc + 1) ls (.int (x ^^^ z) :: st) M I J Q) : zz_G y d k pc ls (.int z :: .int x :: st) M I J Q := by
  intro p l e R t0 m args below meth c Z base b D cT H locs arr hh
  obtain ⟨hC, hZ, hk, hL, hW, hX, hS⟩ := hh
  exact lv_ixor hC.1 hC.2.1 hd (kk p l e R t0 m args below meth c Z base b D cT H locs arr ⟨hC, hZ, hk, hL, hW, hX, hS⟩)
theorem zz_ishl {x z : Int32} (hd : decode y.2.1 pc = .ok (.ishl, 1)) (kk : zz_G y d k (pc + 1) ls (.int (x <<< (z &&& 31)) :: st) M I J Q) : zz_G y d k pc ls (.int z :: .int x :: st) M I J Q := by
  intro p l e R t0 m args below meth c Z base b D cT H locs arr hh
  obtain ⟨hC, hZ, hk, hL, hW, hX, hS⟩ := hh
  exact lv_ishl hC.1 hC.2.1 hd (kk p l e R t0 m args below meth c Z base b D cT H locs arr ⟨hC, hZ, hk, hL, hW, hX, hS⟩)
theorem zz_ishr {x z : Int32} (hd : decode y.2.1 pc = .ok (.ishr, 1)) (kk : zz_G y d k (pc + 1) ls (.int (x >>> (z &&& 31)) :: st) M I J Q) : zz_G y d k pc ls (.int z :: .int x :: st) M I J Q := by
  intro p l e R t0 m args below meth c Z base b D cT H locs arr hh
  obtain ⟨hC, hZ, hk, hL, hW, hX, hS⟩ := hh
  exact lv_ishr hC.1 hC.2.1 hd (kk p l e R t0 m args below meth c Z base b D cT H locs arr ⟨hC, hZ, hk, hL, hW, hX, hS⟩)
theorem zz_idiv {x z : Int32} (hne : ¬ z = 0) (hd : decode y.2.1 pc = .ok (.idiv, 1)) (kk : zz_G y d k (pc + 1) ls (.int (x / z) :: st) M I J Q) : zz_G y d k pc ls (.int z :: .int x :: st) M I J Q := by
  intro p l e R t0 m args below meth c Z base b D cT H locs arr hh
  obtain ⟨hC, hZ, hk, hL, hW, hX, hS⟩ := hh
  exact lv_idiv hC.1 hC.2.1 hd hne (kk p l e R t0 m args below meth c Z base b D cT H locs arr ⟨hC, hZ, hk, hL, hW, hX, hS⟩)
theorem zz_irem {x z : Int32} (hne : ¬ z = 0) (hd : decode y.2.1 pc = .ok (.irem, 1)) (kk : zz_G y d k (pc + 1) ls (.int (jv_rem x z) :: st) M I J Q) : zz_G y d k pc ls (.int z :: .int x :: st) M I J Q := by
  intro p l e R t0 m args below meth c Z base b D cT H locs arr hh
  obtain ⟨hC, hZ, hk, hL, hW, hX, hS⟩ := hh
  exact lv_irem hC.1 hC.2.1 hd hne (kk p l e R t0 m args below meth c Z base b D cT H locs arr ⟨hC, hZ, hk, hL, hW, hX, hS⟩)
theorem zz_ladd {x z : Int64} (hd : decode y.2.1 pc = .ok (.ladd, 1)) (kk : zz_G y d k (pc + 1) ls (.long (x + z) :: st) M I J Q) : zz_G y d k pc ls (.long z :: .long x :: st) M I J Q := by
  intro p l e R t0 m args below meth c Z base b D cT H locs arr hh
  obtain ⟨hC, hZ, hk, hL, hW, hX, hS⟩ := hh
  exact lv_ladd hC.1 hC.2.1 hd (kk p l e R t0 m args below meth c Z base b D cT H locs arr ⟨hC, hZ, hk, hL, hW, hX, hS⟩)
theorem zz_lsub {x z : Int64} (hd : decode y.2.1 pc = .ok (.lsub, 1)) (kk : zz_G y d k (pc + 1) ls (.long (x - z) :: st) M I J Q) : zz_G y d k pc ls (.long z :: .long x :: st) M I J Q := by
  intro p l e R t0 m args below meth c Z base b D cT H locs arr hh
  obtain ⟨hC, hZ, hk, hL, hW, hX, hS⟩ := hh
  exact lv_lsub hC.1 hC.2.1 hd (kk p l e R t0 m args below meth c Z base b D cT H locs arr ⟨hC, hZ, hk, hL, hW, hX, hS⟩)
theorem zz_lmul {x z : Int64} (hd : decode y.2.1 pc = .ok (.lmul, 1)) (kk : zz_G y d k (pc + 1) ls (.long (x * z) :: st) M I J Q) : zz_G y d k pc ls (.long z :: .long x :: st) M I J Q := by
  intro p l e R t0 m args below meth c Z base b D cT H locs arr hh
  obtain ⟨hC, hZ, hk, hL, hW, hX, hS⟩ := hh
  exact lv_lmul hC.1 hC.2.1 hd (kk p l e R t0 m args below meth c Z base b D cT H locs arr ⟨hC, hZ, hk, hL, hW, hX, hS⟩)
theorem zz_land {x z : Int64} (hd : decode y.2.1 pc = .ok (.land, 1)) (kk : zz_G y d k (pc + 1) ls (.long (x &&& z) :: st) M I J Q) : zz_G y d k pc ls (.long z :: .long x :: st) M I J Q := by
  intro p l e R t0 m args below meth c Z base b D cT H locs arr hh
  obtain ⟨hC, hZ, hk, hL, hW, hX, hS⟩ := hh
  exact lv_land hC.1 hC.2.1 hd (kk p l e R t0 m args below meth c Z base b D cT H locs arr ⟨hC, hZ, hk, hL, hW, hX, hS⟩)
theorem zz_lor {x z : Int64} (hd : decode y.2.1 pc = .ok (.lor, 1)) (kk : zz_G y d k (pc + 1) ls (.long (x ||| z) :: st) M I J Q) : zz_G y d k pc ls (.long z :: .long x :: st) M I J Q := by
  intro p l e R t0 m args below meth c Z base b D cT H locs arr hh
  obtain ⟨hC, hZ, hk, hL, hW, hX, hS⟩ := hh
  exact lv_lor hC.1 hC.2.1 hd (kk p l e R t0 m args below meth c Z base b D cT H locs arr ⟨hC, hZ, hk, hL, hW, hX, hS⟩)
theorem zz_lxor {x z : Int64} (hd : decode y.2.1 pc = .ok (.lxor, 1)) (kk : zz_G y d k (pc + 1) ls (.long (x ^^^ z) :: st) M I J Q) : zz_G y d k pc ls (.long z :: .long x :: st) M I J Q := by
  intro p l e R t0 m args below meth c Z base b D cT H locs arr hh
  obtain ⟨hC, hZ, hk, hL, hW, hX, hS⟩ := hh
  exact lv_lxor hC.1 hC.2.1 hd (kk p l e R t0 m args below meth c Z base b D cT H locs arr ⟨hC, hZ, hk, hL, hW, hX, hS⟩)
theorem zz_ldiv {x z : Int64} (hne : ¬ z = 0) (hd : decode y.2.1 pc = .ok (.ldiv, 1)) (kk : zz_G y d k (pc + 1) ls (.long (x / z) :: st) M I J Q) : zz_G y d k pc ls (.long z :: .long x :: st) M I J Q := by
  intro p l e R t0 m args below meth c Z base b D cT H locs arr hh
  obtain ⟨hC, hZ, hk, hL, hW, hX, hS⟩ := hh
  exact lv_ldiv hC.1 hC.2.1 hd hne (kk p l e R t0 m args below meth c Z base b D cT H locs arr ⟨hC, hZ, hk, hL, hW, hX, hS⟩)
theorem zz_lrem {x z : Int64} (hne : ¬ z = 0) (hd : decode y.2.1 pc = .ok (.lrem, 1)) (kk : zz_G y d k (pc + 1) ls (.long (jv_lrem x z) :: st) M I J Q) : zz_G y d k pc ls (.long z :: .long x :: st) M I J Q := by
  intro p l e R t0 m args below meth c Z base b D cT H locs arr hh
  obtain ⟨hC, hZ, hk, hL, hW, hX, hS⟩ := hh
  exact lv_lrem hC.1 hC.2.1 hd hne (kk p l e R t0 m args below meth c Z base b D cT H locs arr ⟨hC, hZ, hk, hL, hW, hX, hS⟩)
theorem zz_lneg {x : Int64} (hd : decode y.2.1 pc = .ok (.lneg, 1)) (kk : zz_G y d k (pc + 1) ls (.long (-x) :: st) M I J Q) : zz_G y d k pc ls (.long x :: st) M I J Q := by
  intro p l e R t0 m args below meth c Z base b D cT H locs arr hh
  obtain ⟨hC, hZ, hk, hL, hW, hX, hS⟩ := hh
  exact lv_lneg hC.1 hC.2.1 hd (kk p l e R t0 m args below meth c Z base b D cT H locs arr ⟨hC, hZ, hk, hL, hW, hX, hS⟩)
/-- the shifts to the right without sign, as the machine has them -/
theorem zz_iushr {x z : Int32} (hd : decode y.2.1 pc = .ok (.iushr, 1)) (kk : zz_G y d k (pc + 1) ls (.int (jv_ushr x z) :: st) M I J Q) : zz_G y d k pc ls (.int z :: .int x :: st) M I J Q := by
  intro p l e R t0 m args below meth c Z base b D cT H locs arr hh
  obtain ⟨hC, hZ, hk, hL, hW, hX, hS⟩ := hh
  exact lv_iushr hC.1 hC.2.1 hd rfl (kk p l e R t0 m args below meth c Z base b D cT H locs arr ⟨hC, hZ, hk, hL, hW, hX, hS⟩)
theorem zz_lushr {x : Int64} {z : Int32} (hd : decode y.2.1 pc = .ok (.lushr, 1)) (kk : zz_G y d k (pc + 1) ls (.long (jv_lushr x z) :: st) M I J Q) : zz_G y d k pc ls (.int z :: .long x :: st) M I J Q := by
  intro p l e R t0 m args below meth c Z base b D cT H locs arr hh
  obtain ⟨hC, hZ, hk, hL, hW, hX, hS⟩ := hh
  exact lv_lushr hC.1 hC.2.1 hd rfl (kk p l e R t0 m args below meth c Z base b D cT H locs arr ⟨hC, hZ, hk, hL, hW, hX, hS⟩)
theorem zz_lshl {x : Int64} {z : Int32} (hd : decode y.2.1 pc = .ok (.lshl, 1)) (kk : zz_G y d k (pc + 1) ls (.long (jv_lshl x z) :: st) M I J Q) : zz_G y d k pc ls (.int z :: .long x :: st) M I J Q := by
  intro p l e R t0 m args below meth c Z base b D cT H locs arr hh
  obtain ⟨hC, hZ, hk, hL, hW, hX, hS⟩ := hh
  exact lv_lshl hC.1 hC.2.1 hd rfl (kk p l e R t0 m args below meth c Z base b D cT H locs arr ⟨hC, hZ, hk, hL, hW, hX, hS⟩)
theorem zz_lshr {x : Int64} {z : Int32} (hd : decode y.2.1 pc = .ok (.lshr, 1)) (kk : zz_G y d k (pc + 1) ls (.long (jv_lshr x z) :: st) M I J Q) : zz_G y d k pc ls (.int z :: .long x :: st) M I J Q := by
  intro p l e R t0 m args below meth c Z base b D cT H locs arr hh
  obtain ⟨hC, hZ, hk, hL, hW, hX, hS⟩ := hh
  exact lv_lshr hC.1 hC.2.1 hd rfl (kk p l e R t0 m args below meth c Z base b D cT H locs arr ⟨hC, hZ, hk, hL, hW, hX, hS⟩)
theorem zz_i2l {x : Int32} (hd : decode y.2.1 pc = .ok (.i2l, 1)) (kk : zz_G y d k (pc + 1) ls (.long x.toInt64 :: st) M I J Q) : zz_G y d k pc ls (.int x :: st) M I J Q := by
  intro p l e R t0 m args below meth c Z base b D cT H locs arr hh
  obtain ⟨hC, hZ, hk, hL, hW, hX, hS⟩ := hh
  exact lv_i2l hC.1 hC.2.1 hd rfl (kk p l e R t0 m args below meth c Z base b D cT H locs arr ⟨hC, hZ, hk, hL, hW, hX, hS⟩)
theorem zz_l2i {x : Int64} (hd : decode y.2.1 pc = .ok (.l2i, 1)) (kk : zz_G y d k (pc + 1) ls (.int x.toInt32 :: st) M I J Q) : zz_G y d k pc ls (.long x :: st) M I J Q := by
  intro p l e R t0 m args below meth c Z base b D cT H locs arr hh
  obtain ⟨hC, hZ, hk, hL, hW, hX, hS⟩ := hh
  exact lv_l2i hC.1 hC.2.1 hd rfl (kk p l e R t0 m args below meth c Z base b D cT H locs arr ⟨hC, hZ, hk, hL, hW, hX, hS⟩)
theorem zz_i2b {x : Int32} (hd : decode y.2.1 pc = .ok (.i2b, 1)) (kk : zz_G y d k (pc + 1) ls (.int (jv_b x) :: st) M I J Q) : zz_G y d k pc ls (.int x :: st) M I J Q := by
  intro p l e R t0 m args below meth c Z base b D cT H locs arr hh
  obtain ⟨hC, hZ, hk, hL, hW, hX, hS⟩ := hh
  exact lv_i2b hC.1 hC.2.1 hd rfl (kk p l e R t0 m args below meth c Z base b D cT H locs arr ⟨hC, hZ, hk, hL, hW, hX, hS⟩)
theorem zz_lcmp {x z : Int64} (hd : decode y.2.1 pc = .ok (.lcmp, 1)) (kk : zz_G y d k (pc + 1) ls (.int (lg_cmp x z) :: st) M I J Q) : zz_G y d k pc ls (.long z :: .long x :: st) M I J Q := by
  intro p l e R t0 m args below meth c Z base b D cT H locs arr hh
  obtain ⟨hC, hZ, hk, hL, hW, hX, hS⟩ := hh
  exact W.lcmp hC.1 hC.2.1 hd (kk p l e R t0 m args below meth c Z base b D cT H locs arr ⟨hC, hZ, hk, hL, hW, hX, hS⟩)
theorem zz_dup {v : Value} (hv : v.category = 1) (hd : decode y.2.1 pc = .ok (.dup, 1)) (kk : zz_G y d k (pc + 1) ls (v :: v :: st) M I J Q) : zz_G y d k pc ls (v :: st) M I J Q := by
  intro p l e R t0 m args below meth c Z base b D cT H locs arr hh
  obtain ⟨hC, hZ, hk, hL, hW, hX, hS⟩ := hh
  exact lv_dup hC.1 hC.2.1 hd ((zz_tr_cat base b v).trans hv) (kk p l e R t0 m args below meth c Z base b D cT H locs arr ⟨hC, hZ, hk, hL, hW, hX, hS⟩)
theorem zz_pop {v : Value} (hv : v.category = 1) (hd : decode y.2.1 pc = .ok (.pop, 1)) (kk : zz_G y d k (pc + 1) ls (st) M I J Q) : zz_G y d k pc ls (v :: st) M I J Q := by
  intro p l e R t0 m args below meth c Z base b D cT H locs arr hh
  obtain ⟨hC, hZ, hk, hL, hW, hX, hS⟩ := hh
  exact lv_pop hC.1 hC.2.1 hd ((zz_tr_cat base b v).trans hv) (kk p l e R t0 m args below meth c Z base b D cT H locs arr ⟨hC, hZ, hk, hL, hW, hX, hS⟩)
theorem zz_dup2 {v w : Value} (hv : v.category = 1) (hw : w.category = 1) (hd : decode y.2.1 pc = .ok (.dup2, 1)) (kk : zz_G y d k (pc + 1) ls (v :: w :: v :: w :: st) M I J Q) : zz_G y d k pc ls (v :: w :: st) M I J Q := by
  intro p l e R t0 m args below meth c Z base b D cT H locs arr hh
  obtain ⟨hC, hZ, hk, hL, hW, hX, hS⟩ := hh
  exact lv_dup2_11 hC.1 hC.2.1 hd ((zz_tr_cat base b v).trans hv) ((zz_tr_cat base b w).trans hw) (kk p l e R t0 m args below meth c Z base b D cT H locs arr ⟨hC, hZ, hk, hL, hW, hX, hS⟩)
theorem zz_dup2l {v : Value} (hv : v.category = 2) (hd : decode y.2.1 pc = .ok (.dup2, 1)) (kk : zz_G y d k (pc + 1) ls (v :: v :: st) M I J Q) : zz_G y d k pc ls (v :: st) M I J Q := by
  intro p l e R t0 m args below meth c Z base b D cT H locs arr hh
  obtain ⟨hC, hZ, hk, hL, hW, hX, hS⟩ := hh
  exact lv_dup2_2 hC.1 hC.2.1 hd ((zz_tr_cat base b v).trans hv) (kk p l e R t0 m args below meth c Z base b D cT H locs arr ⟨hC, hZ, hk, hL, hW, hX, hS⟩)
theorem zz_if_eq {x : Int32} {off : Int} {tgt : Nat} (hd : decode y.2.1 pc = .ok (.ifCond .eq off, 3)) (ht : (pc : Int) + off = (tgt : Int)) (kt : x = 0 → zz_G y d k tgt ls st M I J Q) (kf : ¬ x = 0 → zz_G y d k (pc + 3) ls st M I J Q) : zz_G y d k pc ls (.int x :: st) M I J Q := by
  intro p l e R t0 m args below meth c Z base b D cT H locs arr hh
  obtain ⟨hC, hZ, hk, hL, hW, hX, hS⟩ := hh
  exact lv_if_eq hC.1 hC.2.1 hd ht (fun h => kt h p l e R t0 m args below meth c Z base b D cT H locs arr ⟨hC, hZ, hk, hL, hW, hX, hS⟩) (fun h => kf h p l e R t0 m args below meth c Z base b D cT H locs arr ⟨hC, hZ, hk, hL, hW, hX, hS⟩)
theorem zz_icmp_eq {x z : Int32} {off : Int} {tgt : Nat} (hd : decode y.2.1 pc = .ok (.if_icmp .eq off, 3)) (ht : (pc : Int) + off = (tgt : Int)) (kt : x = z → zz_G y d k tgt ls st M I J Q) (kf : ¬ x = z → zz_G y d k (pc + 3) ls st M I J Q) : zz_G y d k pc ls (.int z :: .int x :: st) M I J Q := by
  intro p l e R t0 m args below meth c Z base b D cT H locs arr hh
  obtain ⟨hC, hZ, hk, hL, hW, hX, hS⟩ := hh
  exact lv_icmp_eq hC.1 hC.2.1 hd ht (fun h => kt h p l e R t0 m args below meth c Z base b D cT H locs arr ⟨hC, hZ, hk, hL, hW, hX, hS⟩) (fun h => kf h p l e R t0 m args below meth c Z base b D cT H locs arr ⟨hC, hZ, hk, hL, hW, hX, hS⟩)
theorem zz_if_ne {x : Int32} {off : Int} {tgt : Nat} (hd : decode y.2.1 pc = .ok (.ifCond .ne off, 3)) (ht : (pc : Int) + off = (tgt : Int)) (kt : ¬ x = 0 → zz_G y d k tgt ls st M I J Q) (kf : x = 0 → zz_G y d k (pc + 3) ls st M I J Q) : zz_G y d k pc ls (.int x :: st) M I J Q := by
  intro p l e R t0 m args below meth c Z base b D cT H locs arr hh
  obtain ⟨hC, hZ, hk, hL, hW, hX, hS⟩ := hh
  exact lv_if_ne hC.1 hC.2.1 hd ht (fun h => kt h p l e R t0 m args below meth c Z base b D cT H locs arr ⟨hC, hZ, hk, hL, hW, hX, hS⟩) (fun h => kf h p l e R t0 m args below meth c Z base b D cT H locs arr ⟨hC, hZ, hk, hL, hW, hX, hS⟩)
theorem zz_icmp_ne {x z : Int32} {off : Int} {tgt : Nat} (hd : decode y.2.1 pc = .ok (.if_icmp .ne off, 3)) (ht : (pc : Int) + off = (tgt : Int)) (kt : ¬ x = z → zz_G y d k tgt ls st M I J Q) (kf : x = z → zz_G y d k (pc + 3) ls st M I J Q) : zz_G y d k pc ls (.int z :: .int x :: st) M I J Q := by
  intro p l e R t0 m args below meth c Z base b D cT H locs arr hh
  obtain ⟨hC, hZ, hk, hL, hW, hX, hS⟩ := hh
  exact lv_icmp_ne hC.1 hC.2.1 hd ht (fun h => kt h p l e R t0 m args below meth c Z base b D cT H locs arr ⟨hC, hZ, hk, hL, hW, hX, hS⟩) (fun h => kf h p l e R t0 m args below meth c Z base b D cT H locs arr ⟨hC, hZ, hk, hL, hW, hX, hS⟩)
theorem zz_if_lt {x : Int32} {off : Int} {tgt : Nat} (hd : decode y.2.1 pc = .ok (.ifCond .lt off, 3)) (ht : (pc : Int) + off = (tgt : Int)) (kt : x < 0 → zz_G y d k tgt ls st M I J Q) (kf : ¬ x < 0 → zz_G y d k (pc + 3) ls st M I J Q) : zz_G y d k pc ls (.int x :: st) M I J Q := by
  intro p l e R t0 m args below meth c Z base b D cT H locs arr hh
  obtain ⟨hC, hZ, hk, hL, hW, hX, hS⟩ := hh
  exact lv_if_lt hC.1 hC.2.1 hd ht (fun h => kt h p l e R t0 m args below meth c Z base b D cT H locs arr ⟨hC, hZ, hk, hL, hW, hX, hS⟩) (fun h => kf h p l e R t0 m args below meth c Z base b D cT H locs arr ⟨hC, hZ, hk, hL, hW, hX, hS⟩)
theorem zz_icmp_lt {x z : Int32} {off : Int} {tgt : Nat} (hd : decode y.2.1 pc = .ok (.if_icmp .lt off, 3)) (ht : (pc : Int) + off = (tgt : Int)) (kt : x < z → zz_G y d k tgt ls st M I J Q) (kf : ¬ x < z → zz_G y d k (pc + 3) ls st M I J Q) : zz_G y d k pc ls (.int z :: .int x :: st) M I J Q := by
  intro p l e R t0 m args below meth c Z base b D cT H locs arr hh
  obtain ⟨hC, hZ, hk, hL, hW, hX, hS⟩ := hh
  exact lv_icmp_lt hC.1 hC.2.1 hd ht (fun h => kt h p l e R t0 m args below meth c Z base b D cT H locs arr ⟨hC, hZ, hk, hL, hW, hX, hS⟩) (fun h => kf h p l e R t0 m args below meth c Z base b D cT H locs arr ⟨hC, hZ, hk, hL, hW, hX, hS⟩)
theorem zz_if_ge {x : Int32} {off : Int} {tgt : Nat} (hd : decode y.2.1 pc = .ok (.ifCond .ge off, 3)) (ht : (pc : Int) + off = (tgt : Int)) (kt : 0 ≤ x → zz_G y d k tgt ls st M I J Q) (kf : ¬ 0 ≤ x → zz_G y d k (pc + 3) ls st M I J Q) : zz_G y d k pc ls (.int x :: st) M I J Q := by
  intro p l e R t0 m args below meth c Z base b D cT H locs arr hh
  obtain ⟨hC, hZ, hk, hL, hW, hX, hS⟩ := hh
  exact lv_if_ge hC.1 hC.2.1 hd ht (fun h => kt h p l e R t0 m args below meth c Z base b D cT H locs arr ⟨hC, hZ, hk, hL, hW, hX, hS⟩) (fun h => kf h p l e R t0 m args below meth c Z base b D cT H locs arr ⟨hC, hZ, hk, hL, hW, hX, hS⟩)
theorem zz_icmp_ge {x z : Int32} {off : Int} {tgt : Nat} (hd : decode y.2.1 pc = .ok (.if_icmp .ge off, 3)) (ht : (pc : Int) + off = (tgt : Int)) (kt : z ≤ x → zz_G y d k tgt ls st M I J Q) (kf : ¬ z ≤ x → zz_G y d k (pc + 3) ls st M I J Q) : zz_G y d k pc ls (.int z :: .int x :: st) M I J Q := by
  intro p l e R t0 m args below meth c Z base b D cT H locs arr hh
  obtain ⟨hC, hZ, hk, hL, hW, hX, hS⟩ := hh
  exact lv_icmp_ge hC.1 hC.2.1 hd ht (fun h => kt h p l e R t0 m args below meth c Z base b D cT H locs arr ⟨hC, hZ, hk, hL, hW, hX, hS⟩) (fun h => kf h p l e R t0 m args below meth c Z base b D cT H locs arr ⟨hC, hZ, hk, hL, hW, hX, hS⟩)
theorem zz_if_gt {x : Int32} {off : Int} {tgt : Nat} (hd : decode y.2.1 pc = .ok (.ifCond .gt off, 3)) (ht : (pc : Int) + off = (tgt : Int)) (kt : 0 < x → zz_G y d k tgt ls st M I J Q) (kf : ¬ 0 < x → zz_G y d k (pc + 3) ls st M I J Q) : zz_G y d k pc ls (.int x :: st) M I J Q := by
  intro p l e R t0 m args below meth c Z base b D cT H locs arr hh
  obtain ⟨hC, hZ, hk, hL, hW, hX, hS⟩ := hh
  exact lv_if_gt hC.1 hC.2.1 hd ht (fun h => kt h p l e R t0 m args below meth c Z base b D cT H locs arr ⟨hC, hZ, hk, hL, hW, hX, hS⟩) (fun h => kf h p l e R t0 m args below meth c Z base b D cT H locs arr ⟨hC, hZ, hk, hL, hW, hX, hS⟩)
theorem zz_icmp_gt {x z : Int32} {off : Int} {tgt : Nat} (hd : decode y.2.1 pc = .ok (.if_icmp .gt off, 3)) (ht : (pc : Int) + off = (tgt : Int)) (kt : z < x → zz_G y d k tgt ls st M I J Q) (kf : ¬ z < x → zz_G y d k (pc + 3) ls st M I J Q) : zz_G y d k pc ls (.int z :: .int x :: st) M I J Q := by
  intro p l e R t0 m args below meth c Z base b D cT H locs arr hh
  obtain ⟨hC, hZ, hk, hL, hW, hX, hS⟩ := hh
  exact lv_icmp_gt hC.1 hC.2.1 hd ht (fun h => kt h p l e R t0 m args below meth c Z base b D cT H locs arr ⟨hC, hZ, hk, hL, hW, hX, hS⟩) (fun h => kf h p l e R t0 m args below meth c Z base b D cT H locs arr ⟨hC, hZ, hk, hL, hW, hX, hS⟩)
theorem zz_if_le {x : Int32} {off : Int} {tgt : Nat} (hd : decode y.2.1 pc = .ok (.ifCond .le off, 3)) (ht : (pc : Int) + off = (tgt : Int)) (kt : x ≤ 0 → zz_G y d k tgt ls st M I J Q) (kf : ¬ x ≤ 0 → zz_G y d k (pc + 3) ls st M I J Q) : zz_G y d k pc ls (.int x :: st) M I J Q := by
  intro p l e R t0 m args below meth c Z base b D cT H locs arr hh
  obtain ⟨hC, hZ, hk, hL, hW, hX, hS⟩ := hh
  exact lv_if_le hC.1 hC.2.1 hd ht (fun h => kt h p l e R t0 m args below meth c Z base b D cT H locs arr ⟨hC, hZ, hk, hL, hW, hX, hS⟩) (fun h => kf h p l e R t0 m args below meth c Z base b D cT H locs arr ⟨hC, hZ, hk, hL, hW, hX, hS⟩)
theorem zz_icmp_le {x z : Int32} {off : Int} {tgt : Nat} (hd : decode y.2.1 pc = .ok (.if_icmp .le off, 3)) (ht : (pc : Int) + off = (tgt : Int)) (kt : x ≤ z → zz_G y d k tgt ls st M I J Q) (kf : ¬ x ≤ z → zz_G y d k (pc + 3) ls st M I J Q) : zz_G y d k pc ls (.int z :: .int x :: st) M I J Q := by
  intro p l e R t0 m args below meth c Z base b D cT H locs arr hh
  obtain ⟨hC, hZ, hk, hL, hW, hX, hS⟩ := hh
  exact lv_icmp_le hC.1 hC.2.1 hd ht (fun h => kt h p l e R t0 m args below meth c Z base b D cT H locs arr ⟨hC, hZ, hk, hL, hW, hX, hS⟩) (fun h => kf h p l e R t0 m args below meth c Z base b D cT H locs arr ⟨hC, hZ, hk, hL, hW, hX, hS⟩)
theorem zz_goto {off : Int} {tgt : Nat} (hd : decode y.2.1 pc = .ok (.goto off, 3)) (ht : (pc : Int) + off = (tgt : Int)) (kk : zz_G y d k (tgt) ls st M I J Q) : zz_G y d k pc ls (st) M I J Q := by
  intro p l e R t0 m args below meth c Z base b D cT H locs arr hh
  obtain ⟨hC, hZ, hk, hL, hW, hX, hS⟩ := hh
  exact lv_goto hC.1 hC.2.1 hd ht (kk p l e R t0 m args below meth c Z base b D cT H locs arr ⟨hC, hZ, hk, hL, hW, hX, hS⟩)
theorem zz_ifnonnull {x : Nat} {off : Int} {tgt : Nat} (hd : decode y.2.1 pc = .ok (.ifnonnull off, 3)) (ht : (pc : Int) + off = (tgt : Int)) (kk : zz_G y d k (tgt) ls st M I J Q) : zz_G y d k pc ls (.ref x :: st) M I J Q := by
  intro p l e R t0 m args below meth c Z base b D cT H locs arr hh
  obtain ⟨hC, hZ, hk, hL, hW, hX, hS⟩ := hh
  exact lv_ifnonnull hC.1 hC.2.1 hd ht (kk p l e R t0 m args below meth c Z base b D cT H locs arr ⟨hC, hZ, hk, hL, hW, hX, hS⟩)
theorem zz_ifnull {x : Nat} {off : Int} (hd : decode y.2.1 pc = .ok (.ifnull off, 3)) (kk : zz_G y d k (pc + 3) ls st M I J Q) : zz_G y d k pc ls (.ref x :: st) M I J Q := by
  intro p l e R t0 m args below meth c Z base b D cT H locs arr hh
  obtain ⟨hC, hZ, hk, hL, hW, hX, hS⟩ := hh
  exact lv_ifnull hC.1 hC.2.1 hd (kk p l e R t0 m args below meth c Z base b D cT H locs arr ⟨hC, hZ, hk, hL, hW, hX, hS⟩)
theorem zz_ifnullN {off : Int} {tgt : Nat} (hd : decode y.2.1 pc = .ok (.ifnull off, 3)) (ht : (pc : Int) + off = (tgt : Int)) (kk : zz_G y d k (tgt) ls st M I J Q) : zz_G y d k pc ls (.null :: st) M I J Q := by
  intro p l e R t0 m args below meth c Z base b D cT H locs arr hh
  obtain ⟨hC, hZ, hk, hL, hW, hX, hS⟩ := hh
  exact lv_ifnullN hC.1 hC.2.1 hd ht (kk p l e R t0 m args below meth c Z base b D cT H locs arr ⟨hC, hZ, hk, hL, hW, hX, hS⟩)
theorem zz_ifnonnullN {off : Int} (hd : decode y.2.1 pc = .ok (.ifnonnull off, 3)) (kk : zz_G y d k (pc + 3) ls st M I J Q) : zz_G y d k pc ls (.null :: st) M I J Q := by
  intro p l e R t0 m args below meth c Z base b D cT H locs arr hh
  obtain ⟨hC, hZ, hk, hL, hW, hX, hS⟩ := hh
  exact lv_ifnonnullN hC.1 hC.2.1 hd (kk p l e R t0 m args below meth c Z base b D cT H locs arr ⟨hC, hZ, hk, hL, hW, hX, hS⟩)
theorem zz_tabOut {x : Int32} {dflt lo hi : Int} {offs : Array Int} {len tgt : Nat} (hd : decode y.2.1 pc = .ok (.tableswitch dflt lo hi offs, len)) (h : x.toInt < lo ∨ hi < x.toInt) (ht : (pc : Int) + dflt = (tgt : Int)) (kk : zz_G y d k tgt ls st M I J Q) : zz_G y d k pc ls (.int x :: st) M I J Q := by
  intro p l e R t0 m args below meth c Z base b D cT H locs arr hh
  obtain ⟨hC, hZ, hk, hL, hW, hX, hS⟩ := hh
  exact lv_tableOut hC.1 hC.2.1 hd h ht (kk p l e R t0 m args below meth c Z base b D cT H locs arr ⟨hC, hZ, hk, hL, hW, hX, hS⟩)
theorem zz_tabIn {x : Int32} {dflt lo hi off : Int} {offs : Array Int} {len tgt : Nat} (hd : decode y.2.1 pc = .ok (.tableswitch dflt lo hi offs, len)) (h1 : ¬ x.toInt < lo) (h2 : ¬ hi < x.toInt) (ho : offs[(x.toInt - lo).toNat]? = some off) (ht : (pc : Int) + off = (tgt : Int)) (kk : zz_G y d k tgt ls st M I J Q) : zz_G y d k pc ls (.int x :: st) M I J Q := by
  intro p l e R t0 m args below meth c Z base b D cT H locs arr hh
  obtain ⟨hC, hZ, hk, hL, hW, hX, hS⟩ := hh
  exact lv_tableIn hC.1 hC.2.1 hd h1 h2 ho ht (kk p l e R t0 m args below meth c Z base b D cT H locs arr ⟨hC, hZ, hk, hL, hW, hX, hS⟩)
theorem zz_ireturn {x : Int32} {ty : FieldType} (hd : decode y.2.1 pc = .ok (.ireturn, 1)) (hr : y.2.2.2.1 = some ty) (hn : narrow ty (.int x) = .int x) (kk : Q (some (.int x)) M I J) : zz_G y d k pc ls [.int x] M I J Q := by
  intro p l e R t0 m args below meth c Z base b D cT H locs arr hh
  obtain ⟨hC, hZ, hk, hL, hW, hX, hS⟩ := hh
  exact hZ k pc H locs arr .ireturn (some (.int x)) M I J hd (Or.inl ⟨rfl, x, ty, rfl, hr, hn⟩) hk hW hX hS kk
theorem zz_lreturn {x : Int64} (hd : decode y.2.1 pc = .ok (.lreturn, 1)) (hr : y.2.2.2.1 = some .long) (kk : Q (some (.long x)) M I J) : zz_G y d k pc ls [.long x] M I J Q := by
  intro p l e R t0 m args below meth c Z base b D cT H locs arr hh
  obtain ⟨hC, hZ, hk, hL, hW, hX, hS⟩ := hh
  exact hZ k pc H locs arr .lreturn (some (.long x)) M I J hd (Or.inr (Or.inl ⟨rfl, x, rfl, hr⟩)) hk hW hX hS kk
theorem zz_areturn {x : Nat} {n : String} (hd : decode y.2.1 pc = .ok (.areturn, 1)) (hr : y.2.2.2.1 = some (.object n)) (kk : Q (some (.ref x)) M I J) : zz_G y d k pc ls [.ref x] M I J Q := by
  intro p l e R t0 m args below meth c Z base b D cT H locs arr hh
  obtain ⟨hC, hZ, hk, hL, hW, hX, hS⟩ := hh
  exact hZ k pc H locs arr .areturn (some (.ref x)) M I J hd (Or.inr (Or.inr (Or.inl ⟨rfl, n, hr, Or.inr ⟨x, rfl⟩⟩))) hk hW hX hS kk
theorem zz_nreturn {n : String} (hd : decode y.2.1 pc = .ok (.areturn, 1)) (hr : y.2.2.2.1 = some (.object n)) (kk : Q (some .null) M I J) : zz_G y d k pc ls [.null] M I J Q := by
  intro p l e R t0 m args below meth c Z base b D cT H locs arr hh
  obtain ⟨hC, hZ, hk, hL, hW, hX, hS⟩ := hh
  exact hZ k pc H locs arr .areturn (some .null) M I J hd (Or.inr (Or.inr (Or.inl ⟨rfl, n, hr, Or.inl rfl⟩))) hk hW hX hS kk
theorem zz_return (hd : decode y.2.1 pc = .ok (.return_, 1)) (hr : y.2.2.2.1 = none) (kk : Q none M I J) : zz_G y d k pc ls [] M I J Q := by
  intro p l e R t0 m args below meth c Z base b D cT H locs arr hh
  obtain ⟨hC, hZ, hk, hL, hW, hX, hS⟩ := hh
  exact hZ k pc H locs arr .return_ none M I J hd (Or.inr (Or.inr (Or.inr ⟨rfl, rfl, hr⟩))) hk hW hX hS kk
end ZR
end
section
/-! ===== rows: fields and arrays ===== -/
def zz_ui (I : zz_I) (a j : Nat) (x : Int32) : zz_I := fun c => if c = a then upd (I a) j x else I c
def zz_uj (J : zz_J) (a j : Nat) (x : Int64) : zz_J := fun c => if c = a then vp_updL (J a) j x else J c
theorem zz_ui_at (I : zz_I) (a j : Nat) (x : Int32) : zz_ui I a j x a = upd (I a) j x := if_pos rfl
theorem zz_ui_ne (I : zz_I) {a c : Nat} (j : Nat) (x : Int32) (h : c ≠ a) : zz_ui I a j x c = I c := if_neg h
theorem zz_uj_at (J : zz_J) (a j : Nat) (x : Int64) : zz_uj J a j x a = vp_updL (J a) j x := if_pos rfl
theorem zz_uj_ne (J : zz_J) {a c : Nat} (j : Nat) (x : Int64) (h : c ≠ a) : zz_uj J a j x c = J c := if_neg h
theorem zz_E0 {ad : Nat → Nat} {cT : Nat → ClassId} {S : zz_S} {i : Nat → Int32} {j : Nat → Int64} {ci : Nat} (h : S.1 = 0) (hc : S.2.1 = ci) : zz_E ad cT S i j = .inr (ci, (List.range (zz_nf ci)).map fun k => zz_fv ad (zz_ty ci k) (i k) (j k) (S.2.2 k)) := by
  obtain ⟨t, n, r⟩ := S
  subst h; subst hc
  rfl
theorem zz_E1 {ad : Nat → Nat} {cT : Nat → ClassId} {S : zz_S} {i : Nat → Int32} {j : Nat → Int64} (h : S.1 = 1) : zz_E ad cT S i j = .inl (cT 1, S.2.1, .inl i) := by
  obtain ⟨t, n, r⟩ := S
  subst h
  rfl
theorem zz_E2 {ad : Nat → Nat} {cT : Nat → ClassId} {S : zz_S} {i : Nat → Int32} {j : Nat → Int64} (h : S.1 = 2) : zz_E ad cT S i j = .inl (cT 2, S.2.1, .inr (.inl j)) := by
  obtain ⟨t, n, r⟩ := S
  subst h
  rfl
theorem zz_E3 {ad : Nat → Nat} {cT : Nat → ClassId} {S : zz_S} {i : Nat → Int32} {j : Nat → Int64} (h : S.1 = 3) : zz_E ad cT S i j = .inl (cT 3, S.2.1, .inl i) := by
  obtain ⟨t, n, r⟩ := S
  subst h
  rfl
theorem zz_E4 {ad : Nat → Nat} {cT : Nat → ClassId} {S : zz_S} {i : Nat → Int32} {j : Nat → Int64} (h : S.1 = 4) : zz_E ad cT S i j = .inl (cT 4, S.2.1, .inr (.inr (.inr (.inr (fun k => (S.2.2 k).map ad))))) := by
  obtain ⟨t, n, r⟩ := S
  subst h
  rfl
theorem zz_E5 {ad : Nat → Nat} {cT : Nat → ClassId} {S : zz_S} {i : Nat → Int32} {j : Nat → Int64} (h : S.1 = 5) : zz_E ad cT S i j = .inl (cT 5, S.2.1, .inr (.inr (.inr (.inr (fun k => (S.2.2 k).map ad))))) := by
  obtain ⟨t, n, r⟩ := S
  subst h
  rfl
/-- the cell a of the world -/
theorem zz_W.at {base b : Nat} {D : va_G} {cT : Nat → ClassId} {M : zz_M} {I : zz_I} {J : zz_J} {H : Heap} {a : Nat} (h : zz_W base b D cT M I J H) (h0 : 0 < a) (hN : a ≤ M.1) : va_at D zz_cl (zz_ad base b a, zz_E (zz_ad base b) cT (M.2 a) (I a) (J a)) H := by
  obtain ⟨j, rfl⟩ : ∃ j, a = j + 1 := ⟨a - 1, by omega⟩
  exact h.2 j (by omega)
theorem zz_P1 {D : va_G} {q : Nat × va_E} {H : Heap} (h : va_at D zz_cl q H) : va_P D zz_cl [q] H := by
  intro k x hx
  have hz : k < 1 := (List.getElem?_eq_some_iff.mp hx).1
  rw [show k = 0 by omega] at hx
  cases hx
  exact h
/-- one cell has changed -/
theorem zz_W.set {base b : Nat} {D : va_G} {cT : Nat → ClassId} {M M' : zz_M} {I I' : zz_I} {J J' : zz_J} {H H' : Heap} {a : Nat} (h : zz_W base b D cT M I J H) (h0 : 0 < a) (hz : H'.size = H.size) (ho : ∀ q, q ≠ zz_ad base b a → H'[q]? = H[q]?) (hM : M'.1 = M.1)
    (hoth : ∀ c, c ≠ a → M'.2 c = M.2 c ∧ I' c = I c ∧ J' c = J c) (hat : va_at D zz_cl (zz_ad base b a, zz_E (zz_ad base b) cT (M'.2 a) (I' a) (J' a)) H') : zz_W base b D cT M' I' J' H' := by
  refine ⟨by rw [hz, hM]; exact h.1, fun k hk => ?_⟩
  rw [hM] at hk
  by_cases e : k + 1 = a
  · subst e
    exact hat
  · obtain ⟨e1, e2, e3⟩ := hoth (k + 1) e
    rw [e1, e2, e3]
    refine (h.2 k hk).kept (ho _ ?_)
    obtain ⟨j, rfl⟩ : ∃ j, a = j + 1 := ⟨a - 1, by omega⟩
    show base + k ≠ base + j
    omega
theorem zz_X.kept {base b : Nat} {M M' : zz_M} {I I' : zz_I} {U : State} {H H' : Heap} (h : zz_X base b M I U H) (hM : M'.2 0 = M.2 0) (hI : I' 0 = I 0) (hq : ∀ q, q < base → H'[q]? = H[q]?) : zz_X base b M' I' U H' := by
  refine ⟨h.1, by rw [hM]; exact h.2.1, ?_⟩
  rw [hM, hI]
  exact h.2.2.kept (hq b h.1)
theorem zz_ad_ge {base b a : Nat} (h : 0 < a) : base ≤ zz_ad base b a := by
  obtain ⟨j, rfl⟩ : ∃ j, a = j + 1 := ⟨a - 1, by omega⟩
  exact Nat.le_add_right _ _
theorem zz_V {n j : Nat} (g : Nat → Value) (h : j < n) : vp_V ((List.range n).map g) j = g j := by
  simp [vp_V, h]
/-- a field's number: in the class ci the place f -/
def zz_fd (own : String) (idx ci f : Nat) : Prop := ∃ q : vw_C, zz_cl[ci]? = some q ∧ f < q.2.2 ∧ Cond.fieldLink own idx q.1 (q.2.1 f).2.1 (q.2.1 f).2.2.1 ∈ zz_tbl
section ZM
variable {p : Program} {l : Launch} {e : Env} {R : Room} {t0 : State} {m : MethodId} {args : Array Value} {below : List Frame} {meth : Method} {c : Code} {Z : State → Prop} {base b : Nat} {D : va_G} {cT : Nat → ClassId} {H : Heap} {locs : List Loc} {arr : Array Slot}
variable {y : zz_Y} {d k n pc : Nat} {rest : List Value} {M : zz_M} {I : zz_I} {J : zz_J}
theorem zz_getW (hC : zz_C y d p R t0 m args meth c base D cT) (hW : zz_W base b D cT M I J H) {a ci f idx : Nat} (hd : decode y.2.1 pc = .ok (.getfield idx, 3)) (hf : zz_fd y.1.cls idx ci f) (hs : zz_is M a 0 ci) {v : Value} (hv : zz_fv (zz_ad base b) (zz_ty ci f) (I a f) (J a f) ((M.2 a).2.2 f) = v)
    (kk : W p l e R t0 m args below meth c H locs k n Z (F0 m (pc + 3) arr (v :: rest))) : W p l e R t0 m args below meth c H locs k n Z (F0 m pc arr (.ref (zz_ad base b a) :: rest)) := by
  obtain ⟨q, hq, hlt, hw⟩ := hf
  obtain ⟨C, T, N⟩ := q
  obtain ⟨ok1, ok2, ok3, ok4, ok5⟩ := zz_oks ci _ hq
  have hP := zz_P1 (hW.at hs.1 hs.2.1)
  rw [zz_E0 hs.2.2.1 hs.2.2.2] at hP
  have hlt' : f < zz_nf ci := by rw [← ok1]; exact hlt
  refine va_get (C := C) (T := T) (N := N) (ref := C) hC.1 hC.2.1 hC.2.2.2.2.1 ok2 hC.2.2.2.1 hC.2.2.2.2.2.1.1 hP 0 rfl hq f hlt (hC.2.2.2.2.1 _ hw) (fun x hx => by rw [show (T f).1 = C from ok5 f hlt] at hx; exact hx) (v := v) ?_ hd kk
  simp [hlt', hv]
theorem zz_putW (hC : zz_C y d p R t0 m args meth c base D cT) (hW : zz_W base b D cT M I J H) (hS : va_S (fun q => base ≤ q) t0.heap H locs) {a ci f idx : Nat} (hd : decode y.2.1 pc = .ok (.putfield idx, 3)) (hf : zz_fd y.1.cls idx ci f) (hs : zz_is M a 0 ci) {v : Value}
    (hfit : fits (zz_ty ci f) v = true) (hn : narrow (zz_ty ci f) v = v) (hfin : ∀ q : vw_C, zz_cl[ci]? = some q → (q.2.1 f).2.2.2 = false ∨ ((q.2.1 f).2.2.2 = true ∧ y.1.name = "<init>" ∧ q.1 = y.1.cls)) {M' : zz_M} {I' : zz_I} {J' : zz_J} (hM : M'.1 = M.1) (hoth : ∀ c, c ≠ a → M'.2 c = M.2 c ∧ I' c = I c ∧ J' c = J c) (hsh : (M'.2 a).1 = 0 ∧ (M'.2 a).2.1 = ci)
    (hval : ∀ j, j < zz_nf ci → (if j = f then v else zz_fv (zz_ad base b) (zz_ty ci j) (I a j) (J a j) ((M.2 a).2.2 j)) = zz_fv (zz_ad base b) (zz_ty ci j) (I' a j) (J' a j) ((M'.2 a).2.2 j))
    (kk : ∀ (H' : Heap) (locs' : List Loc), zz_W base b D cT M' I' J' H' → va_S (fun q => base ≤ q) t0.heap H' locs' → (∀ q, q < base → H'[q]? = H[q]?) → W p l e R t0 m args below meth c H' locs' k n Z (F0 m (pc + 3) arr rest)) : W p l e R t0 m args below meth c H locs k n Z (F0 m pc arr (v :: .ref (zz_ad base b a) :: rest)) := by
  obtain ⟨q, hq, hlt, hw⟩ := hf
  have hfin := hfin q hq
  obtain ⟨C, T, N⟩ := q
  obtain ⟨ok1, ok2, ok3, ok4, ok5⟩ := zz_oks ci _ hq
  have hts := hC.2.2.2.2.1
  have hK := hC.2.2.2.2.2.1.1
  have hap := va_apart (own := y.1.cls) hts ok2 (zz_ty ci) ok3 ok4 hK hq
  have hat := hW.at hs.1 hs.2.1
  rw [zz_E0 hs.2.2.1 hs.2.2.2] at hat
  obtain ⟨r, h1, cell, q1, q2, q3, q4⟩ := hat
  have hr : r = (C, T, N) := Option.some.inj (h1.symm.trans hq)
  subst hr
  obtain ⟨hSl, hfc, kC, hkC, hkind⟩ := hK.1 ci _ hq
  obtain ⟨cf, kf, fi, fd, hi, hsl⟩ := hSl f hlt
  have hC5 : (T f).1 = C := ok5 f hlt
  have hi' : t0.fieldFound? C (T f).2.1 (T f).2.2.1 = some (cf, kf, fi, fd) := by have := hi; rw [show ((C, T, N) : vw_C).2.1 = T from rfl] at this; rw [hC5] at this; exact this
  have hst := (u_facts hfc hkC (u_lays hts ok2 hlt) hi).1
  have hlay := hts _ (ok2 _ (u_in_lay hlt))
  unfold u_lay at hlay
  have hcont : ∀ H' : Heap, H'[zz_ad base b a]? = some (cell.setSlot fd.slot v) → H'.size = H.size → (∀ q, q ≠ zz_ad base b a → H'[q]? = H[q]?) → W p l e R t0 m args below meth c H' (locs ++ [⟨zz_ad base b a, fd.slot⟩]) k n Z (F0 m (pc + 3) arr rest) := by
    intro H' e1 e2 e3
    refine kk H' _ (hW.set hs.1 e2 e3 hM hoth ?_) (hS.put e2 e3 (zz_ad_ge hs.1)) (fun q hq' => e3 q (fun e => by have := zz_ad_ge (base := base) (b := b) hs.1; omega))
    rw [zz_E0 hsh.1 hsh.2]
    rw [hsl] at e1
    refine ⟨_, hq, t_OB.to (V := updV (vp_V _) f v) ⟨_, e1, q2, q3, t_set q4 hap hlt v⟩ (fun j hj => ?_)⟩
    have hj' : j < zz_nf ci := by rw [← ok1]; exact hj
    rw [zz_V _ hj', ← hval j hj']
    unfold updV
    by_cases e : j = f
    · simp [e]
    · rw [if_neg e, if_neg e, zz_V _ hj']
  rcases hfin with hfin | ⟨hfin, hin2, hdecl⟩
  · rw [if_neg (by rw [show (T f).2.2.2 = false from hfin]; decide)] at hlay
    have h6 := u_store hfc hkC hkind hlay hi (ok3 f hlt) hn hfit
    exact W.putK hC.1 hC.2.1 (f := fd) ⟨hC.2.2.2.1, hts _ hw, ⟨_, _, _, hi'⟩, hst⟩ (by rw [q2]; exact h6) q1 q3 (by rw [hsl]; exact k2_hasslot (q4 f hlt)) rfl rfl hd hcont
  · rw [if_pos (show (T f).2.2.2 = true from hfin)] at hlay
    have hcf : m.cls = cf := by
      obtain ⟨_, _, c', _, _, _, -, -, hf', -, -, -, hown2, -⟩ := Cond.laysFinal_spec hlay
      have e1 : c' = cf := by have := hi.symm.trans hf'; simp at this; exact this.1.symm
      rw [show ((C, T, N) : vw_C).2.1 = T from rfl] at hown2
      rw [hC5, show C = y.1.cls from hdecl] at hown2
      rw [← e1]
      exact Option.some.inj (hC.2.2.2.1.symm.trans hown2)
    have h6 := u_fits hfc hkC hkind (Or.inr hlay) hi (ok3 f hlt) hn hfit
    exact W.putFinK hC.1 hC.2.1 hC.2.2.2.1 (hts _ hw) hi' hst hcf (hC.2.2.2.2.2.2.2.2.2.2.2 hin2) (by rw [q2]; exact h6) q1 q3 (by rw [hsl]; exact k2_hasslot (q4 f hlt)) rfl rfl hd hcont
end ZM
end
section
/-! ===== rows: fields, arrays, making, calls ===== -/
theorem zz_upd_ne {f : Nat → Int32} {k j : Nat} {x : Int32} (h : j ≠ k) : upd f k x j = f j := if_neg h
theorem zz_updL_ne {f : Nat → Int64} {k j : Nat} {x : Int64} (h : j ≠ k) : vp_updL f k x j = f j := if_neg h
/-- a reference in a field, or in an array -/
def zz_us (S : Nat → zz_S) (a j : Nat) (r : Option Nat) : Nat → zz_S := fun c => if c = a then ((S a).1, (S a).2.1, fun i => if i = j then r else (S a).2.2 i) else S c
def zz_isr (t : FieldType) : Prop := ∀ (ad : Nat → Nat) (i : Int32) (j : Int64) (r : Option Nat), zz_fv ad t i j r = va_rf (r.map ad)
section ZN
variable {y : zz_Y} {d k pc : Nat} {ls : List (Option Value)} {st : List Value} {M : zz_M} {I : zz_I} {J : zz_J} {Q : zz_Q}
theorem zz_geti {a ci f idx : Nat} (hd : decode y.2.1 pc = .ok (.getfield idx, 3)) (hf : zz_fd y.1.cls idx ci f) (ht : zz_ty ci f = .int) (hs : zz_is M a 0 ci) (kk : zz_G y d k (pc + 3) ls (.int (I a f) :: st) M I J Q) : zz_G y d k pc ls (.ref a :: st) M I J Q := by
  intro p l e R t0 m args below meth c Z base b D cT H locs arr hh
  obtain ⟨hC, hZ, hk, hL, hW, hX, hS⟩ := hh
  exact zz_getW hC hW hd hf hs (by rw [ht]; rfl) (kk p l e R t0 m args below meth c Z base b D cT H locs arr ⟨hC, hZ, hk, hL, hW, hX, hS⟩)
theorem zz_getl {a ci f idx : Nat} (hd : decode y.2.1 pc = .ok (.getfield idx, 3)) (hf : zz_fd y.1.cls idx ci f) (ht : zz_ty ci f = .long) (hs : zz_is M a 0 ci) (kk : zz_G y d k (pc + 3) ls (.long (J a f) :: st) M I J Q) : zz_G y d k pc ls (.ref a :: st) M I J Q := by
  intro p l e R t0 m args below meth c Z base b D cT H locs arr hh
  obtain ⟨hC, hZ, hk, hL, hW, hX, hS⟩ := hh
  exact zz_getW hC hW hd hf hs (by rw [ht]; rfl) (kk p l e R t0 m args below meth c Z base b D cT H locs arr ⟨hC, hZ, hk, hL, hW, hX, hS⟩)
theorem zz_getr {a ci f idx q : Nat} (hd : decode y.2.1 pc = .ok (.getfield idx, 3)) (hf : zz_fd y.1.cls idx ci f) (ht : zz_isr (zz_ty ci f)) (hs : zz_is M a 0 ci) (hr : (M.2 a).2.2 f = some q) (kk : zz_G y d k (pc + 3) ls (.ref q :: st) M I J Q) : zz_G y d k pc ls (.ref a :: st) M I J Q := by
  intro p l e R t0 m args below meth c Z base b D cT H locs arr hh
  obtain ⟨hC, hZ, hk, hL, hW, hX, hS⟩ := hh
  exact zz_getW hC hW hd hf hs (by rw [ht, hr]; rfl) (kk p l e R t0 m args below meth c Z base b D cT H locs arr ⟨hC, hZ, hk, hL, hW, hX, hS⟩)
theorem zz_puti {a ci f idx : Nat} {x : Int32} (hd : decode y.2.1 pc = .ok (.putfield idx, 3)) (hf : zz_fd y.1.cls idx ci f) (ht : zz_ty ci f = .int) (hfin : ∀ q : vw_C, zz_cl[ci]? = some q → (q.2.1 f).2.2.2 = false) (hs : zz_is M a 0 ci) (kk : zz_G y d k (pc + 3) ls st M (zz_ui I a f x) J Q) : zz_G y d k pc ls (.int x :: .ref a :: st) M I J Q := by
  intro p l e R t0 m args below meth c Z base b D cT H locs arr hh
  obtain ⟨hC, hZ, hk, hL, hW, hX, hS⟩ := hh
  refine zz_putW (M' := M) (I' := zz_ui I a f x) (J' := J) hC hW hS hd hf hs (by rw [ht]; rfl) (by rw [ht]; rfl) (fun q hq => Or.inl (hfin q hq)) rfl (fun c hc => ⟨rfl, zz_ui_ne I f x hc, rfl⟩) hs.2.2 (fun j _ => ?_) (fun H' locs' hW' hS' ho => kk p l e R t0 m args below meth c Z base b D cT H' locs' arr ⟨hC, hZ, hk, hL, hW', hX.kept rfl (zz_ui_ne I f x (Nat.ne_of_lt hs.1)) ho, hS'⟩)
  rw [zz_ui_at]
  by_cases e : j = f
  · rw [if_pos e, e, ht]
    simp [zz_fv, upd, zz_tr]
  · rw [if_neg e, zz_upd_ne e]
theorem zz_putl {a ci f idx : Nat} {x : Int64} (hd : decode y.2.1 pc = .ok (.putfield idx, 3)) (hf : zz_fd y.1.cls idx ci f) (ht : zz_ty ci f = .long) (hfin : ∀ q : vw_C, zz_cl[ci]? = some q → (q.2.1 f).2.2.2 = false) (hs : zz_is M a 0 ci) (kk : zz_G y d k (pc + 3) ls st M I (zz_uj J a f x) Q) : zz_G y d k pc ls (.long x :: .ref a :: st) M I J Q := by
  intro p l e R t0 m args below meth c Z base b D cT H locs arr hh
  obtain ⟨hC, hZ, hk, hL, hW, hX, hS⟩ := hh
  refine zz_putW (M' := M) (I' := I) (J' := zz_uj J a f x) hC hW hS hd hf hs (by rw [ht]; rfl) (by rw [ht]; rfl) (fun q hq => Or.inl (hfin q hq)) rfl (fun c hc => ⟨rfl, rfl, zz_uj_ne J f x hc⟩) hs.2.2 (fun j _ => ?_) (fun H' locs' hW' hS' ho => kk p l e R t0 m args below meth c Z base b D cT H' locs' arr ⟨hC, hZ, hk, hL, hW', hX.kept rfl rfl ho, hS'⟩)
  rw [zz_uj_at]
  by_cases e : j = f
  · rw [if_pos e, e, ht]
    simp [zz_fv, vp_updL, zz_tr]
  · rw [if_neg e, zz_updL_ne e]
theorem zz_putr {a ci f idx q : Nat} (hd : decode y.2.1 pc = .ok (.putfield idx, 3)) (hf : zz_fd y.1.cls idx ci f) (ht : zz_isr (zz_ty ci f)) (hfit : ∀ w : Nat, fits (zz_ty ci f) (.ref w) = true ∧ narrow (zz_ty ci f) (.ref w) = .ref w) (hfin : ∀ q : vw_C, zz_cl[ci]? = some q → (q.2.1 f).2.2.2 = true ∧ q.1 = y.1.cls) (hin : y.1.name = "<init>") (hs : zz_is M a 0 ci)
    (kk : zz_G y d k (pc + 3) ls st (M.1, zz_us M.2 a f (some q)) I J Q) : zz_G y d k pc ls (.ref q :: .ref a :: st) M I J Q := by
  intro p l e R t0 m args below meth c Z base b D cT H locs arr hh
  obtain ⟨hC, hZ, hk, hL, hW, hX, hS⟩ := hh
  have hus : zz_us M.2 a f (some q) a = ((M.2 a).1, (M.2 a).2.1, fun i => if i = f then some q else (M.2 a).2.2 i) := if_pos rfl
  refine zz_putW (M' := (M.1, zz_us M.2 a f (some q))) (I' := I) (J' := J) hC hW hS hd hf hs (hfit _).1 (hfit _).2 (fun w hw => Or.inr ⟨(hfin w hw).1, hin, (hfin w hw).2⟩) rfl (fun c hc => ⟨if_neg hc, rfl, rfl⟩) ?_ (fun j _ => ?_) (fun H' locs' hW' hS' ho => kk p l e R t0 m args below meth c Z base b D cT H' locs' arr ⟨hC, hZ, hk, hL, hW', hX.kept (if_neg (Nat.ne_of_lt hs.1)) rfl ho, hS'⟩)
  · show (zz_us M.2 a f (some q) a).1 = 0 ∧ (zz_us M.2 a f (some q) a).2.1 = ci
    rw [hus]
    exact hs.2.2
  · show _ = zz_fv _ _ _ _ ((zz_us M.2 a f (some q) a).2.2 j)
    rw [hus]
    by_cases e : j = f
    · subst e
      simp [ht (zz_ad base b), va_rf, zz_ad, zz_tr]
    · simp [e]
theorem zz_iald {a n : Nat} {i : Int32} (hd : decode y.2.1 pc = .ok (.iaload, 1)) (hs : zz_is M a 1 n) (hi : vp_in i n) (kk : zz_G y d k (pc + 1) ls (.int (I a i.toNatClampNeg) :: st) M I J Q) : zz_G y d k pc ls (.int i :: .ref a :: st) M I J Q := by
  intro p l e R t0 m args below meth c Z base b D cT H locs arr hh
  obtain ⟨hC, hZ, hk, hL, hW, hX, hS⟩ := hh
  have hP := zz_P1 (hW.at hs.1 hs.2.1)
  rw [zz_E1 hs.2.2.1, hs.2.2.2] at hP
  exact va_iald hC.1 hC.2.1 hC.2.2.2.2.2.1.1 hP 0 0 rfl rfl hi hd (kk p l e R t0 m args below meth c Z base b D cT H locs arr ⟨hC, hZ, hk, hL, hW, hX, hS⟩)
theorem zz_lald {a n : Nat} {i : Int32} (hd : decode y.2.1 pc = .ok (.laload, 1)) (hs : zz_is M a 2 n) (hi : vp_in i n) (kk : zz_G y d k (pc + 1) ls (.long (J a i.toNatClampNeg) :: st) M I J Q) : zz_G y d k pc ls (.int i :: .ref a :: st) M I J Q := by
  intro p l e R t0 m args below meth c Z base b D cT H locs arr hh
  obtain ⟨hC, hZ, hk, hL, hW, hX, hS⟩ := hh
  have hP := zz_P1 (hW.at hs.1 hs.2.1)
  rw [zz_E2 hs.2.2.1, hs.2.2.2] at hP
  exact va_lald hC.1 hC.2.1 hC.2.2.2.2.2.1.1 hP 0 1 rfl rfl hi hd (kk p l e R t0 m args below meth c Z base b D cT H locs arr ⟨hC, hZ, hk, hL, hW, hX, hS⟩)
theorem zz_bald {a n : Nat} {i : Int32} (hd : decode y.2.1 pc = .ok (.baload, 1)) (hs : zz_is M a 3 n) (hi : vp_in i n) (kk : zz_G y d k (pc + 1) ls (.int (I a i.toNatClampNeg) :: st) M I J Q) : zz_G y d k pc ls (.int i :: .ref a :: st) M I J Q := by
  intro p l e R t0 m args below meth c Z base b D cT H locs arr hh
  obtain ⟨hC, hZ, hk, hL, hW, hX, hS⟩ := hh
  have hP := zz_P1 (hW.at hs.1 hs.2.1)
  rw [zz_E3 hs.2.2.1, hs.2.2.2] at hP
  exact va_bald hC.1 hC.2.1 hC.2.2.2.2.2.1.1 hP 0 2 rfl rfl hi hd (kk p l e R t0 m args below meth c Z base b D cT H locs arr ⟨hC, hZ, hk, hL, hW, hX, hS⟩)
theorem zz_aald {a n q : Nat} {i : Int32} (hd : decode y.2.1 pc = .ok (.aaload, 1)) (hs : zz_is M a 4 n) (hi : vp_in i n) (hr : (M.2 a).2.2 i.toNatClampNeg = some q) (kk : zz_G y d k (pc + 1) ls (.ref q :: st) M I J Q) : zz_G y d k pc ls (.int i :: .ref a :: st) M I J Q := by
  intro p l e R t0 m args below meth c Z base b D cT H locs arr hh
  obtain ⟨hC, hZ, hk, hL, hW, hX, hS⟩ := hh
  have hP := zz_P1 (hW.at hs.1 hs.2.1)
  rw [zz_E4 hs.2.2.1, hs.2.2.2] at hP
  refine va_aldq (C := "NeverMistaken$Line") hC.1 hC.2.1 hC.2.2.2.2.2.1.1 hP 0 3 rfl rfl hi hd ?_
  rw [hr]
  exact kk p l e R t0 m args below meth c Z base b D cT H locs arr ⟨hC, hZ, hk, hL, hW, hX, hS⟩
theorem zz_aaldI {a n q : Nat} {i : Int32} (hd : decode y.2.1 pc = .ok (.aaload, 1)) (hs : zz_is M a 5 n) (hi : vp_in i n) (hr : (M.2 a).2.2 i.toNatClampNeg = some q) (kk : zz_G y d k (pc + 1) ls (.ref q :: st) M I J Q) : zz_G y d k pc ls (.int i :: .ref a :: st) M I J Q := by
  intro p l e R t0 m args below meth c Z base b D cT H locs arr hh
  obtain ⟨hC, hZ, hk, hL, hW, hX, hS⟩ := hh
  have hat := hW.at hs.1 hs.2.1
  rw [zz_E5 hs.2.2.1, hs.2.2.2] at hat
  have hlt : i.toNatClampNeg < n := Nat.not_le.mp fun q => hi (Or.inr q)
  refine W.aald (v := va_rf (((M.2 a).2.2 i.toNatClampNeg).map (zz_ad base b))) (ty := .array .int) hC.1 hC.2.1 hat ((hC.2.2.2.2.2.1.1.2 4 _ rfl).1 n (fun j => va_rf (((M.2 a).2.2 j).map (zz_ad base b)))) rfl (fun q => by cases q) (by show ¬ (i < 0 ∨ (arrV _ _ _).slots.size ≤ _); rw [arrV_size]; exact hi) (by show (arrV _ _ _).slots[_]? = _; rw [arrV_read _ _ hlt]) rfl rfl hd ?_
  rw [hr]
  exact kk p l e R t0 m args below meth c Z base b D cT H locs arr ⟨hC, hZ, hk, hL, hW, hX, hS⟩
theorem zz_iald0 {i : Int32} (hd : decode y.2.1 pc = .ok (.iaload, 1)) (hi : vp_in i (M.2 0).2.1) (kk : zz_G y d k (pc + 1) ls (.int (I 0 i.toNatClampNeg) :: st) M I J Q) : zz_G y d k pc ls (.int i :: .ref 0 :: st) M I J Q := by
  intro p l e R t0 m args below meth c Z base b D cT H locs arr hh
  obtain ⟨hC, hZ, hk, hL, hW, hX, hS⟩ := hh
  exact va_sld (A := fun q => base ≤ q) (H0 := H) hC.1 hC.2.1 hX.2.2 (by rw [hW.1]; exact Nat.lt_of_lt_of_le hX.1 (Nat.le_add_right _ _)) (Nat.not_le.mpr hX.1) ⟨Nat.le_refl _, fun _ _ _ => rfl, hS.2.2⟩ hi hd (kk p l e R t0 m args below meth c Z base b D cT H locs arr ⟨hC, hZ, hk, hL, hW, hX, hS⟩)
theorem zz_alen0 (hd : decode y.2.1 pc = .ok (.arraylength, 1)) (kk : zz_G y d k (pc + 1) ls (.int (Int32.ofNat (M.2 0).2.1) :: st) M I J Q) : zz_G y d k pc ls (.ref 0 :: st) M I J Q := by
  intro p l e R t0 m args below meth c Z base b D cT H locs arr hh
  obtain ⟨hC, hZ, hk, hL, hW, hX, hS⟩ := hh
  exact va_slen (A := fun q => base ≤ q) (H0 := H) hC.1 hC.2.1 hX.2.2 (by rw [hW.1]; exact Nat.lt_of_lt_of_le hX.1 (Nat.le_add_right _ _)) (Nat.not_le.mpr hX.1) ⟨Nat.le_refl _, fun _ _ _ => rfl, hS.2.2⟩ hd (kk p l e R t0 m args below meth c Z base b D cT H locs arr ⟨hC, hZ, hk, hL, hW, hX, hS⟩)
theorem zz_iast {a n : Nat} {i : Int32} {x : Int32} (hd : decode y.2.1 pc = .ok (.iastore, 1)) (hs : zz_is M a 1 n) (hi : vp_in i n) (kk : zz_G y d k (pc + 1) ls st M (zz_ui I a i.toNatClampNeg (x)) J Q) : zz_G y d k pc ls (.int x :: .int i :: .ref a :: st) M I J Q := by
  intro p l e R t0 m args below meth c Z base b D cT H locs arr hh
  obtain ⟨hC, hZ, hk, hL, hW, hX, hS⟩ := hh
  have hat := hW.at hs.1 hs.2.1
  rw [zz_E1 hs.2.2.1, hs.2.2.2] at hat
  refine W.iast hC.1 hC.2.1 hat ((hC.2.2.2.2.2.1.1.2 0 _ rfl).1 n (fun j => .int (I a j))) (fun q => by cases q) (by show ¬ (i < 0 ∨ (arrV _ _ _).slots.size ≤ _); rw [arrV_size]; exact hi) rfl rfl hd fun H1 e9 z oq => ?_
  refine kk p l e R t0 m args below meth c Z base b D cT H1 _ arr ⟨hC, hZ, hk, hL, hW.set hs.1 z oq rfl (fun c hc => ⟨rfl, zz_ui_ne I _ _ hc, rfl⟩) ?_, hX.kept rfl (zz_ui_ne I _ _ (Nat.ne_of_lt hs.1)) (fun q hq => oq q (Nat.ne_of_lt (Nat.lt_of_lt_of_le hq (zz_ad_ge hs.1)))), hS.put z oq (zz_ad_ge hs.1)⟩
  rw [zz_E1 hs.2.2.1, hs.2.2.2, zz_ui_at]
  show H1[_]? = some (vp_cell _ _)
  rw [e9, vp_cell_i, vp_cell_i, arrV_store]
  congr 2
  funext q
  by_cases hq : q = i.toNatClampNeg
  · subst hq
    simp [updV, upd]
  · simp [updV, upd, hq]
theorem zz_bast {a n : Nat} {i : Int32} {x : Int32} (hd : decode y.2.1 pc = .ok (.bastore, 1)) (hs : zz_is M a 3 n) (hi : vp_in i n) (kk : zz_G y d k (pc + 1) ls st M (zz_ui I a i.toNatClampNeg (jv_b x)) J Q) : zz_G y d k pc ls (.int x :: .int i :: .ref a :: st) M I J Q := by
  intro p l e R t0 m args below meth c Z base b D cT H locs arr hh
  obtain ⟨hC, hZ, hk, hL, hW, hX, hS⟩ := hh
  have hat := hW.at hs.1 hs.2.1
  rw [zz_E3 hs.2.2.1, hs.2.2.2] at hat
  refine W.bast hC.1 hC.2.1 hat ((hC.2.2.2.2.2.1.1.2 2 _ rfl).1 n (fun j => .int (I a j))) (fun q => by cases q) (by show ¬ (i < 0 ∨ (arrV _ _ _).slots.size ≤ _); rw [arrV_size]; exact hi) rfl rfl hd fun H1 e9 z oq => ?_
  refine kk p l e R t0 m args below meth c Z base b D cT H1 _ arr ⟨hC, hZ, hk, hL, hW.set hs.1 z oq rfl (fun c hc => ⟨rfl, zz_ui_ne I _ _ hc, rfl⟩) ?_, hX.kept rfl (zz_ui_ne I _ _ (Nat.ne_of_lt hs.1)) (fun q hq => oq q (Nat.ne_of_lt (Nat.lt_of_lt_of_le hq (zz_ad_ge hs.1)))), hS.put z oq (zz_ad_ge hs.1)⟩
  rw [zz_E3 hs.2.2.1, hs.2.2.2, zz_ui_at]
  show H1[_]? = some (vp_cell _ _)
  rw [e9, vp_cell_i, vp_cell_i, arrV_store]
  congr 2
  funext q
  by_cases hq : q = i.toNatClampNeg
  · subst hq
    simp [updV, upd, narrow_byte, jv_b]
  · simp [updV, upd, hq]
theorem zz_last {a n : Nat} {i : Int32} {x : Int64} (hd : decode y.2.1 pc = .ok (.lastore, 1)) (hs : zz_is M a 2 n) (hi : vp_in i n) (kk : zz_G y d k (pc + 1) ls st M I (zz_uj J a i.toNatClampNeg x) Q) : zz_G y d k pc ls (.long x :: .int i :: .ref a :: st) M I J Q := by
  intro p l e R t0 m args below meth c Z base b D cT H locs arr hh
  obtain ⟨hC, hZ, hk, hL, hW, hX, hS⟩ := hh
  have hat := hW.at hs.1 hs.2.1
  rw [zz_E2 hs.2.2.1, hs.2.2.2] at hat
  refine W.last hC.1 hC.2.1 hat ((hC.2.2.2.2.2.1.1.2 1 _ rfl).1 n (fun j => .long (J a j))) (fun q => by cases q) (by show ¬ (i < 0 ∨ (arrV _ _ _).slots.size ≤ _); rw [arrV_size]; exact hi) rfl rfl hd fun H1 e9 z oq => ?_
  refine kk p l e R t0 m args below meth c Z base b D cT H1 _ arr ⟨hC, hZ, hk, hL, hW.set hs.1 z oq rfl (fun c hc => ⟨rfl, rfl, zz_uj_ne J _ _ hc⟩) ?_, hX.kept rfl rfl (fun q hq => oq q (Nat.ne_of_lt (Nat.lt_of_lt_of_le hq (zz_ad_ge hs.1)))), hS.put z oq (zz_ad_ge hs.1)⟩
  rw [zz_E2 hs.2.2.1, hs.2.2.2, zz_uj_at]
  show H1[_]? = some (vp_cell _ _)
  rw [e9, vp_cell_l, vp_cell_l, arrV_store]
  congr 2
  funext q
  by_cases hq : q = i.toNatClampNeg
  · subst hq
    simp [updV, vp_updL]
  · simp [updV, vp_updL, hq]
/-- what a call's link says: the method's name and code are in the tables -/
def zz_lk (y : zz_Y) (n : Nat) : Prop := Cond.code y.1 y.2.1 y.2.2.1 y.2.2.2.1 ∈ zz_tbl ∧ Cond.initialized y.1.cls ∈ zz_tbl ∧ (y.1.cls ≠ "java/lang/invoke/MethodHandle" ∧ y.1.cls ≠ "java/lang/invoke/VarHandle" ∧ (parseMethodDescriptor y.1.desc).map (fun d => d.parameters.length) = some n) ∧ y.2.2.1 ≤ 81
theorem zz_goodIn {y : zz_Y} {n : Nat} (h : zz_lk y n) : GoodIn zz_tbl (zz_ws y) := fun w hw => by
  rcases List.mem_cons.mp hw with rfl | h1
  · exact ⟨h.1, good_of_word (zz_tbl_good _ h.1)⟩
  · exact ⟨h1, good_of_word (zz_tbl_good _ h1)⟩
theorem zz_roomOk {y : zz_Y} {n d : Nat} {R : Room} (h : zz_lk y n) (h1 : d + 1 ≤ R.frames) (h2 : 100 * (d + 1) ≤ R.locals) : (zz_rm y d).frames + 1 ≤ R.frames ∧ 8 + (y.2.2.1 + 11) + (zz_rm y d).locals ≤ R.locals := by
  have := h.2.2.2
  exact ⟨h1, by show 8 + (y.2.2.1 + 11) + 100 * d ≤ R.locals; omega⟩
theorem zz_catsum (base b : Nat) (st : List Value) : ((st.map (zz_tr base b)).map fun v => v.category).sum = (st.map fun v => v.category).sum := by
  rw [List.map_map]
  congr 1
  apply List.map_congr_left
  intro v _
  exact zz_tr_cat base b v
theorem zz_callV {y' : zz_Y} {a ci idx : Nat} {w : vw_C} {As : List Value} (hd : decode y.2.1 pc = .ok (.invokevirtual idx, 3)) (hlk : zz_lk y' As.length) (hlink : Cond.methodLink y.1.cls idx y'.1 ∈ zz_tbl) (hin : Cond.instanceMethod y'.1 ∈ zz_tbl) (hsel : Cond.selects y'.1.cls y'.1 y'.1 ∈ zz_tbl) (hs : zz_is M a 0 ci) (hcl : zz_cl[ci]? = some w) (hcn : w.1 = y'.1.cls) (hcat : (st.map fun v => v.category).sum ≤ 8) (hkk : k + y'.2.2.2.2 ≤ y.2.2.2.2)
    (kk : zz_D y' d (.ref a :: As) M I J (fun v M' I' J' => zz_G y (d + 1) (k + y'.2.2.2.2) (pc + 3) ls (v.toList ++ st) M' I' J' Q)) : zz_G y (d + 1) k pc ls (As.reverse ++ .ref a :: st) M I J Q := by
  intro p l e R t0 m args below meth c Z base b D cT H locs arr hh
  obtain ⟨hC, hZ, hk, hL, hW, hX, hS⟩ := hh
  obtain ⟨y1, y2, y3, y4, y5⟩ := y'
  have hrecv : ∃ cellB : Cell, H[zz_ad base b a]? = some cellB ∧ cellB.vm.isStatics = false ∧ t0.vm.findClass y1.cls = some cellB.cls := by
    have hP := zz_P1 (hW.at hs.1 hs.2.1)
    rw [zz_E0 hs.2.2.1 hs.2.2.2] at hP
    have := va_recv hC.2.2.2.2.2.1.1 hP hcl (q0 := 0) rfl
    rw [hcn] at this
    exact this
  have hts := hC.2.2.2.2.1
  have hM := kk l base b D cT
  have hst0 : 2 * (F0 m pc arr ((As.reverse ++ .ref a :: st).map (zz_tr base b))).monitorRoom + (((st.map (zz_tr base b)).map fun v => v.category).sum) ≤ 8 := lv_room (rest := (As.reverse ++ .ref a :: st).map (zz_tr base b)) (by rw [zz_catsum]; exact hcat)
  have hcs : k + y5 ≤ R.cells ∧ 1200 * k + 1200 * y5 ≤ R.slots := by
    have h1 := hC.2.2.2.2.2.2.2.2.2.1
    have h2 := hC.2.2.2.2.2.2.2.2.2.2.1
    have h3 : k + y5 ≤ y.2.2.2.2 := hkk
    exact ⟨by omega, by omega⟩
  have hfr := zz_roomOk hlk hC.2.2.2.2.2.2.2.1 hC.2.2.2.2.2.2.2.2.1
  have cb := callB_of (R := R) (args := args) (s := t0) As.length hts (zz_goodIn hlk) rfl rfl rfl (hts _ hlk.2.1) (hts _ hlink) hlk.2.2.1 hfr
  refine zz_back (st := st) hC hZ hkk hL hS (va_runV (As := As.map (zz_tr base b)) (rest := st.map (zz_tr base b)) ⟨hC.1, hC.2.1, hC.2.2.1, hC.2.2.2.1, hts⟩ hM ⟨cb, hts _ hin, hts _ hsel⟩ ⟨zz_Pc.blind, hrecv, zz_Pc.at hW hX hC.2.2.2.2.2.1⟩ rfl (List.length_map _) hL.1 (by simp [List.map_reverse, zz_tr]) hst0 hd hcs) (fun v M' I' J' h => h)
theorem zz_callS {y' : zz_Y} {idx : Nat} {As : List Value} (hd : decode y.2.1 pc = .ok (.invokestatic idx, 3)) (hlk : zz_lk y' As.length) (hlink : Cond.methodLink y.1.cls idx y'.1 ∈ zz_tbl) (hst : Cond.static y'.1 ∈ zz_tbl) (hcat : (st.map fun v => v.category).sum ≤ 8) (hkk : k + y'.2.2.2.2 ≤ y.2.2.2.2)
    (kk : zz_D y' d (As) M I J (fun v M' I' J' => zz_G y (d + 1) (k + y'.2.2.2.2) (pc + 3) ls (v.toList ++ st) M' I' J' Q)) : zz_G y (d + 1) k pc ls (As.reverse ++ st) M I J Q := by
  intro p l e R t0 m args below meth c Z base b D cT H locs arr hh
  obtain ⟨hC, hZ, hk, hL, hW, hX, hS⟩ := hh
  obtain ⟨y1, y2, y3, y4, y5⟩ := y'
  have hts := hC.2.2.2.2.1
  have hM := kk l base b D cT
  have hst0 : 2 * (F0 m pc arr ((As.reverse ++ st).map (zz_tr base b))).monitorRoom + (((st.map (zz_tr base b)).map fun v => v.category).sum) ≤ 8 := lv_room (rest := (As.reverse ++ st).map (zz_tr base b)) (by rw [zz_catsum]; exact hcat)
  have hcs : k + y5 ≤ R.cells ∧ 1200 * k + 1200 * y5 ≤ R.slots := by
    have h1 := hC.2.2.2.2.2.2.2.2.2.1
    have h2 := hC.2.2.2.2.2.2.2.2.2.2.1
    have h3 : k + y5 ≤ y.2.2.2.2 := hkk
    exact ⟨by omega, by omega⟩
  have hfr := zz_roomOk hlk hC.2.2.2.2.2.2.2.1 hC.2.2.2.2.2.2.2.2.1
  have cb := callB_of (R := R) (args := args) (s := t0) As.length hts (zz_goodIn hlk) rfl rfl rfl (hts _ hlk.2.1) (hts _ hlink) hlk.2.2.1 hfr
  refine zz_back (st := st) hC hZ hkk hL hS (va_runS (As := As.map (zz_tr base b)) (rest := st.map (zz_tr base b)) ⟨hC.1, hC.2.1, hC.2.2.1, hC.2.2.2.1, hts⟩ hM ⟨cb, hts _ hst⟩ ⟨zz_Pc.blind, zz_Pc.at hW hX hC.2.2.2.2.2.1⟩ rfl (List.length_map _) hL.1 (by simp [List.map_reverse, zz_tr]) hst0 hd hcs) (fun v M' I' J' h => h)
theorem zz_callSN {y' : zz_Y} {idx : Nat} {host : String} {As : List Value} (hd : decode y.2.1 pc = .ok (.invokestatic idx, 3)) (hlk : zz_lk y' As.length) (hlink : Cond.methodLinkNest y.1.cls idx y'.1 host ∈ zz_nest) (hst : Cond.static y'.1 ∈ zz_tbl) (hcat : (st.map fun v => v.category).sum ≤ 8) (hkk : k + y'.2.2.2.2 ≤ y.2.2.2.2)
    (kk : zz_D y' d (As) M I J (fun v M' I' J' => zz_G y (d + 1) (k + y'.2.2.2.2) (pc + 3) ls (v.toList ++ st) M' I' J' Q)) : zz_G y (d + 1) k pc ls (As.reverse ++ st) M I J Q := by
  intro p l e R t0 m args below meth c Z base b D cT H locs arr hh
  obtain ⟨hC, hZ, hk, hL, hW, hX, hS⟩ := hh
  obtain ⟨y1, y2, y3, y4, y5⟩ := y'
  have hts := hC.2.2.2.2.1
  have hM := kk l base b D cT
  have hst0 : 2 * (F0 m pc arr ((As.reverse ++ st).map (zz_tr base b))).monitorRoom + (((st.map (zz_tr base b)).map fun v => v.category).sum) ≤ 8 := lv_room (rest := (As.reverse ++ st).map (zz_tr base b)) (by rw [zz_catsum]; exact hcat)
  have hcs : k + y5 ≤ R.cells ∧ 1200 * k + 1200 * y5 ≤ R.slots := by
    have h1 := hC.2.2.2.2.2.2.2.2.2.1
    have h2 := hC.2.2.2.2.2.2.2.2.2.2.1
    have h3 : k + y5 ≤ y.2.2.2.2 := hkk
    exact ⟨by omega, by omega⟩
  have hfr := zz_roomOk hlk hC.2.2.2.2.2.2.2.1 hC.2.2.2.2.2.2.2.2.1
  have cb := va_cnB (R := R) (args := args) (s := t0) As.length hts (zz_goodIn hlk) rfl rfl rfl (hC.2.2.2.2.2.1.2.1 _ hlink) (hts _ hlk.2.1) hlk.2.2.1 hfr
  refine zz_back (st := st) hC hZ hkk hL hS (va_runSN (As := As.map (zz_tr base b)) (rest := st.map (zz_tr base b)) ⟨hC.1, hC.2.1, hC.2.2.1, hC.2.2.2.1, hts⟩ hM ⟨cb, hts _ hst, trivial⟩ ⟨zz_Pc.blind, zz_Pc.at hW hX hC.2.2.2.2.2.1⟩ rfl (List.length_map _) hL.1 (by simp [List.map_reverse, zz_tr]) hst0 hd hcs) (fun v M' I' J' h => h)
theorem zz_callI {y' : zz_Y} {a idx : Nat} {As : List Value} (hd : decode y.2.1 pc = .ok (.invokespecial idx, 3)) (hlk : zz_lk y' As.length) (hlink : Cond.methodLink y.1.cls idx y'.1 ∈ zz_tbl) (hin : Cond.instanceMethod y'.1 ∈ zz_tbl) (hnm : y'.1.name = "<init>") (hrt : y'.2.2.2.1 = none) (hcat : (st.map fun v => v.category).sum ≤ 8) (hkk : k + y'.2.2.2.2 ≤ y.2.2.2.2)
    (kk : zz_D y' d (.ref a :: As) M I J (fun v M' I' J' => zz_G y (d + 1) (k + y'.2.2.2.2) (pc + 3) ls (v.toList ++ st) M' I' J' Q)) : zz_G y (d + 1) k pc ls (As.reverse ++ .ref a :: st) M I J Q := by
  intro p l e R t0 m args below meth c Z base b D cT H locs arr hh
  obtain ⟨hC, hZ, hk, hL, hW, hX, hS⟩ := hh
  obtain ⟨y1, y2, y3, y4, y5⟩ := y'
  have hrt : y4 = none := hrt
  subst hrt
  have hts := hC.2.2.2.2.1
  have hM := kk l base b D cT
  have hst0 : 2 * (F0 m pc arr ((As.reverse ++ .ref a :: st).map (zz_tr base b))).monitorRoom + (((st.map (zz_tr base b)).map fun v => v.category).sum) ≤ 8 := lv_room (rest := (As.reverse ++ .ref a :: st).map (zz_tr base b)) (by rw [zz_catsum]; exact hcat)
  have hcs : k + y5 ≤ R.cells ∧ 1200 * k + 1200 * y5 ≤ R.slots := by
    have h1 := hC.2.2.2.2.2.2.2.2.2.1
    have h2 := hC.2.2.2.2.2.2.2.2.2.2.1
    have h3 : k + y5 ≤ y.2.2.2.2 := hkk
    exact ⟨by omega, by omega⟩
  have hfr := zz_roomOk hlk hC.2.2.2.2.2.2.2.1 hC.2.2.2.2.2.2.2.2.1
  have cb := callB_of (R := R) (args := args) (s := t0) As.length hts (zz_goodIn hlk) rfl rfl rfl (hts _ hlk.2.1) (hts _ hlink) hlk.2.2.1 hfr
  refine zz_back (st := st) hC hZ hkk hL hS (va_runI (As := As.map (zz_tr base b)) (rest := st.map (zz_tr base b)) ⟨hC.1, hC.2.1, hC.2.2.1, hC.2.2.2.1, hts⟩ hM ⟨cb, hnm, hts _ hin⟩ ⟨zz_Pc.blind, zz_Pc.at hW hX hC.2.2.2.2.2.1⟩ rfl (List.length_map _) hL.1 (by simp [List.map_reverse, zz_tr]) hst0 hd hcs) (fun v M' I' J' h => h)
theorem zz_callIN {y' : zz_Y} {a idx : Nat} {host : String} {As : List Value} (hd : decode y.2.1 pc = .ok (.invokespecial idx, 3)) (hlk : zz_lk y' As.length) (hlink : Cond.methodLinkNest y.1.cls idx y'.1 host ∈ zz_nest) (hin : Cond.instanceMethod y'.1 ∈ zz_tbl) (hnm : y'.1.name = "<init>") (hrt : y'.2.2.2.1 = none) (hcat : (st.map fun v => v.category).sum ≤ 8) (hkk : k + y'.2.2.2.2 ≤ y.2.2.2.2)
    (kk : zz_D y' d (.ref a :: As) M I J (fun v M' I' J' => zz_G y (d + 1) (k + y'.2.2.2.2) (pc + 3) ls (v.toList ++ st) M' I' J' Q)) : zz_G y (d + 1) k pc ls (As.reverse ++ .ref a :: st) M I J Q := by
  intro p l e R t0 m args below meth c Z base b D cT H locs arr hh
  obtain ⟨hC, hZ, hk, hL, hW, hX, hS⟩ := hh
  obtain ⟨y1, y2, y3, y4, y5⟩ := y'
  have hrt : y4 = none := hrt
  subst hrt
  have hts := hC.2.2.2.2.1
  have hM := kk l base b D cT
  have hst0 : 2 * (F0 m pc arr ((As.reverse ++ .ref a :: st).map (zz_tr base b))).monitorRoom + (((st.map (zz_tr base b)).map fun v => v.category).sum) ≤ 8 := lv_room (rest := (As.reverse ++ .ref a :: st).map (zz_tr base b)) (by rw [zz_catsum]; exact hcat)
  have hcs : k + y5 ≤ R.cells ∧ 1200 * k + 1200 * y5 ≤ R.slots := by
    have h1 := hC.2.2.2.2.2.2.2.2.2.1
    have h2 := hC.2.2.2.2.2.2.2.2.2.2.1
    have h3 : k + y5 ≤ y.2.2.2.2 := hkk
    exact ⟨by omega, by omega⟩
  have hfr := zz_roomOk hlk hC.2.2.2.2.2.2.2.1 hC.2.2.2.2.2.2.2.2.1
  have cb := va_cnB (R := R) (args := args) (s := t0) As.length hts (zz_goodIn hlk) rfl rfl rfl (hC.2.2.2.2.2.1.2.1 _ hlink) (hts _ hlk.2.1) hlk.2.2.1 hfr
  refine zz_back (st := st) hC hZ hkk hL hS (va_runIN (As := As.map (zz_tr base b)) (rest := st.map (zz_tr base b)) ⟨hC.1, hC.2.1, hC.2.2.1, hC.2.2.2.1, hts⟩ hM ⟨cb, hnm, hts _ hin⟩ ⟨zz_Pc.blind, zz_Pc.at hW hX hC.2.2.2.2.2.1⟩ rfl (List.length_map _) hL.1 (by simp [List.map_reverse, zz_tr]) hst0 hd hcs) (fun v M' I' J' h => h)
theorem zz_callVN {y' : zz_Y} {a ci idx : Nat} {w : vw_C} {host : String} {As : List Value} (hd : decode y.2.1 pc = .ok (.invokevirtual idx, 3)) (hlk : zz_lk y' As.length) (hlink : Cond.methodLinkNest y.1.cls idx y'.1 host ∈ zz_nest) (hin : Cond.instanceMethod y'.1 ∈ zz_tbl) (hsel : Cond.selects y'.1.cls y'.1 y'.1 ∈ zz_tbl) (hs : zz_is M a 0 ci) (hcl : zz_cl[ci]? = some w) (hcn : w.1 = y'.1.cls) (hcat : (st.map fun v => v.category).sum ≤ 8) (hkk : k + y'.2.2.2.2 ≤ y.2.2.2.2)
    (kk : zz_D y' d (.ref a :: As) M I J (fun v M' I' J' => zz_G y (d + 1) (k + y'.2.2.2.2) (pc + 3) ls (v.toList ++ st) M' I' J' Q)) : zz_G y (d + 1) k pc ls (As.reverse ++ .ref a :: st) M I J Q := by
  intro p l e R t0 m args below meth c Z base b D cT H locs arr hh
  obtain ⟨hC, hZ, hk, hL, hW, hX, hS⟩ := hh
  obtain ⟨y1, y2, y3, y4, y5⟩ := y'
  have hrecv : ∃ cellB : Cell, H[zz_ad base b a]? = some cellB ∧ cellB.vm.isStatics = false ∧ t0.vm.findClass y1.cls = some cellB.cls := by
    have hP := zz_P1 (hW.at hs.1 hs.2.1)
    rw [zz_E0 hs.2.2.1 hs.2.2.2] at hP
    have := va_recv hC.2.2.2.2.2.1.1 hP hcl (q0 := 0) rfl
    rw [hcn] at this
    exact this
  have hts := hC.2.2.2.2.1
  have hM := kk l base b D cT
  have hst0 : 2 * (F0 m pc arr ((As.reverse ++ .ref a :: st).map (zz_tr base b))).monitorRoom + (((st.map (zz_tr base b)).map fun v => v.category).sum) ≤ 8 := lv_room (rest := (As.reverse ++ .ref a :: st).map (zz_tr base b)) (by rw [zz_catsum]; exact hcat)
  have hcs : k + y5 ≤ R.cells ∧ 1200 * k + 1200 * y5 ≤ R.slots := by
    have h1 := hC.2.2.2.2.2.2.2.2.2.1
    have h2 := hC.2.2.2.2.2.2.2.2.2.2.1
    have h3 : k + y5 ≤ y.2.2.2.2 := hkk
    exact ⟨by omega, by omega⟩
  have hfr := zz_roomOk hlk hC.2.2.2.2.2.2.2.1 hC.2.2.2.2.2.2.2.2.1
  have cb := va_cnB (R := R) (args := args) (s := t0) As.length hts (zz_goodIn hlk) rfl rfl rfl (hC.2.2.2.2.2.1.2.1 _ hlink) (hts _ hlk.2.1) hlk.2.2.1 hfr
  refine zz_back (st := st) hC hZ hkk hL hS (va_runVN (As := As.map (zz_tr base b)) (rest := st.map (zz_tr base b)) ⟨hC.1, hC.2.1, hC.2.2.1, hC.2.2.2.1, hts⟩ hM ⟨cb, hts _ hin, hts _ hsel⟩ ⟨zz_Pc.blind, hrecv, zz_Pc.at hW hX hC.2.2.2.2.2.1⟩ rfl (List.length_map _) hL.1 (by simp [List.map_reverse, zz_tr]) hst0 hd hcs) (fun v M' I' J' h => h)
theorem zz_objInit {a idx : Nat} (hd : decode y.2.1 pc = .ok (.invokespecial idx, 3)) (h1 : Cond.methodLink y.1.cls idx Lib.objectInit ∈ zz_tbl) (h2 : Cond.instanceMethod Lib.objectInit ∈ zz_tbl) (h3 : Cond.code Lib.objectInit ⟨#[0xb1]⟩ 1 none ∈ zz_tbl) (hcat : (st.map fun v => v.category).sum ≤ 8) (kk : zz_G y (d + 1) k (pc + 3) ls st M I J Q) : zz_G y (d + 1) k pc ls (.ref a :: st) M I J Q := by
  intro p l e R t0 m args below meth c Z base b D cT H locs arr hh
  obtain ⟨hC, hZ, hk, hL, hW, hX, hS⟩ := hh
  have hts := hC.2.2.2.2.1
  have hst0 : 2 * (F0 m pc arr ((Value.ref a :: st).map (zz_tr base b))).monitorRoom + (((st.map (zz_tr base b)).map fun v => v.category).sum) ≤ 8 := lv_room (rest := (Value.ref a :: st).map (zz_tr base b)) (by rw [zz_catsum]; exact hcat)
  exact W.objInit hC.1 hC.2.1 hC.2.2.2.1 (hts _ h1) (hts _ h2) (hts _ h3) rfl (hL.1.trans hC.2.2.1.symm) rfl hd (by have := hC.2.2.2.2.2.2.2.1; omega) (by have := hC.2.2.2.2.2.2.2.2.1; omega) (kk p l e R t0 m args below meth c Z base b D cT H locs arr ⟨hC, hZ, hk, hL, hW, hX, hS⟩)
end ZN
end
section
/-! ===== rows: making ===== -/
theorem zz_ty_kinds (ci j : Nat) : zz_ty ci j = .int ∨ zz_ty ci j = .long ∨ (∃ n, zz_ty ci j = .object n) ∨ ∃ t, zz_ty ci j = .array t := by
  unfold zz_ty
  split
  · unfold tyX0; split <;> simp
  · unfold tyX1; split <;> simp
  · unfold tyX2; split <;> simp
  · unfold tyX3; split <;> simp
  · unfold tyX4; split <;> simp
  · unfold tyX5; split <;> simp
  · unfold tyX6; split <;> simp
  · unfold tyX7; split <;> simp
  · unfold tyX8; split <;> simp
  · unfold tyX9; split <;> simp
  · unfold tyX10; split <;> simp
theorem zz_dflt (ad : Nat → Nat) (ci j : Nat) : defaultValue (zz_ty ci j) = zz_fv ad (zz_ty ci j) 0 0 none := by
  rcases zz_ty_kinds ci j with h | h | ⟨n, h⟩ | ⟨t, h⟩ <;> rw [h] <;> rfl
/-- a cell more -/
def zz_pu (M : zz_M) (x : zz_S) : zz_M := (M.1 + 1, fun c => if c = M.1 + 1 then x else M.2 c)
theorem zz_pu0 (M : zz_M) (x : zz_S) : (zz_pu M x).2 0 = M.2 0 := by
  show (if 0 = M.1 + 1 then x else M.2 0) = M.2 0
  rw [if_neg (by omega)]
theorem zz_W.push {base b : Nat} {D : va_G} {cT : Nat → ClassId} {M : zz_M} {I : zz_I} {J : zz_J} {H H' : Heap} {x : zz_S} (h : zz_W base b D cT M I J H) (hz : H'.size = H.size + 1) (ho : ∀ q, q < H.size → H'[q]? = H[q]?) (hat : va_at D zz_cl (H.size, zz_E (zz_ad base b) cT x (I (M.1 + 1)) (J (M.1 + 1))) H') : zz_W base b D cT (zz_pu M x) I J H' := by
  refine ⟨by rw [hz, h.1]; rfl, fun k hk => ?_⟩
  by_cases e : k = M.1
  · subst e
    show va_at D zz_cl (base + M.1, zz_E (zz_ad base b) cT (if M.1 + 1 = M.1 + 1 then x else M.2 (M.1 + 1)) _ _) H'
    rw [if_pos rfl, ← h.1]
    exact hat
  · have hk' : k < M.1 := by have : k < M.1 + 1 := hk; omega
    show va_at D zz_cl (base + k, zz_E (zz_ad base b) cT (if k + 1 = M.1 + 1 then x else M.2 (k + 1)) _ _) H'
    rw [if_neg (by omega)]
    exact (h.2 k hk').kept (ho _ (by rw [h.1]; omega))
theorem zz_S_push {A : Nat → Prop} {H0 H H' : Heap} {locs : List Loc} {n : Nat} (hS : va_S A H0 H locs) (hz : H'.size = H.size + n) (ho : ∀ q, q < H.size → H'[q]? = H[q]?) : va_S A H0 H' locs :=
  ⟨by rw [hz]; exact Nat.le_trans hS.1 (Nat.le_add_right _ _), fun q h1 h2 => (ho q (Nat.lt_of_lt_of_le h1 hS.1)).trans (hS.2.1 q h1 h2), hS.2.2⟩
theorem zz_ad_new {base b : Nat} {D : va_G} {cT : Nat → ClassId} {M : zz_M} {I : zz_I} {J : zz_J} {H : Heap} (h : zz_W base b D cT M I J H) : H.size = zz_ad base b (M.1 + 1) := h.1
section ZK
variable {y : zz_Y} {d k pc : Nat} {ls : List (Option Value)} {st : List Value} {M : zz_M} {I : zz_I} {J : zz_J} {Q : zz_Q}
theorem zz_new {ci idx : Nat} {q : vw_C} (hd : decode y.2.1 pc = .ok (.new idx, 3)) (hq : zz_cl[ci]? = some q) (h1 : Cond.classLink y.1.cls idx q.1 ∈ zz_tbl) (h2 : Cond.instantiable q.1 q.2.2 ∈ zz_tbl) (h3 : Cond.initialized q.1 ∈ zz_tbl) (hkk : k + 1 ≤ y.2.2.2.2) (hn : q.2.2 ≤ 1200) (hI : ∀ j, I (M.1 + 1) j = 0) (hJ : ∀ j, J (M.1 + 1) j = 0)
    (kk : zz_G y d (k + 1) (pc + 3) ls (.ref (M.1 + 1) :: st) (zz_pu M (0, ci, fun _ => none)) I J Q) : zz_G y d k pc ls st M I J Q := by
  intro p l e R t0 m args below meth c Z base b D cT H locs arr hh
  obtain ⟨hC, hZ, hk, hL, hW, hX, hS⟩ := hh
  obtain ⟨C, T, N⟩ := q
  obtain ⟨ok1, ok2, ok3, ok4, ok5⟩ := zz_oks ci _ hq
  have hts := hC.2.2.2.2.1
  have hKn := hC.2.2.2.2.2.1.1.1 ci _ hq
  have b1 := hC.2.2.2.2.2.2.2.2.2.1
  have b2 := hC.2.2.2.2.2.2.2.2.2.2.1
  have hn : N ≤ 1200 := hn
  refine W.newcK hC.1 hC.2.1 hC.2.2.2.1 (hts _ h1) (hts _ h2) (hts _ h3) rfl hd (by omega) (by show 1200 * k + N ≤ R.slots; omega) hKn.2.1 rfl fun H1 kC hkC e1 z1 o1 => ?_
  refine W.widen (k := k + 1) (n := 1200 * (k + 1)) (Nat.le_refl _) (by show 1200 * k + N ≤ _; omega) ?_
  have hb := (u_born (zz_ty ci) hts ok2 hKn hkC e1 ok3)
  have hWn : zz_W base b D cT (zz_pu M (0, ci, fun _ => none)) I J H1 := by
    refine hW.push z1 o1 ?_
    rw [zz_E0 (ci := ci) rfl rfl]
    refine ⟨_, hq, hb.to (fun j hj => ?_)⟩
    have hj' : j < zz_nf ci := by rw [← ok1]; exact hj
    rw [zz_V _ hj', hI, hJ]
    exact zz_dflt _ ci j
  have hg := kk p l e R t0 m args below meth c Z base b D cT H1 locs arr ⟨hC, hZ, hkk, hL, hWn, hX.kept (zz_pu0 M _) rfl (fun q hq => o1 q (by rw [hW.1]; omega)), zz_S_push hS z1 o1⟩
  rw [zz_ad_new hW]
  exact hg
theorem zz_newarr {t : Nat} {at0 : ArrayType} {ty : FieldType} {n : Int32} {N : Nat} (hd : decode y.2.1 pc = .ok (.newarray at0, 2)) (ht : newarray.typeOf at0 = ty) (h1 : Cond.arrayClass ty ∈ zz_tbl) (hkk : k + 1 ≤ y.2.2.2.2) (hn : ¬ n < 0) (hN : n.toNatClampNeg = N) (hN2 : N ≤ 1200) (hI : ∀ j, I (M.1 + 1) j = 0) (hJ : ∀ j, J (M.1 + 1) j = 0) (hc : (ty = .int ∧ t = 1) ∨ (ty = .long ∧ t = 2) ∨ (ty = .byte ∧ t = 3))
    (kk : zz_G y d (k + 1) (pc + 2) ls (.ref (M.1 + 1) :: st) (zz_pu M (t, N, fun _ => none)) I J Q) : zz_G y d k pc ls (.int n :: st) M I J Q := by
  intro p l e R t0 m args below meth c Z base b D cT H locs arr hh
  obtain ⟨hC, hZ, hk, hL, hW, hX, hS⟩ := hh
  subst ht
  have hts := hC.2.2.2.2.1
  have hK := hC.2.2.2.2.2.1.1
  have b1 := hC.2.2.2.2.2.2.2.2.2.1
  have b2 := hC.2.2.2.2.2.2.2.2.2.2.1
  have hI0 : I (M.1 + 1) = fun _ => 0 := funext hI
  have hJ0 : J (M.1 + 1) = fun _ => 0 := funext hJ
  have hby : N * componentBytes (newarray.typeOf at0) ≤ 536870912 := by
    rcases hc with ⟨h, -⟩ | ⟨h, -⟩ | ⟨h, -⟩ <;> rw [h] <;> simp [componentBytes] <;> omega
  refine va_newaK hC.1 hC.2.1 (hts _ h1) rfl hd rfl hn hN hby (by omega) (by omega) rfl fun H1 cA e1 z1 o1 hAr hNm => ?_
  refine W.widen (k := k + 1) (n := 1200 * (k + 1)) (Nat.le_refl _) (by omega) ?_
  have hWn : zz_W base b D cT (zz_pu M (t, N, fun _ => none)) I J H1 := by
    refine hW.push z1 o1 ?_
    rcases hc with ⟨h, rfl⟩ | ⟨h, rfl⟩ | ⟨h, rfl⟩
    · rw [zz_E1 rfl, hI0]
      have hr : t0.vm.findClass ("[" ++ FieldType.int.toString) = some (cT 1) := (hK.2 0 _ rfl).2
      rw [h] at hNm e1
      cases hr.symm.trans hNm
      exact e1
    · rw [zz_E2 rfl, hJ0]
      have hr : t0.vm.findClass ("[" ++ FieldType.long.toString) = some (cT 2) := (hK.2 1 _ rfl).2
      rw [h] at hNm e1
      cases hr.symm.trans hNm
      exact e1
    · rw [zz_E3 rfl, hI0]
      have hr : t0.vm.findClass ("[" ++ FieldType.byte.toString) = some (cT 3) := (hK.2 2 _ rfl).2
      rw [h] at hNm e1
      cases hr.symm.trans hNm
      exact e1
  have hg := kk p l e R t0 m args below meth c Z base b D cT H1 locs arr ⟨hC, hZ, hkk, hL, hWn, hX.kept (zz_pu0 M _) rfl (fun q hq => o1 q (by rw [hW.1]; omega)), zz_S_push hS z1 o1⟩
  rw [zz_ad_new hW]
  exact hg
theorem zz_anew {idx : Nat} {n : Int32} {N : Nat} (hd : decode y.2.1 pc = .ok (.anewarray idx, 3)) (h1 : Cond.classLink y.1.cls idx "NeverMistaken$Line" ∈ zz_tbl) (hkk : k + 1 ≤ y.2.2.2.2) (hn : ¬ n < 0) (hN : n.toNatClampNeg = N) (hN2 : N ≤ 1200)
    (kk : zz_G y d (k + 1) (pc + 3) ls (.ref (M.1 + 1) :: st) (zz_pu M (4, N, fun _ => none)) I J Q) : zz_G y d k pc ls (.int n :: st) M I J Q := by
  intro p l e R t0 m args below meth c Z base b D cT H locs arr hh
  obtain ⟨hC, hZ, hk, hL, hW, hX, hS⟩ := hh
  subst hN
  have hts := hC.2.2.2.2.1
  have hK := hC.2.2.2.2.2.1.1
  have b1 := hC.2.2.2.2.2.2.2.2.2.1
  have b2 := hC.2.2.2.2.2.2.2.2.2.2.1
  refine W.anew hC.1 hC.2.1 hC.2.2.2.1 (hts _ h1) (va_AO.use hC.2.2.2.2.2.1.2.2.1) rfl hd rfl hn (by omega) (by omega) (by omega) fun cA kA comp f1 f2 f3 f4 => ?_
  generalize hH1 : H.push ({ cls := cA, slots := Array.replicate n.toNatClampNeg .null, vm := .none } : Cell) = H1
  have z1 : H1.size = H.size + 1 := by rw [← hH1, Array.size_push]
  have e1 : H1[H.size]? = some (arrV cA n.toNatClampNeg (fun _ => .null)) := by rw [← hH1, Array.getElem?_push_size, ← arrV_new]
  have o1 : ∀ q : Nat, q < H.size → H1[q]? = H[q]? := fun q hq => by rw [← hH1, Array.getElem?_push, if_neg (Nat.ne_of_lt hq)]
  refine W.widen (k := k + 1) (n := 1200 * (k + 1)) (Nat.le_refl _) (by omega) ?_
  have hWn : zz_W base b D cT (zz_pu M (4, n.toNatClampNeg, fun _ => none)) I J H1 := by
    refine hW.push z1 o1 ?_
    rw [zz_E4 rfl]
    have hr : t0.vm.findClass ("[" ++ (FieldType.object "NeverMistaken$Line").toString) = some (cT 4) := by
      obtain ⟨kA', comp', -, -, -, h4⟩ := (hK.2 3 _ rfl).2
      exact h4
    cases hr.symm.trans f1
    exact e1
  have hg := kk p l e R t0 m args below meth c Z base b D cT H1 locs arr ⟨hC, hZ, hkk, hL, hWn, hX.kept (zz_pu0 M _) rfl (fun q hq => o1 q (by rw [hW.1]; omega)), zz_S_push hS z1 o1⟩
  show W p l e R t0 m args below meth c H1 locs (k + 1) (1200 * (k + 1)) Z (F0 m (pc + 3) arr (.ref H.size :: List.map (zz_tr base b) st))
  rw [zz_ad_new hW]
  exact hg
/-- a row of references set: lines[l] = new Line() -/
theorem zz_aast {a n ci : Nat} {v : Nat} {i : Int32} (hd : decode y.2.1 pc = .ok (.aastore, 1)) (hs : zz_is M a 4 n) (hi : vp_in i n) (hv : zz_is M v 0 3)
    (kk : zz_G y d k (pc + 1) ls st (M.1, zz_us M.2 a i.toNatClampNeg (some v)) I J Q) : zz_G y d k pc ls (.ref v :: .int i :: .ref a :: st) M I J Q := by
  intro p l e R t0 m args below meth c Z base b D cT H locs arr hh
  obtain ⟨hC, hZ, hk, hL, hW, hX, hS⟩ := hh
  have hK := hC.2.2.2.2.2.1.1
  have hat := hW.at hs.1 hs.2.1
  rw [zz_E4 hs.2.2.1, hs.2.2.2] at hat
  have hatv := hW.at hv.1 hv.2.1
  rw [zz_E0 hv.2.2.1 hv.2.2.2] at hatv
  obtain ⟨r, h1, cv, q1, q2, q3, q4⟩ := hatv
  have hlt : i.toNatClampNeg < n := Nat.not_le.mp fun q => hi (Or.inr q)
  have h0 : ¬ i < 0 := fun q => hi (Or.inl q)
  obtain ⟨-, hcl⟩ := hK.1 3 (RX3, TX3, 6) rfl
  obtain ⟨kA, comp, g1, g2, g3, g4⟩ := (hK.2 3 _ rfl).2
  have hcl' := hcl
  obtain ⟨hfc, kC, hkC, hkind⟩ := hcl
  have hcomp : D.1 3 = comp := Option.some.inj (hfc.symm.trans g3)
  have hasg := va_assign hcl'
  rw [hcomp] at hasg hkC
  rw [hcomp] at q2
  refine W.aast hC.1 hC.2.1 (comp := comp) (k := kA) (kv := kC) (kcomp := kC) (t := .object "NeverMistaken$Line") hat (fun q h => by cases h) (fun h => by cases h) g1 g2 rfl hkC ⟨h0, by show _ < (arrV _ _ _).slots.size; rw [arrV_size]; exact hlt⟩ q1 (fun q h => by rw [q3] at h; cases h) (by rw [q2]; exact hkC) (by rw [q2]; exact hasg) rfl rfl hd fun H1 e9 z oq => ?_
  have hus : zz_us M.2 a i.toNatClampNeg (some v) a = ((M.2 a).1, (M.2 a).2.1, fun j => if j = i.toNatClampNeg then some v else (M.2 a).2.2 j) := if_pos rfl
  refine kk p l e R t0 m args below meth c Z base b D cT H1 _ arr ⟨hC, hZ, hk, hL, hW.set (M' := (M.1, zz_us M.2 a i.toNatClampNeg (some v))) hs.1 z oq rfl (fun c hc => ⟨if_neg hc, rfl, rfl⟩) ?_, hX.kept (if_neg (Nat.ne_of_lt hs.1)) rfl (fun q hq => oq q (Nat.ne_of_lt (Nat.lt_of_lt_of_le hq (zz_ad_ge hs.1)))), hS.put z oq (zz_ad_ge hs.1)⟩
  show va_at D zz_cl (_, zz_E _ _ (zz_us M.2 a i.toNatClampNeg (some v) a) _ _) H1
  rw [hus, zz_E4 (by exact hs.2.2.1)]
  show H1[_]? = some (vp_cell _ _)
  rw [e9, vp_cell_q, vp_cell_q, arrV_store, hs.2.2.2]
  congr 2
  funext q
  by_cases hq : q = i.toNatClampNeg
  · subst hq
    simp [updV, va_rf]
  · simp [updV, hq]
/-- new int[n][j] -/
def zz_pm (M : zz_M) (n j : Nat) : zz_M := (M.1 + 1 + n, fun c => if c = M.1 + 1 then (5, n, fun i => if i < n then some (M.1 + 2 + i) else none) else if M.1 + 2 ≤ c ∧ c < M.1 + 2 + n then (1, j, fun _ => none) else M.2 c)
theorem zz_outer (c : ClassId) (N h0 : Nat) : ∀ i : Nat, Jvm.Free.Multi.outerC c N h0 i = arrV c N (fun j => va_rf (if j < i then some (h0 + 1 + j) else none))
  | 0 => by
    show ({ cls := c, slots := Array.replicate N .null, vm := .none } : Cell) = _
    rw [arrV_new]
    refine congrArg (arrV c N) (funext fun j => ?_)
    simp [va_rf]
  | i + 1 => by
    show (Jvm.Free.Multi.outerC c N h0 i).setSlot i (.ref (h0 + 1 + i)) = _
    rw [zz_outer c N h0 i, arrV_store]
    refine congrArg (arrV c N) (funext fun j => ?_)
    by_cases e : j = i
    · subst e
      simp [updV, va_rf]
    · by_cases h : j < i
      · simp [updV, e, h, Nat.lt_succ_of_lt h]
      · simp [updV, e, h, show ¬ j < i + 1 by omega]
theorem zz_mna {idx : Nat} {n j : Int32} {N' K' : Nat} (hd : decode y.2.1 pc = .ok (.multianewarray idx 2, 4)) (h1 : Cond.classLink y.1.cls idx "[[I" ∈ zz_tbl) (h2 : Cond.arrayClass .int ∈ zz_tbl) (hkk : k + (1 + N') ≤ y.2.2.2.2) (hn : ¬ n < 0) (hj : ¬ j < 0) (hN : n.toNatClampNeg = N') (hK' : j.toNatClampNeg = K') (hN2 : N' ≤ 1000) (hK2 : K' ≤ 1000) (hI : ∀ c, M.1 < c → I c = fun _ => 0)
    (kk : zz_G y d (k + (1 + N')) (pc + 4) ls (.ref (M.1 + 1) :: st) (zz_pm M N' K') I J Q) : zz_G y d k pc ls (.int j :: .int n :: st) M I J Q := by
  intro p l e R t0 m args below meth c Z base b D cT H locs arr hh
  obtain ⟨hC, hZ, hk, hL, hW, hX, hS⟩ := hh
  subst hN
  subst hK'
  have hts := hC.2.2.2.2.1
  have hK := hC.2.2.2.2.2.1.1
  have b1 := hC.2.2.2.2.2.2.2.2.2.1
  have b2 := hC.2.2.2.2.2.2.2.2.2.2.1
  have hsl : n.toNatClampNeg + n.toNatClampNeg * j.toNatClampNeg ≤ 1200 * (1 + n.toNatClampNeg) := by
    have : n.toNatClampNeg * j.toNatClampNeg ≤ n.toNatClampNeg * 1000 := Nat.mul_le_mul_left _ hK2
    omega
  intro T hT Xs
  obtain ⟨vm₁, cA, comp, -, fA, fC, hO, -, X', step⟩ := Xs.multianewarray2F (ty := .int) hC.1 hC.2.2.2.1 (hts _ h1) hC.2.2.2.2.2.1.2.2.2 (hts _ h2) (g := F0 m pc arr (.int j :: .int n :: List.map (zz_tr base b) st)) rfl (by rw [hC.2.1]; exact hd) rfl hn hj (by omega) (by simp [componentBytes]; omega) (by omega) rfl rfl (by omega) (by omega)
  have ec : t0.vm.findClass (FieldType.array .int).toString = some (cT 1) := (hK.2 0 _ rfl).2
  cases ec.symm.trans fC
  have eA : t0.vm.findClass ("[" ++ (FieldType.array .int).toString) = some (cT 5) := (hK.2 4 _ rfl).2
  cases eA.symm.trans fA
  generalize hF : Jvm.Free.Multi.fill (T.setVm vm₁) (cT 5) (cT 1) n.toNatClampNeg j.toNatClampNeg (defaultValue .int) n.toNatClampNeg = F at X' step
  have hTh : (T.setVm vm₁).heap = H := hT
  obtain ⟨f1, f2, -, -⟩ := Jvm.Free.Multi.fill_facts (T.setVm vm₁) (cT 5) (cT 1) n.toNatClampNeg j.toNatClampNeg (defaultValue .int) n.toNatClampNeg
  rw [hF, hTh] at f1 f2
  have hold : ∀ x : Nat, x < H.size → F.heap[x]? = H[x]? := fun x hx => by
    have := Jvm.Free.Multi.fill_old (T.setVm vm₁) (cT 5) (cT 1) n.toNatClampNeg j.toNatClampNeg (defaultValue .int) (a := x) (by rw [hTh]; exact hx) n.toNatClampNeg
    rw [hF, hTh] at this
    exact this
  have hrow : ∀ i : Nat, i < n.toNatClampNeg → F.heap[H.size + 1 + i]? = some (arrV (cT 1) j.toNatClampNeg (fun _ => .int 0)) := fun i hi => by
    have := Jvm.Free.Multi.fill_inner (T.setVm vm₁) (cT 5) (cT 1) n.toNatClampNeg j.toNatClampNeg (defaultValue .int) n.toNatClampNeg i hi
    rw [hF, hTh] at this
    rw [this, ← arrV_new]
    rfl
  rw [zz_outer] at f2
  have z1 : F.heap.size = H.size + (1 + n.toNatClampNeg) := by rw [f1]; omega
  have hWn : zz_W base b D cT (zz_pm M n.toNatClampNeg j.toNatClampNeg) I J F.heap := by
    refine ⟨by rw [z1, hW.1]; show _ = base + (M.1 + 1 + n.toNatClampNeg); omega, fun q hq => ?_⟩
    have hq : q < M.1 + 1 + n.toNatClampNeg := hq
    by_cases c1 : q < M.1
    · show va_at D zz_cl (base + q, zz_E _ _ (if q + 1 = M.1 + 1 then _ else if M.1 + 2 ≤ q + 1 ∧ q + 1 < M.1 + 2 + n.toNatClampNeg then _ else M.2 (q + 1)) _ _) F.heap
      rw [if_neg (by omega), if_neg (by omega)]
      exact (hW.2 q c1).kept (hold _ (by rw [hW.1]; omega))
    · by_cases c2 : q = M.1
      · subst c2
        show va_at D zz_cl (base + M.1, zz_E _ _ (if M.1 + 1 = M.1 + 1 then _ else _) _ _) F.heap
        rw [if_pos rfl, zz_E5 rfl]
        show F.heap[base + M.1]? = some (vp_cell _ _)
        rw [← hW.1, f2, vp_cell_q]
        congr 2
        funext i
        by_cases hi : i < n.toNatClampNeg
        · simp only [hi, if_true, Option.map_some]
          congr 2
          rw [show M.1 + 2 + i = (M.1 + 1 + i) + 1 by omega]
          show H.size + 1 + i = base + (M.1 + 1 + i)
          rw [hW.1]
          omega
        · simp only [hi, if_false, Option.map_none]
      · show va_at D zz_cl (base + q, zz_E _ _ (if q + 1 = M.1 + 1 then _ else if M.1 + 2 ≤ q + 1 ∧ q + 1 < M.1 + 2 + n.toNatClampNeg then _ else M.2 (q + 1)) _ _) F.heap
        rw [if_neg (by omega), if_pos (by omega), zz_E1 rfl, hI (q + 1) (by omega)]
        show F.heap[base + q]? = some (vp_cell _ _)
        rw [show base + q = H.size + 1 + (q - M.1 - 1) by rw [hW.1]; omega, hrow _ (by omega)]
        rfl
  have hX' : zz_X base b (zz_pm M n.toNatClampNeg j.toNatClampNeg) I t0 F.heap := by
    refine hX.kept ?_ rfl (fun q hq => hold q (by rw [hW.1]; omega))
    unfold zz_pm
    dsimp only
    rw [if_neg (by omega), if_neg (by omega)]
  have hg := kk p l e R t0 m args below meth c Z base b D cT F.heap locs arr ⟨hC, hZ, hkk, hL, hWn, hX', zz_S_push hS z1 hold⟩
  obtain ⟨t, a1, bb1⟩ := hg F rfl (stand_widen X' (by omega) (by omega))
  refine ⟨t, step t ?_, bb1⟩
  have e9 : T.heap.size = zz_ad base b (M.1 + 1) := by rw [hT]; exact hW.1
  rw [e9]
  exact a1
end ZK
end
section
/-! ===== from the law's entry on ===== -/
def zz_yL : zz_Y := (x, code, 4, ret, 600)
def zz_M0 (L : Nat) : zz_M := (0, fun c => if c = 0 then (1, L, fun _ => none) else (9, 0, fun _ => none))
def zz_I0 (xs : Nat → Int32) : zz_I := fun c => if c = 0 then xs else fun _ => 0
def zz_J0 : zz_J := fun _ _ => 0
def zz_QL : zz_Q := fun v _ _ _ => v = some (.int 1)
/-! THE CLAIM OUT OF ONE WALK OF THE LAW'S BODY. Your part is whole_start (and what it stands on); all else here is the same for every law, but numbers. -/
def R_law : String := "NeverMistakenLaw"
def lw_P (b : Addr) (xs : List Int32) (args : Array Value) (s : State) : Prop := args = #[.ref b] ∧ s.IntsAt b xs ∧ xs.length ≤ 3072 ∧ (Jvm.Cond.and given_1 narrow_1).before args s = true
def lw_Q (_ : Array Value) (s : State) (o : Outcome) (t : State) : Prop := o = .returned (some (.int 1)) ∧ Framed s o t [] 600000 7302250
def lw_Z (below : List Frame) (a : Array Value) (s : State) : State → Prop := fun t => ∃ o, t.status = .running ∧ Ended t below o ∧ lw_Q a s o t
/-- the law's own end, with 1 on the stack, nothing written that was there before, its room as the claim has it -/
theorem lw_ret {p : Program} {l : Launch} {e : Env} {s : State} {m : MethodId} {below : List Frame} {meth : Method} {c : Code} {b : Nat} (hx : p.tables.exec = Jvm.exec) (hb : c.code = code) (hr : meth.sig.returnType = ret) (hlocks : meth.locks = false) {pc : Nat} {H : Heap} {ls : Array Slot} (hdg : decode code pc = .ok (.ireturn, 1)) : W p l e room_1 s m #[Value.ref b] below meth c H [] 600000 7302250 (lw_Z below #[Value.ref b] s) (F0 m pc ls [.int 1]) := by
  intro T hT X
  obtain ⟨fs, hret, hrun, hended, hW, hframe⟩ := X.leave (v := some (.int 1)) (hlocks := hlocks) (fun h => by rw [hr] at h; cases h)
  have hmeth' : T.vm.method? m = some meth := X.method'
  refine ⟨T.setFrames fs, ?_, .returned (some (.int 1)), hrun, hended, rfl, ⟨_, rfl⟩, hW, hframe⟩
  jvm_step X.here [X.here.top, hx, hb, hdg, hmeth', hr, ret, narrow_b1]
  (try refine ⟨rfl, ?_⟩); (try refine ⟨rfl, ?_⟩)
  first | (intro acts; rw [hret _ acts rfl rfl rfl]) | rw [hret _ _ rfl rfl rfl]
  exact Steps.refl _
/-- what holds at the law's entry: the machine, the code, the tables' words (any of lw_tbl by 'hts w (by decide +kernel)'), the script of L ints xs at the cell b, what the Statement gives of the start (any of its parts by flat_of_before) -/
def lw_At (p : Program) (s : State) (m : MethodId) (meth : Method) (c : Code) (b L : Nat) (xs : Nat → Int32) : Prop :=
  p.tables.exec = Jvm.exec ∧ c.code = code ∧ meth.sig.returnType = ret ∧ c.maxLocals = 4 ∧ s.vm.findClass R_law = some m.cls ∧ (∀ w ∈ lw_tbl, w.before #[Value.ref b] s = true) ∧ va_X b L xs s s.heap ∧ b < s.heap.size ∧ meth.locks = false ∧ (Jvm.Cond.and given_1 narrow_1).before #[Value.ref b] s = true
theorem zz_known {s : State} {args : Array Value} (hts : ∀ w ∈ lw_tbl, w.before args s = true) : ∃ (D : va_G) (cT : Nat → ClassId), zz_K D cT s := by
  have htz : ∀ w ∈ zz_tbl, w.before args s = true := fun w h => hts w (zz_tbl_in w h)
  have hk : ∀ (ci : Nat), ∃ (cC : ClassId) (iS : Nat → Nat), ∀ q : vw_C, zz_cl[ci]? = some q → u_Kn s q.1 q.2.1 q.2.2 cC iS := by
    intro ci
    cases hq : zz_cl[ci]? with
    | none => exact ⟨0, fun _ => 0, fun q h => by cases h⟩
    | some q =>
      have hin : Cond.instantiable q.1 q.2.2 ∈ lw_tbl := by
        have : q ∈ zz_cl := List.mem_of_getElem? hq
        have hall : ∀ q ∈ zz_cl, Cond.instantiable q.1 q.2.2 ∈ lw_tbl := by decide +kernel
        exact hall q this
      obtain ⟨cC, iS, h⟩ := u_known (C := q.1) (T := q.2.1) (N := q.2.2) (n := q.2.2) htz (zz_oks ci q hq).2.1 (hts _ hin)
      exact ⟨cC, iS, fun q' h' => by cases h'; exact h⟩
  obtain ⟨c1, k1, m1, f1, g1, d1⟩ := Cond.arrayClass_spec (hts (.arrayClass .int) (by decide +kernel))
  obtain ⟨c2, k2, m2, f2, g2, d2⟩ := Cond.arrayClass_spec (hts (.arrayClass .long) (by decide +kernel))
  obtain ⟨c3, k3, m3, f3, g3, d3⟩ := Cond.arrayClass_spec (hts (.arrayClass .byte) (by decide +kernel))
  have hAO : va_AO "NeverMistaken$Line" s := va_AO.of (hts (.arrayOver (.object "NeverMistaken$Line")) (by decide +kernel))
  have hAOA : zz_AOA s := hts (.arrayOver (.array .int)) (by decide +kernel)
  obtain ⟨m4, c4, k4, o4, -, g4, d4, f4⟩ := Cond.arrayOver_spec hAO
  obtain ⟨m5, c5, k5, -, -, g5, d5, f5⟩ := arrayOverA_spec hAOA
  refine ⟨(fun ci => (hk ci).choose, fun ci => (hk ci).choose_spec.choose), fun t => match t with | 1 => c1 | 2 => c2 | 3 => c3 | 4 => c4 | _ => c5, ⟨fun ci q h => (hk ci).choose_spec.choose_spec q h, ?_⟩, ?_, hAO, hAOA⟩
  · intro j q h
    have arr : ∀ {c : ClassId} {kA : Class} {comp : ClassId} {ty : FieldType}, s.vm.classes[c]? = some kA → kA.kind = .array comp ty → ArrOfT s c ty := fun h1 h2 N z => ⟨(fun k h => by cases h), _, h1, _, h2⟩
    match j, h with
    | 0, h => cases h; exact ⟨arr g1 d1, f1⟩
    | 1, h => cases h; exact ⟨arr g2 d2, f2⟩
    | 2, h => cases h; exact ⟨arr g3 d3, f3⟩
    | 3, h => cases h; exact ⟨arr g4 d4, _, _, g4, d4, o4, f4⟩
    | 4, h => cases h; exact ⟨arr g5 d5, f5⟩
    | n + 5, h => simp [zz_tys] at h
  · intro w hw
    obtain ⟨h1, h2⟩ := List.mem_filter.mp hw
    have := hts w h1
    cases w <;> simp at h2
    exact va_Nw.of rfl this
theorem zz_start {p : Program} {e : Env} {s : State} {m : MethodId} {below : List Frame} {meth : Method} {c : Code} (l : Launch) {b L : Nat} {xs : Nat → Int32} (hG : zz_G zz_yL 800 0 0 (zz_ent 4 [.ref 0]) [] (zz_M0 L) (zz_I0 xs) zz_J0 zz_QL) (C0 : lw_At p s m meth c b L xs) : W p l e room_1 s m #[Value.ref b] below meth c s.heap [] 0 0 (lw_Z below #[Value.ref b] s) (entryFrame m ([Value.ref b] : List Value).toArray 4) := by
  obtain ⟨hx, hb, hr, hml, hown, hts, hX, hbl, hlocks, hgv⟩ := id C0
  obtain ⟨D, cT, hK⟩ := zz_known hts
  rw [lg_entry_eq]
  refine hG p l e room_1 s m _ below meth c _ s.heap.size b D cT s.heap [] _ ⟨⟨hx, hb, hml, hown, fun w hw => hts w (zz_tbl_in w hw), hK, Nat.le_refl _, by decide, by decide, by decide, by decide, fun h => absurd h (by decide)⟩, ?_, Nat.zero_le _, zz_L.entry (base := s.heap.size) (b := b) (vs := [.ref 0]) (by decide), ⟨rfl, fun k hk => absurd hk (Nat.not_lt_zero k)⟩, ⟨hbl, rfl, hX⟩, va_S.rf⟩
  intro k pc H locs arr ins v M I J hd hR hk hW hX' hS hQ
  have hv : v = some (.int 1) := hQ
  subst hv
  refine va_forget (fun q hq => hS.2.2 q hq) ?_
  refine W.widen (k := 600000) (n := 7302250) (by have : k ≤ 600 := hk; omega) (by have : k ≤ 600 := hk; omega) ?_
  rcases hR with ⟨rfl, -⟩ | ⟨-, y, h, -⟩ | ⟨-, n, -, h⟩ | ⟨-, h, -⟩
  · exact lw_ret hx hb hr hlocks hd
  · cases h
  · rcases h with h | ⟨a, h⟩ <;> cases h
  · cases h
end
section
/-! ===== the law ===== -/
theorem zz_law {L : Nat} {xs : Nat → Int32} (hL : L ≤ 3072) : zz_G zz_yL 800 0 0 (zz_ent 4 [.ref 0]) [] (zz_M0 L) (zz_I0 xs) zz_J0 zz_QL := sorry
end
section
theorem whole_start {p : Program} {e : Env} {s : State} {m : MethodId} {below : List Frame} {meth : Method} {c : Code} (l : Launch) {b L : Nat} {xs : Nat → Int32} (hL : L ≤ 3072) (C0 : lw_At p s m meth c b L xs) : W p l e room_1 s m #[Value.ref b] below meth c s.heap [] 0 0 (lw_Z below #[Value.ref b] s) (entryFrame m ([Value.ref b] : List Value).toArray 4) :=
  zz_start l (zz_law hL) C0
-- ===== YOUR PART ENDS =====
set_option maxHeartbeats 4000000 in
theorem lw_walk (l : Launch) (b : Addr) (xs : List Int32) : MetFree l x (headSpec (Jvm.Cond.code x code maxLocals ret :: tables_1) room_1) (lw_P b xs) (fun _ _ _ _ _ => True) lw_Q := by
  refine MetFree.of_bodyS (code := code) (maxLocals := maxLocals) (ret := ret) (by decide) ?_ ?_
  · intro args s m h hn
    obtain ⟨meth, c, h1, h2, h3, h4, h5, h6, -, -⟩ := Cond.code_spec hn (atoms_spec (ws := Jvm.Cond.code x code maxLocals ret :: tables_1) h _ List.mem_cons_self)
    exact ⟨meth, c, h1, h2, h3, h4, h5, h6⟩
  · intro p e s m args below meth c s₁ B hml0 hP _
    obtain ⟨rfl, hx, hbd, hgv⟩ := hP
    obtain ⟨scr, harrAt, hlist, hof, hsmall⟩ := hx
    obtain ⟨hcb, hkn, -, -⟩ := State.arrayAt?_spec harrAt
    have hown : s.vm.findClass R_law = some m.cls := findClass_of_methodNamed B.named
    have hts0 : ∀ c ∈ (Jvm.Cond.code x code maxLocals ret :: tables_1), c.before #[Value.ref b] s = true := atoms_spec (ws := Jvm.Cond.code x code maxLocals ret :: tables_1) B.pre
    have hts : ∀ w ∈ lw_tbl, w.before #[Value.ref b] s = true := k2_hts_sels lw_privs (fun w hw => hts0 w (List.mem_cons_of_mem _ hw)) lw_privs_ok
    have hml : c.maxLocals = 4 := B.maxLocals_eq (hts0 _ List.mem_cons_self)
    have X₀ : Stand p l e room_1 s m #[Value.ref b] below meth c s₁ [] 0 0 := Stand.of_body B
    have hh0 : s₁.heap = s.heap := by rw [B.state]; rfl
    have hsz : scr.slots.size = xs.length := by rw [← Array.length_toList, hlist, List.length_map]
    have hval : ∀ j : Nat, j < xs.length → scr.slots[j]? = some (.int (xs.getD j 0)) := fun j hj => by
      rw [← Array.getElem?_toList, hlist]
      simp [hj]
    have hbl : b < s.heap.size := (Array.getElem?_eq_some_iff.mp hcb).1
    have hX : va_X b xs.length (fun j => xs.getD j 0) s s.heap := ⟨scr, hcb, hof, hkn, hsz, hval⟩
    have K : W p l e room_1 s m #[Value.ref b] below meth c s₁.heap [] 0 0 (lw_Z below #[Value.ref b] s) (entryFrame m ([Value.ref b] : List Value).toArray 4) := by
      rw [hh0]
      exact whole_start l hbd ⟨B.exec, B.bytes, B.returns, hml, hown, hts, hX, hbl, B.notSynchronized, hgv⟩
    obtain ⟨t, a1, o, b1, b2, b3⟩ := K s₁ rfl X₀
    exact ⟨t, o, a1, b1, b2, b3⟩
theorem lw_pre_spec {args : Array Value} {s : State} (h : (Jvm.Cond.and given_1 narrow_1).before args s = true) (hr : rest_1_c.before args s = true) : ∃ (b : Addr) (xs : List Int32), lw_P b xs args s := by
  have hs := flat_of_before _ h
  have hq := flat_of_before _ hr
  have hc : (Cond.count 1).before args s = true := hs _ (by decide +kernel)
  have harr : (Cond.arrayOf (.arg 0) .int).before args s = true := hs _ (by decide +kernel)
  have hle : (Cond.le (.length (.arg 0)) (.int 3072)).before args s = true := hs _ (by decide +kernel)
  have hlen : (Cond.isInt (.length (.arg 0))).before args s = true := hq _ (by decide +kernel)
  have hall : (Cond.all (.arg 0) (.isInt (.elem (.arg 0) (.index 0)))).before args s = true := hq _ (by decide +kernel)
  obtain ⟨b, xs, hb, hx⟩ := State.ints_of_pre rfl harr hlen hall
  have hsm : xs.length < 2 ^ 31 := hx.choose_spec.2.2.2
  have hev : (Term.length (.arg 0)).eval args s none [] s = some (.int xs.length.toInt32) := hx.length_eval hb
  have hv := Cond.le_ints hev (show (Term.int 3072).eval args s none [] s = some (.int 3072) from rfl)
  have hd : xs.length.toInt32 ≤ 3072 := by
    simpa [Cond.before, Cond.holds, hv] using hle
  have hN : xs.length ≤ 3072 := (Int32.ofNat_le_ofNat hsm (by decide)).mp (show Int32.ofNat xs.length ≤ Int32.ofNat 3072 from hd)
  exact ⟨b, xs, Cond.one_arg hc (show args[0]? = some (.ref b) from hb), hx, hN, h⟩
theorem lw_comes (l : Launch) : Comes l x (Jvm.Cond.code x code maxLocals ret :: tables_1) room_1 (fun tb e args s => Calls_1 tb e args s ∧ rest_1 tb e args s ∧ Pre_1 tb e args s)
    (fun _ _ args s o t => lw_Q args s o t) := by
  intro p e ha hc hk s m args below hf hfit hheap happ hpre
  obtain ⟨b, xs, hP⟩ := lw_pre_spec hpre.2.2 hpre.2.1
  obtain ⟨k, o, h1, h2, h3, hQ⟩ := lw_walk l b xs p e ha hc hk s m args below hf ((Spec.applies_iff_loose hf).mp happ).1 hP trivial
  exact ⟨k, o, h1, h2, h3, hQ⟩
theorem lw_frame {s t : State} {o : Outcome} {args : Array Value} (h : Framed s o t [] 600000 7302250) :
    Framed s o t (fieldLocs frame_1_writes args s ++ arrayLocs frame_1_arrays args s ++ staticLocs frame_1_statics s) 600000 7302250 := h
theorem lw_limb (L : Cond) (hL : ∀ (args : Array Value) (s t : State), L.after args s (.returned (some (.int 1))) t = true) :
    ArmFor flags0 classFile x code maxLocals ret World_1 tables_1 room_1 Calls_1 rest_1 Pre_1
      (fun tb e a s o t => postC L tb e a s o t ∧ Framed s o t (fieldLocs frame_1_writes a s ++ arrayLocs frame_1_arrays a s ++ staticLocs frame_1_statics s) 600000 7302250) := by
  intro l _ _ _ p e ha hc hk s m args below hf hfit hheap happ hpre
  obtain ⟨k, o, h1, h2, h3, rfl, hF⟩ := lw_comes l p e ha hc hk s m args below hf hfit hheap happ hpre
  exact ⟨k, _, h1, h2, h3, hL args s _, lw_frame hF⟩
theorem i_vc : Claimed_1_1 ∧ Claimed_1_2 := ⟨lw_limb limb_1_1 (fun args s t => by simp [limb_1_1, Cond.after, Cond.holds, Cond.value]), lw_limb limb_1_2 (fun args s t => Cond.after_iff.mpr (by
  first | (rw [show limb_1_2 = Cond.eq .result (.int 1) from rfl, Cond.eq_ints (x := 1) (y := 1) rfl rfl]; simp; done) | (simp [limb_1_2, Cond.value, Term.eval]; done)))⟩
end
