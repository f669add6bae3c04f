theorem dX2_leastHeap_1 : decode cX2_leastHeap 1 = .ok (.istore 4, 2) := by decide +kernel
theorem dX2_leastHeap_3 : decode cX2_leastHeap 3 = .ok (.iload 4, 2) := by decide +kernel
theorem dX2_leastHeap_5 : decode cX2_leastHeap 5 = .ok (.iload_n 3, 1) := by decide +kernel
theorem dX2_leastHeap_6 : decode cX2_leastHeap 6 = .ok (.if_icmp .ge 64, 3) := by decide +kernel
theorem dX2_leastHeap_9 : decode cX2_leastHeap 9 = .ok (.aload_n 0, 1) := by decide +kernel
theorem dX2_leastHeap_10 : decode cX2_leastHeap 10 = .ok (.getfield 21, 3) := by decide +kernel
theorem dX2_leastHeap_13 : decode cX2_leastHeap 13 = .ok (.iload 4, 2) := by decide +kernel
theorem dX2_leastHeap_15 : decode cX2_leastHeap 15 = .ok (.iaload, 1) := by decide +kernel
theorem dX2_leastHeap_16 : decode cX2_leastHeap 16 = .ok (.istore 5, 2) := by decide +kernel
theorem dX2_leastHeap_18 : decode cX2_leastHeap 18 = .ok (.iload 5, 2) := by decide +kernel
theorem dX2_leastHeap_20 : decode cX2_leastHeap 20 = .ok (.iload_n 1, 1) := by decide +kernel
theorem dX2_leastHeap_21 : decode cX2_leastHeap 21 = .ok (.iushr, 1) := by decide +kernel
theorem dX2_leastHeap_22 : decode cX2_leastHeap 22 = .ok (.iconst 1, 1) := by decide +kernel
theorem dX2_leastHeap_23 : decode cX2_leastHeap 23 = .ok (.iand, 1) := by decide +kernel
theorem dX2_leastHeap_24 : decode cX2_leastHeap 24 = .ok (.ifCond .eq 40, 3) := by decide +kernel
theorem dX2_leastHeap_27 : decode cX2_leastHeap 27 = .ok (.aload_n 0, 1) := by decide +kernel
theorem dX2_leastHeap_28 : decode cX2_leastHeap 28 = .ok (.getfield 21, 3) := by decide +kernel
theorem dX2_leastHeap_31 : decode cX2_leastHeap 31 = .ok (.iload 4, 2) := by decide +kernel
theorem dX2_leastHeap_33 : decode cX2_leastHeap 33 = .ok (.iload 5, 2) := by decide +kernel
theorem dX2_leastHeap_35 : decode cX2_leastHeap 35 = .ok (.aload_n 0, 1) := by decide +kernel
theorem dX2_leastHeap_36 : decode cX2_leastHeap 36 = .ok (.getfield 9, 3) := by decide +kernel
theorem dX2_leastHeap_39 : decode cX2_leastHeap 39 = .ok (.iload_n 1, 1) := by decide +kernel
theorem dX2_leastHeap_40 : decode cX2_leastHeap 40 = .ok (.iaload, 1) := by decide +kernel
theorem dX2_leastHeap_41 : decode cX2_leastHeap 41 = .ok (.iand, 1) := by decide +kernel
theorem dX2_leastHeap_42 : decode cX2_leastHeap 42 = .ok (.iastore, 1) := by decide +kernel
theorem dX2_leastHeap_43 : decode cX2_leastHeap 43 = .ok (.aload_n 0, 1) := by decide +kernel
theorem dX2_leastHeap_44 : decode cX2_leastHeap 44 = .ok (.iload_n 2, 1) := by decide +kernel
theorem dX2_leastHeap_45 : decode cX2_leastHeap 45 = .ok (.iload_n 3, 1) := by decide +kernel
theorem dX2_leastHeap_46 : decode cX2_leastHeap 46 = .ok (.invokevirtual 52, 3) := by decide +kernel
theorem dX2_leastHeap_49 : decode cX2_leastHeap 49 = .ok (.ifCond .eq 6, 3) := by decide +kernel
theorem dX2_leastHeap_52 : decode cX2_leastHeap 52 = .ok (.iload 4, 2) := by decide +kernel
theorem dX2_leastHeap_54 : decode cX2_leastHeap 54 = .ok (.ireturn, 1) := by decide +kernel
theorem dX2_leastHeap_55 : decode cX2_leastHeap 55 = .ok (.aload_n 0, 1) := by decide +kernel
theorem dX2_leastHeap_56 : decode cX2_leastHeap 56 = .ok (.getfield 21, 3) := by decide +kernel
theorem dX2_leastHeap_59 : decode cX2_leastHeap 59 = .ok (.iload 4, 2) := by decide +kernel
theorem dX2_leastHeap_61 : decode cX2_leastHeap 61 = .ok (.iload 5, 2) := by decide +kernel
theorem dX2_leastHeap_63 : decode cX2_leastHeap 63 = .ok (.iastore, 1) := by decide +kernel
theorem dX2_leastHeap_64 : decode cX2_leastHeap 64 = .ok (.iinc 4 1, 3) := by decide +kernel
theorem dX2_leastHeap_67 : decode cX2_leastHeap 67 = .ok (.goto (-64), 3) := by decide +kernel
theorem dX2_leastHeap_70 : decode cX2_leastHeap 70 = .ok (.iload_n 3, 1) := by decide +kernel
theorem dX2_leastHeap_71 : decode cX2_leastHeap 71 = .ok (.ireturn, 1) := by decide +kernel
theorem dX2_canEnd_0 : decode cX2_canEnd 0 = .ok (.iload_n 1, 1) := by decide +kernel
theorem dX2_canEnd_1 : decode cX2_canEnd 1 = .ok (.istore_n 3, 1) := by decide +kernel
theorem dX2_canEnd_2 : decode cX2_canEnd 2 = .ok (.iconst 0, 1) := by decide +kernel
theorem dX2_canEnd_3 : decode cX2_canEnd 3 = .ok (.istore 4, 2) := by decide +kernel
theorem dX2_canEnd_5 : decode cX2_canEnd 5 = .ok (.iload 4, 2) := by decide +kernel
theorem dX2_canEnd_7 : decode cX2_canEnd 7 = .ok (.aload_n 0, 1) := by decide +kernel
theorem dX2_canEnd_8 : decode cX2_canEnd 8 = .ok (.getfield 32, 3) := by decide +kernel
theorem dX2_canEnd_11 : decode cX2_canEnd 11 = .ok (.if_icmp .ge 25, 3) := by decide +kernel
theorem dX2_canEnd_14 : decode cX2_canEnd 14 = .ok (.aload_n 0, 1) := by decide +kernel
theorem dX2_canEnd_15 : decode cX2_canEnd 15 = .ok (.getfield 15, 3) := by decide +kernel
theorem dX2_canEnd_18 : decode cX2_canEnd 18 = .ok (.iload 4, 2) := by decide +kernel
theorem dX2_canEnd_20 : decode cX2_canEnd 20 = .ok (.aload_n 0, 1) := by decide +kernel
theorem dX2_canEnd_21 : decode cX2_canEnd 21 = .ok (.getfield 9, 3) := by decide +kernel
theorem dX2_canEnd_24 : decode cX2_canEnd 24 = .ok (.iload 4, 2) := by decide +kernel
theorem dX2_canEnd_26 : decode cX2_canEnd 26 = .ok (.iaload, 1) := by decide +kernel
theorem dX2_canEnd_27 : decode cX2_canEnd 27 = .ok (.iload_n 1, 1) := by decide +kernel
theorem dX2_canEnd_28 : decode cX2_canEnd 28 = .ok (.iand, 1) := by decide +kernel
theorem dX2_canEnd_29 : decode cX2_canEnd 29 = .ok (.iastore, 1) := by decide +kernel
theorem dX2_canEnd_30 : decode cX2_canEnd 30 = .ok (.iinc 4 1, 3) := by decide +kernel
theorem dX2_canEnd_33 : decode cX2_canEnd 33 = .ok (.goto (-28), 3) := by decide +kernel
theorem dX2_canEnd_36 : decode cX2_canEnd 36 = .ok (.iconst 0, 1) := by decide +kernel
theorem dX2_canEnd_37 : decode cX2_canEnd 37 = .ok (.istore 4, 2) := by decide +kernel
theorem dX2_canEnd_39 : decode cX2_canEnd 39 = .ok (.iload 4, 2) := by decide +kernel
theorem dX2_canEnd_41 : decode cX2_canEnd 41 = .ok (.iload_n 2, 1) := by decide +kernel
theorem dX2_canEnd_42 : decode cX2_canEnd 42 = .ok (.if_icmp .ge 83, 3) := by decide +kernel
theorem dX2_canEnd_45 : decode cX2_canEnd 45 = .ok (.aload_n 0, 1) := by decide +kernel
theorem dX2_canEnd_46 : decode cX2_canEnd 46 = .ok (.getfield 18, 3) := by decide +kernel
theorem dX2_canEnd_49 : decode cX2_canEnd 49 = .ok (.iload 4, 2) := by decide +kernel
theorem dX2_canEnd_51 : decode cX2_canEnd 51 = .ok (.iaload, 1) := by decide +kernel
theorem dX2_canEnd_52 : decode cX2_canEnd 52 = .ok (.istore 5, 2) := by decide +kernel
theorem dX2_canEnd_54 : decode cX2_canEnd 54 = .ok (.aload_n 0, 1) := by decide +kernel
theorem dX2_canEnd_55 : decode cX2_canEnd 55 = .ok (.getfield 21, 3) := by decide +kernel
theorem dX2_canEnd_58 : decode cX2_canEnd 58 = .ok (.iload 4, 2) := by decide +kernel
theorem dX2_canEnd_60 : decode cX2_canEnd 60 = .ok (.iaload, 1) := by decide +kernel
theorem dX2_canEnd_61 : decode cX2_canEnd 61 = .ok (.iload_n 1, 1) := by decide +kernel
theorem dX2_canEnd_62 : decode cX2_canEnd 62 = .ok (.iand, 1) := by decide +kernel
theorem dX2_canEnd_63 : decode cX2_canEnd 63 = .ok (.istore 6, 2) := by decide +kernel
theorem dX2_canEnd_65 : decode cX2_canEnd 65 = .ok (.iload_n 3, 1) := by decide +kernel
theorem dX2_canEnd_66 : decode cX2_canEnd 66 = .ok (.iconst 1, 1) := by decide +kernel
theorem dX2_canEnd_67 : decode cX2_canEnd 67 = .ok (.iload 5, 2) := by decide +kernel
theorem dX2_canEnd_69 : decode cX2_canEnd 69 = .ok (.ishl, 1) := by decide +kernel
theorem dX2_canEnd_70 : decode cX2_canEnd 70 = .ok (.ior, 1) := by decide +kernel
theorem dX2_canEnd_71 : decode cX2_canEnd 71 = .ok (.istore_n 3, 1) := by decide +kernel
theorem dX2_canEnd_72 : decode cX2_canEnd 72 = .ok (.aload_n 0, 1) := by decide +kernel
theorem dX2_canEnd_73 : decode cX2_canEnd 73 = .ok (.getfield 15, 3) := by decide +kernel
theorem dX2_canEnd_76 : decode cX2_canEnd 76 = .ok (.iload 5, 2) := by decide +kernel
theorem dX2_canEnd_78 : decode cX2_canEnd 78 = .ok (.iload 6, 2) := by decide +kernel
theorem dX2_canEnd_80 : decode cX2_canEnd 80 = .ok (.iastore, 1) := by decide +kernel
theorem dX2_canEnd_81 : decode cX2_canEnd 81 = .ok (.iconst 0, 1) := by decide +kernel
theorem dX2_canEnd_82 : decode cX2_canEnd 82 = .ok (.istore 7, 2) := by decide +kernel
theorem dX2_canEnd_84 : decode cX2_canEnd 84 = .ok (.iload 7, 2) := by decide +kernel
theorem dX2_canEnd_86 : decode cX2_canEnd 86 = .ok (.aload_n 0, 1) := by decide +kernel
theorem dX2_canEnd_87 : decode cX2_canEnd 87 = .ok (.getfield 32, 3) := by decide +kernel
theorem dX2_canEnd_90 : decode cX2_canEnd 90 = .ok (.if_icmp .ge 29, 3) := by decide +kernel
theorem dX2_canEnd_93 : decode cX2_canEnd 93 = .ok (.aload_n 0, 1) := by decide +kernel
theorem dX2_canEnd_94 : decode cX2_canEnd 94 = .ok (.getfield 15, 3) := by decide +kernel
theorem dX2_canEnd_97 : decode cX2_canEnd 97 = .ok (.iload 7, 2) := by decide +kernel
theorem dX2_canEnd_99 : decode cX2_canEnd 99 = .ok (.dup2, 1) := by decide +kernel
theorem dX2_canEnd_100 : decode cX2_canEnd 100 = .ok (.iaload, 1) := by decide +kernel
theorem dX2_canEnd_101 : decode cX2_canEnd 101 = .ok (.iload 6, 2) := by decide +kernel
theorem dX2_canEnd_103 : decode cX2_canEnd 103 = .ok (.iload 7, 2) := by decide +kernel
theorem dX2_canEnd_105 : decode cX2_canEnd 105 = .ok (.iushr, 1) := by decide +kernel
theorem dX2_canEnd_106 : decode cX2_canEnd 106 = .ok (.iconst 1, 1) := by decide +kernel
theorem dX2_canEnd_107 : decode cX2_canEnd 107 = .ok (.iand, 1) := by decide +kernel
theorem dX2_canEnd_108 : decode cX2_canEnd 108 = .ok (.iload 5, 2) := by decide +kernel
theorem dX2_canEnd_110 : decode cX2_canEnd 110 = .ok (.ishl, 1) := by decide +kernel
theorem dX2_canEnd_111 : decode cX2_canEnd 111 = .ok (.ior, 1) := by decide +kernel
theorem dX2_canEnd_112 : decode cX2_canEnd 112 = .ok (.iastore, 1) := by decide +kernel
theorem dX2_canEnd_113 : decode cX2_canEnd 113 = .ok (.iinc 7 1, 3) := by decide +kernel
theorem dX2_canEnd_116 : decode cX2_canEnd 116 = .ok (.goto (-32), 3) := by decide +kernel
theorem dX2_canEnd_119 : decode cX2_canEnd 119 = .ok (.iinc 4 1, 3) := by decide +kernel
theorem dX2_canEnd_122 : decode cX2_canEnd 122 = .ok (.goto (-83), 3) := by decide +kernel
theorem dX2_canEnd_125 : decode cX2_canEnd 125 = .ok (.aload_n 0, 1) := by decide +kernel
theorem dX2_canEnd_126 : decode cX2_canEnd 126 = .ok (.dup, 1) := by decide +kernel
theorem dX2_canEnd_127 : decode cX2_canEnd 127 = .ok (.getfield 28, 3) := by decide +kernel
theorem dX2_canEnd_130 : decode cX2_canEnd 130 = .ok (.lconst 1, 1) := by decide +kernel
theorem dX2_canEnd_131 : decode cX2_canEnd 131 = .ok (.ladd, 1) := by decide +kernel
theorem dX2_canEnd_132 : decode cX2_canEnd 132 = .ok (.putfield 28, 3) := by decide +kernel
theorem dX2_canEnd_135 : decode cX2_canEnd 135 = .ok (.aload_n 0, 1) := by decide +kernel
theorem dX2_canEnd_136 : decode cX2_canEnd 136 = .ok (.iload_n 3, 1) := by decide +kernel
theorem dX2_canEnd_137 : decode cX2_canEnd 137 = .ok (.aload_n 0, 1) := by decide +kernel
theorem dX2_canEnd_138 : decode cX2_canEnd 138 = .ok (.getfield 36, 3) := by decide +kernel
theorem dX2_canEnd_141 : decode cX2_canEnd 141 = .ok (.iconst 0, 1) := by decide +kernel
theorem dX2_canEnd_142 : decode cX2_canEnd 142 = .ok (.invokevirtual 60, 3) := by decide +kernel
theorem dX2_canEnd_145 : decode cX2_canEnd 145 = .ok (.ireturn, 1) := by decide +kernel
theorem dX2_covers_0 : decode cX2_covers 0 = .ok (.aload_n 0, 1) := by decide +kernel
theorem dX2_covers_1 : decode cX2_covers 1 = .ok (.iload_n 1, 1) := by decide +kernel
theorem dX2_covers_2 : decode cX2_covers 2 = .ok (.iload_n 2, 1) := by decide +kernel
theorem dX2_covers_3 : decode cX2_covers 3 = .ok (.invokevirtual 64, 3) := by decide +kernel
theorem dX2_covers_6 : decode cX2_covers 6 = .ok (.istore 4, 2) := by decide +kernel
theorem dX2_covers_8 : decode cX2_covers 8 = .ok (.iload 4, 2) := by decide +kernel
theorem dX2_covers_10 : decode cX2_covers 10 = .ok (.ifCond .ne 5, 3) := by decide +kernel
theorem dX2_covers_13 : decode cX2_covers 13 = .ok (.iconst 1, 1) := by decide +kernel
theorem dX2_covers_14 : decode cX2_covers 14 = .ok (.ireturn, 1) := by decide +kernel
theorem dX2_covers_15 : decode cX2_covers 15 = .ok (.iload 4, 2) := by decide +kernel
theorem dX2_covers_17 : decode cX2_covers 17 = .ok (.invokestatic 67, 3) := by decide +kernel
theorem dX2_covers_20 : decode cX2_covers 20 = .ok (.iload_n 2, 1) := by decide +kernel
theorem dX2_covers_21 : decode cX2_covers 21 = .ok (.aload_n 0, 1) := by decide +kernel
theorem dX2_covers_22 : decode cX2_covers 22 = .ok (.getfield 39, 3) := by decide +kernel
theorem dX2_covers_25 : decode cX2_covers 25 = .ok (.imul, 1) := by decide +kernel
theorem dX2_covers_26 : decode cX2_covers 26 = .ok (.if_icmp .gt 23, 3) := by decide +kernel
theorem dX2_covers_29 : decode cX2_covers 29 = .ok (.aload_n 0, 1) := by decide +kernel
theorem dX2_covers_30 : decode cX2_covers 30 = .ok (.iload 4, 2) := by decide +kernel
theorem dX2_covers_32 : decode cX2_covers 32 = .ok (.iload_n 2, 1) := by decide +kernel
theorem dX2_covers_33 : decode cX2_covers 33 = .ok (.invokevirtual 73, 3) := by decide +kernel
theorem dX2_covers_36 : decode cX2_covers 36 = .ok (.ifCond .ne 13, 3) := by decide +kernel
theorem dX2_covers_39 : decode cX2_covers 39 = .ok (.aload_n 0, 1) := by decide +kernel
theorem dX2_covers_40 : decode cX2_covers 40 = .ok (.iload 4, 2) := by decide +kernel
theorem dX2_covers_42 : decode cX2_covers 42 = .ok (.invokevirtual 76, 3) := by decide +kernel
theorem dX2_covers_45 : decode cX2_covers 45 = .ok (.iload_n 2, 1) := by decide +kernel
theorem dX2_covers_46 : decode cX2_covers 46 = .ok (.if_icmp .le 5, 3) := by decide +kernel
theorem dX2_covers_49 : decode cX2_covers 49 = .ok (.iconst 0, 1) := by decide +kernel
theorem dX2_covers_50 : decode cX2_covers 50 = .ok (.ireturn, 1) := by decide +kernel
theorem dX2_covers_51 : decode cX2_covers 51 = .ok (.aload_n 0, 1) := by decide +kernel
theorem dX2_covers_52 : decode cX2_covers 52 = .ok (.iload 4, 2) := by decide +kernel
theorem dX2_covers_54 : decode cX2_covers 54 = .ok (.invokevirtual 79, 3) := by decide +kernel
theorem dX2_covers_57 : decode cX2_covers 57 = .ok (.istore 5, 2) := by decide +kernel
theorem dX2_covers_59 : decode cX2_covers 59 = .ok (.aload_n 0, 1) := by decide +kernel
theorem dX2_covers_60 : decode cX2_covers 60 = .ok (.iload 4, 2) := by decide +kernel
theorem dX2_covers_62 : decode cX2_covers 62 = .ok (.aload_n 0, 1) := by decide +kernel
theorem dX2_covers_63 : decode cX2_covers 63 = .ok (.getfield 15, 3) := by decide +kernel
theorem dX2_covers_66 : decode cX2_covers 66 = .ok (.iload 5, 2) := by decide +kernel
theorem dX2_covers_68 : decode cX2_covers 68 = .ok (.iaload, 1) := by decide +kernel
theorem dX2_covers_69 : decode cX2_covers 69 = .ok (.iload 4, 2) := by decide +kernel
theorem dX2_covers_71 : decode cX2_covers 71 = .ok (.iand, 1) := by decide +kernel
theorem dX2_covers_72 : decode cX2_covers 72 = .ok (.iconst 0, 1) := by decide +kernel
theorem dX2_covers_73 : decode cX2_covers 73 = .ok (.iconst 1, 1) := by decide +kernel
theorem dX2_covers_74 : decode cX2_covers 74 = .ok (.iload 5, 2) := by decide +kernel
theorem dX2_covers_76 : decode cX2_covers 76 = .ok (.ishl, 1) := by decide +kernel
theorem dX2_covers_77 : decode cX2_covers 77 = .ok (.iload_n 2, 1) := by decide +kernel
theorem dX2_covers_78 : decode cX2_covers 78 = .ok (.iload_n 3, 1) := by decide +kernel
theorem dX2_covers_79 : decode cX2_covers 79 = .ok (.iconst 1, 1) := by decide +kernel
theorem dX2_covers_80 : decode cX2_covers 80 = .ok (.iadd, 1) := by decide +kernel
theorem dX2_covers_81 : decode cX2_covers 81 = .ok (.invokevirtual 82, 3) := by decide +kernel
theorem dX2_covers_84 : decode cX2_covers 84 = .ok (.ifCond .eq 5, 3) := by decide +kernel
theorem dX2_covers_87 : decode cX2_covers 87 = .ok (.iconst 1, 1) := by decide +kernel
theorem dX2_covers_88 : decode cX2_covers 88 = .ok (.ireturn, 1) := by decide +kernel
theorem dX2_covers_89 : decode cX2_covers 89 = .ok (.aload_n 0, 1) := by decide +kernel
theorem dX2_covers_90 : decode cX2_covers 90 = .ok (.getfield 24, 3) := by decide +kernel
theorem dX2_covers_93 : decode cX2_covers 93 = .ok (.iload 4, 2) := by decide +kernel
theorem dX2_covers_95 : decode cX2_covers 95 = .ok (.invokestatic 86, 3) := by decide +kernel
theorem dX2_covers_98 : decode cX2_covers 98 = .ok (.aload_n 0, 1) := by decide +kernel
theorem dX2_covers_99 : decode cX2_covers 99 = .ok (.getfield 28, 3) := by decide +kernel
theorem dX2_covers_102 : decode cX2_covers 102 = .ok (.bipush 32, 2) := by decide +kernel
theorem dX2_covers_104 : decode cX2_covers 104 = .ok (.lshl, 1) := by decide +kernel
theorem dX2_covers_105 : decode cX2_covers 105 = .ok (.iload_n 2, 1) := by decide +kernel
theorem dX2_covers_106 : decode cX2_covers 106 = .ok (.i2l, 1) := by decide +kernel
theorem dX2_covers_107 : decode cX2_covers 107 = .ok (.bipush 24, 2) := by decide +kernel
theorem dX2_covers_109 : decode cX2_covers 109 = .ok (.lshl, 1) := by decide +kernel
theorem dX2_covers_110 : decode cX2_covers 110 = .ok (.lor, 1) := by decide +kernel
theorem dX2_covers_111 : decode cX2_covers 111 = .ok (.iload 4, 2) := by decide +kernel
theorem dX2_covers_113 : decode cX2_covers 113 = .ok (.i2l, 1) := by decide +kernel
theorem dX2_covers_114 : decode cX2_covers 114 = .ok (.lor, 1) := by decide +kernel
theorem dX2_covers_115 : decode cX2_covers 115 = .ok (.lastore, 1) := by decide +kernel
theorem dX2_covers_116 : decode cX2_covers 116 = .ok (.iconst 0, 1) := by decide +kernel
theorem dX2_covers_117 : decode cX2_covers 117 = .ok (.ireturn, 1) := by decide +kernel
theorem dX2_grow_0 : decode cX2_grow 0 = .ok (.iload_n 2, 1) := by decide +kernel
theorem dX2_grow_1 : decode cX2_grow 1 = .ok (.ifCond .ne 32, 3) := by decide +kernel
theorem dX2_grow_4 : decode cX2_grow 4 = .ok (.iload_n 3, 1) := by decide +kernel
theorem dX2_grow_5 : decode cX2_grow 5 = .ok (.ifCond .ne 26, 3) := by decide +kernel
theorem dX2_grow_8 : decode cX2_grow 8 = .ok (.aload_n 0, 1) := by decide +kernel
theorem dX2_grow_9 : decode cX2_grow 9 = .ok (.iload_n 1, 1) := by decide +kernel
theorem dX2_grow_10 : decode cX2_grow 10 = .ok (.iload 4, 2) := by decide +kernel
theorem dX2_grow_12 : decode cX2_grow 12 = .ok (.iconst (-1), 1) := by decide +kernel
theorem dX2_grow_13 : decode cX2_grow 13 = .ok (.ixor, 1) := by decide +kernel
theorem dX2_grow_14 : decode cX2_grow 14 = .ok (.iand, 1) := by decide +kernel
theorem dX2_grow_15 : decode cX2_grow 15 = .ok (.iload 5, 2) := by decide +kernel
theorem dX2_grow_17 : decode cX2_grow 17 = .ok (.iconst 1, 1) := by decide +kernel
theorem dX2_grow_18 : decode cX2_grow 18 = .ok (.isub, 1) := by decide +kernel
theorem dX2_grow_19 : decode cX2_grow 19 = .ok (.iload 6, 2) := by decide +kernel
theorem dX2_grow_21 : decode cX2_grow 21 = .ok (.invokevirtual 60, 3) := by decide +kernel
theorem dX2_grow_24 : decode cX2_grow 24 = .ok (.ifCond .eq 7, 3) := by decide +kernel
theorem dX2_grow_27 : decode cX2_grow 27 = .ok (.iconst 1, 1) := by decide +kernel
theorem dX2_grow_28 : decode cX2_grow 28 = .ok (.goto 4, 3) := by decide +kernel
theorem dX2_grow_31 : decode cX2_grow 31 = .ok (.iconst 0, 1) := by decide +kernel
theorem dX2_grow_32 : decode cX2_grow 32 = .ok (.ireturn, 1) := by decide +kernel
theorem dX2_grow_33 : decode cX2_grow 33 = .ok (.iload 6, 2) := by decide +kernel
theorem dX2_grow_35 : decode cX2_grow 35 = .ok (.bipush 24, 2) := by decide +kernel
theorem dX2_grow_37 : decode cX2_grow 37 = .ok (.if_icmp .le 5, 3) := by decide +kernel
theorem dX2_grow_40 : decode cX2_grow 40 = .ok (.iconst 0, 1) := by decide +kernel
theorem dX2_grow_41 : decode cX2_grow 41 = .ok (.ireturn, 1) := by decide +kernel
theorem dX2_grow_42 : decode cX2_grow 42 = .ok (.iload_n 2, 1) := by decide +kernel
theorem dX2_grow_43 : decode cX2_grow 43 = .ok (.istore 7, 2) := by decide +kernel
theorem dX2_grow_45 : decode cX2_grow 45 = .ok (.iload_n 3, 1) := by decide +kernel
theorem dX2_grow_46 : decode cX2_grow 46 = .ok (.istore 8, 2) := by decide +kernel
theorem dX2_grow_48 : decode cX2_grow 48 = .ok (.iload_n 2, 1) := by decide +kernel
theorem dX2_grow_49 : decode cX2_grow 49 = .ok (.aload_n 0, 1) := by decide +kernel
theorem dX2_grow_50 : decode cX2_grow 50 = .ok (.getfield 15, 3) := by decide +kernel
theorem dX2_grow_53 : decode cX2_grow 53 = .ok (.aload_n 0, 1) := by decide +kernel
theorem dX2_grow_54 : decode cX2_grow 54 = .ok (.iload_n 2, 1) := by decide +kernel
theorem dX2_grow_55 : decode cX2_grow 55 = .ok (.iload_n 3, 1) := by decide +kernel
theorem dX2_grow_56 : decode cX2_grow 56 = .ok (.ior, 1) := by decide +kernel
theorem dX2_grow_57 : decode cX2_grow 57 = .ok (.iload_n 2, 1) := by decide +kernel
theorem dX2_grow_58 : decode cX2_grow 58 = .ok (.invokevirtual 89, 3) := by decide +kernel
theorem dX2_grow_61 : decode cX2_grow 61 = .ok (.iaload, 1) := by decide +kernel
theorem dX2_grow_62 : decode cX2_grow 62 = .ok (.iconst (-1), 1) := by decide +kernel
theorem dX2_grow_63 : decode cX2_grow 63 = .ok (.ixor, 1) := by decide +kernel
theorem dX2_grow_64 : decode cX2_grow 64 = .ok (.iand, 1) := by decide +kernel
theorem dX2_grow_65 : decode cX2_grow 65 = .ok (.istore 9, 2) := by decide +kernel
theorem dX2_grow_67 : decode cX2_grow 67 = .ok (.iconst 0, 1) := by decide +kernel
theorem dX2_grow_68 : decode cX2_grow 68 = .ok (.istore 10, 2) := by decide +kernel
theorem dX2_grow_70 : decode cX2_grow 70 = .ok (.iload 10, 2) := by decide +kernel
theorem dX2_grow_72 : decode cX2_grow 72 = .ok (.aload_n 0, 1) := by decide +kernel
theorem dX2_grow_73 : decode cX2_grow 73 = .ok (.getfield 32, 3) := by decide +kernel
theorem dX2_grow_76 : decode cX2_grow 76 = .ok (.if_icmp .ge 81, 3) := by decide +kernel
theorem dX2_grow_79 : decode cX2_grow 79 = .ok (.iload 9, 2) := by decide +kernel
theorem dX2_grow_81 : decode cX2_grow 81 = .ok (.iload 10, 2) := by decide +kernel
theorem dX2_grow_83 : decode cX2_grow 83 = .ok (.iushr, 1) := by decide +kernel
theorem dX2_grow_84 : decode cX2_grow 84 = .ok (.iconst 1, 1) := by decide +kernel
theorem dX2_grow_85 : decode cX2_grow 85 = .ok (.iand, 1) := by decide +kernel
theorem dX2_grow_86 : decode cX2_grow 86 = .ok (.ifCond .eq 65, 3) := by decide +kernel
theorem dX2_grow_89 : decode cX2_grow 89 = .ok (.aload_n 0, 1) := by decide +kernel
theorem dX2_grow_90 : decode cX2_grow 90 = .ok (.getfield 15, 3) := by decide +kernel
theorem dX2_grow_93 : decode cX2_grow 93 = .ok (.iload 10, 2) := by decide +kernel
theorem dX2_grow_95 : decode cX2_grow 95 = .ok (.iaload, 1) := by decide +kernel
theorem dX2_grow_96 : decode cX2_grow 96 = .ok (.istore 11, 2) := by decide +kernel
theorem dX2_grow_98 : decode cX2_grow 98 = .ok (.aload_n 0, 1) := by decide +kernel
theorem dX2_grow_99 : decode cX2_grow 99 = .ok (.iload_n 1, 1) := by decide +kernel
theorem dX2_grow_100 : decode cX2_grow 100 = .ok (.iload 7, 2) := by decide +kernel
theorem dX2_grow_102 : decode cX2_grow 102 = .ok (.iload 11, 2) := by decide +kernel
theorem dX2_grow_104 : decode cX2_grow 104 = .ok (.iand, 1) := by decide +kernel
theorem dX2_grow_105 : decode cX2_grow 105 = .ok (.iload 8, 2) := by decide +kernel
theorem dX2_grow_107 : decode cX2_grow 107 = .ok (.iload 11, 2) := by decide +kernel
theorem dX2_grow_109 : decode cX2_grow 109 = .ok (.iand, 1) := by decide +kernel
theorem dX2_grow_110 : decode cX2_grow 110 = .ok (.iload 4, 2) := by decide +kernel
theorem dX2_grow_112 : decode cX2_grow 112 = .ok (.iconst 1, 1) := by decide +kernel
theorem dX2_grow_113 : decode cX2_grow 113 = .ok (.iload 10, 2) := by decide +kernel
theorem dX2_grow_115 : decode cX2_grow 115 = .ok (.ishl, 1) := by decide +kernel
theorem dX2_grow_116 : decode cX2_grow 116 = .ok (.ior, 1) := by decide +kernel
theorem dX2_grow_117 : decode cX2_grow 117 = .ok (.iload 5, 2) := by decide +kernel
theorem dX2_grow_119 : decode cX2_grow 119 = .ok (.iload 6, 2) := by decide +kernel
theorem dX2_grow_121 : decode cX2_grow 121 = .ok (.iconst 1, 1) := by decide +kernel
theorem dX2_grow_122 : decode cX2_grow 122 = .ok (.iadd, 1) := by decide +kernel
theorem dX2_grow_123 : decode cX2_grow 123 = .ok (.invokevirtual 82, 3) := by decide +kernel
theorem dX2_grow_126 : decode cX2_grow 126 = .ok (.ifCond .eq 5, 3) := by decide +kernel
theorem dX2_grow_129 : decode cX2_grow 129 = .ok (.iconst 1, 1) := by decide +kernel
theorem dX2_grow_130 : decode cX2_grow 130 = .ok (.ireturn, 1) := by decide +kernel
theorem dX2_grow_131 : decode cX2_grow 131 = .ok (.iload 7, 2) := by decide +kernel
theorem dX2_grow_133 : decode cX2_grow 133 = .ok (.iconst 1, 1) := by decide +kernel
theorem dX2_grow_134 : decode cX2_grow 134 = .ok (.iload 10, 2) := by decide +kernel
theorem dX2_grow_136 : decode cX2_grow 136 = .ok (.ishl, 1) := by decide +kernel
theorem dX2_grow_137 : decode cX2_grow 137 = .ok (.iconst (-1), 1) := by decide +kernel
theorem dX2_grow_138 : decode cX2_grow 138 = .ok (.ixor, 1) := by decide +kernel
theorem dX2_grow_139 : decode cX2_grow 139 = .ok (.iand, 1) := by decide +kernel
theorem dX2_grow_140 : decode cX2_grow 140 = .ok (.istore 7, 2) := by decide +kernel
theorem dX2_grow_142 : decode cX2_grow 142 = .ok (.iload 8, 2) := by decide +kernel
theorem dX2_grow_144 : decode cX2_grow 144 = .ok (.iconst 1, 1) := by decide +kernel
theorem dX2_grow_145 : decode cX2_grow 145 = .ok (.iload 10, 2) := by decide +kernel
theorem dX2_grow_147 : decode cX2_grow 147 = .ok (.ishl, 1) := by decide +kernel
theorem dX2_grow_148 : decode cX2_grow 148 = .ok (.ior, 1) := by decide +kernel
theorem dX2_grow_149 : decode cX2_grow 149 = .ok (.istore 8, 2) := by decide +kernel
theorem dX2_grow_151 : decode cX2_grow 151 = .ok (.iinc 10 1, 3) := by decide +kernel
theorem dX2_grow_154 : decode cX2_grow 154 = .ok (.goto (-84), 3) := by decide +kernel
theorem dX2_grow_157 : decode cX2_grow 157 = .ok (.iconst 0, 1) := by decide +kernel
theorem dX2_grow_158 : decode cX2_grow 158 = .ok (.ireturn, 1) := by decide +kernel
theorem dX2_withoutEasy_0 : decode cX2_withoutEasy 0 = .ok (.iload_n 1, 1) := by decide +kernel
theorem dX2_withoutEasy_1 : decode cX2_withoutEasy 1 = .ok (.istore_n 3, 1) := by decide +kernel
theorem dX2_withoutEasy_2 : decode cX2_withoutEasy 2 = .ok (.iconst 1, 1) := by decide +kernel
theorem dX2_withoutEasy_3 : decode cX2_withoutEasy 3 = .ok (.istore 4, 2) := by decide +kernel
theorem dX2_withoutEasy_5 : decode cX2_withoutEasy 5 = .ok (.iconst 0, 1) := by decide +kernel
theorem dX2_withoutEasy_6 : decode cX2_withoutEasy 6 = .ok (.istore 5, 2) := by decide +kernel
theorem dX2_withoutEasy_8 : decode cX2_withoutEasy 8 = .ok (.iload 5, 2) := by decide +kernel
theorem dX2_withoutEasy_10 : decode cX2_withoutEasy 10 = .ok (.bipush 24, 2) := by decide +kernel
theorem dX2_withoutEasy_12 : decode cX2_withoutEasy 12 = .ok (.if_icmp .ge 84, 3) := by decide +kernel
theorem dX2_withoutEasy_15 : decode cX2_withoutEasy 15 = .ok (.iload 4, 2) := by decide +kernel
theorem dX2_withoutEasy_17 : decode cX2_withoutEasy 17 = .ok (.ifCond .eq 79, 3) := by decide +kernel
theorem dX2_withoutEasy_20 : decode cX2_withoutEasy 20 = .ok (.iload_n 3, 1) := by decide +kernel
theorem dX2_withoutEasy_21 : decode cX2_withoutEasy 21 = .ok (.istore 6, 2) := by decide +kernel
theorem dX2_withoutEasy_23 : decode cX2_withoutEasy 23 = .ok (.iconst 0, 1) := by decide +kernel
theorem dX2_withoutEasy_24 : decode cX2_withoutEasy 24 = .ok (.istore 7, 2) := by decide +kernel
theorem dX2_withoutEasy_26 : decode cX2_withoutEasy 26 = .ok (.iload 7, 2) := by decide +kernel
theorem dX2_withoutEasy_28 : decode cX2_withoutEasy 28 = .ok (.aload_n 0, 1) := by decide +kernel
theorem dX2_withoutEasy_29 : decode cX2_withoutEasy 29 = .ok (.getfield 32, 3) := by decide +kernel
theorem dX2_withoutEasy_32 : decode cX2_withoutEasy 32 = .ok (.if_icmp .ge 45, 3) := by decide +kernel
theorem dX2_withoutEasy_35 : decode cX2_withoutEasy 35 = .ok (.iload_n 3, 1) := by decide +kernel
theorem dX2_withoutEasy_36 : decode cX2_withoutEasy 36 = .ok (.iload 7, 2) := by decide +kernel
theorem dX2_withoutEasy_38 : decode cX2_withoutEasy 38 = .ok (.iushr, 1) := by decide +kernel
theorem dX2_withoutEasy_39 : decode cX2_withoutEasy 39 = .ok (.iconst 1, 1) := by decide +kernel
theorem dX2_withoutEasy_40 : decode cX2_withoutEasy 40 = .ok (.iand, 1) := by decide +kernel
theorem dX2_withoutEasy_41 : decode cX2_withoutEasy 41 = .ok (.ifCond .eq 30, 3) := by decide +kernel
theorem dX2_withoutEasy_44 : decode cX2_withoutEasy 44 = .ok (.iload_n 3, 1) := by decide +kernel
theorem dX2_withoutEasy_45 : decode cX2_withoutEasy 45 = .ok (.aload_n 0, 1) := by decide +kernel
theorem dX2_withoutEasy_46 : decode cX2_withoutEasy 46 = .ok (.getfield 15, 3) := by decide +kernel
theorem dX2_withoutEasy_49 : decode cX2_withoutEasy 49 = .ok (.iload 7, 2) := by decide +kernel
theorem dX2_withoutEasy_51 : decode cX2_withoutEasy 51 = .ok (.iaload, 1) := by decide +kernel
theorem dX2_withoutEasy_52 : decode cX2_withoutEasy 52 = .ok (.iconst (-1), 1) := by decide +kernel
theorem dX2_withoutEasy_53 : decode cX2_withoutEasy 53 = .ok (.ixor, 1) := by decide +kernel
theorem dX2_withoutEasy_54 : decode cX2_withoutEasy 54 = .ok (.iand, 1) := by decide +kernel
theorem dX2_withoutEasy_55 : decode cX2_withoutEasy 55 = .ok (.invokestatic 67, 3) := by decide +kernel
theorem dX2_withoutEasy_58 : decode cX2_withoutEasy 58 = .ok (.iload_n 2, 1) := by decide +kernel
theorem dX2_withoutEasy_59 : decode cX2_withoutEasy 59 = .ok (.if_icmp .gt 12, 3) := by decide +kernel
theorem dX2_withoutEasy_62 : decode cX2_withoutEasy 62 = .ok (.iload_n 3, 1) := by decide +kernel
theorem dX2_withoutEasy_63 : decode cX2_withoutEasy 63 = .ok (.iconst 1, 1) := by decide +kernel
theorem dX2_withoutEasy_64 : decode cX2_withoutEasy 64 = .ok (.iload 7, 2) := by decide +kernel
theorem dX2_withoutEasy_66 : decode cX2_withoutEasy 66 = .ok (.ishl, 1) := by decide +kernel
theorem dX2_withoutEasy_67 : decode cX2_withoutEasy 67 = .ok (.iconst (-1), 1) := by decide +kernel
theorem dX2_withoutEasy_68 : decode cX2_withoutEasy 68 = .ok (.ixor, 1) := by decide +kernel
theorem dX2_withoutEasy_69 : decode cX2_withoutEasy 69 = .ok (.iand, 1) := by decide +kernel
theorem dX2_withoutEasy_70 : decode cX2_withoutEasy 70 = .ok (.istore_n 3, 1) := by decide +kernel
theorem dX2_withoutEasy_71 : decode cX2_withoutEasy 71 = .ok (.iinc 7 1, 3) := by decide +kernel
theorem dX2_withoutEasy_74 : decode cX2_withoutEasy 74 = .ok (.goto (-48), 3) := by decide +kernel
theorem dX2_withoutEasy_77 : decode cX2_withoutEasy 77 = .ok (.iload_n 3, 1) := by decide +kernel
theorem dX2_withoutEasy_78 : decode cX2_withoutEasy 78 = .ok (.iload 6, 2) := by decide +kernel
theorem dX2_withoutEasy_80 : decode cX2_withoutEasy 80 = .ok (.if_icmp .eq 7, 3) := by decide +kernel
theorem dX2_withoutEasy_83 : decode cX2_withoutEasy 83 = .ok (.iconst 1, 1) := by decide +kernel
theorem dX2_withoutEasy_84 : decode cX2_withoutEasy 84 = .ok (.goto 4, 3) := by decide +kernel
theorem dX2_withoutEasy_87 : decode cX2_withoutEasy 87 = .ok (.iconst 0, 1) := by decide +kernel
theorem dX2_withoutEasy_88 : decode cX2_withoutEasy 88 = .ok (.istore 4, 2) := by decide +kernel
theorem dX2_withoutEasy_90 : decode cX2_withoutEasy 90 = .ok (.iinc 5 1, 3) := by decide +kernel
theorem dX2_withoutEasy_93 : decode cX2_withoutEasy 93 = .ok (.goto (-85), 3) := by decide +kernel
theorem dX2_withoutEasy_96 : decode cX2_withoutEasy 96 = .ok (.iload_n 3, 1) := by decide +kernel
theorem dX2_withoutEasy_97 : decode cX2_withoutEasy 97 = .ok (.ireturn, 1) := by decide +kernel
theorem dX2_slot_0 : decode cX2_slot 0 = .ok (.iload_n 0, 1) := by decide +kernel
theorem dX2_slot_1 : decode cX2_slot 1 = .ok (.ldc 92, 2) := by decide +kernel
theorem dX2_slot_3 : decode cX2_slot 3 = .ok (.imul, 1) := by decide +kernel
theorem dX2_slot_4 : decode cX2_slot 4 = .ok (.bipush 23, 2) := by decide +kernel
theorem dX2_slot_6 : decode cX2_slot 6 = .ok (.iushr, 1) := by decide +kernel
theorem dX2_slot_7 : decode cX2_slot 7 = .ok (.sipush 511, 3) := by decide +kernel
theorem dX2_slot_10 : decode cX2_slot 10 = .ok (.iand, 1) := by decide +kernel
theorem dX2_slot_11 : decode cX2_slot 11 = .ok (.ireturn, 1) := by decide +kernel
theorem dX2_hasFailed_0 : decode cX2_hasFailed 0 = .ok (.aload_n 0, 1) := by decide +kernel
theorem dX2_hasFailed_1 : decode cX2_hasFailed 1 = .ok (.getfield 24, 3) := by decide +kernel
theorem dX2_hasFailed_4 : decode cX2_hasFailed 4 = .ok (.iload_n 1, 1) := by decide +kernel
theorem dX2_hasFailed_5 : decode cX2_hasFailed 5 = .ok (.invokestatic 86, 3) := by decide +kernel
theorem dX2_hasFailed_8 : decode cX2_hasFailed 8 = .ok (.laload, 1) := by decide +kernel
theorem dX2_hasFailed_9 : decode cX2_hasFailed 9 = .ok (.lstore_n 3, 1) := by decide +kernel
theorem dX2_hasFailed_10 : decode cX2_hasFailed 10 = .ok (.lload_n 3, 1) := by decide +kernel
theorem dX2_hasFailed_11 : decode cX2_hasFailed 11 = .ok (.bipush 32, 2) := by decide +kernel
theorem dX2_hasFailed_13 : decode cX2_hasFailed 13 = .ok (.lushr, 1) := by decide +kernel
theorem dX2_hasFailed_14 : decode cX2_hasFailed 14 = .ok (.aload_n 0, 1) := by decide +kernel
theorem dX2_hasFailed_15 : decode cX2_hasFailed 15 = .ok (.getfield 28, 3) := by decide +kernel
theorem dX2_hasFailed_18 : decode cX2_hasFailed 18 = .ok (.lcmp, 1) := by decide +kernel
theorem dX2_hasFailed_19 : decode cX2_hasFailed 19 = .ok (.ifCond .ne 32, 3) := by decide +kernel
theorem dX2_hasFailed_22 : decode cX2_hasFailed 22 = .ok (.lload_n 3, 1) := by decide +kernel
theorem dX2_hasFailed_23 : decode cX2_hasFailed 23 = .ok (.ldc2_w 93, 3) := by decide +kernel
theorem dX2_hasFailed_26 : decode cX2_hasFailed 26 = .ok (.land, 1) := by decide +kernel
theorem dX2_hasFailed_27 : decode cX2_hasFailed 27 = .ok (.iload_n 1, 1) := by decide +kernel
theorem dX2_hasFailed_28 : decode cX2_hasFailed 28 = .ok (.i2l, 1) := by decide +kernel
theorem dX2_hasFailed_29 : decode cX2_hasFailed 29 = .ok (.lcmp, 1) := by decide +kernel
theorem dX2_hasFailed_30 : decode cX2_hasFailed 30 = .ok (.ifCond .ne 21, 3) := by decide +kernel
theorem dX2_hasFailed_33 : decode cX2_hasFailed 33 = .ok (.lload_n 3, 1) := by decide +kernel
theorem dX2_hasFailed_34 : decode cX2_hasFailed 34 = .ok (.bipush 24, 2) := by decide +kernel
theorem dX2_hasFailed_36 : decode cX2_hasFailed 36 = .ok (.lushr, 1) := by decide +kernel
theorem dX2_hasFailed_37 : decode cX2_hasFailed 37 = .ok (.ldc2_w 95, 3) := by decide +kernel
theorem dX2_hasFailed_40 : decode cX2_hasFailed 40 = .ok (.land, 1) := by decide +kernel
theorem dX2_hasFailed_41 : decode cX2_hasFailed 41 = .ok (.iload_n 2, 1) := by decide +kernel
theorem dX2_hasFailed_42 : decode cX2_hasFailed 42 = .ok (.i2l, 1) := by decide +kernel
theorem dX2_hasFailed_43 : decode cX2_hasFailed 43 = .ok (.lcmp, 1) := by decide +kernel
theorem dX2_hasFailed_44 : decode cX2_hasFailed 44 = .ok (.ifCond .lt 7, 3) := by decide +kernel
theorem dX2_hasFailed_47 : decode cX2_hasFailed 47 = .ok (.iconst 1, 1) := by decide +kernel
theorem dX2_hasFailed_48 : decode cX2_hasFailed 48 = .ok (.goto 4, 3) := by decide +kernel
theorem dX2_hasFailed_51 : decode cX2_hasFailed 51 = .ok (.iconst 0, 1) := by decide +kernel
theorem dX2_hasFailed_52 : decode cX2_hasFailed 52 = .ok (.ireturn, 1) := by decide +kernel
theorem dX2_apart_0 : decode cX2_apart 0 = .ok (.iload_n 1, 1) := by decide +kernel
theorem dX2_apart_1 : decode cX2_apart 1 = .ok (.istore_n 2, 1) := by decide +kernel
theorem dX2_apart_2 : decode cX2_apart 2 = .ok (.iconst 0, 1) := by decide +kernel
theorem dX2_apart_3 : decode cX2_apart 3 = .ok (.istore_n 3, 1) := by decide +kernel
theorem dX2_apart_4 : decode cX2_apart 4 = .ok (.iconst 0, 1) := by decide +kernel
theorem dX2_apart_5 : decode cX2_apart 5 = .ok (.istore 4, 2) := by decide +kernel
theorem dX2_apart_7 : decode cX2_apart 7 = .ok (.iload 4, 2) := by decide +kernel
theorem dX2_apart_9 : decode cX2_apart 9 = .ok (.bipush 24, 2) := by decide +kernel
theorem dX2_apart_11 : decode cX2_apart 11 = .ok (.if_icmp .ge 40, 3) := by decide +kernel
theorem dX2_apart_14 : decode cX2_apart 14 = .ok (.iload_n 2, 1) := by decide +kernel
theorem dX2_apart_15 : decode cX2_apart 15 = .ok (.ifCond .eq 36, 3) := by decide +kernel
theorem dX2_apart_18 : decode cX2_apart 18 = .ok (.aload_n 0, 1) := by decide +kernel
theorem dX2_apart_19 : decode cX2_apart 19 = .ok (.iload_n 2, 1) := by decide +kernel
theorem dX2_apart_20 : decode cX2_apart 20 = .ok (.invokevirtual 79, 3) := by decide +kernel
theorem dX2_apart_23 : decode cX2_apart 23 = .ok (.istore 5, 2) := by decide +kernel
theorem dX2_apart_25 : decode cX2_apart 25 = .ok (.iload_n 2, 1) := by decide +kernel
theorem dX2_apart_26 : decode cX2_apart 26 = .ok (.aload_n 0, 1) := by decide +kernel
theorem dX2_apart_27 : decode cX2_apart 27 = .ok (.getfield 15, 3) := by decide +kernel
theorem dX2_apart_30 : decode cX2_apart 30 = .ok (.iload 5, 2) := by decide +kernel
theorem dX2_apart_32 : decode cX2_apart 32 = .ok (.iaload, 1) := by decide +kernel
theorem dX2_apart_33 : decode cX2_apart 33 = .ok (.iconst 1, 1) := by decide +kernel
theorem dX2_apart_34 : decode cX2_apart 34 = .ok (.iload 5, 2) := by decide +kernel
theorem dX2_apart_36 : decode cX2_apart 36 = .ok (.ishl, 1) := by decide +kernel
theorem dX2_apart_37 : decode cX2_apart 37 = .ok (.ior, 1) := by decide +kernel
theorem dX2_apart_38 : decode cX2_apart 38 = .ok (.iconst (-1), 1) := by decide +kernel
theorem dX2_apart_39 : decode cX2_apart 39 = .ok (.ixor, 1) := by decide +kernel
theorem dX2_apart_40 : decode cX2_apart 40 = .ok (.iand, 1) := by decide +kernel
theorem dX2_apart_41 : decode cX2_apart 41 = .ok (.istore_n 2, 1) := by decide +kernel
theorem dX2_apart_42 : decode cX2_apart 42 = .ok (.iinc 3 1, 3) := by decide +kernel
theorem dX2_apart_45 : decode cX2_apart 45 = .ok (.iinc 4 1, 3) := by decide +kernel
theorem dX2_apart_48 : decode cX2_apart 48 = .ok (.goto (-41), 3) := by decide +kernel
theorem dX2_apart_51 : decode cX2_apart 51 = .ok (.iload_n 3, 1) := by decide +kernel
theorem dX2_apart_52 : decode cX2_apart 52 = .ok (.ireturn, 1) := by decide +kernel
theorem dX2_loneliest_0 : decode cX2_loneliest 0 = .ok (.iconst 0, 1) := by decide +kernel
theorem dX2_loneliest_1 : decode cX2_loneliest 1 = .ok (.istore_n 2, 1) := by decide +kernel
theorem dX2_loneliest_2 : decode cX2_loneliest 2 = .ok (.bipush 25, 2) := by decide +kernel
theorem dX2_loneliest_4 : decode cX2_loneliest 4 = .ok (.istore_n 3, 1) := by decide +kernel
theorem dX2_loneliest_5 : decode cX2_loneliest 5 = .ok (.iconst 0, 1) := by decide +kernel
theorem dX2_loneliest_6 : decode cX2_loneliest 6 = .ok (.istore 4, 2) := by decide +kernel
theorem dX2_loneliest_8 : decode cX2_loneliest 8 = .ok (.iload 4, 2) := by decide +kernel
theorem dX2_loneliest_10 : decode cX2_loneliest 10 = .ok (.aload_n 0, 1) := by decide +kernel
theorem dX2_loneliest_11 : decode cX2_loneliest 11 = .ok (.getfield 32, 3) := by decide +kernel
theorem dX2_loneliest_14 : decode cX2_loneliest 14 = .ok (.if_icmp .ge 44, 3) := by decide +kernel
theorem dX2_loneliest_17 : decode cX2_loneliest 17 = .ok (.iload_n 1, 1) := by decide +kernel
theorem dX2_loneliest_18 : decode cX2_loneliest 18 = .ok (.iload 4, 2) := by decide +kernel
theorem dX2_loneliest_20 : decode cX2_loneliest 20 = .ok (.iushr, 1) := by decide +kernel
theorem dX2_loneliest_21 : decode cX2_loneliest 21 = .ok (.iconst 1, 1) := by decide +kernel
theorem dX2_loneliest_22 : decode cX2_loneliest 22 = .ok (.iand, 1) := by decide +kernel
theorem dX2_loneliest_23 : decode cX2_loneliest 23 = .ok (.ifCond .eq 29, 3) := by decide +kernel
theorem dX2_loneliest_26 : decode cX2_loneliest 26 = .ok (.aload_n 0, 1) := by decide +kernel
theorem dX2_loneliest_27 : decode cX2_loneliest 27 = .ok (.getfield 15, 3) := by decide +kernel
theorem dX2_loneliest_30 : decode cX2_loneliest 30 = .ok (.iload 4, 2) := by decide +kernel
theorem dX2_loneliest_32 : decode cX2_loneliest 32 = .ok (.iaload, 1) := by decide +kernel
theorem dX2_loneliest_33 : decode cX2_loneliest 33 = .ok (.iload_n 1, 1) := by decide +kernel
theorem dX2_loneliest_34 : decode cX2_loneliest 34 = .ok (.iand, 1) := by decide +kernel
theorem dX2_loneliest_35 : decode cX2_loneliest 35 = .ok (.invokestatic 67, 3) := by decide +kernel
theorem dX2_loneliest_38 : decode cX2_loneliest 38 = .ok (.istore 5, 2) := by decide +kernel
theorem dX2_loneliest_40 : decode cX2_loneliest 40 = .ok (.iload 5, 2) := by decide +kernel
theorem dX2_loneliest_42 : decode cX2_loneliest 42 = .ok (.iload_n 3, 1) := by decide +kernel
theorem dX2_loneliest_43 : decode cX2_loneliest 43 = .ok (.if_icmp .ge 9, 3) := by decide +kernel
theorem dX2_loneliest_46 : decode cX2_loneliest 46 = .ok (.iload 5, 2) := by decide +kernel
theorem dX2_loneliest_48 : decode cX2_loneliest 48 = .ok (.istore_n 3, 1) := by decide +kernel
theorem dX2_loneliest_49 : decode cX2_loneliest 49 = .ok (.iload 4, 2) := by decide +kernel
theorem dX2_loneliest_51 : decode cX2_loneliest 51 = .ok (.istore_n 2, 1) := by decide +kernel
theorem dX2_loneliest_52 : decode cX2_loneliest 52 = .ok (.iinc 4 1, 3) := by decide +kernel
theorem dX2_loneliest_55 : decode cX2_loneliest 55 = .ok (.goto (-47), 3) := by decide +kernel
theorem dX2_loneliest_58 : decode cX2_loneliest 58 = .ok (.iload_n 2, 1) := by decide +kernel
theorem dX2_loneliest_59 : decode cX2_loneliest 59 = .ok (.ireturn, 1) := by decide +kernel
theorem dX2_mostOpen_0 : decode cX2_mostOpen 0 = .ok (.iconst 0, 1) := by decide +kernel
theorem dX2_mostOpen_1 : decode cX2_mostOpen 1 = .ok (.istore_n 3, 1) := by decide +kernel
theorem dX2_mostOpen_2 : decode cX2_mostOpen 2 = .ok (.iconst (-1), 1) := by decide +kernel
theorem dX2_mostOpen_3 : decode cX2_mostOpen 3 = .ok (.istore 4, 2) := by decide +kernel
theorem dX2_mostOpen_5 : decode cX2_mostOpen 5 = .ok (.iconst 0, 1) := by decide +kernel
theorem dX2_mostOpen_6 : decode cX2_mostOpen 6 = .ok (.istore 5, 2) := by decide +kernel
theorem dX2_mostOpen_8 : decode cX2_mostOpen 8 = .ok (.iload 5, 2) := by decide +kernel
theorem dX2_mostOpen_10 : decode cX2_mostOpen 10 = .ok (.aload_n 0, 1) := by decide +kernel
theorem dX2_mostOpen_11 : decode cX2_mostOpen 11 = .ok (.getfield 32, 3) := by decide +kernel
theorem dX2_mostOpen_14 : decode cX2_mostOpen 14 = .ok (.if_icmp .ge 46, 3) := by decide +kernel
theorem dX2_mostOpen_17 : decode cX2_mostOpen 17 = .ok (.iload_n 1, 1) := by decide +kernel
theorem dX2_mostOpen_18 : decode cX2_mostOpen 18 = .ok (.iload 5, 2) := by decide +kernel
theorem dX2_mostOpen_20 : decode cX2_mostOpen 20 = .ok (.iushr, 1) := by decide +kernel
theorem dX2_mostOpen_21 : decode cX2_mostOpen 21 = .ok (.iconst 1, 1) := by decide +kernel
theorem dX2_mostOpen_22 : decode cX2_mostOpen 22 = .ok (.iand, 1) := by decide +kernel
theorem dX2_mostOpen_23 : decode cX2_mostOpen 23 = .ok (.ifCond .eq 31, 3) := by decide +kernel
theorem dX2_mostOpen_26 : decode cX2_mostOpen 26 = .ok (.aload_n 0, 1) := by decide +kernel
theorem dX2_mostOpen_27 : decode cX2_mostOpen 27 = .ok (.getfield 15, 3) := by decide +kernel
theorem dX2_mostOpen_30 : decode cX2_mostOpen 30 = .ok (.iload 5, 2) := by decide +kernel
theorem dX2_mostOpen_32 : decode cX2_mostOpen 32 = .ok (.iaload, 1) := by decide +kernel
theorem dX2_mostOpen_33 : decode cX2_mostOpen 33 = .ok (.iload_n 2, 1) := by decide +kernel
theorem dX2_mostOpen_34 : decode cX2_mostOpen 34 = .ok (.iand, 1) := by decide +kernel
theorem dX2_mostOpen_35 : decode cX2_mostOpen 35 = .ok (.invokestatic 67, 3) := by decide +kernel
theorem dX2_mostOpen_38 : decode cX2_mostOpen 38 = .ok (.istore 6, 2) := by decide +kernel
theorem dX2_mostOpen_40 : decode cX2_mostOpen 40 = .ok (.iload 6, 2) := by decide +kernel
theorem dX2_mostOpen_42 : decode cX2_mostOpen 42 = .ok (.iload 4, 2) := by decide +kernel
theorem dX2_mostOpen_44 : decode cX2_mostOpen 44 = .ok (.if_icmp .le 10, 3) := by decide +kernel
theorem dX2_mostOpen_47 : decode cX2_mostOpen 47 = .ok (.iload 6, 2) := by decide +kernel
theorem dX2_mostOpen_49 : decode cX2_mostOpen 49 = .ok (.istore 4, 2) := by decide +kernel
theorem dX2_mostOpen_51 : decode cX2_mostOpen 51 = .ok (.iload 5, 2) := by decide +kernel
theorem dX2_mostOpen_53 : decode cX2_mostOpen 53 = .ok (.istore_n 3, 1) := by decide +kernel
theorem dX2_mostOpen_54 : decode cX2_mostOpen 54 = .ok (.iinc 5 1, 3) := by decide +kernel
theorem dX2_mostOpen_57 : decode cX2_mostOpen 57 = .ok (.goto (-49), 3) := by decide +kernel
theorem dX2_mostOpen_60 : decode cX2_mostOpen 60 = .ok (.iload_n 3, 1) := by decide +kernel
theorem dX2_mostOpen_61 : decode cX2_mostOpen 61 = .ok (.ireturn, 1) := by decide +kernel
theorem dX3_init_0 : decode cX3_init 0 = .ok (.aload_n 0, 1) := by decide +kernel
theorem dX3_init_1 : decode cX3_init 1 = .ok (.invokespecial 3, 3) := by decide +kernel
theorem dX3_init_4 : decode cX3_init 4 = .ok (.aload_n 0, 1) := by decide +kernel
theorem dX3_init_5 : decode cX3_init 5 = .ok (.iconst 0, 1) := by decide +kernel
theorem dX3_init_6 : decode cX3_init 6 = .ok (.putfield 9, 3) := by decide +kernel
theorem dX3_init_9 : decode cX3_init 9 = .ok (.aload_n 0, 1) := by decide +kernel
theorem dX3_init_10 : decode cX3_init 10 = .ok (.iconst 1, 1) := by decide +kernel
theorem dX3_init_11 : decode cX3_init 11 = .ok (.putfield 15, 3) := by decide +kernel
theorem dX3_init_14 : decode cX3_init 14 = .ok (.aload_n 0, 1) := by decide +kernel
theorem dX3_init_15 : decode cX3_init 15 = .ok (.iconst 0, 1) := by decide +kernel
theorem dX3_init_16 : decode cX3_init 16 = .ok (.putfield 18, 3) := by decide +kernel
theorem dX3_init_19 : decode cX3_init 19 = .ok (.aload_n 0, 1) := by decide +kernel
theorem dX3_init_20 : decode cX3_init 20 = .ok (.bipush 24, 2) := by decide +kernel
theorem dX3_init_22 : decode cX3_init 22 = .ok (.newarray .int, 2) := by decide +kernel
theorem dX3_init_24 : decode cX3_init 24 = .ok (.putfield 21, 3) := by decide +kernel
theorem dX3_init_27 : decode cX3_init 27 = .ok (.aload_n 0, 1) := by decide +kernel
theorem dX3_init_28 : decode cX3_init 28 = .ok (.bipush 24, 2) := by decide +kernel
theorem dX3_init_30 : decode cX3_init 30 = .ok (.newarray .int, 2) := by decide +kernel
theorem dX3_init_32 : decode cX3_init 32 = .ok (.putfield 25, 3) := by decide +kernel
theorem dX3_init_35 : decode cX3_init 35 = .ok (.aload_n 0, 1) := by decide +kernel
theorem dX3_init_36 : decode cX3_init 36 = .ok (.bipush 25, 2) := by decide +kernel
theorem dX3_init_38 : decode cX3_init 38 = .ok (.bipush 6, 2) := by decide +kernel
theorem dX3_init_40 : decode cX3_init 40 = .ok (.multianewarray 28 2, 4) := by decide +kernel
theorem dX3_init_44 : decode cX3_init 44 = .ok (.putfield 30, 3) := by decide +kernel
theorem dX3_init_47 : decode cX3_init 47 = .ok (.return_, 1) := by decide +kernel
theorem dX3_renew_0 : decode cX3_renew 0 = .ok (.aload_n 0, 1) := by decide +kernel
theorem dX3_renew_1 : decode cX3_renew 1 = .ok (.iload_n 1, 1) := by decide +kernel
theorem dX3_renew_2 : decode cX3_renew 2 = .ok (.putfield 9, 3) := by decide +kernel
theorem dX3_renew_5 : decode cX3_renew 5 = .ok (.aload_n 0, 1) := by decide +kernel
theorem dX3_renew_6 : decode cX3_renew 6 = .ok (.iload_n 2, 1) := by decide +kernel
theorem dX3_renew_7 : decode cX3_renew 7 = .ok (.putfield 15, 3) := by decide +kernel
theorem dX3_renew_10 : decode cX3_renew 10 = .ok (.aload_n 0, 1) := by decide +kernel
theorem dX3_renew_11 : decode cX3_renew 11 = .ok (.dup, 1) := by decide +kernel
theorem dX3_renew_12 : decode cX3_renew 12 = .ok (.getfield 18, 3) := by decide +kernel
theorem dX3_renew_15 : decode cX3_renew 15 = .ok (.iconst 1, 1) := by decide +kernel
theorem dX3_renew_16 : decode cX3_renew 16 = .ok (.iadd, 1) := by decide +kernel
theorem dX3_renew_17 : decode cX3_renew 17 = .ok (.putfield 18, 3) := by decide +kernel
theorem dX3_renew_20 : decode cX3_renew 20 = .ok (.iconst 0, 1) := by decide +kernel
theorem dX3_renew_21 : decode cX3_renew 21 = .ok (.istore_n 3, 1) := by decide +kernel
theorem dX3_renew_22 : decode cX3_renew 22 = .ok (.iload_n 3, 1) := by decide +kernel
theorem dX3_renew_23 : decode cX3_renew 23 = .ok (.bipush 24, 2) := by decide +kernel
theorem dX3_renew_25 : decode cX3_renew 25 = .ok (.if_icmp .ge 23, 3) := by decide +kernel
theorem dX3_renew_28 : decode cX3_renew 28 = .ok (.aload_n 0, 1) := by decide +kernel
theorem dX3_renew_29 : decode cX3_renew 29 = .ok (.getfield 21, 3) := by decide +kernel
theorem dX3_renew_32 : decode cX3_renew 32 = .ok (.iload_n 3, 1) := by decide +kernel
theorem dX3_renew_33 : decode cX3_renew 33 = .ok (.iconst 0, 1) := by decide +kernel
theorem dX3_renew_34 : decode cX3_renew 34 = .ok (.iastore, 1) := by decide +kernel
theorem dX3_renew_35 : decode cX3_renew 35 = .ok (.aload_n 0, 1) := by decide +kernel
theorem dX3_renew_36 : decode cX3_renew 36 = .ok (.getfield 25, 3) := by decide +kernel
theorem dX3_renew_39 : decode cX3_renew 39 = .ok (.iload_n 3, 1) := by decide +kernel
theorem dX3_renew_40 : decode cX3_renew 40 = .ok (.iconst 0, 1) := by decide +kernel
theorem dX3_renew_41 : decode cX3_renew 41 = .ok (.iastore, 1) := by decide +kernel
theorem dX3_renew_42 : decode cX3_renew 42 = .ok (.iinc 3 1, 3) := by decide +kernel
theorem dX3_renew_45 : decode cX3_renew 45 = .ok (.goto (-23), 3) := by decide +kernel
theorem dX3_renew_48 : decode cX3_renew 48 = .ok (.aload_n 0, 1) := by decide +kernel
theorem dX3_renew_49 : decode cX3_renew 49 = .ok (.invokevirtual 33, 3) := by decide +kernel
theorem dX3_renew_52 : decode cX3_renew 52 = .ok (.return_, 1) := by decide +kernel
theorem dX3_clearRows_0 : decode cX3_clearRows 0 = .ok (.iconst 0, 1) := by decide +kernel
theorem dX3_clearRows_1 : decode cX3_clearRows 1 = .ok (.istore_n 1, 1) := by decide +kernel
theorem dX3_clearRows_2 : decode cX3_clearRows 2 = .ok (.iload_n 1, 1) := by decide +kernel
theorem dX3_clearRows_3 : decode cX3_clearRows 3 = .ok (.bipush 24, 2) := by decide +kernel
theorem dX3_clearRows_5 : decode cX3_clearRows 5 = .ok (.if_icmp .gt 32, 3) := by decide +kernel
theorem dX3_clearRows_8 : decode cX3_clearRows 8 = .ok (.iconst 0, 1) := by decide +kernel
theorem dX3_clearRows_9 : decode cX3_clearRows 9 = .ok (.istore_n 2, 1) := by decide +kernel
theorem dX3_clearRows_10 : decode cX3_clearRows 10 = .ok (.iload_n 2, 1) := by decide +kernel
theorem dX3_clearRows_11 : decode cX3_clearRows 11 = .ok (.bipush 6, 2) := by decide +kernel
theorem dX3_clearRows_13 : decode cX3_clearRows 13 = .ok (.if_icmp .ge 18, 3) := by decide +kernel
theorem dX3_clearRows_16 : decode cX3_clearRows 16 = .ok (.aload_n 0, 1) := by decide +kernel
theorem dX3_clearRows_17 : decode cX3_clearRows 17 = .ok (.getfield 30, 3) := by decide +kernel
theorem dX3_clearRows_20 : decode cX3_clearRows 20 = .ok (.iload_n 1, 1) := by decide +kernel
theorem dX3_clearRows_21 : decode cX3_clearRows 21 = .ok (.aaload, 1) := by decide +kernel
theorem dX3_clearRows_22 : decode cX3_clearRows 22 = .ok (.iload_n 2, 1) := by decide +kernel
theorem dX3_clearRows_23 : decode cX3_clearRows 23 = .ok (.iconst 0, 1) := by decide +kernel
theorem dX3_clearRows_24 : decode cX3_clearRows 24 = .ok (.iastore, 1) := by decide +kernel
theorem dX3_clearRows_25 : decode cX3_clearRows 25 = .ok (.iinc 2 1, 3) := by decide +kernel
theorem dX3_clearRows_28 : decode cX3_clearRows 28 = .ok (.goto (-18), 3) := by decide +kernel
theorem dX3_clearRows_31 : decode cX3_clearRows 31 = .ok (.iinc 1 1, 3) := by decide +kernel
theorem dX3_clearRows_34 : decode cX3_clearRows 34 = .ok (.goto (-32), 3) := by decide +kernel
theorem dX3_clearRows_37 : decode cX3_clearRows 37 = .ok (.return_, 1) := by decide +kernel
theorem dX3_takeNear_0 : decode cX3_takeNear 0 = .ok (.iconst 0, 1) := by decide +kernel
theorem dX3_takeNear_1 : decode cX3_takeNear 1 = .ok (.istore_n 2, 1) := by decide +kernel
theorem dX3_takeNear_2 : decode cX3_takeNear 2 = .ok (.iload_n 2, 1) := by decide +kernel
theorem dX3_takeNear_3 : decode cX3_takeNear 3 = .ok (.aload_n 0, 1) := by decide +kernel
theorem dX3_takeNear_4 : decode cX3_takeNear 4 = .ok (.getfield 15, 3) := by decide +kernel
theorem dX3_takeNear_7 : decode cX3_takeNear 7 = .ok (.if_icmp .ge 18, 3) := by decide +kernel
theorem dX3_takeNear_10 : decode cX3_takeNear 10 = .ok (.aload_n 0, 1) := by decide +kernel
theorem dX3_takeNear_11 : decode cX3_takeNear 11 = .ok (.getfield 21, 3) := by decide +kernel
theorem dX3_takeNear_14 : decode cX3_takeNear 14 = .ok (.iload_n 2, 1) := by decide +kernel
theorem dX3_takeNear_15 : decode cX3_takeNear 15 = .ok (.aload_n 1, 1) := by decide +kernel
theorem dX3_takeNear_16 : decode cX3_takeNear 16 = .ok (.iload_n 2, 1) := by decide +kernel
theorem dX3_takeNear_17 : decode cX3_takeNear 17 = .ok (.iaload, 1) := by decide +kernel
theorem dX3_takeNear_18 : decode cX3_takeNear 18 = .ok (.iastore, 1) := by decide +kernel
theorem dX3_takeNear_19 : decode cX3_takeNear 19 = .ok (.iinc 2 1, 3) := by decide +kernel
theorem dX3_takeNear_22 : decode cX3_takeNear 22 = .ok (.goto (-20), 3) := by decide +kernel
theorem dX3_takeNear_25 : decode cX3_takeNear 25 = .ok (.return_, 1) := by decide +kernel
theorem dX3_takeSigns_0 : decode cX3_takeSigns 0 = .ok (.iconst 0, 1) := by decide +kernel
theorem dX3_takeSigns_1 : decode cX3_takeSigns 1 = .ok (.istore_n 2, 1) := by decide +kernel
theorem dX3_takeSigns_2 : decode cX3_takeSigns 2 = .ok (.iload_n 2, 1) := by decide +kernel
theorem dX3_takeSigns_3 : decode cX3_takeSigns 3 = .ok (.aload_n 0, 1) := by decide +kernel
theorem dX3_takeSigns_4 : decode cX3_takeSigns 4 = .ok (.getfield 15, 3) := by decide +kernel
theorem dX3_takeSigns_7 : decode cX3_takeSigns 7 = .ok (.if_icmp .ge 53, 3) := by decide +kernel
theorem dX3_takeSigns_10 : decode cX3_takeSigns 10 = .ok (.aload_n 0, 1) := by decide +kernel
theorem dX3_takeSigns_11 : decode cX3_takeSigns 11 = .ok (.getfield 25, 3) := by decide +kernel
theorem dX3_takeSigns_14 : decode cX3_takeSigns 14 = .ok (.iload_n 2, 1) := by decide +kernel
theorem dX3_takeSigns_15 : decode cX3_takeSigns 15 = .ok (.aload_n 1, 1) := by decide +kernel
theorem dX3_takeSigns_16 : decode cX3_takeSigns 16 = .ok (.iload_n 2, 1) := by decide +kernel
theorem dX3_takeSigns_17 : decode cX3_takeSigns 17 = .ok (.iaload, 1) := by decide +kernel
theorem dX3_takeSigns_18 : decode cX3_takeSigns 18 = .ok (.iastore, 1) := by decide +kernel
theorem dX3_takeSigns_19 : decode cX3_takeSigns 19 = .ok (.iconst 0, 1) := by decide +kernel
theorem dX3_takeSigns_20 : decode cX3_takeSigns 20 = .ok (.istore_n 3, 1) := by decide +kernel
theorem dX3_takeSigns_21 : decode cX3_takeSigns 21 = .ok (.iload_n 3, 1) := by decide +kernel
theorem dX3_takeSigns_22 : decode cX3_takeSigns 22 = .ok (.iload_n 2, 1) := by decide +kernel
theorem dX3_takeSigns_23 : decode cX3_takeSigns 23 = .ok (.if_icmp .ge 31, 3) := by decide +kernel
theorem dX3_takeSigns_26 : decode cX3_takeSigns 26 = .ok (.aload_n 0, 1) := by decide +kernel
theorem dX3_takeSigns_27 : decode cX3_takeSigns 27 = .ok (.getfield 25, 3) := by decide +kernel
theorem dX3_takeSigns_30 : decode cX3_takeSigns 30 = .ok (.iload_n 2, 1) := by decide +kernel
theorem dX3_takeSigns_31 : decode cX3_takeSigns 31 = .ok (.iaload, 1) := by decide +kernel
theorem dX3_takeSigns_32 : decode cX3_takeSigns 32 = .ok (.aload_n 0, 1) := by decide +kernel
theorem dX3_takeSigns_33 : decode cX3_takeSigns 33 = .ok (.getfield 25, 3) := by decide +kernel
theorem dX3_takeSigns_36 : decode cX3_takeSigns 36 = .ok (.iload_n 3, 1) := by decide +kernel
theorem dX3_takeSigns_37 : decode cX3_takeSigns 37 = .ok (.iaload, 1) := by decide +kernel
theorem dX3_takeSigns_38 : decode cX3_takeSigns 38 = .ok (.iand, 1) := by decide +kernel
theorem dX3_takeSigns_39 : decode cX3_takeSigns 39 = .ok (.ifCond .eq 9, 3) := by decide +kernel
theorem dX3_takeSigns_42 : decode cX3_takeSigns 42 = .ok (.aload_n 0, 1) := by decide +kernel
theorem dX3_takeSigns_43 : decode cX3_takeSigns 43 = .ok (.iload_n 2, 1) := by decide +kernel
theorem dX3_takeSigns_44 : decode cX3_takeSigns 44 = .ok (.iload_n 3, 1) := by decide +kernel
theorem dX3_takeSigns_45 : decode cX3_takeSigns 45 = .ok (.invokevirtual 36, 3) := by decide +kernel
theorem dX3_takeSigns_48 : decode cX3_takeSigns 48 = .ok (.iinc 3 1, 3) := by decide +kernel
theorem dX3_takeSigns_51 : decode cX3_takeSigns 51 = .ok (.goto (-30), 3) := by decide +kernel
theorem dX3_takeSigns_54 : decode cX3_takeSigns 54 = .ok (.iinc 2 1, 3) := by decide +kernel
theorem dX3_takeSigns_57 : decode cX3_takeSigns 57 = .ok (.goto (-55), 3) := by decide +kernel
theorem dX3_takeSigns_60 : decode cX3_takeSigns 60 = .ok (.return_, 1) := by decide +kernel
theorem dX3_has_0 : decode cX3_has 0 = .ok (.iload_n 1, 1) := by decide +kernel
theorem dX3_has_1 : decode cX3_has 1 = .ok (.ifCond .lt 15, 3) := by decide +kernel
theorem dX3_has_4 : decode cX3_has 4 = .ok (.iload_n 1, 1) := by decide +kernel
theorem dX3_has_5 : decode cX3_has 5 = .ok (.aload_n 0, 1) := by decide +kernel
theorem dX3_has_6 : decode cX3_has 6 = .ok (.getfield 15, 3) := by decide +kernel
theorem dX3_has_9 : decode cX3_has 9 = .ok (.if_icmp .ge 7, 3) := by decide +kernel
theorem dX3_has_12 : decode cX3_has 12 = .ok (.iconst 1, 1) := by decide +kernel
theorem dX3_has_13 : decode cX3_has 13 = .ok (.goto 4, 3) := by decide +kernel
theorem dX3_has_16 : decode cX3_has 16 = .ok (.iconst 0, 1) := by decide +kernel
theorem dX3_has_17 : decode cX3_has 17 = .ok (.ireturn, 1) := by decide +kernel
theorem dX3_mistakes_0 : decode cX3_mistakes 0 = .ok (.aload_n 0, 1) := by decide +kernel
theorem dX3_mistakes_1 : decode cX3_mistakes 1 = .ok (.getfield 21, 3) := by decide +kernel
theorem dX3_mistakes_4 : decode cX3_mistakes 4 = .ok (.iload_n 1, 1) := by decide +kernel
theorem dX3_mistakes_5 : decode cX3_mistakes 5 = .ok (.iaload, 1) := by decide +kernel
theorem dX3_mistakes_6 : decode cX3_mistakes 6 = .ok (.iload_n 2, 1) := by decide +kernel
theorem dX3_mistakes_7 : decode cX3_mistakes 7 = .ok (.iushr, 1) := by decide +kernel
theorem dX3_mistakes_8 : decode cX3_mistakes 8 = .ok (.iconst 1, 1) := by decide +kernel
theorem dX3_mistakes_9 : decode cX3_mistakes 9 = .ok (.iand, 1) := by decide +kernel
theorem dX3_mistakes_10 : decode cX3_mistakes 10 = .ok (.ifCond .eq 7, 3) := by decide +kernel
theorem dX3_mistakes_13 : decode cX3_mistakes 13 = .ok (.iconst 1, 1) := by decide +kernel
theorem dX3_mistakes_14 : decode cX3_mistakes 14 = .ok (.goto 4, 3) := by decide +kernel
theorem dX3_mistakes_17 : decode cX3_mistakes 17 = .ok (.iconst 0, 1) := by decide +kernel
theorem dX3_mistakes_18 : decode cX3_mistakes 18 = .ok (.ireturn, 1) := by decide +kernel
theorem dX3_alike_0 : decode cX3_alike 0 = .ok (.iload_n 1, 1) := by decide +kernel
theorem dX3_alike_1 : decode cX3_alike 1 = .ok (.iload_n 2, 1) := by decide +kernel
theorem dX3_alike_2 : decode cX3_alike 2 = .ok (.if_icmp .eq 12, 3) := by decide +kernel
theorem dX3_alike_5 : decode cX3_alike 5 = .ok (.aload_n 0, 1) := by decide +kernel
theorem dX3_alike_6 : decode cX3_alike 6 = .ok (.iload_n 1, 1) := by decide +kernel
theorem dX3_alike_7 : decode cX3_alike 7 = .ok (.iload_n 2, 1) := by decide +kernel
theorem dX3_alike_8 : decode cX3_alike 8 = .ok (.invokevirtual 40, 3) := by decide +kernel
theorem dX3_alike_11 : decode cX3_alike 11 = .ok (.ifCond .eq 7, 3) := by decide +kernel
theorem dX3_alike_14 : decode cX3_alike 14 = .ok (.iconst 1, 1) := by decide +kernel
theorem dX3_alike_15 : decode cX3_alike 15 = .ok (.goto 4, 3) := by decide +kernel
theorem dX3_alike_18 : decode cX3_alike 18 = .ok (.iconst 0, 1) := by decide +kernel
theorem dX3_alike_19 : decode cX3_alike 19 = .ok (.ireturn, 1) := by decide +kernel
theorem dX3_flip_0 : decode cX3_flip 0 = .ok (.aload_n 0, 1) := by decide +kernel
theorem dX3_flip_1 : decode cX3_flip 1 = .ok (.getfield 21, 3) := by decide +kernel
theorem dX3_flip_4 : decode cX3_flip 4 = .ok (.iload_n 1, 1) := by decide +kernel
theorem dX3_flip_5 : decode cX3_flip 5 = .ok (.dup2, 1) := by decide +kernel
theorem dX3_flip_6 : decode cX3_flip 6 = .ok (.iaload, 1) := by decide +kernel
theorem dX3_flip_7 : decode cX3_flip 7 = .ok (.iconst 1, 1) := by decide +kernel
theorem dX3_flip_8 : decode cX3_flip 8 = .ok (.iload_n 2, 1) := by decide +kernel
theorem dX3_flip_9 : decode cX3_flip 9 = .ok (.ishl, 1) := by decide +kernel
theorem dX3_flip_10 : decode cX3_flip 10 = .ok (.ixor, 1) := by decide +kernel
theorem dX3_flip_11 : decode cX3_flip 11 = .ok (.iastore, 1) := by decide +kernel
theorem dX3_flip_12 : decode cX3_flip 12 = .ok (.aload_n 0, 1) := by decide +kernel
theorem dX3_flip_13 : decode cX3_flip 13 = .ok (.getfield 21, 3) := by decide +kernel
theorem dX3_flip_16 : decode cX3_flip 16 = .ok (.iload_n 2, 1) := by decide +kernel
theorem dX3_flip_17 : decode cX3_flip 17 = .ok (.dup2, 1) := by decide +kernel
theorem dX3_flip_18 : decode cX3_flip 18 = .ok (.iaload, 1) := by decide +kernel
theorem dX3_flip_19 : decode cX3_flip 19 = .ok (.iconst 1, 1) := by decide +kernel
theorem dX3_flip_20 : decode cX3_flip 20 = .ok (.iload_n 1, 1) := by decide +kernel
theorem dX3_flip_21 : decode cX3_flip 21 = .ok (.ishl, 1) := by decide +kernel
theorem dX3_flip_22 : decode cX3_flip 22 = .ok (.ixor, 1) := by decide +kernel
theorem dX3_flip_23 : decode cX3_flip 23 = .ok (.iastore, 1) := by decide +kernel
theorem dX3_flip_24 : decode cX3_flip 24 = .ok (.return_, 1) := by decide +kernel
theorem dX3_pairs_0 : decode cX3_pairs 0 = .ok (.iconst 0, 1) := by decide +kernel
theorem dX3_pairs_1 : decode cX3_pairs 1 = .ok (.istore_n 1, 1) := by decide +kernel
theorem dX3_pairs_2 : decode cX3_pairs 2 = .ok (.iconst 0, 1) := by decide +kernel
theorem dX3_pairs_3 : decode cX3_pairs 3 = .ok (.istore_n 2, 1) := by decide +kernel
theorem dX3_pairs_4 : decode cX3_pairs 4 = .ok (.iload_n 2, 1) := by decide +kernel
theorem dX3_pairs_5 : decode cX3_pairs 5 = .ok (.aload_n 0, 1) := by decide +kernel
theorem dX3_pairs_6 : decode cX3_pairs 6 = .ok (.getfield 15, 3) := by decide +kernel
theorem dX3_pairs_9 : decode cX3_pairs 9 = .ok (.if_icmp .ge 21, 3) := by decide +kernel
theorem dX3_pairs_12 : decode cX3_pairs 12 = .ok (.iload_n 1, 1) := by decide +kernel
theorem dX3_pairs_13 : decode cX3_pairs 13 = .ok (.aload_n 0, 1) := by decide +kernel
theorem dX3_pairs_14 : decode cX3_pairs 14 = .ok (.getfield 21, 3) := by decide +kernel
theorem dX3_pairs_17 : decode cX3_pairs 17 = .ok (.iload_n 2, 1) := by decide +kernel
theorem dX3_pairs_18 : decode cX3_pairs 18 = .ok (.iaload, 1) := by decide +kernel
theorem dX3_pairs_19 : decode cX3_pairs 19 = .ok (.invokestatic 44, 3) := by decide +kernel
theorem dX3_pairs_22 : decode cX3_pairs 22 = .ok (.iadd, 1) := by decide +kernel
theorem dX3_pairs_23 : decode cX3_pairs 23 = .ok (.istore_n 1, 1) := by decide +kernel
theorem dX3_pairs_24 : decode cX3_pairs 24 = .ok (.iinc 2 1, 3) := by decide +kernel
theorem dX3_pairs_27 : decode cX3_pairs 27 = .ok (.goto (-23), 3) := by decide +kernel
theorem dX3_pairs_30 : decode cX3_pairs 30 = .ok (.iload_n 1, 1) := by decide +kernel
theorem dX3_pairs_31 : decode cX3_pairs 31 = .ok (.iconst 2, 1) := by decide +kernel
theorem dX3_pairs_32 : decode cX3_pairs 32 = .ok (.idiv, 1) := by decide +kernel
theorem dX3_pairs_33 : decode cX3_pairs 33 = .ok (.ireturn, 1) := by decide +kernel
theorem dX3_signsInAll_0 : decode cX3_signsInAll 0 = .ok (.iconst 0, 1) := by decide +kernel
theorem dX3_signsInAll_1 : decode cX3_signsInAll 1 = .ok (.istore_n 1, 1) := by decide +kernel
theorem dX3_signsInAll_2 : decode cX3_signsInAll 2 = .ok (.iconst 0, 1) := by decide +kernel
theorem dX3_signsInAll_3 : decode cX3_signsInAll 3 = .ok (.istore_n 2, 1) := by decide +kernel
theorem dX3_signsInAll_4 : decode cX3_signsInAll 4 = .ok (.iload_n 2, 1) := by decide +kernel
theorem dX3_signsInAll_5 : decode cX3_signsInAll 5 = .ok (.aload_n 0, 1) := by decide +kernel
theorem dX3_signsInAll_6 : decode cX3_signsInAll 6 = .ok (.getfield 15, 3) := by decide +kernel
theorem dX3_signsInAll_9 : decode cX3_signsInAll 9 = .ok (.if_icmp .ge 18, 3) := by decide +kernel
theorem dX3_signsInAll_12 : decode cX3_signsInAll 12 = .ok (.iload_n 1, 1) := by decide +kernel
theorem dX3_signsInAll_13 : decode cX3_signsInAll 13 = .ok (.aload_n 0, 1) := by decide +kernel
theorem dX3_signsInAll_14 : decode cX3_signsInAll 14 = .ok (.getfield 25, 3) := by decide +kernel
theorem dX3_signsInAll_17 : decode cX3_signsInAll 17 = .ok (.iload_n 2, 1) := by decide +kernel
theorem dX3_signsInAll_18 : decode cX3_signsInAll 18 = .ok (.iaload, 1) := by decide +kernel
theorem dX3_signsInAll_19 : decode cX3_signsInAll 19 = .ok (.ior, 1) := by decide +kernel
theorem dX3_signsInAll_20 : decode cX3_signsInAll 20 = .ok (.istore_n 1, 1) := by decide +kernel
theorem dX3_signsInAll_21 : decode cX3_signsInAll 21 = .ok (.iinc 2 1, 3) := by decide +kernel
theorem dX3_signsInAll_24 : decode cX3_signsInAll 24 = .ok (.goto (-20), 3) := by decide +kernel
theorem dX3_signsInAll_27 : decode cX3_signsInAll 27 = .ok (.iload_n 1, 1) := by decide +kernel
theorem dX3_signsInAll_28 : decode cX3_signsInAll 28 = .ok (.invokestatic 44, 3) := by decide +kernel
theorem dX3_signsInAll_31 : decode cX3_signsInAll 31 = .ok (.ireturn, 1) := by decide +kernel
theorem dX4_init_0 : decode cX4_init 0 = .ok (.aload_n 0, 1) := by decide +kernel
theorem dX4_init_1 : decode cX4_init 1 = .ok (.invokespecial 5, 3) := by decide +kernel
theorem dX4_init_4 : decode cX4_init 4 = .ok (.aload_n 0, 1) := by decide +kernel
theorem dX4_init_5 : decode cX4_init 5 = .ok (.bipush 16, 2) := by decide +kernel
theorem dX4_init_7 : decode cX4_init 7 = .ok (.newarray .long, 2) := by decide +kernel
theorem dX4_init_9 : decode cX4_init 9 = .ok (.putfield 11, 3) := by decide +kernel
theorem dX4_init_12 : decode cX4_init 12 = .ok (.aload_n 0, 1) := by decide +kernel
theorem dX4_init_13 : decode cX4_init 13 = .ok (.bipush 16, 2) := by decide +kernel
theorem dX4_init_15 : decode cX4_init 15 = .ok (.newarray .long, 2) := by decide +kernel
theorem dX4_init_17 : decode cX4_init 17 = .ok (.putfield 15, 3) := by decide +kernel
theorem dX4_init_20 : decode cX4_init 20 = .ok (.aload_n 0, 1) := by decide +kernel
theorem dX4_init_21 : decode cX4_init 21 = .ok (.bipush 17, 2) := by decide +kernel
theorem dX4_init_23 : decode cX4_init 23 = .ok (.newarray .int, 2) := by decide +kernel
theorem dX4_init_25 : decode cX4_init 25 = .ok (.putfield 18, 3) := by decide +kernel
theorem dX4_init_28 : decode cX4_init 28 = .ok (.return_, 1) := by decide +kernel
theorem dX4_leastGreatest_0 : decode cX4_leastGreatest 0 = .ok (.aload_n 1, 1) := by decide +kernel
theorem dX4_leastGreatest_1 : decode cX4_leastGreatest 1 = .ok (.getfield 22, 3) := by decide +kernel
theorem dX4_leastGreatest_4 : decode cX4_leastGreatest 4 = .ok (.bipush 16, 2) := by decide +kernel
theorem dX4_leastGreatest_6 : decode cX4_leastGreatest 6 = .ok (.invokestatic 28, 3) := by decide +kernel
theorem dX4_leastGreatest_9 : decode cX4_leastGreatest 9 = .ok (.istore_n 3, 1) := by decide +kernel
theorem dX4_leastGreatest_10 : decode cX4_leastGreatest 10 = .ok (.iload_n 2, 1) := by decide +kernel
theorem dX4_leastGreatest_11 : decode cX4_leastGreatest 11 = .ok (.iload_n 3, 1) := by decide +kernel
theorem dX4_leastGreatest_12 : decode cX4_leastGreatest 12 = .ok (.if_icmp .lt 9, 3) := by decide +kernel
theorem dX4_leastGreatest_15 : decode cX4_leastGreatest 15 = .ok (.iconst 1, 1) := by decide +kernel
theorem dX4_leastGreatest_16 : decode cX4_leastGreatest 16 = .ok (.iload_n 3, 1) := by decide +kernel
theorem dX4_leastGreatest_17 : decode cX4_leastGreatest 17 = .ok (.ishl, 1) := by decide +kernel
theorem dX4_leastGreatest_18 : decode cX4_leastGreatest 18 = .ok (.iconst 1, 1) := by decide +kernel
theorem dX4_leastGreatest_19 : decode cX4_leastGreatest 19 = .ok (.isub, 1) := by decide +kernel
theorem dX4_leastGreatest_20 : decode cX4_leastGreatest 20 = .ok (.ireturn, 1) := by decide +kernel
theorem dX4_leastGreatest_21 : decode cX4_leastGreatest 21 = .ok (.ldc2_w 34, 3) := by decide +kernel
theorem dX4_leastGreatest_24 : decode cX4_leastGreatest 24 = .ok (.bipush 15, 2) := by decide +kernel
theorem dX4_leastGreatest_26 : decode cX4_leastGreatest 26 = .ok (.iload_n 2, 1) := by decide +kernel
theorem dX4_leastGreatest_27 : decode cX4_leastGreatest 27 = .ok (.isub, 1) := by decide +kernel
theorem dX4_leastGreatest_28 : decode cX4_leastGreatest 28 = .ok (.i2l, 1) := by decide +kernel
theorem dX4_leastGreatest_29 : decode cX4_leastGreatest 29 = .ok (.lmul, 1) := by decide +kernel
theorem dX4_leastGreatest_30 : decode cX4_leastGreatest 30 = .ok (.lstore 4, 2) := by decide +kernel
theorem dX4_leastGreatest_32 : decode cX4_leastGreatest 32 = .ok (.aload_n 0, 1) := by decide +kernel
theorem dX4_leastGreatest_33 : decode cX4_leastGreatest 33 = .ok (.getfield 18, 3) := by decide +kernel
theorem dX4_leastGreatest_36 : decode cX4_leastGreatest 36 = .ok (.iconst 0, 1) := by decide +kernel
theorem dX4_leastGreatest_37 : decode cX4_leastGreatest 37 = .ok (.iconst 0, 1) := by decide +kernel
theorem dX4_leastGreatest_38 : decode cX4_leastGreatest 38 = .ok (.iastore, 1) := by decide +kernel
theorem dX4_leastGreatest_39 : decode cX4_leastGreatest 39 = .ok (.iconst 0, 1) := by decide +kernel
theorem dX4_leastGreatest_40 : decode cX4_leastGreatest 40 = .ok (.istore 6, 2) := by decide +kernel
theorem dX4_leastGreatest_42 : decode cX4_leastGreatest 42 = .ok (.iload 6, 2) := by decide +kernel
theorem dX4_leastGreatest_44 : decode cX4_leastGreatest 44 = .ok (.iload_n 3, 1) := by decide +kernel
theorem dX4_leastGreatest_45 : decode cX4_leastGreatest 45 = .ok (.if_icmp .ge 122, 3) := by decide +kernel
theorem dX4_leastGreatest_48 : decode cX4_leastGreatest 48 = .ok (.aload_n 0, 1) := by decide +kernel
theorem dX4_leastGreatest_49 : decode cX4_leastGreatest 49 = .ok (.getfield 11, 3) := by decide +kernel
theorem dX4_leastGreatest_52 : decode cX4_leastGreatest 52 = .ok (.iload 6, 2) := by decide +kernel
theorem dX4_leastGreatest_54 : decode cX4_leastGreatest 54 = .ok (.aload_n 1, 1) := by decide +kernel
theorem dX4_leastGreatest_55 : decode cX4_leastGreatest 55 = .ok (.getfield 36, 3) := by decide +kernel
theorem dX4_leastGreatest_58 : decode cX4_leastGreatest 58 = .ok (.iload 6, 2) := by decide +kernel
theorem dX4_leastGreatest_60 : decode cX4_leastGreatest 60 = .ok (.iaload, 1) := by decide +kernel
theorem dX4_leastGreatest_61 : decode cX4_leastGreatest 61 = .ok (.invokestatic 39, 3) := by decide +kernel
theorem dX4_leastGreatest_64 : decode cX4_leastGreatest 64 = .ok (.lastore, 1) := by decide +kernel
theorem dX4_leastGreatest_65 : decode cX4_leastGreatest 65 = .ok (.aload_n 0, 1) := by decide +kernel
theorem dX4_leastGreatest_66 : decode cX4_leastGreatest 66 = .ok (.getfield 15, 3) := by decide +kernel
theorem dX4_leastGreatest_69 : decode cX4_leastGreatest 69 = .ok (.iload 6, 2) := by decide +kernel
theorem dX4_leastGreatest_71 : decode cX4_leastGreatest 71 = .ok (.aload_n 1, 1) := by decide +kernel
theorem dX4_leastGreatest_72 : decode cX4_leastGreatest 72 = .ok (.getfield 36, 3) := by decide +kernel
theorem dX4_leastGreatest_75 : decode cX4_leastGreatest 75 = .ok (.iload 6, 2) := by decide +kernel
theorem dX4_leastGreatest_77 : decode cX4_leastGreatest 77 = .ok (.iaload, 1) := by decide +kernel
theorem dX4_leastGreatest_78 : decode cX4_leastGreatest 78 = .ok (.bipush 12, 2) := by decide +kernel
theorem dX4_leastGreatest_80 : decode cX4_leastGreatest 80 = .ok (.iushr, 1) := by decide +kernel
theorem dX4_leastGreatest_81 : decode cX4_leastGreatest 81 = .ok (.invokestatic 39, 3) := by decide +kernel
theorem dX4_leastGreatest_84 : decode cX4_leastGreatest 84 = .ok (.lastore, 1) := by decide +kernel
theorem dX4_leastGreatest_85 : decode cX4_leastGreatest 85 = .ok (.aload_n 0, 1) := by decide +kernel
theorem dX4_leastGreatest_86 : decode cX4_leastGreatest 86 = .ok (.iload 6, 2) := by decide +kernel
theorem dX4_leastGreatest_88 : decode cX4_leastGreatest 88 = .ok (.lload 4, 2) := by decide +kernel
theorem dX4_leastGreatest_90 : decode cX4_leastGreatest 90 = .ok (.aload_n 0, 1) := by decide +kernel
theorem dX4_leastGreatest_91 : decode cX4_leastGreatest 91 = .ok (.getfield 11, 3) := by decide +kernel
theorem dX4_leastGreatest_94 : decode cX4_leastGreatest 94 = .ok (.iload 6, 2) := by decide +kernel
theorem dX4_leastGreatest_96 : decode cX4_leastGreatest 96 = .ok (.laload, 1) := by decide +kernel
theorem dX4_leastGreatest_97 : decode cX4_leastGreatest 97 = .ok (.ladd, 1) := by decide +kernel
theorem dX4_leastGreatest_98 : decode cX4_leastGreatest 98 = .ok (.lload 4, 2) := by decide +kernel
theorem dX4_leastGreatest_100 : decode cX4_leastGreatest 100 = .ok (.aload_n 0, 1) := by decide +kernel
theorem dX4_leastGreatest_101 : decode cX4_leastGreatest 101 = .ok (.getfield 15, 3) := by decide +kernel
theorem dX4_leastGreatest_104 : decode cX4_leastGreatest 104 = .ok (.iload 6, 2) := by decide +kernel
theorem dX4_leastGreatest_106 : decode cX4_leastGreatest 106 = .ok (.laload, 1) := by decide +kernel
theorem dX4_leastGreatest_107 : decode cX4_leastGreatest 107 = .ok (.ladd, 1) := by decide +kernel
theorem dX4_leastGreatest_108 : decode cX4_leastGreatest 108 = .ok (.aload_n 0, 1) := by decide +kernel
theorem dX4_leastGreatest_109 : decode cX4_leastGreatest 109 = .ok (.getfield 18, 3) := by decide +kernel
theorem dX4_leastGreatest_112 : decode cX4_leastGreatest 112 = .ok (.iload 6, 2) := by decide +kernel
theorem dX4_leastGreatest_114 : decode cX4_leastGreatest 114 = .ok (.iaload, 1) := by decide +kernel
theorem dX4_leastGreatest_115 : decode cX4_leastGreatest 115 = .ok (.invokevirtual 43, 3) := by decide +kernel
theorem dX4_leastGreatest_118 : decode cX4_leastGreatest 118 = .ok (.ifCond .lt 7, 3) := by decide +kernel
theorem dX4_leastGreatest_121 : decode cX4_leastGreatest 121 = .ok (.iconst 1, 1) := by decide +kernel
theorem dX4_leastGreatest_122 : decode cX4_leastGreatest 122 = .ok (.goto 4, 3) := by decide +kernel
theorem dX4_leastGreatest_125 : decode cX4_leastGreatest 125 = .ok (.iconst 0, 1) := by decide +kernel
theorem dX4_leastGreatest_126 : decode cX4_leastGreatest 126 = .ok (.istore 7, 2) := by decide +kernel
theorem dX4_leastGreatest_128 : decode cX4_leastGreatest 128 = .ok (.aload_n 0, 1) := by decide +kernel
theorem dX4_leastGreatest_129 : decode cX4_leastGreatest 129 = .ok (.getfield 18, 3) := by decide +kernel
theorem dX4_leastGreatest_132 : decode cX4_leastGreatest 132 = .ok (.iload 6, 2) := by decide +kernel
theorem dX4_leastGreatest_134 : decode cX4_leastGreatest 134 = .ok (.iconst 1, 1) := by decide +kernel
theorem dX4_leastGreatest_135 : decode cX4_leastGreatest 135 = .ok (.iadd, 1) := by decide +kernel
theorem dX4_leastGreatest_136 : decode cX4_leastGreatest 136 = .ok (.iload 7, 2) := by decide +kernel
theorem dX4_leastGreatest_138 : decode cX4_leastGreatest 138 = .ok (.ifCond .eq 15, 3) := by decide +kernel
theorem dX4_leastGreatest_141 : decode cX4_leastGreatest 141 = .ok (.aload_n 0, 1) := by decide +kernel
theorem dX4_leastGreatest_142 : decode cX4_leastGreatest 142 = .ok (.getfield 18, 3) := by decide +kernel
theorem dX4_leastGreatest_145 : decode cX4_leastGreatest 145 = .ok (.iload 6, 2) := by decide +kernel
theorem dX4_leastGreatest_147 : decode cX4_leastGreatest 147 = .ok (.iaload, 1) := by decide +kernel
theorem dX4_leastGreatest_148 : decode cX4_leastGreatest 148 = .ok (.iconst 1, 1) := by decide +kernel
theorem dX4_leastGreatest_149 : decode cX4_leastGreatest 149 = .ok (.iadd, 1) := by decide +kernel
theorem dX4_leastGreatest_150 : decode cX4_leastGreatest 150 = .ok (.goto 10, 3) := by decide +kernel
theorem dX4_leastGreatest_153 : decode cX4_leastGreatest 153 = .ok (.aload_n 0, 1) := by decide +kernel
theorem dX4_leastGreatest_154 : decode cX4_leastGreatest 154 = .ok (.getfield 18, 3) := by decide +kernel
theorem dX4_leastGreatest_157 : decode cX4_leastGreatest 157 = .ok (.iload 6, 2) := by decide +kernel
theorem dX4_leastGreatest_159 : decode cX4_leastGreatest 159 = .ok (.iaload, 1) := by decide +kernel
theorem dX4_leastGreatest_160 : decode cX4_leastGreatest 160 = .ok (.iastore, 1) := by decide +kernel
theorem dX4_leastGreatest_161 : decode cX4_leastGreatest 161 = .ok (.iinc 6 1, 3) := by decide +kernel
theorem dX4_leastGreatest_164 : decode cX4_leastGreatest 164 = .ok (.goto (-122), 3) := by decide +kernel
theorem dX4_leastGreatest_167 : decode cX4_leastGreatest 167 = .ok (.aload_n 0, 1) := by decide +kernel
theorem dX4_leastGreatest_168 : decode cX4_leastGreatest 168 = .ok (.iload_n 3, 1) := by decide +kernel
theorem dX4_leastGreatest_169 : decode cX4_leastGreatest 169 = .ok (.lload 4, 2) := by decide +kernel
theorem dX4_leastGreatest_171 : decode cX4_leastGreatest 171 = .ok (.lload 4, 2) := by decide +kernel
theorem dX4_leastGreatest_173 : decode cX4_leastGreatest 173 = .ok (.aload_n 0, 1) := by decide +kernel
theorem dX4_leastGreatest_174 : decode cX4_leastGreatest 174 = .ok (.getfield 18, 3) := by decide +kernel
theorem dX4_leastGreatest_177 : decode cX4_leastGreatest 177 = .ok (.iload_n 3, 1) := by decide +kernel
theorem dX4_leastGreatest_178 : decode cX4_leastGreatest 178 = .ok (.iaload, 1) := by decide +kernel
theorem dX4_leastGreatest_179 : decode cX4_leastGreatest 179 = .ok (.invokevirtual 43, 3) := by decide +kernel
theorem dX4_leastGreatest_182 : decode cX4_leastGreatest 182 = .ok (.ireturn, 1) := by decide +kernel
theorem dX4_spread_0 : decode cX4_spread 0 = .ok (.lconst 0, 1) := by decide +kernel
theorem dX4_spread_1 : decode cX4_spread 1 = .ok (.lstore_n 1, 1) := by decide +kernel
theorem dX4_spread_2 : decode cX4_spread 2 = .ok (.iconst 0, 1) := by decide +kernel
theorem dX4_spread_3 : decode cX4_spread 3 = .ok (.istore_n 3, 1) := by decide +kernel
theorem dX4_spread_4 : decode cX4_spread 4 = .ok (.iload_n 3, 1) := by decide +kernel
theorem dX4_spread_5 : decode cX4_spread 5 = .ok (.bipush 12, 2) := by decide +kernel
theorem dX4_spread_7 : decode cX4_spread 7 = .ok (.if_icmp .ge 22, 3) := by decide +kernel
theorem dX4_spread_10 : decode cX4_spread 10 = .ok (.lload_n 1, 1) := by decide +kernel
theorem dX4_spread_11 : decode cX4_spread 11 = .ok (.iload_n 0, 1) := by decide +kernel
theorem dX4_spread_12 : decode cX4_spread 12 = .ok (.iload_n 3, 1) := by decide +kernel
theorem dX4_spread_13 : decode cX4_spread 13 = .ok (.iushr, 1) := by decide +kernel
theorem dX4_spread_14 : decode cX4_spread 14 = .ok (.iconst 1, 1) := by decide +kernel
theorem dX4_spread_15 : decode cX4_spread 15 = .ok (.iand, 1) := by decide +kernel
theorem dX4_spread_16 : decode cX4_spread 16 = .ok (.i2l, 1) := by decide +kernel
theorem dX4_spread_17 : decode cX4_spread 17 = .ok (.iload_n 3, 1) := by decide +kernel
theorem dX4_spread_18 : decode cX4_spread 18 = .ok (.iconst 5, 1) := by decide +kernel
theorem dX4_spread_19 : decode cX4_spread 19 = .ok (.imul, 1) := by decide +kernel
theorem dX4_spread_20 : decode cX4_spread 20 = .ok (.lshl, 1) := by decide +kernel
theorem dX4_spread_21 : decode cX4_spread 21 = .ok (.lor, 1) := by decide +kernel
theorem dX4_spread_22 : decode cX4_spread 22 = .ok (.lstore_n 1, 1) := by decide +kernel
theorem dX4_spread_23 : decode cX4_spread 23 = .ok (.iinc 3 1, 3) := by decide +kernel
theorem dX4_spread_26 : decode cX4_spread 26 = .ok (.goto (-22), 3) := by decide +kernel
theorem dX4_spread_29 : decode cX4_spread 29 = .ok (.lload_n 1, 1) := by decide +kernel
theorem dX4_spread_30 : decode cX4_spread 30 = .ok (.lreturn, 1) := by decide +kernel
theorem dX4_search_0 : decode cX4_search 0 = .ok (.iload 6, 2) := by decide +kernel
theorem dX4_search_2 : decode cX4_search 2 = .ok (.ifCond .gt 5, 3) := by decide +kernel
theorem dX4_search_5 : decode cX4_search 5 = .ok (.iconst 0, 1) := by decide +kernel
theorem dX4_search_6 : decode cX4_search 6 = .ok (.ireturn, 1) := by decide +kernel
theorem dX4_search_7 : decode cX4_search 7 = .ok (.iload_n 1, 1) := by decide +kernel
theorem dX4_search_8 : decode cX4_search 8 = .ok (.ifCond .le 20, 3) := by decide +kernel
theorem dX4_search_11 : decode cX4_search 11 = .ok (.iload_n 1, 1) := by decide +kernel
theorem dX4_search_12 : decode cX4_search 12 = .ok (.bipush 16, 2) := by decide +kernel
theorem dX4_search_14 : decode cX4_search 14 = .ok (.if_icmp .gt 14, 3) := by decide +kernel
theorem dX4_search_17 : decode cX4_search 17 = .ok (.aload_n 0, 1) := by decide +kernel
theorem dX4_search_18 : decode cX4_search 18 = .ok (.getfield 18, 3) := by decide +kernel
theorem dX4_search_21 : decode cX4_search 21 = .ok (.iload_n 1, 1) := by decide +kernel
theorem dX4_search_22 : decode cX4_search 22 = .ok (.iaload, 1) := by decide +kernel
theorem dX4_search_23 : decode cX4_search 23 = .ok (.iload 6, 2) := by decide +kernel
theorem dX4_search_25 : decode cX4_search 25 = .ok (.if_icmp .ge 5, 3) := by decide +kernel
theorem dX4_search_28 : decode cX4_search 28 = .ok (.iconst (-1), 1) := by decide +kernel
theorem dX4_search_29 : decode cX4_search 29 = .ok (.ireturn, 1) := by decide +kernel
theorem dX4_search_30 : decode cX4_search 30 = .ok (.iload_n 1, 1) := by decide +kernel
theorem dX4_search_31 : decode cX4_search 31 = .ok (.iconst 1, 1) := by decide +kernel
theorem dX4_search_32 : decode cX4_search 32 = .ok (.isub, 1) := by decide +kernel
theorem dX4_search_33 : decode cX4_search 33 = .ok (.istore 7, 2) := by decide +kernel
theorem dX4_search_35 : decode cX4_search 35 = .ok (.aload_n 0, 1) := by decide +kernel
theorem dX4_search_36 : decode cX4_search 36 = .ok (.iload 7, 2) := by decide +kernel
theorem dX4_search_38 : decode cX4_search 38 = .ok (.lload_n 2, 1) := by decide +kernel
theorem dX4_search_39 : decode cX4_search 39 = .ok (.lload 4, 2) := by decide +kernel
theorem dX4_search_41 : decode cX4_search 41 = .ok (.iload 6, 2) := by decide +kernel
theorem dX4_search_43 : decode cX4_search 43 = .ok (.invokevirtual 43, 3) := by decide +kernel
theorem dX4_search_46 : decode cX4_search 46 = .ok (.istore 8, 2) := by decide +kernel
theorem dX4_search_48 : decode cX4_search 48 = .ok (.iload 8, 2) := by decide +kernel
theorem dX4_search_50 : decode cX4_search 50 = .ok (.iconst (-1), 1) := by decide +kernel
theorem dX4_search_51 : decode cX4_search 51 = .ok (.if_icmp .eq 6, 3) := by decide +kernel
theorem dX4_search_54 : decode cX4_search 54 = .ok (.iload 8, 2) := by decide +kernel
theorem dX4_search_56 : decode cX4_search 56 = .ok (.ireturn, 1) := by decide +kernel
theorem dX4_search_57 : decode cX4_search 57 = .ok (.lload_n 2, 1) := by decide +kernel
theorem dX4_search_58 : decode cX4_search 58 = .ok (.aload_n 0, 1) := by decide +kernel
theorem dX4_search_59 : decode cX4_search 59 = .ok (.getfield 11, 3) := by decide +kernel
theorem dX4_search_62 : decode cX4_search 62 = .ok (.iload 7, 2) := by decide +kernel
theorem dX4_search_64 : decode cX4_search 64 = .ok (.laload, 1) := by decide +kernel
theorem dX4_search_65 : decode cX4_search 65 = .ok (.ladd, 1) := by decide +kernel
theorem dX4_search_66 : decode cX4_search 66 = .ok (.lstore 9, 2) := by decide +kernel
theorem dX4_search_68 : decode cX4_search 68 = .ok (.lload 4, 2) := by decide +kernel
theorem dX4_search_70 : decode cX4_search 70 = .ok (.aload_n 0, 1) := by decide +kernel
theorem dX4_search_71 : decode cX4_search 71 = .ok (.getfield 15, 3) := by decide +kernel
theorem dX4_search_74 : decode cX4_search 74 = .ok (.iload 7, 2) := by decide +kernel
theorem dX4_search_76 : decode cX4_search 76 = .ok (.laload, 1) := by decide +kernel
theorem dX4_search_77 : decode cX4_search 77 = .ok (.ladd, 1) := by decide +kernel
theorem dX4_search_78 : decode cX4_search 78 = .ok (.lstore 11, 2) := by decide +kernel
theorem dX4_search_80 : decode cX4_search 80 = .ok (.lload 9, 2) := by decide +kernel
theorem dX4_search_82 : decode cX4_search 82 = .ok (.lload 11, 2) := by decide +kernel
theorem dX4_search_84 : decode cX4_search 84 = .ok (.lor, 1) := by decide +kernel
theorem dX4_search_85 : decode cX4_search 85 = .ok (.ldc2_w 47, 3) := by decide +kernel
theorem dX4_search_88 : decode cX4_search 88 = .ok (.land, 1) := by decide +kernel
theorem dX4_search_89 : decode cX4_search 89 = .ok (.lconst 0, 1) := by decide +kernel
theorem dX4_search_90 : decode cX4_search 90 = .ok (.lcmp, 1) := by decide +kernel
theorem dX4_search_91 : decode cX4_search 91 = .ok (.ifCond .eq 5, 3) := by decide +kernel
theorem dX4_search_94 : decode cX4_search 94 = .ok (.iconst (-1), 1) := by decide +kernel
theorem dX4_search_95 : decode cX4_search 95 = .ok (.ireturn, 1) := by decide +kernel
theorem dX4_search_96 : decode cX4_search 96 = .ok (.aload_n 0, 1) := by decide +kernel
theorem dX4_search_97 : decode cX4_search 97 = .ok (.iload 7, 2) := by decide +kernel
theorem dX4_search_99 : decode cX4_search 99 = .ok (.lload 9, 2) := by decide +kernel
theorem dX4_search_101 : decode cX4_search 101 = .ok (.lload 11, 2) := by decide +kernel
theorem dX4_search_103 : decode cX4_search 103 = .ok (.iload 6, 2) := by decide +kernel
theorem dX4_search_105 : decode cX4_search 105 = .ok (.iconst 1, 1) := by decide +kernel
theorem dX4_search_106 : decode cX4_search 106 = .ok (.isub, 1) := by decide +kernel
theorem dX4_search_107 : decode cX4_search 107 = .ok (.invokevirtual 43, 3) := by decide +kernel
theorem dX4_search_110 : decode cX4_search 110 = .ok (.istore 13, 2) := by decide +kernel
theorem dX4_search_112 : decode cX4_search 112 = .ok (.iload 13, 2) := by decide +kernel
theorem dX4_search_114 : decode cX4_search 114 = .ok (.iconst (-1), 1) := by decide +kernel
theorem dX4_search_115 : decode cX4_search 115 = .ok (.if_icmp .ne 7, 3) := by decide +kernel
theorem dX4_search_118 : decode cX4_search 118 = .ok (.iconst (-1), 1) := by decide +kernel
theorem dX4_search_119 : decode cX4_search 119 = .ok (.goto 10, 3) := by decide +kernel
theorem dX4_search_122 : decode cX4_search 122 = .ok (.iload 13, 2) := by decide +kernel
theorem dX4_search_124 : decode cX4_search 124 = .ok (.iconst 1, 1) := by decide +kernel
theorem dX4_search_125 : decode cX4_search 125 = .ok (.iload 7, 2) := by decide +kernel
theorem dX4_search_127 : decode cX4_search 127 = .ok (.ishl, 1) := by decide +kernel
theorem dX4_search_128 : decode cX4_search 128 = .ok (.ior, 1) := by decide +kernel
theorem dX4_search_129 : decode cX4_search 129 = .ok (.ireturn, 1) := by decide +kernel
theorem dX5_init_0 : decode cX5_init 0 = .ok (.aload_n 0, 1) := by decide +kernel
theorem dX5_init_1 : decode cX5_init 1 = .ok (.invokespecial 1, 3) := by decide +kernel
theorem dX5_init_4 : decode cX5_init 4 = .ok (.aload_n 0, 1) := by decide +kernel
theorem dX5_init_5 : decode cX5_init 5 = .ok (.iconst 4, 1) := by decide +kernel
theorem dX5_init_6 : decode cX5_init 6 = .ok (.newarray .long, 2) := by decide +kernel
theorem dX5_init_8 : decode cX5_init 8 = .ok (.putfield 9, 3) := by decide +kernel
theorem dX5_init_11 : decode cX5_init 11 = .ok (.aload_n 0, 1) := by decide +kernel
theorem dX5_init_12 : decode cX5_init 12 = .ok (.iconst 4, 1) := by decide +kernel
theorem dX5_init_13 : decode cX5_init 13 = .ok (.newarray .long, 2) := by decide +kernel
theorem dX5_init_15 : decode cX5_init 15 = .ok (.putfield 13, 3) := by decide +kernel
theorem dX5_init_18 : decode cX5_init 18 = .ok (.aload_n 0, 1) := by decide +kernel
theorem dX5_init_19 : decode cX5_init 19 = .ok (.iconst 0, 1) := by decide +kernel
theorem dX5_init_20 : decode cX5_init 20 = .ok (.putfield 16, 3) := by decide +kernel
theorem dX5_init_23 : decode cX5_init 23 = .ok (.aload_n 0, 1) := by decide +kernel
theorem dX5_init_24 : decode cX5_init 24 = .ok (.iconst 0, 1) := by decide +kernel
theorem dX5_init_25 : decode cX5_init 25 = .ok (.putfield 20, 3) := by decide +kernel
theorem dX5_init_28 : decode cX5_init 28 = .ok (.return_, 1) := by decide +kernel
theorem dX5_offer_0 : decode cX5_offer 0 = .ok (.aload_n 0, 1) := by decide +kernel
theorem dX5_offer_1 : decode cX5_offer 1 = .ok (.getfield 16, 3) := by decide +kernel
theorem dX5_offer_4 : decode cX5_offer 4 = .ok (.ifCond .eq 20, 3) := by decide +kernel
theorem dX5_offer_7 : decode cX5_offer 7 = .ok (.aload_n 0, 1) := by decide +kernel
theorem dX5_offer_8 : decode cX5_offer 8 = .ok (.iload_n 1, 1) := by decide +kernel
theorem dX5_offer_9 : decode cX5_offer 9 = .ok (.iload_n 2, 1) := by decide +kernel
theorem dX5_offer_10 : decode cX5_offer 10 = .ok (.aload_n 0, 1) := by decide +kernel
theorem dX5_offer_11 : decode cX5_offer 11 = .ok (.getfield 20, 3) := by decide +kernel
theorem dX5_offer_14 : decode cX5_offer 14 = .ok (.aload_n 0, 1) := by decide +kernel
theorem dX5_offer_15 : decode cX5_offer 15 = .ok (.getfield 16, 3) := by decide +kernel
theorem dX5_offer_18 : decode cX5_offer 18 = .ok (.invokevirtual 23, 3) := by decide +kernel
theorem dX5_offer_21 : decode cX5_offer 21 = .ok (.ifCond .le 13, 3) := by decide +kernel
theorem dX5_offer_24 : decode cX5_offer 24 = .ok (.aload_n 0, 1) := by decide +kernel
theorem dX5_offer_25 : decode cX5_offer 25 = .ok (.iload_n 1, 1) := by decide +kernel
theorem dX5_offer_26 : decode cX5_offer 26 = .ok (.putfield 20, 3) := by decide +kernel
theorem dX5_offer_29 : decode cX5_offer 29 = .ok (.aload_n 0, 1) := by decide +kernel
theorem dX5_offer_30 : decode cX5_offer 30 = .ok (.iload_n 2, 1) := by decide +kernel
theorem dX5_offer_31 : decode cX5_offer 31 = .ok (.putfield 16, 3) := by decide +kernel
theorem dX5_offer_34 : decode cX5_offer 34 = .ok (.return_, 1) := by decide +kernel
theorem dX5_hold_0 : decode cX5_hold 0 = .ok (.aload_n 0, 1) := by decide +kernel
theorem dX5_hold_1 : decode cX5_hold 1 = .ok (.getfield 9, 3) := by decide +kernel
theorem dX5_hold_4 : decode cX5_hold 4 = .ok (.iload_n 1, 1) := by decide +kernel
theorem dX5_hold_5 : decode cX5_hold 5 = .ok (.iload 4, 2) := by decide +kernel
theorem dX5_hold_7 : decode cX5_hold 7 = .ok (.invokestatic 27, 3) := by decide +kernel
theorem dX5_hold_10 : decode cX5_hold 10 = .ok (.aload_n 0, 1) := by decide +kernel
theorem dX5_hold_11 : decode cX5_hold 11 = .ok (.getfield 13, 3) := by decide +kernel
theorem dX5_hold_14 : decode cX5_hold 14 = .ok (.iload_n 3, 1) := by decide +kernel
theorem dX5_hold_15 : decode cX5_hold 15 = .ok (.iload_n 2, 1) := by decide +kernel
theorem dX5_hold_16 : decode cX5_hold 16 = .ok (.invokestatic 27, 3) := by decide +kernel
theorem dX5_hold_19 : decode cX5_hold 19 = .ok (.iconst 3, 1) := by decide +kernel
theorem dX5_hold_20 : decode cX5_hold 20 = .ok (.istore 5, 2) := by decide +kernel
theorem dX5_hold_22 : decode cX5_hold 22 = .ok (.iload 5, 2) := by decide +kernel
theorem dX5_hold_24 : decode cX5_hold 24 = .ok (.ifCond .lt 51, 3) := by decide +kernel
theorem dX5_hold_27 : decode cX5_hold 27 = .ok (.aload_n 0, 1) := by decide +kernel
