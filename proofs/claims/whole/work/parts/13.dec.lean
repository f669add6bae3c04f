theorem dX9_either_122 : decode cX9_either 122 = .ok (.iload 9, 2) := by decide +kernel
theorem dX9_either_124 : decode cX9_either 124 = .ok (.iadd, 1) := by decide +kernel
theorem dX9_either_125 : decode cX9_either 125 = .ok (.aload 5, 2) := by decide +kernel
theorem dX9_either_127 : decode cX9_either 127 = .ok (.getfield 155, 3) := by decide +kernel
theorem dX9_either_130 : decode cX9_either 130 = .ok (.iload 9, 2) := by decide +kernel
theorem dX9_either_132 : decode cX9_either 132 = .ok (.iaload, 1) := by decide +kernel
theorem dX9_either_133 : decode cX9_either 133 = .ok (.iload 8, 2) := by decide +kernel
theorem dX9_either_135 : decode cX9_either 135 = .ok (.ishl, 1) := by decide +kernel
theorem dX9_either_136 : decode cX9_either 136 = .ok (.iastore, 1) := by decide +kernel
theorem dX9_either_137 : decode cX9_either 137 = .ok (.iinc 9 1, 3) := by decide +kernel
theorem dX9_either_140 : decode cX9_either 140 = .ok (.goto (-34), 3) := by decide +kernel
theorem dX9_either_143 : decode cX9_either 143 = .ok (.aload 6, 2) := by decide +kernel
theorem dX9_either_145 : decode cX9_either 145 = .ok (.iconst 0, 1) := by decide +kernel
theorem dX9_either_146 : decode cX9_either 146 = .ok (.iload 7, 2) := by decide +kernel
theorem dX9_either_148 : decode cX9_either 148 = .ok (.invokevirtual 104, 3) := by decide +kernel
theorem dX9_either_151 : decode cX9_either 151 = .ok (.aload 6, 2) := by decide +kernel
theorem dX9_either_153 : decode cX9_either 153 = .ok (.aload_n 0, 1) := by decide +kernel
theorem dX9_either_154 : decode cX9_either 154 = .ok (.getfield 29, 3) := by decide +kernel
theorem dX9_either_157 : decode cX9_either 157 = .ok (.invokevirtual 152, 3) := by decide +kernel
theorem dX9_either_160 : decode cX9_either 160 = .ok (.iload 7, 2) := by decide +kernel
theorem dX9_either_162 : decode cX9_either 162 = .ok (.ireturn, 1) := by decide +kernel
theorem dX9_about_0 : decode cX9_about 0 = .ok (.aload_n 0, 1) := by decide +kernel
theorem dX9_about_1 : decode cX9_about 1 = .ok (.iload_n 1, 1) := by decide +kernel
theorem dX9_about_2 : decode cX9_about 2 = .ok (.invokevirtual 100, 3) := by decide +kernel
theorem dX9_about_5 : decode cX9_about 5 = .ok (.astore_n 3, 1) := by decide +kernel
theorem dX9_about_6 : decode cX9_about 6 = .ok (.aload_n 3, 1) := by decide +kernel
theorem dX9_about_7 : decode cX9_about 7 = .ok (.ifnonnull 5, 3) := by decide +kernel
theorem dX9_about_10 : decode cX9_about 10 = .ok (.iconst (-1), 1) := by decide +kernel
theorem dX9_about_11 : decode cX9_about 11 = .ok (.ireturn, 1) := by decide +kernel
theorem dX9_about_12 : decode cX9_about 12 = .ok (.iload_n 2, 1) := by decide +kernel
theorem dX9_about_13 : decode cX9_about 13 = .ok (.tableswitch 55 0 4 #[35, 40, 55, 45, 50], 35) := by decide +kernel
theorem dX9_about_48 : decode cX9_about 48 = .ok (.aload_n 3, 1) := by decide +kernel
theorem dX9_about_49 : decode cX9_about 49 = .ok (.getfield 144, 3) := by decide +kernel
theorem dX9_about_52 : decode cX9_about 52 = .ok (.ireturn, 1) := by decide +kernel
theorem dX9_about_53 : decode cX9_about 53 = .ok (.aload_n 3, 1) := by decide +kernel
theorem dX9_about_54 : decode cX9_about 54 = .ok (.getfield 111, 3) := by decide +kernel
theorem dX9_about_57 : decode cX9_about 57 = .ok (.ireturn, 1) := by decide +kernel
theorem dX9_about_58 : decode cX9_about 58 = .ok (.aload_n 3, 1) := by decide +kernel
theorem dX9_about_59 : decode cX9_about 59 = .ok (.invokevirtual 158, 3) := by decide +kernel
theorem dX9_about_62 : decode cX9_about 62 = .ok (.ireturn, 1) := by decide +kernel
theorem dX9_about_63 : decode cX9_about 63 = .ok (.aload_n 3, 1) := by decide +kernel
theorem dX9_about_64 : decode cX9_about 64 = .ok (.invokevirtual 162, 3) := by decide +kernel
theorem dX9_about_67 : decode cX9_about 67 = .ok (.ireturn, 1) := by decide +kernel
theorem dX9_about_68 : decode cX9_about 68 = .ok (.aload_n 3, 1) := by decide +kernel
theorem dX9_about_69 : decode cX9_about 69 = .ok (.iload_n 2, 1) := by decide +kernel
theorem dX9_about_70 : decode cX9_about 70 = .ok (.invokestatic 165, 3) := by decide +kernel
theorem dX9_about_73 : decode cX9_about 73 = .ok (.ireturn, 1) := by decide +kernel
theorem dX9_taken_0 : decode cX9_taken 0 = .ok (.aload_n 0, 1) := by decide +kernel
theorem dX9_taken_1 : decode cX9_taken 1 = .ok (.iload_n 1, 1) := by decide +kernel
theorem dX9_taken_2 : decode cX9_taken 2 = .ok (.invokevirtual 100, 3) := by decide +kernel
theorem dX9_taken_5 : decode cX9_taken 5 = .ok (.astore 5, 2) := by decide +kernel
theorem dX9_taken_7 : decode cX9_taken 7 = .ok (.aload 5, 2) := by decide +kernel
theorem dX9_taken_9 : decode cX9_taken 9 = .ok (.ifnull 16, 3) := by decide +kernel
theorem dX9_taken_12 : decode cX9_taken 12 = .ok (.iload_n 2, 1) := by decide +kernel
theorem dX9_taken_13 : decode cX9_taken 13 = .ok (.invokestatic 169, 3) := by decide +kernel
theorem dX9_taken_16 : decode cX9_taken 16 = .ok (.ifCond .eq 9, 3) := by decide +kernel
theorem dX9_taken_19 : decode cX9_taken 19 = .ok (.iload_n 3, 1) := by decide +kernel
theorem dX9_taken_20 : decode cX9_taken 20 = .ok (.iload 4, 2) := by decide +kernel
theorem dX9_taken_22 : decode cX9_taken 22 = .ok (.if_icmp .ne 6, 3) := by decide +kernel
theorem dX9_taken_25 : decode cX9_taken 25 = .ok (.bipush (-2), 2) := by decide +kernel
theorem dX9_taken_27 : decode cX9_taken 27 = .ok (.ireturn, 1) := by decide +kernel
theorem dX9_taken_28 : decode cX9_taken 28 = .ok (.aload 5, 2) := by decide +kernel
theorem dX9_taken_30 : decode cX9_taken 30 = .ok (.getfield 144, 3) := by decide +kernel
theorem dX9_taken_33 : decode cX9_taken 33 = .ok (.iload_n 2, 1) := by decide +kernel
theorem dX9_taken_34 : decode cX9_taken 34 = .ok (.invokestatic 172, 3) := by decide +kernel
theorem dX9_taken_37 : decode cX9_taken 37 = .ok (.istore 6, 2) := by decide +kernel
theorem dX9_taken_39 : decode cX9_taken 39 = .ok (.iload_n 3, 1) := by decide +kernel
theorem dX9_taken_40 : decode cX9_taken 40 = .ok (.ifCond .lt 21, 3) := by decide +kernel
theorem dX9_taken_43 : decode cX9_taken 43 = .ok (.iload 4, 2) := by decide +kernel
theorem dX9_taken_45 : decode cX9_taken 45 = .ok (.ifCond .lt 16, 3) := by decide +kernel
theorem dX9_taken_48 : decode cX9_taken 48 = .ok (.iload_n 3, 1) := by decide +kernel
theorem dX9_taken_49 : decode cX9_taken 49 = .ok (.iload 6, 2) := by decide +kernel
theorem dX9_taken_51 : decode cX9_taken 51 = .ok (.if_icmp .ge 10, 3) := by decide +kernel
theorem dX9_taken_54 : decode cX9_taken 54 = .ok (.iload 4, 2) := by decide +kernel
theorem dX9_taken_56 : decode cX9_taken 56 = .ok (.iload 6, 2) := by decide +kernel
theorem dX9_taken_58 : decode cX9_taken 58 = .ok (.if_icmp .lt 6, 3) := by decide +kernel
theorem dX9_taken_61 : decode cX9_taken 61 = .ok (.bipush (-2), 2) := by decide +kernel
theorem dX9_taken_63 : decode cX9_taken 63 = .ok (.ireturn, 1) := by decide +kernel
theorem dX9_taken_64 : decode cX9_taken 64 = .ok (.iload_n 3, 1) := by decide +kernel
theorem dX9_taken_65 : decode cX9_taken 65 = .ok (.istore 7, 2) := by decide +kernel
theorem dX9_taken_67 : decode cX9_taken 67 = .ok (.iload 4, 2) := by decide +kernel
theorem dX9_taken_69 : decode cX9_taken 69 = .ok (.istore 8, 2) := by decide +kernel
theorem dX9_taken_71 : decode cX9_taken 71 = .ok (.iconst 0, 1) := by decide +kernel
theorem dX9_taken_72 : decode cX9_taken 72 = .ok (.istore 9, 2) := by decide +kernel
theorem dX9_taken_74 : decode cX9_taken 74 = .ok (.iload 9, 2) := by decide +kernel
theorem dX9_taken_76 : decode cX9_taken 76 = .ok (.iload_n 2, 1) := by decide +kernel
theorem dX9_taken_77 : decode cX9_taken 77 = .ok (.if_icmp .ge 63, 3) := by decide +kernel
theorem dX9_taken_80 : decode cX9_taken 80 = .ok (.aload 5, 2) := by decide +kernel
theorem dX9_taken_82 : decode cX9_taken 82 = .ok (.iload 7, 2) := by decide +kernel
theorem dX9_taken_84 : decode cX9_taken 84 = .ok (.aload 5, 2) := by decide +kernel
theorem dX9_taken_86 : decode cX9_taken 86 = .ok (.getfield 144, 3) := by decide +kernel
theorem dX9_taken_89 : decode cX9_taken 89 = .ok (.invokestatic 176, 3) := by decide +kernel
theorem dX9_taken_92 : decode cX9_taken 92 = .ok (.iload 8, 2) := by decide +kernel
theorem dX9_taken_94 : decode cX9_taken 94 = .ok (.aload 5, 2) := by decide +kernel
theorem dX9_taken_96 : decode cX9_taken 96 = .ok (.getfield 144, 3) := by decide +kernel
theorem dX9_taken_99 : decode cX9_taken 99 = .ok (.invokestatic 176, 3) := by decide +kernel
theorem dX9_taken_102 : decode cX9_taken 102 = .ok (.invokevirtual 179, 3) := by decide +kernel
theorem dX9_taken_105 : decode cX9_taken 105 = .ok (.ifCond .ne 5, 3) := by decide +kernel
theorem dX9_taken_108 : decode cX9_taken 108 = .ok (.iconst 0, 1) := by decide +kernel
theorem dX9_taken_109 : decode cX9_taken 109 = .ok (.ireturn, 1) := by decide +kernel
theorem dX9_taken_110 : decode cX9_taken 110 = .ok (.iload 7, 2) := by decide +kernel
theorem dX9_taken_112 : decode cX9_taken 112 = .ok (.aload 5, 2) := by decide +kernel
theorem dX9_taken_114 : decode cX9_taken 114 = .ok (.getfield 144, 3) := by decide +kernel
theorem dX9_taken_117 : decode cX9_taken 117 = .ok (.invokestatic 182, 3) := by decide +kernel
theorem dX9_taken_120 : decode cX9_taken 120 = .ok (.istore 7, 2) := by decide +kernel
theorem dX9_taken_122 : decode cX9_taken 122 = .ok (.iload 8, 2) := by decide +kernel
theorem dX9_taken_124 : decode cX9_taken 124 = .ok (.aload 5, 2) := by decide +kernel
theorem dX9_taken_126 : decode cX9_taken 126 = .ok (.getfield 144, 3) := by decide +kernel
theorem dX9_taken_129 : decode cX9_taken 129 = .ok (.invokestatic 182, 3) := by decide +kernel
theorem dX9_taken_132 : decode cX9_taken 132 = .ok (.istore 8, 2) := by decide +kernel
theorem dX9_taken_134 : decode cX9_taken 134 = .ok (.iinc 9 1, 3) := by decide +kernel
theorem dX9_taken_137 : decode cX9_taken 137 = .ok (.goto (-63), 3) := by decide +kernel
theorem dX9_taken_140 : decode cX9_taken 140 = .ok (.iconst 1, 1) := by decide +kernel
theorem dX9_taken_141 : decode cX9_taken 141 = .ok (.ireturn, 1) := by decide +kernel
theorem dX9_most_0 : decode cX9_most 0 = .ok (.aload_n 0, 1) := by decide +kernel
theorem dX9_most_1 : decode cX9_most 1 = .ok (.iload_n 1, 1) := by decide +kernel
theorem dX9_most_2 : decode cX9_most 2 = .ok (.invokevirtual 100, 3) := by decide +kernel
theorem dX9_most_5 : decode cX9_most 5 = .ok (.astore_n 3, 1) := by decide +kernel
theorem dX9_most_6 : decode cX9_most 6 = .ok (.aload_n 3, 1) := by decide +kernel
theorem dX9_most_7 : decode cX9_most 7 = .ok (.ifnull 10, 3) := by decide +kernel
theorem dX9_most_10 : decode cX9_most 10 = .ok (.iload_n 2, 1) := by decide +kernel
theorem dX9_most_11 : decode cX9_most 11 = .ok (.invokestatic 169, 3) := by decide +kernel
theorem dX9_most_14 : decode cX9_most 14 = .ok (.ifCond .ne 6, 3) := by decide +kernel
theorem dX9_most_17 : decode cX9_most 17 = .ok (.bipush (-2), 2) := by decide +kernel
theorem dX9_most_19 : decode cX9_most 19 = .ok (.ireturn, 1) := by decide +kernel
theorem dX9_most_20 : decode cX9_most 20 = .ok (.aload_n 3, 1) := by decide +kernel
theorem dX9_most_21 : decode cX9_most 21 = .ok (.getfield 144, 3) := by decide +kernel
theorem dX9_most_24 : decode cX9_most 24 = .ok (.iload_n 2, 1) := by decide +kernel
theorem dX9_most_25 : decode cX9_most 25 = .ok (.invokestatic 172, 3) := by decide +kernel
theorem dX9_most_28 : decode cX9_most 28 = .ok (.bipush 64, 2) := by decide +kernel
theorem dX9_most_30 : decode cX9_most 30 = .ok (.if_icmp .le 6, 3) := by decide +kernel
theorem dX9_most_33 : decode cX9_most 33 = .ok (.bipush (-3), 2) := by decide +kernel
theorem dX9_most_35 : decode cX9_most 35 = .ok (.ireturn, 1) := by decide +kernel
theorem dX9_most_36 : decode cX9_most 36 = .ok (.aload_n 0, 1) := by decide +kernel
theorem dX9_most_37 : decode cX9_most 37 = .ok (.getfield 36, 3) := by decide +kernel
theorem dX9_most_40 : decode cX9_most 40 = .ok (.aload_n 3, 1) := by decide +kernel
theorem dX9_most_41 : decode cX9_most 41 = .ok (.iload_n 2, 1) := by decide +kernel
theorem dX9_most_42 : decode cX9_most 42 = .ok (.invokevirtual 185, 3) := by decide +kernel
theorem dX9_most_45 : decode cX9_most 45 = .ok (.aload_n 0, 1) := by decide +kernel
theorem dX9_most_46 : decode cX9_most 46 = .ok (.getfield 36, 3) := by decide +kernel
theorem dX9_most_49 : decode cX9_most 49 = .ok (.invokevirtual 189, 3) := by decide +kernel
theorem dX9_most_52 : decode cX9_most 52 = .ok (.pop, 1) := by decide +kernel
theorem dX9_most_53 : decode cX9_most 53 = .ok (.aload_n 0, 1) := by decide +kernel
theorem dX9_most_54 : decode cX9_most 54 = .ok (.getfield 71, 3) := by decide +kernel
theorem dX9_most_57 : decode cX9_most 57 = .ok (.aload_n 0, 1) := by decide +kernel
theorem dX9_most_58 : decode cX9_most 58 = .ok (.getfield 36, 3) := by decide +kernel
theorem dX9_most_61 : decode cX9_most 61 = .ok (.invokevirtual 192, 3) := by decide +kernel
theorem dX9_most_64 : decode cX9_most 64 = .ok (.iload_n 2, 1) := by decide +kernel
theorem dX9_most_65 : decode cX9_most 65 = .ok (.iload_n 1, 1) := by decide +kernel
theorem dX9_most_66 : decode cX9_most 66 = .ok (.aload_n 3, 1) := by decide +kernel
theorem dX9_most_67 : decode cX9_most 67 = .ok (.getfield 196, 3) := by decide +kernel
theorem dX9_most_70 : decode cX9_most 70 = .ok (.invokevirtual 199, 3) := by decide +kernel
theorem dX9_most_73 : decode cX9_most 73 = .ok (.aload_n 0, 1) := by decide +kernel
theorem dX9_most_74 : decode cX9_most 74 = .ok (.getfield 71, 3) := by decide +kernel
theorem dX9_most_77 : decode cX9_most 77 = .ok (.getfield 203, 3) := by decide +kernel
theorem dX9_most_80 : decode cX9_most 80 = .ok (.ireturn, 1) := by decide +kernel
theorem dX9_word_0 : decode cX9_word 0 = .ok (.iload_n 1, 1) := by decide +kernel
theorem dX9_word_1 : decode cX9_word 1 = .ok (.ifCond .lt 14, 3) := by decide +kernel
theorem dX9_word_4 : decode cX9_word 4 = .ok (.iload_n 1, 1) := by decide +kernel
theorem dX9_word_5 : decode cX9_word 5 = .ok (.aload_n 0, 1) := by decide +kernel
theorem dX9_word_6 : decode cX9_word 6 = .ok (.getfield 71, 3) := by decide +kernel
theorem dX9_word_9 : decode cX9_word 9 = .ok (.getfield 203, 3) := by decide +kernel
theorem dX9_word_12 : decode cX9_word 12 = .ok (.if_icmp .lt 5, 3) := by decide +kernel
theorem dX9_word_15 : decode cX9_word 15 = .ok (.iconst (-1), 1) := by decide +kernel
theorem dX9_word_16 : decode cX9_word 16 = .ok (.ireturn, 1) := by decide +kernel
theorem dX9_word_17 : decode cX9_word 17 = .ok (.aload_n 0, 1) := by decide +kernel
theorem dX9_word_18 : decode cX9_word 18 = .ok (.getfield 71, 3) := by decide +kernel
theorem dX9_word_21 : decode cX9_word 21 = .ok (.getfield 206, 3) := by decide +kernel
theorem dX9_word_24 : decode cX9_word 24 = .ok (.iload_n 1, 1) := by decide +kernel
theorem dX9_word_25 : decode cX9_word 25 = .ok (.iaload, 1) := by decide +kernel
theorem dX9_word_26 : decode cX9_word 26 = .ok (.ireturn, 1) := by decide +kernel
theorem dX9_ways_0 : decode cX9_ways 0 = .ok (.aload_n 0, 1) := by decide +kernel
theorem dX9_ways_1 : decode cX9_ways 1 = .ok (.iload_n 1, 1) := by decide +kernel
theorem dX9_ways_2 : decode cX9_ways 2 = .ok (.invokevirtual 100, 3) := by decide +kernel
theorem dX9_ways_5 : decode cX9_ways 5 = .ok (.astore_n 3, 1) := by decide +kernel
theorem dX9_ways_6 : decode cX9_ways 6 = .ok (.aload_n 3, 1) := by decide +kernel
theorem dX9_ways_7 : decode cX9_ways 7 = .ok (.ifnull 10, 3) := by decide +kernel
theorem dX9_ways_10 : decode cX9_ways 10 = .ok (.iload_n 2, 1) := by decide +kernel
theorem dX9_ways_11 : decode cX9_ways 11 = .ok (.invokestatic 169, 3) := by decide +kernel
theorem dX9_ways_14 : decode cX9_ways 14 = .ok (.ifCond .ne 6, 3) := by decide +kernel
theorem dX9_ways_17 : decode cX9_ways 17 = .ok (.bipush (-2), 2) := by decide +kernel
theorem dX9_ways_19 : decode cX9_ways 19 = .ok (.ireturn, 1) := by decide +kernel
theorem dX9_ways_20 : decode cX9_ways 20 = .ok (.aload_n 3, 1) := by decide +kernel
theorem dX9_ways_21 : decode cX9_ways 21 = .ok (.getfield 144, 3) := by decide +kernel
theorem dX9_ways_24 : decode cX9_ways 24 = .ok (.iload_n 2, 1) := by decide +kernel
theorem dX9_ways_25 : decode cX9_ways 25 = .ok (.invokestatic 172, 3) := by decide +kernel
theorem dX9_ways_28 : decode cX9_ways 28 = .ok (.bipush 24, 2) := by decide +kernel
theorem dX9_ways_30 : decode cX9_ways 30 = .ok (.if_icmp .le 6, 3) := by decide +kernel
theorem dX9_ways_33 : decode cX9_ways 33 = .ok (.bipush (-3), 2) := by decide +kernel
theorem dX9_ways_35 : decode cX9_ways 35 = .ok (.ireturn, 1) := by decide +kernel
theorem dX9_ways_36 : decode cX9_ways 36 = .ok (.aload_n 0, 1) := by decide +kernel
theorem dX9_ways_37 : decode cX9_ways 37 = .ok (.getfield 36, 3) := by decide +kernel
theorem dX9_ways_40 : decode cX9_ways 40 = .ok (.aload_n 3, 1) := by decide +kernel
theorem dX9_ways_41 : decode cX9_ways 41 = .ok (.iload_n 2, 1) := by decide +kernel
theorem dX9_ways_42 : decode cX9_ways 42 = .ok (.invokevirtual 185, 3) := by decide +kernel
theorem dX9_ways_45 : decode cX9_ways 45 = .ok (.aload_n 0, 1) := by decide +kernel
theorem dX9_ways_46 : decode cX9_ways 46 = .ok (.getfield 36, 3) := by decide +kernel
theorem dX9_ways_49 : decode cX9_ways 49 = .ok (.invokevirtual 209, 3) := by decide +kernel
theorem dX9_ways_52 : decode cX9_ways 52 = .ok (.ireturn, 1) := by decide +kernel
theorem dX9_heaps_0 : decode cX9_heaps 0 = .ok (.aload_n 0, 1) := by decide +kernel
theorem dX9_heaps_1 : decode cX9_heaps 1 = .ok (.iload_n 1, 1) := by decide +kernel
theorem dX9_heaps_2 : decode cX9_heaps 2 = .ok (.invokevirtual 100, 3) := by decide +kernel
theorem dX9_heaps_5 : decode cX9_heaps 5 = .ok (.astore_n 2, 1) := by decide +kernel
theorem dX9_heaps_6 : decode cX9_heaps 6 = .ok (.aload_n 2, 1) := by decide +kernel
theorem dX9_heaps_7 : decode cX9_heaps 7 = .ok (.ifnonnull 6, 3) := by decide +kernel
theorem dX9_heaps_10 : decode cX9_heaps 10 = .ok (.bipush (-2), 2) := by decide +kernel
theorem dX9_heaps_12 : decode cX9_heaps 12 = .ok (.ireturn, 1) := by decide +kernel
theorem dX9_heaps_13 : decode cX9_heaps 13 = .ok (.aload_n 0, 1) := by decide +kernel
theorem dX9_heaps_14 : decode cX9_heaps 14 = .ok (.aload_n 2, 1) := by decide +kernel
theorem dX9_heaps_15 : decode cX9_heaps 15 = .ok (.invokevirtual 212, 3) := by decide +kernel
theorem dX9_heaps_18 : decode cX9_heaps 18 = .ok (.istore_n 3, 1) := by decide +kernel
theorem dX9_heaps_19 : decode cX9_heaps 19 = .ok (.aload_n 0, 1) := by decide +kernel
theorem dX9_heaps_20 : decode cX9_heaps 20 = .ok (.getfield 43, 3) := by decide +kernel
theorem dX9_heaps_23 : decode cX9_heaps 23 = .ok (.aload_n 0, 1) := by decide +kernel
theorem dX9_heaps_24 : decode cX9_heaps 24 = .ok (.getfield 75, 3) := by decide +kernel
theorem dX9_heaps_27 : decode cX9_heaps 27 = .ok (.invokevirtual 216, 3) := by decide +kernel
theorem dX9_heaps_30 : decode cX9_heaps 30 = .ok (.aload_n 0, 1) := by decide +kernel
theorem dX9_heaps_31 : decode cX9_heaps 31 = .ok (.aload_n 2, 1) := by decide +kernel
theorem dX9_heaps_32 : decode cX9_heaps 32 = .ok (.getfield 144, 3) := by decide +kernel
theorem dX9_heaps_35 : decode cX9_heaps 35 = .ok (.putfield 78, 3) := by decide +kernel
theorem dX9_heaps_38 : decode cX9_heaps 38 = .ok (.iload_n 3, 1) := by decide +kernel
theorem dX9_heaps_39 : decode cX9_heaps 39 = .ok (.ireturn, 1) := by decide +kernel
theorem dX9_heap_0 : decode cX9_heap 0 = .ok (.iload_n 1, 1) := by decide +kernel
theorem dX9_heap_1 : decode cX9_heap 1 = .ok (.ifCond .lt 11, 3) := by decide +kernel
theorem dX9_heap_4 : decode cX9_heap 4 = .ok (.iload_n 1, 1) := by decide +kernel
theorem dX9_heap_5 : decode cX9_heap 5 = .ok (.aload_n 0, 1) := by decide +kernel
theorem dX9_heap_6 : decode cX9_heap 6 = .ok (.getfield 78, 3) := by decide +kernel
theorem dX9_heap_9 : decode cX9_heap 9 = .ok (.if_icmp .lt 5, 3) := by decide +kernel
theorem dX9_heap_12 : decode cX9_heap 12 = .ok (.iconst (-1), 1) := by decide +kernel
theorem dX9_heap_13 : decode cX9_heap 13 = .ok (.ireturn, 1) := by decide +kernel
theorem dX9_heap_14 : decode cX9_heap 14 = .ok (.aload_n 0, 1) := by decide +kernel
theorem dX9_heap_15 : decode cX9_heap 15 = .ok (.getfield 75, 3) := by decide +kernel
theorem dX9_heap_18 : decode cX9_heap 18 = .ok (.iload_n 1, 1) := by decide +kernel
theorem dX9_heap_19 : decode cX9_heap 19 = .ok (.iaload, 1) := by decide +kernel
theorem dX9_heap_20 : decode cX9_heap 20 = .ok (.ireturn, 1) := by decide +kernel
theorem dX9_row_0 : decode cX9_row 0 = .ok (.aload_n 0, 1) := by decide +kernel
theorem dX9_row_1 : decode cX9_row 1 = .ok (.iload_n 1, 1) := by decide +kernel
theorem dX9_row_2 : decode cX9_row 2 = .ok (.invokevirtual 100, 3) := by decide +kernel
theorem dX9_row_5 : decode cX9_row 5 = .ok (.astore 5, 2) := by decide +kernel
theorem dX9_row_7 : decode cX9_row 7 = .ok (.aload 5, 2) := by decide +kernel
theorem dX9_row_9 : decode cX9_row 9 = .ok (.ifnull 27, 3) := by decide +kernel
theorem dX9_row_12 : decode cX9_row 12 = .ok (.iload_n 2, 1) := by decide +kernel
theorem dX9_row_13 : decode cX9_row 13 = .ok (.iconst (-1), 1) := by decide +kernel
theorem dX9_row_14 : decode cX9_row 14 = .ok (.if_icmp .eq 12, 3) := by decide +kernel
theorem dX9_row_17 : decode cX9_row 17 = .ok (.aload 5, 2) := by decide +kernel
theorem dX9_row_19 : decode cX9_row 19 = .ok (.iload_n 2, 1) := by decide +kernel
theorem dX9_row_20 : decode cX9_row 20 = .ok (.invokevirtual 108, 3) := by decide +kernel
theorem dX9_row_23 : decode cX9_row 23 = .ok (.ifCond .eq 13, 3) := by decide +kernel
theorem dX9_row_26 : decode cX9_row 26 = .ok (.iload_n 3, 1) := by decide +kernel
theorem dX9_row_27 : decode cX9_row 27 = .ok (.ifCond .lt 9, 3) := by decide +kernel
theorem dX9_row_30 : decode cX9_row 30 = .ok (.iload_n 3, 1) := by decide +kernel
theorem dX9_row_31 : decode cX9_row 31 = .ok (.bipush 6, 2) := by decide +kernel
theorem dX9_row_33 : decode cX9_row 33 = .ok (.if_icmp .lt 6, 3) := by decide +kernel
theorem dX9_row_36 : decode cX9_row 36 = .ok (.bipush (-31), 2) := by decide +kernel
theorem dX9_row_38 : decode cX9_row 38 = .ok (.ireturn, 1) := by decide +kernel
theorem dX9_row_39 : decode cX9_row 39 = .ok (.iload 4, 2) := by decide +kernel
theorem dX9_row_41 : decode cX9_row 41 = .ok (.bipush (-30), 2) := by decide +kernel
theorem dX9_row_43 : decode cX9_row 43 = .ok (.if_icmp .lt 10, 3) := by decide +kernel
theorem dX9_row_46 : decode cX9_row 46 = .ok (.iload 4, 2) := by decide +kernel
theorem dX9_row_48 : decode cX9_row 48 = .ok (.bipush 30, 2) := by decide +kernel
theorem dX9_row_50 : decode cX9_row 50 = .ok (.if_icmp .le 6, 3) := by decide +kernel
theorem dX9_row_53 : decode cX9_row 53 = .ok (.bipush (-31), 2) := by decide +kernel
theorem dX9_row_55 : decode cX9_row 55 = .ok (.ireturn, 1) := by decide +kernel
theorem dX9_row_56 : decode cX9_row 56 = .ok (.aload 5, 2) := by decide +kernel
theorem dX9_row_58 : decode cX9_row 58 = .ok (.getfield 219, 3) := by decide +kernel
theorem dX9_row_61 : decode cX9_row 61 = .ok (.iload_n 2, 1) := by decide +kernel
theorem dX9_row_62 : decode cX9_row 62 = .ok (.iconst (-1), 1) := by decide +kernel
theorem dX9_row_63 : decode cX9_row 63 = .ok (.if_icmp .ne 8, 3) := by decide +kernel
theorem dX9_row_66 : decode cX9_row 66 = .ok (.bipush 24, 2) := by decide +kernel
theorem dX9_row_68 : decode cX9_row 68 = .ok (.goto 4, 3) := by decide +kernel
theorem dX9_row_71 : decode cX9_row 71 = .ok (.iload_n 2, 1) := by decide +kernel
theorem dX9_row_72 : decode cX9_row 72 = .ok (.aaload, 1) := by decide +kernel
theorem dX9_row_73 : decode cX9_row 73 = .ok (.astore 6, 2) := by decide +kernel
theorem dX9_row_75 : decode cX9_row 75 = .ok (.aload 6, 2) := by decide +kernel
theorem dX9_row_77 : decode cX9_row 77 = .ok (.iload_n 3, 1) := by decide +kernel
theorem dX9_row_78 : decode cX9_row 78 = .ok (.iaload, 1) := by decide +kernel
theorem dX9_row_79 : decode cX9_row 79 = .ok (.istore 7, 2) := by decide +kernel
theorem dX9_row_81 : decode cX9_row 81 = .ok (.aload 6, 2) := by decide +kernel
theorem dX9_row_83 : decode cX9_row 83 = .ok (.iload_n 3, 1) := by decide +kernel
theorem dX9_row_84 : decode cX9_row 84 = .ok (.iload 4, 2) := by decide +kernel
theorem dX9_row_86 : decode cX9_row 86 = .ok (.iastore, 1) := by decide +kernel
theorem dX9_row_87 : decode cX9_row 87 = .ok (.iload 7, 2) := by decide +kernel
theorem dX9_row_89 : decode cX9_row 89 = .ok (.ireturn, 1) := by decide +kernel
theorem dX9_stands_0 : decode cX9_stands 0 = .ok (.aload_n 0, 1) := by decide +kernel
theorem dX9_stands_1 : decode cX9_stands 1 = .ok (.iload_n 1, 1) := by decide +kernel
theorem dX9_stands_2 : decode cX9_stands 2 = .ok (.invokevirtual 100, 3) := by decide +kernel
theorem dX9_stands_5 : decode cX9_stands 5 = .ok (.astore_n 2, 1) := by decide +kernel
theorem dX9_stands_6 : decode cX9_stands 6 = .ok (.aload_n 2, 1) := by decide +kernel
theorem dX9_stands_7 : decode cX9_stands 7 = .ok (.ifnonnull 8, 3) := by decide +kernel
theorem dX9_stands_10 : decode cX9_stands 10 = .ok (.bipush (-2), 2) := by decide +kernel
theorem dX9_stands_12 : decode cX9_stands 12 = .ok (.goto 11, 3) := by decide +kernel
theorem dX9_stands_15 : decode cX9_stands 15 = .ok (.aload_n 0, 1) := by decide +kernel
theorem dX9_stands_16 : decode cX9_stands 16 = .ok (.getfield 50, 3) := by decide +kernel
theorem dX9_stands_19 : decode cX9_stands 19 = .ok (.aload_n 2, 1) := by decide +kernel
theorem dX9_stands_20 : decode cX9_stands 20 = .ok (.invokevirtual 223, 3) := by decide +kernel
theorem dX9_stands_23 : decode cX9_stands 23 = .ok (.ireturn, 1) := by decide +kernel
theorem dX9_bound_0 : decode cX9_bound 0 = .ok (.aload_n 0, 1) := by decide +kernel
theorem dX9_bound_1 : decode cX9_bound 1 = .ok (.iload_n 1, 1) := by decide +kernel
theorem dX9_bound_2 : decode cX9_bound 2 = .ok (.invokevirtual 100, 3) := by decide +kernel
theorem dX9_bound_5 : decode cX9_bound 5 = .ok (.astore_n 3, 1) := by decide +kernel
theorem dX9_bound_6 : decode cX9_bound 6 = .ok (.aload_n 3, 1) := by decide +kernel
theorem dX9_bound_7 : decode cX9_bound 7 = .ok (.ifnull 12, 3) := by decide +kernel
theorem dX9_bound_10 : decode cX9_bound 10 = .ok (.iload_n 2, 1) := by decide +kernel
theorem dX9_bound_11 : decode cX9_bound 11 = .ok (.ifCond .lt 8, 3) := by decide +kernel
theorem dX9_bound_14 : decode cX9_bound 14 = .ok (.iload_n 2, 1) := by decide +kernel
theorem dX9_bound_15 : decode cX9_bound 15 = .ok (.iconst 2, 1) := by decide +kernel
theorem dX9_bound_16 : decode cX9_bound 16 = .ok (.if_icmp .le 6, 3) := by decide +kernel
theorem dX9_bound_19 : decode cX9_bound 19 = .ok (.bipush (-2), 2) := by decide +kernel
theorem dX9_bound_21 : decode cX9_bound 21 = .ok (.ireturn, 1) := by decide +kernel
theorem dX9_bound_22 : decode cX9_bound 22 = .ok (.aload_n 0, 1) := by decide +kernel
theorem dX9_bound_23 : decode cX9_bound 23 = .ok (.getfield 50, 3) := by decide +kernel
theorem dX9_bound_26 : decode cX9_bound 26 = .ok (.aload_n 3, 1) := by decide +kernel
theorem dX9_bound_27 : decode cX9_bound 27 = .ok (.invokevirtual 226, 3) := by decide +kernel
theorem dX9_bound_30 : decode cX9_bound 30 = .ok (.ifCond .ne 5, 3) := by decide +kernel
theorem dX9_bound_33 : decode cX9_bound 33 = .ok (.iconst (-1), 1) := by decide +kernel
theorem dX9_bound_34 : decode cX9_bound 34 = .ok (.ireturn, 1) := by decide +kernel
theorem dX9_bound_35 : decode cX9_bound 35 = .ok (.iload_n 2, 1) := by decide +kernel
theorem dX9_bound_36 : decode cX9_bound 36 = .ok (.ifCond .ne 11, 3) := by decide +kernel
theorem dX9_bound_39 : decode cX9_bound 39 = .ok (.aload_n 0, 1) := by decide +kernel
theorem dX9_bound_40 : decode cX9_bound 40 = .ok (.getfield 50, 3) := by decide +kernel
theorem dX9_bound_43 : decode cX9_bound 43 = .ok (.getfield 230, 3) := by decide +kernel
theorem dX9_bound_46 : decode cX9_bound 46 = .ok (.ireturn, 1) := by decide +kernel
theorem dX9_bound_47 : decode cX9_bound 47 = .ok (.iload_n 2, 1) := by decide +kernel
theorem dX9_bound_48 : decode cX9_bound 48 = .ok (.iconst 1, 1) := by decide +kernel
theorem dX9_bound_49 : decode cX9_bound 49 = .ok (.if_icmp .ne 13, 3) := by decide +kernel
theorem dX9_bound_52 : decode cX9_bound 52 = .ok (.aload_n 0, 1) := by decide +kernel
theorem dX9_bound_53 : decode cX9_bound 53 = .ok (.getfield 50, 3) := by decide +kernel
theorem dX9_bound_56 : decode cX9_bound 56 = .ok (.getfield 233, 3) := by decide +kernel
theorem dX9_bound_59 : decode cX9_bound 59 = .ok (.goto 10, 3) := by decide +kernel
theorem dX9_bound_62 : decode cX9_bound 62 = .ok (.aload_n 0, 1) := by decide +kernel
theorem dX9_bound_63 : decode cX9_bound 63 = .ok (.getfield 50, 3) := by decide +kernel
theorem dX9_bound_66 : decode cX9_bound 66 = .ok (.getfield 236, 3) := by decide +kernel
theorem dX9_bound_69 : decode cX9_bound 69 = .ok (.ireturn, 1) := by decide +kernel
theorem dX9_compare_0 : decode cX9_compare 0 = .ok (.iload_n 1, 1) := by decide +kernel
theorem dX9_compare_1 : decode cX9_compare 1 = .ok (.iconst 1, 1) := by decide +kernel
theorem dX9_compare_2 : decode cX9_compare 2 = .ok (.if_icmp .lt 22, 3) := by decide +kernel
theorem dX9_compare_5 : decode cX9_compare 5 = .ok (.iload_n 1, 1) := by decide +kernel
theorem dX9_compare_6 : decode cX9_compare 6 = .ok (.sipush 1000, 3) := by decide +kernel
theorem dX9_compare_9 : decode cX9_compare 9 = .ok (.if_icmp .gt 15, 3) := by decide +kernel
theorem dX9_compare_12 : decode cX9_compare 12 = .ok (.iload_n 3, 1) := by decide +kernel
theorem dX9_compare_13 : decode cX9_compare 13 = .ok (.iconst 1, 1) := by decide +kernel
theorem dX9_compare_14 : decode cX9_compare 14 = .ok (.if_icmp .lt 10, 3) := by decide +kernel
theorem dX9_compare_17 : decode cX9_compare 17 = .ok (.iload_n 3, 1) := by decide +kernel
theorem dX9_compare_18 : decode cX9_compare 18 = .ok (.sipush 1000, 3) := by decide +kernel
theorem dX9_compare_21 : decode cX9_compare 21 = .ok (.if_icmp .le 6, 3) := by decide +kernel
theorem dX9_compare_24 : decode cX9_compare 24 = .ok (.bipush (-2), 2) := by decide +kernel
theorem dX9_compare_26 : decode cX9_compare 26 = .ok (.ireturn, 1) := by decide +kernel
theorem dX9_compare_27 : decode cX9_compare 27 = .ok (.iload_n 2, 1) := by decide +kernel
theorem dX9_compare_28 : decode cX9_compare 28 = .ok (.iconst 1, 1) := by decide +kernel
theorem dX9_compare_29 : decode cX9_compare 29 = .ok (.if_icmp .lt 22, 3) := by decide +kernel
theorem dX9_compare_32 : decode cX9_compare 32 = .ok (.iload_n 2, 1) := by decide +kernel
theorem dX9_compare_33 : decode cX9_compare 33 = .ok (.bipush 12, 2) := by decide +kernel
theorem dX9_compare_35 : decode cX9_compare 35 = .ok (.if_icmp .gt 16, 3) := by decide +kernel
theorem dX9_compare_38 : decode cX9_compare 38 = .ok (.iload 4, 2) := by decide +kernel
theorem dX9_compare_40 : decode cX9_compare 40 = .ok (.iconst 1, 1) := by decide +kernel
theorem dX9_compare_41 : decode cX9_compare 41 = .ok (.if_icmp .lt 10, 3) := by decide +kernel
theorem dX9_compare_44 : decode cX9_compare 44 = .ok (.iload 4, 2) := by decide +kernel
theorem dX9_compare_46 : decode cX9_compare 46 = .ok (.bipush 12, 2) := by decide +kernel
theorem dX9_compare_48 : decode cX9_compare 48 = .ok (.if_icmp .le 6, 3) := by decide +kernel
theorem dX9_compare_51 : decode cX9_compare 51 = .ok (.bipush (-2), 2) := by decide +kernel
theorem dX9_compare_53 : decode cX9_compare 53 = .ok (.ireturn, 1) := by decide +kernel
theorem dX9_compare_54 : decode cX9_compare 54 = .ok (.aload_n 0, 1) := by decide +kernel
theorem dX9_compare_55 : decode cX9_compare 55 = .ok (.getfield 57, 3) := by decide +kernel
theorem dX9_compare_58 : decode cX9_compare 58 = .ok (.iload_n 1, 1) := by decide +kernel
theorem dX9_compare_59 : decode cX9_compare 59 = .ok (.iload_n 2, 1) := by decide +kernel
theorem dX9_compare_60 : decode cX9_compare 60 = .ok (.iload_n 3, 1) := by decide +kernel
theorem dX9_compare_61 : decode cX9_compare 61 = .ok (.iload 4, 2) := by decide +kernel
theorem dX9_compare_63 : decode cX9_compare 63 = .ok (.invokevirtual 239, 3) := by decide +kernel
theorem dX9_compare_66 : decode cX9_compare 66 = .ok (.ireturn, 1) := by decide +kernel
theorem dX9_best_0 : decode cX9_best 0 = .ok (.aload_n 0, 1) := by decide +kernel
theorem dX9_best_1 : decode cX9_best 1 = .ok (.iload_n 1, 1) := by decide +kernel
theorem dX9_best_2 : decode cX9_best 2 = .ok (.invokevirtual 100, 3) := by decide +kernel
theorem dX9_best_5 : decode cX9_best 5 = .ok (.astore_n 2, 1) := by decide +kernel
theorem dX9_best_6 : decode cX9_best 6 = .ok (.aload_n 2, 1) := by decide +kernel
theorem dX9_best_7 : decode cX9_best 7 = .ok (.ifnonnull 6, 3) := by decide +kernel
theorem dX9_best_10 : decode cX9_best 10 = .ok (.bipush (-2), 2) := by decide +kernel
theorem dX9_best_12 : decode cX9_best 12 = .ok (.ireturn, 1) := by decide +kernel
theorem dX9_best_13 : decode cX9_best 13 = .ok (.aload_n 0, 1) := by decide +kernel
theorem dX9_best_14 : decode cX9_best 14 = .ok (.aload_n 2, 1) := by decide +kernel
theorem dX9_best_15 : decode cX9_best 15 = .ok (.invokevirtual 243, 3) := by decide +kernel
theorem dX9_best_18 : decode cX9_best 18 = .ok (.aload_n 0, 1) := by decide +kernel
theorem dX9_best_19 : decode cX9_best 19 = .ok (.getfield 57, 3) := by decide +kernel
theorem dX9_best_22 : decode cX9_best 22 = .ok (.getfield 247, 3) := by decide +kernel
theorem dX9_best_25 : decode cX9_best 25 = .ok (.ireturn, 1) := by decide +kernel
theorem dX9_met_0 : decode cX9_met 0 = .ok (.aload_n 0, 1) := by decide +kernel
theorem dX9_met_1 : decode cX9_met 1 = .ok (.iload_n 1, 1) := by decide +kernel
theorem dX9_met_2 : decode cX9_met 2 = .ok (.invokevirtual 100, 3) := by decide +kernel
theorem dX9_met_5 : decode cX9_met 5 = .ok (.astore_n 2, 1) := by decide +kernel
theorem dX9_met_6 : decode cX9_met 6 = .ok (.aload_n 2, 1) := by decide +kernel
theorem dX9_met_7 : decode cX9_met 7 = .ok (.ifnonnull 6, 3) := by decide +kernel
theorem dX9_met_10 : decode cX9_met 10 = .ok (.bipush (-2), 2) := by decide +kernel
theorem dX9_met_12 : decode cX9_met 12 = .ok (.ireturn, 1) := by decide +kernel
theorem dX9_met_13 : decode cX9_met 13 = .ok (.aload_n 0, 1) := by decide +kernel
theorem dX9_met_14 : decode cX9_met 14 = .ok (.aload_n 2, 1) := by decide +kernel
theorem dX9_met_15 : decode cX9_met 15 = .ok (.invokevirtual 243, 3) := by decide +kernel
theorem dX9_met_18 : decode cX9_met 18 = .ok (.iconst 0, 1) := by decide +kernel
theorem dX9_met_19 : decode cX9_met 19 = .ok (.istore_n 3, 1) := by decide +kernel
theorem dX9_met_20 : decode cX9_met 20 = .ok (.aload_n 0, 1) := by decide +kernel
theorem dX9_met_21 : decode cX9_met 21 = .ok (.getfield 57, 3) := by decide +kernel
theorem dX9_met_24 : decode cX9_met 24 = .ok (.aload_n 0, 1) := by decide +kernel
theorem dX9_met_25 : decode cX9_met 25 = .ok (.getfield 57, 3) := by decide +kernel
theorem dX9_met_28 : decode cX9_met 28 = .ok (.getfield 250, 3) := by decide +kernel
theorem dX9_met_31 : decode cX9_met 31 = .ok (.aload_n 0, 1) := by decide +kernel
theorem dX9_met_32 : decode cX9_met 32 = .ok (.aload_n 2, 1) := by decide +kernel
theorem dX9_met_33 : decode cX9_met 33 = .ok (.invokevirtual 212, 3) := by decide +kernel
theorem dX9_met_36 : decode cX9_met 36 = .ok (.aload_n 0, 1) := by decide +kernel
theorem dX9_met_37 : decode cX9_met 37 = .ok (.getfield 57, 3) := by decide +kernel
theorem dX9_met_40 : decode cX9_met 40 = .ok (.getfield 247, 3) := by decide +kernel
theorem dX9_met_43 : decode cX9_met 43 = .ok (.invokevirtual 253, 3) := by decide +kernel
theorem dX9_met_46 : decode cX9_met 46 = .ok (.ifCond .eq 7, 3) := by decide +kernel
theorem dX9_met_49 : decode cX9_met 49 = .ok (.iload_n 3, 1) := by decide +kernel
theorem dX9_met_50 : decode cX9_met 50 = .ok (.iconst 1, 1) := by decide +kernel
theorem dX9_met_51 : decode cX9_met 51 = .ok (.ior, 1) := by decide +kernel
theorem dX9_met_52 : decode cX9_met 52 = .ok (.istore_n 3, 1) := by decide +kernel
theorem dX9_met_53 : decode cX9_met 53 = .ok (.aload_n 0, 1) := by decide +kernel
theorem dX9_met_54 : decode cX9_met 54 = .ok (.getfield 50, 3) := by decide +kernel
theorem dX9_met_57 : decode cX9_met 57 = .ok (.aload_n 2, 1) := by decide +kernel
theorem dX9_met_58 : decode cX9_met 58 = .ok (.invokevirtual 226, 3) := by decide +kernel
theorem dX9_met_61 : decode cX9_met 61 = .ok (.ifCond .eq 49, 3) := by decide +kernel
theorem dX9_met_64 : decode cX9_met 64 = .ok (.aload_n 0, 1) := by decide +kernel
theorem dX9_met_65 : decode cX9_met 65 = .ok (.getfield 50, 3) := by decide +kernel
theorem dX9_met_68 : decode cX9_met 68 = .ok (.getfield 233, 3) := by decide +kernel
theorem dX9_met_71 : decode cX9_met 71 = .ok (.iconst 1, 1) := by decide +kernel
theorem dX9_met_72 : decode cX9_met 72 = .ok (.if_icmp .ne 38, 3) := by decide +kernel
theorem dX9_met_75 : decode cX9_met 75 = .ok (.aload_n 0, 1) := by decide +kernel
theorem dX9_met_76 : decode cX9_met 76 = .ok (.getfield 57, 3) := by decide +kernel
theorem dX9_met_79 : decode cX9_met 79 = .ok (.aload_n 0, 1) := by decide +kernel
theorem dX9_met_80 : decode cX9_met 80 = .ok (.getfield 57, 3) := by decide +kernel
theorem dX9_met_83 : decode cX9_met 83 = .ok (.getfield 250, 3) := by decide +kernel
theorem dX9_met_86 : decode cX9_met 86 = .ok (.aload_n 0, 1) := by decide +kernel
theorem dX9_met_87 : decode cX9_met 87 = .ok (.getfield 50, 3) := by decide +kernel
theorem dX9_met_90 : decode cX9_met 90 = .ok (.getfield 230, 3) := by decide +kernel
theorem dX9_met_93 : decode cX9_met 93 = .ok (.aload_n 0, 1) := by decide +kernel
theorem dX9_met_94 : decode cX9_met 94 = .ok (.getfield 57, 3) := by decide +kernel
theorem dX9_met_97 : decode cX9_met 97 = .ok (.getfield 247, 3) := by decide +kernel
theorem dX9_met_100 : decode cX9_met 100 = .ok (.invokevirtual 253, 3) := by decide +kernel
theorem dX9_met_103 : decode cX9_met 103 = .ok (.ifCond .eq 7, 3) := by decide +kernel
theorem dX9_met_106 : decode cX9_met 106 = .ok (.iload_n 3, 1) := by decide +kernel
theorem dX9_met_107 : decode cX9_met 107 = .ok (.iconst 2, 1) := by decide +kernel
theorem dX9_met_108 : decode cX9_met 108 = .ok (.ior, 1) := by decide +kernel
theorem dX9_met_109 : decode cX9_met 109 = .ok (.istore_n 3, 1) := by decide +kernel
theorem dX9_met_110 : decode cX9_met 110 = .ok (.iload_n 3, 1) := by decide +kernel
theorem dX9_met_111 : decode cX9_met 111 = .ok (.ireturn, 1) := by decide +kernel
theorem dX9_came_0 : decode cX9_came 0 = .ok (.aload_n 0, 1) := by decide +kernel
theorem dX9_came_1 : decode cX9_came 1 = .ok (.getfield 19, 3) := by decide +kernel
theorem dX9_came_4 : decode cX9_came 4 = .ok (.aload_n 0, 1) := by decide +kernel
theorem dX9_came_5 : decode cX9_came 5 = .ok (.getfield 10, 3) := by decide +kernel
theorem dX9_came_8 : decode cX9_came 8 = .ok (.invokevirtual 257, 3) := by decide +kernel
theorem dX9_came_11 : decode cX9_came 11 = .ok (.istore_n 2, 1) := by decide +kernel
theorem dX9_came_12 : decode cX9_came 12 = .ok (.aload_n 0, 1) := by decide +kernel
theorem dX9_came_13 : decode cX9_came 13 = .ok (.getfield 10, 3) := by decide +kernel
theorem dX9_came_16 : decode cX9_came 16 = .ok (.invokevirtual 124, 3) := by decide +kernel
theorem dX9_came_19 : decode cX9_came 19 = .ok (.aload_n 0, 1) := by decide +kernel
theorem dX9_came_20 : decode cX9_came 20 = .ok (.iload_n 1, 1) := by decide +kernel
theorem dX9_came_21 : decode cX9_came 21 = .ok (.invokevirtual 100, 3) := by decide +kernel
theorem dX9_came_24 : decode cX9_came 24 = .ok (.astore_n 3, 1) := by decide +kernel
theorem dX9_came_25 : decode cX9_came 25 = .ok (.aload_n 3, 1) := by decide +kernel
theorem dX9_came_26 : decode cX9_came 26 = .ok (.ifnonnull 6, 3) := by decide +kernel
theorem dX9_came_29 : decode cX9_came 29 = .ok (.bipush (-2), 2) := by decide +kernel
theorem dX9_came_31 : decode cX9_came 31 = .ok (.ireturn, 1) := by decide +kernel
theorem dX9_came_32 : decode cX9_came 32 = .ok (.aload_n 3, 1) := by decide +kernel
theorem dX9_came_33 : decode cX9_came 33 = .ok (.getfield 111, 3) := by decide +kernel
theorem dX9_came_36 : decode cX9_came 36 = .ok (.iconst 1, 1) := by decide +kernel
theorem dX9_came_37 : decode cX9_came 37 = .ok (.if_icmp .ne 28, 3) := by decide +kernel
theorem dX9_came_40 : decode cX9_came 40 = .ok (.aload_n 0, 1) := by decide +kernel
theorem dX9_came_41 : decode cX9_came 41 = .ok (.getfield 71, 3) := by decide +kernel
theorem dX9_came_44 : decode cX9_came 44 = .ok (.getfield 261, 3) := by decide +kernel
theorem dX9_came_47 : decode cX9_came 47 = .ok (.iload_n 1, 1) := by decide +kernel
theorem dX9_came_48 : decode cX9_came 48 = .ok (.if_icmp .ne 17, 3) := by decide +kernel
theorem dX9_came_51 : decode cX9_came 51 = .ok (.aload_n 0, 1) := by decide +kernel
theorem dX9_came_52 : decode cX9_came 52 = .ok (.getfield 71, 3) := by decide +kernel
theorem dX9_came_55 : decode cX9_came 55 = .ok (.getfield 264, 3) := by decide +kernel
theorem dX9_came_58 : decode cX9_came 58 = .ok (.aload_n 3, 1) := by decide +kernel
theorem dX9_came_59 : decode cX9_came 59 = .ok (.getfield 196, 3) := by decide +kernel
theorem dX9_came_62 : decode cX9_came 62 = .ok (.if_icmp .eq 6, 3) := by decide +kernel
theorem dX9_came_65 : decode cX9_came 65 = .ok (.bipush (-4), 2) := by decide +kernel
theorem dX9_came_67 : decode cX9_came 67 = .ok (.ireturn, 1) := by decide +kernel
theorem dX9_came_68 : decode cX9_came 68 = .ok (.iload_n 2, 1) := by decide +kernel
theorem dX9_came_69 : decode cX9_came 69 = .ok (.aload_n 0, 1) := by decide +kernel
theorem dX9_came_70 : decode cX9_came 70 = .ok (.getfield 71, 3) := by decide +kernel
theorem dX9_came_73 : decode cX9_came 73 = .ok (.getfield 265, 3) := by decide +kernel
theorem dX9_came_76 : decode cX9_came 76 = .ok (.if_icmp .eq 5, 3) := by decide +kernel
theorem dX9_came_79 : decode cX9_came 79 = .ok (.iconst (-1), 1) := by decide +kernel
theorem dX9_came_80 : decode cX9_came 80 = .ok (.ireturn, 1) := by decide +kernel
theorem dX9_came_81 : decode cX9_came 81 = .ok (.iconst 0, 1) := by decide +kernel
theorem dX9_came_82 : decode cX9_came 82 = .ok (.istore 4, 2) := by decide +kernel
theorem dX9_came_84 : decode cX9_came 84 = .ok (.iconst 0, 1) := by decide +kernel
theorem dX9_came_85 : decode cX9_came 85 = .ok (.istore 5, 2) := by decide +kernel
theorem dX9_came_87 : decode cX9_came 87 = .ok (.iload 5, 2) := by decide +kernel
theorem dX9_came_89 : decode cX9_came 89 = .ok (.aload_n 0, 1) := by decide +kernel
theorem dX9_came_90 : decode cX9_came 90 = .ok (.getfield 71, 3) := by decide +kernel
theorem dX9_came_93 : decode cX9_came 93 = .ok (.getfield 203, 3) := by decide +kernel
theorem dX9_came_96 : decode cX9_came 96 = .ok (.if_icmp .ge 49, 3) := by decide +kernel
theorem dX9_came_99 : decode cX9_came 99 = .ok (.aload_n 0, 1) := by decide +kernel
theorem dX9_came_100 : decode cX9_came 100 = .ok (.aload_n 3, 1) := by decide +kernel
theorem dX9_came_101 : decode cX9_came 101 = .ok (.aload_n 0, 1) := by decide +kernel
theorem dX9_came_102 : decode cX9_came 102 = .ok (.getfield 71, 3) := by decide +kernel
theorem dX9_came_105 : decode cX9_came 105 = .ok (.getfield 206, 3) := by decide +kernel
theorem dX9_came_108 : decode cX9_came 108 = .ok (.iload 5, 2) := by decide +kernel
theorem dX9_came_110 : decode cX9_came 110 = .ok (.iaload, 1) := by decide +kernel
theorem dX9_came_111 : decode cX9_came 111 = .ok (.invokevirtual 266, 3) := by decide +kernel
theorem dX9_came_114 : decode cX9_came 114 = .ok (.ifCond .eq 25, 3) := by decide +kernel
theorem dX9_came_117 : decode cX9_came 117 = .ok (.iload 4, 2) := by decide +kernel
theorem dX9_came_119 : decode cX9_came 119 = .ok (.ifCond .ne 17, 3) := by decide +kernel
theorem dX9_came_122 : decode cX9_came 122 = .ok (.aload_n 0, 1) := by decide +kernel
theorem dX9_came_123 : decode cX9_came 123 = .ok (.aload_n 0, 1) := by decide +kernel
theorem dX9_came_124 : decode cX9_came 124 = .ok (.getfield 71, 3) := by decide +kernel
theorem dX9_came_127 : decode cX9_came 127 = .ok (.getfield 206, 3) := by decide +kernel
theorem dX9_came_130 : decode cX9_came 130 = .ok (.iload 5, 2) := by decide +kernel
theorem dX9_came_132 : decode cX9_came 132 = .ok (.iaload, 1) := by decide +kernel
theorem dX9_came_133 : decode cX9_came 133 = .ok (.putfield 82, 3) := by decide +kernel
theorem dX9_came_136 : decode cX9_came 136 = .ok (.iinc 4 1, 3) := by decide +kernel
theorem dX9_came_139 : decode cX9_came 139 = .ok (.iinc 5 1, 3) := by decide +kernel
theorem dX9_came_142 : decode cX9_came 142 = .ok (.goto (-55), 3) := by decide +kernel
theorem dX9_came_145 : decode cX9_came 145 = .ok (.iload 4, 2) := by decide +kernel
theorem dX9_came_147 : decode cX9_came 147 = .ok (.ireturn, 1) := by decide +kernel
theorem dX9_sent_0 : decode cX9_sent 0 = .ok (.aload_n 0, 1) := by decide +kernel
theorem dX9_sent_1 : decode cX9_sent 1 = .ok (.getfield 82, 3) := by decide +kernel
theorem dX9_sent_4 : decode cX9_sent 4 = .ok (.ireturn, 1) := by decide +kernel
theorem dX9_list_0 : decode cX9_list 0 = .ok (.aload_n 0, 1) := by decide +kernel
theorem dX9_list_1 : decode cX9_list 1 = .ok (.iload_n 1, 1) := by decide +kernel
theorem dX9_list_2 : decode cX9_list 2 = .ok (.invokevirtual 100, 3) := by decide +kernel
theorem dX9_list_5 : decode cX9_list 5 = .ok (.astore_n 3, 1) := by decide +kernel
theorem dX9_list_6 : decode cX9_list 6 = .ok (.aload_n 3, 1) := by decide +kernel
theorem dX9_list_7 : decode cX9_list 7 = .ok (.ifnull 14, 3) := by decide +kernel
theorem dX9_list_10 : decode cX9_list 10 = .ok (.iload_n 2, 1) := by decide +kernel
theorem dX9_list_11 : decode cX9_list 11 = .ok (.iconst 1, 1) := by decide +kernel
theorem dX9_list_12 : decode cX9_list 12 = .ok (.if_icmp .lt 9, 3) := by decide +kernel
theorem dX9_list_15 : decode cX9_list 15 = .ok (.iload_n 2, 1) := by decide +kernel
theorem dX9_list_16 : decode cX9_list 16 = .ok (.bipush 24, 2) := by decide +kernel
theorem dX9_list_18 : decode cX9_list 18 = .ok (.if_icmp .le 6, 3) := by decide +kernel
theorem dX9_list_21 : decode cX9_list 21 = .ok (.bipush (-2), 2) := by decide +kernel
theorem dX9_list_23 : decode cX9_list 23 = .ok (.ireturn, 1) := by decide +kernel
theorem dX9_list_24 : decode cX9_list 24 = .ok (.aload_n 3, 1) := by decide +kernel
theorem dX9_list_25 : decode cX9_list 25 = .ok (.getfield 111, 3) := by decide +kernel
theorem dX9_list_28 : decode cX9_list 28 = .ok (.iconst 1, 1) := by decide +kernel
theorem dX9_list_29 : decode cX9_list 29 = .ok (.if_icmp .eq 6, 3) := by decide +kernel
theorem dX9_list_32 : decode cX9_list 32 = .ok (.bipush (-4), 2) := by decide +kernel
theorem dX9_list_34 : decode cX9_list 34 = .ok (.ireturn, 1) := by decide +kernel
theorem dX9_list_35 : decode cX9_list 35 = .ok (.aload_n 3, 1) := by decide +kernel
theorem dX9_list_36 : decode cX9_list 36 = .ok (.getfield 144, 3) := by decide +kernel
theorem dX9_list_39 : decode cX9_list 39 = .ok (.bipush 16, 2) := by decide +kernel
theorem dX9_list_41 : decode cX9_list 41 = .ok (.if_icmp .le 6, 3) := by decide +kernel
theorem dX9_list_44 : decode cX9_list 44 = .ok (.bipush (-3), 2) := by decide +kernel
theorem dX9_list_46 : decode cX9_list 46 = .ok (.ireturn, 1) := by decide +kernel
theorem dX9_list_47 : decode cX9_list 47 = .ok (.aload_n 0, 1) := by decide +kernel
theorem dX9_list_48 : decode cX9_list 48 = .ok (.aload_n 0, 1) := by decide +kernel
theorem dX9_list_49 : decode cX9_list 49 = .ok (.getfield 64, 3) := by decide +kernel
theorem dX9_list_52 : decode cX9_list 52 = .ok (.aload_n 3, 1) := by decide +kernel
theorem dX9_list_53 : decode cX9_list 53 = .ok (.iload_n 2, 1) := by decide +kernel
theorem dX9_list_54 : decode cX9_list 54 = .ok (.invokevirtual 270, 3) := by decide +kernel
theorem dX9_list_57 : decode cX9_list 57 = .ok (.putfield 85, 3) := by decide +kernel
theorem dX9_list_60 : decode cX9_list 60 = .ok (.aload_n 0, 1) := by decide +kernel
theorem dX9_list_61 : decode cX9_list 61 = .ok (.getfield 85, 3) := by decide +kernel
theorem dX9_list_64 : decode cX9_list 64 = .ok (.invokestatic 273, 3) := by decide +kernel
theorem dX9_list_67 : decode cX9_list 67 = .ok (.ireturn, 1) := by decide +kernel
theorem dX9_listed_0 : decode cX9_listed 0 = .ok (.aload_n 0, 1) := by decide +kernel
theorem dX9_listed_1 : decode cX9_listed 1 = .ok (.getfield 85, 3) := by decide +kernel
theorem dX9_listed_4 : decode cX9_listed 4 = .ok (.ireturn, 1) := by decide +kernel
theorem dX9_count_0 : decode cX9_count 0 = .ok (.iload_n 1, 1) := by decide +kernel
theorem dX9_count_1 : decode cX9_count 1 = .ok (.tableswitch 77 0 3 #[31, 39, 61, 69], 31) := by decide +kernel
theorem dX9_count_32 : decode cX9_count 32 = .ok (.aload_n 0, 1) := by decide +kernel
theorem dX9_count_33 : decode cX9_count 33 = .ok (.getfield 10, 3) := by decide +kernel
theorem dX9_count_36 : decode cX9_count 36 = .ok (.getfield 97, 3) := by decide +kernel
theorem dX9_count_39 : decode cX9_count 39 = .ok (.ireturn, 1) := by decide +kernel
theorem dX9_count_40 : decode cX9_count 40 = .ok (.aload_n 0, 1) := by decide +kernel
theorem dX9_count_41 : decode cX9_count 41 = .ok (.getfield 71, 3) := by decide +kernel
theorem dX9_count_44 : decode cX9_count 44 = .ok (.getfield 203, 3) := by decide +kernel
theorem dX9_count_47 : decode cX9_count 47 = .ok (.ifCond .le 13, 3) := by decide +kernel
theorem dX9_count_50 : decode cX9_count 50 = .ok (.aload_n 0, 1) := by decide +kernel
theorem dX9_count_51 : decode cX9_count 51 = .ok (.getfield 71, 3) := by decide +kernel
theorem dX9_count_54 : decode cX9_count 54 = .ok (.getfield 203, 3) := by decide +kernel
theorem dX9_count_57 : decode cX9_count 57 = .ok (.goto 4, 3) := by decide +kernel
theorem dX9_count_60 : decode cX9_count 60 = .ok (.iconst (-1), 1) := by decide +kernel
theorem dX9_count_61 : decode cX9_count 61 = .ok (.ireturn, 1) := by decide +kernel
theorem dX9_count_62 : decode cX9_count 62 = .ok (.aload_n 0, 1) := by decide +kernel
theorem dX9_count_63 : decode cX9_count 63 = .ok (.getfield 71, 3) := by decide +kernel
theorem dX9_count_66 : decode cX9_count 66 = .ok (.getfield 265, 3) := by decide +kernel
theorem dX9_count_69 : decode cX9_count 69 = .ok (.ireturn, 1) := by decide +kernel
theorem dX9_count_70 : decode cX9_count 70 = .ok (.aload_n 0, 1) := by decide +kernel
theorem dX9_count_71 : decode cX9_count 71 = .ok (.getfield 71, 3) := by decide +kernel
theorem dX9_count_74 : decode cX9_count 74 = .ok (.getfield 261, 3) := by decide +kernel
theorem dX9_count_77 : decode cX9_count 77 = .ok (.ireturn, 1) := by decide +kernel
theorem dX9_count_78 : decode cX9_count 78 = .ok (.iconst (-1), 1) := by decide +kernel
theorem dX9_count_79 : decode cX9_count 79 = .ok (.ireturn, 1) := by decide +kernel
theorem dX9_lineAt_0 : decode cX9_lineAt 0 = .ok (.iload_n 1, 1) := by decide +kernel
theorem dX9_lineAt_1 : decode cX9_lineAt 1 = .ok (.ifCond .lt 9, 3) := by decide +kernel
theorem dX9_lineAt_4 : decode cX9_lineAt 4 = .ok (.iload_n 1, 1) := by decide +kernel
theorem dX9_lineAt_5 : decode cX9_lineAt 5 = .ok (.bipush 8, 2) := by decide +kernel
theorem dX9_lineAt_7 : decode cX9_lineAt 7 = .ok (.if_icmp .lt 7, 3) := by decide +kernel
theorem dX9_lineAt_10 : decode cX9_lineAt 10 = .ok (.aconst_null, 1) := by decide +kernel
theorem dX9_lineAt_11 : decode cX9_lineAt 11 = .ok (.goto 9, 3) := by decide +kernel
theorem dX9_lineAt_14 : decode cX9_lineAt 14 = .ok (.aload_n 0, 1) := by decide +kernel
theorem dX9_lineAt_15 : decode cX9_lineAt 15 = .ok (.getfield 25, 3) := by decide +kernel
theorem dX9_lineAt_18 : decode cX9_lineAt 18 = .ok (.iload_n 1, 1) := by decide +kernel
theorem dX9_lineAt_19 : decode cX9_lineAt 19 = .ok (.aaload, 1) := by decide +kernel
theorem dX9_lineAt_20 : decode cX9_lineAt 20 = .ok (.areturn, 1) := by decide +kernel
theorem dX9_isLength_0 : decode cX9_isLength 0 = .ok (.iload_n 0, 1) := by decide +kernel
theorem dX9_isLength_1 : decode cX9_isLength 1 = .ok (.iconst 1, 1) := by decide +kernel
theorem dX9_isLength_2 : decode cX9_isLength 2 = .ok (.if_icmp .lt 13, 3) := by decide +kernel
theorem dX9_isLength_5 : decode cX9_isLength 5 = .ok (.iload_n 0, 1) := by decide +kernel
theorem dX9_isLength_6 : decode cX9_isLength 6 = .ok (.bipush 6, 2) := by decide +kernel
theorem dX9_isLength_8 : decode cX9_isLength 8 = .ok (.if_icmp .gt 7, 3) := by decide +kernel
theorem dX9_isLength_11 : decode cX9_isLength 11 = .ok (.iconst 1, 1) := by decide +kernel
theorem dX9_isLength_12 : decode cX9_isLength 12 = .ok (.goto 4, 3) := by decide +kernel
theorem dX9_isLength_15 : decode cX9_isLength 15 = .ok (.iconst 0, 1) := by decide +kernel
theorem dX9_isLength_16 : decode cX9_isLength 16 = .ok (.ireturn, 1) := by decide +kernel
theorem dX9_quotient_0 : decode cX9_quotient 0 = .ok (.iload_n 1, 1) := by decide +kernel
theorem dX9_quotient_1 : decode cX9_quotient 1 = .ok (.iconst 1, 1) := by decide +kernel
theorem dX9_quotient_2 : decode cX9_quotient 2 = .ok (.if_icmp .ge 7, 3) := by decide +kernel
theorem dX9_quotient_5 : decode cX9_quotient 5 = .ok (.iconst 0, 1) := by decide +kernel
theorem dX9_quotient_6 : decode cX9_quotient 6 = .ok (.goto 6, 3) := by decide +kernel
theorem dX9_quotient_9 : decode cX9_quotient 9 = .ok (.iload_n 0, 1) := by decide +kernel
theorem dX9_quotient_10 : decode cX9_quotient 10 = .ok (.iload_n 1, 1) := by decide +kernel
theorem dX9_quotient_11 : decode cX9_quotient 11 = .ok (.idiv, 1) := by decide +kernel
theorem dX9_quotient_12 : decode cX9_quotient 12 = .ok (.ireturn, 1) := by decide +kernel
theorem dX9_remainder_0 : decode cX9_remainder 0 = .ok (.iload_n 1, 1) := by decide +kernel
theorem dX9_remainder_1 : decode cX9_remainder 1 = .ok (.iconst 1, 1) := by decide +kernel
theorem dX9_remainder_2 : decode cX9_remainder 2 = .ok (.if_icmp .ge 7, 3) := by decide +kernel
theorem dX9_remainder_5 : decode cX9_remainder 5 = .ok (.iconst 0, 1) := by decide +kernel
theorem dX9_remainder_6 : decode cX9_remainder 6 = .ok (.goto 6, 3) := by decide +kernel
theorem dX9_remainder_9 : decode cX9_remainder 9 = .ok (.iload_n 0, 1) := by decide +kernel
theorem dX9_remainder_10 : decode cX9_remainder 10 = .ok (.iload_n 1, 1) := by decide +kernel
theorem dX9_remainder_11 : decode cX9_remainder 11 = .ok (.irem, 1) := by decide +kernel
theorem dX9_remainder_12 : decode cX9_remainder 12 = .ok (.ireturn, 1) := by decide +kernel
theorem dX9_lowest_0 : decode cX9_lowest 0 = .ok (.lload_n 0, 1) := by decide +kernel
theorem dX9_lowest_1 : decode cX9_lowest 1 = .ok (.lload_n 0, 1) := by decide +kernel
theorem dX9_lowest_2 : decode cX9_lowest 2 = .ok (.lneg, 1) := by decide +kernel
theorem dX9_lowest_3 : decode cX9_lowest 3 = .ok (.land, 1) := by decide +kernel
theorem dX9_lowest_4 : decode cX9_lowest 4 = .ok (.lconst 1, 1) := by decide +kernel
theorem dX9_lowest_5 : decode cX9_lowest 5 = .ok (.lsub, 1) := by decide +kernel
theorem dX9_lowest_6 : decode cX9_lowest 6 = .ok (.invokestatic 279, 3) := by decide +kernel
theorem dX9_lowest_9 : decode cX9_lowest 9 = .ok (.ireturn, 1) := by decide +kernel
theorem dX9_wordsInAll_0 : decode cX9_wordsInAll 0 = .ok (.iconst 1, 1) := by decide +kernel
theorem dX9_wordsInAll_1 : decode cX9_wordsInAll 1 = .ok (.istore_n 2, 1) := by decide +kernel
theorem dX9_wordsInAll_2 : decode cX9_wordsInAll 2 = .ok (.iconst 0, 1) := by decide +kernel
theorem dX9_wordsInAll_3 : decode cX9_wordsInAll 3 = .ok (.istore_n 3, 1) := by decide +kernel
theorem dX9_wordsInAll_4 : decode cX9_wordsInAll 4 = .ok (.iload_n 3, 1) := by decide +kernel
theorem dX9_wordsInAll_5 : decode cX9_wordsInAll 5 = .ok (.iload_n 1, 1) := by decide +kernel
theorem dX9_wordsInAll_6 : decode cX9_wordsInAll 6 = .ok (.if_icmp .ge 13, 3) := by decide +kernel
theorem dX9_wordsInAll_9 : decode cX9_wordsInAll 9 = .ok (.iload_n 2, 1) := by decide +kernel
theorem dX9_wordsInAll_10 : decode cX9_wordsInAll 10 = .ok (.iload_n 0, 1) := by decide +kernel
theorem dX9_wordsInAll_11 : decode cX9_wordsInAll 11 = .ok (.imul, 1) := by decide +kernel
theorem dX9_wordsInAll_12 : decode cX9_wordsInAll 12 = .ok (.istore_n 2, 1) := by decide +kernel
theorem dX9_wordsInAll_13 : decode cX9_wordsInAll 13 = .ok (.iinc 3 1, 3) := by decide +kernel
theorem dX9_wordsInAll_16 : decode cX9_wordsInAll 16 = .ok (.goto (-12), 3) := by decide +kernel
theorem dX9_wordsInAll_19 : decode cX9_wordsInAll 19 = .ok (.iload_n 2, 1) := by decide +kernel
theorem dX9_wordsInAll_20 : decode cX9_wordsInAll 20 = .ok (.ireturn, 1) := by decide +kernel
theorem dX9_pairsNear_0 : decode cX9_pairsNear 0 = .ok (.iconst 0, 1) := by decide +kernel
theorem dX9_pairsNear_1 : decode cX9_pairsNear 1 = .ok (.istore 4, 2) := by decide +kernel
theorem dX9_pairsNear_3 : decode cX9_pairsNear 3 = .ok (.iconst 0, 1) := by decide +kernel
theorem dX9_pairsNear_4 : decode cX9_pairsNear 4 = .ok (.istore 5, 2) := by decide +kernel
theorem dX9_pairsNear_6 : decode cX9_pairsNear 6 = .ok (.iload 5, 2) := by decide +kernel
theorem dX9_pairsNear_8 : decode cX9_pairsNear 8 = .ok (.aload_n 0, 1) := by decide +kernel
theorem dX9_pairsNear_9 : decode cX9_pairsNear 9 = .ok (.getfield 144, 3) := by decide +kernel
theorem dX9_pairsNear_12 : decode cX9_pairsNear 12 = .ok (.if_icmp .ge 42, 3) := by decide +kernel
theorem dX9_pairsNear_15 : decode cX9_pairsNear 15 = .ok (.aload_n 0, 1) := by decide +kernel
theorem dX9_pairsNear_16 : decode cX9_pairsNear 16 = .ok (.iload_n 1, 1) := by decide +kernel
theorem dX9_pairsNear_17 : decode cX9_pairsNear 17 = .ok (.iload 5, 2) := by decide +kernel
theorem dX9_pairsNear_19 : decode cX9_pairsNear 19 = .ok (.invokevirtual 179, 3) := by decide +kernel
theorem dX9_pairsNear_22 : decode cX9_pairsNear 22 = .ok (.ifCond .eq 26, 3) := by decide +kernel
theorem dX9_pairsNear_25 : decode cX9_pairsNear 25 = .ok (.iload 4, 2) := by decide +kernel
theorem dX9_pairsNear_27 : decode cX9_pairsNear 27 = .ok (.aload_n 2, 1) := by decide +kernel
theorem dX9_pairsNear_28 : decode cX9_pairsNear 28 = .ok (.getfield 155, 3) := by decide +kernel
theorem dX9_pairsNear_31 : decode cX9_pairsNear 31 = .ok (.iload_n 3, 1) := by decide +kernel
theorem dX9_pairsNear_32 : decode cX9_pairsNear 32 = .ok (.iaload, 1) := by decide +kernel
theorem dX9_pairsNear_33 : decode cX9_pairsNear 33 = .ok (.iconst 1, 1) := by decide +kernel
theorem dX9_pairsNear_34 : decode cX9_pairsNear 34 = .ok (.iload_n 3, 1) := by decide +kernel
theorem dX9_pairsNear_35 : decode cX9_pairsNear 35 = .ok (.ishl, 1) := by decide +kernel
theorem dX9_pairsNear_36 : decode cX9_pairsNear 36 = .ok (.ior, 1) := by decide +kernel
theorem dX9_pairsNear_37 : decode cX9_pairsNear 37 = .ok (.iload 5, 2) := by decide +kernel
theorem dX9_pairsNear_39 : decode cX9_pairsNear 39 = .ok (.aload_n 2, 1) := by decide +kernel
theorem dX9_pairsNear_40 : decode cX9_pairsNear 40 = .ok (.getfield 144, 3) := by decide +kernel
theorem dX9_pairsNear_43 : decode cX9_pairsNear 43 = .ok (.imul, 1) := by decide +kernel
theorem dX9_pairsNear_44 : decode cX9_pairsNear 44 = .ok (.ishl, 1) := by decide +kernel
theorem dX9_pairsNear_45 : decode cX9_pairsNear 45 = .ok (.ior, 1) := by decide +kernel
theorem dX9_pairsNear_46 : decode cX9_pairsNear 46 = .ok (.istore 4, 2) := by decide +kernel
theorem dX9_pairsNear_48 : decode cX9_pairsNear 48 = .ok (.iinc 5 1, 3) := by decide +kernel
theorem dX9_pairsNear_51 : decode cX9_pairsNear 51 = .ok (.goto (-45), 3) := by decide +kernel
theorem dX9_pairsNear_54 : decode cX9_pairsNear 54 = .ok (.iload 4, 2) := by decide +kernel
theorem dX9_pairsNear_56 : decode cX9_pairsNear 56 = .ok (.ireturn, 1) := by decide +kernel
theorem dX9_aboutLetter_0 : decode cX9_aboutLetter 0 = .ok (.iload_n 1, 1) := by decide +kernel
theorem dX9_aboutLetter_1 : decode cX9_aboutLetter 1 = .ok (.bipush 10, 2) := by decide +kernel
theorem dX9_aboutLetter_3 : decode cX9_aboutLetter 3 = .ok (.if_icmp .lt 24, 3) := by decide +kernel
theorem dX9_aboutLetter_6 : decode cX9_aboutLetter 6 = .ok (.iload_n 1, 1) := by decide +kernel
theorem dX9_aboutLetter_7 : decode cX9_aboutLetter 7 = .ok (.bipush 10, 2) := by decide +kernel
theorem dX9_aboutLetter_9 : decode cX9_aboutLetter 9 = .ok (.aload_n 0, 1) := by decide +kernel
theorem dX9_aboutLetter_10 : decode cX9_aboutLetter 10 = .ok (.getfield 144, 3) := by decide +kernel
theorem dX9_aboutLetter_13 : decode cX9_aboutLetter 13 = .ok (.iadd, 1) := by decide +kernel
theorem dX9_aboutLetter_14 : decode cX9_aboutLetter 14 = .ok (.if_icmp .ge 13, 3) := by decide +kernel
theorem dX9_aboutLetter_17 : decode cX9_aboutLetter 17 = .ok (.aload_n 0, 1) := by decide +kernel
theorem dX9_aboutLetter_18 : decode cX9_aboutLetter 18 = .ok (.getfield 155, 3) := by decide +kernel
theorem dX9_aboutLetter_21 : decode cX9_aboutLetter 21 = .ok (.iload_n 1, 1) := by decide +kernel
theorem dX9_aboutLetter_22 : decode cX9_aboutLetter 22 = .ok (.bipush 10, 2) := by decide +kernel
theorem dX9_aboutLetter_24 : decode cX9_aboutLetter 24 = .ok (.isub, 1) := by decide +kernel
theorem dX9_aboutLetter_25 : decode cX9_aboutLetter 25 = .ok (.iaload, 1) := by decide +kernel
theorem dX9_aboutLetter_26 : decode cX9_aboutLetter 26 = .ok (.ireturn, 1) := by decide +kernel
theorem dX9_aboutLetter_27 : decode cX9_aboutLetter 27 = .ok (.aload_n 0, 1) := by decide +kernel
theorem dX9_aboutLetter_28 : decode cX9_aboutLetter 28 = .ok (.getfield 111, 3) := by decide +kernel
theorem dX9_aboutLetter_31 : decode cX9_aboutLetter 31 = .ok (.iconst 1, 1) := by decide +kernel
theorem dX9_aboutLetter_32 : decode cX9_aboutLetter 32 = .ok (.if_icmp .ne 30, 3) := by decide +kernel
theorem dX9_aboutLetter_35 : decode cX9_aboutLetter 35 = .ok (.iload_n 1, 1) := by decide +kernel
theorem dX9_aboutLetter_36 : decode cX9_aboutLetter 36 = .ok (.bipush 40, 2) := by decide +kernel
theorem dX9_aboutLetter_38 : decode cX9_aboutLetter 38 = .ok (.if_icmp .lt 24, 3) := by decide +kernel
theorem dX9_aboutLetter_41 : decode cX9_aboutLetter 41 = .ok (.iload_n 1, 1) := by decide +kernel
theorem dX9_aboutLetter_42 : decode cX9_aboutLetter 42 = .ok (.bipush 40, 2) := by decide +kernel
theorem dX9_aboutLetter_44 : decode cX9_aboutLetter 44 = .ok (.aload_n 0, 1) := by decide +kernel
theorem dX9_aboutLetter_45 : decode cX9_aboutLetter 45 = .ok (.getfield 144, 3) := by decide +kernel
theorem dX9_aboutLetter_48 : decode cX9_aboutLetter 48 = .ok (.iadd, 1) := by decide +kernel
theorem dX9_aboutLetter_49 : decode cX9_aboutLetter 49 = .ok (.if_icmp .ge 13, 3) := by decide +kernel
theorem dX9_aboutLetter_52 : decode cX9_aboutLetter 52 = .ok (.aload_n 0, 1) := by decide +kernel
theorem dX9_aboutLetter_53 : decode cX9_aboutLetter 53 = .ok (.getfield 284, 3) := by decide +kernel
theorem dX9_aboutLetter_56 : decode cX9_aboutLetter 56 = .ok (.iload_n 1, 1) := by decide +kernel
theorem dX9_aboutLetter_57 : decode cX9_aboutLetter 57 = .ok (.bipush 40, 2) := by decide +kernel
theorem dX9_aboutLetter_59 : decode cX9_aboutLetter 59 = .ok (.isub, 1) := by decide +kernel
theorem dX9_aboutLetter_60 : decode cX9_aboutLetter 60 = .ok (.iaload, 1) := by decide +kernel
theorem dX9_aboutLetter_61 : decode cX9_aboutLetter 61 = .ok (.ireturn, 1) := by decide +kernel
theorem dX9_aboutLetter_62 : decode cX9_aboutLetter 62 = .ok (.iconst (-1), 1) := by decide +kernel
theorem dX9_aboutLetter_63 : decode cX9_aboutLetter 63 = .ok (.ireturn, 1) := by decide +kernel
theorem dX9_fewestHeaps_0 : decode cX9_fewestHeaps 0 = .ok (.aload_n 0, 1) := by decide +kernel
theorem dX9_fewestHeaps_1 : decode cX9_fewestHeaps 1 = .ok (.getfield 36, 3) := by decide +kernel
theorem dX9_fewestHeaps_4 : decode cX9_fewestHeaps 4 = .ok (.aload_n 1, 1) := by decide +kernel
theorem dX9_fewestHeaps_5 : decode cX9_fewestHeaps 5 = .ok (.iconst 1, 1) := by decide +kernel
theorem dX9_fewestHeaps_6 : decode cX9_fewestHeaps 6 = .ok (.invokevirtual 185, 3) := by decide +kernel
theorem dX9_fewestHeaps_9 : decode cX9_fewestHeaps 9 = .ok (.aload_n 0, 1) := by decide +kernel
theorem dX9_fewestHeaps_10 : decode cX9_fewestHeaps 10 = .ok (.getfield 36, 3) := by decide +kernel
theorem dX9_fewestHeaps_13 : decode cX9_fewestHeaps 13 = .ok (.invokevirtual 189, 3) := by decide +kernel
theorem dX9_fewestHeaps_16 : decode cX9_fewestHeaps 16 = .ok (.istore_n 2, 1) := by decide +kernel
theorem dX9_fewestHeaps_17 : decode cX9_fewestHeaps 17 = .ok (.aload_n 0, 1) := by decide +kernel
theorem dX9_fewestHeaps_18 : decode cX9_fewestHeaps 18 = .ok (.getfield 36, 3) := by decide +kernel
theorem dX9_fewestHeaps_21 : decode cX9_fewestHeaps 21 = .ok (.aload_n 1, 1) := by decide +kernel
theorem dX9_fewestHeaps_22 : decode cX9_fewestHeaps 22 = .ok (.invokevirtual 285, 3) := by decide +kernel
theorem dX9_fewestHeaps_25 : decode cX9_fewestHeaps 25 = .ok (.aload_n 0, 1) := by decide +kernel
theorem dX9_fewestHeaps_26 : decode cX9_fewestHeaps 26 = .ok (.getfield 43, 3) := by decide +kernel
theorem dX9_fewestHeaps_29 : decode cX9_fewestHeaps 29 = .ok (.aload_n 1, 1) := by decide +kernel
theorem dX9_fewestHeaps_30 : decode cX9_fewestHeaps 30 = .ok (.iload_n 2, 1) := by decide +kernel
theorem dX9_fewestHeaps_31 : decode cX9_fewestHeaps 31 = .ok (.aload_n 0, 1) := by decide +kernel
theorem dX9_fewestHeaps_32 : decode cX9_fewestHeaps 32 = .ok (.getfield 36, 3) := by decide +kernel
theorem dX9_fewestHeaps_35 : decode cX9_fewestHeaps 35 = .ok (.invokevirtual 189, 3) := by decide +kernel
theorem dX9_fewestHeaps_38 : decode cX9_fewestHeaps 38 = .ok (.invokevirtual 288, 3) := by decide +kernel
theorem dX9_fewestHeaps_41 : decode cX9_fewestHeaps 41 = .ok (.ireturn, 1) := by decide +kernel
theorem dX9_findBest_0 : decode cX9_findBest 0 = .ok (.aload_n 0, 1) := by decide +kernel
theorem dX9_findBest_1 : decode cX9_findBest 1 = .ok (.getfield 57, 3) := by decide +kernel
theorem dX9_findBest_4 : decode cX9_findBest 4 = .ok (.iconst 0, 1) := by decide +kernel
theorem dX9_findBest_5 : decode cX9_findBest 5 = .ok (.putfield 247, 3) := by decide +kernel
theorem dX9_findBest_8 : decode cX9_findBest 8 = .ok (.iconst 1, 1) := by decide +kernel
theorem dX9_findBest_9 : decode cX9_findBest 9 = .ok (.istore_n 2, 1) := by decide +kernel
theorem dX9_findBest_10 : decode cX9_findBest 10 = .ok (.iload_n 2, 1) := by decide +kernel
theorem dX9_findBest_11 : decode cX9_findBest 11 = .ok (.bipush 6, 2) := by decide +kernel
theorem dX9_findBest_13 : decode cX9_findBest 13 = .ok (.if_icmp .gt 69, 3) := by decide +kernel
theorem dX9_findBest_16 : decode cX9_findBest 16 = .ok (.iload_n 2, 1) := by decide +kernel
theorem dX9_findBest_17 : decode cX9_findBest 17 = .ok (.iconst 1, 1) := by decide +kernel
theorem dX9_findBest_18 : decode cX9_findBest 18 = .ok (.if_icmp .eq 11, 3) := by decide +kernel
theorem dX9_findBest_21 : decode cX9_findBest 21 = .ok (.aload_n 1, 1) := by decide +kernel
theorem dX9_findBest_22 : decode cX9_findBest 22 = .ok (.getfield 144, 3) := by decide +kernel
theorem dX9_findBest_25 : decode cX9_findBest 25 = .ok (.iconst 1, 1) := by decide +kernel
theorem dX9_findBest_26 : decode cX9_findBest 26 = .ok (.if_icmp .le 7, 3) := by decide +kernel
theorem dX9_findBest_29 : decode cX9_findBest 29 = .ok (.iconst 1, 1) := by decide +kernel
theorem dX9_findBest_30 : decode cX9_findBest 30 = .ok (.goto 4, 3) := by decide +kernel
theorem dX9_findBest_33 : decode cX9_findBest 33 = .ok (.iconst 0, 1) := by decide +kernel
theorem dX9_findBest_34 : decode cX9_findBest 34 = .ok (.istore_n 3, 1) := by decide +kernel
theorem dX9_findBest_35 : decode cX9_findBest 35 = .ok (.iload_n 3, 1) := by decide +kernel
theorem dX9_findBest_36 : decode cX9_findBest 36 = .ok (.ifCond .eq 40, 3) := by decide +kernel
theorem dX9_findBest_39 : decode cX9_findBest 39 = .ok (.aload_n 1, 1) := by decide +kernel
theorem dX9_findBest_40 : decode cX9_findBest 40 = .ok (.getfield 144, 3) := by decide +kernel
theorem dX9_findBest_43 : decode cX9_findBest 43 = .ok (.iload_n 2, 1) := by decide +kernel
theorem dX9_findBest_44 : decode cX9_findBest 44 = .ok (.invokestatic 172, 3) := by decide +kernel
theorem dX9_findBest_47 : decode cX9_findBest 47 = .ok (.bipush 64, 2) := by decide +kernel
theorem dX9_findBest_49 : decode cX9_findBest 49 = .ok (.if_icmp .gt 27, 3) := by decide +kernel
theorem dX9_findBest_52 : decode cX9_findBest 52 = .ok (.aload_n 0, 1) := by decide +kernel
theorem dX9_findBest_53 : decode cX9_findBest 53 = .ok (.getfield 36, 3) := by decide +kernel
theorem dX9_findBest_56 : decode cX9_findBest 56 = .ok (.aload_n 1, 1) := by decide +kernel
theorem dX9_findBest_57 : decode cX9_findBest 57 = .ok (.iload_n 2, 1) := by decide +kernel
theorem dX9_findBest_58 : decode cX9_findBest 58 = .ok (.invokevirtual 185, 3) := by decide +kernel
theorem dX9_findBest_61 : decode cX9_findBest 61 = .ok (.aload_n 0, 1) := by decide +kernel
theorem dX9_findBest_62 : decode cX9_findBest 62 = .ok (.getfield 57, 3) := by decide +kernel
theorem dX9_findBest_65 : decode cX9_findBest 65 = .ok (.aload_n 0, 1) := by decide +kernel
theorem dX9_findBest_66 : decode cX9_findBest 66 = .ok (.getfield 36, 3) := by decide +kernel
theorem dX9_findBest_69 : decode cX9_findBest 69 = .ok (.invokevirtual 189, 3) := by decide +kernel
theorem dX9_findBest_72 : decode cX9_findBest 72 = .ok (.iload_n 2, 1) := by decide +kernel
theorem dX9_findBest_73 : decode cX9_findBest 73 = .ok (.invokevirtual 292, 3) := by decide +kernel
theorem dX9_findBest_76 : decode cX9_findBest 76 = .ok (.iinc 2 1, 3) := by decide +kernel
theorem dX9_findBest_79 : decode cX9_findBest 79 = .ok (.goto (-69), 3) := by decide +kernel
theorem dX9_findBest_82 : decode cX9_findBest 82 = .ok (.return_, 1) := by decide +kernel
theorem dX9_couldMake_0 : decode cX9_couldMake 0 = .ok (.iload_n 2, 1) := by decide +kernel
theorem dX9_couldMake_1 : decode cX9_couldMake 1 = .ok (.istore_n 3, 1) := by decide +kernel
theorem dX9_couldMake_2 : decode cX9_couldMake 2 = .ok (.aload_n 0, 1) := by decide +kernel
theorem dX9_couldMake_3 : decode cX9_couldMake 3 = .ok (.getfield 71, 3) := by decide +kernel
theorem dX9_couldMake_6 : decode cX9_couldMake 6 = .ok (.getfield 265, 3) := by decide +kernel
theorem dX9_couldMake_9 : decode cX9_couldMake 9 = .ok (.iconst 1, 1) := by decide +kernel
theorem dX9_couldMake_10 : decode cX9_couldMake 10 = .ok (.isub, 1) := by decide +kernel
theorem dX9_couldMake_11 : decode cX9_couldMake 11 = .ok (.istore 4, 2) := by decide +kernel
theorem dX9_couldMake_13 : decode cX9_couldMake 13 = .ok (.iload 4, 2) := by decide +kernel
theorem dX9_couldMake_15 : decode cX9_couldMake 15 = .ok (.ifCond .lt 51, 3) := by decide +kernel
theorem dX9_couldMake_18 : decode cX9_couldMake 18 = .ok (.iload_n 3, 1) := by decide +kernel
theorem dX9_couldMake_19 : decode cX9_couldMake 19 = .ok (.aload_n 1, 1) := by decide +kernel
theorem dX9_couldMake_20 : decode cX9_couldMake 20 = .ok (.getfield 144, 3) := by decide +kernel
theorem dX9_couldMake_23 : decode cX9_couldMake 23 = .ok (.invokestatic 176, 3) := by decide +kernel
theorem dX9_couldMake_26 : decode cX9_couldMake 26 = .ok (.istore 5, 2) := by decide +kernel
theorem dX9_couldMake_28 : decode cX9_couldMake 28 = .ok (.aload_n 1, 1) := by decide +kernel
theorem dX9_couldMake_29 : decode cX9_couldMake 29 = .ok (.getfield 284, 3) := by decide +kernel
theorem dX9_couldMake_32 : decode cX9_couldMake 32 = .ok (.iload 5, 2) := by decide +kernel
theorem dX9_couldMake_34 : decode cX9_couldMake 34 = .ok (.iaload, 1) := by decide +kernel
theorem dX9_couldMake_35 : decode cX9_couldMake 35 = .ok (.aload_n 0, 1) := by decide +kernel
theorem dX9_couldMake_36 : decode cX9_couldMake 36 = .ok (.getfield 19, 3) := by decide +kernel
theorem dX9_couldMake_39 : decode cX9_couldMake 39 = .ok (.getfield 137, 3) := by decide +kernel
theorem dX9_couldMake_42 : decode cX9_couldMake 42 = .ok (.iload 4, 2) := by decide +kernel
theorem dX9_couldMake_44 : decode cX9_couldMake 44 = .ok (.iaload, 1) := by decide +kernel
theorem dX9_couldMake_45 : decode cX9_couldMake 45 = .ok (.iand, 1) := by decide +kernel
theorem dX9_couldMake_46 : decode cX9_couldMake 46 = .ok (.ifCond .ne 5, 3) := by decide +kernel
theorem dX9_couldMake_49 : decode cX9_couldMake 49 = .ok (.iconst 0, 1) := by decide +kernel
theorem dX9_couldMake_50 : decode cX9_couldMake 50 = .ok (.ireturn, 1) := by decide +kernel
theorem dX9_couldMake_51 : decode cX9_couldMake 51 = .ok (.iload_n 3, 1) := by decide +kernel
theorem dX9_couldMake_52 : decode cX9_couldMake 52 = .ok (.aload_n 1, 1) := by decide +kernel
theorem dX9_couldMake_53 : decode cX9_couldMake 53 = .ok (.getfield 144, 3) := by decide +kernel
theorem dX9_couldMake_56 : decode cX9_couldMake 56 = .ok (.invokestatic 182, 3) := by decide +kernel
theorem dX9_couldMake_59 : decode cX9_couldMake 59 = .ok (.istore_n 3, 1) := by decide +kernel
theorem dX9_couldMake_60 : decode cX9_couldMake 60 = .ok (.iinc 4 (-1), 3) := by decide +kernel
theorem dX9_couldMake_63 : decode cX9_couldMake 63 = .ok (.goto (-50), 3) := by decide +kernel
theorem dX9_couldMake_66 : decode cX9_couldMake 66 = .ok (.iconst 1, 1) := by decide +kernel
theorem dX9_couldMake_67 : decode cX9_couldMake 67 = .ok (.ireturn, 1) := by decide +kernel
theorem dX10_in_0 : decode cX10_in 0 = .ok (.lload_n 0, 1) := by decide +kernel
theorem dX10_in_1 : decode cX10_in 1 = .ok (.lload_n 2, 1) := by decide +kernel
theorem dX10_in_2 : decode cX10_in 2 = .ok (.lcmp, 1) := by decide +kernel
theorem dX10_in_3 : decode cX10_in 3 = .ok (.ifCond .lt 14, 3) := by decide +kernel
theorem dX10_in_6 : decode cX10_in 6 = .ok (.lload_n 0, 1) := by decide +kernel
theorem dX10_in_7 : decode cX10_in 7 = .ok (.lload 4, 2) := by decide +kernel
theorem dX10_in_9 : decode cX10_in 9 = .ok (.lcmp, 1) := by decide +kernel
theorem dX10_in_10 : decode cX10_in 10 = .ok (.ifCond .gt 7, 3) := by decide +kernel
theorem dX10_in_13 : decode cX10_in 13 = .ok (.iconst 1, 1) := by decide +kernel
theorem dX10_in_14 : decode cX10_in 14 = .ok (.goto 4, 3) := by decide +kernel
theorem dX10_in_17 : decode cX10_in 17 = .ok (.iconst 0, 1) := by decide +kernel
theorem dX10_in_18 : decode cX10_in 18 = .ok (.ireturn, 1) := by decide +kernel
theorem dX10_init_0 : decode cX10_init 0 = .ok (.aload_n 0, 1) := by decide +kernel
theorem dX10_init_1 : decode cX10_init 1 = .ok (.invokespecial 1, 3) := by decide +kernel
theorem dX10_init_4 : decode cX10_init 4 = .ok (.aload_n 0, 1) := by decide +kernel
theorem dX10_init_5 : decode cX10_init 5 = .ok (.bipush 8, 2) := by decide +kernel
theorem dX10_init_7 : decode cX10_init 7 = .ok (.newarray .int, 2) := by decide +kernel
theorem dX10_init_9 : decode cX10_init 9 = .ok (.putfield 9, 3) := by decide +kernel
theorem dX10_init_12 : decode cX10_init 12 = .ok (.aload_n 0, 1) := by decide +kernel
theorem dX10_init_13 : decode cX10_init 13 = .ok (.bipush 8, 2) := by decide +kernel
theorem dX10_init_15 : decode cX10_init 15 = .ok (.newarray .int, 2) := by decide +kernel
theorem dX10_init_17 : decode cX10_init 17 = .ok (.putfield 13, 3) := by decide +kernel
theorem dX10_init_20 : decode cX10_init 20 = .ok (.aload_n 0, 1) := by decide +kernel
theorem dX10_init_21 : decode cX10_init 21 = .ok (.sipush 192, 3) := by decide +kernel
theorem dX10_init_24 : decode cX10_init 24 = .ok (.newarray .int, 2) := by decide +kernel
theorem dX10_init_26 : decode cX10_init 26 = .ok (.putfield 16, 3) := by decide +kernel
theorem dX10_init_29 : decode cX10_init 29 = .ok (.aload_n 0, 1) := by decide +kernel
theorem dX10_init_30 : decode cX10_init 30 = .ok (.sipush 192, 3) := by decide +kernel
theorem dX10_init_33 : decode cX10_init 33 = .ok (.newarray .int, 2) := by decide +kernel
theorem dX10_init_35 : decode cX10_init 35 = .ok (.putfield 19, 3) := by decide +kernel
theorem dX10_init_38 : decode cX10_init 38 = .ok (.aload_n 0, 1) := by decide +kernel
theorem dX10_init_39 : decode cX10_init 39 = .ok (.sipush 1200, 3) := by decide +kernel
theorem dX10_init_42 : decode cX10_init 42 = .ok (.newarray .int, 2) := by decide +kernel
theorem dX10_init_44 : decode cX10_init 44 = .ok (.putfield 22, 3) := by decide +kernel
theorem dX10_init_47 : decode cX10_init 47 = .ok (.aload_n 0, 1) := by decide +kernel
theorem dX10_init_48 : decode cX10_init 48 = .ok (.bipush 8, 2) := by decide +kernel
theorem dX10_init_50 : decode cX10_init 50 = .ok (.newarray .int, 2) := by decide +kernel
theorem dX10_init_52 : decode cX10_init 52 = .ok (.putfield 25, 3) := by decide +kernel
theorem dX10_init_55 : decode cX10_init 55 = .ok (.aload_n 0, 1) := by decide +kernel
theorem dX10_init_56 : decode cX10_init 56 = .ok (.sipush 600, 3) := by decide +kernel
theorem dX10_init_59 : decode cX10_init 59 = .ok (.newarray .byte, 2) := by decide +kernel
theorem dX10_init_61 : decode cX10_init 61 = .ok (.putfield 28, 3) := by decide +kernel
theorem dX10_init_64 : decode cX10_init 64 = .ok (.aload_n 0, 1) := by decide +kernel
theorem dX10_init_65 : decode cX10_init 65 = .ok (.iconst (-1), 1) := by decide +kernel
theorem dX10_init_66 : decode cX10_init 66 = .ok (.putfield 32, 3) := by decide +kernel
theorem dX10_init_69 : decode cX10_init 69 = .ok (.aload_n 0, 1) := by decide +kernel
theorem dX10_init_70 : decode cX10_init 70 = .ok (.bipush 24, 2) := by decide +kernel
theorem dX10_init_72 : decode cX10_init 72 = .ok (.newarray .int, 2) := by decide +kernel
theorem dX10_init_74 : decode cX10_init 74 = .ok (.putfield 36, 3) := by decide +kernel
theorem dX10_init_77 : decode cX10_init 77 = .ok (.aload_n 0, 1) := by decide +kernel
theorem dX10_init_78 : decode cX10_init 78 = .ok (.bipush 24, 2) := by decide +kernel
theorem dX10_init_80 : decode cX10_init 80 = .ok (.newarray .int, 2) := by decide +kernel
theorem dX10_init_82 : decode cX10_init 82 = .ok (.putfield 39, 3) := by decide +kernel
theorem dX10_init_85 : decode cX10_init 85 = .ok (.aload_n 0, 1) := by decide +kernel
theorem dX10_init_86 : decode cX10_init 86 = .ok (.bipush 64, 2) := by decide +kernel
theorem dX10_init_88 : decode cX10_init 88 = .ok (.newarray .long, 2) := by decide +kernel
theorem dX10_init_90 : decode cX10_init 90 = .ok (.putfield 42, 3) := by decide +kernel
theorem dX10_init_93 : decode cX10_init 93 = .ok (.aload_n 0, 1) := by decide +kernel
theorem dX10_init_94 : decode cX10_init 94 = .ok (.bipush 64, 2) := by decide +kernel
theorem dX10_init_96 : decode cX10_init 96 = .ok (.newarray .int, 2) := by decide +kernel
theorem dX10_init_98 : decode cX10_init 98 = .ok (.putfield 46, 3) := by decide +kernel
theorem dX10_init_101 : decode cX10_init 101 = .ok (.aload_n 0, 1) := by decide +kernel
theorem dX10_init_102 : decode cX10_init 102 = .ok (.iconst (-1), 1) := by decide +kernel
theorem dX10_init_103 : decode cX10_init 103 = .ok (.putfield 49, 3) := by decide +kernel
theorem dX10_init_106 : decode cX10_init 106 = .ok (.aload_n 0, 1) := by decide +kernel
theorem dX10_init_107 : decode cX10_init 107 = .ok (.iconst (-1), 1) := by decide +kernel
theorem dX10_init_108 : decode cX10_init 108 = .ok (.putfield 52, 3) := by decide +kernel
theorem dX10_init_111 : decode cX10_init 111 = .ok (.aload_n 0, 1) := by decide +kernel
theorem dX10_init_112 : decode cX10_init 112 = .ok (.iconst (-1), 1) := by decide +kernel
theorem dX10_init_113 : decode cX10_init 113 = .ok (.putfield 55, 3) := by decide +kernel
theorem dX10_init_116 : decode cX10_init 116 = .ok (.aload_n 0, 1) := by decide +kernel
theorem dX10_init_117 : decode cX10_init 117 = .ok (.bipush 24, 2) := by decide +kernel
theorem dX10_init_119 : decode cX10_init 119 = .ok (.newarray .int, 2) := by decide +kernel
theorem dX10_init_121 : decode cX10_init 121 = .ok (.putfield 58, 3) := by decide +kernel
theorem dX10_init_124 : decode cX10_init 124 = .ok (.aload_n 0, 1) := by decide +kernel
theorem dX10_init_125 : decode cX10_init 125 = .ok (.bipush 24, 2) := by decide +kernel
theorem dX10_init_127 : decode cX10_init 127 = .ok (.newarray .int, 2) := by decide +kernel
theorem dX10_init_129 : decode cX10_init 129 = .ok (.putfield 61, 3) := by decide +kernel
theorem dX10_init_132 : decode cX10_init 132 = .ok (.aload_n 0, 1) := by decide +kernel
theorem dX10_init_133 : decode cX10_init 133 = .ok (.bipush 24, 2) := by decide +kernel
theorem dX10_init_135 : decode cX10_init 135 = .ok (.newarray .int, 2) := by decide +kernel
theorem dX10_init_137 : decode cX10_init 137 = .ok (.putfield 64, 3) := by decide +kernel
theorem dX10_init_140 : decode cX10_init 140 = .ok (.aload_n 0, 1) := by decide +kernel
theorem dX10_init_141 : decode cX10_init 141 = .ok (.bipush 12, 2) := by decide +kernel
theorem dX10_init_143 : decode cX10_init 143 = .ok (.newarray .long, 2) := by decide +kernel
theorem dX10_init_145 : decode cX10_init 145 = .ok (.putfield 67, 3) := by decide +kernel
theorem dX10_init_148 : decode cX10_init 148 = .ok (.aload_n 0, 1) := by decide +kernel
theorem dX10_init_149 : decode cX10_init 149 = .ok (.bipush 12, 2) := by decide +kernel
theorem dX10_init_151 : decode cX10_init 151 = .ok (.newarray .long, 2) := by decide +kernel
theorem dX10_init_153 : decode cX10_init 153 = .ok (.putfield 70, 3) := by decide +kernel
theorem dX10_init_156 : decode cX10_init 156 = .ok (.aload_n 0, 1) := by decide +kernel
theorem dX10_init_157 : decode cX10_init 157 = .ok (.iconst (-1), 1) := by decide +kernel
theorem dX10_init_158 : decode cX10_init 158 = .ok (.putfield 73, 3) := by decide +kernel
theorem dX10_init_161 : decode cX10_init 161 = .ok (.aload_n 0, 1) := by decide +kernel
theorem dX10_init_162 : decode cX10_init 162 = .ok (.iconst (-1), 1) := by decide +kernel
theorem dX10_init_163 : decode cX10_init 163 = .ok (.putfield 76, 3) := by decide +kernel
theorem dX10_init_166 : decode cX10_init 166 = .ok (.iconst 0, 1) := by decide +kernel
theorem dX10_init_167 : decode cX10_init 167 = .ok (.istore_n 1, 1) := by decide +kernel
theorem dX10_init_168 : decode cX10_init 168 = .ok (.iload_n 1, 1) := by decide +kernel
theorem dX10_init_169 : decode cX10_init 169 = .ok (.bipush 8, 2) := by decide +kernel
theorem dX10_init_171 : decode cX10_init 171 = .ok (.if_icmp .ge 16, 3) := by decide +kernel
theorem dX10_init_174 : decode cX10_init 174 = .ok (.aload_n 0, 1) := by decide +kernel
theorem dX10_init_175 : decode cX10_init 175 = .ok (.getfield 9, 3) := by decide +kernel
theorem dX10_init_178 : decode cX10_init 178 = .ok (.iload_n 1, 1) := by decide +kernel
theorem dX10_init_179 : decode cX10_init 179 = .ok (.iconst 1, 1) := by decide +kernel
theorem dX10_init_180 : decode cX10_init 180 = .ok (.iastore, 1) := by decide +kernel
theorem dX10_init_181 : decode cX10_init 181 = .ok (.iinc 1 1, 3) := by decide +kernel
theorem dX10_init_184 : decode cX10_init 184 = .ok (.goto (-16), 3) := by decide +kernel
theorem dX10_init_187 : decode cX10_init 187 = .ok (.return_, 1) := by decide +kernel
theorem dX10_isLine_0 : decode cX10_isLine 0 = .ok (.iload_n 0, 1) := by decide +kernel
theorem dX10_isLine_1 : decode cX10_isLine 1 = .ok (.i2l, 1) := by decide +kernel
theorem dX10_isLine_2 : decode cX10_isLine 2 = .ok (.lconst 0, 1) := by decide +kernel
theorem dX10_isLine_3 : decode cX10_isLine 3 = .ok (.ldc2_w 79, 3) := by decide +kernel
theorem dX10_isLine_6 : decode cX10_isLine 6 = .ok (.invokestatic 81, 3) := by decide +kernel
theorem dX10_isLine_9 : decode cX10_isLine 9 = .ok (.ireturn, 1) := by decide +kernel
theorem dX10_isLetter_0 : decode cX10_isLetter 0 = .ok (.iload_n 1, 1) := by decide +kernel
theorem dX10_isLetter_1 : decode cX10_isLetter 1 = .ok (.invokestatic 85, 3) := by decide +kernel
theorem dX10_isLetter_4 : decode cX10_isLetter 4 = .ok (.ifCond .eq 25, 3) := by decide +kernel
theorem dX10_isLetter_7 : decode cX10_isLetter 7 = .ok (.iload_n 2, 1) := by decide +kernel
theorem dX10_isLetter_8 : decode cX10_isLetter 8 = .ok (.i2l, 1) := by decide +kernel
theorem dX10_isLetter_9 : decode cX10_isLetter 9 = .ok (.lconst 0, 1) := by decide +kernel
theorem dX10_isLetter_10 : decode cX10_isLetter 10 = .ok (.aload_n 0, 1) := by decide +kernel
theorem dX10_isLetter_11 : decode cX10_isLetter 11 = .ok (.getfield 9, 3) := by decide +kernel
theorem dX10_isLetter_14 : decode cX10_isLetter 14 = .ok (.iload_n 1, 1) := by decide +kernel
theorem dX10_isLetter_15 : decode cX10_isLetter 15 = .ok (.iaload, 1) := by decide +kernel
theorem dX10_isLetter_16 : decode cX10_isLetter 16 = .ok (.i2l, 1) := by decide +kernel
theorem dX10_isLetter_17 : decode cX10_isLetter 17 = .ok (.lconst 1, 1) := by decide +kernel
theorem dX10_isLetter_18 : decode cX10_isLetter 18 = .ok (.lsub, 1) := by decide +kernel
theorem dX10_isLetter_19 : decode cX10_isLetter 19 = .ok (.invokestatic 81, 3) := by decide +kernel
theorem dX10_isLetter_22 : decode cX10_isLetter 22 = .ok (.ifCond .eq 7, 3) := by decide +kernel
theorem dX10_isLetter_25 : decode cX10_isLetter 25 = .ok (.iconst 1, 1) := by decide +kernel
theorem dX10_isLetter_26 : decode cX10_isLetter 26 = .ok (.goto 4, 3) := by decide +kernel
theorem dX10_isLetter_29 : decode cX10_isLetter 29 = .ok (.iconst 0, 1) := by decide +kernel
theorem dX10_isLetter_30 : decode cX10_isLetter 30 = .ok (.ireturn, 1) := by decide +kernel
theorem dX10_areNear_0 : decode cX10_areNear 0 = .ok (.aload_n 0, 1) := by decide +kernel
theorem dX10_areNear_1 : decode cX10_areNear 1 = .ok (.getfield 16, 3) := by decide +kernel
theorem dX10_areNear_4 : decode cX10_areNear 4 = .ok (.bipush 24, 2) := by decide +kernel
theorem dX10_areNear_6 : decode cX10_areNear 6 = .ok (.iload_n 1, 1) := by decide +kernel
theorem dX10_areNear_7 : decode cX10_areNear 7 = .ok (.imul, 1) := by decide +kernel
theorem dX10_areNear_8 : decode cX10_areNear 8 = .ok (.iload_n 2, 1) := by decide +kernel
theorem dX10_areNear_9 : decode cX10_areNear 9 = .ok (.iadd, 1) := by decide +kernel
theorem dX10_areNear_10 : decode cX10_areNear 10 = .ok (.iaload, 1) := by decide +kernel
theorem dX10_areNear_11 : decode cX10_areNear 11 = .ok (.iload_n 3, 1) := by decide +kernel
theorem dX10_areNear_12 : decode cX10_areNear 12 = .ok (.ishr, 1) := by decide +kernel
theorem dX10_areNear_13 : decode cX10_areNear 13 = .ok (.iconst 1, 1) := by decide +kernel
theorem dX10_areNear_14 : decode cX10_areNear 14 = .ok (.iand, 1) := by decide +kernel
theorem dX10_areNear_15 : decode cX10_areNear 15 = .ok (.iconst 1, 1) := by decide +kernel
theorem dX10_areNear_16 : decode cX10_areNear 16 = .ok (.if_icmp .ne 7, 3) := by decide +kernel
theorem dX10_areNear_19 : decode cX10_areNear 19 = .ok (.iconst 1, 1) := by decide +kernel
theorem dX10_areNear_20 : decode cX10_areNear 20 = .ok (.goto 4, 3) := by decide +kernel
theorem dX10_areNear_23 : decode cX10_areNear 23 = .ok (.iconst 0, 1) := by decide +kernel
theorem dX10_areNear_24 : decode cX10_areNear 24 = .ok (.ireturn, 1) := by decide +kernel
theorem dX10_anew_0 : decode cX10_anew 0 = .ok (.aload_n 0, 1) := by decide +kernel
theorem dX10_anew_1 : decode cX10_anew 1 = .ok (.getfield 9, 3) := by decide +kernel
theorem dX10_anew_4 : decode cX10_anew 4 = .ok (.iload_n 1, 1) := by decide +kernel
theorem dX10_anew_5 : decode cX10_anew 5 = .ok (.iload_n 2, 1) := by decide +kernel
theorem dX10_anew_6 : decode cX10_anew 6 = .ok (.iastore, 1) := by decide +kernel
theorem dX10_anew_7 : decode cX10_anew 7 = .ok (.aload_n 0, 1) := by decide +kernel
theorem dX10_anew_8 : decode cX10_anew 8 = .ok (.getfield 13, 3) := by decide +kernel
theorem dX10_anew_11 : decode cX10_anew 11 = .ok (.iload_n 1, 1) := by decide +kernel
theorem dX10_anew_12 : decode cX10_anew 12 = .ok (.iload_n 3, 1) := by decide +kernel
theorem dX10_anew_13 : decode cX10_anew 13 = .ok (.iastore, 1) := by decide +kernel
theorem dX10_anew_14 : decode cX10_anew 14 = .ok (.aload_n 0, 1) := by decide +kernel
theorem dX10_anew_15 : decode cX10_anew 15 = .ok (.getfield 25, 3) := by decide +kernel
theorem dX10_anew_18 : decode cX10_anew 18 = .ok (.iload_n 1, 1) := by decide +kernel
theorem dX10_anew_19 : decode cX10_anew 19 = .ok (.dup2, 1) := by decide +kernel
theorem dX10_anew_20 : decode cX10_anew 20 = .ok (.iaload, 1) := by decide +kernel
theorem dX10_anew_21 : decode cX10_anew 21 = .ok (.iconst 1, 1) := by decide +kernel
theorem dX10_anew_22 : decode cX10_anew 22 = .ok (.iadd, 1) := by decide +kernel
theorem dX10_anew_23 : decode cX10_anew 23 = .ok (.iastore, 1) := by decide +kernel
theorem dX10_anew_24 : decode cX10_anew 24 = .ok (.iconst 0, 1) := by decide +kernel
theorem dX10_anew_25 : decode cX10_anew 25 = .ok (.istore 4, 2) := by decide +kernel
theorem dX10_anew_27 : decode cX10_anew 27 = .ok (.iload 4, 2) := by decide +kernel
theorem dX10_anew_29 : decode cX10_anew 29 = .ok (.bipush 24, 2) := by decide +kernel
theorem dX10_anew_31 : decode cX10_anew 31 = .ok (.if_icmp .ge 35, 3) := by decide +kernel
theorem dX10_anew_34 : decode cX10_anew 34 = .ok (.aload_n 0, 1) := by decide +kernel
theorem dX10_anew_35 : decode cX10_anew 35 = .ok (.getfield 16, 3) := by decide +kernel
theorem dX10_anew_38 : decode cX10_anew 38 = .ok (.bipush 24, 2) := by decide +kernel
theorem dX10_anew_40 : decode cX10_anew 40 = .ok (.iload_n 1, 1) := by decide +kernel
