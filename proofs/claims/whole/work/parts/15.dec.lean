theorem dX10_lowest_33 : decode cX10_lowest 33 = .ok (.lushr, 1) := by decide +kernel
theorem dX10_lowest_34 : decode cX10_lowest 34 = .ok (.lstore_n 2, 1) := by decide +kernel
theorem dX10_lowest_35 : decode cX10_lowest 35 = .ok (.iload 4, 2) := by decide +kernel
theorem dX10_lowest_37 : decode cX10_lowest 37 = .ok (.iload 5, 2) := by decide +kernel
theorem dX10_lowest_39 : decode cX10_lowest 39 = .ok (.iadd, 1) := by decide +kernel
theorem dX10_lowest_40 : decode cX10_lowest 40 = .ok (.istore 4, 2) := by decide +kernel
theorem dX10_lowest_42 : decode cX10_lowest 42 = .ok (.iload 5, 2) := by decide +kernel
theorem dX10_lowest_44 : decode cX10_lowest 44 = .ok (.iconst 1, 1) := by decide +kernel
theorem dX10_lowest_45 : decode cX10_lowest 45 = .ok (.ishr, 1) := by decide +kernel
theorem dX10_lowest_46 : decode cX10_lowest 46 = .ok (.istore 5, 2) := by decide +kernel
theorem dX10_lowest_48 : decode cX10_lowest 48 = .ok (.goto (-39), 3) := by decide +kernel
theorem dX10_lowest_51 : decode cX10_lowest 51 = .ok (.iload 4, 2) := by decide +kernel
theorem dX10_lowest_53 : decode cX10_lowest 53 = .ok (.ireturn, 1) := by decide +kernel
theorem dX10_cover_0 : decode cX10_cover 0 = .ok (.iconst 0, 1) := by decide +kernel
theorem dX10_cover_1 : decode cX10_cover 1 = .ok (.istore 4, 2) := by decide +kernel
theorem dX10_cover_3 : decode cX10_cover 3 = .ok (.lload_n 1, 1) := by decide +kernel
theorem dX10_cover_4 : decode cX10_cover 4 = .ok (.lstore 5, 2) := by decide +kernel
theorem dX10_cover_6 : decode cX10_cover 6 = .ok (.lload 5, 2) := by decide +kernel
theorem dX10_cover_8 : decode cX10_cover 8 = .ok (.lconst 0, 1) := by decide +kernel
theorem dX10_cover_9 : decode cX10_cover 9 = .ok (.lcmp, 1) := by decide +kernel
theorem dX10_cover_10 : decode cX10_cover 10 = .ok (.ifCond .eq 61, 3) := by decide +kernel
theorem dX10_cover_13 : decode cX10_cover 13 = .ok (.iload 4, 2) := by decide +kernel
theorem dX10_cover_15 : decode cX10_cover 15 = .ok (.iload_n 3, 1) := by decide +kernel
theorem dX10_cover_16 : decode cX10_cover 16 = .ok (.if_icmp .ge 55, 3) := by decide +kernel
theorem dX10_cover_19 : decode cX10_cover 19 = .ok (.lload 5, 2) := by decide +kernel
theorem dX10_cover_21 : decode cX10_cover 21 = .ok (.lstore 7, 2) := by decide +kernel
theorem dX10_cover_23 : decode cX10_cover 23 = .ok (.lload 7, 2) := by decide +kernel
theorem dX10_cover_25 : decode cX10_cover 25 = .ok (.lconst 0, 1) := by decide +kernel
theorem dX10_cover_26 : decode cX10_cover 26 = .ok (.lcmp, 1) := by decide +kernel
theorem dX10_cover_27 : decode cX10_cover 27 = .ok (.ifCond .eq 38, 3) := by decide +kernel
theorem dX10_cover_30 : decode cX10_cover 30 = .ok (.lload 7, 2) := by decide +kernel
theorem dX10_cover_32 : decode cX10_cover 32 = .ok (.invokestatic 157, 3) := by decide +kernel
theorem dX10_cover_35 : decode cX10_cover 35 = .ok (.istore 9, 2) := by decide +kernel
theorem dX10_cover_37 : decode cX10_cover 37 = .ok (.lload 5, 2) := by decide +kernel
theorem dX10_cover_39 : decode cX10_cover 39 = .ok (.lconst 1, 1) := by decide +kernel
theorem dX10_cover_40 : decode cX10_cover 40 = .ok (.iload 9, 2) := by decide +kernel
theorem dX10_cover_42 : decode cX10_cover 42 = .ok (.lshl, 1) := by decide +kernel
theorem dX10_cover_43 : decode cX10_cover 43 = .ok (.ldc2_w 155, 3) := by decide +kernel
theorem dX10_cover_46 : decode cX10_cover 46 = .ok (.lxor, 1) := by decide +kernel
theorem dX10_cover_47 : decode cX10_cover 47 = .ok (.land, 1) := by decide +kernel
theorem dX10_cover_48 : decode cX10_cover 48 = .ok (.lstore 5, 2) := by decide +kernel
theorem dX10_cover_50 : decode cX10_cover 50 = .ok (.lload 7, 2) := by decide +kernel
theorem dX10_cover_52 : decode cX10_cover 52 = .ok (.aload_n 0, 1) := by decide +kernel
theorem dX10_cover_53 : decode cX10_cover 53 = .ok (.getfield 42, 3) := by decide +kernel
theorem dX10_cover_56 : decode cX10_cover 56 = .ok (.iload 9, 2) := by decide +kernel
theorem dX10_cover_58 : decode cX10_cover 58 = .ok (.laload, 1) := by decide +kernel
theorem dX10_cover_59 : decode cX10_cover 59 = .ok (.land, 1) := by decide +kernel
theorem dX10_cover_60 : decode cX10_cover 60 = .ok (.lstore 7, 2) := by decide +kernel
theorem dX10_cover_62 : decode cX10_cover 62 = .ok (.goto (-39), 3) := by decide +kernel
theorem dX10_cover_65 : decode cX10_cover 65 = .ok (.iinc 4 1, 3) := by decide +kernel
theorem dX10_cover_68 : decode cX10_cover 68 = .ok (.goto (-62), 3) := by decide +kernel
theorem dX10_cover_71 : decode cX10_cover 71 = .ok (.iload 4, 2) := by decide +kernel
theorem dX10_cover_73 : decode cX10_cover 73 = .ok (.ireturn, 1) := by decide +kernel
theorem dX10_reaches_0 : decode cX10_reaches 0 = .ok (.iload_n 3, 1) := by decide +kernel
theorem dX10_reaches_1 : decode cX10_reaches 1 = .ok (.istore 4, 2) := by decide +kernel
theorem dX10_reaches_3 : decode cX10_reaches 3 = .ok (.lload_n 1, 1) := by decide +kernel
theorem dX10_reaches_4 : decode cX10_reaches 4 = .ok (.lstore 5, 2) := by decide +kernel
theorem dX10_reaches_6 : decode cX10_reaches 6 = .ok (.iload 4, 2) := by decide +kernel
theorem dX10_reaches_8 : decode cX10_reaches 8 = .ok (.ifCond .le 189, 3) := by decide +kernel
theorem dX10_reaches_11 : decode cX10_reaches 11 = .ok (.lload 5, 2) := by decide +kernel
theorem dX10_reaches_13 : decode cX10_reaches 13 = .ok (.invokestatic 139, 3) := by decide +kernel
theorem dX10_reaches_16 : decode cX10_reaches 16 = .ok (.iload 4, 2) := by decide +kernel
theorem dX10_reaches_18 : decode cX10_reaches 18 = .ok (.if_icmp .ge 5, 3) := by decide +kernel
theorem dX10_reaches_21 : decode cX10_reaches 21 = .ok (.iconst 0, 1) := by decide +kernel
theorem dX10_reaches_22 : decode cX10_reaches 22 = .ok (.ireturn, 1) := by decide +kernel
theorem dX10_reaches_23 : decode cX10_reaches 23 = .ok (.iconst (-1), 1) := by decide +kernel
theorem dX10_reaches_24 : decode cX10_reaches 24 = .ok (.istore 7, 2) := by decide +kernel
theorem dX10_reaches_26 : decode cX10_reaches 26 = .ok (.iconst (-1), 1) := by decide +kernel
theorem dX10_reaches_27 : decode cX10_reaches 27 = .ok (.istore 8, 2) := by decide +kernel
theorem dX10_reaches_29 : decode cX10_reaches 29 = .ok (.iconst (-1), 1) := by decide +kernel
theorem dX10_reaches_30 : decode cX10_reaches 30 = .ok (.istore 9, 2) := by decide +kernel
theorem dX10_reaches_32 : decode cX10_reaches 32 = .ok (.lload 5, 2) := by decide +kernel
theorem dX10_reaches_34 : decode cX10_reaches 34 = .ok (.lstore 10, 2) := by decide +kernel
theorem dX10_reaches_36 : decode cX10_reaches 36 = .ok (.lload 10, 2) := by decide +kernel
theorem dX10_reaches_38 : decode cX10_reaches 38 = .ok (.lconst 0, 1) := by decide +kernel
theorem dX10_reaches_39 : decode cX10_reaches 39 = .ok (.lcmp, 1) := by decide +kernel
theorem dX10_reaches_40 : decode cX10_reaches 40 = .ok (.ifCond .eq 68, 3) := by decide +kernel
theorem dX10_reaches_43 : decode cX10_reaches 43 = .ok (.iload 9, 2) := by decide +kernel
theorem dX10_reaches_45 : decode cX10_reaches 45 = .ok (.iconst (-1), 1) := by decide +kernel
theorem dX10_reaches_46 : decode cX10_reaches 46 = .ok (.if_icmp .ne 62, 3) := by decide +kernel
theorem dX10_reaches_49 : decode cX10_reaches 49 = .ok (.lload 10, 2) := by decide +kernel
theorem dX10_reaches_51 : decode cX10_reaches 51 = .ok (.invokestatic 157, 3) := by decide +kernel
theorem dX10_reaches_54 : decode cX10_reaches 54 = .ok (.istore 12, 2) := by decide +kernel
theorem dX10_reaches_56 : decode cX10_reaches 56 = .ok (.aload_n 0, 1) := by decide +kernel
theorem dX10_reaches_57 : decode cX10_reaches 57 = .ok (.getfield 42, 3) := by decide +kernel
theorem dX10_reaches_60 : decode cX10_reaches 60 = .ok (.iload 12, 2) := by decide +kernel
theorem dX10_reaches_62 : decode cX10_reaches 62 = .ok (.laload, 1) := by decide +kernel
theorem dX10_reaches_63 : decode cX10_reaches 63 = .ok (.lload 5, 2) := by decide +kernel
theorem dX10_reaches_65 : decode cX10_reaches 65 = .ok (.land, 1) := by decide +kernel
theorem dX10_reaches_66 : decode cX10_reaches 66 = .ok (.invokestatic 139, 3) := by decide +kernel
theorem dX10_reaches_69 : decode cX10_reaches 69 = .ok (.istore 13, 2) := by decide +kernel
theorem dX10_reaches_71 : decode cX10_reaches 71 = .ok (.iload 13, 2) := by decide +kernel
theorem dX10_reaches_73 : decode cX10_reaches 73 = .ok (.iconst 2, 1) := by decide +kernel
theorem dX10_reaches_74 : decode cX10_reaches 74 = .ok (.if_icmp .ge 7, 3) := by decide +kernel
theorem dX10_reaches_77 : decode cX10_reaches 77 = .ok (.iload 12, 2) := by decide +kernel
theorem dX10_reaches_79 : decode cX10_reaches 79 = .ok (.istore 9, 2) := by decide +kernel
theorem dX10_reaches_81 : decode cX10_reaches 81 = .ok (.iload 13, 2) := by decide +kernel
theorem dX10_reaches_83 : decode cX10_reaches 83 = .ok (.iload 8, 2) := by decide +kernel
theorem dX10_reaches_85 : decode cX10_reaches 85 = .ok (.if_icmp .le 11, 3) := by decide +kernel
theorem dX10_reaches_88 : decode cX10_reaches 88 = .ok (.iload 13, 2) := by decide +kernel
theorem dX10_reaches_90 : decode cX10_reaches 90 = .ok (.istore 8, 2) := by decide +kernel
theorem dX10_reaches_92 : decode cX10_reaches 92 = .ok (.iload 12, 2) := by decide +kernel
theorem dX10_reaches_94 : decode cX10_reaches 94 = .ok (.istore 7, 2) := by decide +kernel
theorem dX10_reaches_96 : decode cX10_reaches 96 = .ok (.lload 10, 2) := by decide +kernel
theorem dX10_reaches_98 : decode cX10_reaches 98 = .ok (.lload 10, 2) := by decide +kernel
theorem dX10_reaches_100 : decode cX10_reaches 100 = .ok (.lconst 1, 1) := by decide +kernel
theorem dX10_reaches_101 : decode cX10_reaches 101 = .ok (.lsub, 1) := by decide +kernel
theorem dX10_reaches_102 : decode cX10_reaches 102 = .ok (.land, 1) := by decide +kernel
theorem dX10_reaches_103 : decode cX10_reaches 103 = .ok (.lstore 10, 2) := by decide +kernel
theorem dX10_reaches_105 : decode cX10_reaches 105 = .ok (.goto (-69), 3) := by decide +kernel
theorem dX10_reaches_108 : decode cX10_reaches 108 = .ok (.iload 9, 2) := by decide +kernel
theorem dX10_reaches_110 : decode cX10_reaches 110 = .ok (.iconst (-1), 1) := by decide +kernel
theorem dX10_reaches_111 : decode cX10_reaches 111 = .ok (.if_icmp .ne 8, 3) := by decide +kernel
theorem dX10_reaches_114 : decode cX10_reaches 114 = .ok (.iload 7, 2) := by decide +kernel
theorem dX10_reaches_116 : decode cX10_reaches 116 = .ok (.goto 5, 3) := by decide +kernel
theorem dX10_reaches_119 : decode cX10_reaches 119 = .ok (.iload 9, 2) := by decide +kernel
theorem dX10_reaches_121 : decode cX10_reaches 121 = .ok (.istore 10, 2) := by decide +kernel
theorem dX10_reaches_123 : decode cX10_reaches 123 = .ok (.iload 9, 2) := by decide +kernel
theorem dX10_reaches_125 : decode cX10_reaches 125 = .ok (.iconst (-1), 1) := by decide +kernel
theorem dX10_reaches_126 : decode cX10_reaches 126 = .ok (.if_icmp .ne 40, 3) := by decide +kernel
theorem dX10_reaches_129 : decode cX10_reaches 129 = .ok (.aload_n 0, 1) := by decide +kernel
theorem dX10_reaches_130 : decode cX10_reaches 130 = .ok (.lload 5, 2) := by decide +kernel
theorem dX10_reaches_132 : decode cX10_reaches 132 = .ok (.iload 4, 2) := by decide +kernel
theorem dX10_reaches_134 : decode cX10_reaches 134 = .ok (.invokevirtual 160, 3) := by decide +kernel
theorem dX10_reaches_137 : decode cX10_reaches 137 = .ok (.iload 4, 2) := by decide +kernel
theorem dX10_reaches_139 : decode cX10_reaches 139 = .ok (.if_icmp .ge 5, 3) := by decide +kernel
theorem dX10_reaches_142 : decode cX10_reaches 142 = .ok (.iconst 0, 1) := by decide +kernel
theorem dX10_reaches_143 : decode cX10_reaches 143 = .ok (.ireturn, 1) := by decide +kernel
theorem dX10_reaches_144 : decode cX10_reaches 144 = .ok (.aload_n 0, 1) := by decide +kernel
theorem dX10_reaches_145 : decode cX10_reaches 145 = .ok (.lload 5, 2) := by decide +kernel
theorem dX10_reaches_147 : decode cX10_reaches 147 = .ok (.lconst 1, 1) := by decide +kernel
theorem dX10_reaches_148 : decode cX10_reaches 148 = .ok (.iload 10, 2) := by decide +kernel
theorem dX10_reaches_150 : decode cX10_reaches 150 = .ok (.lshl, 1) := by decide +kernel
theorem dX10_reaches_151 : decode cX10_reaches 151 = .ok (.ldc2_w 155, 3) := by decide +kernel
theorem dX10_reaches_154 : decode cX10_reaches 154 = .ok (.lxor, 1) := by decide +kernel
theorem dX10_reaches_155 : decode cX10_reaches 155 = .ok (.land, 1) := by decide +kernel
theorem dX10_reaches_156 : decode cX10_reaches 156 = .ok (.iload 4, 2) := by decide +kernel
theorem dX10_reaches_158 : decode cX10_reaches 158 = .ok (.invokevirtual 164, 3) := by decide +kernel
theorem dX10_reaches_161 : decode cX10_reaches 161 = .ok (.ifCond .eq 5, 3) := by decide +kernel
theorem dX10_reaches_164 : decode cX10_reaches 164 = .ok (.iconst 1, 1) := by decide +kernel
theorem dX10_reaches_165 : decode cX10_reaches 165 = .ok (.ireturn, 1) := by decide +kernel
theorem dX10_reaches_166 : decode cX10_reaches 166 = .ok (.iinc 4 (-1), 3) := by decide +kernel
theorem dX10_reaches_169 : decode cX10_reaches 169 = .ok (.lload 5, 2) := by decide +kernel
theorem dX10_reaches_171 : decode cX10_reaches 171 = .ok (.aload_n 0, 1) := by decide +kernel
theorem dX10_reaches_172 : decode cX10_reaches 172 = .ok (.getfield 42, 3) := by decide +kernel
theorem dX10_reaches_175 : decode cX10_reaches 175 = .ok (.iload 10, 2) := by decide +kernel
theorem dX10_reaches_177 : decode cX10_reaches 177 = .ok (.laload, 1) := by decide +kernel
theorem dX10_reaches_178 : decode cX10_reaches 178 = .ok (.ldc2_w 155, 3) := by decide +kernel
theorem dX10_reaches_181 : decode cX10_reaches 181 = .ok (.lxor, 1) := by decide +kernel
theorem dX10_reaches_182 : decode cX10_reaches 182 = .ok (.lconst 1, 1) := by decide +kernel
theorem dX10_reaches_183 : decode cX10_reaches 183 = .ok (.iload 10, 2) := by decide +kernel
theorem dX10_reaches_185 : decode cX10_reaches 185 = .ok (.lshl, 1) := by decide +kernel
theorem dX10_reaches_186 : decode cX10_reaches 186 = .ok (.ldc2_w 155, 3) := by decide +kernel
theorem dX10_reaches_189 : decode cX10_reaches 189 = .ok (.lxor, 1) := by decide +kernel
theorem dX10_reaches_190 : decode cX10_reaches 190 = .ok (.land, 1) := by decide +kernel
theorem dX10_reaches_191 : decode cX10_reaches 191 = .ok (.land, 1) := by decide +kernel
theorem dX10_reaches_192 : decode cX10_reaches 192 = .ok (.lstore 5, 2) := by decide +kernel
theorem dX10_reaches_194 : decode cX10_reaches 194 = .ok (.goto (-188), 3) := by decide +kernel
theorem dX10_reaches_197 : decode cX10_reaches 197 = .ok (.iconst 1, 1) := by decide +kernel
theorem dX10_reaches_198 : decode cX10_reaches 198 = .ok (.ireturn, 1) := by decide +kernel
theorem dX10_largest_0 : decode cX10_largest 0 = .ok (.aload_n 0, 1) := by decide +kernel
theorem dX10_largest_1 : decode cX10_largest 1 = .ok (.lload_n 1, 1) := by decide +kernel
theorem dX10_largest_2 : decode cX10_largest 2 = .ok (.bipush 64, 2) := by decide +kernel
theorem dX10_largest_4 : decode cX10_largest 4 = .ok (.invokevirtual 160, 3) := by decide +kernel
theorem dX10_largest_7 : decode cX10_largest 7 = .ok (.istore_n 3, 1) := by decide +kernel
theorem dX10_largest_8 : decode cX10_largest 8 = .ok (.aload_n 0, 1) := by decide +kernel
theorem dX10_largest_9 : decode cX10_largest 9 = .ok (.lload_n 1, 1) := by decide +kernel
theorem dX10_largest_10 : decode cX10_largest 10 = .ok (.iload_n 3, 1) := by decide +kernel
theorem dX10_largest_11 : decode cX10_largest 11 = .ok (.invokevirtual 164, 3) := by decide +kernel
theorem dX10_largest_14 : decode cX10_largest 14 = .ok (.ifCond .ne 9, 3) := by decide +kernel
theorem dX10_largest_17 : decode cX10_largest 17 = .ok (.iinc 3 (-1), 3) := by decide +kernel
theorem dX10_largest_20 : decode cX10_largest 20 = .ok (.goto (-12), 3) := by decide +kernel
theorem dX10_largest_23 : decode cX10_largest 23 = .ok (.iload_n 3, 1) := by decide +kernel
theorem dX10_largest_24 : decode cX10_largest 24 = .ok (.ireturn, 1) := by decide +kernel
theorem dX10_most_0 : decode cX10_most 0 = .ok (.iload_n 1, 1) := by decide +kernel
theorem dX10_most_1 : decode cX10_most 1 = .ok (.invokestatic 85, 3) := by decide +kernel
theorem dX10_most_4 : decode cX10_most 4 = .ok (.ifCond .eq 15, 3) := by decide +kernel
theorem dX10_most_7 : decode cX10_most 7 = .ok (.iload_n 2, 1) := by decide +kernel
theorem dX10_most_8 : decode cX10_most 8 = .ok (.i2l, 1) := by decide +kernel
theorem dX10_most_9 : decode cX10_most 9 = .ok (.lconst 1, 1) := by decide +kernel
theorem dX10_most_10 : decode cX10_most 10 = .ok (.ldc2_w 143, 3) := by decide +kernel
theorem dX10_most_13 : decode cX10_most 13 = .ok (.invokestatic 81, 3) := by decide +kernel
theorem dX10_most_16 : decode cX10_most 16 = .ok (.ifCond .ne 6, 3) := by decide +kernel
theorem dX10_most_19 : decode cX10_most 19 = .ok (.bipush (-2), 2) := by decide +kernel
theorem dX10_most_21 : decode cX10_most 21 = .ok (.ireturn, 1) := by decide +kernel
theorem dX10_most_22 : decode cX10_most 22 = .ok (.aload_n 0, 1) := by decide +kernel
theorem dX10_most_23 : decode cX10_most 23 = .ok (.iload_n 1, 1) := by decide +kernel
theorem dX10_most_24 : decode cX10_most 24 = .ok (.iload_n 2, 1) := by decide +kernel
theorem dX10_most_25 : decode cX10_most 25 = .ok (.bipush 64, 2) := by decide +kernel
theorem dX10_most_27 : decode cX10_most 27 = .ok (.invokevirtual 168, 3) := by decide +kernel
theorem dX10_most_30 : decode cX10_most 30 = .ok (.ifCond .ne 6, 3) := by decide +kernel
theorem dX10_most_33 : decode cX10_most 33 = .ok (.bipush (-3), 2) := by decide +kernel
theorem dX10_most_35 : decode cX10_most 35 = .ok (.ireturn, 1) := by decide +kernel
theorem dX10_most_36 : decode cX10_most 36 = .ok (.aload_n 0, 1) := by decide +kernel
theorem dX10_most_37 : decode cX10_most 37 = .ok (.invokevirtual 171, 3) := by decide +kernel
theorem dX10_most_40 : decode cX10_most 40 = .ok (.lstore_n 3, 1) := by decide +kernel
theorem dX10_most_41 : decode cX10_most 41 = .ok (.aload_n 0, 1) := by decide +kernel
theorem dX10_most_42 : decode cX10_most 42 = .ok (.lload_n 3, 1) := by decide +kernel
theorem dX10_most_43 : decode cX10_most 43 = .ok (.invokevirtual 175, 3) := by decide +kernel
theorem dX10_most_46 : decode cX10_most 46 = .ok (.istore 5, 2) := by decide +kernel
theorem dX10_most_48 : decode cX10_most 48 = .ok (.aload_n 0, 1) := by decide +kernel
theorem dX10_most_49 : decode cX10_most 49 = .ok (.iconst 0, 1) := by decide +kernel
theorem dX10_most_50 : decode cX10_most 50 = .ok (.putfield 49, 3) := by decide +kernel
theorem dX10_most_53 : decode cX10_most 53 = .ok (.iconst 0, 1) := by decide +kernel
theorem dX10_most_54 : decode cX10_most 54 = .ok (.istore 6, 2) := by decide +kernel
theorem dX10_most_56 : decode cX10_most 56 = .ok (.iload 6, 2) := by decide +kernel
theorem dX10_most_58 : decode cX10_most 58 = .ok (.aload_n 0, 1) := by decide +kernel
theorem dX10_most_59 : decode cX10_most 59 = .ok (.getfield 152, 3) := by decide +kernel
theorem dX10_most_62 : decode cX10_most 62 = .ok (.if_icmp .ge 106, 3) := by decide +kernel
theorem dX10_most_65 : decode cX10_most 65 = .ok (.iload 5, 2) := by decide +kernel
theorem dX10_most_67 : decode cX10_most 67 = .ok (.ifCond .le 101, 3) := by decide +kernel
theorem dX10_most_70 : decode cX10_most 70 = .ok (.lload_n 3, 1) := by decide +kernel
theorem dX10_most_71 : decode cX10_most 71 = .ok (.iload 6, 2) := by decide +kernel
theorem dX10_most_73 : decode cX10_most 73 = .ok (.lshr, 1) := by decide +kernel
theorem dX10_most_74 : decode cX10_most 74 = .ok (.lconst 1, 1) := by decide +kernel
theorem dX10_most_75 : decode cX10_most 75 = .ok (.land, 1) := by decide +kernel
theorem dX10_most_76 : decode cX10_most 76 = .ok (.lconst 0, 1) := by decide +kernel
theorem dX10_most_77 : decode cX10_most 77 = .ok (.lcmp, 1) := by decide +kernel
theorem dX10_most_78 : decode cX10_most 78 = .ok (.ifCond .ne 6, 3) := by decide +kernel
theorem dX10_most_81 : decode cX10_most 81 = .ok (.goto 81, 3) := by decide +kernel
theorem dX10_most_84 : decode cX10_most 84 = .ok (.lload_n 3, 1) := by decide +kernel
theorem dX10_most_85 : decode cX10_most 85 = .ok (.aload_n 0, 1) := by decide +kernel
theorem dX10_most_86 : decode cX10_most 86 = .ok (.getfield 42, 3) := by decide +kernel
theorem dX10_most_89 : decode cX10_most 89 = .ok (.iload 6, 2) := by decide +kernel
theorem dX10_most_91 : decode cX10_most 91 = .ok (.laload, 1) := by decide +kernel
theorem dX10_most_92 : decode cX10_most 92 = .ok (.ldc2_w 155, 3) := by decide +kernel
theorem dX10_most_95 : decode cX10_most 95 = .ok (.lxor, 1) := by decide +kernel
theorem dX10_most_96 : decode cX10_most 96 = .ok (.land, 1) := by decide +kernel
theorem dX10_most_97 : decode cX10_most 97 = .ok (.lconst 1, 1) := by decide +kernel
theorem dX10_most_98 : decode cX10_most 98 = .ok (.iload 6, 2) := by decide +kernel
theorem dX10_most_100 : decode cX10_most 100 = .ok (.lshl, 1) := by decide +kernel
theorem dX10_most_101 : decode cX10_most 101 = .ok (.ldc2_w 155, 3) := by decide +kernel
theorem dX10_most_104 : decode cX10_most 104 = .ok (.lxor, 1) := by decide +kernel
theorem dX10_most_105 : decode cX10_most 105 = .ok (.land, 1) := by decide +kernel
theorem dX10_most_106 : decode cX10_most 106 = .ok (.lstore 7, 2) := by decide +kernel
theorem dX10_most_108 : decode cX10_most 108 = .ok (.aload_n 0, 1) := by decide +kernel
theorem dX10_most_109 : decode cX10_most 109 = .ok (.lload 7, 2) := by decide +kernel
theorem dX10_most_111 : decode cX10_most 111 = .ok (.iload 5, 2) := by decide +kernel
theorem dX10_most_113 : decode cX10_most 113 = .ok (.iconst 1, 1) := by decide +kernel
theorem dX10_most_114 : decode cX10_most 114 = .ok (.isub, 1) := by decide +kernel
theorem dX10_most_115 : decode cX10_most 115 = .ok (.invokevirtual 164, 3) := by decide +kernel
theorem dX10_most_118 : decode cX10_most 118 = .ok (.ifCond .eq 33, 3) := by decide +kernel
theorem dX10_most_121 : decode cX10_most 121 = .ok (.aload_n 0, 1) := by decide +kernel
theorem dX10_most_122 : decode cX10_most 122 = .ok (.getfield 46, 3) := by decide +kernel
theorem dX10_most_125 : decode cX10_most 125 = .ok (.aload_n 0, 1) := by decide +kernel
theorem dX10_most_126 : decode cX10_most 126 = .ok (.getfield 49, 3) := by decide +kernel
theorem dX10_most_129 : decode cX10_most 129 = .ok (.iload 6, 2) := by decide +kernel
theorem dX10_most_131 : decode cX10_most 131 = .ok (.iastore, 1) := by decide +kernel
theorem dX10_most_132 : decode cX10_most 132 = .ok (.aload_n 0, 1) := by decide +kernel
theorem dX10_most_133 : decode cX10_most 133 = .ok (.dup, 1) := by decide +kernel
theorem dX10_most_134 : decode cX10_most 134 = .ok (.getfield 49, 3) := by decide +kernel
theorem dX10_most_137 : decode cX10_most 137 = .ok (.iconst 1, 1) := by decide +kernel
theorem dX10_most_138 : decode cX10_most 138 = .ok (.iadd, 1) := by decide +kernel
theorem dX10_most_139 : decode cX10_most 139 = .ok (.putfield 49, 3) := by decide +kernel
theorem dX10_most_142 : decode cX10_most 142 = .ok (.iinc 5 (-1), 3) := by decide +kernel
theorem dX10_most_145 : decode cX10_most 145 = .ok (.lload 7, 2) := by decide +kernel
theorem dX10_most_147 : decode cX10_most 147 = .ok (.lstore_n 3, 1) := by decide +kernel
theorem dX10_most_148 : decode cX10_most 148 = .ok (.goto 14, 3) := by decide +kernel
theorem dX10_most_151 : decode cX10_most 151 = .ok (.lload_n 3, 1) := by decide +kernel
theorem dX10_most_152 : decode cX10_most 152 = .ok (.lconst 1, 1) := by decide +kernel
theorem dX10_most_153 : decode cX10_most 153 = .ok (.iload 6, 2) := by decide +kernel
theorem dX10_most_155 : decode cX10_most 155 = .ok (.lshl, 1) := by decide +kernel
theorem dX10_most_156 : decode cX10_most 156 = .ok (.ldc2_w 155, 3) := by decide +kernel
theorem dX10_most_159 : decode cX10_most 159 = .ok (.lxor, 1) := by decide +kernel
theorem dX10_most_160 : decode cX10_most 160 = .ok (.land, 1) := by decide +kernel
theorem dX10_most_161 : decode cX10_most 161 = .ok (.lstore_n 3, 1) := by decide +kernel
theorem dX10_most_162 : decode cX10_most 162 = .ok (.iinc 6 1, 3) := by decide +kernel
theorem dX10_most_165 : decode cX10_most 165 = .ok (.goto (-109), 3) := by decide +kernel
theorem dX10_most_168 : decode cX10_most 168 = .ok (.aload_n 0, 1) := by decide +kernel
theorem dX10_most_169 : decode cX10_most 169 = .ok (.iload_n 2, 1) := by decide +kernel
theorem dX10_most_170 : decode cX10_most 170 = .ok (.putfield 52, 3) := by decide +kernel
theorem dX10_most_173 : decode cX10_most 173 = .ok (.aload_n 0, 1) := by decide +kernel
theorem dX10_most_174 : decode cX10_most 174 = .ok (.iload_n 1, 1) := by decide +kernel
theorem dX10_most_175 : decode cX10_most 175 = .ok (.putfield 55, 3) := by decide +kernel
theorem dX10_most_178 : decode cX10_most 178 = .ok (.aload_n 0, 1) := by decide +kernel
theorem dX10_most_179 : decode cX10_most 179 = .ok (.aload_n 0, 1) := by decide +kernel
theorem dX10_most_180 : decode cX10_most 180 = .ok (.getfield 25, 3) := by decide +kernel
theorem dX10_most_183 : decode cX10_most 183 = .ok (.iload_n 1, 1) := by decide +kernel
theorem dX10_most_184 : decode cX10_most 184 = .ok (.iaload, 1) := by decide +kernel
theorem dX10_most_185 : decode cX10_most 185 = .ok (.putfield 178, 3) := by decide +kernel
theorem dX10_most_188 : decode cX10_most 188 = .ok (.aload_n 0, 1) := by decide +kernel
theorem dX10_most_189 : decode cX10_most 189 = .ok (.getfield 49, 3) := by decide +kernel
theorem dX10_most_192 : decode cX10_most 192 = .ok (.ireturn, 1) := by decide +kernel
theorem dX10_word_0 : decode cX10_word 0 = .ok (.iload_n 1, 1) := by decide +kernel
theorem dX10_word_1 : decode cX10_word 1 = .ok (.i2l, 1) := by decide +kernel
theorem dX10_word_2 : decode cX10_word 2 = .ok (.lconst 0, 1) := by decide +kernel
theorem dX10_word_3 : decode cX10_word 3 = .ok (.aload_n 0, 1) := by decide +kernel
theorem dX10_word_4 : decode cX10_word 4 = .ok (.getfield 49, 3) := by decide +kernel
theorem dX10_word_7 : decode cX10_word 7 = .ok (.i2l, 1) := by decide +kernel
theorem dX10_word_8 : decode cX10_word 8 = .ok (.lconst 1, 1) := by decide +kernel
theorem dX10_word_9 : decode cX10_word 9 = .ok (.lsub, 1) := by decide +kernel
theorem dX10_word_10 : decode cX10_word 10 = .ok (.invokestatic 81, 3) := by decide +kernel
theorem dX10_word_13 : decode cX10_word 13 = .ok (.ifCond .eq 12, 3) := by decide +kernel
theorem dX10_word_16 : decode cX10_word 16 = .ok (.aload_n 0, 1) := by decide +kernel
theorem dX10_word_17 : decode cX10_word 17 = .ok (.getfield 46, 3) := by decide +kernel
theorem dX10_word_20 : decode cX10_word 20 = .ok (.iload_n 1, 1) := by decide +kernel
theorem dX10_word_21 : decode cX10_word 21 = .ok (.iaload, 1) := by decide +kernel
theorem dX10_word_22 : decode cX10_word 22 = .ok (.goto 4, 3) := by decide +kernel
theorem dX10_word_25 : decode cX10_word 25 = .ok (.iconst (-1), 1) := by decide +kernel
theorem dX10_word_26 : decode cX10_word 26 = .ok (.ireturn, 1) := by decide +kernel
theorem dX10_waysOf_0 : decode cX10_waysOf 0 = .ok (.iload_n 3, 1) := by decide +kernel
theorem dX10_waysOf_1 : decode cX10_waysOf 1 = .ok (.ifCond .ne 5, 3) := by decide +kernel
theorem dX10_waysOf_4 : decode cX10_waysOf 4 = .ok (.iconst 1, 1) := by decide +kernel
theorem dX10_waysOf_5 : decode cX10_waysOf 5 = .ok (.ireturn, 1) := by decide +kernel
theorem dX10_waysOf_6 : decode cX10_waysOf 6 = .ok (.lload_n 1, 1) := by decide +kernel
theorem dX10_waysOf_7 : decode cX10_waysOf 7 = .ok (.invokestatic 139, 3) := by decide +kernel
theorem dX10_waysOf_10 : decode cX10_waysOf 10 = .ok (.iload_n 3, 1) := by decide +kernel
theorem dX10_waysOf_11 : decode cX10_waysOf 11 = .ok (.if_icmp .ge 5, 3) := by decide +kernel
theorem dX10_waysOf_14 : decode cX10_waysOf 14 = .ok (.iconst 0, 1) := by decide +kernel
theorem dX10_waysOf_15 : decode cX10_waysOf 15 = .ok (.ireturn, 1) := by decide +kernel
theorem dX10_waysOf_16 : decode cX10_waysOf 16 = .ok (.lload_n 1, 1) := by decide +kernel
theorem dX10_waysOf_17 : decode cX10_waysOf 17 = .ok (.invokestatic 157, 3) := by decide +kernel
theorem dX10_waysOf_20 : decode cX10_waysOf 20 = .ok (.istore 4, 2) := by decide +kernel
theorem dX10_waysOf_22 : decode cX10_waysOf 22 = .ok (.aload_n 0, 1) := by decide +kernel
theorem dX10_waysOf_23 : decode cX10_waysOf 23 = .ok (.lload_n 1, 1) := by decide +kernel
theorem dX10_waysOf_24 : decode cX10_waysOf 24 = .ok (.aload_n 0, 1) := by decide +kernel
theorem dX10_waysOf_25 : decode cX10_waysOf 25 = .ok (.getfield 42, 3) := by decide +kernel
theorem dX10_waysOf_28 : decode cX10_waysOf 28 = .ok (.iload 4, 2) := by decide +kernel
theorem dX10_waysOf_30 : decode cX10_waysOf 30 = .ok (.laload, 1) := by decide +kernel
theorem dX10_waysOf_31 : decode cX10_waysOf 31 = .ok (.ldc2_w 155, 3) := by decide +kernel
theorem dX10_waysOf_34 : decode cX10_waysOf 34 = .ok (.lxor, 1) := by decide +kernel
theorem dX10_waysOf_35 : decode cX10_waysOf 35 = .ok (.land, 1) := by decide +kernel
theorem dX10_waysOf_36 : decode cX10_waysOf 36 = .ok (.lconst 1, 1) := by decide +kernel
theorem dX10_waysOf_37 : decode cX10_waysOf 37 = .ok (.iload 4, 2) := by decide +kernel
theorem dX10_waysOf_39 : decode cX10_waysOf 39 = .ok (.lshl, 1) := by decide +kernel
theorem dX10_waysOf_40 : decode cX10_waysOf 40 = .ok (.ldc2_w 155, 3) := by decide +kernel
theorem dX10_waysOf_43 : decode cX10_waysOf 43 = .ok (.lxor, 1) := by decide +kernel
theorem dX10_waysOf_44 : decode cX10_waysOf 44 = .ok (.land, 1) := by decide +kernel
theorem dX10_waysOf_45 : decode cX10_waysOf 45 = .ok (.iload_n 3, 1) := by decide +kernel
theorem dX10_waysOf_46 : decode cX10_waysOf 46 = .ok (.iconst 1, 1) := by decide +kernel
theorem dX10_waysOf_47 : decode cX10_waysOf 47 = .ok (.isub, 1) := by decide +kernel
theorem dX10_waysOf_48 : decode cX10_waysOf 48 = .ok (.invokevirtual 181, 3) := by decide +kernel
theorem dX10_waysOf_51 : decode cX10_waysOf 51 = .ok (.aload_n 0, 1) := by decide +kernel
theorem dX10_waysOf_52 : decode cX10_waysOf 52 = .ok (.lload_n 1, 1) := by decide +kernel
theorem dX10_waysOf_53 : decode cX10_waysOf 53 = .ok (.lconst 1, 1) := by decide +kernel
theorem dX10_waysOf_54 : decode cX10_waysOf 54 = .ok (.iload 4, 2) := by decide +kernel
theorem dX10_waysOf_56 : decode cX10_waysOf 56 = .ok (.lshl, 1) := by decide +kernel
theorem dX10_waysOf_57 : decode cX10_waysOf 57 = .ok (.ldc2_w 155, 3) := by decide +kernel
theorem dX10_waysOf_60 : decode cX10_waysOf 60 = .ok (.lxor, 1) := by decide +kernel
theorem dX10_waysOf_61 : decode cX10_waysOf 61 = .ok (.land, 1) := by decide +kernel
theorem dX10_waysOf_62 : decode cX10_waysOf 62 = .ok (.iload_n 3, 1) := by decide +kernel
theorem dX10_waysOf_63 : decode cX10_waysOf 63 = .ok (.invokevirtual 181, 3) := by decide +kernel
theorem dX10_waysOf_66 : decode cX10_waysOf 66 = .ok (.iadd, 1) := by decide +kernel
theorem dX10_waysOf_67 : decode cX10_waysOf 67 = .ok (.ireturn, 1) := by decide +kernel
theorem dX10_ways_0 : decode cX10_ways 0 = .ok (.iload_n 1, 1) := by decide +kernel
theorem dX10_ways_1 : decode cX10_ways 1 = .ok (.invokestatic 85, 3) := by decide +kernel
theorem dX10_ways_4 : decode cX10_ways 4 = .ok (.ifCond .eq 15, 3) := by decide +kernel
theorem dX10_ways_7 : decode cX10_ways 7 = .ok (.iload_n 2, 1) := by decide +kernel
theorem dX10_ways_8 : decode cX10_ways 8 = .ok (.i2l, 1) := by decide +kernel
theorem dX10_ways_9 : decode cX10_ways 9 = .ok (.lconst 1, 1) := by decide +kernel
theorem dX10_ways_10 : decode cX10_ways 10 = .ok (.ldc2_w 143, 3) := by decide +kernel
theorem dX10_ways_13 : decode cX10_ways 13 = .ok (.invokestatic 81, 3) := by decide +kernel
theorem dX10_ways_16 : decode cX10_ways 16 = .ok (.ifCond .ne 6, 3) := by decide +kernel
theorem dX10_ways_19 : decode cX10_ways 19 = .ok (.bipush (-2), 2) := by decide +kernel
theorem dX10_ways_21 : decode cX10_ways 21 = .ok (.ireturn, 1) := by decide +kernel
theorem dX10_ways_22 : decode cX10_ways 22 = .ok (.aload_n 0, 1) := by decide +kernel
theorem dX10_ways_23 : decode cX10_ways 23 = .ok (.iload_n 1, 1) := by decide +kernel
theorem dX10_ways_24 : decode cX10_ways 24 = .ok (.iload_n 2, 1) := by decide +kernel
theorem dX10_ways_25 : decode cX10_ways 25 = .ok (.bipush 24, 2) := by decide +kernel
theorem dX10_ways_27 : decode cX10_ways 27 = .ok (.invokevirtual 168, 3) := by decide +kernel
theorem dX10_ways_30 : decode cX10_ways 30 = .ok (.ifCond .eq 22, 3) := by decide +kernel
theorem dX10_ways_33 : decode cX10_ways 33 = .ok (.aload_n 0, 1) := by decide +kernel
theorem dX10_ways_34 : decode cX10_ways 34 = .ok (.aload_n 0, 1) := by decide +kernel
theorem dX10_ways_35 : decode cX10_ways 35 = .ok (.invokevirtual 171, 3) := by decide +kernel
theorem dX10_ways_38 : decode cX10_ways 38 = .ok (.aload_n 0, 1) := by decide +kernel
theorem dX10_ways_39 : decode cX10_ways 39 = .ok (.aload_n 0, 1) := by decide +kernel
theorem dX10_ways_40 : decode cX10_ways 40 = .ok (.invokevirtual 171, 3) := by decide +kernel
theorem dX10_ways_43 : decode cX10_ways 43 = .ok (.invokevirtual 175, 3) := by decide +kernel
theorem dX10_ways_46 : decode cX10_ways 46 = .ok (.invokevirtual 181, 3) := by decide +kernel
theorem dX10_ways_49 : decode cX10_ways 49 = .ok (.goto 5, 3) := by decide +kernel
theorem dX10_ways_52 : decode cX10_ways 52 = .ok (.bipush (-3), 2) := by decide +kernel
theorem dX10_ways_54 : decode cX10_ways 54 = .ok (.ireturn, 1) := by decide +kernel
theorem dX10_lonely_0 : decode cX10_lonely 0 = .ok (.iconst 0, 1) := by decide +kernel
theorem dX10_lonely_1 : decode cX10_lonely 1 = .ok (.istore 5, 2) := by decide +kernel
theorem dX10_lonely_3 : decode cX10_lonely 3 = .ok (.iconst 0, 1) := by decide +kernel
theorem dX10_lonely_4 : decode cX10_lonely 4 = .ok (.istore 6, 2) := by decide +kernel
theorem dX10_lonely_6 : decode cX10_lonely 6 = .ok (.iload_n 2, 1) := by decide +kernel
theorem dX10_lonely_7 : decode cX10_lonely 7 = .ok (.istore 7, 2) := by decide +kernel
theorem dX10_lonely_9 : decode cX10_lonely 9 = .ok (.iload 7, 2) := by decide +kernel
theorem dX10_lonely_11 : decode cX10_lonely 11 = .ok (.aload_n 0, 1) := by decide +kernel
theorem dX10_lonely_12 : decode cX10_lonely 12 = .ok (.getfield 9, 3) := by decide +kernel
theorem dX10_lonely_15 : decode cX10_lonely 15 = .ok (.iload_n 1, 1) := by decide +kernel
theorem dX10_lonely_16 : decode cX10_lonely 16 = .ok (.iaload, 1) := by decide +kernel
theorem dX10_lonely_17 : decode cX10_lonely 17 = .ok (.if_icmp .ge 113, 3) := by decide +kernel
theorem dX10_lonely_20 : decode cX10_lonely 20 = .ok (.iload 5, 2) := by decide +kernel
theorem dX10_lonely_22 : decode cX10_lonely 22 = .ok (.iload 4, 2) := by decide +kernel
theorem dX10_lonely_24 : decode cX10_lonely 24 = .ok (.if_icmp .gt 106, 3) := by decide +kernel
theorem dX10_lonely_27 : decode cX10_lonely 27 = .ok (.iload 6, 2) := by decide +kernel
theorem dX10_lonely_29 : decode cX10_lonely 29 = .ok (.iload 7, 2) := by decide +kernel
theorem dX10_lonely_31 : decode cX10_lonely 31 = .ok (.ishr, 1) := by decide +kernel
theorem dX10_lonely_32 : decode cX10_lonely 32 = .ok (.iconst 1, 1) := by decide +kernel
theorem dX10_lonely_33 : decode cX10_lonely 33 = .ok (.iand, 1) := by decide +kernel
theorem dX10_lonely_34 : decode cX10_lonely 34 = .ok (.ifCond .ne 7, 3) := by decide +kernel
theorem dX10_lonely_37 : decode cX10_lonely 37 = .ok (.iconst 1, 1) := by decide +kernel
theorem dX10_lonely_38 : decode cX10_lonely 38 = .ok (.goto 4, 3) := by decide +kernel
theorem dX10_lonely_41 : decode cX10_lonely 41 = .ok (.iconst 0, 1) := by decide +kernel
theorem dX10_lonely_42 : decode cX10_lonely 42 = .ok (.istore 8, 2) := by decide +kernel
theorem dX10_lonely_44 : decode cX10_lonely 44 = .ok (.iconst 0, 1) := by decide +kernel
theorem dX10_lonely_45 : decode cX10_lonely 45 = .ok (.istore 9, 2) := by decide +kernel
theorem dX10_lonely_47 : decode cX10_lonely 47 = .ok (.iload 9, 2) := by decide +kernel
theorem dX10_lonely_49 : decode cX10_lonely 49 = .ok (.iload_n 3, 1) := by decide +kernel
theorem dX10_lonely_50 : decode cX10_lonely 50 = .ok (.if_icmp .ge 46, 3) := by decide +kernel
theorem dX10_lonely_53 : decode cX10_lonely 53 = .ok (.iload 8, 2) := by decide +kernel
theorem dX10_lonely_55 : decode cX10_lonely 55 = .ok (.ifCond .eq 41, 3) := by decide +kernel
theorem dX10_lonely_58 : decode cX10_lonely 58 = .ok (.aload_n 0, 1) := by decide +kernel
theorem dX10_lonely_59 : decode cX10_lonely 59 = .ok (.getfield 61, 3) := by decide +kernel
theorem dX10_lonely_62 : decode cX10_lonely 62 = .ok (.iload 9, 2) := by decide +kernel
theorem dX10_lonely_64 : decode cX10_lonely 64 = .ok (.iaload, 1) := by decide +kernel
theorem dX10_lonely_65 : decode cX10_lonely 65 = .ok (.aload_n 0, 1) := by decide +kernel
theorem dX10_lonely_66 : decode cX10_lonely 66 = .ok (.getfield 16, 3) := by decide +kernel
theorem dX10_lonely_69 : decode cX10_lonely 69 = .ok (.bipush 24, 2) := by decide +kernel
theorem dX10_lonely_71 : decode cX10_lonely 71 = .ok (.iload_n 1, 1) := by decide +kernel
theorem dX10_lonely_72 : decode cX10_lonely 72 = .ok (.imul, 1) := by decide +kernel
theorem dX10_lonely_73 : decode cX10_lonely 73 = .ok (.iload 7, 2) := by decide +kernel
theorem dX10_lonely_75 : decode cX10_lonely 75 = .ok (.iadd, 1) := by decide +kernel
theorem dX10_lonely_76 : decode cX10_lonely 76 = .ok (.iaload, 1) := by decide +kernel
theorem dX10_lonely_77 : decode cX10_lonely 77 = .ok (.iconst (-1), 1) := by decide +kernel
theorem dX10_lonely_78 : decode cX10_lonely 78 = .ok (.ixor, 1) := by decide +kernel
theorem dX10_lonely_79 : decode cX10_lonely 79 = .ok (.iand, 1) := by decide +kernel
theorem dX10_lonely_80 : decode cX10_lonely 80 = .ok (.ifCond .eq 7, 3) := by decide +kernel
theorem dX10_lonely_83 : decode cX10_lonely 83 = .ok (.iconst 1, 1) := by decide +kernel
theorem dX10_lonely_84 : decode cX10_lonely 84 = .ok (.goto 4, 3) := by decide +kernel
theorem dX10_lonely_87 : decode cX10_lonely 87 = .ok (.iconst 0, 1) := by decide +kernel
theorem dX10_lonely_88 : decode cX10_lonely 88 = .ok (.istore 8, 2) := by decide +kernel
theorem dX10_lonely_90 : decode cX10_lonely 90 = .ok (.iinc 9 1, 3) := by decide +kernel
theorem dX10_lonely_93 : decode cX10_lonely 93 = .ok (.goto (-46), 3) := by decide +kernel
theorem dX10_lonely_96 : decode cX10_lonely 96 = .ok (.iload 8, 2) := by decide +kernel
theorem dX10_lonely_98 : decode cX10_lonely 98 = .ok (.ifCond .ne 6, 3) := by decide +kernel
theorem dX10_lonely_101 : decode cX10_lonely 101 = .ok (.goto 23, 3) := by decide +kernel
theorem dX10_lonely_104 : decode cX10_lonely 104 = .ok (.iinc 5 1, 3) := by decide +kernel
theorem dX10_lonely_107 : decode cX10_lonely 107 = .ok (.iload 6, 2) := by decide +kernel
theorem dX10_lonely_109 : decode cX10_lonely 109 = .ok (.aload_n 0, 1) := by decide +kernel
theorem dX10_lonely_110 : decode cX10_lonely 110 = .ok (.getfield 16, 3) := by decide +kernel
theorem dX10_lonely_113 : decode cX10_lonely 113 = .ok (.bipush 24, 2) := by decide +kernel
theorem dX10_lonely_115 : decode cX10_lonely 115 = .ok (.iload_n 1, 1) := by decide +kernel
theorem dX10_lonely_116 : decode cX10_lonely 116 = .ok (.imul, 1) := by decide +kernel
theorem dX10_lonely_117 : decode cX10_lonely 117 = .ok (.iload 7, 2) := by decide +kernel
theorem dX10_lonely_119 : decode cX10_lonely 119 = .ok (.iadd, 1) := by decide +kernel
theorem dX10_lonely_120 : decode cX10_lonely 120 = .ok (.iaload, 1) := by decide +kernel
theorem dX10_lonely_121 : decode cX10_lonely 121 = .ok (.ior, 1) := by decide +kernel
theorem dX10_lonely_122 : decode cX10_lonely 122 = .ok (.istore 6, 2) := by decide +kernel
theorem dX10_lonely_124 : decode cX10_lonely 124 = .ok (.iinc 7 1, 3) := by decide +kernel
theorem dX10_lonely_127 : decode cX10_lonely 127 = .ok (.goto (-118), 3) := by decide +kernel
theorem dX10_lonely_130 : decode cX10_lonely 130 = .ok (.iload 5, 2) := by decide +kernel
theorem dX10_lonely_132 : decode cX10_lonely 132 = .ok (.ireturn, 1) := by decide +kernel
theorem dX10_heapFrom_0 : decode cX10_heapFrom 0 = .ok (.iload_n 2, 1) := by decide +kernel
theorem dX10_heapFrom_1 : decode cX10_heapFrom 1 = .ok (.aload_n 0, 1) := by decide +kernel
theorem dX10_heapFrom_2 : decode cX10_heapFrom 2 = .ok (.getfield 9, 3) := by decide +kernel
theorem dX10_heapFrom_5 : decode cX10_heapFrom 5 = .ok (.iload_n 1, 1) := by decide +kernel
theorem dX10_heapFrom_6 : decode cX10_heapFrom 6 = .ok (.iaload, 1) := by decide +kernel
theorem dX10_heapFrom_7 : decode cX10_heapFrom 7 = .ok (.if_icmp .ne 5, 3) := by decide +kernel
theorem dX10_heapFrom_10 : decode cX10_heapFrom 10 = .ok (.iconst 1, 1) := by decide +kernel
theorem dX10_heapFrom_11 : decode cX10_heapFrom 11 = .ok (.ireturn, 1) := by decide +kernel
theorem dX10_heapFrom_12 : decode cX10_heapFrom 12 = .ok (.iload_n 3, 1) := by decide +kernel
theorem dX10_heapFrom_13 : decode cX10_heapFrom 13 = .ok (.aload_n 0, 1) := by decide +kernel
theorem dX10_heapFrom_14 : decode cX10_heapFrom 14 = .ok (.iload_n 1, 1) := by decide +kernel
theorem dX10_heapFrom_15 : decode cX10_heapFrom 15 = .ok (.iload_n 2, 1) := by decide +kernel
theorem dX10_heapFrom_16 : decode cX10_heapFrom 16 = .ok (.iload_n 3, 1) := by decide +kernel
theorem dX10_heapFrom_17 : decode cX10_heapFrom 17 = .ok (.iload 4, 2) := by decide +kernel
theorem dX10_heapFrom_19 : decode cX10_heapFrom 19 = .ok (.iload_n 3, 1) := by decide +kernel
theorem dX10_heapFrom_20 : decode cX10_heapFrom 20 = .ok (.isub, 1) := by decide +kernel
theorem dX10_heapFrom_21 : decode cX10_heapFrom 21 = .ok (.invokevirtual 184, 3) := by decide +kernel
theorem dX10_heapFrom_24 : decode cX10_heapFrom 24 = .ok (.iadd, 1) := by decide +kernel
theorem dX10_heapFrom_25 : decode cX10_heapFrom 25 = .ok (.iload 4, 2) := by decide +kernel
theorem dX10_heapFrom_27 : decode cX10_heapFrom 27 = .ok (.if_icmp .le 5, 3) := by decide +kernel
theorem dX10_heapFrom_30 : decode cX10_heapFrom 30 = .ok (.iconst 0, 1) := by decide +kernel
theorem dX10_heapFrom_31 : decode cX10_heapFrom 31 = .ok (.ireturn, 1) := by decide +kernel
theorem dX10_heapFrom_32 : decode cX10_heapFrom 32 = .ok (.iconst 0, 1) := by decide +kernel
theorem dX10_heapFrom_33 : decode cX10_heapFrom 33 = .ok (.istore 5, 2) := by decide +kernel
theorem dX10_heapFrom_35 : decode cX10_heapFrom 35 = .ok (.iload 5, 2) := by decide +kernel
theorem dX10_heapFrom_37 : decode cX10_heapFrom 37 = .ok (.iload_n 3, 1) := by decide +kernel
theorem dX10_heapFrom_38 : decode cX10_heapFrom 38 = .ok (.if_icmp .gt 102, 3) := by decide +kernel
theorem dX10_heapFrom_41 : decode cX10_heapFrom 41 = .ok (.iload 5, 2) := by decide +kernel
theorem dX10_heapFrom_43 : decode cX10_heapFrom 43 = .ok (.iload 4, 2) := by decide +kernel
theorem dX10_heapFrom_45 : decode cX10_heapFrom 45 = .ok (.if_icmp .ge 95, 3) := by decide +kernel
theorem dX10_heapFrom_48 : decode cX10_heapFrom 48 = .ok (.aload_n 0, 1) := by decide +kernel
theorem dX10_heapFrom_49 : decode cX10_heapFrom 49 = .ok (.getfield 61, 3) := by decide +kernel
theorem dX10_heapFrom_52 : decode cX10_heapFrom 52 = .ok (.iload 5, 2) := by decide +kernel
theorem dX10_heapFrom_54 : decode cX10_heapFrom 54 = .ok (.iaload, 1) := by decide +kernel
theorem dX10_heapFrom_55 : decode cX10_heapFrom 55 = .ok (.aload_n 0, 1) := by decide +kernel
theorem dX10_heapFrom_56 : decode cX10_heapFrom 56 = .ok (.getfield 16, 3) := by decide +kernel
theorem dX10_heapFrom_59 : decode cX10_heapFrom 59 = .ok (.bipush 24, 2) := by decide +kernel
theorem dX10_heapFrom_61 : decode cX10_heapFrom 61 = .ok (.iload_n 1, 1) := by decide +kernel
theorem dX10_heapFrom_62 : decode cX10_heapFrom 62 = .ok (.imul, 1) := by decide +kernel
theorem dX10_heapFrom_63 : decode cX10_heapFrom 63 = .ok (.iload_n 2, 1) := by decide +kernel
theorem dX10_heapFrom_64 : decode cX10_heapFrom 64 = .ok (.iadd, 1) := by decide +kernel
theorem dX10_heapFrom_65 : decode cX10_heapFrom 65 = .ok (.iaload, 1) := by decide +kernel
theorem dX10_heapFrom_66 : decode cX10_heapFrom 66 = .ok (.iconst (-1), 1) := by decide +kernel
theorem dX10_heapFrom_67 : decode cX10_heapFrom 67 = .ok (.ixor, 1) := by decide +kernel
theorem dX10_heapFrom_68 : decode cX10_heapFrom 68 = .ok (.iand, 1) := by decide +kernel
theorem dX10_heapFrom_69 : decode cX10_heapFrom 69 = .ok (.ifCond .eq 6, 3) := by decide +kernel
theorem dX10_heapFrom_72 : decode cX10_heapFrom 72 = .ok (.goto 62, 3) := by decide +kernel
theorem dX10_heapFrom_75 : decode cX10_heapFrom 75 = .ok (.aload_n 0, 1) := by decide +kernel
theorem dX10_heapFrom_76 : decode cX10_heapFrom 76 = .ok (.getfield 61, 3) := by decide +kernel
theorem dX10_heapFrom_79 : decode cX10_heapFrom 79 = .ok (.iload 5, 2) := by decide +kernel
theorem dX10_heapFrom_81 : decode cX10_heapFrom 81 = .ok (.dup2, 1) := by decide +kernel
theorem dX10_heapFrom_82 : decode cX10_heapFrom 82 = .ok (.iaload, 1) := by decide +kernel
theorem dX10_heapFrom_83 : decode cX10_heapFrom 83 = .ok (.iconst 1, 1) := by decide +kernel
theorem dX10_heapFrom_84 : decode cX10_heapFrom 84 = .ok (.iload_n 2, 1) := by decide +kernel
theorem dX10_heapFrom_85 : decode cX10_heapFrom 85 = .ok (.ishl, 1) := by decide +kernel
theorem dX10_heapFrom_86 : decode cX10_heapFrom 86 = .ok (.ior, 1) := by decide +kernel
theorem dX10_heapFrom_87 : decode cX10_heapFrom 87 = .ok (.iastore, 1) := by decide +kernel
theorem dX10_heapFrom_88 : decode cX10_heapFrom 88 = .ok (.aload_n 0, 1) := by decide +kernel
theorem dX10_heapFrom_89 : decode cX10_heapFrom 89 = .ok (.getfield 58, 3) := by decide +kernel
theorem dX10_heapFrom_92 : decode cX10_heapFrom 92 = .ok (.iload_n 2, 1) := by decide +kernel
theorem dX10_heapFrom_93 : decode cX10_heapFrom 93 = .ok (.iload 5, 2) := by decide +kernel
theorem dX10_heapFrom_95 : decode cX10_heapFrom 95 = .ok (.iastore, 1) := by decide +kernel
theorem dX10_heapFrom_96 : decode cX10_heapFrom 96 = .ok (.aload_n 0, 1) := by decide +kernel
theorem dX10_heapFrom_97 : decode cX10_heapFrom 97 = .ok (.iload_n 1, 1) := by decide +kernel
theorem dX10_heapFrom_98 : decode cX10_heapFrom 98 = .ok (.iload_n 2, 1) := by decide +kernel
theorem dX10_heapFrom_99 : decode cX10_heapFrom 99 = .ok (.iconst 1, 1) := by decide +kernel
theorem dX10_heapFrom_100 : decode cX10_heapFrom 100 = .ok (.iadd, 1) := by decide +kernel
theorem dX10_heapFrom_101 : decode cX10_heapFrom 101 = .ok (.iload_n 3, 1) := by decide +kernel
theorem dX10_heapFrom_102 : decode cX10_heapFrom 102 = .ok (.iload 5, 2) := by decide +kernel
theorem dX10_heapFrom_104 : decode cX10_heapFrom 104 = .ok (.iconst 1, 1) := by decide +kernel
theorem dX10_heapFrom_105 : decode cX10_heapFrom 105 = .ok (.iadd, 1) := by decide +kernel
theorem dX10_heapFrom_106 : decode cX10_heapFrom 106 = .ok (.invokestatic 188, 3) := by decide +kernel
theorem dX10_heapFrom_109 : decode cX10_heapFrom 109 = .ok (.iload 4, 2) := by decide +kernel
theorem dX10_heapFrom_111 : decode cX10_heapFrom 111 = .ok (.invokevirtual 193, 3) := by decide +kernel
theorem dX10_heapFrom_114 : decode cX10_heapFrom 114 = .ok (.ifCond .eq 5, 3) := by decide +kernel
theorem dX10_heapFrom_117 : decode cX10_heapFrom 117 = .ok (.iconst 1, 1) := by decide +kernel
theorem dX10_heapFrom_118 : decode cX10_heapFrom 118 = .ok (.ireturn, 1) := by decide +kernel
theorem dX10_heapFrom_119 : decode cX10_heapFrom 119 = .ok (.aload_n 0, 1) := by decide +kernel
theorem dX10_heapFrom_120 : decode cX10_heapFrom 120 = .ok (.getfield 61, 3) := by decide +kernel
theorem dX10_heapFrom_123 : decode cX10_heapFrom 123 = .ok (.iload 5, 2) := by decide +kernel
theorem dX10_heapFrom_125 : decode cX10_heapFrom 125 = .ok (.dup2, 1) := by decide +kernel
theorem dX10_heapFrom_126 : decode cX10_heapFrom 126 = .ok (.iaload, 1) := by decide +kernel
theorem dX10_heapFrom_127 : decode cX10_heapFrom 127 = .ok (.iconst 1, 1) := by decide +kernel
theorem dX10_heapFrom_128 : decode cX10_heapFrom 128 = .ok (.iload_n 2, 1) := by decide +kernel
theorem dX10_heapFrom_129 : decode cX10_heapFrom 129 = .ok (.ishl, 1) := by decide +kernel
theorem dX10_heapFrom_130 : decode cX10_heapFrom 130 = .ok (.iconst (-1), 1) := by decide +kernel
theorem dX10_heapFrom_131 : decode cX10_heapFrom 131 = .ok (.ixor, 1) := by decide +kernel
theorem dX10_heapFrom_132 : decode cX10_heapFrom 132 = .ok (.iand, 1) := by decide +kernel
theorem dX10_heapFrom_133 : decode cX10_heapFrom 133 = .ok (.iastore, 1) := by decide +kernel
theorem dX10_heapFrom_134 : decode cX10_heapFrom 134 = .ok (.iinc 5 1, 3) := by decide +kernel
theorem dX10_heapFrom_137 : decode cX10_heapFrom 137 = .ok (.goto (-102), 3) := by decide +kernel
theorem dX10_heapFrom_140 : decode cX10_heapFrom 140 = .ok (.iconst 0, 1) := by decide +kernel
theorem dX10_heapFrom_141 : decode cX10_heapFrom 141 = .ok (.ireturn, 1) := by decide +kernel
theorem dX10_heapsOf_0 : decode cX10_heapsOf 0 = .ok (.aload_n 0, 1) := by decide +kernel
theorem dX10_heapsOf_1 : decode cX10_heapsOf 1 = .ok (.iload_n 1, 1) := by decide +kernel
theorem dX10_heapsOf_2 : decode cX10_heapsOf 2 = .ok (.iconst 1, 1) := by decide +kernel
theorem dX10_heapsOf_3 : decode cX10_heapsOf 3 = .ok (.bipush 64, 2) := by decide +kernel
theorem dX10_heapsOf_5 : decode cX10_heapsOf 5 = .ok (.invokevirtual 168, 3) := by decide +kernel
theorem dX10_heapsOf_8 : decode cX10_heapsOf 8 = .ok (.istore_n 2, 1) := by decide +kernel
theorem dX10_heapsOf_9 : decode cX10_heapsOf 9 = .ok (.aload_n 0, 1) := by decide +kernel
theorem dX10_heapsOf_10 : decode cX10_heapsOf 10 = .ok (.aload_n 0, 1) := by decide +kernel
theorem dX10_heapsOf_11 : decode cX10_heapsOf 11 = .ok (.invokevirtual 171, 3) := by decide +kernel
theorem dX10_heapsOf_14 : decode cX10_heapsOf 14 = .ok (.invokevirtual 175, 3) := by decide +kernel
theorem dX10_heapsOf_17 : decode cX10_heapsOf 17 = .ok (.istore_n 3, 1) := by decide +kernel
theorem dX10_heapsOf_18 : decode cX10_heapsOf 18 = .ok (.iconst 0, 1) := by decide +kernel
theorem dX10_heapsOf_19 : decode cX10_heapsOf 19 = .ok (.istore 4, 2) := by decide +kernel
theorem dX10_heapsOf_21 : decode cX10_heapsOf 21 = .ok (.iload 4, 2) := by decide +kernel
theorem dX10_heapsOf_23 : decode cX10_heapsOf 23 = .ok (.bipush 24, 2) := by decide +kernel
theorem dX10_heapsOf_25 : decode cX10_heapsOf 25 = .ok (.if_icmp .ge 17, 3) := by decide +kernel
theorem dX10_heapsOf_28 : decode cX10_heapsOf 28 = .ok (.aload_n 0, 1) := by decide +kernel
theorem dX10_heapsOf_29 : decode cX10_heapsOf 29 = .ok (.getfield 61, 3) := by decide +kernel
theorem dX10_heapsOf_32 : decode cX10_heapsOf 32 = .ok (.iload 4, 2) := by decide +kernel
theorem dX10_heapsOf_34 : decode cX10_heapsOf 34 = .ok (.iconst 0, 1) := by decide +kernel
theorem dX10_heapsOf_35 : decode cX10_heapsOf 35 = .ok (.iastore, 1) := by decide +kernel
theorem dX10_heapsOf_36 : decode cX10_heapsOf 36 = .ok (.iinc 4 1, 3) := by decide +kernel
theorem dX10_heapsOf_39 : decode cX10_heapsOf 39 = .ok (.goto (-18), 3) := by decide +kernel
theorem dX10_heapsOf_42 : decode cX10_heapsOf 42 = .ok (.aload_n 0, 1) := by decide +kernel
theorem dX10_heapsOf_43 : decode cX10_heapsOf 43 = .ok (.iload_n 1, 1) := by decide +kernel
theorem dX10_heapsOf_44 : decode cX10_heapsOf 44 = .ok (.iconst 0, 1) := by decide +kernel
theorem dX10_heapsOf_45 : decode cX10_heapsOf 45 = .ok (.iconst 0, 1) := by decide +kernel
theorem dX10_heapsOf_46 : decode cX10_heapsOf 46 = .ok (.iload_n 3, 1) := by decide +kernel
theorem dX10_heapsOf_47 : decode cX10_heapsOf 47 = .ok (.invokevirtual 193, 3) := by decide +kernel
theorem dX10_heapsOf_50 : decode cX10_heapsOf 50 = .ok (.ifCond .ne 9, 3) := by decide +kernel
theorem dX10_heapsOf_53 : decode cX10_heapsOf 53 = .ok (.iinc 3 1, 3) := by decide +kernel
theorem dX10_heapsOf_56 : decode cX10_heapsOf 56 = .ok (.goto (-14), 3) := by decide +kernel
theorem dX10_heapsOf_59 : decode cX10_heapsOf 59 = .ok (.iload_n 3, 1) := by decide +kernel
theorem dX10_heapsOf_60 : decode cX10_heapsOf 60 = .ok (.ireturn, 1) := by decide +kernel
theorem dX10_heaps_0 : decode cX10_heaps 0 = .ok (.iload_n 1, 1) := by decide +kernel
theorem dX10_heaps_1 : decode cX10_heaps 1 = .ok (.invokestatic 85, 3) := by decide +kernel
theorem dX10_heaps_4 : decode cX10_heaps 4 = .ok (.ifCond .ne 6, 3) := by decide +kernel
theorem dX10_heaps_7 : decode cX10_heaps 7 = .ok (.bipush (-2), 2) := by decide +kernel
theorem dX10_heaps_9 : decode cX10_heaps 9 = .ok (.ireturn, 1) := by decide +kernel
theorem dX10_heaps_10 : decode cX10_heaps 10 = .ok (.aload_n 0, 1) := by decide +kernel
theorem dX10_heaps_11 : decode cX10_heaps 11 = .ok (.iload_n 1, 1) := by decide +kernel
theorem dX10_heaps_12 : decode cX10_heaps 12 = .ok (.invokevirtual 196, 3) := by decide +kernel
theorem dX10_heaps_15 : decode cX10_heaps 15 = .ok (.istore_n 2, 1) := by decide +kernel
theorem dX10_heaps_16 : decode cX10_heaps 16 = .ok (.aload_n 0, 1) := by decide +kernel
theorem dX10_heaps_17 : decode cX10_heaps 17 = .ok (.aload_n 0, 1) := by decide +kernel
theorem dX10_heaps_18 : decode cX10_heaps 18 = .ok (.getfield 9, 3) := by decide +kernel
theorem dX10_heaps_21 : decode cX10_heaps 21 = .ok (.iload_n 1, 1) := by decide +kernel
theorem dX10_heaps_22 : decode cX10_heaps 22 = .ok (.iaload, 1) := by decide +kernel
theorem dX10_heaps_23 : decode cX10_heaps 23 = .ok (.putfield 200, 3) := by decide +kernel
theorem dX10_heaps_26 : decode cX10_heaps 26 = .ok (.iconst 0, 1) := by decide +kernel
theorem dX10_heaps_27 : decode cX10_heaps 27 = .ok (.istore_n 3, 1) := by decide +kernel
theorem dX10_heaps_28 : decode cX10_heaps 28 = .ok (.iload_n 3, 1) := by decide +kernel
theorem dX10_heaps_29 : decode cX10_heaps 29 = .ok (.aload_n 0, 1) := by decide +kernel
theorem dX10_heaps_30 : decode cX10_heaps 30 = .ok (.getfield 200, 3) := by decide +kernel
theorem dX10_heaps_33 : decode cX10_heaps 33 = .ok (.if_icmp .ge 21, 3) := by decide +kernel
theorem dX10_heaps_36 : decode cX10_heaps 36 = .ok (.aload_n 0, 1) := by decide +kernel
theorem dX10_heaps_37 : decode cX10_heaps 37 = .ok (.getfield 64, 3) := by decide +kernel
theorem dX10_heaps_40 : decode cX10_heaps 40 = .ok (.iload_n 3, 1) := by decide +kernel
theorem dX10_heaps_41 : decode cX10_heaps 41 = .ok (.aload_n 0, 1) := by decide +kernel
theorem dX10_heaps_42 : decode cX10_heaps 42 = .ok (.getfield 58, 3) := by decide +kernel
theorem dX10_heaps_45 : decode cX10_heaps 45 = .ok (.iload_n 3, 1) := by decide +kernel
theorem dX10_heaps_46 : decode cX10_heaps 46 = .ok (.iaload, 1) := by decide +kernel
theorem dX10_heaps_47 : decode cX10_heaps 47 = .ok (.iastore, 1) := by decide +kernel
theorem dX10_heaps_48 : decode cX10_heaps 48 = .ok (.iinc 3 1, 3) := by decide +kernel
theorem dX10_heaps_51 : decode cX10_heaps 51 = .ok (.goto (-23), 3) := by decide +kernel
theorem dX10_heaps_54 : decode cX10_heaps 54 = .ok (.iload_n 2, 1) := by decide +kernel
theorem dX10_heaps_55 : decode cX10_heaps 55 = .ok (.ireturn, 1) := by decide +kernel
theorem dX10_heap_0 : decode cX10_heap 0 = .ok (.iload_n 1, 1) := by decide +kernel
theorem dX10_heap_1 : decode cX10_heap 1 = .ok (.i2l, 1) := by decide +kernel
theorem dX10_heap_2 : decode cX10_heap 2 = .ok (.lconst 0, 1) := by decide +kernel
theorem dX10_heap_3 : decode cX10_heap 3 = .ok (.aload_n 0, 1) := by decide +kernel
theorem dX10_heap_4 : decode cX10_heap 4 = .ok (.getfield 200, 3) := by decide +kernel
theorem dX10_heap_7 : decode cX10_heap 7 = .ok (.i2l, 1) := by decide +kernel
theorem dX10_heap_8 : decode cX10_heap 8 = .ok (.lconst 1, 1) := by decide +kernel
theorem dX10_heap_9 : decode cX10_heap 9 = .ok (.lsub, 1) := by decide +kernel
theorem dX10_heap_10 : decode cX10_heap 10 = .ok (.invokestatic 81, 3) := by decide +kernel
theorem dX10_heap_13 : decode cX10_heap 13 = .ok (.ifCond .eq 12, 3) := by decide +kernel
theorem dX10_heap_16 : decode cX10_heap 16 = .ok (.aload_n 0, 1) := by decide +kernel
theorem dX10_heap_17 : decode cX10_heap 17 = .ok (.getfield 64, 3) := by decide +kernel
theorem dX10_heap_20 : decode cX10_heap 20 = .ok (.iload_n 1, 1) := by decide +kernel
theorem dX10_heap_21 : decode cX10_heap 21 = .ok (.iaload, 1) := by decide +kernel
theorem dX10_heap_22 : decode cX10_heap 22 = .ok (.goto 4, 3) := by decide +kernel
theorem dX10_heap_25 : decode cX10_heap 25 = .ok (.iconst (-1), 1) := by decide +kernel
theorem dX10_heap_26 : decode cX10_heap 26 = .ok (.ireturn, 1) := by decide +kernel
theorem dX10_placeOf_0 : decode cX10_placeOf 0 = .ok (.bipush 25, 2) := by decide +kernel
theorem dX10_placeOf_2 : decode cX10_placeOf 2 = .ok (.iload_n 0, 1) := by decide +kernel
theorem dX10_placeOf_3 : decode cX10_placeOf 3 = .ok (.imul, 1) := by decide +kernel
theorem dX10_placeOf_4 : decode cX10_placeOf 4 = .ok (.iload_n 1, 1) := by decide +kernel
theorem dX10_placeOf_5 : decode cX10_placeOf 5 = .ok (.iconst (-1), 1) := by decide +kernel
theorem dX10_placeOf_6 : decode cX10_placeOf 6 = .ok (.if_icmp .ne 8, 3) := by decide +kernel
theorem dX10_placeOf_9 : decode cX10_placeOf 9 = .ok (.bipush 24, 2) := by decide +kernel
theorem dX10_placeOf_11 : decode cX10_placeOf 11 = .ok (.goto 4, 3) := by decide +kernel
theorem dX10_placeOf_14 : decode cX10_placeOf 14 = .ok (.iload_n 1, 1) := by decide +kernel
theorem dX10_placeOf_15 : decode cX10_placeOf 15 = .ok (.iadd, 1) := by decide +kernel
theorem dX10_placeOf_16 : decode cX10_placeOf 16 = .ok (.bipush 6, 2) := by decide +kernel
theorem dX10_placeOf_18 : decode cX10_placeOf 18 = .ok (.imul, 1) := by decide +kernel
theorem dX10_placeOf_19 : decode cX10_placeOf 19 = .ok (.ireturn, 1) := by decide +kernel
theorem dX10_row_0 : decode cX10_row 0 = .ok (.iload_n 1, 1) := by decide +kernel
theorem dX10_row_1 : decode cX10_row 1 = .ok (.invokestatic 85, 3) := by decide +kernel
theorem dX10_row_4 : decode cX10_row 4 = .ok (.ifCond .eq 50, 3) := by decide +kernel
theorem dX10_row_7 : decode cX10_row 7 = .ok (.iload_n 2, 1) := by decide +kernel
theorem dX10_row_8 : decode cX10_row 8 = .ok (.i2l, 1) := by decide +kernel
theorem dX10_row_9 : decode cX10_row 9 = .ok (.ldc2_w 155, 3) := by decide +kernel
theorem dX10_row_12 : decode cX10_row 12 = .ok (.aload_n 0, 1) := by decide +kernel
theorem dX10_row_13 : decode cX10_row 13 = .ok (.getfield 9, 3) := by decide +kernel
theorem dX10_row_16 : decode cX10_row 16 = .ok (.iload_n 1, 1) := by decide +kernel
theorem dX10_row_17 : decode cX10_row 17 = .ok (.iaload, 1) := by decide +kernel
theorem dX10_row_18 : decode cX10_row 18 = .ok (.i2l, 1) := by decide +kernel
theorem dX10_row_19 : decode cX10_row 19 = .ok (.lconst 1, 1) := by decide +kernel
theorem dX10_row_20 : decode cX10_row 20 = .ok (.lsub, 1) := by decide +kernel
theorem dX10_row_21 : decode cX10_row 21 = .ok (.invokestatic 81, 3) := by decide +kernel
theorem dX10_row_24 : decode cX10_row 24 = .ok (.ifCond .eq 30, 3) := by decide +kernel
theorem dX10_row_27 : decode cX10_row 27 = .ok (.iload_n 3, 1) := by decide +kernel
theorem dX10_row_28 : decode cX10_row 28 = .ok (.i2l, 1) := by decide +kernel
theorem dX10_row_29 : decode cX10_row 29 = .ok (.lconst 0, 1) := by decide +kernel
theorem dX10_row_30 : decode cX10_row 30 = .ok (.ldc2_w 203, 3) := by decide +kernel
theorem dX10_row_33 : decode cX10_row 33 = .ok (.invokestatic 81, 3) := by decide +kernel
theorem dX10_row_36 : decode cX10_row 36 = .ok (.ifCond .eq 18, 3) := by decide +kernel
theorem dX10_row_39 : decode cX10_row 39 = .ok (.iload 4, 2) := by decide +kernel
theorem dX10_row_41 : decode cX10_row 41 = .ok (.i2l, 1) := by decide +kernel
theorem dX10_row_42 : decode cX10_row 42 = .ok (.ldc2_w 205, 3) := by decide +kernel
theorem dX10_row_45 : decode cX10_row 45 = .ok (.ldc2_w 207, 3) := by decide +kernel
theorem dX10_row_48 : decode cX10_row 48 = .ok (.invokestatic 81, 3) := by decide +kernel
theorem dX10_row_51 : decode cX10_row 51 = .ok (.ifCond .ne 6, 3) := by decide +kernel
theorem dX10_row_54 : decode cX10_row 54 = .ok (.bipush (-31), 2) := by decide +kernel
theorem dX10_row_56 : decode cX10_row 56 = .ok (.ireturn, 1) := by decide +kernel
theorem dX10_row_57 : decode cX10_row 57 = .ok (.iload_n 1, 1) := by decide +kernel
theorem dX10_row_58 : decode cX10_row 58 = .ok (.iload_n 2, 1) := by decide +kernel
theorem dX10_row_59 : decode cX10_row 59 = .ok (.invokestatic 209, 3) := by decide +kernel
theorem dX10_row_62 : decode cX10_row 62 = .ok (.iload_n 3, 1) := by decide +kernel
theorem dX10_row_63 : decode cX10_row 63 = .ok (.iadd, 1) := by decide +kernel
theorem dX10_row_64 : decode cX10_row 64 = .ok (.istore 5, 2) := by decide +kernel
theorem dX10_row_66 : decode cX10_row 66 = .ok (.aload_n 0, 1) := by decide +kernel
theorem dX10_row_67 : decode cX10_row 67 = .ok (.getfield 22, 3) := by decide +kernel
theorem dX10_row_70 : decode cX10_row 70 = .ok (.iload 5, 2) := by decide +kernel
theorem dX10_row_72 : decode cX10_row 72 = .ok (.iaload, 1) := by decide +kernel
theorem dX10_row_73 : decode cX10_row 73 = .ok (.istore 6, 2) := by decide +kernel
theorem dX10_row_75 : decode cX10_row 75 = .ok (.aload_n 0, 1) := by decide +kernel
theorem dX10_row_76 : decode cX10_row 76 = .ok (.getfield 22, 3) := by decide +kernel
theorem dX10_row_79 : decode cX10_row 79 = .ok (.iload 5, 2) := by decide +kernel
theorem dX10_row_81 : decode cX10_row 81 = .ok (.iload 4, 2) := by decide +kernel
theorem dX10_row_83 : decode cX10_row 83 = .ok (.iastore, 1) := by decide +kernel
theorem dX10_row_84 : decode cX10_row 84 = .ok (.iload 6, 2) := by decide +kernel
theorem dX10_row_86 : decode cX10_row 86 = .ok (.ireturn, 1) := by decide +kernel
theorem dX10_product_0 : decode cX10_product 0 = .ok (.iconst 0, 1) := by decide +kernel
theorem dX10_product_1 : decode cX10_product 1 = .ok (.istore 4, 2) := by decide +kernel
theorem dX10_product_3 : decode cX10_product 3 = .ok (.iconst 0, 1) := by decide +kernel
theorem dX10_product_4 : decode cX10_product 4 = .ok (.istore 5, 2) := by decide +kernel
theorem dX10_product_6 : decode cX10_product 6 = .ok (.iload 5, 2) := by decide +kernel
theorem dX10_product_8 : decode cX10_product 8 = .ok (.bipush 6, 2) := by decide +kernel
theorem dX10_product_10 : decode cX10_product 10 = .ok (.if_icmp .ge 41, 3) := by decide +kernel
theorem dX10_product_13 : decode cX10_product 13 = .ok (.iload 4, 2) := by decide +kernel
theorem dX10_product_15 : decode cX10_product 15 = .ok (.aload_n 0, 1) := by decide +kernel
theorem dX10_product_16 : decode cX10_product 16 = .ok (.getfield 22, 3) := by decide +kernel
theorem dX10_product_19 : decode cX10_product 19 = .ok (.iload_n 1, 1) := by decide +kernel
theorem dX10_product_20 : decode cX10_product 20 = .ok (.iload_n 2, 1) := by decide +kernel
theorem dX10_product_21 : decode cX10_product 21 = .ok (.invokestatic 209, 3) := by decide +kernel
theorem dX10_product_24 : decode cX10_product 24 = .ok (.iload 5, 2) := by decide +kernel
theorem dX10_product_26 : decode cX10_product 26 = .ok (.iadd, 1) := by decide +kernel
theorem dX10_product_27 : decode cX10_product 27 = .ok (.iaload, 1) := by decide +kernel
theorem dX10_product_28 : decode cX10_product 28 = .ok (.aload_n 0, 1) := by decide +kernel
theorem dX10_product_29 : decode cX10_product 29 = .ok (.getfield 22, 3) := by decide +kernel
theorem dX10_product_32 : decode cX10_product 32 = .ok (.iload_n 1, 1) := by decide +kernel
theorem dX10_product_33 : decode cX10_product 33 = .ok (.iload_n 3, 1) := by decide +kernel
theorem dX10_product_34 : decode cX10_product 34 = .ok (.invokestatic 209, 3) := by decide +kernel
theorem dX10_product_37 : decode cX10_product 37 = .ok (.iload 5, 2) := by decide +kernel
theorem dX10_product_39 : decode cX10_product 39 = .ok (.iadd, 1) := by decide +kernel
theorem dX10_product_40 : decode cX10_product 40 = .ok (.iaload, 1) := by decide +kernel
theorem dX10_product_41 : decode cX10_product 41 = .ok (.imul, 1) := by decide +kernel
theorem dX10_product_42 : decode cX10_product 42 = .ok (.iadd, 1) := by decide +kernel
theorem dX10_product_43 : decode cX10_product 43 = .ok (.istore 4, 2) := by decide +kernel
theorem dX10_product_45 : decode cX10_product 45 = .ok (.iinc 5 1, 3) := by decide +kernel
theorem dX10_product_48 : decode cX10_product 48 = .ok (.goto (-42), 3) := by decide +kernel
theorem dX10_product_51 : decode cX10_product 51 = .ok (.iload 4, 2) := by decide +kernel
theorem dX10_product_53 : decode cX10_product 53 = .ok (.ireturn, 1) := by decide +kernel
theorem dX10_stands_0 : decode cX10_stands 0 = .ok (.iload_n 1, 1) := by decide +kernel
theorem dX10_stands_1 : decode cX10_stands 1 = .ok (.invokestatic 85, 3) := by decide +kernel
theorem dX10_stands_4 : decode cX10_stands 4 = .ok (.ifCond .ne 6, 3) := by decide +kernel
theorem dX10_stands_7 : decode cX10_stands 7 = .ok (.bipush (-2), 2) := by decide +kernel
theorem dX10_stands_9 : decode cX10_stands 9 = .ok (.ireturn, 1) := by decide +kernel
theorem dX10_stands_10 : decode cX10_stands 10 = .ok (.iconst 0, 1) := by decide +kernel
theorem dX10_stands_11 : decode cX10_stands 11 = .ok (.istore_n 2, 1) := by decide +kernel
theorem dX10_stands_12 : decode cX10_stands 12 = .ok (.iload_n 2, 1) := by decide +kernel
theorem dX10_stands_13 : decode cX10_stands 13 = .ok (.aload_n 0, 1) := by decide +kernel
theorem dX10_stands_14 : decode cX10_stands 14 = .ok (.getfield 9, 3) := by decide +kernel
theorem dX10_stands_17 : decode cX10_stands 17 = .ok (.iload_n 1, 1) := by decide +kernel
theorem dX10_stands_18 : decode cX10_stands 18 = .ok (.iaload, 1) := by decide +kernel
theorem dX10_stands_19 : decode cX10_stands 19 = .ok (.if_icmp .ge 56, 3) := by decide +kernel
theorem dX10_stands_22 : decode cX10_stands 22 = .ok (.iload_n 2, 1) := by decide +kernel
theorem dX10_stands_23 : decode cX10_stands 23 = .ok (.iconst 1, 1) := by decide +kernel
theorem dX10_stands_24 : decode cX10_stands 24 = .ok (.iadd, 1) := by decide +kernel
theorem dX10_stands_25 : decode cX10_stands 25 = .ok (.istore_n 3, 1) := by decide +kernel
theorem dX10_stands_26 : decode cX10_stands 26 = .ok (.iload_n 3, 1) := by decide +kernel
theorem dX10_stands_27 : decode cX10_stands 27 = .ok (.aload_n 0, 1) := by decide +kernel
theorem dX10_stands_28 : decode cX10_stands 28 = .ok (.getfield 9, 3) := by decide +kernel
theorem dX10_stands_31 : decode cX10_stands 31 = .ok (.iload_n 1, 1) := by decide +kernel
theorem dX10_stands_32 : decode cX10_stands 32 = .ok (.iaload, 1) := by decide +kernel
theorem dX10_stands_33 : decode cX10_stands 33 = .ok (.if_icmp .ge 36, 3) := by decide +kernel
theorem dX10_stands_36 : decode cX10_stands 36 = .ok (.aload_n 0, 1) := by decide +kernel
theorem dX10_stands_37 : decode cX10_stands 37 = .ok (.iload_n 1, 1) := by decide +kernel
theorem dX10_stands_38 : decode cX10_stands 38 = .ok (.iload_n 2, 1) := by decide +kernel
theorem dX10_stands_39 : decode cX10_stands 39 = .ok (.iload_n 3, 1) := by decide +kernel
theorem dX10_stands_40 : decode cX10_stands 40 = .ok (.invokevirtual 109, 3) := by decide +kernel
theorem dX10_stands_43 : decode cX10_stands 43 = .ok (.ifCond .ne 20, 3) := by decide +kernel
theorem dX10_stands_46 : decode cX10_stands 46 = .ok (.aload_n 0, 1) := by decide +kernel
theorem dX10_stands_47 : decode cX10_stands 47 = .ok (.iload_n 1, 1) := by decide +kernel
theorem dX10_stands_48 : decode cX10_stands 48 = .ok (.iload_n 2, 1) := by decide +kernel
theorem dX10_stands_49 : decode cX10_stands 49 = .ok (.iload_n 3, 1) := by decide +kernel
theorem dX10_stands_50 : decode cX10_stands 50 = .ok (.invokevirtual 212, 3) := by decide +kernel
theorem dX10_stands_53 : decode cX10_stands 53 = .ok (.ifCond .eq 10, 3) := by decide +kernel
theorem dX10_stands_56 : decode cX10_stands 56 = .ok (.bipush 100, 2) := by decide +kernel
theorem dX10_stands_58 : decode cX10_stands 58 = .ok (.iload_n 2, 1) := by decide +kernel
theorem dX10_stands_59 : decode cX10_stands 59 = .ok (.imul, 1) := by decide +kernel
theorem dX10_stands_60 : decode cX10_stands 60 = .ok (.iload_n 3, 1) := by decide +kernel
theorem dX10_stands_61 : decode cX10_stands 61 = .ok (.iadd, 1) := by decide +kernel
theorem dX10_stands_62 : decode cX10_stands 62 = .ok (.ireturn, 1) := by decide +kernel
theorem dX10_stands_63 : decode cX10_stands 63 = .ok (.iinc 3 1, 3) := by decide +kernel
theorem dX10_stands_66 : decode cX10_stands 66 = .ok (.goto (-40), 3) := by decide +kernel
theorem dX10_stands_69 : decode cX10_stands 69 = .ok (.iinc 2 1, 3) := by decide +kernel
theorem dX10_stands_72 : decode cX10_stands 72 = .ok (.goto (-60), 3) := by decide +kernel
theorem dX10_stands_75 : decode cX10_stands 75 = .ok (.iconst 0, 1) := by decide +kernel
theorem dX10_stands_76 : decode cX10_stands 76 = .ok (.istore_n 2, 1) := by decide +kernel
theorem dX10_stands_77 : decode cX10_stands 77 = .ok (.iload_n 2, 1) := by decide +kernel
theorem dX10_stands_78 : decode cX10_stands 78 = .ok (.aload_n 0, 1) := by decide +kernel
theorem dX10_stands_79 : decode cX10_stands 79 = .ok (.getfield 9, 3) := by decide +kernel
theorem dX10_stands_82 : decode cX10_stands 82 = .ok (.iload_n 1, 1) := by decide +kernel
theorem dX10_stands_83 : decode cX10_stands 83 = .ok (.iaload, 1) := by decide +kernel
theorem dX10_stands_84 : decode cX10_stands 84 = .ok (.if_icmp .ge 25, 3) := by decide +kernel
theorem dX10_stands_87 : decode cX10_stands 87 = .ok (.aload_n 0, 1) := by decide +kernel
theorem dX10_stands_88 : decode cX10_stands 88 = .ok (.iload_n 1, 1) := by decide +kernel
theorem dX10_stands_89 : decode cX10_stands 89 = .ok (.iload_n 2, 1) := by decide +kernel
theorem dX10_stands_90 : decode cX10_stands 90 = .ok (.iconst (-1), 1) := by decide +kernel
theorem dX10_stands_91 : decode cX10_stands 91 = .ok (.invokevirtual 212, 3) := by decide +kernel
theorem dX10_stands_94 : decode cX10_stands 94 = .ok (.ifCond .ne 9, 3) := by decide +kernel
theorem dX10_stands_97 : decode cX10_stands 97 = .ok (.sipush 10000, 3) := by decide +kernel
theorem dX10_stands_100 : decode cX10_stands 100 = .ok (.iload_n 2, 1) := by decide +kernel
theorem dX10_stands_101 : decode cX10_stands 101 = .ok (.iadd, 1) := by decide +kernel
theorem dX10_stands_102 : decode cX10_stands 102 = .ok (.ireturn, 1) := by decide +kernel
theorem dX10_stands_103 : decode cX10_stands 103 = .ok (.iinc 2 1, 3) := by decide +kernel
theorem dX10_stands_106 : decode cX10_stands 106 = .ok (.goto (-29), 3) := by decide +kernel
theorem dX10_stands_109 : decode cX10_stands 109 = .ok (.iconst (-1), 1) := by decide +kernel
theorem dX10_stands_110 : decode cX10_stands 110 = .ok (.ireturn, 1) := by decide +kernel
theorem dX10_findBound_0 : decode cX10_findBound 0 = .ok (.aload_n 0, 1) := by decide +kernel
theorem dX10_findBound_1 : decode cX10_findBound 1 = .ok (.iconst (-1), 1) := by decide +kernel
theorem dX10_findBound_2 : decode cX10_findBound 2 = .ok (.putfield 216, 3) := by decide +kernel
theorem dX10_findBound_5 : decode cX10_findBound 5 = .ok (.iconst 0, 1) := by decide +kernel
theorem dX10_findBound_6 : decode cX10_findBound 6 = .ok (.istore_n 2, 1) := by decide +kernel
theorem dX10_findBound_7 : decode cX10_findBound 7 = .ok (.iload_n 2, 1) := by decide +kernel
theorem dX10_findBound_8 : decode cX10_findBound 8 = .ok (.aload_n 0, 1) := by decide +kernel
theorem dX10_findBound_9 : decode cX10_findBound 9 = .ok (.getfield 9, 3) := by decide +kernel
theorem dX10_findBound_12 : decode cX10_findBound 12 = .ok (.iload_n 1, 1) := by decide +kernel
theorem dX10_findBound_13 : decode cX10_findBound 13 = .ok (.iaload, 1) := by decide +kernel
theorem dX10_findBound_14 : decode cX10_findBound 14 = .ok (.if_icmp .ge 90, 3) := by decide +kernel
theorem dX10_findBound_17 : decode cX10_findBound 17 = .ok (.aload_n 0, 1) := by decide +kernel
theorem dX10_findBound_18 : decode cX10_findBound 18 = .ok (.iload_n 1, 1) := by decide +kernel
theorem dX10_findBound_19 : decode cX10_findBound 19 = .ok (.iload_n 2, 1) := by decide +kernel
theorem dX10_findBound_20 : decode cX10_findBound 20 = .ok (.iload_n 2, 1) := by decide +kernel
theorem dX10_findBound_21 : decode cX10_findBound 21 = .ok (.invokevirtual 212, 3) := by decide +kernel
theorem dX10_findBound_24 : decode cX10_findBound 24 = .ok (.i2l, 1) := by decide +kernel
theorem dX10_findBound_25 : decode cX10_findBound 25 = .ok (.aload_n 0, 1) := by decide +kernel
theorem dX10_findBound_26 : decode cX10_findBound 26 = .ok (.iload_n 1, 1) := by decide +kernel
theorem dX10_findBound_27 : decode cX10_findBound 27 = .ok (.iconst (-1), 1) := by decide +kernel
theorem dX10_findBound_28 : decode cX10_findBound 28 = .ok (.iconst (-1), 1) := by decide +kernel
theorem dX10_findBound_29 : decode cX10_findBound 29 = .ok (.invokevirtual 212, 3) := by decide +kernel
theorem dX10_findBound_32 : decode cX10_findBound 32 = .ok (.i2l, 1) := by decide +kernel
theorem dX10_findBound_33 : decode cX10_findBound 33 = .ok (.lmul, 1) := by decide +kernel
theorem dX10_findBound_34 : decode cX10_findBound 34 = .ok (.lstore_n 3, 1) := by decide +kernel
theorem dX10_findBound_35 : decode cX10_findBound 35 = .ok (.aload_n 0, 1) := by decide +kernel
theorem dX10_findBound_36 : decode cX10_findBound 36 = .ok (.iload_n 1, 1) := by decide +kernel
theorem dX10_findBound_37 : decode cX10_findBound 37 = .ok (.iload_n 2, 1) := by decide +kernel
theorem dX10_findBound_38 : decode cX10_findBound 38 = .ok (.iconst (-1), 1) := by decide +kernel
theorem dX10_findBound_39 : decode cX10_findBound 39 = .ok (.invokevirtual 212, 3) := by decide +kernel
theorem dX10_findBound_42 : decode cX10_findBound 42 = .ok (.i2l, 1) := by decide +kernel
theorem dX10_findBound_43 : decode cX10_findBound 43 = .ok (.aload_n 0, 1) := by decide +kernel
theorem dX10_findBound_44 : decode cX10_findBound 44 = .ok (.iload_n 1, 1) := by decide +kernel
theorem dX10_findBound_45 : decode cX10_findBound 45 = .ok (.iload_n 2, 1) := by decide +kernel
theorem dX10_findBound_46 : decode cX10_findBound 46 = .ok (.iconst (-1), 1) := by decide +kernel
theorem dX10_findBound_47 : decode cX10_findBound 47 = .ok (.invokevirtual 212, 3) := by decide +kernel
theorem dX10_findBound_50 : decode cX10_findBound 50 = .ok (.i2l, 1) := by decide +kernel
theorem dX10_findBound_51 : decode cX10_findBound 51 = .ok (.lmul, 1) := by decide +kernel
theorem dX10_findBound_52 : decode cX10_findBound 52 = .ok (.lstore 5, 2) := by decide +kernel
theorem dX10_findBound_54 : decode cX10_findBound 54 = .ok (.aload_n 0, 1) := by decide +kernel
theorem dX10_findBound_55 : decode cX10_findBound 55 = .ok (.getfield 216, 3) := by decide +kernel
theorem dX10_findBound_58 : decode cX10_findBound 58 = .ok (.iconst (-1), 1) := by decide +kernel
theorem dX10_findBound_59 : decode cX10_findBound 59 = .ok (.if_icmp .eq 23, 3) := by decide +kernel
theorem dX10_findBound_62 : decode cX10_findBound 62 = .ok (.lload_n 3, 1) := by decide +kernel
theorem dX10_findBound_63 : decode cX10_findBound 63 = .ok (.aload_n 0, 1) := by decide +kernel
theorem dX10_findBound_64 : decode cX10_findBound 64 = .ok (.getfield 219, 3) := by decide +kernel
theorem dX10_findBound_67 : decode cX10_findBound 67 = .ok (.lmul, 1) := by decide +kernel
theorem dX10_findBound_68 : decode cX10_findBound 68 = .ok (.aload_n 0, 1) := by decide +kernel
theorem dX10_findBound_69 : decode cX10_findBound 69 = .ok (.getfield 223, 3) := by decide +kernel
theorem dX10_findBound_72 : decode cX10_findBound 72 = .ok (.lload 5, 2) := by decide +kernel
theorem dX10_findBound_74 : decode cX10_findBound 74 = .ok (.lmul, 1) := by decide +kernel
theorem dX10_findBound_75 : decode cX10_findBound 75 = .ok (.lcmp, 1) := by decide +kernel
theorem dX10_findBound_76 : decode cX10_findBound 76 = .ok (.ifCond .gt 6, 3) := by decide +kernel
theorem dX10_findBound_79 : decode cX10_findBound 79 = .ok (.goto 19, 3) := by decide +kernel
theorem dX10_findBound_82 : decode cX10_findBound 82 = .ok (.aload_n 0, 1) := by decide +kernel
theorem dX10_findBound_83 : decode cX10_findBound 83 = .ok (.iload_n 2, 1) := by decide +kernel
theorem dX10_findBound_84 : decode cX10_findBound 84 = .ok (.putfield 216, 3) := by decide +kernel
theorem dX10_findBound_87 : decode cX10_findBound 87 = .ok (.aload_n 0, 1) := by decide +kernel
theorem dX10_findBound_88 : decode cX10_findBound 88 = .ok (.lload_n 3, 1) := by decide +kernel
theorem dX10_findBound_89 : decode cX10_findBound 89 = .ok (.putfield 223, 3) := by decide +kernel
theorem dX10_findBound_92 : decode cX10_findBound 92 = .ok (.aload_n 0, 1) := by decide +kernel
theorem dX10_findBound_93 : decode cX10_findBound 93 = .ok (.lload 5, 2) := by decide +kernel
theorem dX10_findBound_95 : decode cX10_findBound 95 = .ok (.putfield 219, 3) := by decide +kernel
theorem dX10_findBound_98 : decode cX10_findBound 98 = .ok (.iinc 2 1, 3) := by decide +kernel
theorem dX10_findBound_101 : decode cX10_findBound 101 = .ok (.goto (-94), 3) := by decide +kernel
theorem dX10_findBound_104 : decode cX10_findBound 104 = .ok (.aload_n 0, 1) := by decide +kernel
theorem dX10_findBound_105 : decode cX10_findBound 105 = .ok (.getfield 223, 3) := by decide +kernel
theorem dX10_findBound_108 : decode cX10_findBound 108 = .ok (.lstore_n 2, 1) := by decide +kernel
theorem dX10_findBound_109 : decode cX10_findBound 109 = .ok (.aload_n 0, 1) := by decide +kernel
theorem dX10_findBound_110 : decode cX10_findBound 110 = .ok (.getfield 219, 3) := by decide +kernel
theorem dX10_findBound_113 : decode cX10_findBound 113 = .ok (.lstore 4, 2) := by decide +kernel
theorem dX10_findBound_115 : decode cX10_findBound 115 = .ok (.lload 4, 2) := by decide +kernel
theorem dX10_findBound_117 : decode cX10_findBound 117 = .ok (.lconst 0, 1) := by decide +kernel
theorem dX10_findBound_118 : decode cX10_findBound 118 = .ok (.lcmp, 1) := by decide +kernel
theorem dX10_findBound_119 : decode cX10_findBound 119 = .ok (.ifCond .eq 19, 3) := by decide +kernel
theorem dX10_findBound_122 : decode cX10_findBound 122 = .ok (.lload_n 2, 1) := by decide +kernel
theorem dX10_findBound_123 : decode cX10_findBound 123 = .ok (.lload 4, 2) := by decide +kernel
theorem dX10_findBound_125 : decode cX10_findBound 125 = .ok (.lrem, 1) := by decide +kernel
theorem dX10_findBound_126 : decode cX10_findBound 126 = .ok (.lstore 6, 2) := by decide +kernel
theorem dX10_findBound_128 : decode cX10_findBound 128 = .ok (.lload 4, 2) := by decide +kernel
theorem dX10_findBound_130 : decode cX10_findBound 130 = .ok (.lstore_n 2, 1) := by decide +kernel
theorem dX10_findBound_131 : decode cX10_findBound 131 = .ok (.lload 6, 2) := by decide +kernel
theorem dX10_findBound_133 : decode cX10_findBound 133 = .ok (.lstore 4, 2) := by decide +kernel
theorem dX10_findBound_135 : decode cX10_findBound 135 = .ok (.goto (-20), 3) := by decide +kernel
theorem dX10_findBound_138 : decode cX10_findBound 138 = .ok (.aload_n 0, 1) := by decide +kernel
theorem dX10_findBound_139 : decode cX10_findBound 139 = .ok (.dup, 1) := by decide +kernel
theorem dX10_findBound_140 : decode cX10_findBound 140 = .ok (.getfield 223, 3) := by decide +kernel
theorem dX10_findBound_143 : decode cX10_findBound 143 = .ok (.lload_n 2, 1) := by decide +kernel
theorem dX10_findBound_144 : decode cX10_findBound 144 = .ok (.ldiv, 1) := by decide +kernel
theorem dX10_findBound_145 : decode cX10_findBound 145 = .ok (.putfield 223, 3) := by decide +kernel
theorem dX10_findBound_148 : decode cX10_findBound 148 = .ok (.aload_n 0, 1) := by decide +kernel
theorem dX10_findBound_149 : decode cX10_findBound 149 = .ok (.dup, 1) := by decide +kernel
theorem dX10_findBound_150 : decode cX10_findBound 150 = .ok (.getfield 219, 3) := by decide +kernel
theorem dX10_findBound_153 : decode cX10_findBound 153 = .ok (.lload_n 2, 1) := by decide +kernel
theorem dX10_findBound_154 : decode cX10_findBound 154 = .ok (.ldiv, 1) := by decide +kernel
theorem dX10_findBound_155 : decode cX10_findBound 155 = .ok (.putfield 219, 3) := by decide +kernel
theorem dX10_findBound_158 : decode cX10_findBound 158 = .ok (.return_, 1) := by decide +kernel
theorem dX10_bound_0 : decode cX10_bound 0 = .ok (.iload_n 1, 1) := by decide +kernel
theorem dX10_bound_1 : decode cX10_bound 1 = .ok (.invokestatic 85, 3) := by decide +kernel
theorem dX10_bound_4 : decode cX10_bound 4 = .ok (.ifCond .eq 15, 3) := by decide +kernel
theorem dX10_bound_7 : decode cX10_bound 7 = .ok (.iload_n 2, 1) := by decide +kernel
theorem dX10_bound_8 : decode cX10_bound 8 = .ok (.i2l, 1) := by decide +kernel
theorem dX10_bound_9 : decode cX10_bound 9 = .ok (.lconst 0, 1) := by decide +kernel
theorem dX10_bound_10 : decode cX10_bound 10 = .ok (.ldc2_w 226, 3) := by decide +kernel
theorem dX10_bound_13 : decode cX10_bound 13 = .ok (.invokestatic 81, 3) := by decide +kernel
theorem dX10_bound_16 : decode cX10_bound 16 = .ok (.ifCond .ne 6, 3) := by decide +kernel
theorem dX10_bound_19 : decode cX10_bound 19 = .ok (.bipush (-2), 2) := by decide +kernel
theorem dX10_bound_21 : decode cX10_bound 21 = .ok (.ireturn, 1) := by decide +kernel
theorem dX10_bound_22 : decode cX10_bound 22 = .ok (.aload_n 0, 1) := by decide +kernel
theorem dX10_bound_23 : decode cX10_bound 23 = .ok (.iload_n 1, 1) := by decide +kernel
theorem dX10_bound_24 : decode cX10_bound 24 = .ok (.invokevirtual 228, 3) := by decide +kernel
theorem dX10_bound_27 : decode cX10_bound 27 = .ok (.iconst (-1), 1) := by decide +kernel
theorem dX10_bound_28 : decode cX10_bound 28 = .ok (.if_icmp .eq 5, 3) := by decide +kernel
theorem dX10_bound_31 : decode cX10_bound 31 = .ok (.iconst (-1), 1) := by decide +kernel
theorem dX10_bound_32 : decode cX10_bound 32 = .ok (.ireturn, 1) := by decide +kernel
theorem dX10_bound_33 : decode cX10_bound 33 = .ok (.aload_n 0, 1) := by decide +kernel
theorem dX10_bound_34 : decode cX10_bound 34 = .ok (.iload_n 1, 1) := by decide +kernel
theorem dX10_bound_35 : decode cX10_bound 35 = .ok (.invokevirtual 231, 3) := by decide +kernel
theorem dX10_bound_38 : decode cX10_bound 38 = .ok (.iload_n 2, 1) := by decide +kernel
theorem dX10_bound_39 : decode cX10_bound 39 = .ok (.ifCond .ne 11, 3) := by decide +kernel
theorem dX10_bound_42 : decode cX10_bound 42 = .ok (.aload_n 0, 1) := by decide +kernel
theorem dX10_bound_43 : decode cX10_bound 43 = .ok (.getfield 223, 3) := by decide +kernel
theorem dX10_bound_46 : decode cX10_bound 46 = .ok (.l2i, 1) := by decide +kernel
theorem dX10_bound_47 : decode cX10_bound 47 = .ok (.goto 20, 3) := by decide +kernel
theorem dX10_bound_50 : decode cX10_bound 50 = .ok (.iload_n 2, 1) := by decide +kernel
theorem dX10_bound_51 : decode cX10_bound 51 = .ok (.iconst 1, 1) := by decide +kernel
theorem dX10_bound_52 : decode cX10_bound 52 = .ok (.if_icmp .ne 11, 3) := by decide +kernel
theorem dX10_bound_55 : decode cX10_bound 55 = .ok (.aload_n 0, 1) := by decide +kernel
theorem dX10_bound_56 : decode cX10_bound 56 = .ok (.getfield 219, 3) := by decide +kernel
theorem dX10_bound_59 : decode cX10_bound 59 = .ok (.l2i, 1) := by decide +kernel
theorem dX10_bound_60 : decode cX10_bound 60 = .ok (.goto 7, 3) := by decide +kernel
theorem dX10_bound_63 : decode cX10_bound 63 = .ok (.aload_n 0, 1) := by decide +kernel
theorem dX10_bound_64 : decode cX10_bound 64 = .ok (.getfield 216, 3) := by decide +kernel
theorem dX10_bound_67 : decode cX10_bound 67 = .ok (.ireturn, 1) := by decide +kernel
theorem dX10_raise_0 : decode cX10_raise 0 = .ok (.iconst 0, 1) := by decide +kernel
theorem dX10_raise_1 : decode cX10_raise 1 = .ok (.istore 5, 2) := by decide +kernel
theorem dX10_raise_3 : decode cX10_raise 3 = .ok (.iload 5, 2) := by decide +kernel
theorem dX10_raise_5 : decode cX10_raise 5 = .ok (.bipush 12, 2) := by decide +kernel
theorem dX10_raise_7 : decode cX10_raise 7 = .ok (.if_icmp .ge 14, 3) := by decide +kernel
theorem dX10_raise_10 : decode cX10_raise 10 = .ok (.aload_n 0, 1) := by decide +kernel
theorem dX10_raise_11 : decode cX10_raise 11 = .ok (.iload 5, 2) := by decide +kernel
theorem dX10_raise_13 : decode cX10_raise 13 = .ok (.lconst 0, 1) := by decide +kernel
theorem dX10_raise_14 : decode cX10_raise 14 = .ok (.lastore, 1) := by decide +kernel
theorem dX10_raise_15 : decode cX10_raise 15 = .ok (.iinc 5 1, 3) := by decide +kernel
theorem dX10_raise_18 : decode cX10_raise 18 = .ok (.goto (-15), 3) := by decide +kernel
theorem dX10_raise_21 : decode cX10_raise 21 = .ok (.aload_n 0, 1) := by decide +kernel
theorem dX10_raise_22 : decode cX10_raise 22 = .ok (.iconst 0, 1) := by decide +kernel
theorem dX10_raise_23 : decode cX10_raise 23 = .ok (.iload_n 1, 1) := by decide +kernel
theorem dX10_raise_24 : decode cX10_raise 24 = .ok (.i2l, 1) := by decide +kernel
theorem dX10_raise_25 : decode cX10_raise 25 = .ok (.lastore, 1) := by decide +kernel
theorem dX10_raise_26 : decode cX10_raise 26 = .ok (.iconst 0, 1) := by decide +kernel
theorem dX10_raise_27 : decode cX10_raise 27 = .ok (.istore 5, 2) := by decide +kernel
theorem dX10_raise_29 : decode cX10_raise 29 = .ok (.iload 5, 2) := by decide +kernel
theorem dX10_raise_31 : decode cX10_raise 31 = .ok (.iload 4, 2) := by decide +kernel
theorem dX10_raise_33 : decode cX10_raise 33 = .ok (.if_icmp .ge 57, 3) := by decide +kernel
theorem dX10_raise_36 : decode cX10_raise 36 = .ok (.lconst 0, 1) := by decide +kernel
theorem dX10_raise_37 : decode cX10_raise 37 = .ok (.lstore 6, 2) := by decide +kernel
theorem dX10_raise_39 : decode cX10_raise 39 = .ok (.iconst 0, 1) := by decide +kernel
theorem dX10_raise_40 : decode cX10_raise 40 = .ok (.istore 8, 2) := by decide +kernel
theorem dX10_raise_42 : decode cX10_raise 42 = .ok (.iload 8, 2) := by decide +kernel
theorem dX10_raise_44 : decode cX10_raise 44 = .ok (.bipush 12, 2) := by decide +kernel
theorem dX10_raise_46 : decode cX10_raise 46 = .ok (.if_icmp .ge 38, 3) := by decide +kernel
theorem dX10_raise_49 : decode cX10_raise 49 = .ok (.aload_n 0, 1) := by decide +kernel
theorem dX10_raise_50 : decode cX10_raise 50 = .ok (.iload 8, 2) := by decide +kernel
theorem dX10_raise_52 : decode cX10_raise 52 = .ok (.laload, 1) := by decide +kernel
theorem dX10_raise_53 : decode cX10_raise 53 = .ok (.lload_n 2, 1) := by decide +kernel
theorem dX10_raise_54 : decode cX10_raise 54 = .ok (.lmul, 1) := by decide +kernel
theorem dX10_raise_55 : decode cX10_raise 55 = .ok (.lload 6, 2) := by decide +kernel
theorem dX10_raise_57 : decode cX10_raise 57 = .ok (.ladd, 1) := by decide +kernel
theorem dX10_raise_58 : decode cX10_raise 58 = .ok (.lstore 9, 2) := by decide +kernel
theorem dX10_raise_60 : decode cX10_raise 60 = .ok (.aload_n 0, 1) := by decide +kernel
theorem dX10_raise_61 : decode cX10_raise 61 = .ok (.iload 8, 2) := by decide +kernel
theorem dX10_raise_63 : decode cX10_raise 63 = .ok (.lload 9, 2) := by decide +kernel
theorem dX10_raise_65 : decode cX10_raise 65 = .ok (.ldc2_w 234, 3) := by decide +kernel
theorem dX10_raise_68 : decode cX10_raise 68 = .ok (.lrem, 1) := by decide +kernel
theorem dX10_raise_69 : decode cX10_raise 69 = .ok (.lastore, 1) := by decide +kernel
theorem dX10_raise_70 : decode cX10_raise 70 = .ok (.lload 9, 2) := by decide +kernel
theorem dX10_raise_72 : decode cX10_raise 72 = .ok (.ldc2_w 234, 3) := by decide +kernel
theorem dX10_raise_75 : decode cX10_raise 75 = .ok (.ldiv, 1) := by decide +kernel
theorem dX10_raise_76 : decode cX10_raise 76 = .ok (.lstore 6, 2) := by decide +kernel
theorem dX10_raise_78 : decode cX10_raise 78 = .ok (.iinc 8 1, 3) := by decide +kernel
theorem dX10_raise_81 : decode cX10_raise 81 = .ok (.goto (-39), 3) := by decide +kernel
theorem dX10_raise_84 : decode cX10_raise 84 = .ok (.iinc 5 1, 3) := by decide +kernel
theorem dX10_raise_87 : decode cX10_raise 87 = .ok (.goto (-58), 3) := by decide +kernel
theorem dX10_raise_90 : decode cX10_raise 90 = .ok (.return_, 1) := by decide +kernel
theorem dX10_held_0 : decode cX10_held 0 = .ok (.bipush 11, 2) := by decide +kernel
theorem dX10_held_2 : decode cX10_held 2 = .ok (.istore_n 1, 1) := by decide +kernel
theorem dX10_held_3 : decode cX10_held 3 = .ok (.iload_n 1, 1) := by decide +kernel
theorem dX10_held_4 : decode cX10_held 4 = .ok (.ifCond .lt 47, 3) := by decide +kernel
theorem dX10_held_7 : decode cX10_held 7 = .ok (.aload_n 0, 1) := by decide +kernel
theorem dX10_held_8 : decode cX10_held 8 = .ok (.getfield 67, 3) := by decide +kernel
theorem dX10_held_11 : decode cX10_held 11 = .ok (.iload_n 1, 1) := by decide +kernel
theorem dX10_held_12 : decode cX10_held 12 = .ok (.laload, 1) := by decide +kernel
theorem dX10_held_13 : decode cX10_held 13 = .ok (.aload_n 0, 1) := by decide +kernel
theorem dX10_held_14 : decode cX10_held 14 = .ok (.getfield 70, 3) := by decide +kernel
theorem dX10_held_17 : decode cX10_held 17 = .ok (.iload_n 1, 1) := by decide +kernel
theorem dX10_held_18 : decode cX10_held 18 = .ok (.laload, 1) := by decide +kernel
theorem dX10_held_19 : decode cX10_held 19 = .ok (.lcmp, 1) := by decide +kernel
theorem dX10_held_20 : decode cX10_held 20 = .ok (.ifCond .eq 25, 3) := by decide +kernel
theorem dX10_held_23 : decode cX10_held 23 = .ok (.aload_n 0, 1) := by decide +kernel
theorem dX10_held_24 : decode cX10_held 24 = .ok (.getfield 67, 3) := by decide +kernel
theorem dX10_held_27 : decode cX10_held 27 = .ok (.iload_n 1, 1) := by decide +kernel
theorem dX10_held_28 : decode cX10_held 28 = .ok (.laload, 1) := by decide +kernel
theorem dX10_held_29 : decode cX10_held 29 = .ok (.aload_n 0, 1) := by decide +kernel
theorem dX10_held_30 : decode cX10_held 30 = .ok (.getfield 70, 3) := by decide +kernel
theorem dX10_held_33 : decode cX10_held 33 = .ok (.iload_n 1, 1) := by decide +kernel
theorem dX10_held_34 : decode cX10_held 34 = .ok (.laload, 1) := by decide +kernel
theorem dX10_held_35 : decode cX10_held 35 = .ok (.lcmp, 1) := by decide +kernel
theorem dX10_held_36 : decode cX10_held 36 = .ok (.ifCond .ge 7, 3) := by decide +kernel
theorem dX10_held_39 : decode cX10_held 39 = .ok (.iconst (-1), 1) := by decide +kernel
theorem dX10_held_40 : decode cX10_held 40 = .ok (.goto 4, 3) := by decide +kernel
theorem dX10_held_43 : decode cX10_held 43 = .ok (.iconst 1, 1) := by decide +kernel
theorem dX10_held_44 : decode cX10_held 44 = .ok (.ireturn, 1) := by decide +kernel
theorem dX10_held_45 : decode cX10_held 45 = .ok (.iinc 1 (-1), 3) := by decide +kernel
theorem dX10_held_48 : decode cX10_held 48 = .ok (.goto (-45), 3) := by decide +kernel
theorem dX10_held_51 : decode cX10_held 51 = .ok (.iconst 0, 1) := by decide +kernel
theorem dX10_held_52 : decode cX10_held 52 = .ok (.ireturn, 1) := by decide +kernel
theorem dX10_heldRates_0 : decode cX10_heldRates 0 = .ok (.aload_n 0, 1) := by decide +kernel
theorem dX10_heldRates_1 : decode cX10_heldRates 1 = .ok (.getfield 67, 3) := by decide +kernel
theorem dX10_heldRates_4 : decode cX10_heldRates 4 = .ok (.iconst 1, 1) := by decide +kernel
