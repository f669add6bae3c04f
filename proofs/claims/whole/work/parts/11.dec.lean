theorem dX2_leastRow_107 : decode cX2_leastRow 107 = .ok (.iload 5, 2) := by decide +kernel
theorem dX2_leastRow_109 : decode cX2_leastRow 109 = .ok (.iastore, 1) := by decide +kernel
theorem dX2_leastRow_110 : decode cX2_leastRow 110 = .ok (.iload_n 3, 1) := by decide +kernel
theorem dX2_leastRow_111 : decode cX2_leastRow 111 = .ok (.iload 5, 2) := by decide +kernel
theorem dX2_leastRow_113 : decode cX2_leastRow 113 = .ok (.iconst 1, 1) := by decide +kernel
theorem dX2_leastRow_114 : decode cX2_leastRow 114 = .ok (.iadd, 1) := by decide +kernel
theorem dX2_leastRow_115 : decode cX2_leastRow 115 = .ok (.invokestatic 35, 3) := by decide +kernel
theorem dX2_leastRow_118 : decode cX2_leastRow 118 = .ok (.istore_n 3, 1) := by decide +kernel
theorem dX2_leastRow_119 : decode cX2_leastRow 119 = .ok (.iinc 4 1, 3) := by decide +kernel
theorem dX2_leastRow_122 : decode cX2_leastRow 122 = .ok (.goto (-108), 3) := by decide +kernel
theorem dX2_leastRow_125 : decode cX2_leastRow 125 = .ok (.return_, 1) := by decide +kernel
theorem dX2_layRow_0 : decode cX2_layRow 0 = .ok (.iconst 0, 1) := by decide +kernel
theorem dX2_layRow_1 : decode cX2_layRow 1 = .ok (.istore_n 3, 1) := by decide +kernel
theorem dX2_layRow_2 : decode cX2_layRow 2 = .ok (.iload_n 3, 1) := by decide +kernel
theorem dX2_layRow_3 : decode cX2_layRow 3 = .ok (.aload_n 0, 1) := by decide +kernel
theorem dX2_layRow_4 : decode cX2_layRow 4 = .ok (.getfield 21, 3) := by decide +kernel
theorem dX2_layRow_7 : decode cX2_layRow 7 = .ok (.if_icmp .ge 23, 3) := by decide +kernel
theorem dX2_layRow_10 : decode cX2_layRow 10 = .ok (.aload_n 0, 1) := by decide +kernel
theorem dX2_layRow_11 : decode cX2_layRow 11 = .ok (.getfield 15, 3) := by decide +kernel
theorem dX2_layRow_14 : decode cX2_layRow 14 = .ok (.iload_n 3, 1) := by decide +kernel
theorem dX2_layRow_15 : decode cX2_layRow 15 = .ok (.iconst (-1), 1) := by decide +kernel
theorem dX2_layRow_16 : decode cX2_layRow 16 = .ok (.iastore, 1) := by decide +kernel
theorem dX2_layRow_17 : decode cX2_layRow 17 = .ok (.aload_n 0, 1) := by decide +kernel
theorem dX2_layRow_18 : decode cX2_layRow 18 = .ok (.getfield 18, 3) := by decide +kernel
theorem dX2_layRow_21 : decode cX2_layRow 21 = .ok (.iload_n 3, 1) := by decide +kernel
theorem dX2_layRow_22 : decode cX2_layRow 22 = .ok (.iconst 0, 1) := by decide +kernel
theorem dX2_layRow_23 : decode cX2_layRow 23 = .ok (.iastore, 1) := by decide +kernel
theorem dX2_layRow_24 : decode cX2_layRow 24 = .ok (.iinc 3 1, 3) := by decide +kernel
theorem dX2_layRow_27 : decode cX2_layRow 27 = .ok (.goto (-25), 3) := by decide +kernel
theorem dX2_layRow_30 : decode cX2_layRow 30 = .ok (.iconst 0, 1) := by decide +kernel
theorem dX2_layRow_31 : decode cX2_layRow 31 = .ok (.istore_n 3, 1) := by decide +kernel
theorem dX2_layRow_32 : decode cX2_layRow 32 = .ok (.iload_n 3, 1) := by decide +kernel
theorem dX2_layRow_33 : decode cX2_layRow 33 = .ok (.iload_n 2, 1) := by decide +kernel
theorem dX2_layRow_34 : decode cX2_layRow 34 = .ok (.if_icmp .ge 17, 3) := by decide +kernel
theorem dX2_layRow_37 : decode cX2_layRow 37 = .ok (.aload_n 0, 1) := by decide +kernel
theorem dX2_layRow_38 : decode cX2_layRow 38 = .ok (.iload_n 3, 1) := by decide +kernel
theorem dX2_layRow_39 : decode cX2_layRow 39 = .ok (.aload_n 1, 1) := by decide +kernel
theorem dX2_layRow_40 : decode cX2_layRow 40 = .ok (.iload_n 3, 1) := by decide +kernel
theorem dX2_layRow_41 : decode cX2_layRow 41 = .ok (.iaload, 1) := by decide +kernel
theorem dX2_layRow_42 : decode cX2_layRow 42 = .ok (.invokevirtual 49, 3) := by decide +kernel
theorem dX2_layRow_45 : decode cX2_layRow 45 = .ok (.iinc 3 1, 3) := by decide +kernel
theorem dX2_layRow_48 : decode cX2_layRow 48 = .ok (.goto (-16), 3) := by decide +kernel
theorem dX2_layRow_51 : decode cX2_layRow 51 = .ok (.return_, 1) := by decide +kernel
theorem dX2_add_0 : decode cX2_add 0 = .ok (.aload_n 0, 1) := by decide +kernel
theorem dX2_add_1 : decode cX2_add 1 = .ok (.getfield 15, 3) := by decide +kernel
theorem dX2_add_4 : decode cX2_add 4 = .ok (.iload_n 2, 1) := by decide +kernel
theorem dX2_add_5 : decode cX2_add 5 = .ok (.dup2, 1) := by decide +kernel
theorem dX2_add_6 : decode cX2_add 6 = .ok (.iaload, 1) := by decide +kernel
theorem dX2_add_7 : decode cX2_add 7 = .ok (.aload_n 0, 1) := by decide +kernel
theorem dX2_add_8 : decode cX2_add 8 = .ok (.getfield 9, 3) := by decide +kernel
theorem dX2_add_11 : decode cX2_add 11 = .ok (.iload_n 1, 1) := by decide +kernel
theorem dX2_add_12 : decode cX2_add 12 = .ok (.iaload, 1) := by decide +kernel
theorem dX2_add_13 : decode cX2_add 13 = .ok (.iand, 1) := by decide +kernel
theorem dX2_add_14 : decode cX2_add 14 = .ok (.iastore, 1) := by decide +kernel
theorem dX2_add_15 : decode cX2_add 15 = .ok (.aload_n 0, 1) := by decide +kernel
theorem dX2_add_16 : decode cX2_add 16 = .ok (.getfield 18, 3) := by decide +kernel
theorem dX2_add_19 : decode cX2_add 19 = .ok (.iload_n 2, 1) := by decide +kernel
theorem dX2_add_20 : decode cX2_add 20 = .ok (.dup2, 1) := by decide +kernel
theorem dX2_add_21 : decode cX2_add 21 = .ok (.iaload, 1) := by decide +kernel
theorem dX2_add_22 : decode cX2_add 22 = .ok (.iconst 1, 1) := by decide +kernel
theorem dX2_add_23 : decode cX2_add 23 = .ok (.iadd, 1) := by decide +kernel
theorem dX2_add_24 : decode cX2_add 24 = .ok (.iastore, 1) := by decide +kernel
theorem dX2_add_25 : decode cX2_add 25 = .ok (.return_, 1) := by decide +kernel
theorem dX2_fill_0 : decode cX2_fill 0 = .ok (.iload_n 1, 1) := by decide +kernel
theorem dX2_fill_1 : decode cX2_fill 1 = .ok (.ifCond .ne 5, 3) := by decide +kernel
theorem dX2_fill_4 : decode cX2_fill 4 = .ok (.iconst 1, 1) := by decide +kernel
theorem dX2_fill_5 : decode cX2_fill 5 = .ok (.ireturn, 1) := by decide +kernel
theorem dX2_fill_6 : decode cX2_fill 6 = .ok (.iload_n 3, 1) := by decide +kernel
theorem dX2_fill_7 : decode cX2_fill 7 = .ok (.bipush 24, 2) := by decide +kernel
theorem dX2_fill_9 : decode cX2_fill 9 = .ok (.if_icmp .gt 12, 3) := by decide +kernel
theorem dX2_fill_12 : decode cX2_fill 12 = .ok (.aload_n 0, 1) := by decide +kernel
theorem dX2_fill_13 : decode cX2_fill 13 = .ok (.iload_n 1, 1) := by decide +kernel
theorem dX2_fill_14 : decode cX2_fill 14 = .ok (.iload_n 2, 1) := by decide +kernel
theorem dX2_fill_15 : decode cX2_fill 15 = .ok (.invokevirtual 53, 3) := by decide +kernel
theorem dX2_fill_18 : decode cX2_fill 18 = .ok (.ifCond .ne 5, 3) := by decide +kernel
theorem dX2_fill_21 : decode cX2_fill 21 = .ok (.iconst 0, 1) := by decide +kernel
theorem dX2_fill_22 : decode cX2_fill 22 = .ok (.ireturn, 1) := by decide +kernel
theorem dX2_fill_23 : decode cX2_fill 23 = .ok (.iconst 0, 1) := by decide +kernel
theorem dX2_fill_24 : decode cX2_fill 24 = .ok (.istore 4, 2) := by decide +kernel
theorem dX2_fill_26 : decode cX2_fill 26 = .ok (.iconst 0, 1) := by decide +kernel
theorem dX2_fill_27 : decode cX2_fill 27 = .ok (.istore 5, 2) := by decide +kernel
theorem dX2_fill_29 : decode cX2_fill 29 = .ok (.iconst 0, 1) := by decide +kernel
theorem dX2_fill_30 : decode cX2_fill 30 = .ok (.istore 6, 2) := by decide +kernel
theorem dX2_fill_32 : decode cX2_fill 32 = .ok (.iload 6, 2) := by decide +kernel
theorem dX2_fill_34 : decode cX2_fill 34 = .ok (.iload_n 2, 1) := by decide +kernel
theorem dX2_fill_35 : decode cX2_fill 35 = .ok (.if_icmp .ge 36, 3) := by decide +kernel
theorem dX2_fill_38 : decode cX2_fill 38 = .ok (.iload 5, 2) := by decide +kernel
theorem dX2_fill_40 : decode cX2_fill 40 = .ok (.iload 4, 2) := by decide +kernel
theorem dX2_fill_42 : decode cX2_fill 42 = .ok (.aload_n 0, 1) := by decide +kernel
theorem dX2_fill_43 : decode cX2_fill 43 = .ok (.getfield 15, 3) := by decide +kernel
theorem dX2_fill_46 : decode cX2_fill 46 = .ok (.iload 6, 2) := by decide +kernel
theorem dX2_fill_48 : decode cX2_fill 48 = .ok (.iaload, 1) := by decide +kernel
theorem dX2_fill_49 : decode cX2_fill 49 = .ok (.iand, 1) := by decide +kernel
theorem dX2_fill_50 : decode cX2_fill 50 = .ok (.ior, 1) := by decide +kernel
theorem dX2_fill_51 : decode cX2_fill 51 = .ok (.istore 5, 2) := by decide +kernel
theorem dX2_fill_53 : decode cX2_fill 53 = .ok (.iload 4, 2) := by decide +kernel
theorem dX2_fill_55 : decode cX2_fill 55 = .ok (.aload_n 0, 1) := by decide +kernel
theorem dX2_fill_56 : decode cX2_fill 56 = .ok (.getfield 15, 3) := by decide +kernel
theorem dX2_fill_59 : decode cX2_fill 59 = .ok (.iload 6, 2) := by decide +kernel
theorem dX2_fill_61 : decode cX2_fill 61 = .ok (.iaload, 1) := by decide +kernel
theorem dX2_fill_62 : decode cX2_fill 62 = .ok (.ior, 1) := by decide +kernel
theorem dX2_fill_63 : decode cX2_fill 63 = .ok (.istore 4, 2) := by decide +kernel
theorem dX2_fill_65 : decode cX2_fill 65 = .ok (.iinc 6 1, 3) := by decide +kernel
theorem dX2_fill_68 : decode cX2_fill 68 = .ok (.goto (-36), 3) := by decide +kernel
theorem dX2_fill_71 : decode cX2_fill 71 = .ok (.iload_n 1, 1) := by decide +kernel
theorem dX2_fill_72 : decode cX2_fill 72 = .ok (.iload 4, 2) := by decide +kernel
theorem dX2_fill_74 : decode cX2_fill 74 = .ok (.iconst (-1), 1) := by decide +kernel
theorem dX2_fill_75 : decode cX2_fill 75 = .ok (.ixor, 1) := by decide +kernel
theorem dX2_fill_76 : decode cX2_fill 76 = .ok (.iand, 1) := by decide +kernel
theorem dX2_fill_77 : decode cX2_fill 77 = .ok (.istore 6, 2) := by decide +kernel
theorem dX2_fill_79 : decode cX2_fill 79 = .ok (.iload_n 1, 1) := by decide +kernel
theorem dX2_fill_80 : decode cX2_fill 80 = .ok (.iload 5, 2) := by decide +kernel
theorem dX2_fill_82 : decode cX2_fill 82 = .ok (.iconst (-1), 1) := by decide +kernel
theorem dX2_fill_83 : decode cX2_fill 83 = .ok (.ixor, 1) := by decide +kernel
theorem dX2_fill_84 : decode cX2_fill 84 = .ok (.iand, 1) := by decide +kernel
theorem dX2_fill_85 : decode cX2_fill 85 = .ok (.istore 7, 2) := by decide +kernel
theorem dX2_fill_87 : decode cX2_fill 87 = .ok (.aload_n 0, 1) := by decide +kernel
theorem dX2_fill_88 : decode cX2_fill 88 = .ok (.iload 6, 2) := by decide +kernel
theorem dX2_fill_90 : decode cX2_fill 90 = .ok (.ifCond .eq 8, 3) := by decide +kernel
theorem dX2_fill_93 : decode cX2_fill 93 = .ok (.iload 6, 2) := by decide +kernel
theorem dX2_fill_95 : decode cX2_fill 95 = .ok (.goto 14, 3) := by decide +kernel
theorem dX2_fill_98 : decode cX2_fill 98 = .ok (.iload 7, 2) := by decide +kernel
theorem dX2_fill_100 : decode cX2_fill 100 = .ok (.ifCond .eq 8, 3) := by decide +kernel
theorem dX2_fill_103 : decode cX2_fill 103 = .ok (.iload 7, 2) := by decide +kernel
theorem dX2_fill_105 : decode cX2_fill 105 = .ok (.goto 4, 3) := by decide +kernel
theorem dX2_fill_108 : decode cX2_fill 108 = .ok (.iload_n 1, 1) := by decide +kernel
theorem dX2_fill_109 : decode cX2_fill 109 = .ok (.iload_n 1, 1) := by decide +kernel
theorem dX2_fill_110 : decode cX2_fill 110 = .ok (.invokevirtual 57, 3) := by decide +kernel
theorem dX2_fill_113 : decode cX2_fill 113 = .ok (.istore 8, 2) := by decide +kernel
theorem dX2_fill_115 : decode cX2_fill 115 = .ok (.iload_n 1, 1) := by decide +kernel
theorem dX2_fill_116 : decode cX2_fill 116 = .ok (.iconst 1, 1) := by decide +kernel
theorem dX2_fill_117 : decode cX2_fill 117 = .ok (.iload 8, 2) := by decide +kernel
theorem dX2_fill_119 : decode cX2_fill 119 = .ok (.ishl, 1) := by decide +kernel
theorem dX2_fill_120 : decode cX2_fill 120 = .ok (.iconst (-1), 1) := by decide +kernel
theorem dX2_fill_121 : decode cX2_fill 121 = .ok (.ixor, 1) := by decide +kernel
theorem dX2_fill_122 : decode cX2_fill 122 = .ok (.iand, 1) := by decide +kernel
theorem dX2_fill_123 : decode cX2_fill 123 = .ok (.istore 9, 2) := by decide +kernel
theorem dX2_fill_125 : decode cX2_fill 125 = .ok (.iconst 0, 1) := by decide +kernel
theorem dX2_fill_126 : decode cX2_fill 126 = .ok (.istore 10, 2) := by decide +kernel
theorem dX2_fill_128 : decode cX2_fill 128 = .ok (.iload 10, 2) := by decide +kernel
theorem dX2_fill_130 : decode cX2_fill 130 = .ok (.iload_n 2, 1) := by decide +kernel
theorem dX2_fill_131 : decode cX2_fill 131 = .ok (.if_icmp .ge 71, 3) := by decide +kernel
theorem dX2_fill_134 : decode cX2_fill 134 = .ok (.aload_n 0, 1) := by decide +kernel
theorem dX2_fill_135 : decode cX2_fill 135 = .ok (.getfield 15, 3) := by decide +kernel
theorem dX2_fill_138 : decode cX2_fill 138 = .ok (.iload 10, 2) := by decide +kernel
theorem dX2_fill_140 : decode cX2_fill 140 = .ok (.iaload, 1) := by decide +kernel
theorem dX2_fill_141 : decode cX2_fill 141 = .ok (.istore 11, 2) := by decide +kernel
theorem dX2_fill_143 : decode cX2_fill 143 = .ok (.iload 11, 2) := by decide +kernel
theorem dX2_fill_145 : decode cX2_fill 145 = .ok (.iload 8, 2) := by decide +kernel
theorem dX2_fill_147 : decode cX2_fill 147 = .ok (.iushr, 1) := by decide +kernel
theorem dX2_fill_148 : decode cX2_fill 148 = .ok (.iconst 1, 1) := by decide +kernel
theorem dX2_fill_149 : decode cX2_fill 149 = .ok (.iand, 1) := by decide +kernel
theorem dX2_fill_150 : decode cX2_fill 150 = .ok (.ifCond .eq 46, 3) := by decide +kernel
theorem dX2_fill_153 : decode cX2_fill 153 = .ok (.aload_n 0, 1) := by decide +kernel
theorem dX2_fill_154 : decode cX2_fill 154 = .ok (.iload 8, 2) := by decide +kernel
theorem dX2_fill_156 : decode cX2_fill 156 = .ok (.iload 10, 2) := by decide +kernel
theorem dX2_fill_158 : decode cX2_fill 158 = .ok (.invokevirtual 49, 3) := by decide +kernel
theorem dX2_fill_161 : decode cX2_fill 161 = .ok (.aload_n 0, 1) := by decide +kernel
theorem dX2_fill_162 : decode cX2_fill 162 = .ok (.iload 9, 2) := by decide +kernel
theorem dX2_fill_164 : decode cX2_fill 164 = .ok (.iload_n 2, 1) := by decide +kernel
theorem dX2_fill_165 : decode cX2_fill 165 = .ok (.iload_n 3, 1) := by decide +kernel
theorem dX2_fill_166 : decode cX2_fill 166 = .ok (.iconst 1, 1) := by decide +kernel
theorem dX2_fill_167 : decode cX2_fill 167 = .ok (.iadd, 1) := by decide +kernel
theorem dX2_fill_168 : decode cX2_fill 168 = .ok (.invokevirtual 41, 3) := by decide +kernel
theorem dX2_fill_171 : decode cX2_fill 171 = .ok (.ifCond .eq 5, 3) := by decide +kernel
theorem dX2_fill_174 : decode cX2_fill 174 = .ok (.iconst 1, 1) := by decide +kernel
theorem dX2_fill_175 : decode cX2_fill 175 = .ok (.ireturn, 1) := by decide +kernel
theorem dX2_fill_176 : decode cX2_fill 176 = .ok (.aload_n 0, 1) := by decide +kernel
theorem dX2_fill_177 : decode cX2_fill 177 = .ok (.getfield 15, 3) := by decide +kernel
theorem dX2_fill_180 : decode cX2_fill 180 = .ok (.iload 10, 2) := by decide +kernel
theorem dX2_fill_182 : decode cX2_fill 182 = .ok (.iload 11, 2) := by decide +kernel
theorem dX2_fill_184 : decode cX2_fill 184 = .ok (.iastore, 1) := by decide +kernel
theorem dX2_fill_185 : decode cX2_fill 185 = .ok (.aload_n 0, 1) := by decide +kernel
theorem dX2_fill_186 : decode cX2_fill 186 = .ok (.getfield 18, 3) := by decide +kernel
theorem dX2_fill_189 : decode cX2_fill 189 = .ok (.iload 10, 2) := by decide +kernel
theorem dX2_fill_191 : decode cX2_fill 191 = .ok (.dup2, 1) := by decide +kernel
theorem dX2_fill_192 : decode cX2_fill 192 = .ok (.iaload, 1) := by decide +kernel
theorem dX2_fill_193 : decode cX2_fill 193 = .ok (.iconst 1, 1) := by decide +kernel
theorem dX2_fill_194 : decode cX2_fill 194 = .ok (.isub, 1) := by decide +kernel
theorem dX2_fill_195 : decode cX2_fill 195 = .ok (.iastore, 1) := by decide +kernel
theorem dX2_fill_196 : decode cX2_fill 196 = .ok (.iinc 10 1, 3) := by decide +kernel
theorem dX2_fill_199 : decode cX2_fill 199 = .ok (.goto (-71), 3) := by decide +kernel
theorem dX2_fill_202 : decode cX2_fill 202 = .ok (.iload_n 2, 1) := by decide +kernel
theorem dX2_fill_203 : decode cX2_fill 203 = .ok (.aload_n 0, 1) := by decide +kernel
theorem dX2_fill_204 : decode cX2_fill 204 = .ok (.getfield 25, 3) := by decide +kernel
theorem dX2_fill_207 : decode cX2_fill 207 = .ok (.if_icmp .lt 5, 3) := by decide +kernel
theorem dX2_fill_210 : decode cX2_fill 210 = .ok (.iconst 0, 1) := by decide +kernel
theorem dX2_fill_211 : decode cX2_fill 211 = .ok (.ireturn, 1) := by decide +kernel
theorem dX2_fill_212 : decode cX2_fill 212 = .ok (.aload_n 0, 1) := by decide +kernel
theorem dX2_fill_213 : decode cX2_fill 213 = .ok (.getfield 15, 3) := by decide +kernel
theorem dX2_fill_216 : decode cX2_fill 216 = .ok (.iload_n 2, 1) := by decide +kernel
theorem dX2_fill_217 : decode cX2_fill 217 = .ok (.aload_n 0, 1) := by decide +kernel
theorem dX2_fill_218 : decode cX2_fill 218 = .ok (.getfield 9, 3) := by decide +kernel
theorem dX2_fill_221 : decode cX2_fill 221 = .ok (.iload 8, 2) := by decide +kernel
theorem dX2_fill_223 : decode cX2_fill 223 = .ok (.iaload, 1) := by decide +kernel
theorem dX2_fill_224 : decode cX2_fill 224 = .ok (.iastore, 1) := by decide +kernel
theorem dX2_fill_225 : decode cX2_fill 225 = .ok (.aload_n 0, 1) := by decide +kernel
theorem dX2_fill_226 : decode cX2_fill 226 = .ok (.getfield 18, 3) := by decide +kernel
theorem dX2_fill_229 : decode cX2_fill 229 = .ok (.iload_n 2, 1) := by decide +kernel
theorem dX2_fill_230 : decode cX2_fill 230 = .ok (.iconst 1, 1) := by decide +kernel
theorem dX2_fill_231 : decode cX2_fill 231 = .ok (.iastore, 1) := by decide +kernel
theorem dX2_fill_232 : decode cX2_fill 232 = .ok (.aload_n 0, 1) := by decide +kernel
theorem dX2_fill_233 : decode cX2_fill 233 = .ok (.iload 9, 2) := by decide +kernel
theorem dX2_fill_235 : decode cX2_fill 235 = .ok (.iload_n 2, 1) := by decide +kernel
theorem dX2_fill_236 : decode cX2_fill 236 = .ok (.iconst 1, 1) := by decide +kernel
theorem dX2_fill_237 : decode cX2_fill 237 = .ok (.iadd, 1) := by decide +kernel
theorem dX2_fill_238 : decode cX2_fill 238 = .ok (.iload_n 3, 1) := by decide +kernel
theorem dX2_fill_239 : decode cX2_fill 239 = .ok (.iconst 1, 1) := by decide +kernel
theorem dX2_fill_240 : decode cX2_fill 240 = .ok (.iadd, 1) := by decide +kernel
theorem dX2_fill_241 : decode cX2_fill 241 = .ok (.invokevirtual 41, 3) := by decide +kernel
theorem dX2_fill_244 : decode cX2_fill 244 = .ok (.ireturn, 1) := by decide +kernel
theorem dX2_hasRoom_0 : decode cX2_hasRoom 0 = .ok (.aload_n 0, 1) := by decide +kernel
theorem dX2_hasRoom_1 : decode cX2_hasRoom 1 = .ok (.getfield 25, 3) := by decide +kernel
theorem dX2_hasRoom_4 : decode cX2_hasRoom 4 = .ok (.iload_n 2, 1) := by decide +kernel
theorem dX2_hasRoom_5 : decode cX2_hasRoom 5 = .ok (.isub, 1) := by decide +kernel
theorem dX2_hasRoom_6 : decode cX2_hasRoom 6 = .ok (.aload_n 0, 1) := by decide +kernel
theorem dX2_hasRoom_7 : decode cX2_hasRoom 7 = .ok (.getfield 28, 3) := by decide +kernel
theorem dX2_hasRoom_10 : decode cX2_hasRoom 10 = .ok (.imul, 1) := by decide +kernel
theorem dX2_hasRoom_11 : decode cX2_hasRoom 11 = .ok (.istore_n 3, 1) := by decide +kernel
theorem dX2_hasRoom_12 : decode cX2_hasRoom 12 = .ok (.iconst 0, 1) := by decide +kernel
theorem dX2_hasRoom_13 : decode cX2_hasRoom 13 = .ok (.istore 4, 2) := by decide +kernel
theorem dX2_hasRoom_15 : decode cX2_hasRoom 15 = .ok (.iload 4, 2) := by decide +kernel
theorem dX2_hasRoom_17 : decode cX2_hasRoom 17 = .ok (.iload_n 2, 1) := by decide +kernel
theorem dX2_hasRoom_18 : decode cX2_hasRoom 18 = .ok (.if_icmp .ge 39, 3) := by decide +kernel
theorem dX2_hasRoom_21 : decode cX2_hasRoom 21 = .ok (.iload_n 3, 1) := by decide +kernel
theorem dX2_hasRoom_22 : decode cX2_hasRoom 22 = .ok (.aload_n 0, 1) := by decide +kernel
theorem dX2_hasRoom_23 : decode cX2_hasRoom 23 = .ok (.getfield 28, 3) := by decide +kernel
theorem dX2_hasRoom_26 : decode cX2_hasRoom 26 = .ok (.aload_n 0, 1) := by decide +kernel
theorem dX2_hasRoom_27 : decode cX2_hasRoom 27 = .ok (.getfield 18, 3) := by decide +kernel
theorem dX2_hasRoom_30 : decode cX2_hasRoom 30 = .ok (.iload 4, 2) := by decide +kernel
theorem dX2_hasRoom_32 : decode cX2_hasRoom 32 = .ok (.iaload, 1) := by decide +kernel
theorem dX2_hasRoom_33 : decode cX2_hasRoom 33 = .ok (.isub, 1) := by decide +kernel
theorem dX2_hasRoom_34 : decode cX2_hasRoom 34 = .ok (.aload_n 0, 1) := by decide +kernel
theorem dX2_hasRoom_35 : decode cX2_hasRoom 35 = .ok (.getfield 15, 3) := by decide +kernel
theorem dX2_hasRoom_38 : decode cX2_hasRoom 38 = .ok (.iload 4, 2) := by decide +kernel
theorem dX2_hasRoom_40 : decode cX2_hasRoom 40 = .ok (.iaload, 1) := by decide +kernel
theorem dX2_hasRoom_41 : decode cX2_hasRoom 41 = .ok (.iload_n 1, 1) := by decide +kernel
theorem dX2_hasRoom_42 : decode cX2_hasRoom 42 = .ok (.iand, 1) := by decide +kernel
theorem dX2_hasRoom_43 : decode cX2_hasRoom 43 = .ok (.invokestatic 60, 3) := by decide +kernel
theorem dX2_hasRoom_46 : decode cX2_hasRoom 46 = .ok (.invokestatic 66, 3) := by decide +kernel
theorem dX2_hasRoom_49 : decode cX2_hasRoom 49 = .ok (.iadd, 1) := by decide +kernel
theorem dX2_hasRoom_50 : decode cX2_hasRoom 50 = .ok (.istore_n 3, 1) := by decide +kernel
theorem dX2_hasRoom_51 : decode cX2_hasRoom 51 = .ok (.iinc 4 1, 3) := by decide +kernel
theorem dX2_hasRoom_54 : decode cX2_hasRoom 54 = .ok (.goto (-39), 3) := by decide +kernel
theorem dX2_hasRoom_57 : decode cX2_hasRoom 57 = .ok (.iload_n 3, 1) := by decide +kernel
theorem dX2_hasRoom_58 : decode cX2_hasRoom 58 = .ok (.iload_n 1, 1) := by decide +kernel
theorem dX2_hasRoom_59 : decode cX2_hasRoom 59 = .ok (.invokestatic 60, 3) := by decide +kernel
theorem dX2_hasRoom_62 : decode cX2_hasRoom 62 = .ok (.if_icmp .lt 7, 3) := by decide +kernel
theorem dX2_hasRoom_65 : decode cX2_hasRoom 65 = .ok (.iconst 1, 1) := by decide +kernel
theorem dX2_hasRoom_66 : decode cX2_hasRoom 66 = .ok (.goto 4, 3) := by decide +kernel
theorem dX2_hasRoom_69 : decode cX2_hasRoom 69 = .ok (.iconst 0, 1) := by decide +kernel
theorem dX2_hasRoom_70 : decode cX2_hasRoom 70 = .ok (.ireturn, 1) := by decide +kernel
theorem dX2_loneliest_0 : decode cX2_loneliest 0 = .ok (.iconst 0, 1) := by decide +kernel
theorem dX2_loneliest_1 : decode cX2_loneliest 1 = .ok (.istore_n 3, 1) := by decide +kernel
theorem dX2_loneliest_2 : decode cX2_loneliest 2 = .ok (.bipush 25, 2) := by decide +kernel
theorem dX2_loneliest_4 : decode cX2_loneliest 4 = .ok (.istore 4, 2) := by decide +kernel
theorem dX2_loneliest_6 : decode cX2_loneliest 6 = .ok (.iconst 0, 1) := by decide +kernel
theorem dX2_loneliest_7 : decode cX2_loneliest 7 = .ok (.istore 5, 2) := by decide +kernel
theorem dX2_loneliest_9 : decode cX2_loneliest 9 = .ok (.iload 5, 2) := by decide +kernel
theorem dX2_loneliest_11 : decode cX2_loneliest 11 = .ok (.aload_n 0, 1) := by decide +kernel
theorem dX2_loneliest_12 : decode cX2_loneliest 12 = .ok (.getfield 21, 3) := by decide +kernel
theorem dX2_loneliest_15 : decode cX2_loneliest 15 = .ok (.if_icmp .ge 46, 3) := by decide +kernel
theorem dX2_loneliest_18 : decode cX2_loneliest 18 = .ok (.iload_n 1, 1) := by decide +kernel
theorem dX2_loneliest_19 : decode cX2_loneliest 19 = .ok (.iload 5, 2) := by decide +kernel
theorem dX2_loneliest_21 : decode cX2_loneliest 21 = .ok (.iushr, 1) := by decide +kernel
theorem dX2_loneliest_22 : decode cX2_loneliest 22 = .ok (.iconst 1, 1) := by decide +kernel
theorem dX2_loneliest_23 : decode cX2_loneliest 23 = .ok (.iand, 1) := by decide +kernel
theorem dX2_loneliest_24 : decode cX2_loneliest 24 = .ok (.ifCond .eq 31, 3) := by decide +kernel
theorem dX2_loneliest_27 : decode cX2_loneliest 27 = .ok (.aload_n 0, 1) := by decide +kernel
theorem dX2_loneliest_28 : decode cX2_loneliest 28 = .ok (.getfield 9, 3) := by decide +kernel
theorem dX2_loneliest_31 : decode cX2_loneliest 31 = .ok (.iload 5, 2) := by decide +kernel
theorem dX2_loneliest_33 : decode cX2_loneliest 33 = .ok (.iaload, 1) := by decide +kernel
theorem dX2_loneliest_34 : decode cX2_loneliest 34 = .ok (.iload_n 2, 1) := by decide +kernel
theorem dX2_loneliest_35 : decode cX2_loneliest 35 = .ok (.iand, 1) := by decide +kernel
theorem dX2_loneliest_36 : decode cX2_loneliest 36 = .ok (.invokestatic 60, 3) := by decide +kernel
theorem dX2_loneliest_39 : decode cX2_loneliest 39 = .ok (.istore 6, 2) := by decide +kernel
theorem dX2_loneliest_41 : decode cX2_loneliest 41 = .ok (.iload 6, 2) := by decide +kernel
theorem dX2_loneliest_43 : decode cX2_loneliest 43 = .ok (.iload 4, 2) := by decide +kernel
theorem dX2_loneliest_45 : decode cX2_loneliest 45 = .ok (.if_icmp .ge 10, 3) := by decide +kernel
theorem dX2_loneliest_48 : decode cX2_loneliest 48 = .ok (.iload 6, 2) := by decide +kernel
theorem dX2_loneliest_50 : decode cX2_loneliest 50 = .ok (.istore 4, 2) := by decide +kernel
theorem dX2_loneliest_52 : decode cX2_loneliest 52 = .ok (.iload 5, 2) := by decide +kernel
theorem dX2_loneliest_54 : decode cX2_loneliest 54 = .ok (.istore_n 3, 1) := by decide +kernel
theorem dX2_loneliest_55 : decode cX2_loneliest 55 = .ok (.iinc 5 1, 3) := by decide +kernel
theorem dX2_loneliest_58 : decode cX2_loneliest 58 = .ok (.goto (-49), 3) := by decide +kernel
theorem dX2_loneliest_61 : decode cX2_loneliest 61 = .ok (.iload_n 3, 1) := by decide +kernel
theorem dX2_loneliest_62 : decode cX2_loneliest 62 = .ok (.ireturn, 1) := by decide +kernel
theorem dX3_init_0 : decode cX3_init 0 = .ok (.aload_n 0, 1) := by decide +kernel
theorem dX3_init_1 : decode cX3_init 1 = .ok (.invokespecial 3, 3) := by decide +kernel
theorem dX3_init_4 : decode cX3_init 4 = .ok (.aload_n 0, 1) := by decide +kernel
theorem dX3_init_5 : decode cX3_init 5 = .ok (.iconst 0, 1) := by decide +kernel
theorem dX3_init_6 : decode cX3_init 6 = .ok (.putfield 9, 3) := by decide +kernel
theorem dX3_init_9 : decode cX3_init 9 = .ok (.aload_n 0, 1) := by decide +kernel
theorem dX3_init_10 : decode cX3_init 10 = .ok (.iconst 1, 1) := by decide +kernel
theorem dX3_init_11 : decode cX3_init 11 = .ok (.putfield 15, 3) := by decide +kernel
theorem dX3_init_14 : decode cX3_init 14 = .ok (.aload_n 0, 1) := by decide +kernel
theorem dX3_init_15 : decode cX3_init 15 = .ok (.iconst 0, 1) := by decide +kernel
theorem dX3_init_16 : decode cX3_init 16 = .ok (.putfield 18, 3) := by decide +kernel
theorem dX3_init_19 : decode cX3_init 19 = .ok (.aload_n 0, 1) := by decide +kernel
theorem dX3_init_20 : decode cX3_init 20 = .ok (.bipush 24, 2) := by decide +kernel
theorem dX3_init_22 : decode cX3_init 22 = .ok (.newarray .int, 2) := by decide +kernel
theorem dX3_init_24 : decode cX3_init 24 = .ok (.putfield 21, 3) := by decide +kernel
theorem dX3_init_27 : decode cX3_init 27 = .ok (.aload_n 0, 1) := by decide +kernel
theorem dX3_init_28 : decode cX3_init 28 = .ok (.bipush 24, 2) := by decide +kernel
theorem dX3_init_30 : decode cX3_init 30 = .ok (.newarray .int, 2) := by decide +kernel
theorem dX3_init_32 : decode cX3_init 32 = .ok (.putfield 25, 3) := by decide +kernel
theorem dX3_init_35 : decode cX3_init 35 = .ok (.aload_n 0, 1) := by decide +kernel
theorem dX3_init_36 : decode cX3_init 36 = .ok (.bipush 25, 2) := by decide +kernel
theorem dX3_init_38 : decode cX3_init 38 = .ok (.bipush 6, 2) := by decide +kernel
theorem dX3_init_40 : decode cX3_init 40 = .ok (.multianewarray 28 2, 4) := by decide +kernel
theorem dX3_init_44 : decode cX3_init 44 = .ok (.putfield 30, 3) := by decide +kernel
theorem dX3_init_47 : decode cX3_init 47 = .ok (.return_, 1) := by decide +kernel
theorem dX3_renew_0 : decode cX3_renew 0 = .ok (.aload_n 0, 1) := by decide +kernel
theorem dX3_renew_1 : decode cX3_renew 1 = .ok (.iload_n 1, 1) := by decide +kernel
theorem dX3_renew_2 : decode cX3_renew 2 = .ok (.putfield 9, 3) := by decide +kernel
theorem dX3_renew_5 : decode cX3_renew 5 = .ok (.aload_n 0, 1) := by decide +kernel
theorem dX3_renew_6 : decode cX3_renew 6 = .ok (.iload_n 2, 1) := by decide +kernel
theorem dX3_renew_7 : decode cX3_renew 7 = .ok (.putfield 15, 3) := by decide +kernel
theorem dX3_renew_10 : decode cX3_renew 10 = .ok (.aload_n 0, 1) := by decide +kernel
theorem dX3_renew_11 : decode cX3_renew 11 = .ok (.dup, 1) := by decide +kernel
theorem dX3_renew_12 : decode cX3_renew 12 = .ok (.getfield 18, 3) := by decide +kernel
theorem dX3_renew_15 : decode cX3_renew 15 = .ok (.iconst 1, 1) := by decide +kernel
theorem dX3_renew_16 : decode cX3_renew 16 = .ok (.iadd, 1) := by decide +kernel
theorem dX3_renew_17 : decode cX3_renew 17 = .ok (.putfield 18, 3) := by decide +kernel
theorem dX3_renew_20 : decode cX3_renew 20 = .ok (.iconst 0, 1) := by decide +kernel
theorem dX3_renew_21 : decode cX3_renew 21 = .ok (.istore_n 3, 1) := by decide +kernel
theorem dX3_renew_22 : decode cX3_renew 22 = .ok (.iload_n 3, 1) := by decide +kernel
theorem dX3_renew_23 : decode cX3_renew 23 = .ok (.bipush 24, 2) := by decide +kernel
theorem dX3_renew_25 : decode cX3_renew 25 = .ok (.if_icmp .ge 23, 3) := by decide +kernel
theorem dX3_renew_28 : decode cX3_renew 28 = .ok (.aload_n 0, 1) := by decide +kernel
theorem dX3_renew_29 : decode cX3_renew 29 = .ok (.getfield 21, 3) := by decide +kernel
theorem dX3_renew_32 : decode cX3_renew 32 = .ok (.iload_n 3, 1) := by decide +kernel
theorem dX3_renew_33 : decode cX3_renew 33 = .ok (.iconst 0, 1) := by decide +kernel
theorem dX3_renew_34 : decode cX3_renew 34 = .ok (.iastore, 1) := by decide +kernel
theorem dX3_renew_35 : decode cX3_renew 35 = .ok (.aload_n 0, 1) := by decide +kernel
theorem dX3_renew_36 : decode cX3_renew 36 = .ok (.getfield 25, 3) := by decide +kernel
theorem dX3_renew_39 : decode cX3_renew 39 = .ok (.iload_n 3, 1) := by decide +kernel
theorem dX3_renew_40 : decode cX3_renew 40 = .ok (.iconst 0, 1) := by decide +kernel
theorem dX3_renew_41 : decode cX3_renew 41 = .ok (.iastore, 1) := by decide +kernel
theorem dX3_renew_42 : decode cX3_renew 42 = .ok (.iinc 3 1, 3) := by decide +kernel
theorem dX3_renew_45 : decode cX3_renew 45 = .ok (.goto (-23), 3) := by decide +kernel
theorem dX3_renew_48 : decode cX3_renew 48 = .ok (.aload_n 0, 1) := by decide +kernel
theorem dX3_renew_49 : decode cX3_renew 49 = .ok (.invokevirtual 33, 3) := by decide +kernel
theorem dX3_renew_52 : decode cX3_renew 52 = .ok (.return_, 1) := by decide +kernel
theorem dX3_clearRows_0 : decode cX3_clearRows 0 = .ok (.iconst 0, 1) := by decide +kernel
theorem dX3_clearRows_1 : decode cX3_clearRows 1 = .ok (.istore_n 1, 1) := by decide +kernel
theorem dX3_clearRows_2 : decode cX3_clearRows 2 = .ok (.iload_n 1, 1) := by decide +kernel
theorem dX3_clearRows_3 : decode cX3_clearRows 3 = .ok (.bipush 24, 2) := by decide +kernel
theorem dX3_clearRows_5 : decode cX3_clearRows 5 = .ok (.if_icmp .gt 32, 3) := by decide +kernel
theorem dX3_clearRows_8 : decode cX3_clearRows 8 = .ok (.iconst 0, 1) := by decide +kernel
theorem dX3_clearRows_9 : decode cX3_clearRows 9 = .ok (.istore_n 2, 1) := by decide +kernel
theorem dX3_clearRows_10 : decode cX3_clearRows 10 = .ok (.iload_n 2, 1) := by decide +kernel
theorem dX3_clearRows_11 : decode cX3_clearRows 11 = .ok (.bipush 6, 2) := by decide +kernel
theorem dX3_clearRows_13 : decode cX3_clearRows 13 = .ok (.if_icmp .ge 18, 3) := by decide +kernel
theorem dX3_clearRows_16 : decode cX3_clearRows 16 = .ok (.aload_n 0, 1) := by decide +kernel
theorem dX3_clearRows_17 : decode cX3_clearRows 17 = .ok (.getfield 30, 3) := by decide +kernel
theorem dX3_clearRows_20 : decode cX3_clearRows 20 = .ok (.iload_n 1, 1) := by decide +kernel
theorem dX3_clearRows_21 : decode cX3_clearRows 21 = .ok (.aaload, 1) := by decide +kernel
theorem dX3_clearRows_22 : decode cX3_clearRows 22 = .ok (.iload_n 2, 1) := by decide +kernel
theorem dX3_clearRows_23 : decode cX3_clearRows 23 = .ok (.iconst 0, 1) := by decide +kernel
theorem dX3_clearRows_24 : decode cX3_clearRows 24 = .ok (.iastore, 1) := by decide +kernel
theorem dX3_clearRows_25 : decode cX3_clearRows 25 = .ok (.iinc 2 1, 3) := by decide +kernel
theorem dX3_clearRows_28 : decode cX3_clearRows 28 = .ok (.goto (-18), 3) := by decide +kernel
theorem dX3_clearRows_31 : decode cX3_clearRows 31 = .ok (.iinc 1 1, 3) := by decide +kernel
theorem dX3_clearRows_34 : decode cX3_clearRows 34 = .ok (.goto (-32), 3) := by decide +kernel
theorem dX3_clearRows_37 : decode cX3_clearRows 37 = .ok (.return_, 1) := by decide +kernel
theorem dX3_takeNear_0 : decode cX3_takeNear 0 = .ok (.iconst 0, 1) := by decide +kernel
theorem dX3_takeNear_1 : decode cX3_takeNear 1 = .ok (.istore_n 2, 1) := by decide +kernel
theorem dX3_takeNear_2 : decode cX3_takeNear 2 = .ok (.iload_n 2, 1) := by decide +kernel
theorem dX3_takeNear_3 : decode cX3_takeNear 3 = .ok (.aload_n 0, 1) := by decide +kernel
theorem dX3_takeNear_4 : decode cX3_takeNear 4 = .ok (.getfield 15, 3) := by decide +kernel
theorem dX3_takeNear_7 : decode cX3_takeNear 7 = .ok (.if_icmp .ge 18, 3) := by decide +kernel
theorem dX3_takeNear_10 : decode cX3_takeNear 10 = .ok (.aload_n 0, 1) := by decide +kernel
theorem dX3_takeNear_11 : decode cX3_takeNear 11 = .ok (.getfield 21, 3) := by decide +kernel
theorem dX3_takeNear_14 : decode cX3_takeNear 14 = .ok (.iload_n 2, 1) := by decide +kernel
theorem dX3_takeNear_15 : decode cX3_takeNear 15 = .ok (.aload_n 1, 1) := by decide +kernel
theorem dX3_takeNear_16 : decode cX3_takeNear 16 = .ok (.iload_n 2, 1) := by decide +kernel
theorem dX3_takeNear_17 : decode cX3_takeNear 17 = .ok (.iaload, 1) := by decide +kernel
theorem dX3_takeNear_18 : decode cX3_takeNear 18 = .ok (.iastore, 1) := by decide +kernel
theorem dX3_takeNear_19 : decode cX3_takeNear 19 = .ok (.iinc 2 1, 3) := by decide +kernel
theorem dX3_takeNear_22 : decode cX3_takeNear 22 = .ok (.goto (-20), 3) := by decide +kernel
theorem dX3_takeNear_25 : decode cX3_takeNear 25 = .ok (.return_, 1) := by decide +kernel
theorem dX3_takeSigns_0 : decode cX3_takeSigns 0 = .ok (.iconst 0, 1) := by decide +kernel
theorem dX3_takeSigns_1 : decode cX3_takeSigns 1 = .ok (.istore_n 2, 1) := by decide +kernel
theorem dX3_takeSigns_2 : decode cX3_takeSigns 2 = .ok (.iload_n 2, 1) := by decide +kernel
theorem dX3_takeSigns_3 : decode cX3_takeSigns 3 = .ok (.aload_n 0, 1) := by decide +kernel
theorem dX3_takeSigns_4 : decode cX3_takeSigns 4 = .ok (.getfield 15, 3) := by decide +kernel
theorem dX3_takeSigns_7 : decode cX3_takeSigns 7 = .ok (.if_icmp .ge 53, 3) := by decide +kernel
theorem dX3_takeSigns_10 : decode cX3_takeSigns 10 = .ok (.aload_n 0, 1) := by decide +kernel
theorem dX3_takeSigns_11 : decode cX3_takeSigns 11 = .ok (.getfield 25, 3) := by decide +kernel
theorem dX3_takeSigns_14 : decode cX3_takeSigns 14 = .ok (.iload_n 2, 1) := by decide +kernel
theorem dX3_takeSigns_15 : decode cX3_takeSigns 15 = .ok (.aload_n 1, 1) := by decide +kernel
theorem dX3_takeSigns_16 : decode cX3_takeSigns 16 = .ok (.iload_n 2, 1) := by decide +kernel
theorem dX3_takeSigns_17 : decode cX3_takeSigns 17 = .ok (.iaload, 1) := by decide +kernel
theorem dX3_takeSigns_18 : decode cX3_takeSigns 18 = .ok (.iastore, 1) := by decide +kernel
theorem dX3_takeSigns_19 : decode cX3_takeSigns 19 = .ok (.iconst 0, 1) := by decide +kernel
theorem dX3_takeSigns_20 : decode cX3_takeSigns 20 = .ok (.istore_n 3, 1) := by decide +kernel
theorem dX3_takeSigns_21 : decode cX3_takeSigns 21 = .ok (.iload_n 3, 1) := by decide +kernel
theorem dX3_takeSigns_22 : decode cX3_takeSigns 22 = .ok (.iload_n 2, 1) := by decide +kernel
theorem dX3_takeSigns_23 : decode cX3_takeSigns 23 = .ok (.if_icmp .ge 31, 3) := by decide +kernel
theorem dX3_takeSigns_26 : decode cX3_takeSigns 26 = .ok (.aload_n 0, 1) := by decide +kernel
theorem dX3_takeSigns_27 : decode cX3_takeSigns 27 = .ok (.getfield 25, 3) := by decide +kernel
theorem dX3_takeSigns_30 : decode cX3_takeSigns 30 = .ok (.iload_n 2, 1) := by decide +kernel
theorem dX3_takeSigns_31 : decode cX3_takeSigns 31 = .ok (.iaload, 1) := by decide +kernel
theorem dX3_takeSigns_32 : decode cX3_takeSigns 32 = .ok (.aload_n 0, 1) := by decide +kernel
theorem dX3_takeSigns_33 : decode cX3_takeSigns 33 = .ok (.getfield 25, 3) := by decide +kernel
theorem dX3_takeSigns_36 : decode cX3_takeSigns 36 = .ok (.iload_n 3, 1) := by decide +kernel
theorem dX3_takeSigns_37 : decode cX3_takeSigns 37 = .ok (.iaload, 1) := by decide +kernel
theorem dX3_takeSigns_38 : decode cX3_takeSigns 38 = .ok (.iand, 1) := by decide +kernel
theorem dX3_takeSigns_39 : decode cX3_takeSigns 39 = .ok (.ifCond .eq 9, 3) := by decide +kernel
theorem dX3_takeSigns_42 : decode cX3_takeSigns 42 = .ok (.aload_n 0, 1) := by decide +kernel
theorem dX3_takeSigns_43 : decode cX3_takeSigns 43 = .ok (.iload_n 2, 1) := by decide +kernel
theorem dX3_takeSigns_44 : decode cX3_takeSigns 44 = .ok (.iload_n 3, 1) := by decide +kernel
theorem dX3_takeSigns_45 : decode cX3_takeSigns 45 = .ok (.invokevirtual 36, 3) := by decide +kernel
theorem dX3_takeSigns_48 : decode cX3_takeSigns 48 = .ok (.iinc 3 1, 3) := by decide +kernel
theorem dX3_takeSigns_51 : decode cX3_takeSigns 51 = .ok (.goto (-30), 3) := by decide +kernel
theorem dX3_takeSigns_54 : decode cX3_takeSigns 54 = .ok (.iinc 2 1, 3) := by decide +kernel
theorem dX3_takeSigns_57 : decode cX3_takeSigns 57 = .ok (.goto (-55), 3) := by decide +kernel
theorem dX3_takeSigns_60 : decode cX3_takeSigns 60 = .ok (.return_, 1) := by decide +kernel
theorem dX3_has_0 : decode cX3_has 0 = .ok (.iload_n 1, 1) := by decide +kernel
theorem dX3_has_1 : decode cX3_has 1 = .ok (.ifCond .lt 15, 3) := by decide +kernel
theorem dX3_has_4 : decode cX3_has 4 = .ok (.iload_n 1, 1) := by decide +kernel
theorem dX3_has_5 : decode cX3_has 5 = .ok (.aload_n 0, 1) := by decide +kernel
theorem dX3_has_6 : decode cX3_has 6 = .ok (.getfield 15, 3) := by decide +kernel
theorem dX3_has_9 : decode cX3_has 9 = .ok (.if_icmp .ge 7, 3) := by decide +kernel
theorem dX3_has_12 : decode cX3_has 12 = .ok (.iconst 1, 1) := by decide +kernel
theorem dX3_has_13 : decode cX3_has 13 = .ok (.goto 4, 3) := by decide +kernel
theorem dX3_has_16 : decode cX3_has 16 = .ok (.iconst 0, 1) := by decide +kernel
theorem dX3_has_17 : decode cX3_has 17 = .ok (.ireturn, 1) := by decide +kernel
theorem dX3_mistakes_0 : decode cX3_mistakes 0 = .ok (.aload_n 0, 1) := by decide +kernel
theorem dX3_mistakes_1 : decode cX3_mistakes 1 = .ok (.getfield 21, 3) := by decide +kernel
theorem dX3_mistakes_4 : decode cX3_mistakes 4 = .ok (.iload_n 1, 1) := by decide +kernel
theorem dX3_mistakes_5 : decode cX3_mistakes 5 = .ok (.iaload, 1) := by decide +kernel
theorem dX3_mistakes_6 : decode cX3_mistakes 6 = .ok (.iload_n 2, 1) := by decide +kernel
theorem dX3_mistakes_7 : decode cX3_mistakes 7 = .ok (.iushr, 1) := by decide +kernel
theorem dX3_mistakes_8 : decode cX3_mistakes 8 = .ok (.iconst 1, 1) := by decide +kernel
theorem dX3_mistakes_9 : decode cX3_mistakes 9 = .ok (.iand, 1) := by decide +kernel
theorem dX3_mistakes_10 : decode cX3_mistakes 10 = .ok (.ifCond .eq 7, 3) := by decide +kernel
theorem dX3_mistakes_13 : decode cX3_mistakes 13 = .ok (.iconst 1, 1) := by decide +kernel
theorem dX3_mistakes_14 : decode cX3_mistakes 14 = .ok (.goto 4, 3) := by decide +kernel
theorem dX3_mistakes_17 : decode cX3_mistakes 17 = .ok (.iconst 0, 1) := by decide +kernel
theorem dX3_mistakes_18 : decode cX3_mistakes 18 = .ok (.ireturn, 1) := by decide +kernel
theorem dX3_alike_0 : decode cX3_alike 0 = .ok (.iload_n 1, 1) := by decide +kernel
theorem dX3_alike_1 : decode cX3_alike 1 = .ok (.iload_n 2, 1) := by decide +kernel
theorem dX3_alike_2 : decode cX3_alike 2 = .ok (.if_icmp .eq 12, 3) := by decide +kernel
theorem dX3_alike_5 : decode cX3_alike 5 = .ok (.aload_n 0, 1) := by decide +kernel
theorem dX3_alike_6 : decode cX3_alike 6 = .ok (.iload_n 1, 1) := by decide +kernel
theorem dX3_alike_7 : decode cX3_alike 7 = .ok (.iload_n 2, 1) := by decide +kernel
theorem dX3_alike_8 : decode cX3_alike 8 = .ok (.invokevirtual 40, 3) := by decide +kernel
theorem dX3_alike_11 : decode cX3_alike 11 = .ok (.ifCond .eq 7, 3) := by decide +kernel
theorem dX3_alike_14 : decode cX3_alike 14 = .ok (.iconst 1, 1) := by decide +kernel
theorem dX3_alike_15 : decode cX3_alike 15 = .ok (.goto 4, 3) := by decide +kernel
theorem dX3_alike_18 : decode cX3_alike 18 = .ok (.iconst 0, 1) := by decide +kernel
theorem dX3_alike_19 : decode cX3_alike 19 = .ok (.ireturn, 1) := by decide +kernel
theorem dX3_flip_0 : decode cX3_flip 0 = .ok (.aload_n 0, 1) := by decide +kernel
theorem dX3_flip_1 : decode cX3_flip 1 = .ok (.getfield 21, 3) := by decide +kernel
theorem dX3_flip_4 : decode cX3_flip 4 = .ok (.iload_n 1, 1) := by decide +kernel
theorem dX3_flip_5 : decode cX3_flip 5 = .ok (.dup2, 1) := by decide +kernel
theorem dX3_flip_6 : decode cX3_flip 6 = .ok (.iaload, 1) := by decide +kernel
theorem dX3_flip_7 : decode cX3_flip 7 = .ok (.iconst 1, 1) := by decide +kernel
theorem dX3_flip_8 : decode cX3_flip 8 = .ok (.iload_n 2, 1) := by decide +kernel
theorem dX3_flip_9 : decode cX3_flip 9 = .ok (.ishl, 1) := by decide +kernel
theorem dX3_flip_10 : decode cX3_flip 10 = .ok (.ixor, 1) := by decide +kernel
theorem dX3_flip_11 : decode cX3_flip 11 = .ok (.iastore, 1) := by decide +kernel
theorem dX3_flip_12 : decode cX3_flip 12 = .ok (.aload_n 0, 1) := by decide +kernel
theorem dX3_flip_13 : decode cX3_flip 13 = .ok (.getfield 21, 3) := by decide +kernel
theorem dX3_flip_16 : decode cX3_flip 16 = .ok (.iload_n 2, 1) := by decide +kernel
theorem dX3_flip_17 : decode cX3_flip 17 = .ok (.dup2, 1) := by decide +kernel
theorem dX3_flip_18 : decode cX3_flip 18 = .ok (.iaload, 1) := by decide +kernel
theorem dX3_flip_19 : decode cX3_flip 19 = .ok (.iconst 1, 1) := by decide +kernel
theorem dX3_flip_20 : decode cX3_flip 20 = .ok (.iload_n 1, 1) := by decide +kernel
theorem dX3_flip_21 : decode cX3_flip 21 = .ok (.ishl, 1) := by decide +kernel
theorem dX3_flip_22 : decode cX3_flip 22 = .ok (.ixor, 1) := by decide +kernel
theorem dX3_flip_23 : decode cX3_flip 23 = .ok (.iastore, 1) := by decide +kernel
theorem dX3_flip_24 : decode cX3_flip 24 = .ok (.return_, 1) := by decide +kernel
theorem dX3_pairs_0 : decode cX3_pairs 0 = .ok (.iconst 0, 1) := by decide +kernel
theorem dX3_pairs_1 : decode cX3_pairs 1 = .ok (.istore_n 1, 1) := by decide +kernel
theorem dX3_pairs_2 : decode cX3_pairs 2 = .ok (.iconst 0, 1) := by decide +kernel
theorem dX3_pairs_3 : decode cX3_pairs 3 = .ok (.istore_n 2, 1) := by decide +kernel
theorem dX3_pairs_4 : decode cX3_pairs 4 = .ok (.iload_n 2, 1) := by decide +kernel
theorem dX3_pairs_5 : decode cX3_pairs 5 = .ok (.aload_n 0, 1) := by decide +kernel
theorem dX3_pairs_6 : decode cX3_pairs 6 = .ok (.getfield 15, 3) := by decide +kernel
theorem dX3_pairs_9 : decode cX3_pairs 9 = .ok (.if_icmp .ge 21, 3) := by decide +kernel
theorem dX3_pairs_12 : decode cX3_pairs 12 = .ok (.iload_n 1, 1) := by decide +kernel
theorem dX3_pairs_13 : decode cX3_pairs 13 = .ok (.aload_n 0, 1) := by decide +kernel
theorem dX3_pairs_14 : decode cX3_pairs 14 = .ok (.getfield 21, 3) := by decide +kernel
theorem dX3_pairs_17 : decode cX3_pairs 17 = .ok (.iload_n 2, 1) := by decide +kernel
theorem dX3_pairs_18 : decode cX3_pairs 18 = .ok (.iaload, 1) := by decide +kernel
theorem dX3_pairs_19 : decode cX3_pairs 19 = .ok (.invokestatic 44, 3) := by decide +kernel
theorem dX3_pairs_22 : decode cX3_pairs 22 = .ok (.iadd, 1) := by decide +kernel
theorem dX3_pairs_23 : decode cX3_pairs 23 = .ok (.istore_n 1, 1) := by decide +kernel
theorem dX3_pairs_24 : decode cX3_pairs 24 = .ok (.iinc 2 1, 3) := by decide +kernel
theorem dX3_pairs_27 : decode cX3_pairs 27 = .ok (.goto (-23), 3) := by decide +kernel
theorem dX3_pairs_30 : decode cX3_pairs 30 = .ok (.iload_n 1, 1) := by decide +kernel
theorem dX3_pairs_31 : decode cX3_pairs 31 = .ok (.iconst 2, 1) := by decide +kernel
theorem dX3_pairs_32 : decode cX3_pairs 32 = .ok (.idiv, 1) := by decide +kernel
theorem dX3_pairs_33 : decode cX3_pairs 33 = .ok (.ireturn, 1) := by decide +kernel
theorem dX3_signsInAll_0 : decode cX3_signsInAll 0 = .ok (.iconst 0, 1) := by decide +kernel
theorem dX3_signsInAll_1 : decode cX3_signsInAll 1 = .ok (.istore_n 1, 1) := by decide +kernel
theorem dX3_signsInAll_2 : decode cX3_signsInAll 2 = .ok (.iconst 0, 1) := by decide +kernel
theorem dX3_signsInAll_3 : decode cX3_signsInAll 3 = .ok (.istore_n 2, 1) := by decide +kernel
theorem dX3_signsInAll_4 : decode cX3_signsInAll 4 = .ok (.iload_n 2, 1) := by decide +kernel
theorem dX3_signsInAll_5 : decode cX3_signsInAll 5 = .ok (.aload_n 0, 1) := by decide +kernel
theorem dX3_signsInAll_6 : decode cX3_signsInAll 6 = .ok (.getfield 15, 3) := by decide +kernel
theorem dX3_signsInAll_9 : decode cX3_signsInAll 9 = .ok (.if_icmp .ge 18, 3) := by decide +kernel
theorem dX3_signsInAll_12 : decode cX3_signsInAll 12 = .ok (.iload_n 1, 1) := by decide +kernel
theorem dX3_signsInAll_13 : decode cX3_signsInAll 13 = .ok (.aload_n 0, 1) := by decide +kernel
theorem dX3_signsInAll_14 : decode cX3_signsInAll 14 = .ok (.getfield 25, 3) := by decide +kernel
theorem dX3_signsInAll_17 : decode cX3_signsInAll 17 = .ok (.iload_n 2, 1) := by decide +kernel
theorem dX3_signsInAll_18 : decode cX3_signsInAll 18 = .ok (.iaload, 1) := by decide +kernel
theorem dX3_signsInAll_19 : decode cX3_signsInAll 19 = .ok (.ior, 1) := by decide +kernel
theorem dX3_signsInAll_20 : decode cX3_signsInAll 20 = .ok (.istore_n 1, 1) := by decide +kernel
theorem dX3_signsInAll_21 : decode cX3_signsInAll 21 = .ok (.iinc 2 1, 3) := by decide +kernel
theorem dX3_signsInAll_24 : decode cX3_signsInAll 24 = .ok (.goto (-20), 3) := by decide +kernel
theorem dX3_signsInAll_27 : decode cX3_signsInAll 27 = .ok (.iload_n 1, 1) := by decide +kernel
theorem dX3_signsInAll_28 : decode cX3_signsInAll 28 = .ok (.invokestatic 44, 3) := by decide +kernel
theorem dX3_signsInAll_31 : decode cX3_signsInAll 31 = .ok (.ireturn, 1) := by decide +kernel
theorem dX4_init_0 : decode cX4_init 0 = .ok (.aload_n 0, 1) := by decide +kernel
theorem dX4_init_1 : decode cX4_init 1 = .ok (.invokespecial 5, 3) := by decide +kernel
theorem dX4_init_4 : decode cX4_init 4 = .ok (.aload_n 0, 1) := by decide +kernel
theorem dX4_init_5 : decode cX4_init 5 = .ok (.bipush 16, 2) := by decide +kernel
theorem dX4_init_7 : decode cX4_init 7 = .ok (.newarray .long, 2) := by decide +kernel
theorem dX4_init_9 : decode cX4_init 9 = .ok (.putfield 11, 3) := by decide +kernel
theorem dX4_init_12 : decode cX4_init 12 = .ok (.aload_n 0, 1) := by decide +kernel
theorem dX4_init_13 : decode cX4_init 13 = .ok (.bipush 16, 2) := by decide +kernel
theorem dX4_init_15 : decode cX4_init 15 = .ok (.newarray .long, 2) := by decide +kernel
theorem dX4_init_17 : decode cX4_init 17 = .ok (.putfield 15, 3) := by decide +kernel
theorem dX4_init_20 : decode cX4_init 20 = .ok (.aload_n 0, 1) := by decide +kernel
theorem dX4_init_21 : decode cX4_init 21 = .ok (.bipush 17, 2) := by decide +kernel
theorem dX4_init_23 : decode cX4_init 23 = .ok (.newarray .int, 2) := by decide +kernel
theorem dX4_init_25 : decode cX4_init 25 = .ok (.putfield 18, 3) := by decide +kernel
theorem dX4_init_28 : decode cX4_init 28 = .ok (.return_, 1) := by decide +kernel
theorem dX4_leastGreatest_0 : decode cX4_leastGreatest 0 = .ok (.aload_n 1, 1) := by decide +kernel
theorem dX4_leastGreatest_1 : decode cX4_leastGreatest 1 = .ok (.getfield 22, 3) := by decide +kernel
theorem dX4_leastGreatest_4 : decode cX4_leastGreatest 4 = .ok (.bipush 16, 2) := by decide +kernel
theorem dX4_leastGreatest_6 : decode cX4_leastGreatest 6 = .ok (.invokestatic 28, 3) := by decide +kernel
theorem dX4_leastGreatest_9 : decode cX4_leastGreatest 9 = .ok (.istore_n 3, 1) := by decide +kernel
theorem dX4_leastGreatest_10 : decode cX4_leastGreatest 10 = .ok (.iload_n 2, 1) := by decide +kernel
theorem dX4_leastGreatest_11 : decode cX4_leastGreatest 11 = .ok (.iload_n 3, 1) := by decide +kernel
theorem dX4_leastGreatest_12 : decode cX4_leastGreatest 12 = .ok (.if_icmp .lt 9, 3) := by decide +kernel
theorem dX4_leastGreatest_15 : decode cX4_leastGreatest 15 = .ok (.iconst 1, 1) := by decide +kernel
theorem dX4_leastGreatest_16 : decode cX4_leastGreatest 16 = .ok (.iload_n 3, 1) := by decide +kernel
theorem dX4_leastGreatest_17 : decode cX4_leastGreatest 17 = .ok (.ishl, 1) := by decide +kernel
theorem dX4_leastGreatest_18 : decode cX4_leastGreatest 18 = .ok (.iconst 1, 1) := by decide +kernel
theorem dX4_leastGreatest_19 : decode cX4_leastGreatest 19 = .ok (.isub, 1) := by decide +kernel
theorem dX4_leastGreatest_20 : decode cX4_leastGreatest 20 = .ok (.ireturn, 1) := by decide +kernel
theorem dX4_leastGreatest_21 : decode cX4_leastGreatest 21 = .ok (.ldc2_w 34, 3) := by decide +kernel
theorem dX4_leastGreatest_24 : decode cX4_leastGreatest 24 = .ok (.bipush 15, 2) := by decide +kernel
theorem dX4_leastGreatest_26 : decode cX4_leastGreatest 26 = .ok (.iload_n 2, 1) := by decide +kernel
theorem dX4_leastGreatest_27 : decode cX4_leastGreatest 27 = .ok (.isub, 1) := by decide +kernel
theorem dX4_leastGreatest_28 : decode cX4_leastGreatest 28 = .ok (.i2l, 1) := by decide +kernel
theorem dX4_leastGreatest_29 : decode cX4_leastGreatest 29 = .ok (.lmul, 1) := by decide +kernel
theorem dX4_leastGreatest_30 : decode cX4_leastGreatest 30 = .ok (.lstore 4, 2) := by decide +kernel
theorem dX4_leastGreatest_32 : decode cX4_leastGreatest 32 = .ok (.aload_n 0, 1) := by decide +kernel
theorem dX4_leastGreatest_33 : decode cX4_leastGreatest 33 = .ok (.getfield 18, 3) := by decide +kernel
theorem dX4_leastGreatest_36 : decode cX4_leastGreatest 36 = .ok (.iconst 0, 1) := by decide +kernel
theorem dX4_leastGreatest_37 : decode cX4_leastGreatest 37 = .ok (.iconst 0, 1) := by decide +kernel
theorem dX4_leastGreatest_38 : decode cX4_leastGreatest 38 = .ok (.iastore, 1) := by decide +kernel
theorem dX4_leastGreatest_39 : decode cX4_leastGreatest 39 = .ok (.iconst 0, 1) := by decide +kernel
theorem dX4_leastGreatest_40 : decode cX4_leastGreatest 40 = .ok (.istore 6, 2) := by decide +kernel
theorem dX4_leastGreatest_42 : decode cX4_leastGreatest 42 = .ok (.iload 6, 2) := by decide +kernel
theorem dX4_leastGreatest_44 : decode cX4_leastGreatest 44 = .ok (.iload_n 3, 1) := by decide +kernel
theorem dX4_leastGreatest_45 : decode cX4_leastGreatest 45 = .ok (.if_icmp .ge 122, 3) := by decide +kernel
theorem dX4_leastGreatest_48 : decode cX4_leastGreatest 48 = .ok (.aload_n 0, 1) := by decide +kernel
theorem dX4_leastGreatest_49 : decode cX4_leastGreatest 49 = .ok (.getfield 11, 3) := by decide +kernel
theorem dX4_leastGreatest_52 : decode cX4_leastGreatest 52 = .ok (.iload 6, 2) := by decide +kernel
theorem dX4_leastGreatest_54 : decode cX4_leastGreatest 54 = .ok (.aload_n 1, 1) := by decide +kernel
theorem dX4_leastGreatest_55 : decode cX4_leastGreatest 55 = .ok (.getfield 36, 3) := by decide +kernel
theorem dX4_leastGreatest_58 : decode cX4_leastGreatest 58 = .ok (.iload 6, 2) := by decide +kernel
theorem dX4_leastGreatest_60 : decode cX4_leastGreatest 60 = .ok (.iaload, 1) := by decide +kernel
theorem dX4_leastGreatest_61 : decode cX4_leastGreatest 61 = .ok (.invokestatic 39, 3) := by decide +kernel
theorem dX4_leastGreatest_64 : decode cX4_leastGreatest 64 = .ok (.lastore, 1) := by decide +kernel
theorem dX4_leastGreatest_65 : decode cX4_leastGreatest 65 = .ok (.aload_n 0, 1) := by decide +kernel
theorem dX4_leastGreatest_66 : decode cX4_leastGreatest 66 = .ok (.getfield 15, 3) := by decide +kernel
theorem dX4_leastGreatest_69 : decode cX4_leastGreatest 69 = .ok (.iload 6, 2) := by decide +kernel
theorem dX4_leastGreatest_71 : decode cX4_leastGreatest 71 = .ok (.aload_n 1, 1) := by decide +kernel
theorem dX4_leastGreatest_72 : decode cX4_leastGreatest 72 = .ok (.getfield 36, 3) := by decide +kernel
theorem dX4_leastGreatest_75 : decode cX4_leastGreatest 75 = .ok (.iload 6, 2) := by decide +kernel
theorem dX4_leastGreatest_77 : decode cX4_leastGreatest 77 = .ok (.iaload, 1) := by decide +kernel
theorem dX4_leastGreatest_78 : decode cX4_leastGreatest 78 = .ok (.bipush 12, 2) := by decide +kernel
theorem dX4_leastGreatest_80 : decode cX4_leastGreatest 80 = .ok (.iushr, 1) := by decide +kernel
theorem dX4_leastGreatest_81 : decode cX4_leastGreatest 81 = .ok (.invokestatic 39, 3) := by decide +kernel
theorem dX4_leastGreatest_84 : decode cX4_leastGreatest 84 = .ok (.lastore, 1) := by decide +kernel
theorem dX4_leastGreatest_85 : decode cX4_leastGreatest 85 = .ok (.aload_n 0, 1) := by decide +kernel
theorem dX4_leastGreatest_86 : decode cX4_leastGreatest 86 = .ok (.iload 6, 2) := by decide +kernel
theorem dX4_leastGreatest_88 : decode cX4_leastGreatest 88 = .ok (.lload 4, 2) := by decide +kernel
theorem dX4_leastGreatest_90 : decode cX4_leastGreatest 90 = .ok (.aload_n 0, 1) := by decide +kernel
theorem dX4_leastGreatest_91 : decode cX4_leastGreatest 91 = .ok (.getfield 11, 3) := by decide +kernel
theorem dX4_leastGreatest_94 : decode cX4_leastGreatest 94 = .ok (.iload 6, 2) := by decide +kernel
theorem dX4_leastGreatest_96 : decode cX4_leastGreatest 96 = .ok (.laload, 1) := by decide +kernel
theorem dX4_leastGreatest_97 : decode cX4_leastGreatest 97 = .ok (.ladd, 1) := by decide +kernel
theorem dX4_leastGreatest_98 : decode cX4_leastGreatest 98 = .ok (.lload 4, 2) := by decide +kernel
theorem dX4_leastGreatest_100 : decode cX4_leastGreatest 100 = .ok (.aload_n 0, 1) := by decide +kernel
theorem dX4_leastGreatest_101 : decode cX4_leastGreatest 101 = .ok (.getfield 15, 3) := by decide +kernel
theorem dX4_leastGreatest_104 : decode cX4_leastGreatest 104 = .ok (.iload 6, 2) := by decide +kernel
theorem dX4_leastGreatest_106 : decode cX4_leastGreatest 106 = .ok (.laload, 1) := by decide +kernel
theorem dX4_leastGreatest_107 : decode cX4_leastGreatest 107 = .ok (.ladd, 1) := by decide +kernel
theorem dX4_leastGreatest_108 : decode cX4_leastGreatest 108 = .ok (.aload_n 0, 1) := by decide +kernel
theorem dX4_leastGreatest_109 : decode cX4_leastGreatest 109 = .ok (.getfield 18, 3) := by decide +kernel
theorem dX4_leastGreatest_112 : decode cX4_leastGreatest 112 = .ok (.iload 6, 2) := by decide +kernel
theorem dX4_leastGreatest_114 : decode cX4_leastGreatest 114 = .ok (.iaload, 1) := by decide +kernel
theorem dX4_leastGreatest_115 : decode cX4_leastGreatest 115 = .ok (.invokevirtual 43, 3) := by decide +kernel
theorem dX4_leastGreatest_118 : decode cX4_leastGreatest 118 = .ok (.ifCond .lt 7, 3) := by decide +kernel
theorem dX4_leastGreatest_121 : decode cX4_leastGreatest 121 = .ok (.iconst 1, 1) := by decide +kernel
theorem dX4_leastGreatest_122 : decode cX4_leastGreatest 122 = .ok (.goto 4, 3) := by decide +kernel
theorem dX4_leastGreatest_125 : decode cX4_leastGreatest 125 = .ok (.iconst 0, 1) := by decide +kernel
theorem dX4_leastGreatest_126 : decode cX4_leastGreatest 126 = .ok (.istore 7, 2) := by decide +kernel
theorem dX4_leastGreatest_128 : decode cX4_leastGreatest 128 = .ok (.aload_n 0, 1) := by decide +kernel
theorem dX4_leastGreatest_129 : decode cX4_leastGreatest 129 = .ok (.getfield 18, 3) := by decide +kernel
theorem dX4_leastGreatest_132 : decode cX4_leastGreatest 132 = .ok (.iload 6, 2) := by decide +kernel
theorem dX4_leastGreatest_134 : decode cX4_leastGreatest 134 = .ok (.iconst 1, 1) := by decide +kernel
theorem dX4_leastGreatest_135 : decode cX4_leastGreatest 135 = .ok (.iadd, 1) := by decide +kernel
theorem dX4_leastGreatest_136 : decode cX4_leastGreatest 136 = .ok (.iload 7, 2) := by decide +kernel
theorem dX4_leastGreatest_138 : decode cX4_leastGreatest 138 = .ok (.ifCond .eq 15, 3) := by decide +kernel
theorem dX4_leastGreatest_141 : decode cX4_leastGreatest 141 = .ok (.aload_n 0, 1) := by decide +kernel
theorem dX4_leastGreatest_142 : decode cX4_leastGreatest 142 = .ok (.getfield 18, 3) := by decide +kernel
theorem dX4_leastGreatest_145 : decode cX4_leastGreatest 145 = .ok (.iload 6, 2) := by decide +kernel
theorem dX4_leastGreatest_147 : decode cX4_leastGreatest 147 = .ok (.iaload, 1) := by decide +kernel
theorem dX4_leastGreatest_148 : decode cX4_leastGreatest 148 = .ok (.iconst 1, 1) := by decide +kernel
theorem dX4_leastGreatest_149 : decode cX4_leastGreatest 149 = .ok (.iadd, 1) := by decide +kernel
theorem dX4_leastGreatest_150 : decode cX4_leastGreatest 150 = .ok (.goto 10, 3) := by decide +kernel
theorem dX4_leastGreatest_153 : decode cX4_leastGreatest 153 = .ok (.aload_n 0, 1) := by decide +kernel
theorem dX4_leastGreatest_154 : decode cX4_leastGreatest 154 = .ok (.getfield 18, 3) := by decide +kernel
theorem dX4_leastGreatest_157 : decode cX4_leastGreatest 157 = .ok (.iload 6, 2) := by decide +kernel
theorem dX4_leastGreatest_159 : decode cX4_leastGreatest 159 = .ok (.iaload, 1) := by decide +kernel
theorem dX4_leastGreatest_160 : decode cX4_leastGreatest 160 = .ok (.iastore, 1) := by decide +kernel
theorem dX4_leastGreatest_161 : decode cX4_leastGreatest 161 = .ok (.iinc 6 1, 3) := by decide +kernel
theorem dX4_leastGreatest_164 : decode cX4_leastGreatest 164 = .ok (.goto (-122), 3) := by decide +kernel
theorem dX4_leastGreatest_167 : decode cX4_leastGreatest 167 = .ok (.aload_n 0, 1) := by decide +kernel
theorem dX4_leastGreatest_168 : decode cX4_leastGreatest 168 = .ok (.iload_n 3, 1) := by decide +kernel
theorem dX4_leastGreatest_169 : decode cX4_leastGreatest 169 = .ok (.lload 4, 2) := by decide +kernel
theorem dX4_leastGreatest_171 : decode cX4_leastGreatest 171 = .ok (.lload 4, 2) := by decide +kernel
theorem dX4_leastGreatest_173 : decode cX4_leastGreatest 173 = .ok (.aload_n 0, 1) := by decide +kernel
theorem dX4_leastGreatest_174 : decode cX4_leastGreatest 174 = .ok (.getfield 18, 3) := by decide +kernel
theorem dX4_leastGreatest_177 : decode cX4_leastGreatest 177 = .ok (.iload_n 3, 1) := by decide +kernel
theorem dX4_leastGreatest_178 : decode cX4_leastGreatest 178 = .ok (.iaload, 1) := by decide +kernel
theorem dX4_leastGreatest_179 : decode cX4_leastGreatest 179 = .ok (.invokevirtual 43, 3) := by decide +kernel
theorem dX4_leastGreatest_182 : decode cX4_leastGreatest 182 = .ok (.ireturn, 1) := by decide +kernel
theorem dX4_spread_0 : decode cX4_spread 0 = .ok (.lconst 0, 1) := by decide +kernel
theorem dX4_spread_1 : decode cX4_spread 1 = .ok (.lstore_n 1, 1) := by decide +kernel
theorem dX4_spread_2 : decode cX4_spread 2 = .ok (.iconst 0, 1) := by decide +kernel
theorem dX4_spread_3 : decode cX4_spread 3 = .ok (.istore_n 3, 1) := by decide +kernel
theorem dX4_spread_4 : decode cX4_spread 4 = .ok (.iload_n 3, 1) := by decide +kernel
theorem dX4_spread_5 : decode cX4_spread 5 = .ok (.bipush 12, 2) := by decide +kernel
theorem dX4_spread_7 : decode cX4_spread 7 = .ok (.if_icmp .ge 22, 3) := by decide +kernel
theorem dX4_spread_10 : decode cX4_spread 10 = .ok (.lload_n 1, 1) := by decide +kernel
theorem dX4_spread_11 : decode cX4_spread 11 = .ok (.iload_n 0, 1) := by decide +kernel
theorem dX4_spread_12 : decode cX4_spread 12 = .ok (.iload_n 3, 1) := by decide +kernel
theorem dX4_spread_13 : decode cX4_spread 13 = .ok (.iushr, 1) := by decide +kernel
theorem dX4_spread_14 : decode cX4_spread 14 = .ok (.iconst 1, 1) := by decide +kernel
theorem dX4_spread_15 : decode cX4_spread 15 = .ok (.iand, 1) := by decide +kernel
theorem dX4_spread_16 : decode cX4_spread 16 = .ok (.i2l, 1) := by decide +kernel
theorem dX4_spread_17 : decode cX4_spread 17 = .ok (.iload_n 3, 1) := by decide +kernel
theorem dX4_spread_18 : decode cX4_spread 18 = .ok (.iconst 5, 1) := by decide +kernel
theorem dX4_spread_19 : decode cX4_spread 19 = .ok (.imul, 1) := by decide +kernel
theorem dX4_spread_20 : decode cX4_spread 20 = .ok (.lshl, 1) := by decide +kernel
theorem dX4_spread_21 : decode cX4_spread 21 = .ok (.lor, 1) := by decide +kernel
theorem dX4_spread_22 : decode cX4_spread 22 = .ok (.lstore_n 1, 1) := by decide +kernel
theorem dX4_spread_23 : decode cX4_spread 23 = .ok (.iinc 3 1, 3) := by decide +kernel
theorem dX4_spread_26 : decode cX4_spread 26 = .ok (.goto (-22), 3) := by decide +kernel
theorem dX4_spread_29 : decode cX4_spread 29 = .ok (.lload_n 1, 1) := by decide +kernel
theorem dX4_spread_30 : decode cX4_spread 30 = .ok (.lreturn, 1) := by decide +kernel
theorem dX4_search_0 : decode cX4_search 0 = .ok (.iload 6, 2) := by decide +kernel
theorem dX4_search_2 : decode cX4_search 2 = .ok (.ifCond .gt 5, 3) := by decide +kernel
theorem dX4_search_5 : decode cX4_search 5 = .ok (.iconst 0, 1) := by decide +kernel
theorem dX4_search_6 : decode cX4_search 6 = .ok (.ireturn, 1) := by decide +kernel
theorem dX4_search_7 : decode cX4_search 7 = .ok (.iload_n 1, 1) := by decide +kernel
theorem dX4_search_8 : decode cX4_search 8 = .ok (.ifCond .le 20, 3) := by decide +kernel
theorem dX4_search_11 : decode cX4_search 11 = .ok (.iload_n 1, 1) := by decide +kernel
theorem dX4_search_12 : decode cX4_search 12 = .ok (.bipush 16, 2) := by decide +kernel
theorem dX4_search_14 : decode cX4_search 14 = .ok (.if_icmp .gt 14, 3) := by decide +kernel
theorem dX4_search_17 : decode cX4_search 17 = .ok (.aload_n 0, 1) := by decide +kernel
theorem dX4_search_18 : decode cX4_search 18 = .ok (.getfield 18, 3) := by decide +kernel
theorem dX4_search_21 : decode cX4_search 21 = .ok (.iload_n 1, 1) := by decide +kernel
theorem dX4_search_22 : decode cX4_search 22 = .ok (.iaload, 1) := by decide +kernel
theorem dX4_search_23 : decode cX4_search 23 = .ok (.iload 6, 2) := by decide +kernel
theorem dX4_search_25 : decode cX4_search 25 = .ok (.if_icmp .ge 5, 3) := by decide +kernel
theorem dX4_search_28 : decode cX4_search 28 = .ok (.iconst (-1), 1) := by decide +kernel
theorem dX4_search_29 : decode cX4_search 29 = .ok (.ireturn, 1) := by decide +kernel
theorem dX4_search_30 : decode cX4_search 30 = .ok (.iload_n 1, 1) := by decide +kernel
theorem dX4_search_31 : decode cX4_search 31 = .ok (.iconst 1, 1) := by decide +kernel
theorem dX4_search_32 : decode cX4_search 32 = .ok (.isub, 1) := by decide +kernel
theorem dX4_search_33 : decode cX4_search 33 = .ok (.istore 7, 2) := by decide +kernel
theorem dX4_search_35 : decode cX4_search 35 = .ok (.aload_n 0, 1) := by decide +kernel
theorem dX4_search_36 : decode cX4_search 36 = .ok (.iload 7, 2) := by decide +kernel
theorem dX4_search_38 : decode cX4_search 38 = .ok (.lload_n 2, 1) := by decide +kernel
theorem dX4_search_39 : decode cX4_search 39 = .ok (.lload 4, 2) := by decide +kernel
theorem dX4_search_41 : decode cX4_search 41 = .ok (.iload 6, 2) := by decide +kernel
theorem dX4_search_43 : decode cX4_search 43 = .ok (.invokevirtual 43, 3) := by decide +kernel
theorem dX4_search_46 : decode cX4_search 46 = .ok (.istore 8, 2) := by decide +kernel
theorem dX4_search_48 : decode cX4_search 48 = .ok (.iload 8, 2) := by decide +kernel
theorem dX4_search_50 : decode cX4_search 50 = .ok (.iconst (-1), 1) := by decide +kernel
theorem dX4_search_51 : decode cX4_search 51 = .ok (.if_icmp .eq 6, 3) := by decide +kernel
theorem dX4_search_54 : decode cX4_search 54 = .ok (.iload 8, 2) := by decide +kernel
theorem dX4_search_56 : decode cX4_search 56 = .ok (.ireturn, 1) := by decide +kernel
theorem dX4_search_57 : decode cX4_search 57 = .ok (.lload_n 2, 1) := by decide +kernel
theorem dX4_search_58 : decode cX4_search 58 = .ok (.aload_n 0, 1) := by decide +kernel
theorem dX4_search_59 : decode cX4_search 59 = .ok (.getfield 11, 3) := by decide +kernel
theorem dX4_search_62 : decode cX4_search 62 = .ok (.iload 7, 2) := by decide +kernel
theorem dX4_search_64 : decode cX4_search 64 = .ok (.laload, 1) := by decide +kernel
theorem dX4_search_65 : decode cX4_search 65 = .ok (.ladd, 1) := by decide +kernel
theorem dX4_search_66 : decode cX4_search 66 = .ok (.lstore 9, 2) := by decide +kernel
theorem dX4_search_68 : decode cX4_search 68 = .ok (.lload 4, 2) := by decide +kernel
theorem dX4_search_70 : decode cX4_search 70 = .ok (.aload_n 0, 1) := by decide +kernel
theorem dX4_search_71 : decode cX4_search 71 = .ok (.getfield 15, 3) := by decide +kernel
theorem dX4_search_74 : decode cX4_search 74 = .ok (.iload 7, 2) := by decide +kernel
theorem dX4_search_76 : decode cX4_search 76 = .ok (.laload, 1) := by decide +kernel
theorem dX4_search_77 : decode cX4_search 77 = .ok (.ladd, 1) := by decide +kernel
theorem dX4_search_78 : decode cX4_search 78 = .ok (.lstore 11, 2) := by decide +kernel
theorem dX4_search_80 : decode cX4_search 80 = .ok (.lload 9, 2) := by decide +kernel
theorem dX4_search_82 : decode cX4_search 82 = .ok (.lload 11, 2) := by decide +kernel
theorem dX4_search_84 : decode cX4_search 84 = .ok (.lor, 1) := by decide +kernel
theorem dX4_search_85 : decode cX4_search 85 = .ok (.ldc2_w 47, 3) := by decide +kernel
theorem dX4_search_88 : decode cX4_search 88 = .ok (.land, 1) := by decide +kernel
theorem dX4_search_89 : decode cX4_search 89 = .ok (.lconst 0, 1) := by decide +kernel
theorem dX4_search_90 : decode cX4_search 90 = .ok (.lcmp, 1) := by decide +kernel
theorem dX4_search_91 : decode cX4_search 91 = .ok (.ifCond .eq 5, 3) := by decide +kernel
theorem dX4_search_94 : decode cX4_search 94 = .ok (.iconst (-1), 1) := by decide +kernel
theorem dX4_search_95 : decode cX4_search 95 = .ok (.ireturn, 1) := by decide +kernel
theorem dX4_search_96 : decode cX4_search 96 = .ok (.aload_n 0, 1) := by decide +kernel
theorem dX4_search_97 : decode cX4_search 97 = .ok (.iload 7, 2) := by decide +kernel
theorem dX4_search_99 : decode cX4_search 99 = .ok (.lload 9, 2) := by decide +kernel
theorem dX4_search_101 : decode cX4_search 101 = .ok (.lload 11, 2) := by decide +kernel
theorem dX4_search_103 : decode cX4_search 103 = .ok (.iload 6, 2) := by decide +kernel
theorem dX4_search_105 : decode cX4_search 105 = .ok (.iconst 1, 1) := by decide +kernel
theorem dX4_search_106 : decode cX4_search 106 = .ok (.isub, 1) := by decide +kernel
theorem dX4_search_107 : decode cX4_search 107 = .ok (.invokevirtual 43, 3) := by decide +kernel
theorem dX4_search_110 : decode cX4_search 110 = .ok (.istore 13, 2) := by decide +kernel
theorem dX4_search_112 : decode cX4_search 112 = .ok (.iload 13, 2) := by decide +kernel
theorem dX4_search_114 : decode cX4_search 114 = .ok (.iconst (-1), 1) := by decide +kernel
theorem dX4_search_115 : decode cX4_search 115 = .ok (.if_icmp .ne 7, 3) := by decide +kernel
theorem dX4_search_118 : decode cX4_search 118 = .ok (.iconst (-1), 1) := by decide +kernel
theorem dX4_search_119 : decode cX4_search 119 = .ok (.goto 10, 3) := by decide +kernel
theorem dX4_search_122 : decode cX4_search 122 = .ok (.iload 13, 2) := by decide +kernel
theorem dX4_search_124 : decode cX4_search 124 = .ok (.iconst 1, 1) := by decide +kernel
theorem dX4_search_125 : decode cX4_search 125 = .ok (.iload 7, 2) := by decide +kernel
theorem dX4_search_127 : decode cX4_search 127 = .ok (.ishl, 1) := by decide +kernel
theorem dX4_search_128 : decode cX4_search 128 = .ok (.ior, 1) := by decide +kernel
theorem dX4_search_129 : decode cX4_search 129 = .ok (.ireturn, 1) := by decide +kernel
theorem dX5_init_0 : decode cX5_init 0 = .ok (.aload_n 0, 1) := by decide +kernel
theorem dX5_init_1 : decode cX5_init 1 = .ok (.invokespecial 1, 3) := by decide +kernel
theorem dX5_init_4 : decode cX5_init 4 = .ok (.aload_n 0, 1) := by decide +kernel
theorem dX5_init_5 : decode cX5_init 5 = .ok (.iconst 4, 1) := by decide +kernel
theorem dX5_init_6 : decode cX5_init 6 = .ok (.newarray .long, 2) := by decide +kernel
theorem dX5_init_8 : decode cX5_init 8 = .ok (.putfield 9, 3) := by decide +kernel
theorem dX5_init_11 : decode cX5_init 11 = .ok (.aload_n 0, 1) := by decide +kernel
theorem dX5_init_12 : decode cX5_init 12 = .ok (.iconst 4, 1) := by decide +kernel
theorem dX5_init_13 : decode cX5_init 13 = .ok (.newarray .long, 2) := by decide +kernel
theorem dX5_init_15 : decode cX5_init 15 = .ok (.putfield 13, 3) := by decide +kernel
theorem dX5_init_18 : decode cX5_init 18 = .ok (.aload_n 0, 1) := by decide +kernel
theorem dX5_init_19 : decode cX5_init 19 = .ok (.iconst 0, 1) := by decide +kernel
theorem dX5_init_20 : decode cX5_init 20 = .ok (.putfield 16, 3) := by decide +kernel
theorem dX5_init_23 : decode cX5_init 23 = .ok (.aload_n 0, 1) := by decide +kernel
theorem dX5_init_24 : decode cX5_init 24 = .ok (.iconst 0, 1) := by decide +kernel
theorem dX5_init_25 : decode cX5_init 25 = .ok (.putfield 20, 3) := by decide +kernel
theorem dX5_init_28 : decode cX5_init 28 = .ok (.return_, 1) := by decide +kernel
theorem dX5_offer_0 : decode cX5_offer 0 = .ok (.aload_n 0, 1) := by decide +kernel
theorem dX5_offer_1 : decode cX5_offer 1 = .ok (.getfield 16, 3) := by decide +kernel
theorem dX5_offer_4 : decode cX5_offer 4 = .ok (.ifCond .eq 20, 3) := by decide +kernel
theorem dX5_offer_7 : decode cX5_offer 7 = .ok (.aload_n 0, 1) := by decide +kernel
theorem dX5_offer_8 : decode cX5_offer 8 = .ok (.iload_n 1, 1) := by decide +kernel
theorem dX5_offer_9 : decode cX5_offer 9 = .ok (.iload_n 2, 1) := by decide +kernel
theorem dX5_offer_10 : decode cX5_offer 10 = .ok (.aload_n 0, 1) := by decide +kernel
theorem dX5_offer_11 : decode cX5_offer 11 = .ok (.getfield 20, 3) := by decide +kernel
theorem dX5_offer_14 : decode cX5_offer 14 = .ok (.aload_n 0, 1) := by decide +kernel
theorem dX5_offer_15 : decode cX5_offer 15 = .ok (.getfield 16, 3) := by decide +kernel
theorem dX5_offer_18 : decode cX5_offer 18 = .ok (.invokevirtual 23, 3) := by decide +kernel
theorem dX5_offer_21 : decode cX5_offer 21 = .ok (.ifCond .le 13, 3) := by decide +kernel
theorem dX5_offer_24 : decode cX5_offer 24 = .ok (.aload_n 0, 1) := by decide +kernel
theorem dX5_offer_25 : decode cX5_offer 25 = .ok (.iload_n 1, 1) := by decide +kernel
theorem dX5_offer_26 : decode cX5_offer 26 = .ok (.putfield 20, 3) := by decide +kernel
theorem dX5_offer_29 : decode cX5_offer 29 = .ok (.aload_n 0, 1) := by decide +kernel
theorem dX5_offer_30 : decode cX5_offer 30 = .ok (.iload_n 2, 1) := by decide +kernel
theorem dX5_offer_31 : decode cX5_offer 31 = .ok (.putfield 16, 3) := by decide +kernel
theorem dX5_offer_34 : decode cX5_offer 34 = .ok (.return_, 1) := by decide +kernel
theorem dX5_hold_0 : decode cX5_hold 0 = .ok (.aload_n 0, 1) := by decide +kernel
theorem dX5_hold_1 : decode cX5_hold 1 = .ok (.getfield 9, 3) := by decide +kernel
theorem dX5_hold_4 : decode cX5_hold 4 = .ok (.iload_n 1, 1) := by decide +kernel
theorem dX5_hold_5 : decode cX5_hold 5 = .ok (.iload 4, 2) := by decide +kernel
theorem dX5_hold_7 : decode cX5_hold 7 = .ok (.invokestatic 27, 3) := by decide +kernel
theorem dX5_hold_10 : decode cX5_hold 10 = .ok (.aload_n 0, 1) := by decide +kernel
theorem dX5_hold_11 : decode cX5_hold 11 = .ok (.getfield 13, 3) := by decide +kernel
theorem dX5_hold_14 : decode cX5_hold 14 = .ok (.iload_n 3, 1) := by decide +kernel
theorem dX5_hold_15 : decode cX5_hold 15 = .ok (.iload_n 2, 1) := by decide +kernel
theorem dX5_hold_16 : decode cX5_hold 16 = .ok (.invokestatic 27, 3) := by decide +kernel
theorem dX5_hold_19 : decode cX5_hold 19 = .ok (.iconst 3, 1) := by decide +kernel
theorem dX5_hold_20 : decode cX5_hold 20 = .ok (.istore 5, 2) := by decide +kernel
theorem dX5_hold_22 : decode cX5_hold 22 = .ok (.iload 5, 2) := by decide +kernel
theorem dX5_hold_24 : decode cX5_hold 24 = .ok (.ifCond .lt 51, 3) := by decide +kernel
theorem dX5_hold_27 : decode cX5_hold 27 = .ok (.aload_n 0, 1) := by decide +kernel
theorem dX5_hold_28 : decode cX5_hold 28 = .ok (.getfield 9, 3) := by decide +kernel
theorem dX5_hold_31 : decode cX5_hold 31 = .ok (.iload 5, 2) := by decide +kernel
theorem dX5_hold_33 : decode cX5_hold 33 = .ok (.laload, 1) := by decide +kernel
theorem dX5_hold_34 : decode cX5_hold 34 = .ok (.aload_n 0, 1) := by decide +kernel
theorem dX5_hold_35 : decode cX5_hold 35 = .ok (.getfield 13, 3) := by decide +kernel
theorem dX5_hold_38 : decode cX5_hold 38 = .ok (.iload 5, 2) := by decide +kernel
theorem dX5_hold_40 : decode cX5_hold 40 = .ok (.laload, 1) := by decide +kernel
theorem dX5_hold_41 : decode cX5_hold 41 = .ok (.lcmp, 1) := by decide +kernel
theorem dX5_hold_42 : decode cX5_hold 42 = .ok (.ifCond .eq 27, 3) := by decide +kernel
theorem dX5_hold_45 : decode cX5_hold 45 = .ok (.aload_n 0, 1) := by decide +kernel
theorem dX5_hold_46 : decode cX5_hold 46 = .ok (.getfield 9, 3) := by decide +kernel
theorem dX5_hold_49 : decode cX5_hold 49 = .ok (.iload 5, 2) := by decide +kernel
theorem dX5_hold_51 : decode cX5_hold 51 = .ok (.laload, 1) := by decide +kernel
theorem dX5_hold_52 : decode cX5_hold 52 = .ok (.aload_n 0, 1) := by decide +kernel
theorem dX5_hold_53 : decode cX5_hold 53 = .ok (.getfield 13, 3) := by decide +kernel
theorem dX5_hold_56 : decode cX5_hold 56 = .ok (.iload 5, 2) := by decide +kernel
theorem dX5_hold_58 : decode cX5_hold 58 = .ok (.laload, 1) := by decide +kernel
theorem dX5_hold_59 : decode cX5_hold 59 = .ok (.lcmp, 1) := by decide +kernel
theorem dX5_hold_60 : decode cX5_hold 60 = .ok (.ifCond .ge 7, 3) := by decide +kernel
theorem dX5_hold_63 : decode cX5_hold 63 = .ok (.iconst (-1), 1) := by decide +kernel
theorem dX5_hold_64 : decode cX5_hold 64 = .ok (.goto 4, 3) := by decide +kernel
theorem dX5_hold_67 : decode cX5_hold 67 = .ok (.iconst 1, 1) := by decide +kernel
theorem dX5_hold_68 : decode cX5_hold 68 = .ok (.ireturn, 1) := by decide +kernel
theorem dX5_hold_69 : decode cX5_hold 69 = .ok (.iinc 5 (-1), 3) := by decide +kernel
theorem dX5_hold_72 : decode cX5_hold 72 = .ok (.goto (-50), 3) := by decide +kernel
theorem dX5_hold_75 : decode cX5_hold 75 = .ok (.iconst 0, 1) := by decide +kernel
theorem dX5_hold_76 : decode cX5_hold 76 = .ok (.ireturn, 1) := by decide +kernel
theorem dX5_raise_0 : decode cX5_raise 0 = .ok (.iconst 0, 1) := by decide +kernel
theorem dX5_raise_1 : decode cX5_raise 1 = .ok (.istore_n 3, 1) := by decide +kernel
theorem dX5_raise_2 : decode cX5_raise 2 = .ok (.iload_n 3, 1) := by decide +kernel
theorem dX5_raise_3 : decode cX5_raise 3 = .ok (.iconst 4, 1) := by decide +kernel
theorem dX5_raise_4 : decode cX5_raise 4 = .ok (.if_icmp .ge 21, 3) := by decide +kernel
theorem dX5_raise_7 : decode cX5_raise 7 = .ok (.aload_n 0, 1) := by decide +kernel
theorem dX5_raise_8 : decode cX5_raise 8 = .ok (.iload_n 3, 1) := by decide +kernel
theorem dX5_raise_9 : decode cX5_raise 9 = .ok (.iload_n 3, 1) := by decide +kernel
theorem dX5_raise_10 : decode cX5_raise 10 = .ok (.ifCond .ne 7, 3) := by decide +kernel
theorem dX5_raise_13 : decode cX5_raise 13 = .ok (.lconst 1, 1) := by decide +kernel
theorem dX5_raise_14 : decode cX5_raise 14 = .ok (.goto 4, 3) := by decide +kernel
theorem dX5_raise_17 : decode cX5_raise 17 = .ok (.lconst 0, 1) := by decide +kernel
theorem dX5_raise_18 : decode cX5_raise 18 = .ok (.lastore, 1) := by decide +kernel
theorem dX5_raise_19 : decode cX5_raise 19 = .ok (.iinc 3 1, 3) := by decide +kernel
theorem dX5_raise_22 : decode cX5_raise 22 = .ok (.goto (-20), 3) := by decide +kernel
theorem dX5_raise_25 : decode cX5_raise 25 = .ok (.iconst 0, 1) := by decide +kernel
theorem dX5_raise_26 : decode cX5_raise 26 = .ok (.istore_n 3, 1) := by decide +kernel
theorem dX5_raise_27 : decode cX5_raise 27 = .ok (.iload_n 3, 1) := by decide +kernel
theorem dX5_raise_28 : decode cX5_raise 28 = .ok (.iload_n 2, 1) := by decide +kernel
theorem dX5_raise_29 : decode cX5_raise 29 = .ok (.if_icmp .ge 57, 3) := by decide +kernel
theorem dX5_raise_32 : decode cX5_raise 32 = .ok (.lconst 0, 1) := by decide +kernel
theorem dX5_raise_33 : decode cX5_raise 33 = .ok (.lstore 4, 2) := by decide +kernel
theorem dX5_raise_35 : decode cX5_raise 35 = .ok (.iconst 0, 1) := by decide +kernel
theorem dX5_raise_36 : decode cX5_raise 36 = .ok (.istore 6, 2) := by decide +kernel
theorem dX5_raise_38 : decode cX5_raise 38 = .ok (.iload 6, 2) := by decide +kernel
theorem dX5_raise_40 : decode cX5_raise 40 = .ok (.iconst 4, 1) := by decide +kernel
theorem dX5_raise_41 : decode cX5_raise 41 = .ok (.if_icmp .ge 39, 3) := by decide +kernel
theorem dX5_raise_44 : decode cX5_raise 44 = .ok (.aload_n 0, 1) := by decide +kernel
theorem dX5_raise_45 : decode cX5_raise 45 = .ok (.iload 6, 2) := by decide +kernel
theorem dX5_raise_47 : decode cX5_raise 47 = .ok (.laload, 1) := by decide +kernel
theorem dX5_raise_48 : decode cX5_raise 48 = .ok (.iload_n 1, 1) := by decide +kernel
theorem dX5_raise_49 : decode cX5_raise 49 = .ok (.i2l, 1) := by decide +kernel
theorem dX5_raise_50 : decode cX5_raise 50 = .ok (.lmul, 1) := by decide +kernel
theorem dX5_raise_51 : decode cX5_raise 51 = .ok (.lload 4, 2) := by decide +kernel
theorem dX5_raise_53 : decode cX5_raise 53 = .ok (.ladd, 1) := by decide +kernel
theorem dX5_raise_54 : decode cX5_raise 54 = .ok (.lstore 7, 2) := by decide +kernel
theorem dX5_raise_56 : decode cX5_raise 56 = .ok (.aload_n 0, 1) := by decide +kernel
theorem dX5_raise_57 : decode cX5_raise 57 = .ok (.iload 6, 2) := by decide +kernel
theorem dX5_raise_59 : decode cX5_raise 59 = .ok (.lload 7, 2) := by decide +kernel
theorem dX5_raise_61 : decode cX5_raise 61 = .ok (.ldc2_w 31, 3) := by decide +kernel
theorem dX5_raise_64 : decode cX5_raise 64 = .ok (.lrem, 1) := by decide +kernel
theorem dX5_raise_65 : decode cX5_raise 65 = .ok (.lastore, 1) := by decide +kernel
theorem dX5_raise_66 : decode cX5_raise 66 = .ok (.lload 7, 2) := by decide +kernel
theorem dX5_raise_68 : decode cX5_raise 68 = .ok (.ldc2_w 31, 3) := by decide +kernel
theorem dX5_raise_71 : decode cX5_raise 71 = .ok (.ldiv, 1) := by decide +kernel
theorem dX5_raise_72 : decode cX5_raise 72 = .ok (.lstore 4, 2) := by decide +kernel
theorem dX5_raise_74 : decode cX5_raise 74 = .ok (.iinc 6 1, 3) := by decide +kernel
theorem dX5_raise_77 : decode cX5_raise 77 = .ok (.goto (-39), 3) := by decide +kernel
theorem dX5_raise_80 : decode cX5_raise 80 = .ok (.iinc 3 1, 3) := by decide +kernel
theorem dX5_raise_83 : decode cX5_raise 83 = .ok (.goto (-56), 3) := by decide +kernel
theorem dX5_raise_86 : decode cX5_raise 86 = .ok (.return_, 1) := by decide +kernel
theorem dX5_isPower_0 : decode cX5_isPower 0 = .ok (.lconst 1, 1) := by decide +kernel
theorem dX5_isPower_1 : decode cX5_isPower 1 = .ok (.lstore 4, 2) := by decide +kernel
theorem dX5_isPower_3 : decode cX5_isPower 3 = .ok (.iconst 0, 1) := by decide +kernel
theorem dX5_isPower_4 : decode cX5_isPower 4 = .ok (.istore 6, 2) := by decide +kernel
theorem dX5_isPower_6 : decode cX5_isPower 6 = .ok (.iload 6, 2) := by decide +kernel
theorem dX5_isPower_8 : decode cX5_isPower 8 = .ok (.iload_n 3, 1) := by decide +kernel
theorem dX5_isPower_9 : decode cX5_isPower 9 = .ok (.if_icmp .ge 24, 3) := by decide +kernel
theorem dX5_isPower_12 : decode cX5_isPower 12 = .ok (.lload 4, 2) := by decide +kernel
theorem dX5_isPower_14 : decode cX5_isPower 14 = .ok (.iload_n 1, 1) := by decide +kernel
theorem dX5_isPower_15 : decode cX5_isPower 15 = .ok (.i2l, 1) := by decide +kernel
theorem dX5_isPower_16 : decode cX5_isPower 16 = .ok (.lcmp, 1) := by decide +kernel
theorem dX5_isPower_17 : decode cX5_isPower 17 = .ok (.ifCond .gt 16, 3) := by decide +kernel
theorem dX5_isPower_20 : decode cX5_isPower 20 = .ok (.lload 4, 2) := by decide +kernel
theorem dX5_isPower_22 : decode cX5_isPower 22 = .ok (.iload_n 2, 1) := by decide +kernel
theorem dX5_isPower_23 : decode cX5_isPower 23 = .ok (.i2l, 1) := by decide +kernel
theorem dX5_isPower_24 : decode cX5_isPower 24 = .ok (.lmul, 1) := by decide +kernel
theorem dX5_isPower_25 : decode cX5_isPower 25 = .ok (.lstore 4, 2) := by decide +kernel
theorem dX5_isPower_27 : decode cX5_isPower 27 = .ok (.iinc 6 1, 3) := by decide +kernel
theorem dX5_isPower_30 : decode cX5_isPower 30 = .ok (.goto (-24), 3) := by decide +kernel
theorem dX5_isPower_33 : decode cX5_isPower 33 = .ok (.lload 4, 2) := by decide +kernel
theorem dX5_isPower_35 : decode cX5_isPower 35 = .ok (.iload_n 1, 1) := by decide +kernel
theorem dX5_isPower_36 : decode cX5_isPower 36 = .ok (.i2l, 1) := by decide +kernel
theorem dX5_isPower_37 : decode cX5_isPower 37 = .ok (.lcmp, 1) := by decide +kernel
theorem dX5_isPower_38 : decode cX5_isPower 38 = .ok (.ifCond .ne 7, 3) := by decide +kernel
theorem dX5_isPower_41 : decode cX5_isPower 41 = .ok (.iconst 1, 1) := by decide +kernel
theorem dX5_isPower_42 : decode cX5_isPower 42 = .ok (.goto 4, 3) := by decide +kernel
theorem dX5_isPower_45 : decode cX5_isPower 45 = .ok (.iconst 0, 1) := by decide +kernel
theorem dX5_isPower_46 : decode cX5_isPower 46 = .ok (.ireturn, 1) := by decide +kernel
theorem dX6_init_0 : decode cX6_init 0 = .ok (.aload_n 0, 1) := by decide +kernel
theorem dX6_init_1 : decode cX6_init 1 = .ok (.invokespecial 3, 3) := by decide +kernel
theorem dX6_init_4 : decode cX6_init 4 = .ok (.aload_n 0, 1) := by decide +kernel
theorem dX6_init_5 : decode cX6_init 5 = .ok (.iconst 0, 1) := by decide +kernel
theorem dX6_init_6 : decode cX6_init 6 = .ok (.putfield 9, 3) := by decide +kernel
theorem dX6_init_9 : decode cX6_init 9 = .ok (.aload_n 0, 1) := by decide +kernel
theorem dX6_init_10 : decode cX6_init 10 = .ok (.iconst 1, 1) := by decide +kernel
theorem dX6_init_11 : decode cX6_init 11 = .ok (.putfield 15, 3) := by decide +kernel
theorem dX6_init_14 : decode cX6_init 14 = .ok (.aload_n 0, 1) := by decide +kernel
theorem dX6_init_15 : decode cX6_init 15 = .ok (.iconst 0, 1) := by decide +kernel
theorem dX6_init_16 : decode cX6_init 16 = .ok (.putfield 18, 3) := by decide +kernel
theorem dX6_init_19 : decode cX6_init 19 = .ok (.return_, 1) := by decide +kernel
theorem dX6_firstFlaw_0 : decode cX6_firstFlaw 0 = .ok (.iconst 0, 1) := by decide +kernel
theorem dX6_firstFlaw_1 : decode cX6_firstFlaw 1 = .ok (.istore_n 2, 1) := by decide +kernel
theorem dX6_firstFlaw_2 : decode cX6_firstFlaw 2 = .ok (.iload_n 2, 1) := by decide +kernel
theorem dX6_firstFlaw_3 : decode cX6_firstFlaw 3 = .ok (.aload_n 1, 1) := by decide +kernel
theorem dX6_firstFlaw_4 : decode cX6_firstFlaw 4 = .ok (.getfield 21, 3) := by decide +kernel
theorem dX6_firstFlaw_7 : decode cX6_firstFlaw 7 = .ok (.if_icmp .ge 61, 3) := by decide +kernel
theorem dX6_firstFlaw_10 : decode cX6_firstFlaw 10 = .ok (.iload_n 2, 1) := by decide +kernel
theorem dX6_firstFlaw_11 : decode cX6_firstFlaw 11 = .ok (.iconst 1, 1) := by decide +kernel
theorem dX6_firstFlaw_12 : decode cX6_firstFlaw 12 = .ok (.iadd, 1) := by decide +kernel
theorem dX6_firstFlaw_13 : decode cX6_firstFlaw 13 = .ok (.istore_n 3, 1) := by decide +kernel
theorem dX6_firstFlaw_14 : decode cX6_firstFlaw 14 = .ok (.iload_n 3, 1) := by decide +kernel
theorem dX6_firstFlaw_15 : decode cX6_firstFlaw 15 = .ok (.aload_n 1, 1) := by decide +kernel
theorem dX6_firstFlaw_16 : decode cX6_firstFlaw 16 = .ok (.getfield 21, 3) := by decide +kernel
theorem dX6_firstFlaw_19 : decode cX6_firstFlaw 19 = .ok (.if_icmp .ge 43, 3) := by decide +kernel
theorem dX6_firstFlaw_22 : decode cX6_firstFlaw 22 = .ok (.aload_n 1, 1) := by decide +kernel
theorem dX6_firstFlaw_23 : decode cX6_firstFlaw 23 = .ok (.iload_n 2, 1) := by decide +kernel
theorem dX6_firstFlaw_24 : decode cX6_firstFlaw 24 = .ok (.iload_n 3, 1) := by decide +kernel
theorem dX6_firstFlaw_25 : decode cX6_firstFlaw 25 = .ok (.invokevirtual 26, 3) := by decide +kernel
theorem dX6_firstFlaw_28 : decode cX6_firstFlaw 28 = .ok (.ifCond .ne 28, 3) := by decide +kernel
theorem dX6_firstFlaw_31 : decode cX6_firstFlaw 31 = .ok (.aload_n 1, 1) := by decide +kernel
theorem dX6_firstFlaw_32 : decode cX6_firstFlaw 32 = .ok (.getfield 30, 3) := by decide +kernel
theorem dX6_firstFlaw_35 : decode cX6_firstFlaw 35 = .ok (.iload_n 2, 1) := by decide +kernel
theorem dX6_firstFlaw_36 : decode cX6_firstFlaw 36 = .ok (.aaload, 1) := by decide +kernel
theorem dX6_firstFlaw_37 : decode cX6_firstFlaw 37 = .ok (.aload_n 1, 1) := by decide +kernel
theorem dX6_firstFlaw_38 : decode cX6_firstFlaw 38 = .ok (.getfield 30, 3) := by decide +kernel
theorem dX6_firstFlaw_41 : decode cX6_firstFlaw 41 = .ok (.iload_n 3, 1) := by decide +kernel
theorem dX6_firstFlaw_42 : decode cX6_firstFlaw 42 = .ok (.aaload, 1) := by decide +kernel
theorem dX6_firstFlaw_43 : decode cX6_firstFlaw 43 = .ok (.invokestatic 34, 3) := by decide +kernel
theorem dX6_firstFlaw_46 : decode cX6_firstFlaw 46 = .ok (.ifCond .eq 10, 3) := by decide +kernel
theorem dX6_firstFlaw_49 : decode cX6_firstFlaw 49 = .ok (.bipush 100, 2) := by decide +kernel
theorem dX6_firstFlaw_51 : decode cX6_firstFlaw 51 = .ok (.iload_n 2, 1) := by decide +kernel
theorem dX6_firstFlaw_52 : decode cX6_firstFlaw 52 = .ok (.imul, 1) := by decide +kernel
theorem dX6_firstFlaw_53 : decode cX6_firstFlaw 53 = .ok (.iload_n 3, 1) := by decide +kernel
theorem dX6_firstFlaw_54 : decode cX6_firstFlaw 54 = .ok (.iadd, 1) := by decide +kernel
theorem dX6_firstFlaw_55 : decode cX6_firstFlaw 55 = .ok (.ireturn, 1) := by decide +kernel
theorem dX6_firstFlaw_56 : decode cX6_firstFlaw 56 = .ok (.iinc 3 1, 3) := by decide +kernel
theorem dX6_firstFlaw_59 : decode cX6_firstFlaw 59 = .ok (.goto (-45), 3) := by decide +kernel
theorem dX6_firstFlaw_62 : decode cX6_firstFlaw 62 = .ok (.iinc 2 1, 3) := by decide +kernel
theorem dX6_firstFlaw_65 : decode cX6_firstFlaw 65 = .ok (.goto (-63), 3) := by decide +kernel
theorem dX6_firstFlaw_68 : decode cX6_firstFlaw 68 = .ok (.iconst 0, 1) := by decide +kernel
theorem dX6_firstFlaw_69 : decode cX6_firstFlaw 69 = .ok (.istore_n 2, 1) := by decide +kernel
theorem dX6_firstFlaw_70 : decode cX6_firstFlaw 70 = .ok (.iload_n 2, 1) := by decide +kernel
theorem dX6_firstFlaw_71 : decode cX6_firstFlaw 71 = .ok (.aload_n 1, 1) := by decide +kernel
theorem dX6_firstFlaw_72 : decode cX6_firstFlaw 72 = .ok (.getfield 21, 3) := by decide +kernel
theorem dX6_firstFlaw_75 : decode cX6_firstFlaw 75 = .ok (.if_icmp .ge 34, 3) := by decide +kernel
theorem dX6_firstFlaw_78 : decode cX6_firstFlaw 78 = .ok (.aload_n 1, 1) := by decide +kernel
theorem dX6_firstFlaw_79 : decode cX6_firstFlaw 79 = .ok (.getfield 30, 3) := by decide +kernel
theorem dX6_firstFlaw_82 : decode cX6_firstFlaw 82 = .ok (.iload_n 2, 1) := by decide +kernel
theorem dX6_firstFlaw_83 : decode cX6_firstFlaw 83 = .ok (.aaload, 1) := by decide +kernel
theorem dX6_firstFlaw_84 : decode cX6_firstFlaw 84 = .ok (.aload_n 1, 1) := by decide +kernel
theorem dX6_firstFlaw_85 : decode cX6_firstFlaw 85 = .ok (.getfield 30, 3) := by decide +kernel
theorem dX6_firstFlaw_88 : decode cX6_firstFlaw 88 = .ok (.bipush 24, 2) := by decide +kernel
theorem dX6_firstFlaw_90 : decode cX6_firstFlaw 90 = .ok (.aaload, 1) := by decide +kernel
theorem dX6_firstFlaw_91 : decode cX6_firstFlaw 91 = .ok (.invokestatic 34, 3) := by decide +kernel
theorem dX6_firstFlaw_94 : decode cX6_firstFlaw 94 = .ok (.ifCond .ne 9, 3) := by decide +kernel
theorem dX6_firstFlaw_97 : decode cX6_firstFlaw 97 = .ok (.sipush 10000, 3) := by decide +kernel
theorem dX6_firstFlaw_100 : decode cX6_firstFlaw 100 = .ok (.iload_n 2, 1) := by decide +kernel
theorem dX6_firstFlaw_101 : decode cX6_firstFlaw 101 = .ok (.iadd, 1) := by decide +kernel
theorem dX6_firstFlaw_102 : decode cX6_firstFlaw 102 = .ok (.ireturn, 1) := by decide +kernel
theorem dX6_firstFlaw_103 : decode cX6_firstFlaw 103 = .ok (.iinc 2 1, 3) := by decide +kernel
theorem dX6_firstFlaw_106 : decode cX6_firstFlaw 106 = .ok (.goto (-36), 3) := by decide +kernel
theorem dX6_firstFlaw_109 : decode cX6_firstFlaw 109 = .ok (.iconst (-1), 1) := by decide +kernel
theorem dX6_firstFlaw_110 : decode cX6_firstFlaw 110 = .ok (.ireturn, 1) := by decide +kernel
theorem dX6_measure_0 : decode cX6_measure 0 = .ok (.aload_n 0, 1) := by decide +kernel
theorem dX6_measure_1 : decode cX6_measure 1 = .ok (.aload_n 1, 1) := by decide +kernel
theorem dX6_measure_2 : decode cX6_measure 2 = .ok (.invokevirtual 38, 3) := by decide +kernel
theorem dX6_measure_5 : decode cX6_measure 5 = .ok (.iconst (-1), 1) := by decide +kernel
theorem dX6_measure_6 : decode cX6_measure 6 = .ok (.if_icmp .eq 5, 3) := by decide +kernel
theorem dX6_measure_9 : decode cX6_measure 9 = .ok (.iconst 0, 1) := by decide +kernel
theorem dX6_measure_10 : decode cX6_measure 10 = .ok (.ireturn, 1) := by decide +kernel
theorem dX6_measure_11 : decode cX6_measure 11 = .ok (.aload_n 0, 1) := by decide +kernel
theorem dX6_measure_12 : decode cX6_measure 12 = .ok (.iconst 0, 1) := by decide +kernel
theorem dX6_measure_13 : decode cX6_measure 13 = .ok (.putfield 9, 3) := by decide +kernel
theorem dX6_measure_16 : decode cX6_measure 16 = .ok (.aload_n 0, 1) := by decide +kernel
theorem dX6_measure_17 : decode cX6_measure 17 = .ok (.iconst 1, 1) := by decide +kernel
theorem dX6_measure_18 : decode cX6_measure 18 = .ok (.putfield 15, 3) := by decide +kernel
theorem dX6_measure_21 : decode cX6_measure 21 = .ok (.aload_n 1, 1) := by decide +kernel
theorem dX6_measure_22 : decode cX6_measure 22 = .ok (.getfield 30, 3) := by decide +kernel
theorem dX6_measure_25 : decode cX6_measure 25 = .ok (.bipush 24, 2) := by decide +kernel
theorem dX6_measure_27 : decode cX6_measure 27 = .ok (.aaload, 1) := by decide +kernel
theorem dX6_measure_28 : decode cX6_measure 28 = .ok (.astore_n 2, 1) := by decide +kernel
theorem dX6_measure_29 : decode cX6_measure 29 = .ok (.iconst 0, 1) := by decide +kernel
theorem dX6_measure_30 : decode cX6_measure 30 = .ok (.istore_n 3, 1) := by decide +kernel
theorem dX6_measure_31 : decode cX6_measure 31 = .ok (.iload_n 3, 1) := by decide +kernel
theorem dX6_measure_32 : decode cX6_measure 32 = .ok (.aload_n 1, 1) := by decide +kernel
theorem dX6_measure_33 : decode cX6_measure 33 = .ok (.getfield 21, 3) := by decide +kernel
theorem dX6_measure_36 : decode cX6_measure 36 = .ok (.if_icmp .ge 48, 3) := by decide +kernel
theorem dX6_measure_39 : decode cX6_measure 39 = .ok (.aload_n 1, 1) := by decide +kernel
theorem dX6_measure_40 : decode cX6_measure 40 = .ok (.getfield 30, 3) := by decide +kernel
theorem dX6_measure_43 : decode cX6_measure 43 = .ok (.iload_n 3, 1) := by decide +kernel
theorem dX6_measure_44 : decode cX6_measure 44 = .ok (.aaload, 1) := by decide +kernel
theorem dX6_measure_45 : decode cX6_measure 45 = .ok (.astore 4, 2) := by decide +kernel
