theorem dX0_init_0 : decode cX0_init 0 = .ok (.aload_n 0, 1) := by decide +kernel
theorem dX0_init_1 : decode cX0_init 1 = .ok (.invokespecial 3, 3) := by decide +kernel
theorem dX0_init_4 : decode cX0_init 4 = .ok (.aload_n 0, 1) := by decide +kernel
theorem dX0_init_5 : decode cX0_init 5 = .ok (.bipush 64, 2) := by decide +kernel
theorem dX0_init_7 : decode cX0_init 7 = .ok (.newarray .int, 2) := by decide +kernel
theorem dX0_init_9 : decode cX0_init 9 = .ok (.putfield 9, 3) := by decide +kernel
theorem dX0_init_12 : decode cX0_init 12 = .ok (.aload_n 0, 1) := by decide +kernel
theorem dX0_init_13 : decode cX0_init 13 = .ok (.iconst 0, 1) := by decide +kernel
theorem dX0_init_14 : decode cX0_init 14 = .ok (.putfield 15, 3) := by decide +kernel
theorem dX0_init_17 : decode cX0_init 17 = .ok (.aload_n 0, 1) := by decide +kernel
theorem dX0_init_18 : decode cX0_init 18 = .ok (.iconst (-1), 1) := by decide +kernel
theorem dX0_init_19 : decode cX0_init 19 = .ok (.putfield 19, 3) := by decide +kernel
theorem dX0_init_22 : decode cX0_init 22 = .ok (.aload_n 0, 1) := by decide +kernel
theorem dX0_init_23 : decode cX0_init 23 = .ok (.iconst (-1), 1) := by decide +kernel
theorem dX0_init_24 : decode cX0_init 24 = .ok (.putfield 22, 3) := by decide +kernel
theorem dX0_init_27 : decode cX0_init 27 = .ok (.aload_n 0, 1) := by decide +kernel
theorem dX0_init_28 : decode cX0_init 28 = .ok (.iconst 0, 1) := by decide +kernel
theorem dX0_init_29 : decode cX0_init 29 = .ok (.putfield 25, 3) := by decide +kernel
theorem dX0_init_32 : decode cX0_init 32 = .ok (.return_, 1) := by decide +kernel
theorem dX0_keep_0 : decode cX0_keep 0 = .ok (.aload_n 0, 1) := by decide +kernel
theorem dX0_keep_1 : decode cX0_keep 1 = .ok (.iconst 0, 1) := by decide +kernel
theorem dX0_keep_2 : decode cX0_keep 2 = .ok (.putfield 15, 3) := by decide +kernel
theorem dX0_keep_5 : decode cX0_keep 5 = .ok (.iconst 0, 1) := by decide +kernel
theorem dX0_keep_6 : decode cX0_keep 6 = .ok (.istore 6, 2) := by decide +kernel
theorem dX0_keep_8 : decode cX0_keep 8 = .ok (.iload 6, 2) := by decide +kernel
theorem dX0_keep_10 : decode cX0_keep 10 = .ok (.bipush 64, 2) := by decide +kernel
theorem dX0_keep_12 : decode cX0_keep 12 = .ok (.if_icmp .ge 41, 3) := by decide +kernel
theorem dX0_keep_15 : decode cX0_keep 15 = .ok (.lload_n 1, 1) := by decide +kernel
theorem dX0_keep_16 : decode cX0_keep 16 = .ok (.iload 6, 2) := by decide +kernel
theorem dX0_keep_18 : decode cX0_keep 18 = .ok (.lushr, 1) := by decide +kernel
theorem dX0_keep_19 : decode cX0_keep 19 = .ok (.lconst 1, 1) := by decide +kernel
theorem dX0_keep_20 : decode cX0_keep 20 = .ok (.land, 1) := by decide +kernel
theorem dX0_keep_21 : decode cX0_keep 21 = .ok (.lconst 0, 1) := by decide +kernel
theorem dX0_keep_22 : decode cX0_keep 22 = .ok (.lcmp, 1) := by decide +kernel
theorem dX0_keep_23 : decode cX0_keep 23 = .ok (.ifCond .eq 24, 3) := by decide +kernel
theorem dX0_keep_26 : decode cX0_keep 26 = .ok (.aload_n 0, 1) := by decide +kernel
theorem dX0_keep_27 : decode cX0_keep 27 = .ok (.getfield 9, 3) := by decide +kernel
theorem dX0_keep_30 : decode cX0_keep 30 = .ok (.aload_n 0, 1) := by decide +kernel
theorem dX0_keep_31 : decode cX0_keep 31 = .ok (.getfield 15, 3) := by decide +kernel
theorem dX0_keep_34 : decode cX0_keep 34 = .ok (.iload 6, 2) := by decide +kernel
theorem dX0_keep_36 : decode cX0_keep 36 = .ok (.iastore, 1) := by decide +kernel
theorem dX0_keep_37 : decode cX0_keep 37 = .ok (.aload_n 0, 1) := by decide +kernel
theorem dX0_keep_38 : decode cX0_keep 38 = .ok (.dup, 1) := by decide +kernel
theorem dX0_keep_39 : decode cX0_keep 39 = .ok (.getfield 15, 3) := by decide +kernel
theorem dX0_keep_42 : decode cX0_keep 42 = .ok (.iconst 1, 1) := by decide +kernel
theorem dX0_keep_43 : decode cX0_keep 43 = .ok (.iadd, 1) := by decide +kernel
theorem dX0_keep_44 : decode cX0_keep 44 = .ok (.putfield 15, 3) := by decide +kernel
theorem dX0_keep_47 : decode cX0_keep 47 = .ok (.iinc 6 1, 3) := by decide +kernel
theorem dX0_keep_50 : decode cX0_keep 50 = .ok (.goto (-42), 3) := by decide +kernel
theorem dX0_keep_53 : decode cX0_keep 53 = .ok (.aload_n 0, 1) := by decide +kernel
theorem dX0_keep_54 : decode cX0_keep 54 = .ok (.iload_n 3, 1) := by decide +kernel
theorem dX0_keep_55 : decode cX0_keep 55 = .ok (.putfield 19, 3) := by decide +kernel
theorem dX0_keep_58 : decode cX0_keep 58 = .ok (.aload_n 0, 1) := by decide +kernel
theorem dX0_keep_59 : decode cX0_keep 59 = .ok (.iload 4, 2) := by decide +kernel
theorem dX0_keep_61 : decode cX0_keep 61 = .ok (.putfield 22, 3) := by decide +kernel
theorem dX0_keep_64 : decode cX0_keep 64 = .ok (.aload_n 0, 1) := by decide +kernel
theorem dX0_keep_65 : decode cX0_keep 65 = .ok (.iload 5, 2) := by decide +kernel
theorem dX0_keep_67 : decode cX0_keep 67 = .ok (.putfield 25, 3) := by decide +kernel
theorem dX0_keep_70 : decode cX0_keep 70 = .ok (.return_, 1) := by decide +kernel
theorem dX1_init_0 : decode cX1_init 0 = .ok (.aload_n 0, 1) := by decide +kernel
theorem dX1_init_1 : decode cX1_init 1 = .ok (.invokespecial 3, 3) := by decide +kernel
theorem dX1_init_4 : decode cX1_init 4 = .ok (.aload_n 0, 1) := by decide +kernel
theorem dX1_init_5 : decode cX1_init 5 = .ok (.bipush 64, 2) := by decide +kernel
theorem dX1_init_7 : decode cX1_init 7 = .ok (.newarray .long, 2) := by decide +kernel
theorem dX1_init_9 : decode cX1_init 9 = .ok (.putfield 9, 3) := by decide +kernel
theorem dX1_init_12 : decode cX1_init 12 = .ok (.aload_n 0, 1) := by decide +kernel
theorem dX1_init_13 : decode cX1_init 13 = .ok (.iconst 0, 1) := by decide +kernel
theorem dX1_init_14 : decode cX1_init 14 = .ok (.putfield 15, 3) := by decide +kernel
theorem dX1_init_17 : decode cX1_init 17 = .ok (.aload_n 0, 1) := by decide +kernel
theorem dX1_init_18 : decode cX1_init 18 = .ok (.lconst 0, 1) := by decide +kernel
theorem dX1_init_19 : decode cX1_init 19 = .ok (.putfield 19, 3) := by decide +kernel
theorem dX1_init_22 : decode cX1_init 22 = .ok (.aload_n 0, 1) := by decide +kernel
theorem dX1_init_23 : decode cX1_init 23 = .ok (.iconst 0, 1) := by decide +kernel
theorem dX1_init_24 : decode cX1_init 24 = .ok (.putfield 23, 3) := by decide +kernel
theorem dX1_init_27 : decode cX1_init 27 = .ok (.aload_n 0, 1) := by decide +kernel
theorem dX1_init_28 : decode cX1_init 28 = .ok (.iconst 0, 1) := by decide +kernel
theorem dX1_init_29 : decode cX1_init 29 = .ok (.putfield 26, 3) := by decide +kernel
theorem dX1_init_32 : decode cX1_init 32 = .ok (.return_, 1) := by decide +kernel
theorem dX1_lay_0 : decode cX1_lay 0 = .ok (.aload_n 0, 1) := by decide +kernel
theorem dX1_lay_1 : decode cX1_lay 1 = .ok (.iconst 1, 1) := by decide +kernel
theorem dX1_lay_2 : decode cX1_lay 2 = .ok (.putfield 15, 3) := by decide +kernel
theorem dX1_lay_5 : decode cX1_lay 5 = .ok (.aload_n 0, 1) := by decide +kernel
theorem dX1_lay_6 : decode cX1_lay 6 = .ok (.getfield 9, 3) := by decide +kernel
theorem dX1_lay_9 : decode cX1_lay 9 = .ok (.iconst 0, 1) := by decide +kernel
theorem dX1_lay_10 : decode cX1_lay 10 = .ok (.lconst 1, 1) := by decide +kernel
theorem dX1_lay_11 : decode cX1_lay 11 = .ok (.lastore, 1) := by decide +kernel
theorem dX1_lay_12 : decode cX1_lay 12 = .ok (.iconst 0, 1) := by decide +kernel
theorem dX1_lay_13 : decode cX1_lay 13 = .ok (.istore_n 3, 1) := by decide +kernel
theorem dX1_lay_14 : decode cX1_lay 14 = .ok (.iload_n 3, 1) := by decide +kernel
theorem dX1_lay_15 : decode cX1_lay 15 = .ok (.iload_n 2, 1) := by decide +kernel
theorem dX1_lay_16 : decode cX1_lay 16 = .ok (.if_icmp .ge 14, 3) := by decide +kernel
theorem dX1_lay_19 : decode cX1_lay 19 = .ok (.aload_n 0, 1) := by decide +kernel
theorem dX1_lay_20 : decode cX1_lay 20 = .ok (.aload_n 1, 1) := by decide +kernel
theorem dX1_lay_21 : decode cX1_lay 21 = .ok (.invokevirtual 29, 3) := by decide +kernel
theorem dX1_lay_24 : decode cX1_lay 24 = .ok (.iinc 3 1, 3) := by decide +kernel
theorem dX1_lay_27 : decode cX1_lay 27 = .ok (.goto (-13), 3) := by decide +kernel
theorem dX1_lay_30 : decode cX1_lay 30 = .ok (.return_, 1) := by decide +kernel
theorem dX1_layFar_0 : decode cX1_layFar 0 = .ok (.aload_n 0, 1) := by decide +kernel
theorem dX1_layFar_1 : decode cX1_layFar 1 = .ok (.aload_n 1, 1) := by decide +kernel
theorem dX1_layFar_2 : decode cX1_layFar 2 = .ok (.iconst 1, 1) := by decide +kernel
theorem dX1_layFar_3 : decode cX1_layFar 3 = .ok (.invokevirtual 33, 3) := by decide +kernel
theorem dX1_layFar_6 : decode cX1_layFar 6 = .ok (.iconst 0, 1) := by decide +kernel
theorem dX1_layFar_7 : decode cX1_layFar 7 = .ok (.istore_n 2, 1) := by decide +kernel
theorem dX1_layFar_8 : decode cX1_layFar 8 = .ok (.iload_n 2, 1) := by decide +kernel
theorem dX1_layFar_9 : decode cX1_layFar 9 = .ok (.aload_n 0, 1) := by decide +kernel
theorem dX1_layFar_10 : decode cX1_layFar 10 = .ok (.getfield 15, 3) := by decide +kernel
theorem dX1_layFar_13 : decode cX1_layFar 13 = .ok (.if_icmp .ge 34, 3) := by decide +kernel
theorem dX1_layFar_16 : decode cX1_layFar 16 = .ok (.aload_n 0, 1) := by decide +kernel
theorem dX1_layFar_17 : decode cX1_layFar 17 = .ok (.getfield 9, 3) := by decide +kernel
theorem dX1_layFar_20 : decode cX1_layFar 20 = .ok (.iload_n 2, 1) := by decide +kernel
theorem dX1_layFar_21 : decode cX1_layFar 21 = .ok (.aload_n 0, 1) := by decide +kernel
theorem dX1_layFar_22 : decode cX1_layFar 22 = .ok (.invokevirtual 37, 3) := by decide +kernel
theorem dX1_layFar_25 : decode cX1_layFar 25 = .ok (.aload_n 0, 1) := by decide +kernel
theorem dX1_layFar_26 : decode cX1_layFar 26 = .ok (.getfield 9, 3) := by decide +kernel
theorem dX1_layFar_29 : decode cX1_layFar 29 = .ok (.iload_n 2, 1) := by decide +kernel
theorem dX1_layFar_30 : decode cX1_layFar 30 = .ok (.laload, 1) := by decide +kernel
theorem dX1_layFar_31 : decode cX1_layFar 31 = .ok (.ldc2_w 41, 3) := by decide +kernel
theorem dX1_layFar_34 : decode cX1_layFar 34 = .ok (.lxor, 1) := by decide +kernel
theorem dX1_layFar_35 : decode cX1_layFar 35 = .ok (.land, 1) := by decide +kernel
theorem dX1_layFar_36 : decode cX1_layFar 36 = .ok (.lconst 1, 1) := by decide +kernel
theorem dX1_layFar_37 : decode cX1_layFar 37 = .ok (.iload_n 2, 1) := by decide +kernel
theorem dX1_layFar_38 : decode cX1_layFar 38 = .ok (.lshl, 1) := by decide +kernel
theorem dX1_layFar_39 : decode cX1_layFar 39 = .ok (.lor, 1) := by decide +kernel
theorem dX1_layFar_40 : decode cX1_layFar 40 = .ok (.lastore, 1) := by decide +kernel
theorem dX1_layFar_41 : decode cX1_layFar 41 = .ok (.iinc 2 1, 3) := by decide +kernel
theorem dX1_layFar_44 : decode cX1_layFar 44 = .ok (.goto (-36), 3) := by decide +kernel
theorem dX1_layFar_47 : decode cX1_layFar 47 = .ok (.return_, 1) := by decide +kernel
theorem dX1_lengthen_0 : decode cX1_lengthen 0 = .ok (.aload_n 0, 1) := by decide +kernel
theorem dX1_lengthen_1 : decode cX1_lengthen 1 = .ok (.getfield 15, 3) := by decide +kernel
theorem dX1_lengthen_4 : decode cX1_lengthen 4 = .ok (.istore_n 2, 1) := by decide +kernel
theorem dX1_lengthen_5 : decode cX1_lengthen 5 = .ok (.aload_n 1, 1) := by decide +kernel
theorem dX1_lengthen_6 : decode cX1_lengthen 6 = .ok (.getfield 43, 3) := by decide +kernel
theorem dX1_lengthen_9 : decode cX1_lengthen 9 = .ok (.iconst 1, 1) := by decide +kernel
theorem dX1_lengthen_10 : decode cX1_lengthen 10 = .ok (.isub, 1) := by decide +kernel
theorem dX1_lengthen_11 : decode cX1_lengthen 11 = .ok (.istore_n 3, 1) := by decide +kernel
theorem dX1_lengthen_12 : decode cX1_lengthen 12 = .ok (.iload_n 3, 1) := by decide +kernel
theorem dX1_lengthen_13 : decode cX1_lengthen 13 = .ok (.ifCond .lt 96, 3) := by decide +kernel
theorem dX1_lengthen_16 : decode cX1_lengthen 16 = .ok (.iconst 0, 1) := by decide +kernel
theorem dX1_lengthen_17 : decode cX1_lengthen 17 = .ok (.istore 4, 2) := by decide +kernel
theorem dX1_lengthen_19 : decode cX1_lengthen 19 = .ok (.iload 4, 2) := by decide +kernel
theorem dX1_lengthen_21 : decode cX1_lengthen 21 = .ok (.iload_n 2, 1) := by decide +kernel
theorem dX1_lengthen_22 : decode cX1_lengthen 22 = .ok (.if_icmp .ge 81, 3) := by decide +kernel
theorem dX1_lengthen_25 : decode cX1_lengthen 25 = .ok (.iload_n 3, 1) := by decide +kernel
theorem dX1_lengthen_26 : decode cX1_lengthen 26 = .ok (.iload_n 2, 1) := by decide +kernel
theorem dX1_lengthen_27 : decode cX1_lengthen 27 = .ok (.imul, 1) := by decide +kernel
theorem dX1_lengthen_28 : decode cX1_lengthen 28 = .ok (.iload 4, 2) := by decide +kernel
theorem dX1_lengthen_30 : decode cX1_lengthen 30 = .ok (.iadd, 1) := by decide +kernel
theorem dX1_lengthen_31 : decode cX1_lengthen 31 = .ok (.bipush 64, 2) := by decide +kernel
theorem dX1_lengthen_33 : decode cX1_lengthen 33 = .ok (.if_icmp .ge 70, 3) := by decide +kernel
theorem dX1_lengthen_36 : decode cX1_lengthen 36 = .ok (.lconst 0, 1) := by decide +kernel
theorem dX1_lengthen_37 : decode cX1_lengthen 37 = .ok (.lstore 5, 2) := by decide +kernel
theorem dX1_lengthen_39 : decode cX1_lengthen 39 = .ok (.iconst 0, 1) := by decide +kernel
theorem dX1_lengthen_40 : decode cX1_lengthen 40 = .ok (.istore 7, 2) := by decide +kernel
theorem dX1_lengthen_42 : decode cX1_lengthen 42 = .ok (.iload 7, 2) := by decide +kernel
theorem dX1_lengthen_44 : decode cX1_lengthen 44 = .ok (.aload_n 1, 1) := by decide +kernel
theorem dX1_lengthen_45 : decode cX1_lengthen 45 = .ok (.getfield 43, 3) := by decide +kernel
theorem dX1_lengthen_48 : decode cX1_lengthen 48 = .ok (.if_icmp .ge 36, 3) := by decide +kernel
theorem dX1_lengthen_51 : decode cX1_lengthen 51 = .ok (.aload_n 1, 1) := by decide +kernel
theorem dX1_lengthen_52 : decode cX1_lengthen 52 = .ok (.iload_n 3, 1) := by decide +kernel
theorem dX1_lengthen_53 : decode cX1_lengthen 53 = .ok (.iload 7, 2) := by decide +kernel
theorem dX1_lengthen_55 : decode cX1_lengthen 55 = .ok (.invokevirtual 48, 3) := by decide +kernel
theorem dX1_lengthen_58 : decode cX1_lengthen 58 = .ok (.ifCond .eq 20, 3) := by decide +kernel
theorem dX1_lengthen_61 : decode cX1_lengthen 61 = .ok (.lload 5, 2) := by decide +kernel
theorem dX1_lengthen_63 : decode cX1_lengthen 63 = .ok (.aload_n 0, 1) := by decide +kernel
theorem dX1_lengthen_64 : decode cX1_lengthen 64 = .ok (.getfield 9, 3) := by decide +kernel
theorem dX1_lengthen_67 : decode cX1_lengthen 67 = .ok (.iload 4, 2) := by decide +kernel
theorem dX1_lengthen_69 : decode cX1_lengthen 69 = .ok (.laload, 1) := by decide +kernel
theorem dX1_lengthen_70 : decode cX1_lengthen 70 = .ok (.iload 7, 2) := by decide +kernel
theorem dX1_lengthen_72 : decode cX1_lengthen 72 = .ok (.iload_n 2, 1) := by decide +kernel
theorem dX1_lengthen_73 : decode cX1_lengthen 73 = .ok (.imul, 1) := by decide +kernel
theorem dX1_lengthen_74 : decode cX1_lengthen 74 = .ok (.lshl, 1) := by decide +kernel
theorem dX1_lengthen_75 : decode cX1_lengthen 75 = .ok (.lor, 1) := by decide +kernel
theorem dX1_lengthen_76 : decode cX1_lengthen 76 = .ok (.lstore 5, 2) := by decide +kernel
theorem dX1_lengthen_78 : decode cX1_lengthen 78 = .ok (.iinc 7 1, 3) := by decide +kernel
theorem dX1_lengthen_81 : decode cX1_lengthen 81 = .ok (.goto (-39), 3) := by decide +kernel
theorem dX1_lengthen_84 : decode cX1_lengthen 84 = .ok (.aload_n 0, 1) := by decide +kernel
theorem dX1_lengthen_85 : decode cX1_lengthen 85 = .ok (.getfield 9, 3) := by decide +kernel
theorem dX1_lengthen_88 : decode cX1_lengthen 88 = .ok (.iload_n 3, 1) := by decide +kernel
theorem dX1_lengthen_89 : decode cX1_lengthen 89 = .ok (.iload_n 2, 1) := by decide +kernel
theorem dX1_lengthen_90 : decode cX1_lengthen 90 = .ok (.imul, 1) := by decide +kernel
theorem dX1_lengthen_91 : decode cX1_lengthen 91 = .ok (.iload 4, 2) := by decide +kernel
theorem dX1_lengthen_93 : decode cX1_lengthen 93 = .ok (.iadd, 1) := by decide +kernel
theorem dX1_lengthen_94 : decode cX1_lengthen 94 = .ok (.lload 5, 2) := by decide +kernel
theorem dX1_lengthen_96 : decode cX1_lengthen 96 = .ok (.lastore, 1) := by decide +kernel
theorem dX1_lengthen_97 : decode cX1_lengthen 97 = .ok (.iinc 4 1, 3) := by decide +kernel
theorem dX1_lengthen_100 : decode cX1_lengthen 100 = .ok (.goto (-81), 3) := by decide +kernel
theorem dX1_lengthen_103 : decode cX1_lengthen 103 = .ok (.iinc 3 (-1), 3) := by decide +kernel
theorem dX1_lengthen_106 : decode cX1_lengthen 106 = .ok (.goto (-94), 3) := by decide +kernel
theorem dX1_lengthen_109 : decode cX1_lengthen 109 = .ok (.aload_n 0, 1) := by decide +kernel
theorem dX1_lengthen_110 : decode cX1_lengthen 110 = .ok (.bipush 64, 2) := by decide +kernel
theorem dX1_lengthen_112 : decode cX1_lengthen 112 = .ok (.iload_n 2, 1) := by decide +kernel
theorem dX1_lengthen_113 : decode cX1_lengthen 113 = .ok (.aload_n 1, 1) := by decide +kernel
theorem dX1_lengthen_114 : decode cX1_lengthen 114 = .ok (.getfield 43, 3) := by decide +kernel
theorem dX1_lengthen_117 : decode cX1_lengthen 117 = .ok (.imul, 1) := by decide +kernel
theorem dX1_lengthen_118 : decode cX1_lengthen 118 = .ok (.invokestatic 52, 3) := by decide +kernel
theorem dX1_lengthen_121 : decode cX1_lengthen 121 = .ok (.putfield 15, 3) := by decide +kernel
theorem dX1_lengthen_124 : decode cX1_lengthen 124 = .ok (.return_, 1) := by decide +kernel
theorem dX1_allWords_0 : decode cX1_allWords 0 = .ok (.aload_n 0, 1) := by decide +kernel
theorem dX1_allWords_1 : decode cX1_allWords 1 = .ok (.getfield 15, 3) := by decide +kernel
theorem dX1_allWords_4 : decode cX1_allWords 4 = .ok (.bipush 64, 2) := by decide +kernel
theorem dX1_allWords_6 : decode cX1_allWords 6 = .ok (.if_icmp .lt 9, 3) := by decide +kernel
theorem dX1_allWords_9 : decode cX1_allWords 9 = .ok (.ldc2_w 41, 3) := by decide +kernel
theorem dX1_allWords_12 : decode cX1_allWords 12 = .ok (.goto 11, 3) := by decide +kernel
theorem dX1_allWords_15 : decode cX1_allWords 15 = .ok (.lconst 1, 1) := by decide +kernel
theorem dX1_allWords_16 : decode cX1_allWords 16 = .ok (.aload_n 0, 1) := by decide +kernel
theorem dX1_allWords_17 : decode cX1_allWords 17 = .ok (.getfield 15, 3) := by decide +kernel
theorem dX1_allWords_20 : decode cX1_allWords 20 = .ok (.lshl, 1) := by decide +kernel
theorem dX1_allWords_21 : decode cX1_allWords 21 = .ok (.lconst 1, 1) := by decide +kernel
theorem dX1_allWords_22 : decode cX1_allWords 22 = .ok (.lsub, 1) := by decide +kernel
theorem dX1_allWords_23 : decode cX1_allWords 23 = .ok (.lreturn, 1) := by decide +kernel
theorem dX1_findLargest_0 : decode cX1_findLargest 0 = .ok (.aload_n 0, 1) := by decide +kernel
theorem dX1_findLargest_1 : decode cX1_findLargest 1 = .ok (.lconst 0, 1) := by decide +kernel
theorem dX1_findLargest_2 : decode cX1_findLargest 2 = .ok (.putfield 19, 3) := by decide +kernel
theorem dX1_findLargest_5 : decode cX1_findLargest 5 = .ok (.aload_n 0, 1) := by decide +kernel
theorem dX1_findLargest_6 : decode cX1_findLargest 6 = .ok (.iconst 0, 1) := by decide +kernel
theorem dX1_findLargest_7 : decode cX1_findLargest 7 = .ok (.putfield 23, 3) := by decide +kernel
theorem dX1_findLargest_10 : decode cX1_findLargest 10 = .ok (.aload_n 0, 1) := by decide +kernel
theorem dX1_findLargest_11 : decode cX1_findLargest 11 = .ok (.aload_n 0, 1) := by decide +kernel
theorem dX1_findLargest_12 : decode cX1_findLargest 12 = .ok (.getfield 15, 3) := by decide +kernel
theorem dX1_findLargest_15 : decode cX1_findLargest 15 = .ok (.putfield 26, 3) := by decide +kernel
theorem dX1_findLargest_18 : decode cX1_findLargest 18 = .ok (.aload_n 0, 1) := by decide +kernel
theorem dX1_findLargest_19 : decode cX1_findLargest 19 = .ok (.aload_n 0, 1) := by decide +kernel
theorem dX1_findLargest_20 : decode cX1_findLargest 20 = .ok (.invokevirtual 37, 3) := by decide +kernel
theorem dX1_findLargest_23 : decode cX1_findLargest 23 = .ok (.lconst 0, 1) := by decide +kernel
theorem dX1_findLargest_24 : decode cX1_findLargest 24 = .ok (.iconst 0, 1) := by decide +kernel
theorem dX1_findLargest_25 : decode cX1_findLargest 25 = .ok (.invokevirtual 58, 3) := by decide +kernel
theorem dX1_findLargest_28 : decode cX1_findLargest 28 = .ok (.aload_n 0, 1) := by decide +kernel
theorem dX1_findLargest_29 : decode cX1_findLargest 29 = .ok (.getfield 23, 3) := by decide +kernel
theorem dX1_findLargest_32 : decode cX1_findLargest 32 = .ok (.ireturn, 1) := by decide +kernel
theorem dX1_leastLargest_0 : decode cX1_leastLargest 0 = .ok (.lconst 0, 1) := by decide +kernel
theorem dX1_leastLargest_1 : decode cX1_leastLargest 1 = .ok (.lstore_n 1, 1) := by decide +kernel
theorem dX1_leastLargest_2 : decode cX1_leastLargest 2 = .ok (.aload_n 0, 1) := by decide +kernel
theorem dX1_leastLargest_3 : decode cX1_leastLargest 3 = .ok (.invokevirtual 37, 3) := by decide +kernel
theorem dX1_leastLargest_6 : decode cX1_leastLargest 6 = .ok (.lstore_n 3, 1) := by decide +kernel
theorem dX1_leastLargest_7 : decode cX1_leastLargest 7 = .ok (.iconst 0, 1) := by decide +kernel
theorem dX1_leastLargest_8 : decode cX1_leastLargest 8 = .ok (.istore 5, 2) := by decide +kernel
theorem dX1_leastLargest_10 : decode cX1_leastLargest 10 = .ok (.iload 5, 2) := by decide +kernel
theorem dX1_leastLargest_12 : decode cX1_leastLargest 12 = .ok (.aload_n 0, 1) := by decide +kernel
theorem dX1_leastLargest_13 : decode cX1_leastLargest 13 = .ok (.getfield 15, 3) := by decide +kernel
theorem dX1_leastLargest_16 : decode cX1_leastLargest 16 = .ok (.if_icmp .ge 84, 3) := by decide +kernel
theorem dX1_leastLargest_19 : decode cX1_leastLargest 19 = .ok (.lconst 1, 1) := by decide +kernel
theorem dX1_leastLargest_20 : decode cX1_leastLargest 20 = .ok (.iload 5, 2) := by decide +kernel
theorem dX1_leastLargest_22 : decode cX1_leastLargest 22 = .ok (.lshl, 1) := by decide +kernel
theorem dX1_leastLargest_23 : decode cX1_leastLargest 23 = .ok (.lstore 6, 2) := by decide +kernel
theorem dX1_leastLargest_25 : decode cX1_leastLargest 25 = .ok (.lload_n 3, 1) := by decide +kernel
theorem dX1_leastLargest_26 : decode cX1_leastLargest 26 = .ok (.lload 6, 2) := by decide +kernel
theorem dX1_leastLargest_28 : decode cX1_leastLargest 28 = .ok (.land, 1) := by decide +kernel
theorem dX1_leastLargest_29 : decode cX1_leastLargest 29 = .ok (.lconst 0, 1) := by decide +kernel
theorem dX1_leastLargest_30 : decode cX1_leastLargest 30 = .ok (.lcmp, 1) := by decide +kernel
theorem dX1_leastLargest_31 : decode cX1_leastLargest 31 = .ok (.ifCond .eq 63, 3) := by decide +kernel
theorem dX1_leastLargest_34 : decode cX1_leastLargest 34 = .ok (.lload_n 3, 1) := by decide +kernel
theorem dX1_leastLargest_35 : decode cX1_leastLargest 35 = .ok (.aload_n 0, 1) := by decide +kernel
theorem dX1_leastLargest_36 : decode cX1_leastLargest 36 = .ok (.getfield 9, 3) := by decide +kernel
theorem dX1_leastLargest_39 : decode cX1_leastLargest 39 = .ok (.iload 5, 2) := by decide +kernel
theorem dX1_leastLargest_41 : decode cX1_leastLargest 41 = .ok (.laload, 1) := by decide +kernel
theorem dX1_leastLargest_42 : decode cX1_leastLargest 42 = .ok (.ldc2_w 41, 3) := by decide +kernel
theorem dX1_leastLargest_45 : decode cX1_leastLargest 45 = .ok (.lxor, 1) := by decide +kernel
theorem dX1_leastLargest_46 : decode cX1_leastLargest 46 = .ok (.land, 1) := by decide +kernel
theorem dX1_leastLargest_47 : decode cX1_leastLargest 47 = .ok (.lstore 8, 2) := by decide +kernel
theorem dX1_leastLargest_49 : decode cX1_leastLargest 49 = .ok (.aload_n 0, 1) := by decide +kernel
theorem dX1_leastLargest_50 : decode cX1_leastLargest 50 = .ok (.getfield 19, 3) := by decide +kernel
theorem dX1_leastLargest_53 : decode cX1_leastLargest 53 = .ok (.lload 6, 2) := by decide +kernel
theorem dX1_leastLargest_55 : decode cX1_leastLargest 55 = .ok (.land, 1) := by decide +kernel
theorem dX1_leastLargest_56 : decode cX1_leastLargest 56 = .ok (.lconst 0, 1) := by decide +kernel
theorem dX1_leastLargest_57 : decode cX1_leastLargest 57 = .ok (.lcmp, 1) := by decide +kernel
theorem dX1_leastLargest_58 : decode cX1_leastLargest 58 = .ok (.ifCond .ne 16, 3) := by decide +kernel
theorem dX1_leastLargest_61 : decode cX1_leastLargest 61 = .ok (.aload_n 0, 1) := by decide +kernel
theorem dX1_leastLargest_62 : decode cX1_leastLargest 62 = .ok (.lload 8, 2) := by decide +kernel
theorem dX1_leastLargest_64 : decode cX1_leastLargest 64 = .ok (.lload_n 1, 1) := by decide +kernel
theorem dX1_leastLargest_65 : decode cX1_leastLargest 65 = .ok (.lload 6, 2) := by decide +kernel
theorem dX1_leastLargest_67 : decode cX1_leastLargest 67 = .ok (.lor, 1) := by decide +kernel
theorem dX1_leastLargest_68 : decode cX1_leastLargest 68 = .ok (.invokevirtual 62, 3) := by decide +kernel
theorem dX1_leastLargest_71 : decode cX1_leastLargest 71 = .ok (.ifCond .eq 14, 3) := by decide +kernel
theorem dX1_leastLargest_74 : decode cX1_leastLargest 74 = .ok (.lload_n 1, 1) := by decide +kernel
theorem dX1_leastLargest_75 : decode cX1_leastLargest 75 = .ok (.lload 6, 2) := by decide +kernel
theorem dX1_leastLargest_77 : decode cX1_leastLargest 77 = .ok (.lor, 1) := by decide +kernel
theorem dX1_leastLargest_78 : decode cX1_leastLargest 78 = .ok (.lstore_n 1, 1) := by decide +kernel
theorem dX1_leastLargest_79 : decode cX1_leastLargest 79 = .ok (.lload 8, 2) := by decide +kernel
theorem dX1_leastLargest_81 : decode cX1_leastLargest 81 = .ok (.lstore_n 3, 1) := by decide +kernel
theorem dX1_leastLargest_82 : decode cX1_leastLargest 82 = .ok (.goto 12, 3) := by decide +kernel
theorem dX1_leastLargest_85 : decode cX1_leastLargest 85 = .ok (.lload_n 3, 1) := by decide +kernel
theorem dX1_leastLargest_86 : decode cX1_leastLargest 86 = .ok (.lload 6, 2) := by decide +kernel
theorem dX1_leastLargest_88 : decode cX1_leastLargest 88 = .ok (.ldc2_w 41, 3) := by decide +kernel
theorem dX1_leastLargest_91 : decode cX1_leastLargest 91 = .ok (.lxor, 1) := by decide +kernel
theorem dX1_leastLargest_92 : decode cX1_leastLargest 92 = .ok (.land, 1) := by decide +kernel
theorem dX1_leastLargest_93 : decode cX1_leastLargest 93 = .ok (.lstore_n 3, 1) := by decide +kernel
theorem dX1_leastLargest_94 : decode cX1_leastLargest 94 = .ok (.iinc 5 1, 3) := by decide +kernel
theorem dX1_leastLargest_97 : decode cX1_leastLargest 97 = .ok (.goto (-87), 3) := by decide +kernel
theorem dX1_leastLargest_100 : decode cX1_leastLargest 100 = .ok (.lload_n 1, 1) := by decide +kernel
theorem dX1_leastLargest_101 : decode cX1_leastLargest 101 = .ok (.lreturn, 1) := by decide +kernel
theorem dX1_reaches_0 : decode cX1_reaches 0 = .ok (.aload_n 0, 1) := by decide +kernel
theorem dX1_reaches_1 : decode cX1_reaches 1 = .ok (.aload_n 0, 1) := by decide +kernel
theorem dX1_reaches_2 : decode cX1_reaches 2 = .ok (.getfield 23, 3) := by decide +kernel
theorem dX1_reaches_5 : decode cX1_reaches 5 = .ok (.putfield 26, 3) := by decide +kernel
theorem dX1_reaches_8 : decode cX1_reaches 8 = .ok (.aload_n 0, 1) := by decide +kernel
theorem dX1_reaches_9 : decode cX1_reaches 9 = .ok (.dup, 1) := by decide +kernel
theorem dX1_reaches_10 : decode cX1_reaches 10 = .ok (.getfield 23, 3) := by decide +kernel
theorem dX1_reaches_13 : decode cX1_reaches 13 = .ok (.iconst 1, 1) := by decide +kernel
theorem dX1_reaches_14 : decode cX1_reaches 14 = .ok (.isub, 1) := by decide +kernel
theorem dX1_reaches_15 : decode cX1_reaches 15 = .ok (.putfield 23, 3) := by decide +kernel
theorem dX1_reaches_18 : decode cX1_reaches 18 = .ok (.aload_n 0, 1) := by decide +kernel
theorem dX1_reaches_19 : decode cX1_reaches 19 = .ok (.lload_n 1, 1) := by decide +kernel
theorem dX1_reaches_20 : decode cX1_reaches 20 = .ok (.lload_n 3, 1) := by decide +kernel
theorem dX1_reaches_21 : decode cX1_reaches 21 = .ok (.iconst 0, 1) := by decide +kernel
theorem dX1_reaches_22 : decode cX1_reaches 22 = .ok (.invokevirtual 58, 3) := by decide +kernel
theorem dX1_reaches_25 : decode cX1_reaches 25 = .ok (.aload_n 0, 1) := by decide +kernel
theorem dX1_reaches_26 : decode cX1_reaches 26 = .ok (.getfield 23, 3) := by decide +kernel
theorem dX1_reaches_29 : decode cX1_reaches 29 = .ok (.aload_n 0, 1) := by decide +kernel
theorem dX1_reaches_30 : decode cX1_reaches 30 = .ok (.getfield 26, 3) := by decide +kernel
theorem dX1_reaches_33 : decode cX1_reaches 33 = .ok (.if_icmp .ne 7, 3) := by decide +kernel
theorem dX1_reaches_36 : decode cX1_reaches 36 = .ok (.iconst 1, 1) := by decide +kernel
theorem dX1_reaches_37 : decode cX1_reaches 37 = .ok (.goto 4, 3) := by decide +kernel
theorem dX1_reaches_40 : decode cX1_reaches 40 = .ok (.iconst 0, 1) := by decide +kernel
theorem dX1_reaches_41 : decode cX1_reaches 41 = .ok (.istore 5, 2) := by decide +kernel
theorem dX1_reaches_43 : decode cX1_reaches 43 = .ok (.aload_n 0, 1) := by decide +kernel
theorem dX1_reaches_44 : decode cX1_reaches 44 = .ok (.aload_n 0, 1) := by decide +kernel
theorem dX1_reaches_45 : decode cX1_reaches 45 = .ok (.getfield 26, 3) := by decide +kernel
theorem dX1_reaches_48 : decode cX1_reaches 48 = .ok (.putfield 23, 3) := by decide +kernel
theorem dX1_reaches_51 : decode cX1_reaches 51 = .ok (.iload 5, 2) := by decide +kernel
theorem dX1_reaches_53 : decode cX1_reaches 53 = .ok (.ireturn, 1) := by decide +kernel
theorem dX1_explore_0 : decode cX1_explore 0 = .ok (.iload 5, 2) := by decide +kernel
theorem dX1_explore_2 : decode cX1_explore 2 = .ok (.bipush 64, 2) := by decide +kernel
theorem dX1_explore_4 : decode cX1_explore 4 = .ok (.if_icmp .le 4, 3) := by decide +kernel
theorem dX1_explore_7 : decode cX1_explore 7 = .ok (.return_, 1) := by decide +kernel
theorem dX1_explore_8 : decode cX1_explore 8 = .ok (.lload_n 1, 1) := by decide +kernel
theorem dX1_explore_9 : decode cX1_explore 9 = .ok (.lstore 6, 2) := by decide +kernel
theorem dX1_explore_11 : decode cX1_explore 11 = .ok (.lload_n 3, 1) := by decide +kernel
theorem dX1_explore_12 : decode cX1_explore 12 = .ok (.lstore 8, 2) := by decide +kernel
theorem dX1_explore_14 : decode cX1_explore 14 = .ok (.iconst 0, 1) := by decide +kernel
theorem dX1_explore_15 : decode cX1_explore 15 = .ok (.istore 10, 2) := by decide +kernel
theorem dX1_explore_17 : decode cX1_explore 17 = .ok (.iload 10, 2) := by decide +kernel
theorem dX1_explore_19 : decode cX1_explore 19 = .ok (.bipush 64, 2) := by decide +kernel
theorem dX1_explore_21 : decode cX1_explore 21 = .ok (.if_icmp .gt 192, 3) := by decide +kernel
theorem dX1_explore_24 : decode cX1_explore 24 = .ok (.aload_n 0, 1) := by decide +kernel
theorem dX1_explore_25 : decode cX1_explore 25 = .ok (.getfield 23, 3) := by decide +kernel
theorem dX1_explore_28 : decode cX1_explore 28 = .ok (.aload_n 0, 1) := by decide +kernel
theorem dX1_explore_29 : decode cX1_explore 29 = .ok (.getfield 26, 3) := by decide +kernel
theorem dX1_explore_32 : decode cX1_explore 32 = .ok (.if_icmp .ge 181, 3) := by decide +kernel
theorem dX1_explore_35 : decode cX1_explore 35 = .ok (.aload_n 0, 1) := by decide +kernel
theorem dX1_explore_36 : decode cX1_explore 36 = .ok (.lload 6, 2) := by decide +kernel
theorem dX1_explore_38 : decode cX1_explore 38 = .ok (.invokevirtual 66, 3) := by decide +kernel
theorem dX1_explore_41 : decode cX1_explore 41 = .ok (.lstore 6, 2) := by decide +kernel
theorem dX1_explore_43 : decode cX1_explore 43 = .ok (.aload_n 0, 1) := by decide +kernel
theorem dX1_explore_44 : decode cX1_explore 44 = .ok (.lload 6, 2) := by decide +kernel
theorem dX1_explore_46 : decode cX1_explore 46 = .ok (.invokevirtual 70, 3) := by decide +kernel
theorem dX1_explore_49 : decode cX1_explore 49 = .ok (.lstore 11, 2) := by decide +kernel
theorem dX1_explore_51 : decode cX1_explore 51 = .ok (.lload 8, 2) := by decide +kernel
theorem dX1_explore_53 : decode cX1_explore 53 = .ok (.lload 11, 2) := by decide +kernel
theorem dX1_explore_55 : decode cX1_explore 55 = .ok (.lor, 1) := by decide +kernel
theorem dX1_explore_56 : decode cX1_explore 56 = .ok (.lstore 8, 2) := by decide +kernel
theorem dX1_explore_58 : decode cX1_explore 58 = .ok (.lload 6, 2) := by decide +kernel
theorem dX1_explore_60 : decode cX1_explore 60 = .ok (.lload 11, 2) := by decide +kernel
theorem dX1_explore_62 : decode cX1_explore 62 = .ok (.ldc2_w 41, 3) := by decide +kernel
theorem dX1_explore_65 : decode cX1_explore 65 = .ok (.lxor, 1) := by decide +kernel
theorem dX1_explore_66 : decode cX1_explore 66 = .ok (.land, 1) := by decide +kernel
theorem dX1_explore_67 : decode cX1_explore 67 = .ok (.lstore 6, 2) := by decide +kernel
theorem dX1_explore_69 : decode cX1_explore 69 = .ok (.lload 8, 2) := by decide +kernel
theorem dX1_explore_71 : decode cX1_explore 71 = .ok (.invokestatic 73, 3) := by decide +kernel
theorem dX1_explore_74 : decode cX1_explore 74 = .ok (.aload_n 0, 1) := by decide +kernel
theorem dX1_explore_75 : decode cX1_explore 75 = .ok (.lload 6, 2) := by decide +kernel
theorem dX1_explore_77 : decode cX1_explore 77 = .ok (.invokevirtual 79, 3) := by decide +kernel
theorem dX1_explore_80 : decode cX1_explore 80 = .ok (.iadd, 1) := by decide +kernel
theorem dX1_explore_81 : decode cX1_explore 81 = .ok (.aload_n 0, 1) := by decide +kernel
theorem dX1_explore_82 : decode cX1_explore 82 = .ok (.getfield 23, 3) := by decide +kernel
theorem dX1_explore_85 : decode cX1_explore 85 = .ok (.if_icmp .gt 4, 3) := by decide +kernel
theorem dX1_explore_88 : decode cX1_explore 88 = .ok (.return_, 1) := by decide +kernel
theorem dX1_explore_89 : decode cX1_explore 89 = .ok (.lload 6, 2) := by decide +kernel
theorem dX1_explore_91 : decode cX1_explore 91 = .ok (.lconst 0, 1) := by decide +kernel
theorem dX1_explore_92 : decode cX1_explore 92 = .ok (.lcmp, 1) := by decide +kernel
theorem dX1_explore_93 : decode cX1_explore 93 = .ok (.ifCond .ne 19, 3) := by decide +kernel
theorem dX1_explore_96 : decode cX1_explore 96 = .ok (.aload_n 0, 1) := by decide +kernel
theorem dX1_explore_97 : decode cX1_explore 97 = .ok (.lload 8, 2) := by decide +kernel
theorem dX1_explore_99 : decode cX1_explore 99 = .ok (.putfield 19, 3) := by decide +kernel
theorem dX1_explore_102 : decode cX1_explore 102 = .ok (.aload_n 0, 1) := by decide +kernel
theorem dX1_explore_103 : decode cX1_explore 103 = .ok (.lload 8, 2) := by decide +kernel
theorem dX1_explore_105 : decode cX1_explore 105 = .ok (.invokestatic 73, 3) := by decide +kernel
theorem dX1_explore_108 : decode cX1_explore 108 = .ok (.putfield 23, 3) := by decide +kernel
theorem dX1_explore_111 : decode cX1_explore 111 = .ok (.return_, 1) := by decide +kernel
theorem dX1_explore_112 : decode cX1_explore 112 = .ok (.aload_n 0, 1) := by decide +kernel
theorem dX1_explore_113 : decode cX1_explore 113 = .ok (.lload 6, 2) := by decide +kernel
theorem dX1_explore_115 : decode cX1_explore 115 = .ok (.invokevirtual 82, 3) := by decide +kernel
theorem dX1_explore_118 : decode cX1_explore 118 = .ok (.istore 13, 2) := by decide +kernel
theorem dX1_explore_120 : decode cX1_explore 120 = .ok (.lconst 1, 1) := by decide +kernel
theorem dX1_explore_121 : decode cX1_explore 121 = .ok (.iload 13, 2) := by decide +kernel
theorem dX1_explore_123 : decode cX1_explore 123 = .ok (.lshl, 1) := by decide +kernel
theorem dX1_explore_124 : decode cX1_explore 124 = .ok (.lstore 14, 2) := by decide +kernel
theorem dX1_explore_126 : decode cX1_explore 126 = .ok (.lload 6, 2) := by decide +kernel
theorem dX1_explore_128 : decode cX1_explore 128 = .ok (.aload_n 0, 1) := by decide +kernel
theorem dX1_explore_129 : decode cX1_explore 129 = .ok (.getfield 9, 3) := by decide +kernel
theorem dX1_explore_132 : decode cX1_explore 132 = .ok (.iload 13, 2) := by decide +kernel
theorem dX1_explore_134 : decode cX1_explore 134 = .ok (.laload, 1) := by decide +kernel
theorem dX1_explore_135 : decode cX1_explore 135 = .ok (.land, 1) := by decide +kernel
theorem dX1_explore_136 : decode cX1_explore 136 = .ok (.invokestatic 73, 3) := by decide +kernel
theorem dX1_explore_139 : decode cX1_explore 139 = .ok (.iconst 3, 1) := by decide +kernel
theorem dX1_explore_140 : decode cX1_explore 140 = .ok (.if_icmp .le 44, 3) := by decide +kernel
theorem dX1_explore_143 : decode cX1_explore 143 = .ok (.aload_n 0, 1) := by decide +kernel
theorem dX1_explore_144 : decode cX1_explore 144 = .ok (.lload 6, 2) := by decide +kernel
theorem dX1_explore_146 : decode cX1_explore 146 = .ok (.aload_n 0, 1) := by decide +kernel
theorem dX1_explore_147 : decode cX1_explore 147 = .ok (.getfield 9, 3) := by decide +kernel
theorem dX1_explore_150 : decode cX1_explore 150 = .ok (.iload 13, 2) := by decide +kernel
theorem dX1_explore_152 : decode cX1_explore 152 = .ok (.laload, 1) := by decide +kernel
theorem dX1_explore_153 : decode cX1_explore 153 = .ok (.ldc2_w 41, 3) := by decide +kernel
theorem dX1_explore_156 : decode cX1_explore 156 = .ok (.lxor, 1) := by decide +kernel
theorem dX1_explore_157 : decode cX1_explore 157 = .ok (.land, 1) := by decide +kernel
theorem dX1_explore_158 : decode cX1_explore 158 = .ok (.lload 8, 2) := by decide +kernel
theorem dX1_explore_160 : decode cX1_explore 160 = .ok (.lload 14, 2) := by decide +kernel
theorem dX1_explore_162 : decode cX1_explore 162 = .ok (.lor, 1) := by decide +kernel
theorem dX1_explore_163 : decode cX1_explore 163 = .ok (.iload 5, 2) := by decide +kernel
theorem dX1_explore_165 : decode cX1_explore 165 = .ok (.iconst 1, 1) := by decide +kernel
theorem dX1_explore_166 : decode cX1_explore 166 = .ok (.iadd, 1) := by decide +kernel
theorem dX1_explore_167 : decode cX1_explore 167 = .ok (.invokevirtual 58, 3) := by decide +kernel
theorem dX1_explore_170 : decode cX1_explore 170 = .ok (.lload 6, 2) := by decide +kernel
theorem dX1_explore_172 : decode cX1_explore 172 = .ok (.lload 14, 2) := by decide +kernel
theorem dX1_explore_174 : decode cX1_explore 174 = .ok (.ldc2_w 41, 3) := by decide +kernel
theorem dX1_explore_177 : decode cX1_explore 177 = .ok (.lxor, 1) := by decide +kernel
theorem dX1_explore_178 : decode cX1_explore 178 = .ok (.land, 1) := by decide +kernel
theorem dX1_explore_179 : decode cX1_explore 179 = .ok (.lstore 6, 2) := by decide +kernel
theorem dX1_explore_181 : decode cX1_explore 181 = .ok (.goto 26, 3) := by decide +kernel
theorem dX1_explore_184 : decode cX1_explore 184 = .ok (.lload 8, 2) := by decide +kernel
theorem dX1_explore_186 : decode cX1_explore 186 = .ok (.lload 14, 2) := by decide +kernel
theorem dX1_explore_188 : decode cX1_explore 188 = .ok (.lor, 1) := by decide +kernel
theorem dX1_explore_189 : decode cX1_explore 189 = .ok (.lstore 8, 2) := by decide +kernel
theorem dX1_explore_191 : decode cX1_explore 191 = .ok (.lload 6, 2) := by decide +kernel
theorem dX1_explore_193 : decode cX1_explore 193 = .ok (.aload_n 0, 1) := by decide +kernel
theorem dX1_explore_194 : decode cX1_explore 194 = .ok (.getfield 9, 3) := by decide +kernel
theorem dX1_explore_197 : decode cX1_explore 197 = .ok (.iload 13, 2) := by decide +kernel
theorem dX1_explore_199 : decode cX1_explore 199 = .ok (.laload, 1) := by decide +kernel
theorem dX1_explore_200 : decode cX1_explore 200 = .ok (.ldc2_w 41, 3) := by decide +kernel
theorem dX1_explore_203 : decode cX1_explore 203 = .ok (.lxor, 1) := by decide +kernel
theorem dX1_explore_204 : decode cX1_explore 204 = .ok (.land, 1) := by decide +kernel
theorem dX1_explore_205 : decode cX1_explore 205 = .ok (.lstore 6, 2) := by decide +kernel
theorem dX1_explore_207 : decode cX1_explore 207 = .ok (.iinc 10 1, 3) := by decide +kernel
theorem dX1_explore_210 : decode cX1_explore 210 = .ok (.goto (-193), 3) := by decide +kernel
theorem dX1_explore_213 : decode cX1_explore 213 = .ok (.return_, 1) := by decide +kernel
theorem dX1_needed_0 : decode cX1_needed 0 = .ok (.lload_n 1, 1) := by decide +kernel
theorem dX1_needed_1 : decode cX1_needed 1 = .ok (.lstore_n 3, 1) := by decide +kernel
theorem dX1_needed_2 : decode cX1_needed 2 = .ok (.iconst 1, 1) := by decide +kernel
theorem dX1_needed_3 : decode cX1_needed 3 = .ok (.istore 5, 2) := by decide +kernel
theorem dX1_needed_5 : decode cX1_needed 5 = .ok (.iconst 0, 1) := by decide +kernel
theorem dX1_needed_6 : decode cX1_needed 6 = .ok (.istore 6, 2) := by decide +kernel
theorem dX1_needed_8 : decode cX1_needed 8 = .ok (.iload 6, 2) := by decide +kernel
theorem dX1_needed_10 : decode cX1_needed 10 = .ok (.bipush 64, 2) := by decide +kernel
theorem dX1_needed_12 : decode cX1_needed 12 = .ok (.if_icmp .ge 94, 3) := by decide +kernel
theorem dX1_needed_15 : decode cX1_needed 15 = .ok (.iload 5, 2) := by decide +kernel
theorem dX1_needed_17 : decode cX1_needed 17 = .ok (.ifCond .eq 89, 3) := by decide +kernel
theorem dX1_needed_20 : decode cX1_needed 20 = .ok (.lload_n 3, 1) := by decide +kernel
theorem dX1_needed_21 : decode cX1_needed 21 = .ok (.lstore 7, 2) := by decide +kernel
theorem dX1_needed_23 : decode cX1_needed 23 = .ok (.lload_n 3, 1) := by decide +kernel
theorem dX1_needed_24 : decode cX1_needed 24 = .ok (.lstore 9, 2) := by decide +kernel
theorem dX1_needed_26 : decode cX1_needed 26 = .ok (.lload 9, 2) := by decide +kernel
theorem dX1_needed_28 : decode cX1_needed 28 = .ok (.invokestatic 73, 3) := by decide +kernel
theorem dX1_needed_31 : decode cX1_needed 31 = .ok (.istore 11, 2) := by decide +kernel
theorem dX1_needed_33 : decode cX1_needed 33 = .ok (.iconst 0, 1) := by decide +kernel
theorem dX1_needed_34 : decode cX1_needed 34 = .ok (.istore 12, 2) := by decide +kernel
theorem dX1_needed_36 : decode cX1_needed 36 = .ok (.iload 12, 2) := by decide +kernel
theorem dX1_needed_38 : decode cX1_needed 38 = .ok (.iload 11, 2) := by decide +kernel
theorem dX1_needed_40 : decode cX1_needed 40 = .ok (.if_icmp .ge 46, 3) := by decide +kernel
theorem dX1_needed_43 : decode cX1_needed 43 = .ok (.lload 9, 2) := by decide +kernel
theorem dX1_needed_45 : decode cX1_needed 45 = .ok (.invokestatic 85, 3) := by decide +kernel
theorem dX1_needed_48 : decode cX1_needed 48 = .ok (.istore 13, 2) := by decide +kernel
theorem dX1_needed_50 : decode cX1_needed 50 = .ok (.lload 9, 2) := by decide +kernel
theorem dX1_needed_52 : decode cX1_needed 52 = .ok (.lload 9, 2) := by decide +kernel
theorem dX1_needed_54 : decode cX1_needed 54 = .ok (.lconst 1, 1) := by decide +kernel
theorem dX1_needed_55 : decode cX1_needed 55 = .ok (.lsub, 1) := by decide +kernel
theorem dX1_needed_56 : decode cX1_needed 56 = .ok (.land, 1) := by decide +kernel
theorem dX1_needed_57 : decode cX1_needed 57 = .ok (.lstore 9, 2) := by decide +kernel
theorem dX1_needed_59 : decode cX1_needed 59 = .ok (.aload_n 0, 1) := by decide +kernel
theorem dX1_needed_60 : decode cX1_needed 60 = .ok (.iload 13, 2) := by decide +kernel
theorem dX1_needed_62 : decode cX1_needed 62 = .ok (.lload_n 3, 1) := by decide +kernel
theorem dX1_needed_63 : decode cX1_needed 63 = .ok (.invokevirtual 88, 3) := by decide +kernel
theorem dX1_needed_66 : decode cX1_needed 66 = .ok (.ifCond .eq 14, 3) := by decide +kernel
theorem dX1_needed_69 : decode cX1_needed 69 = .ok (.lload_n 3, 1) := by decide +kernel
theorem dX1_needed_70 : decode cX1_needed 70 = .ok (.lconst 1, 1) := by decide +kernel
theorem dX1_needed_71 : decode cX1_needed 71 = .ok (.iload 13, 2) := by decide +kernel
theorem dX1_needed_73 : decode cX1_needed 73 = .ok (.lshl, 1) := by decide +kernel
theorem dX1_needed_74 : decode cX1_needed 74 = .ok (.ldc2_w 41, 3) := by decide +kernel
theorem dX1_needed_77 : decode cX1_needed 77 = .ok (.lxor, 1) := by decide +kernel
theorem dX1_needed_78 : decode cX1_needed 78 = .ok (.land, 1) := by decide +kernel
theorem dX1_needed_79 : decode cX1_needed 79 = .ok (.lstore_n 3, 1) := by decide +kernel
theorem dX1_needed_80 : decode cX1_needed 80 = .ok (.iinc 12 1, 3) := by decide +kernel
theorem dX1_needed_83 : decode cX1_needed 83 = .ok (.goto (-47), 3) := by decide +kernel
theorem dX1_needed_86 : decode cX1_needed 86 = .ok (.lload_n 3, 1) := by decide +kernel
theorem dX1_needed_87 : decode cX1_needed 87 = .ok (.lload 7, 2) := by decide +kernel
theorem dX1_needed_89 : decode cX1_needed 89 = .ok (.lcmp, 1) := by decide +kernel
theorem dX1_needed_90 : decode cX1_needed 90 = .ok (.ifCond .eq 7, 3) := by decide +kernel
theorem dX1_needed_93 : decode cX1_needed 93 = .ok (.iconst 1, 1) := by decide +kernel
theorem dX1_needed_94 : decode cX1_needed 94 = .ok (.goto 4, 3) := by decide +kernel
theorem dX1_needed_97 : decode cX1_needed 97 = .ok (.iconst 0, 1) := by decide +kernel
theorem dX1_needed_98 : decode cX1_needed 98 = .ok (.istore 5, 2) := by decide +kernel
theorem dX1_needed_100 : decode cX1_needed 100 = .ok (.iinc 6 1, 3) := by decide +kernel
theorem dX1_needed_103 : decode cX1_needed 103 = .ok (.goto (-95), 3) := by decide +kernel
theorem dX1_needed_106 : decode cX1_needed 106 = .ok (.lload_n 3, 1) := by decide +kernel
theorem dX1_needed_107 : decode cX1_needed 107 = .ok (.lreturn, 1) := by decide +kernel
theorem dX1_canBeSpared_0 : decode cX1_canBeSpared 0 = .ok (.lload_n 2, 1) := by decide +kernel
theorem dX1_canBeSpared_1 : decode cX1_canBeSpared 1 = .ok (.aload_n 0, 1) := by decide +kernel
theorem dX1_canBeSpared_2 : decode cX1_canBeSpared 2 = .ok (.getfield 9, 3) := by decide +kernel
theorem dX1_canBeSpared_5 : decode cX1_canBeSpared 5 = .ok (.iload_n 1, 1) := by decide +kernel
theorem dX1_canBeSpared_6 : decode cX1_canBeSpared 6 = .ok (.laload, 1) := by decide +kernel
theorem dX1_canBeSpared_7 : decode cX1_canBeSpared 7 = .ok (.ldc2_w 41, 3) := by decide +kernel
theorem dX1_canBeSpared_10 : decode cX1_canBeSpared 10 = .ok (.lxor, 1) := by decide +kernel
theorem dX1_canBeSpared_11 : decode cX1_canBeSpared 11 = .ok (.land, 1) := by decide +kernel
theorem dX1_canBeSpared_12 : decode cX1_canBeSpared 12 = .ok (.lstore 4, 2) := by decide +kernel
theorem dX1_canBeSpared_14 : decode cX1_canBeSpared 14 = .ok (.lload_n 2, 1) := by decide +kernel
theorem dX1_canBeSpared_15 : decode cX1_canBeSpared 15 = .ok (.aload_n 0, 1) := by decide +kernel
theorem dX1_canBeSpared_16 : decode cX1_canBeSpared 16 = .ok (.getfield 9, 3) := by decide +kernel
theorem dX1_canBeSpared_19 : decode cX1_canBeSpared 19 = .ok (.iload_n 1, 1) := by decide +kernel
theorem dX1_canBeSpared_20 : decode cX1_canBeSpared 20 = .ok (.laload, 1) := by decide +kernel
theorem dX1_canBeSpared_21 : decode cX1_canBeSpared 21 = .ok (.land, 1) := by decide +kernel
theorem dX1_canBeSpared_22 : decode cX1_canBeSpared 22 = .ok (.lconst 1, 1) := by decide +kernel
theorem dX1_canBeSpared_23 : decode cX1_canBeSpared 23 = .ok (.iload_n 1, 1) := by decide +kernel
theorem dX1_canBeSpared_24 : decode cX1_canBeSpared 24 = .ok (.lshl, 1) := by decide +kernel
theorem dX1_canBeSpared_25 : decode cX1_canBeSpared 25 = .ok (.ldc2_w 41, 3) := by decide +kernel
theorem dX1_canBeSpared_28 : decode cX1_canBeSpared 28 = .ok (.lxor, 1) := by decide +kernel
theorem dX1_canBeSpared_29 : decode cX1_canBeSpared 29 = .ok (.land, 1) := by decide +kernel
theorem dX1_canBeSpared_30 : decode cX1_canBeSpared 30 = .ok (.lstore 6, 2) := by decide +kernel
theorem dX1_canBeSpared_32 : decode cX1_canBeSpared 32 = .ok (.lload 6, 2) := by decide +kernel
theorem dX1_canBeSpared_34 : decode cX1_canBeSpared 34 = .ok (.invokestatic 73, 3) := by decide +kernel
theorem dX1_canBeSpared_37 : decode cX1_canBeSpared 37 = .ok (.istore 8, 2) := by decide +kernel
theorem dX1_canBeSpared_39 : decode cX1_canBeSpared 39 = .ok (.iconst 0, 1) := by decide +kernel
theorem dX1_canBeSpared_40 : decode cX1_canBeSpared 40 = .ok (.istore 9, 2) := by decide +kernel
theorem dX1_canBeSpared_42 : decode cX1_canBeSpared 42 = .ok (.iload 9, 2) := by decide +kernel
theorem dX1_canBeSpared_44 : decode cX1_canBeSpared 44 = .ok (.iload 8, 2) := by decide +kernel
theorem dX1_canBeSpared_46 : decode cX1_canBeSpared 46 = .ok (.if_icmp .ge 38, 3) := by decide +kernel
theorem dX1_canBeSpared_49 : decode cX1_canBeSpared 49 = .ok (.aload_n 0, 1) := by decide +kernel
theorem dX1_canBeSpared_50 : decode cX1_canBeSpared 50 = .ok (.getfield 9, 3) := by decide +kernel
theorem dX1_canBeSpared_53 : decode cX1_canBeSpared 53 = .ok (.lload 6, 2) := by decide +kernel
theorem dX1_canBeSpared_55 : decode cX1_canBeSpared 55 = .ok (.invokestatic 85, 3) := by decide +kernel
theorem dX1_canBeSpared_58 : decode cX1_canBeSpared 58 = .ok (.laload, 1) := by decide +kernel
theorem dX1_canBeSpared_59 : decode cX1_canBeSpared 59 = .ok (.lload 4, 2) := by decide +kernel
theorem dX1_canBeSpared_61 : decode cX1_canBeSpared 61 = .ok (.land, 1) := by decide +kernel
theorem dX1_canBeSpared_62 : decode cX1_canBeSpared 62 = .ok (.lconst 0, 1) := by decide +kernel
theorem dX1_canBeSpared_63 : decode cX1_canBeSpared 63 = .ok (.lcmp, 1) := by decide +kernel
theorem dX1_canBeSpared_64 : decode cX1_canBeSpared 64 = .ok (.ifCond .ne 5, 3) := by decide +kernel
theorem dX1_canBeSpared_67 : decode cX1_canBeSpared 67 = .ok (.iconst 1, 1) := by decide +kernel
theorem dX1_canBeSpared_68 : decode cX1_canBeSpared 68 = .ok (.ireturn, 1) := by decide +kernel
theorem dX1_canBeSpared_69 : decode cX1_canBeSpared 69 = .ok (.lload 6, 2) := by decide +kernel
theorem dX1_canBeSpared_71 : decode cX1_canBeSpared 71 = .ok (.lload 6, 2) := by decide +kernel
theorem dX1_canBeSpared_73 : decode cX1_canBeSpared 73 = .ok (.lconst 1, 1) := by decide +kernel
theorem dX1_canBeSpared_74 : decode cX1_canBeSpared 74 = .ok (.lsub, 1) := by decide +kernel
theorem dX1_canBeSpared_75 : decode cX1_canBeSpared 75 = .ok (.land, 1) := by decide +kernel
theorem dX1_canBeSpared_76 : decode cX1_canBeSpared 76 = .ok (.lstore 6, 2) := by decide +kernel
theorem dX1_canBeSpared_78 : decode cX1_canBeSpared 78 = .ok (.iinc 9 1, 3) := by decide +kernel
theorem dX1_canBeSpared_81 : decode cX1_canBeSpared 81 = .ok (.goto (-39), 3) := by decide +kernel
theorem dX1_canBeSpared_84 : decode cX1_canBeSpared 84 = .ok (.iconst 0, 1) := by decide +kernel
theorem dX1_canBeSpared_85 : decode cX1_canBeSpared 85 = .ok (.ireturn, 1) := by decide +kernel
theorem dX1_loneWords_0 : decode cX1_loneWords 0 = .ok (.lconst 0, 1) := by decide +kernel
theorem dX1_loneWords_1 : decode cX1_loneWords 1 = .ok (.lstore_n 3, 1) := by decide +kernel
theorem dX1_loneWords_2 : decode cX1_loneWords 2 = .ok (.lload_n 1, 1) := by decide +kernel
theorem dX1_loneWords_3 : decode cX1_loneWords 3 = .ok (.lstore 5, 2) := by decide +kernel
theorem dX1_loneWords_5 : decode cX1_loneWords 5 = .ok (.lload 5, 2) := by decide +kernel
theorem dX1_loneWords_7 : decode cX1_loneWords 7 = .ok (.invokestatic 73, 3) := by decide +kernel
theorem dX1_loneWords_10 : decode cX1_loneWords 10 = .ok (.istore 7, 2) := by decide +kernel
theorem dX1_loneWords_12 : decode cX1_loneWords 12 = .ok (.iconst 0, 1) := by decide +kernel
theorem dX1_loneWords_13 : decode cX1_loneWords 13 = .ok (.istore 8, 2) := by decide +kernel
theorem dX1_loneWords_15 : decode cX1_loneWords 15 = .ok (.iload 8, 2) := by decide +kernel
theorem dX1_loneWords_17 : decode cX1_loneWords 17 = .ok (.iload 7, 2) := by decide +kernel
theorem dX1_loneWords_19 : decode cX1_loneWords 19 = .ok (.if_icmp .ge 49, 3) := by decide +kernel
theorem dX1_loneWords_22 : decode cX1_loneWords 22 = .ok (.lload 5, 2) := by decide +kernel
theorem dX1_loneWords_24 : decode cX1_loneWords 24 = .ok (.invokestatic 85, 3) := by decide +kernel
theorem dX1_loneWords_27 : decode cX1_loneWords 27 = .ok (.istore 9, 2) := by decide +kernel
theorem dX1_loneWords_29 : decode cX1_loneWords 29 = .ok (.lload 5, 2) := by decide +kernel
theorem dX1_loneWords_31 : decode cX1_loneWords 31 = .ok (.lload 5, 2) := by decide +kernel
theorem dX1_loneWords_33 : decode cX1_loneWords 33 = .ok (.lconst 1, 1) := by decide +kernel
theorem dX1_loneWords_34 : decode cX1_loneWords 34 = .ok (.lsub, 1) := by decide +kernel
theorem dX1_loneWords_35 : decode cX1_loneWords 35 = .ok (.land, 1) := by decide +kernel
theorem dX1_loneWords_36 : decode cX1_loneWords 36 = .ok (.lstore 5, 2) := by decide +kernel
theorem dX1_loneWords_38 : decode cX1_loneWords 38 = .ok (.lload_n 1, 1) := by decide +kernel
theorem dX1_loneWords_39 : decode cX1_loneWords 39 = .ok (.aload_n 0, 1) := by decide +kernel
theorem dX1_loneWords_40 : decode cX1_loneWords 40 = .ok (.getfield 9, 3) := by decide +kernel
theorem dX1_loneWords_43 : decode cX1_loneWords 43 = .ok (.iload 9, 2) := by decide +kernel
theorem dX1_loneWords_45 : decode cX1_loneWords 45 = .ok (.laload, 1) := by decide +kernel
theorem dX1_loneWords_46 : decode cX1_loneWords 46 = .ok (.land, 1) := by decide +kernel
theorem dX1_loneWords_47 : decode cX1_loneWords 47 = .ok (.lconst 1, 1) := by decide +kernel
theorem dX1_loneWords_48 : decode cX1_loneWords 48 = .ok (.iload 9, 2) := by decide +kernel
theorem dX1_loneWords_50 : decode cX1_loneWords 50 = .ok (.lshl, 1) := by decide +kernel
theorem dX1_loneWords_51 : decode cX1_loneWords 51 = .ok (.lcmp, 1) := by decide +kernel
theorem dX1_loneWords_52 : decode cX1_loneWords 52 = .ok (.ifCond .ne 10, 3) := by decide +kernel
theorem dX1_loneWords_55 : decode cX1_loneWords 55 = .ok (.lload_n 3, 1) := by decide +kernel
theorem dX1_loneWords_56 : decode cX1_loneWords 56 = .ok (.lconst 1, 1) := by decide +kernel
theorem dX1_loneWords_57 : decode cX1_loneWords 57 = .ok (.iload 9, 2) := by decide +kernel
theorem dX1_loneWords_59 : decode cX1_loneWords 59 = .ok (.lshl, 1) := by decide +kernel
theorem dX1_loneWords_60 : decode cX1_loneWords 60 = .ok (.lor, 1) := by decide +kernel
theorem dX1_loneWords_61 : decode cX1_loneWords 61 = .ok (.lstore_n 3, 1) := by decide +kernel
theorem dX1_loneWords_62 : decode cX1_loneWords 62 = .ok (.iinc 8 1, 3) := by decide +kernel
theorem dX1_loneWords_65 : decode cX1_loneWords 65 = .ok (.goto (-50), 3) := by decide +kernel
theorem dX1_loneWords_68 : decode cX1_loneWords 68 = .ok (.lload_n 3, 1) := by decide +kernel
theorem dX1_loneWords_69 : decode cX1_loneWords 69 = .ok (.lreturn, 1) := by decide +kernel
theorem dX1_groups_0 : decode cX1_groups 0 = .ok (.iconst 0, 1) := by decide +kernel
theorem dX1_groups_1 : decode cX1_groups 1 = .ok (.istore_n 3, 1) := by decide +kernel
theorem dX1_groups_2 : decode cX1_groups 2 = .ok (.lload_n 1, 1) := by decide +kernel
theorem dX1_groups_3 : decode cX1_groups 3 = .ok (.lstore 4, 2) := by decide +kernel
theorem dX1_groups_5 : decode cX1_groups 5 = .ok (.lconst 0, 1) := by decide +kernel
theorem dX1_groups_6 : decode cX1_groups 6 = .ok (.lstore 6, 2) := by decide +kernel
theorem dX1_groups_8 : decode cX1_groups 8 = .ok (.lload_n 1, 1) := by decide +kernel
theorem dX1_groups_9 : decode cX1_groups 9 = .ok (.invokestatic 73, 3) := by decide +kernel
theorem dX1_groups_12 : decode cX1_groups 12 = .ok (.istore 8, 2) := by decide +kernel
theorem dX1_groups_14 : decode cX1_groups 14 = .ok (.iconst 0, 1) := by decide +kernel
theorem dX1_groups_15 : decode cX1_groups 15 = .ok (.istore 9, 2) := by decide +kernel
theorem dX1_groups_17 : decode cX1_groups 17 = .ok (.iload 9, 2) := by decide +kernel
theorem dX1_groups_19 : decode cX1_groups 19 = .ok (.iload 8, 2) := by decide +kernel
theorem dX1_groups_21 : decode cX1_groups 21 = .ok (.if_icmp .ge 58, 3) := by decide +kernel
theorem dX1_groups_24 : decode cX1_groups 24 = .ok (.lload 6, 2) := by decide +kernel
theorem dX1_groups_26 : decode cX1_groups 26 = .ok (.lconst 0, 1) := by decide +kernel
theorem dX1_groups_27 : decode cX1_groups 27 = .ok (.lcmp, 1) := by decide +kernel
theorem dX1_groups_28 : decode cX1_groups 28 = .ok (.ifCond .ne 10, 3) := by decide +kernel
theorem dX1_groups_31 : decode cX1_groups 31 = .ok (.iinc 3 1, 3) := by decide +kernel
theorem dX1_groups_34 : decode cX1_groups 34 = .ok (.lload 4, 2) := by decide +kernel
theorem dX1_groups_36 : decode cX1_groups 36 = .ok (.lstore 6, 2) := by decide +kernel
theorem dX1_groups_38 : decode cX1_groups 38 = .ok (.lload 6, 2) := by decide +kernel
theorem dX1_groups_40 : decode cX1_groups 40 = .ok (.invokestatic 85, 3) := by decide +kernel
theorem dX1_groups_43 : decode cX1_groups 43 = .ok (.istore 10, 2) := by decide +kernel
theorem dX1_groups_45 : decode cX1_groups 45 = .ok (.lload 4, 2) := by decide +kernel
theorem dX1_groups_47 : decode cX1_groups 47 = .ok (.lconst 1, 1) := by decide +kernel
theorem dX1_groups_48 : decode cX1_groups 48 = .ok (.iload 10, 2) := by decide +kernel
theorem dX1_groups_50 : decode cX1_groups 50 = .ok (.lshl, 1) := by decide +kernel
theorem dX1_groups_51 : decode cX1_groups 51 = .ok (.ldc2_w 41, 3) := by decide +kernel
theorem dX1_groups_54 : decode cX1_groups 54 = .ok (.lxor, 1) := by decide +kernel
theorem dX1_groups_55 : decode cX1_groups 55 = .ok (.land, 1) := by decide +kernel
theorem dX1_groups_56 : decode cX1_groups 56 = .ok (.lstore 4, 2) := by decide +kernel
theorem dX1_groups_58 : decode cX1_groups 58 = .ok (.lload 6, 2) := by decide +kernel
theorem dX1_groups_60 : decode cX1_groups 60 = .ok (.aload_n 0, 1) := by decide +kernel
theorem dX1_groups_61 : decode cX1_groups 61 = .ok (.getfield 9, 3) := by decide +kernel
theorem dX1_groups_64 : decode cX1_groups 64 = .ok (.iload 10, 2) := by decide +kernel
theorem dX1_groups_66 : decode cX1_groups 66 = .ok (.laload, 1) := by decide +kernel
theorem dX1_groups_67 : decode cX1_groups 67 = .ok (.lload 4, 2) := by decide +kernel
theorem dX1_groups_69 : decode cX1_groups 69 = .ok (.land, 1) := by decide +kernel
theorem dX1_groups_70 : decode cX1_groups 70 = .ok (.land, 1) := by decide +kernel
theorem dX1_groups_71 : decode cX1_groups 71 = .ok (.lstore 6, 2) := by decide +kernel
theorem dX1_groups_73 : decode cX1_groups 73 = .ok (.iinc 9 1, 3) := by decide +kernel
theorem dX1_groups_76 : decode cX1_groups 76 = .ok (.goto (-59), 3) := by decide +kernel
theorem dX1_groups_79 : decode cX1_groups 79 = .ok (.iload_n 3, 1) := by decide +kernel
theorem dX1_groups_80 : decode cX1_groups 80 = .ok (.ireturn, 1) := by decide +kernel
theorem dX1_busiest_0 : decode cX1_busiest 0 = .ok (.iconst 0, 1) := by decide +kernel
theorem dX1_busiest_1 : decode cX1_busiest 1 = .ok (.istore_n 3, 1) := by decide +kernel
theorem dX1_busiest_2 : decode cX1_busiest 2 = .ok (.iconst (-1), 1) := by decide +kernel
theorem dX1_busiest_3 : decode cX1_busiest 3 = .ok (.istore 4, 2) := by decide +kernel
theorem dX1_busiest_5 : decode cX1_busiest 5 = .ok (.lload_n 1, 1) := by decide +kernel
theorem dX1_busiest_6 : decode cX1_busiest 6 = .ok (.lstore 5, 2) := by decide +kernel
theorem dX1_busiest_8 : decode cX1_busiest 8 = .ok (.lload_n 1, 1) := by decide +kernel
theorem dX1_busiest_9 : decode cX1_busiest 9 = .ok (.invokestatic 73, 3) := by decide +kernel
theorem dX1_busiest_12 : decode cX1_busiest 12 = .ok (.istore 7, 2) := by decide +kernel
theorem dX1_busiest_14 : decode cX1_busiest 14 = .ok (.iconst 0, 1) := by decide +kernel
theorem dX1_busiest_15 : decode cX1_busiest 15 = .ok (.istore 8, 2) := by decide +kernel
theorem dX1_busiest_17 : decode cX1_busiest 17 = .ok (.iload 8, 2) := by decide +kernel
theorem dX1_busiest_19 : decode cX1_busiest 19 = .ok (.iload 7, 2) := by decide +kernel
theorem dX1_busiest_21 : decode cX1_busiest 21 = .ok (.if_icmp .ge 53, 3) := by decide +kernel
theorem dX1_busiest_24 : decode cX1_busiest 24 = .ok (.lload 5, 2) := by decide +kernel
theorem dX1_busiest_26 : decode cX1_busiest 26 = .ok (.invokestatic 85, 3) := by decide +kernel
theorem dX1_busiest_29 : decode cX1_busiest 29 = .ok (.istore 9, 2) := by decide +kernel
theorem dX1_busiest_31 : decode cX1_busiest 31 = .ok (.lload 5, 2) := by decide +kernel
theorem dX1_busiest_33 : decode cX1_busiest 33 = .ok (.lload 5, 2) := by decide +kernel
theorem dX1_busiest_35 : decode cX1_busiest 35 = .ok (.lconst 1, 1) := by decide +kernel
theorem dX1_busiest_36 : decode cX1_busiest 36 = .ok (.lsub, 1) := by decide +kernel
theorem dX1_busiest_37 : decode cX1_busiest 37 = .ok (.land, 1) := by decide +kernel
theorem dX1_busiest_38 : decode cX1_busiest 38 = .ok (.lstore 5, 2) := by decide +kernel
theorem dX1_busiest_40 : decode cX1_busiest 40 = .ok (.lload_n 1, 1) := by decide +kernel
theorem dX1_busiest_41 : decode cX1_busiest 41 = .ok (.aload_n 0, 1) := by decide +kernel
theorem dX1_busiest_42 : decode cX1_busiest 42 = .ok (.getfield 9, 3) := by decide +kernel
theorem dX1_busiest_45 : decode cX1_busiest 45 = .ok (.iload 9, 2) := by decide +kernel
theorem dX1_busiest_47 : decode cX1_busiest 47 = .ok (.laload, 1) := by decide +kernel
theorem dX1_busiest_48 : decode cX1_busiest 48 = .ok (.land, 1) := by decide +kernel
theorem dX1_busiest_49 : decode cX1_busiest 49 = .ok (.invokestatic 73, 3) := by decide +kernel
theorem dX1_busiest_52 : decode cX1_busiest 52 = .ok (.istore 10, 2) := by decide +kernel
theorem dX1_busiest_54 : decode cX1_busiest 54 = .ok (.iload 10, 2) := by decide +kernel
theorem dX1_busiest_56 : decode cX1_busiest 56 = .ok (.iload 4, 2) := by decide +kernel
theorem dX1_busiest_58 : decode cX1_busiest 58 = .ok (.if_icmp .le 10, 3) := by decide +kernel
theorem dX1_busiest_61 : decode cX1_busiest 61 = .ok (.iload 10, 2) := by decide +kernel
theorem dX1_busiest_63 : decode cX1_busiest 63 = .ok (.istore 4, 2) := by decide +kernel
theorem dX1_busiest_65 : decode cX1_busiest 65 = .ok (.iload 9, 2) := by decide +kernel
theorem dX1_busiest_67 : decode cX1_busiest 67 = .ok (.istore_n 3, 1) := by decide +kernel
theorem dX1_busiest_68 : decode cX1_busiest 68 = .ok (.iinc 8 1, 3) := by decide +kernel
theorem dX1_busiest_71 : decode cX1_busiest 71 = .ok (.goto (-54), 3) := by decide +kernel
theorem dX1_busiest_74 : decode cX1_busiest 74 = .ok (.iload_n 3, 1) := by decide +kernel
theorem dX1_busiest_75 : decode cX1_busiest 75 = .ok (.ireturn, 1) := by decide +kernel
theorem dX1_countLargest_0 : decode cX1_countLargest 0 = .ok (.aload_n 0, 1) := by decide +kernel
theorem dX1_countLargest_1 : decode cX1_countLargest 1 = .ok (.aload_n 0, 1) := by decide +kernel
theorem dX1_countLargest_2 : decode cX1_countLargest 2 = .ok (.invokevirtual 37, 3) := by decide +kernel
theorem dX1_countLargest_5 : decode cX1_countLargest 5 = .ok (.iconst 0, 1) := by decide +kernel
theorem dX1_countLargest_6 : decode cX1_countLargest 6 = .ok (.invokevirtual 92, 3) := by decide +kernel
theorem dX1_countLargest_9 : decode cX1_countLargest 9 = .ok (.l2i, 1) := by decide +kernel
theorem dX1_countLargest_10 : decode cX1_countLargest 10 = .ok (.ireturn, 1) := by decide +kernel
theorem dX1_tally_0 : decode cX1_tally 0 = .ok (.iload_n 3, 1) := by decide +kernel
theorem dX1_tally_1 : decode cX1_tally 1 = .ok (.bipush 64, 2) := by decide +kernel
theorem dX1_tally_3 : decode cX1_tally 3 = .ok (.if_icmp .le 5, 3) := by decide +kernel
theorem dX1_tally_6 : decode cX1_tally 6 = .ok (.lconst 0, 1) := by decide +kernel
theorem dX1_tally_7 : decode cX1_tally 7 = .ok (.lreturn, 1) := by decide +kernel
theorem dX1_tally_8 : decode cX1_tally 8 = .ok (.lconst 0, 1) := by decide +kernel
theorem dX1_tally_9 : decode cX1_tally 9 = .ok (.lstore 4, 2) := by decide +kernel
theorem dX1_tally_11 : decode cX1_tally 11 = .ok (.lconst 1, 1) := by decide +kernel
theorem dX1_tally_12 : decode cX1_tally 12 = .ok (.lstore 6, 2) := by decide +kernel
theorem dX1_tally_14 : decode cX1_tally 14 = .ok (.lload_n 1, 1) := by decide +kernel
theorem dX1_tally_15 : decode cX1_tally 15 = .ok (.lstore 8, 2) := by decide +kernel
theorem dX1_tally_17 : decode cX1_tally 17 = .ok (.iconst (-1), 1) := by decide +kernel
theorem dX1_tally_18 : decode cX1_tally 18 = .ok (.istore 10, 2) := by decide +kernel
theorem dX1_tally_20 : decode cX1_tally 20 = .ok (.iconst 0, 1) := by decide +kernel
theorem dX1_tally_21 : decode cX1_tally 21 = .ok (.istore 11, 2) := by decide +kernel
theorem dX1_tally_23 : decode cX1_tally 23 = .ok (.iconst 0, 1) := by decide +kernel
theorem dX1_tally_24 : decode cX1_tally 24 = .ok (.istore 12, 2) := by decide +kernel
theorem dX1_tally_26 : decode cX1_tally 26 = .ok (.iload 12, 2) := by decide +kernel
theorem dX1_tally_28 : decode cX1_tally 28 = .ok (.aload_n 0, 1) := by decide +kernel
theorem dX1_tally_29 : decode cX1_tally 29 = .ok (.getfield 15, 3) := by decide +kernel
theorem dX1_tally_32 : decode cX1_tally 32 = .ok (.if_icmp .ge 97, 3) := by decide +kernel
theorem dX1_tally_35 : decode cX1_tally 35 = .ok (.aload_n 0, 1) := by decide +kernel
theorem dX1_tally_36 : decode cX1_tally 36 = .ok (.getfield 9, 3) := by decide +kernel
theorem dX1_tally_39 : decode cX1_tally 39 = .ok (.iload 12, 2) := by decide +kernel
theorem dX1_tally_41 : decode cX1_tally 41 = .ok (.laload, 1) := by decide +kernel
theorem dX1_tally_42 : decode cX1_tally 42 = .ok (.lload 8, 2) := by decide +kernel
theorem dX1_tally_44 : decode cX1_tally 44 = .ok (.land, 1) := by decide +kernel
theorem dX1_tally_45 : decode cX1_tally 45 = .ok (.lstore 13, 2) := by decide +kernel
theorem dX1_tally_47 : decode cX1_tally 47 = .ok (.lload 13, 2) := by decide +kernel
theorem dX1_tally_49 : decode cX1_tally 49 = .ok (.invokestatic 73, 3) := by decide +kernel
theorem dX1_tally_52 : decode cX1_tally 52 = .ok (.istore 15, 2) := by decide +kernel
theorem dX1_tally_54 : decode cX1_tally 54 = .ok (.lload 8, 2) := by decide +kernel
theorem dX1_tally_56 : decode cX1_tally 56 = .ok (.iload 12, 2) := by decide +kernel
theorem dX1_tally_58 : decode cX1_tally 58 = .ok (.lushr, 1) := by decide +kernel
theorem dX1_tally_59 : decode cX1_tally 59 = .ok (.lconst 1, 1) := by decide +kernel
theorem dX1_tally_60 : decode cX1_tally 60 = .ok (.land, 1) := by decide +kernel
theorem dX1_tally_61 : decode cX1_tally 61 = .ok (.lconst 0, 1) := by decide +kernel
theorem dX1_tally_62 : decode cX1_tally 62 = .ok (.lcmp, 1) := by decide +kernel
theorem dX1_tally_63 : decode cX1_tally 63 = .ok (.ifCond .ne 6, 3) := by decide +kernel
theorem dX1_tally_66 : decode cX1_tally 66 = .ok (.goto 57, 3) := by decide +kernel
theorem dX1_tally_69 : decode cX1_tally 69 = .ok (.aload_n 0, 1) := by decide +kernel
theorem dX1_tally_70 : decode cX1_tally 70 = .ok (.lload 13, 2) := by decide +kernel
theorem dX1_tally_72 : decode cX1_tally 72 = .ok (.lload 8, 2) := by decide +kernel
theorem dX1_tally_74 : decode cX1_tally 74 = .ok (.invokevirtual 96, 3) := by decide +kernel
theorem dX1_tally_77 : decode cX1_tally 77 = .ok (.ifCond .eq 31, 3) := by decide +kernel
theorem dX1_tally_80 : decode cX1_tally 80 = .ok (.lload 4, 2) := by decide +kernel
theorem dX1_tally_82 : decode cX1_tally 82 = .ok (.lconst 1, 1) := by decide +kernel
theorem dX1_tally_83 : decode cX1_tally 83 = .ok (.ladd, 1) := by decide +kernel
theorem dX1_tally_84 : decode cX1_tally 84 = .ok (.lstore 4, 2) := by decide +kernel
theorem dX1_tally_86 : decode cX1_tally 86 = .ok (.lload 6, 2) := by decide +kernel
theorem dX1_tally_88 : decode cX1_tally 88 = .ok (.iload 15, 2) := by decide +kernel
theorem dX1_tally_90 : decode cX1_tally 90 = .ok (.i2l, 1) := by decide +kernel
theorem dX1_tally_91 : decode cX1_tally 91 = .ok (.lmul, 1) := by decide +kernel
theorem dX1_tally_92 : decode cX1_tally 92 = .ok (.lstore 6, 2) := by decide +kernel
theorem dX1_tally_94 : decode cX1_tally 94 = .ok (.lload 8, 2) := by decide +kernel
theorem dX1_tally_96 : decode cX1_tally 96 = .ok (.lload 13, 2) := by decide +kernel
theorem dX1_tally_98 : decode cX1_tally 98 = .ok (.ldc2_w 41, 3) := by decide +kernel
theorem dX1_tally_101 : decode cX1_tally 101 = .ok (.lxor, 1) := by decide +kernel
theorem dX1_tally_102 : decode cX1_tally 102 = .ok (.land, 1) := by decide +kernel
theorem dX1_tally_103 : decode cX1_tally 103 = .ok (.lstore 8, 2) := by decide +kernel
theorem dX1_tally_105 : decode cX1_tally 105 = .ok (.goto 18, 3) := by decide +kernel
theorem dX1_tally_108 : decode cX1_tally 108 = .ok (.iload 15, 2) := by decide +kernel
theorem dX1_tally_110 : decode cX1_tally 110 = .ok (.iload 11, 2) := by decide +kernel
theorem dX1_tally_112 : decode cX1_tally 112 = .ok (.if_icmp .le 11, 3) := by decide +kernel
theorem dX1_tally_115 : decode cX1_tally 115 = .ok (.iload 15, 2) := by decide +kernel
theorem dX1_tally_117 : decode cX1_tally 117 = .ok (.istore 11, 2) := by decide +kernel
theorem dX1_tally_119 : decode cX1_tally 119 = .ok (.iload 12, 2) := by decide +kernel
theorem dX1_tally_121 : decode cX1_tally 121 = .ok (.istore 10, 2) := by decide +kernel
theorem dX1_tally_123 : decode cX1_tally 123 = .ok (.iinc 12 1, 3) := by decide +kernel
theorem dX1_tally_126 : decode cX1_tally 126 = .ok (.goto (-100), 3) := by decide +kernel
theorem dX1_tally_129 : decode cX1_tally 129 = .ok (.iload 10, 2) := by decide +kernel
theorem dX1_tally_131 : decode cX1_tally 131 = .ok (.ifCond .ge 12, 3) := by decide +kernel
theorem dX1_tally_134 : decode cX1_tally 134 = .ok (.lload 4, 2) := by decide +kernel
theorem dX1_tally_136 : decode cX1_tally 136 = .ok (.bipush 32, 2) := by decide +kernel
theorem dX1_tally_138 : decode cX1_tally 138 = .ok (.lshl, 1) := by decide +kernel
theorem dX1_tally_139 : decode cX1_tally 139 = .ok (.lload 6, 2) := by decide +kernel
theorem dX1_tally_141 : decode cX1_tally 141 = .ok (.lor, 1) := by decide +kernel
theorem dX1_tally_142 : decode cX1_tally 142 = .ok (.lreturn, 1) := by decide +kernel
theorem dX1_tally_143 : decode cX1_tally 143 = .ok (.aload_n 0, 1) := by decide +kernel
theorem dX1_tally_144 : decode cX1_tally 144 = .ok (.lload 8, 2) := by decide +kernel
theorem dX1_tally_146 : decode cX1_tally 146 = .ok (.aload_n 0, 1) := by decide +kernel
theorem dX1_tally_147 : decode cX1_tally 147 = .ok (.getfield 9, 3) := by decide +kernel
theorem dX1_tally_150 : decode cX1_tally 150 = .ok (.iload 10, 2) := by decide +kernel
theorem dX1_tally_152 : decode cX1_tally 152 = .ok (.laload, 1) := by decide +kernel
theorem dX1_tally_153 : decode cX1_tally 153 = .ok (.ldc2_w 41, 3) := by decide +kernel
theorem dX1_tally_156 : decode cX1_tally 156 = .ok (.lxor, 1) := by decide +kernel
theorem dX1_tally_157 : decode cX1_tally 157 = .ok (.land, 1) := by decide +kernel
theorem dX1_tally_158 : decode cX1_tally 158 = .ok (.iload_n 3, 1) := by decide +kernel
theorem dX1_tally_159 : decode cX1_tally 159 = .ok (.iconst 1, 1) := by decide +kernel
theorem dX1_tally_160 : decode cX1_tally 160 = .ok (.iadd, 1) := by decide +kernel
theorem dX1_tally_161 : decode cX1_tally 161 = .ok (.invokevirtual 92, 3) := by decide +kernel
theorem dX1_tally_164 : decode cX1_tally 164 = .ok (.ldc2_w 99, 3) := by decide +kernel
theorem dX1_tally_167 : decode cX1_tally 167 = .ok (.ladd, 1) := by decide +kernel
theorem dX1_tally_168 : decode cX1_tally 168 = .ok (.lstore 12, 2) := by decide +kernel
theorem dX1_tally_170 : decode cX1_tally 170 = .ok (.aload_n 0, 1) := by decide +kernel
theorem dX1_tally_171 : decode cX1_tally 171 = .ok (.lload 8, 2) := by decide +kernel
theorem dX1_tally_173 : decode cX1_tally 173 = .ok (.lconst 1, 1) := by decide +kernel
theorem dX1_tally_174 : decode cX1_tally 174 = .ok (.iload 10, 2) := by decide +kernel
theorem dX1_tally_176 : decode cX1_tally 176 = .ok (.lshl, 1) := by decide +kernel
theorem dX1_tally_177 : decode cX1_tally 177 = .ok (.ldc2_w 41, 3) := by decide +kernel
theorem dX1_tally_180 : decode cX1_tally 180 = .ok (.lxor, 1) := by decide +kernel
theorem dX1_tally_181 : decode cX1_tally 181 = .ok (.land, 1) := by decide +kernel
theorem dX1_tally_182 : decode cX1_tally 182 = .ok (.iload_n 3, 1) := by decide +kernel
theorem dX1_tally_183 : decode cX1_tally 183 = .ok (.iconst 1, 1) := by decide +kernel
theorem dX1_tally_184 : decode cX1_tally 184 = .ok (.iadd, 1) := by decide +kernel
theorem dX1_tally_185 : decode cX1_tally 185 = .ok (.invokevirtual 92, 3) := by decide +kernel
theorem dX1_tally_188 : decode cX1_tally 188 = .ok (.lstore 14, 2) := by decide +kernel
theorem dX1_tally_190 : decode cX1_tally 190 = .ok (.lload 12, 2) := by decide +kernel
theorem dX1_tally_192 : decode cX1_tally 192 = .ok (.lload 14, 2) := by decide +kernel
theorem dX1_tally_194 : decode cX1_tally 194 = .ok (.invokestatic 101, 3) := by decide +kernel
theorem dX1_tally_197 : decode cX1_tally 197 = .ok (.lstore 16, 2) := by decide +kernel
theorem dX1_tally_199 : decode cX1_tally 199 = .ok (.lload 4, 2) := by decide +kernel
theorem dX1_tally_201 : decode cX1_tally 201 = .ok (.bipush 32, 2) := by decide +kernel
theorem dX1_tally_203 : decode cX1_tally 203 = .ok (.lshl, 1) := by decide +kernel
theorem dX1_tally_204 : decode cX1_tally 204 = .ok (.lload 16, 2) := by decide +kernel
theorem dX1_tally_206 : decode cX1_tally 206 = .ok (.bipush 32, 2) := by decide +kernel
theorem dX1_tally_208 : decode cX1_tally 208 = .ok (.lushr, 1) := by decide +kernel
theorem dX1_tally_209 : decode cX1_tally 209 = .ok (.bipush 32, 2) := by decide +kernel
theorem dX1_tally_211 : decode cX1_tally 211 = .ok (.lshl, 1) := by decide +kernel
theorem dX1_tally_212 : decode cX1_tally 212 = .ok (.ladd, 1) := by decide +kernel
theorem dX1_tally_213 : decode cX1_tally 213 = .ok (.lload 16, 2) := by decide +kernel
theorem dX1_tally_215 : decode cX1_tally 215 = .ok (.ldc2_w 105, 3) := by decide +kernel
theorem dX1_tally_218 : decode cX1_tally 218 = .ok (.land, 1) := by decide +kernel
theorem dX1_tally_219 : decode cX1_tally 219 = .ok (.lload 6, 2) := by decide +kernel
theorem dX1_tally_221 : decode cX1_tally 221 = .ok (.lmul, 1) := by decide +kernel
theorem dX1_tally_222 : decode cX1_tally 222 = .ok (.ladd, 1) := by decide +kernel
theorem dX1_tally_223 : decode cX1_tally 223 = .ok (.lreturn, 1) := by decide +kernel
theorem dX1_standsApart_0 : decode cX1_standsApart 0 = .ok (.lload_n 1, 1) := by decide +kernel
theorem dX1_standsApart_1 : decode cX1_standsApart 1 = .ok (.lstore 5, 2) := by decide +kernel
theorem dX1_standsApart_3 : decode cX1_standsApart 3 = .ok (.lload_n 1, 1) := by decide +kernel
theorem dX1_standsApart_4 : decode cX1_standsApart 4 = .ok (.invokestatic 73, 3) := by decide +kernel
theorem dX1_standsApart_7 : decode cX1_standsApart 7 = .ok (.istore 7, 2) := by decide +kernel
theorem dX1_standsApart_9 : decode cX1_standsApart 9 = .ok (.iconst 0, 1) := by decide +kernel
theorem dX1_standsApart_10 : decode cX1_standsApart 10 = .ok (.istore 8, 2) := by decide +kernel
theorem dX1_standsApart_12 : decode cX1_standsApart 12 = .ok (.iload 8, 2) := by decide +kernel
theorem dX1_standsApart_14 : decode cX1_standsApart 14 = .ok (.iload 7, 2) := by decide +kernel
theorem dX1_standsApart_16 : decode cX1_standsApart 16 = .ok (.if_icmp .ge 37, 3) := by decide +kernel
theorem dX1_standsApart_19 : decode cX1_standsApart 19 = .ok (.aload_n 0, 1) := by decide +kernel
theorem dX1_standsApart_20 : decode cX1_standsApart 20 = .ok (.getfield 9, 3) := by decide +kernel
theorem dX1_standsApart_23 : decode cX1_standsApart 23 = .ok (.lload 5, 2) := by decide +kernel
theorem dX1_standsApart_25 : decode cX1_standsApart 25 = .ok (.invokestatic 85, 3) := by decide +kernel
theorem dX1_standsApart_28 : decode cX1_standsApart 28 = .ok (.laload, 1) := by decide +kernel
theorem dX1_standsApart_29 : decode cX1_standsApart 29 = .ok (.lload_n 3, 1) := by decide +kernel
theorem dX1_standsApart_30 : decode cX1_standsApart 30 = .ok (.land, 1) := by decide +kernel
theorem dX1_standsApart_31 : decode cX1_standsApart 31 = .ok (.lload_n 1, 1) := by decide +kernel
theorem dX1_standsApart_32 : decode cX1_standsApart 32 = .ok (.lcmp, 1) := by decide +kernel
theorem dX1_standsApart_33 : decode cX1_standsApart 33 = .ok (.ifCond .eq 5, 3) := by decide +kernel
theorem dX1_standsApart_36 : decode cX1_standsApart 36 = .ok (.iconst 0, 1) := by decide +kernel
theorem dX1_standsApart_37 : decode cX1_standsApart 37 = .ok (.ireturn, 1) := by decide +kernel
theorem dX1_standsApart_38 : decode cX1_standsApart 38 = .ok (.lload 5, 2) := by decide +kernel
theorem dX1_standsApart_40 : decode cX1_standsApart 40 = .ok (.lload 5, 2) := by decide +kernel
theorem dX1_standsApart_42 : decode cX1_standsApart 42 = .ok (.lconst 1, 1) := by decide +kernel
theorem dX1_standsApart_43 : decode cX1_standsApart 43 = .ok (.lsub, 1) := by decide +kernel
theorem dX1_standsApart_44 : decode cX1_standsApart 44 = .ok (.land, 1) := by decide +kernel
theorem dX1_standsApart_45 : decode cX1_standsApart 45 = .ok (.lstore 5, 2) := by decide +kernel
theorem dX1_standsApart_47 : decode cX1_standsApart 47 = .ok (.iinc 8 1, 3) := by decide +kernel
theorem dX1_standsApart_50 : decode cX1_standsApart 50 = .ok (.goto (-38), 3) := by decide +kernel
theorem dX1_standsApart_53 : decode cX1_standsApart 53 = .ok (.iconst 1, 1) := by decide +kernel
theorem dX1_standsApart_54 : decode cX1_standsApart 54 = .ok (.ireturn, 1) := by decide +kernel
theorem dX1_joinTallies_0 : decode cX1_joinTallies 0 = .ok (.lload_n 0, 1) := by decide +kernel
theorem dX1_joinTallies_1 : decode cX1_joinTallies 1 = .ok (.bipush 32, 2) := by decide +kernel
theorem dX1_joinTallies_3 : decode cX1_joinTallies 3 = .ok (.lushr, 1) := by decide +kernel
theorem dX1_joinTallies_4 : decode cX1_joinTallies 4 = .ok (.lload_n 2, 1) := by decide +kernel
theorem dX1_joinTallies_5 : decode cX1_joinTallies 5 = .ok (.bipush 32, 2) := by decide +kernel
theorem dX1_joinTallies_7 : decode cX1_joinTallies 7 = .ok (.lushr, 1) := by decide +kernel
theorem dX1_joinTallies_8 : decode cX1_joinTallies 8 = .ok (.lcmp, 1) := by decide +kernel
theorem dX1_joinTallies_9 : decode cX1_joinTallies 9 = .ok (.ifCond .ne 11, 3) := by decide +kernel
theorem dX1_joinTallies_12 : decode cX1_joinTallies 12 = .ok (.lload_n 0, 1) := by decide +kernel
theorem dX1_joinTallies_13 : decode cX1_joinTallies 13 = .ok (.lload_n 2, 1) := by decide +kernel
theorem dX1_joinTallies_14 : decode cX1_joinTallies 14 = .ok (.ldc2_w 105, 3) := by decide +kernel
theorem dX1_joinTallies_17 : decode cX1_joinTallies 17 = .ok (.land, 1) := by decide +kernel
theorem dX1_joinTallies_18 : decode cX1_joinTallies 18 = .ok (.ladd, 1) := by decide +kernel
theorem dX1_joinTallies_19 : decode cX1_joinTallies 19 = .ok (.lreturn, 1) := by decide +kernel
theorem dX1_joinTallies_20 : decode cX1_joinTallies 20 = .ok (.lload_n 0, 1) := by decide +kernel
theorem dX1_joinTallies_21 : decode cX1_joinTallies 21 = .ok (.lload_n 2, 1) := by decide +kernel
theorem dX1_joinTallies_22 : decode cX1_joinTallies 22 = .ok (.invokestatic 107, 3) := by decide +kernel
theorem dX1_joinTallies_25 : decode cX1_joinTallies 25 = .ok (.lreturn, 1) := by decide +kernel
theorem dX2_init_0 : decode cX2_init 0 = .ok (.aload_n 0, 1) := by decide +kernel
theorem dX2_init_1 : decode cX2_init 1 = .ok (.invokespecial 3, 3) := by decide +kernel
theorem dX2_init_4 : decode cX2_init 4 = .ok (.aload_n 0, 1) := by decide +kernel
theorem dX2_init_5 : decode cX2_init 5 = .ok (.bipush 24, 2) := by decide +kernel
theorem dX2_init_7 : decode cX2_init 7 = .ok (.newarray .int, 2) := by decide +kernel
theorem dX2_init_9 : decode cX2_init 9 = .ok (.putfield 9, 3) := by decide +kernel
theorem dX2_init_12 : decode cX2_init 12 = .ok (.aload_n 0, 1) := by decide +kernel
theorem dX2_init_13 : decode cX2_init 13 = .ok (.bipush 24, 2) := by decide +kernel
theorem dX2_init_15 : decode cX2_init 15 = .ok (.newarray .int, 2) := by decide +kernel
theorem dX2_init_17 : decode cX2_init 17 = .ok (.putfield 15, 3) := by decide +kernel
theorem dX2_init_20 : decode cX2_init 20 = .ok (.aload_n 0, 1) := by decide +kernel
theorem dX2_init_21 : decode cX2_init 21 = .ok (.bipush 24, 2) := by decide +kernel
theorem dX2_init_23 : decode cX2_init 23 = .ok (.newarray .int, 2) := by decide +kernel
theorem dX2_init_25 : decode cX2_init 25 = .ok (.putfield 18, 3) := by decide +kernel
theorem dX2_init_28 : decode cX2_init 28 = .ok (.aload_n 0, 1) := by decide +kernel
theorem dX2_init_29 : decode cX2_init 29 = .ok (.bipush 24, 2) := by decide +kernel
theorem dX2_init_31 : decode cX2_init 31 = .ok (.newarray .int, 2) := by decide +kernel
theorem dX2_init_33 : decode cX2_init 33 = .ok (.putfield 21, 3) := by decide +kernel
theorem dX2_init_36 : decode cX2_init 36 = .ok (.aload_n 0, 1) := by decide +kernel
theorem dX2_init_37 : decode cX2_init 37 = .ok (.sipush 512, 3) := by decide +kernel
theorem dX2_init_40 : decode cX2_init 40 = .ok (.newarray .long, 2) := by decide +kernel
theorem dX2_init_42 : decode cX2_init 42 = .ok (.putfield 24, 3) := by decide +kernel
theorem dX2_init_45 : decode cX2_init 45 = .ok (.aload_n 0, 1) := by decide +kernel
theorem dX2_init_46 : decode cX2_init 46 = .ok (.lconst 0, 1) := by decide +kernel
theorem dX2_init_47 : decode cX2_init 47 = .ok (.putfield 28, 3) := by decide +kernel
theorem dX2_init_50 : decode cX2_init 50 = .ok (.aload_n 0, 1) := by decide +kernel
theorem dX2_init_51 : decode cX2_init 51 = .ok (.iconst 0, 1) := by decide +kernel
theorem dX2_init_52 : decode cX2_init 52 = .ok (.putfield 32, 3) := by decide +kernel
theorem dX2_init_55 : decode cX2_init 55 = .ok (.aload_n 0, 1) := by decide +kernel
theorem dX2_init_56 : decode cX2_init 56 = .ok (.iconst 0, 1) := by decide +kernel
theorem dX2_init_57 : decode cX2_init 57 = .ok (.putfield 36, 3) := by decide +kernel
theorem dX2_init_60 : decode cX2_init 60 = .ok (.aload_n 0, 1) := by decide +kernel
theorem dX2_init_61 : decode cX2_init 61 = .ok (.iconst 0, 1) := by decide +kernel
theorem dX2_init_62 : decode cX2_init 62 = .ok (.putfield 39, 3) := by decide +kernel
theorem dX2_init_65 : decode cX2_init 65 = .ok (.return_, 1) := by decide +kernel
theorem dX2_fewest_0 : decode cX2_fewest 0 = .ok (.aload_n 0, 1) := by decide +kernel
theorem dX2_fewest_1 : decode cX2_fewest 1 = .ok (.aload_n 1, 1) := by decide +kernel
theorem dX2_fewest_2 : decode cX2_fewest 2 = .ok (.getfield 42, 3) := by decide +kernel
theorem dX2_fewest_5 : decode cX2_fewest 5 = .ok (.putfield 32, 3) := by decide +kernel
theorem dX2_fewest_8 : decode cX2_fewest 8 = .ok (.aload_n 0, 1) := by decide +kernel
theorem dX2_fewest_9 : decode cX2_fewest 9 = .ok (.iload_n 3, 1) := by decide +kernel
theorem dX2_fewest_10 : decode cX2_fewest 10 = .ok (.putfield 39, 3) := by decide +kernel
theorem dX2_fewest_13 : decode cX2_fewest 13 = .ok (.iconst 0, 1) := by decide +kernel
theorem dX2_fewest_14 : decode cX2_fewest 14 = .ok (.istore 4, 2) := by decide +kernel
theorem dX2_fewest_16 : decode cX2_fewest 16 = .ok (.iload 4, 2) := by decide +kernel
theorem dX2_fewest_18 : decode cX2_fewest 18 = .ok (.aload_n 0, 1) := by decide +kernel
theorem dX2_fewest_19 : decode cX2_fewest 19 = .ok (.getfield 32, 3) := by decide +kernel
theorem dX2_fewest_22 : decode cX2_fewest 22 = .ok (.if_icmp .ge 23, 3) := by decide +kernel
theorem dX2_fewest_25 : decode cX2_fewest 25 = .ok (.aload_n 0, 1) := by decide +kernel
theorem dX2_fewest_26 : decode cX2_fewest 26 = .ok (.getfield 9, 3) := by decide +kernel
theorem dX2_fewest_29 : decode cX2_fewest 29 = .ok (.iload 4, 2) := by decide +kernel
theorem dX2_fewest_31 : decode cX2_fewest 31 = .ok (.aload_n 1, 1) := by decide +kernel
theorem dX2_fewest_32 : decode cX2_fewest 32 = .ok (.getfield 45, 3) := by decide +kernel
theorem dX2_fewest_35 : decode cX2_fewest 35 = .ok (.iload 4, 2) := by decide +kernel
theorem dX2_fewest_37 : decode cX2_fewest 37 = .ok (.iaload, 1) := by decide +kernel
theorem dX2_fewest_38 : decode cX2_fewest 38 = .ok (.iastore, 1) := by decide +kernel
theorem dX2_fewest_39 : decode cX2_fewest 39 = .ok (.iinc 4 1, 3) := by decide +kernel
theorem dX2_fewest_42 : decode cX2_fewest 42 = .ok (.goto (-26), 3) := by decide +kernel
theorem dX2_fewest_45 : decode cX2_fewest 45 = .ok (.aload_n 0, 1) := by decide +kernel
theorem dX2_fewest_46 : decode cX2_fewest 46 = .ok (.iconst 1, 1) := by decide +kernel
theorem dX2_fewest_47 : decode cX2_fewest 47 = .ok (.iload_n 2, 1) := by decide +kernel
theorem dX2_fewest_48 : decode cX2_fewest 48 = .ok (.invokestatic 46, 3) := by decide +kernel
theorem dX2_fewest_51 : decode cX2_fewest 51 = .ok (.putfield 36, 3) := by decide +kernel
theorem dX2_fewest_54 : decode cX2_fewest 54 = .ok (.aload_n 0, 1) := by decide +kernel
theorem dX2_fewest_55 : decode cX2_fewest 55 = .ok (.getfield 36, 3) := by decide +kernel
theorem dX2_fewest_58 : decode cX2_fewest 58 = .ok (.aload_n 0, 1) := by decide +kernel
theorem dX2_fewest_59 : decode cX2_fewest 59 = .ok (.getfield 32, 3) := by decide +kernel
theorem dX2_fewest_62 : decode cX2_fewest 62 = .ok (.if_icmp .ge 32, 3) := by decide +kernel
theorem dX2_fewest_65 : decode cX2_fewest 65 = .ok (.aload_n 0, 1) := by decide +kernel
theorem dX2_fewest_66 : decode cX2_fewest 66 = .ok (.iconst 1, 1) := by decide +kernel
theorem dX2_fewest_67 : decode cX2_fewest 67 = .ok (.aload_n 0, 1) := by decide +kernel
theorem dX2_fewest_68 : decode cX2_fewest 68 = .ok (.getfield 32, 3) := by decide +kernel
theorem dX2_fewest_71 : decode cX2_fewest 71 = .ok (.ishl, 1) := by decide +kernel
theorem dX2_fewest_72 : decode cX2_fewest 72 = .ok (.iconst 1, 1) := by decide +kernel
theorem dX2_fewest_73 : decode cX2_fewest 73 = .ok (.isub, 1) := by decide +kernel
theorem dX2_fewest_74 : decode cX2_fewest 74 = .ok (.iconst 0, 1) := by decide +kernel
theorem dX2_fewest_75 : decode cX2_fewest 75 = .ok (.invokevirtual 52, 3) := by decide +kernel
theorem dX2_fewest_78 : decode cX2_fewest 78 = .ok (.ifCond .ne 16, 3) := by decide +kernel
theorem dX2_fewest_81 : decode cX2_fewest 81 = .ok (.aload_n 0, 1) := by decide +kernel
theorem dX2_fewest_82 : decode cX2_fewest 82 = .ok (.dup, 1) := by decide +kernel
theorem dX2_fewest_83 : decode cX2_fewest 83 = .ok (.getfield 36, 3) := by decide +kernel
theorem dX2_fewest_86 : decode cX2_fewest 86 = .ok (.iconst 1, 1) := by decide +kernel
theorem dX2_fewest_87 : decode cX2_fewest 87 = .ok (.iadd, 1) := by decide +kernel
theorem dX2_fewest_88 : decode cX2_fewest 88 = .ok (.putfield 36, 3) := by decide +kernel
theorem dX2_fewest_91 : decode cX2_fewest 91 = .ok (.goto (-37), 3) := by decide +kernel
theorem dX2_fewest_94 : decode cX2_fewest 94 = .ok (.aload_n 0, 1) := by decide +kernel
theorem dX2_fewest_95 : decode cX2_fewest 95 = .ok (.getfield 36, 3) := by decide +kernel
theorem dX2_fewest_98 : decode cX2_fewest 98 = .ok (.ireturn, 1) := by decide +kernel
theorem dX2_leastRow_0 : decode cX2_leastRow 0 = .ok (.iconst 1, 1) := by decide +kernel
theorem dX2_leastRow_1 : decode cX2_leastRow 1 = .ok (.aload_n 0, 1) := by decide +kernel
theorem dX2_leastRow_2 : decode cX2_leastRow 2 = .ok (.getfield 32, 3) := by decide +kernel
theorem dX2_leastRow_5 : decode cX2_leastRow 5 = .ok (.ishl, 1) := by decide +kernel
theorem dX2_leastRow_6 : decode cX2_leastRow 6 = .ok (.iconst 1, 1) := by decide +kernel
theorem dX2_leastRow_7 : decode cX2_leastRow 7 = .ok (.isub, 1) := by decide +kernel
theorem dX2_leastRow_8 : decode cX2_leastRow 8 = .ok (.istore_n 2, 1) := by decide +kernel
theorem dX2_leastRow_9 : decode cX2_leastRow 9 = .ok (.iconst 0, 1) := by decide +kernel
theorem dX2_leastRow_10 : decode cX2_leastRow 10 = .ok (.istore_n 3, 1) := by decide +kernel
theorem dX2_leastRow_11 : decode cX2_leastRow 11 = .ok (.iconst 0, 1) := by decide +kernel
theorem dX2_leastRow_12 : decode cX2_leastRow 12 = .ok (.istore 4, 2) := by decide +kernel
theorem dX2_leastRow_14 : decode cX2_leastRow 14 = .ok (.iload 4, 2) := by decide +kernel
theorem dX2_leastRow_16 : decode cX2_leastRow 16 = .ok (.aload_n 0, 1) := by decide +kernel
theorem dX2_leastRow_17 : decode cX2_leastRow 17 = .ok (.getfield 32, 3) := by decide +kernel
theorem dX2_leastRow_20 : decode cX2_leastRow 20 = .ok (.if_icmp .ge 66, 3) := by decide +kernel
theorem dX2_leastRow_23 : decode cX2_leastRow 23 = .ok (.iload_n 2, 1) := by decide +kernel
theorem dX2_leastRow_24 : decode cX2_leastRow 24 = .ok (.iconst 1, 1) := by decide +kernel
theorem dX2_leastRow_25 : decode cX2_leastRow 25 = .ok (.iload 4, 2) := by decide +kernel
theorem dX2_leastRow_27 : decode cX2_leastRow 27 = .ok (.ishl, 1) := by decide +kernel
theorem dX2_leastRow_28 : decode cX2_leastRow 28 = .ok (.iconst (-1), 1) := by decide +kernel
theorem dX2_leastRow_29 : decode cX2_leastRow 29 = .ok (.ixor, 1) := by decide +kernel
theorem dX2_leastRow_30 : decode cX2_leastRow 30 = .ok (.iand, 1) := by decide +kernel
theorem dX2_leastRow_31 : decode cX2_leastRow 31 = .ok (.istore_n 2, 1) := by decide +kernel
theorem dX2_leastRow_32 : decode cX2_leastRow 32 = .ok (.aload_n 0, 1) := by decide +kernel
theorem dX2_leastRow_33 : decode cX2_leastRow 33 = .ok (.iload 4, 2) := by decide +kernel
theorem dX2_leastRow_35 : decode cX2_leastRow 35 = .ok (.iload_n 2, 1) := by decide +kernel
theorem dX2_leastRow_36 : decode cX2_leastRow 36 = .ok (.iload_n 3, 1) := by decide +kernel
theorem dX2_leastRow_37 : decode cX2_leastRow 37 = .ok (.invokevirtual 56, 3) := by decide +kernel
theorem dX2_leastRow_40 : decode cX2_leastRow 40 = .ok (.istore 5, 2) := by decide +kernel
theorem dX2_leastRow_42 : decode cX2_leastRow 42 = .ok (.iload 5, 2) := by decide +kernel
theorem dX2_leastRow_44 : decode cX2_leastRow 44 = .ok (.iload_n 3, 1) := by decide +kernel
theorem dX2_leastRow_45 : decode cX2_leastRow 45 = .ok (.if_icmp .ne 29, 3) := by decide +kernel
theorem dX2_leastRow_48 : decode cX2_leastRow 48 = .ok (.aload_n 0, 1) := by decide +kernel
theorem dX2_leastRow_49 : decode cX2_leastRow 49 = .ok (.getfield 18, 3) := by decide +kernel
theorem dX2_leastRow_52 : decode cX2_leastRow 52 = .ok (.iload 5, 2) := by decide +kernel
theorem dX2_leastRow_54 : decode cX2_leastRow 54 = .ok (.iload 4, 2) := by decide +kernel
theorem dX2_leastRow_56 : decode cX2_leastRow 56 = .ok (.iastore, 1) := by decide +kernel
theorem dX2_leastRow_57 : decode cX2_leastRow 57 = .ok (.aload_n 0, 1) := by decide +kernel
theorem dX2_leastRow_58 : decode cX2_leastRow 58 = .ok (.getfield 21, 3) := by decide +kernel
theorem dX2_leastRow_61 : decode cX2_leastRow 61 = .ok (.iload 5, 2) := by decide +kernel
theorem dX2_leastRow_63 : decode cX2_leastRow 63 = .ok (.aload_n 0, 1) := by decide +kernel
theorem dX2_leastRow_64 : decode cX2_leastRow 64 = .ok (.getfield 9, 3) := by decide +kernel
theorem dX2_leastRow_67 : decode cX2_leastRow 67 = .ok (.iload 4, 2) := by decide +kernel
theorem dX2_leastRow_69 : decode cX2_leastRow 69 = .ok (.iaload, 1) := by decide +kernel
theorem dX2_leastRow_70 : decode cX2_leastRow 70 = .ok (.iastore, 1) := by decide +kernel
theorem dX2_leastRow_71 : decode cX2_leastRow 71 = .ok (.iinc 3 1, 3) := by decide +kernel
theorem dX2_leastRow_74 : decode cX2_leastRow 74 = .ok (.aload_n 1, 1) := by decide +kernel
theorem dX2_leastRow_75 : decode cX2_leastRow 75 = .ok (.iload 4, 2) := by decide +kernel
theorem dX2_leastRow_77 : decode cX2_leastRow 77 = .ok (.iload 5, 2) := by decide +kernel
theorem dX2_leastRow_79 : decode cX2_leastRow 79 = .ok (.iastore, 1) := by decide +kernel
theorem dX2_leastRow_80 : decode cX2_leastRow 80 = .ok (.iinc 4 1, 3) := by decide +kernel
theorem dX2_leastRow_83 : decode cX2_leastRow 83 = .ok (.goto (-69), 3) := by decide +kernel
theorem dX2_leastRow_86 : decode cX2_leastRow 86 = .ok (.return_, 1) := by decide +kernel
theorem dX2_leastHeap_0 : decode cX2_leastHeap 0 = .ok (.iconst 0, 1) := by decide +kernel
