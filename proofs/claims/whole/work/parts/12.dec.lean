theorem dX5_hold_28 : decode cX5_hold 28 = .ok (.getfield 9, 3) := by decide +kernel
theorem dX5_hold_31 : decode cX5_hold 31 = .ok (.iload 5, 2) := by decide +kernel
theorem dX5_hold_33 : decode cX5_hold 33 = .ok (.laload, 1) := by decide +kernel
theorem dX5_hold_34 : decode cX5_hold 34 = .ok (.aload_n 0, 1) := by decide +kernel
theorem dX5_hold_35 : decode cX5_hold 35 = .ok (.getfield 13, 3) := by decide +kernel
theorem dX5_hold_38 : decode cX5_hold 38 = .ok (.iload 5, 2) := by decide +kernel
theorem dX5_hold_40 : decode cX5_hold 40 = .ok (.laload, 1) := by decide +kernel
theorem dX5_hold_41 : decode cX5_hold 41 = .ok (.lcmp, 1) := by decide +kernel
theorem dX5_hold_42 : decode cX5_hold 42 = .ok (.ifCond .eq 27, 3) := by decide +kernel
theorem dX5_hold_45 : decode cX5_hold 45 = .ok (.aload_n 0, 1) := by decide +kernel
theorem dX5_hold_46 : decode cX5_hold 46 = .ok (.getfield 9, 3) := by decide +kernel
theorem dX5_hold_49 : decode cX5_hold 49 = .ok (.iload 5, 2) := by decide +kernel
theorem dX5_hold_51 : decode cX5_hold 51 = .ok (.laload, 1) := by decide +kernel
theorem dX5_hold_52 : decode cX5_hold 52 = .ok (.aload_n 0, 1) := by decide +kernel
theorem dX5_hold_53 : decode cX5_hold 53 = .ok (.getfield 13, 3) := by decide +kernel
theorem dX5_hold_56 : decode cX5_hold 56 = .ok (.iload 5, 2) := by decide +kernel
theorem dX5_hold_58 : decode cX5_hold 58 = .ok (.laload, 1) := by decide +kernel
theorem dX5_hold_59 : decode cX5_hold 59 = .ok (.lcmp, 1) := by decide +kernel
theorem dX5_hold_60 : decode cX5_hold 60 = .ok (.ifCond .ge 7, 3) := by decide +kernel
theorem dX5_hold_63 : decode cX5_hold 63 = .ok (.iconst (-1), 1) := by decide +kernel
theorem dX5_hold_64 : decode cX5_hold 64 = .ok (.goto 4, 3) := by decide +kernel
theorem dX5_hold_67 : decode cX5_hold 67 = .ok (.iconst 1, 1) := by decide +kernel
theorem dX5_hold_68 : decode cX5_hold 68 = .ok (.ireturn, 1) := by decide +kernel
theorem dX5_hold_69 : decode cX5_hold 69 = .ok (.iinc 5 (-1), 3) := by decide +kernel
theorem dX5_hold_72 : decode cX5_hold 72 = .ok (.goto (-50), 3) := by decide +kernel
theorem dX5_hold_75 : decode cX5_hold 75 = .ok (.iconst 0, 1) := by decide +kernel
theorem dX5_hold_76 : decode cX5_hold 76 = .ok (.ireturn, 1) := by decide +kernel
theorem dX5_raise_0 : decode cX5_raise 0 = .ok (.iconst 0, 1) := by decide +kernel
theorem dX5_raise_1 : decode cX5_raise 1 = .ok (.istore_n 3, 1) := by decide +kernel
theorem dX5_raise_2 : decode cX5_raise 2 = .ok (.iload_n 3, 1) := by decide +kernel
theorem dX5_raise_3 : decode cX5_raise 3 = .ok (.iconst 4, 1) := by decide +kernel
theorem dX5_raise_4 : decode cX5_raise 4 = .ok (.if_icmp .ge 21, 3) := by decide +kernel
theorem dX5_raise_7 : decode cX5_raise 7 = .ok (.aload_n 0, 1) := by decide +kernel
theorem dX5_raise_8 : decode cX5_raise 8 = .ok (.iload_n 3, 1) := by decide +kernel
theorem dX5_raise_9 : decode cX5_raise 9 = .ok (.iload_n 3, 1) := by decide +kernel
theorem dX5_raise_10 : decode cX5_raise 10 = .ok (.ifCond .ne 7, 3) := by decide +kernel
theorem dX5_raise_13 : decode cX5_raise 13 = .ok (.lconst 1, 1) := by decide +kernel
theorem dX5_raise_14 : decode cX5_raise 14 = .ok (.goto 4, 3) := by decide +kernel
theorem dX5_raise_17 : decode cX5_raise 17 = .ok (.lconst 0, 1) := by decide +kernel
theorem dX5_raise_18 : decode cX5_raise 18 = .ok (.lastore, 1) := by decide +kernel
theorem dX5_raise_19 : decode cX5_raise 19 = .ok (.iinc 3 1, 3) := by decide +kernel
theorem dX5_raise_22 : decode cX5_raise 22 = .ok (.goto (-20), 3) := by decide +kernel
theorem dX5_raise_25 : decode cX5_raise 25 = .ok (.iconst 0, 1) := by decide +kernel
theorem dX5_raise_26 : decode cX5_raise 26 = .ok (.istore_n 3, 1) := by decide +kernel
theorem dX5_raise_27 : decode cX5_raise 27 = .ok (.iload_n 3, 1) := by decide +kernel
theorem dX5_raise_28 : decode cX5_raise 28 = .ok (.iload_n 2, 1) := by decide +kernel
theorem dX5_raise_29 : decode cX5_raise 29 = .ok (.if_icmp .ge 57, 3) := by decide +kernel
theorem dX5_raise_32 : decode cX5_raise 32 = .ok (.lconst 0, 1) := by decide +kernel
theorem dX5_raise_33 : decode cX5_raise 33 = .ok (.lstore 4, 2) := by decide +kernel
theorem dX5_raise_35 : decode cX5_raise 35 = .ok (.iconst 0, 1) := by decide +kernel
theorem dX5_raise_36 : decode cX5_raise 36 = .ok (.istore 6, 2) := by decide +kernel
theorem dX5_raise_38 : decode cX5_raise 38 = .ok (.iload 6, 2) := by decide +kernel
theorem dX5_raise_40 : decode cX5_raise 40 = .ok (.iconst 4, 1) := by decide +kernel
theorem dX5_raise_41 : decode cX5_raise 41 = .ok (.if_icmp .ge 39, 3) := by decide +kernel
theorem dX5_raise_44 : decode cX5_raise 44 = .ok (.aload_n 0, 1) := by decide +kernel
theorem dX5_raise_45 : decode cX5_raise 45 = .ok (.iload 6, 2) := by decide +kernel
theorem dX5_raise_47 : decode cX5_raise 47 = .ok (.laload, 1) := by decide +kernel
theorem dX5_raise_48 : decode cX5_raise 48 = .ok (.iload_n 1, 1) := by decide +kernel
theorem dX5_raise_49 : decode cX5_raise 49 = .ok (.i2l, 1) := by decide +kernel
theorem dX5_raise_50 : decode cX5_raise 50 = .ok (.lmul, 1) := by decide +kernel
theorem dX5_raise_51 : decode cX5_raise 51 = .ok (.lload 4, 2) := by decide +kernel
theorem dX5_raise_53 : decode cX5_raise 53 = .ok (.ladd, 1) := by decide +kernel
theorem dX5_raise_54 : decode cX5_raise 54 = .ok (.lstore 7, 2) := by decide +kernel
theorem dX5_raise_56 : decode cX5_raise 56 = .ok (.aload_n 0, 1) := by decide +kernel
theorem dX5_raise_57 : decode cX5_raise 57 = .ok (.iload 6, 2) := by decide +kernel
theorem dX5_raise_59 : decode cX5_raise 59 = .ok (.lload 7, 2) := by decide +kernel
theorem dX5_raise_61 : decode cX5_raise 61 = .ok (.ldc2_w 31, 3) := by decide +kernel
theorem dX5_raise_64 : decode cX5_raise 64 = .ok (.lrem, 1) := by decide +kernel
theorem dX5_raise_65 : decode cX5_raise 65 = .ok (.lastore, 1) := by decide +kernel
theorem dX5_raise_66 : decode cX5_raise 66 = .ok (.lload 7, 2) := by decide +kernel
theorem dX5_raise_68 : decode cX5_raise 68 = .ok (.ldc2_w 31, 3) := by decide +kernel
theorem dX5_raise_71 : decode cX5_raise 71 = .ok (.ldiv, 1) := by decide +kernel
theorem dX5_raise_72 : decode cX5_raise 72 = .ok (.lstore 4, 2) := by decide +kernel
theorem dX5_raise_74 : decode cX5_raise 74 = .ok (.iinc 6 1, 3) := by decide +kernel
theorem dX5_raise_77 : decode cX5_raise 77 = .ok (.goto (-39), 3) := by decide +kernel
theorem dX5_raise_80 : decode cX5_raise 80 = .ok (.iinc 3 1, 3) := by decide +kernel
theorem dX5_raise_83 : decode cX5_raise 83 = .ok (.goto (-56), 3) := by decide +kernel
theorem dX5_raise_86 : decode cX5_raise 86 = .ok (.return_, 1) := by decide +kernel
theorem dX5_isPower_0 : decode cX5_isPower 0 = .ok (.lconst 1, 1) := by decide +kernel
theorem dX5_isPower_1 : decode cX5_isPower 1 = .ok (.lstore 4, 2) := by decide +kernel
theorem dX5_isPower_3 : decode cX5_isPower 3 = .ok (.iconst 0, 1) := by decide +kernel
theorem dX5_isPower_4 : decode cX5_isPower 4 = .ok (.istore 6, 2) := by decide +kernel
theorem dX5_isPower_6 : decode cX5_isPower 6 = .ok (.iload 6, 2) := by decide +kernel
theorem dX5_isPower_8 : decode cX5_isPower 8 = .ok (.iload_n 3, 1) := by decide +kernel
theorem dX5_isPower_9 : decode cX5_isPower 9 = .ok (.if_icmp .ge 24, 3) := by decide +kernel
theorem dX5_isPower_12 : decode cX5_isPower 12 = .ok (.lload 4, 2) := by decide +kernel
theorem dX5_isPower_14 : decode cX5_isPower 14 = .ok (.iload_n 1, 1) := by decide +kernel
theorem dX5_isPower_15 : decode cX5_isPower 15 = .ok (.i2l, 1) := by decide +kernel
theorem dX5_isPower_16 : decode cX5_isPower 16 = .ok (.lcmp, 1) := by decide +kernel
theorem dX5_isPower_17 : decode cX5_isPower 17 = .ok (.ifCond .gt 16, 3) := by decide +kernel
theorem dX5_isPower_20 : decode cX5_isPower 20 = .ok (.lload 4, 2) := by decide +kernel
theorem dX5_isPower_22 : decode cX5_isPower 22 = .ok (.iload_n 2, 1) := by decide +kernel
theorem dX5_isPower_23 : decode cX5_isPower 23 = .ok (.i2l, 1) := by decide +kernel
theorem dX5_isPower_24 : decode cX5_isPower 24 = .ok (.lmul, 1) := by decide +kernel
theorem dX5_isPower_25 : decode cX5_isPower 25 = .ok (.lstore 4, 2) := by decide +kernel
theorem dX5_isPower_27 : decode cX5_isPower 27 = .ok (.iinc 6 1, 3) := by decide +kernel
theorem dX5_isPower_30 : decode cX5_isPower 30 = .ok (.goto (-24), 3) := by decide +kernel
theorem dX5_isPower_33 : decode cX5_isPower 33 = .ok (.lload 4, 2) := by decide +kernel
theorem dX5_isPower_35 : decode cX5_isPower 35 = .ok (.iload_n 1, 1) := by decide +kernel
theorem dX5_isPower_36 : decode cX5_isPower 36 = .ok (.i2l, 1) := by decide +kernel
theorem dX5_isPower_37 : decode cX5_isPower 37 = .ok (.lcmp, 1) := by decide +kernel
theorem dX5_isPower_38 : decode cX5_isPower 38 = .ok (.ifCond .ne 7, 3) := by decide +kernel
theorem dX5_isPower_41 : decode cX5_isPower 41 = .ok (.iconst 1, 1) := by decide +kernel
theorem dX5_isPower_42 : decode cX5_isPower 42 = .ok (.goto 4, 3) := by decide +kernel
theorem dX5_isPower_45 : decode cX5_isPower 45 = .ok (.iconst 0, 1) := by decide +kernel
theorem dX5_isPower_46 : decode cX5_isPower 46 = .ok (.ireturn, 1) := by decide +kernel
theorem dX6_init_0 : decode cX6_init 0 = .ok (.aload_n 0, 1) := by decide +kernel
theorem dX6_init_1 : decode cX6_init 1 = .ok (.invokespecial 3, 3) := by decide +kernel
theorem dX6_init_4 : decode cX6_init 4 = .ok (.aload_n 0, 1) := by decide +kernel
theorem dX6_init_5 : decode cX6_init 5 = .ok (.iconst 0, 1) := by decide +kernel
theorem dX6_init_6 : decode cX6_init 6 = .ok (.putfield 9, 3) := by decide +kernel
theorem dX6_init_9 : decode cX6_init 9 = .ok (.aload_n 0, 1) := by decide +kernel
theorem dX6_init_10 : decode cX6_init 10 = .ok (.iconst 1, 1) := by decide +kernel
theorem dX6_init_11 : decode cX6_init 11 = .ok (.putfield 15, 3) := by decide +kernel
theorem dX6_init_14 : decode cX6_init 14 = .ok (.aload_n 0, 1) := by decide +kernel
theorem dX6_init_15 : decode cX6_init 15 = .ok (.iconst 0, 1) := by decide +kernel
theorem dX6_init_16 : decode cX6_init 16 = .ok (.putfield 18, 3) := by decide +kernel
theorem dX6_init_19 : decode cX6_init 19 = .ok (.return_, 1) := by decide +kernel
theorem dX6_firstFlaw_0 : decode cX6_firstFlaw 0 = .ok (.iconst 0, 1) := by decide +kernel
theorem dX6_firstFlaw_1 : decode cX6_firstFlaw 1 = .ok (.istore_n 2, 1) := by decide +kernel
theorem dX6_firstFlaw_2 : decode cX6_firstFlaw 2 = .ok (.iload_n 2, 1) := by decide +kernel
theorem dX6_firstFlaw_3 : decode cX6_firstFlaw 3 = .ok (.aload_n 1, 1) := by decide +kernel
theorem dX6_firstFlaw_4 : decode cX6_firstFlaw 4 = .ok (.getfield 21, 3) := by decide +kernel
theorem dX6_firstFlaw_7 : decode cX6_firstFlaw 7 = .ok (.if_icmp .ge 61, 3) := by decide +kernel
theorem dX6_firstFlaw_10 : decode cX6_firstFlaw 10 = .ok (.iload_n 2, 1) := by decide +kernel
theorem dX6_firstFlaw_11 : decode cX6_firstFlaw 11 = .ok (.iconst 1, 1) := by decide +kernel
theorem dX6_firstFlaw_12 : decode cX6_firstFlaw 12 = .ok (.iadd, 1) := by decide +kernel
theorem dX6_firstFlaw_13 : decode cX6_firstFlaw 13 = .ok (.istore_n 3, 1) := by decide +kernel
theorem dX6_firstFlaw_14 : decode cX6_firstFlaw 14 = .ok (.iload_n 3, 1) := by decide +kernel
theorem dX6_firstFlaw_15 : decode cX6_firstFlaw 15 = .ok (.aload_n 1, 1) := by decide +kernel
theorem dX6_firstFlaw_16 : decode cX6_firstFlaw 16 = .ok (.getfield 21, 3) := by decide +kernel
theorem dX6_firstFlaw_19 : decode cX6_firstFlaw 19 = .ok (.if_icmp .ge 43, 3) := by decide +kernel
theorem dX6_firstFlaw_22 : decode cX6_firstFlaw 22 = .ok (.aload_n 1, 1) := by decide +kernel
theorem dX6_firstFlaw_23 : decode cX6_firstFlaw 23 = .ok (.iload_n 2, 1) := by decide +kernel
theorem dX6_firstFlaw_24 : decode cX6_firstFlaw 24 = .ok (.iload_n 3, 1) := by decide +kernel
theorem dX6_firstFlaw_25 : decode cX6_firstFlaw 25 = .ok (.invokevirtual 26, 3) := by decide +kernel
theorem dX6_firstFlaw_28 : decode cX6_firstFlaw 28 = .ok (.ifCond .ne 28, 3) := by decide +kernel
theorem dX6_firstFlaw_31 : decode cX6_firstFlaw 31 = .ok (.aload_n 1, 1) := by decide +kernel
theorem dX6_firstFlaw_32 : decode cX6_firstFlaw 32 = .ok (.getfield 30, 3) := by decide +kernel
theorem dX6_firstFlaw_35 : decode cX6_firstFlaw 35 = .ok (.iload_n 2, 1) := by decide +kernel
theorem dX6_firstFlaw_36 : decode cX6_firstFlaw 36 = .ok (.aaload, 1) := by decide +kernel
theorem dX6_firstFlaw_37 : decode cX6_firstFlaw 37 = .ok (.aload_n 1, 1) := by decide +kernel
theorem dX6_firstFlaw_38 : decode cX6_firstFlaw 38 = .ok (.getfield 30, 3) := by decide +kernel
theorem dX6_firstFlaw_41 : decode cX6_firstFlaw 41 = .ok (.iload_n 3, 1) := by decide +kernel
theorem dX6_firstFlaw_42 : decode cX6_firstFlaw 42 = .ok (.aaload, 1) := by decide +kernel
theorem dX6_firstFlaw_43 : decode cX6_firstFlaw 43 = .ok (.invokestatic 34, 3) := by decide +kernel
theorem dX6_firstFlaw_46 : decode cX6_firstFlaw 46 = .ok (.ifCond .eq 10, 3) := by decide +kernel
theorem dX6_firstFlaw_49 : decode cX6_firstFlaw 49 = .ok (.bipush 100, 2) := by decide +kernel
theorem dX6_firstFlaw_51 : decode cX6_firstFlaw 51 = .ok (.iload_n 2, 1) := by decide +kernel
theorem dX6_firstFlaw_52 : decode cX6_firstFlaw 52 = .ok (.imul, 1) := by decide +kernel
theorem dX6_firstFlaw_53 : decode cX6_firstFlaw 53 = .ok (.iload_n 3, 1) := by decide +kernel
theorem dX6_firstFlaw_54 : decode cX6_firstFlaw 54 = .ok (.iadd, 1) := by decide +kernel
theorem dX6_firstFlaw_55 : decode cX6_firstFlaw 55 = .ok (.ireturn, 1) := by decide +kernel
theorem dX6_firstFlaw_56 : decode cX6_firstFlaw 56 = .ok (.iinc 3 1, 3) := by decide +kernel
theorem dX6_firstFlaw_59 : decode cX6_firstFlaw 59 = .ok (.goto (-45), 3) := by decide +kernel
theorem dX6_firstFlaw_62 : decode cX6_firstFlaw 62 = .ok (.iinc 2 1, 3) := by decide +kernel
theorem dX6_firstFlaw_65 : decode cX6_firstFlaw 65 = .ok (.goto (-63), 3) := by decide +kernel
theorem dX6_firstFlaw_68 : decode cX6_firstFlaw 68 = .ok (.iconst 0, 1) := by decide +kernel
theorem dX6_firstFlaw_69 : decode cX6_firstFlaw 69 = .ok (.istore_n 2, 1) := by decide +kernel
theorem dX6_firstFlaw_70 : decode cX6_firstFlaw 70 = .ok (.iload_n 2, 1) := by decide +kernel
theorem dX6_firstFlaw_71 : decode cX6_firstFlaw 71 = .ok (.aload_n 1, 1) := by decide +kernel
theorem dX6_firstFlaw_72 : decode cX6_firstFlaw 72 = .ok (.getfield 21, 3) := by decide +kernel
theorem dX6_firstFlaw_75 : decode cX6_firstFlaw 75 = .ok (.if_icmp .ge 34, 3) := by decide +kernel
theorem dX6_firstFlaw_78 : decode cX6_firstFlaw 78 = .ok (.aload_n 1, 1) := by decide +kernel
theorem dX6_firstFlaw_79 : decode cX6_firstFlaw 79 = .ok (.getfield 30, 3) := by decide +kernel
theorem dX6_firstFlaw_82 : decode cX6_firstFlaw 82 = .ok (.iload_n 2, 1) := by decide +kernel
theorem dX6_firstFlaw_83 : decode cX6_firstFlaw 83 = .ok (.aaload, 1) := by decide +kernel
theorem dX6_firstFlaw_84 : decode cX6_firstFlaw 84 = .ok (.aload_n 1, 1) := by decide +kernel
theorem dX6_firstFlaw_85 : decode cX6_firstFlaw 85 = .ok (.getfield 30, 3) := by decide +kernel
theorem dX6_firstFlaw_88 : decode cX6_firstFlaw 88 = .ok (.bipush 24, 2) := by decide +kernel
theorem dX6_firstFlaw_90 : decode cX6_firstFlaw 90 = .ok (.aaload, 1) := by decide +kernel
theorem dX6_firstFlaw_91 : decode cX6_firstFlaw 91 = .ok (.invokestatic 34, 3) := by decide +kernel
theorem dX6_firstFlaw_94 : decode cX6_firstFlaw 94 = .ok (.ifCond .ne 9, 3) := by decide +kernel
theorem dX6_firstFlaw_97 : decode cX6_firstFlaw 97 = .ok (.sipush 10000, 3) := by decide +kernel
theorem dX6_firstFlaw_100 : decode cX6_firstFlaw 100 = .ok (.iload_n 2, 1) := by decide +kernel
theorem dX6_firstFlaw_101 : decode cX6_firstFlaw 101 = .ok (.iadd, 1) := by decide +kernel
theorem dX6_firstFlaw_102 : decode cX6_firstFlaw 102 = .ok (.ireturn, 1) := by decide +kernel
theorem dX6_firstFlaw_103 : decode cX6_firstFlaw 103 = .ok (.iinc 2 1, 3) := by decide +kernel
theorem dX6_firstFlaw_106 : decode cX6_firstFlaw 106 = .ok (.goto (-36), 3) := by decide +kernel
theorem dX6_firstFlaw_109 : decode cX6_firstFlaw 109 = .ok (.iconst (-1), 1) := by decide +kernel
theorem dX6_firstFlaw_110 : decode cX6_firstFlaw 110 = .ok (.ireturn, 1) := by decide +kernel
theorem dX6_measure_0 : decode cX6_measure 0 = .ok (.aload_n 0, 1) := by decide +kernel
theorem dX6_measure_1 : decode cX6_measure 1 = .ok (.aload_n 1, 1) := by decide +kernel
theorem dX6_measure_2 : decode cX6_measure 2 = .ok (.invokevirtual 38, 3) := by decide +kernel
theorem dX6_measure_5 : decode cX6_measure 5 = .ok (.iconst (-1), 1) := by decide +kernel
theorem dX6_measure_6 : decode cX6_measure 6 = .ok (.if_icmp .eq 5, 3) := by decide +kernel
theorem dX6_measure_9 : decode cX6_measure 9 = .ok (.iconst 0, 1) := by decide +kernel
theorem dX6_measure_10 : decode cX6_measure 10 = .ok (.ireturn, 1) := by decide +kernel
theorem dX6_measure_11 : decode cX6_measure 11 = .ok (.aload_n 0, 1) := by decide +kernel
theorem dX6_measure_12 : decode cX6_measure 12 = .ok (.iconst 0, 1) := by decide +kernel
theorem dX6_measure_13 : decode cX6_measure 13 = .ok (.putfield 9, 3) := by decide +kernel
theorem dX6_measure_16 : decode cX6_measure 16 = .ok (.aload_n 0, 1) := by decide +kernel
theorem dX6_measure_17 : decode cX6_measure 17 = .ok (.iconst 1, 1) := by decide +kernel
theorem dX6_measure_18 : decode cX6_measure 18 = .ok (.putfield 15, 3) := by decide +kernel
theorem dX6_measure_21 : decode cX6_measure 21 = .ok (.aload_n 1, 1) := by decide +kernel
theorem dX6_measure_22 : decode cX6_measure 22 = .ok (.getfield 30, 3) := by decide +kernel
theorem dX6_measure_25 : decode cX6_measure 25 = .ok (.bipush 24, 2) := by decide +kernel
theorem dX6_measure_27 : decode cX6_measure 27 = .ok (.aaload, 1) := by decide +kernel
theorem dX6_measure_28 : decode cX6_measure 28 = .ok (.astore_n 2, 1) := by decide +kernel
theorem dX6_measure_29 : decode cX6_measure 29 = .ok (.iconst 0, 1) := by decide +kernel
theorem dX6_measure_30 : decode cX6_measure 30 = .ok (.istore_n 3, 1) := by decide +kernel
theorem dX6_measure_31 : decode cX6_measure 31 = .ok (.iload_n 3, 1) := by decide +kernel
theorem dX6_measure_32 : decode cX6_measure 32 = .ok (.aload_n 1, 1) := by decide +kernel
theorem dX6_measure_33 : decode cX6_measure 33 = .ok (.getfield 21, 3) := by decide +kernel
theorem dX6_measure_36 : decode cX6_measure 36 = .ok (.if_icmp .ge 48, 3) := by decide +kernel
theorem dX6_measure_39 : decode cX6_measure 39 = .ok (.aload_n 1, 1) := by decide +kernel
theorem dX6_measure_40 : decode cX6_measure 40 = .ok (.getfield 30, 3) := by decide +kernel
theorem dX6_measure_43 : decode cX6_measure 43 = .ok (.iload_n 3, 1) := by decide +kernel
theorem dX6_measure_44 : decode cX6_measure 44 = .ok (.aaload, 1) := by decide +kernel
theorem dX6_measure_45 : decode cX6_measure 45 = .ok (.astore 4, 2) := by decide +kernel
theorem dX6_measure_47 : decode cX6_measure 47 = .ok (.aload 4, 2) := by decide +kernel
theorem dX6_measure_49 : decode cX6_measure 49 = .ok (.aload_n 2, 1) := by decide +kernel
theorem dX6_measure_50 : decode cX6_measure 50 = .ok (.invokestatic 34, 3) := by decide +kernel
theorem dX6_measure_53 : decode cX6_measure 53 = .ok (.istore 5, 2) := by decide +kernel
theorem dX6_measure_55 : decode cX6_measure 55 = .ok (.aload_n 0, 1) := by decide +kernel
theorem dX6_measure_56 : decode cX6_measure 56 = .ok (.aload 4, 2) := by decide +kernel
theorem dX6_measure_58 : decode cX6_measure 58 = .ok (.aload 4, 2) := by decide +kernel
theorem dX6_measure_60 : decode cX6_measure 60 = .ok (.invokestatic 34, 3) := by decide +kernel
theorem dX6_measure_63 : decode cX6_measure 63 = .ok (.aload_n 2, 1) := by decide +kernel
theorem dX6_measure_64 : decode cX6_measure 64 = .ok (.aload_n 2, 1) := by decide +kernel
theorem dX6_measure_65 : decode cX6_measure 65 = .ok (.invokestatic 34, 3) := by decide +kernel
theorem dX6_measure_68 : decode cX6_measure 68 = .ok (.imul, 1) := by decide +kernel
theorem dX6_measure_69 : decode cX6_measure 69 = .ok (.iload 5, 2) := by decide +kernel
theorem dX6_measure_71 : decode cX6_measure 71 = .ok (.iload 5, 2) := by decide +kernel
theorem dX6_measure_73 : decode cX6_measure 73 = .ok (.imul, 1) := by decide +kernel
theorem dX6_measure_74 : decode cX6_measure 74 = .ok (.iload_n 3, 1) := by decide +kernel
theorem dX6_measure_75 : decode cX6_measure 75 = .ok (.invokevirtual 42, 3) := by decide +kernel
theorem dX6_measure_78 : decode cX6_measure 78 = .ok (.iinc 3 1, 3) := by decide +kernel
theorem dX6_measure_81 : decode cX6_measure 81 = .ok (.goto (-50), 3) := by decide +kernel
theorem dX6_measure_84 : decode cX6_measure 84 = .ok (.aload_n 0, 1) := by decide +kernel
theorem dX6_measure_85 : decode cX6_measure 85 = .ok (.invokevirtual 46, 3) := by decide +kernel
theorem dX6_measure_88 : decode cX6_measure 88 = .ok (.iconst 1, 1) := by decide +kernel
theorem dX6_measure_89 : decode cX6_measure 89 = .ok (.ireturn, 1) := by decide +kernel
theorem dX6_offer_0 : decode cX6_offer 0 = .ok (.iload_n 1, 1) := by decide +kernel
theorem dX6_offer_1 : decode cX6_offer 1 = .ok (.i2l, 1) := by decide +kernel
theorem dX6_offer_2 : decode cX6_offer 2 = .ok (.aload_n 0, 1) := by decide +kernel
theorem dX6_offer_3 : decode cX6_offer 3 = .ok (.getfield 15, 3) := by decide +kernel
theorem dX6_offer_6 : decode cX6_offer 6 = .ok (.i2l, 1) := by decide +kernel
theorem dX6_offer_7 : decode cX6_offer 7 = .ok (.lmul, 1) := by decide +kernel
theorem dX6_offer_8 : decode cX6_offer 8 = .ok (.aload_n 0, 1) := by decide +kernel
theorem dX6_offer_9 : decode cX6_offer 9 = .ok (.getfield 9, 3) := by decide +kernel
theorem dX6_offer_12 : decode cX6_offer 12 = .ok (.i2l, 1) := by decide +kernel
theorem dX6_offer_13 : decode cX6_offer 13 = .ok (.iload_n 2, 1) := by decide +kernel
theorem dX6_offer_14 : decode cX6_offer 14 = .ok (.i2l, 1) := by decide +kernel
theorem dX6_offer_15 : decode cX6_offer 15 = .ok (.lmul, 1) := by decide +kernel
theorem dX6_offer_16 : decode cX6_offer 16 = .ok (.lcmp, 1) := by decide +kernel
theorem dX6_offer_17 : decode cX6_offer 17 = .ok (.ifCond .le 18, 3) := by decide +kernel
theorem dX6_offer_20 : decode cX6_offer 20 = .ok (.aload_n 0, 1) := by decide +kernel
theorem dX6_offer_21 : decode cX6_offer 21 = .ok (.iload_n 1, 1) := by decide +kernel
theorem dX6_offer_22 : decode cX6_offer 22 = .ok (.putfield 9, 3) := by decide +kernel
theorem dX6_offer_25 : decode cX6_offer 25 = .ok (.aload_n 0, 1) := by decide +kernel
theorem dX6_offer_26 : decode cX6_offer 26 = .ok (.iload_n 2, 1) := by decide +kernel
theorem dX6_offer_27 : decode cX6_offer 27 = .ok (.putfield 15, 3) := by decide +kernel
theorem dX6_offer_30 : decode cX6_offer 30 = .ok (.aload_n 0, 1) := by decide +kernel
theorem dX6_offer_31 : decode cX6_offer 31 = .ok (.iload_n 3, 1) := by decide +kernel
theorem dX6_offer_32 : decode cX6_offer 32 = .ok (.putfield 18, 3) := by decide +kernel
theorem dX6_offer_35 : decode cX6_offer 35 = .ok (.return_, 1) := by decide +kernel
theorem dX6_cut_0 : decode cX6_cut 0 = .ok (.aload_n 0, 1) := by decide +kernel
theorem dX6_cut_1 : decode cX6_cut 1 = .ok (.getfield 9, 3) := by decide +kernel
theorem dX6_cut_4 : decode cX6_cut 4 = .ok (.istore_n 1, 1) := by decide +kernel
theorem dX6_cut_5 : decode cX6_cut 5 = .ok (.aload_n 0, 1) := by decide +kernel
theorem dX6_cut_6 : decode cX6_cut 6 = .ok (.getfield 15, 3) := by decide +kernel
theorem dX6_cut_9 : decode cX6_cut 9 = .ok (.istore_n 2, 1) := by decide +kernel
theorem dX6_cut_10 : decode cX6_cut 10 = .ok (.iconst 0, 1) := by decide +kernel
theorem dX6_cut_11 : decode cX6_cut 11 = .ok (.istore_n 3, 1) := by decide +kernel
theorem dX6_cut_12 : decode cX6_cut 12 = .ok (.iload_n 3, 1) := by decide +kernel
theorem dX6_cut_13 : decode cX6_cut 13 = .ok (.bipush 64, 2) := by decide +kernel
theorem dX6_cut_15 : decode cX6_cut 15 = .ok (.if_icmp .ge 23, 3) := by decide +kernel
theorem dX6_cut_18 : decode cX6_cut 18 = .ok (.iload_n 2, 1) := by decide +kernel
theorem dX6_cut_19 : decode cX6_cut 19 = .ok (.ifCond .eq 19, 3) := by decide +kernel
theorem dX6_cut_22 : decode cX6_cut 22 = .ok (.iload_n 1, 1) := by decide +kernel
theorem dX6_cut_23 : decode cX6_cut 23 = .ok (.iload_n 2, 1) := by decide +kernel
theorem dX6_cut_24 : decode cX6_cut 24 = .ok (.irem, 1) := by decide +kernel
theorem dX6_cut_25 : decode cX6_cut 25 = .ok (.istore 4, 2) := by decide +kernel
theorem dX6_cut_27 : decode cX6_cut 27 = .ok (.iload_n 2, 1) := by decide +kernel
theorem dX6_cut_28 : decode cX6_cut 28 = .ok (.istore_n 1, 1) := by decide +kernel
theorem dX6_cut_29 : decode cX6_cut 29 = .ok (.iload 4, 2) := by decide +kernel
theorem dX6_cut_31 : decode cX6_cut 31 = .ok (.istore_n 2, 1) := by decide +kernel
theorem dX6_cut_32 : decode cX6_cut 32 = .ok (.iinc 3 1, 3) := by decide +kernel
theorem dX6_cut_35 : decode cX6_cut 35 = .ok (.goto (-23), 3) := by decide +kernel
theorem dX6_cut_38 : decode cX6_cut 38 = .ok (.iload_n 1, 1) := by decide +kernel
theorem dX6_cut_39 : decode cX6_cut 39 = .ok (.ifCond .le 23, 3) := by decide +kernel
theorem dX6_cut_42 : decode cX6_cut 42 = .ok (.aload_n 0, 1) := by decide +kernel
theorem dX6_cut_43 : decode cX6_cut 43 = .ok (.dup, 1) := by decide +kernel
theorem dX6_cut_44 : decode cX6_cut 44 = .ok (.getfield 9, 3) := by decide +kernel
theorem dX6_cut_47 : decode cX6_cut 47 = .ok (.iload_n 1, 1) := by decide +kernel
theorem dX6_cut_48 : decode cX6_cut 48 = .ok (.idiv, 1) := by decide +kernel
theorem dX6_cut_49 : decode cX6_cut 49 = .ok (.putfield 9, 3) := by decide +kernel
theorem dX6_cut_52 : decode cX6_cut 52 = .ok (.aload_n 0, 1) := by decide +kernel
theorem dX6_cut_53 : decode cX6_cut 53 = .ok (.dup, 1) := by decide +kernel
theorem dX6_cut_54 : decode cX6_cut 54 = .ok (.getfield 15, 3) := by decide +kernel
theorem dX6_cut_57 : decode cX6_cut 57 = .ok (.iload_n 1, 1) := by decide +kernel
theorem dX6_cut_58 : decode cX6_cut 58 = .ok (.idiv, 1) := by decide +kernel
theorem dX6_cut_59 : decode cX6_cut 59 = .ok (.putfield 15, 3) := by decide +kernel
theorem dX6_cut_62 : decode cX6_cut 62 = .ok (.return_, 1) := by decide +kernel
theorem dX6_product_0 : decode cX6_product 0 = .ok (.iconst 0, 1) := by decide +kernel
theorem dX6_product_1 : decode cX6_product 1 = .ok (.istore_n 2, 1) := by decide +kernel
theorem dX6_product_2 : decode cX6_product 2 = .ok (.iconst 0, 1) := by decide +kernel
theorem dX6_product_3 : decode cX6_product 3 = .ok (.istore_n 3, 1) := by decide +kernel
theorem dX6_product_4 : decode cX6_product 4 = .ok (.iload_n 3, 1) := by decide +kernel
theorem dX6_product_5 : decode cX6_product 5 = .ok (.bipush 6, 2) := by decide +kernel
theorem dX6_product_7 : decode cX6_product 7 = .ok (.if_icmp .ge 19, 3) := by decide +kernel
theorem dX6_product_10 : decode cX6_product 10 = .ok (.iload_n 2, 1) := by decide +kernel
theorem dX6_product_11 : decode cX6_product 11 = .ok (.aload_n 0, 1) := by decide +kernel
theorem dX6_product_12 : decode cX6_product 12 = .ok (.iload_n 3, 1) := by decide +kernel
theorem dX6_product_13 : decode cX6_product 13 = .ok (.iaload, 1) := by decide +kernel
theorem dX6_product_14 : decode cX6_product 14 = .ok (.aload_n 1, 1) := by decide +kernel
theorem dX6_product_15 : decode cX6_product 15 = .ok (.iload_n 3, 1) := by decide +kernel
theorem dX6_product_16 : decode cX6_product 16 = .ok (.iaload, 1) := by decide +kernel
theorem dX6_product_17 : decode cX6_product 17 = .ok (.imul, 1) := by decide +kernel
theorem dX6_product_18 : decode cX6_product 18 = .ok (.iadd, 1) := by decide +kernel
theorem dX6_product_19 : decode cX6_product 19 = .ok (.istore_n 2, 1) := by decide +kernel
theorem dX6_product_20 : decode cX6_product 20 = .ok (.iinc 3 1, 3) := by decide +kernel
theorem dX6_product_23 : decode cX6_product 23 = .ok (.goto (-19), 3) := by decide +kernel
theorem dX6_product_26 : decode cX6_product 26 = .ok (.iload_n 2, 1) := by decide +kernel
theorem dX6_product_27 : decode cX6_product 27 = .ok (.ireturn, 1) := by decide +kernel
theorem dX7_init_0 : decode cX7_init 0 = .ok (.aload_n 0, 1) := by decide +kernel
theorem dX7_init_1 : decode cX7_init 1 = .ok (.invokespecial 1, 3) := by decide +kernel
theorem dX7_init_4 : decode cX7_init 4 = .ok (.aload_n 0, 1) := by decide +kernel
theorem dX7_init_5 : decode cX7_init 5 = .ok (.sipush 600, 3) := by decide +kernel
theorem dX7_init_8 : decode cX7_init 8 = .ok (.newarray .int, 2) := by decide +kernel
theorem dX7_init_10 : decode cX7_init 10 = .ok (.putfield 9, 3) := by decide +kernel
theorem dX7_init_13 : decode cX7_init 13 = .ok (.aload_n 0, 1) := by decide +kernel
theorem dX7_init_14 : decode cX7_init 14 = .ok (.iconst 0, 1) := by decide +kernel
theorem dX7_init_15 : decode cX7_init 15 = .ok (.putfield 13, 3) := by decide +kernel
theorem dX7_init_18 : decode cX7_init 18 = .ok (.return_, 1) := by decide +kernel
theorem dX7_empty_0 : decode cX7_empty 0 = .ok (.aload_n 0, 1) := by decide +kernel
theorem dX7_empty_1 : decode cX7_empty 1 = .ok (.iconst 0, 1) := by decide +kernel
theorem dX7_empty_2 : decode cX7_empty 2 = .ok (.putfield 13, 3) := by decide +kernel
theorem dX7_empty_5 : decode cX7_empty 5 = .ok (.return_, 1) := by decide +kernel
theorem dX7_hasRoomFor_0 : decode cX7_hasRoomFor 0 = .ok (.aload_n 0, 1) := by decide +kernel
theorem dX7_hasRoomFor_1 : decode cX7_hasRoomFor 1 = .ok (.getfield 13, 3) := by decide +kernel
theorem dX7_hasRoomFor_4 : decode cX7_hasRoomFor 4 = .ok (.iload_n 1, 1) := by decide +kernel
theorem dX7_hasRoomFor_5 : decode cX7_hasRoomFor 5 = .ok (.iadd, 1) := by decide +kernel
theorem dX7_hasRoomFor_6 : decode cX7_hasRoomFor 6 = .ok (.sipush 600, 3) := by decide +kernel
theorem dX7_hasRoomFor_9 : decode cX7_hasRoomFor 9 = .ok (.if_icmp .gt 7, 3) := by decide +kernel
theorem dX7_hasRoomFor_12 : decode cX7_hasRoomFor 12 = .ok (.iconst 1, 1) := by decide +kernel
theorem dX7_hasRoomFor_13 : decode cX7_hasRoomFor 13 = .ok (.goto 4, 3) := by decide +kernel
theorem dX7_hasRoomFor_16 : decode cX7_hasRoomFor 16 = .ok (.iconst 0, 1) := by decide +kernel
theorem dX7_hasRoomFor_17 : decode cX7_hasRoomFor 17 = .ok (.ireturn, 1) := by decide +kernel
theorem dX7_push_0 : decode cX7_push 0 = .ok (.bipush 24, 2) := by decide +kernel
theorem dX7_push_2 : decode cX7_push 2 = .ok (.istore_n 2, 1) := by decide +kernel
theorem dX7_push_3 : decode cX7_push 3 = .ok (.iload_n 2, 1) := by decide +kernel
theorem dX7_push_4 : decode cX7_push 4 = .ok (.ifCond .lt 45, 3) := by decide +kernel
theorem dX7_push_7 : decode cX7_push 7 = .ok (.aload_n 0, 1) := by decide +kernel
theorem dX7_push_8 : decode cX7_push 8 = .ok (.getfield 13, 3) := by decide +kernel
theorem dX7_push_11 : decode cX7_push 11 = .ok (.sipush 600, 3) := by decide +kernel
theorem dX7_push_14 : decode cX7_push 14 = .ok (.if_icmp .ge 29, 3) := by decide +kernel
theorem dX7_push_17 : decode cX7_push 17 = .ok (.aload_n 0, 1) := by decide +kernel
theorem dX7_push_18 : decode cX7_push 18 = .ok (.getfield 9, 3) := by decide +kernel
theorem dX7_push_21 : decode cX7_push 21 = .ok (.aload_n 0, 1) := by decide +kernel
theorem dX7_push_22 : decode cX7_push 22 = .ok (.getfield 13, 3) := by decide +kernel
theorem dX7_push_25 : decode cX7_push 25 = .ok (.iload_n 1, 1) := by decide +kernel
theorem dX7_push_26 : decode cX7_push 26 = .ok (.iload_n 2, 1) := by decide +kernel
theorem dX7_push_27 : decode cX7_push 27 = .ok (.iushr, 1) := by decide +kernel
theorem dX7_push_28 : decode cX7_push 28 = .ok (.sipush 255, 3) := by decide +kernel
theorem dX7_push_31 : decode cX7_push 31 = .ok (.iand, 1) := by decide +kernel
theorem dX7_push_32 : decode cX7_push 32 = .ok (.iastore, 1) := by decide +kernel
theorem dX7_push_33 : decode cX7_push 33 = .ok (.aload_n 0, 1) := by decide +kernel
theorem dX7_push_34 : decode cX7_push 34 = .ok (.dup, 1) := by decide +kernel
theorem dX7_push_35 : decode cX7_push 35 = .ok (.getfield 13, 3) := by decide +kernel
theorem dX7_push_38 : decode cX7_push 38 = .ok (.iconst 1, 1) := by decide +kernel
theorem dX7_push_39 : decode cX7_push 39 = .ok (.iadd, 1) := by decide +kernel
theorem dX7_push_40 : decode cX7_push 40 = .ok (.putfield 13, 3) := by decide +kernel
theorem dX7_push_43 : decode cX7_push 43 = .ok (.iinc 2 (-8), 3) := by decide +kernel
theorem dX7_push_46 : decode cX7_push 46 = .ok (.goto (-43), 3) := by decide +kernel
theorem dX7_push_49 : decode cX7_push 49 = .ok (.return_, 1) := by decide +kernel
theorem dX8_init_0 : decode cX8_init 0 = .ok (.aload_n 0, 1) := by decide +kernel
theorem dX8_init_1 : decode cX8_init 1 = .ok (.invokespecial 3, 3) := by decide +kernel
theorem dX8_init_4 : decode cX8_init 4 = .ok (.aload_n 0, 1) := by decide +kernel
theorem dX8_init_5 : decode cX8_init 5 = .ok (.bipush 24, 2) := by decide +kernel
theorem dX8_init_7 : decode cX8_init 7 = .ok (.newarray .int, 2) := by decide +kernel
theorem dX8_init_9 : decode cX8_init 9 = .ok (.putfield 9, 3) := by decide +kernel
theorem dX8_init_12 : decode cX8_init 12 = .ok (.aload_n 0, 1) := by decide +kernel
theorem dX8_init_13 : decode cX8_init 13 = .ok (.iconst 0, 1) := by decide +kernel
theorem dX8_init_14 : decode cX8_init 14 = .ok (.putfield 15, 3) := by decide +kernel
theorem dX8_init_17 : decode cX8_init 17 = .ok (.aload_n 0, 1) := by decide +kernel
theorem dX8_init_18 : decode cX8_init 18 = .ok (.iconst 0, 1) := by decide +kernel
theorem dX8_init_19 : decode cX8_init 19 = .ok (.putfield 19, 3) := by decide +kernel
theorem dX8_init_22 : decode cX8_init 22 = .ok (.aload_n 0, 1) := by decide +kernel
theorem dX8_init_23 : decode cX8_init 23 = .ok (.iconst (-1), 1) := by decide +kernel
theorem dX8_init_24 : decode cX8_init 24 = .ok (.putfield 22, 3) := by decide +kernel
theorem dX8_init_27 : decode cX8_init 27 = .ok (.return_, 1) := by decide +kernel
theorem dX8_read_0 : decode cX8_read 0 = .ok (.aload_n 0, 1) := by decide +kernel
theorem dX8_read_1 : decode cX8_read 1 = .ok (.iconst 0, 1) := by decide +kernel
theorem dX8_read_2 : decode cX8_read 2 = .ok (.putfield 15, 3) := by decide +kernel
theorem dX8_read_5 : decode cX8_read 5 = .ok (.aload_n 0, 1) := by decide +kernel
theorem dX8_read_6 : decode cX8_read 6 = .ok (.iconst 0, 1) := by decide +kernel
theorem dX8_read_7 : decode cX8_read 7 = .ok (.putfield 19, 3) := by decide +kernel
theorem dX8_read_10 : decode cX8_read 10 = .ok (.aload_n 0, 1) := by decide +kernel
theorem dX8_read_11 : decode cX8_read 11 = .ok (.iconst (-1), 1) := by decide +kernel
theorem dX8_read_12 : decode cX8_read 12 = .ok (.putfield 22, 3) := by decide +kernel
theorem dX8_read_15 : decode cX8_read 15 = .ok (.iconst 0, 1) := by decide +kernel
theorem dX8_read_16 : decode cX8_read 16 = .ok (.istore_n 2, 1) := by decide +kernel
theorem dX8_read_17 : decode cX8_read 17 = .ok (.iconst 0, 1) := by decide +kernel
theorem dX8_read_18 : decode cX8_read 18 = .ok (.istore_n 3, 1) := by decide +kernel
theorem dX8_read_19 : decode cX8_read 19 = .ok (.iload_n 3, 1) := by decide +kernel
theorem dX8_read_20 : decode cX8_read 20 = .ok (.aload_n 1, 1) := by decide +kernel
theorem dX8_read_21 : decode cX8_read 21 = .ok (.getfield 25, 3) := by decide +kernel
theorem dX8_read_24 : decode cX8_read 24 = .ok (.if_icmp .ge 135, 3) := by decide +kernel
theorem dX8_read_27 : decode cX8_read 27 = .ok (.aload_n 0, 1) := by decide +kernel
theorem dX8_read_28 : decode cX8_read 28 = .ok (.getfield 19, 3) := by decide +kernel
theorem dX8_read_31 : decode cX8_read 31 = .ok (.ifCond .ne 128, 3) := by decide +kernel
theorem dX8_read_34 : decode cX8_read 34 = .ok (.aload_n 1, 1) := by decide +kernel
theorem dX8_read_35 : decode cX8_read 35 = .ok (.iload_n 3, 1) := by decide +kernel
theorem dX8_read_36 : decode cX8_read 36 = .ok (.invokestatic 30, 3) := by decide +kernel
theorem dX8_read_39 : decode cX8_read 39 = .ok (.istore 4, 2) := by decide +kernel
theorem dX8_read_41 : decode cX8_read 41 = .ok (.iload 4, 2) := by decide +kernel
theorem dX8_read_43 : decode cX8_read 43 = .ok (.ifCond .eq 29, 3) := by decide +kernel
theorem dX8_read_46 : decode cX8_read 46 = .ok (.aload_n 0, 1) := by decide +kernel
theorem dX8_read_47 : decode cX8_read 47 = .ok (.iload_n 2, 1) := by decide +kernel
theorem dX8_read_48 : decode cX8_read 48 = .ok (.iload 4, 2) := by decide +kernel
theorem dX8_read_50 : decode cX8_read 50 = .ok (.iand, 1) := by decide +kernel
theorem dX8_read_51 : decode cX8_read 51 = .ok (.ifCond .eq 7, 3) := by decide +kernel
theorem dX8_read_54 : decode cX8_read 54 = .ok (.iconst 1, 1) := by decide +kernel
theorem dX8_read_55 : decode cX8_read 55 = .ok (.goto 4, 3) := by decide +kernel
theorem dX8_read_58 : decode cX8_read 58 = .ok (.iconst 0, 1) := by decide +kernel
theorem dX8_read_59 : decode cX8_read 59 = .ok (.iconst 4, 1) := by decide +kernel
theorem dX8_read_60 : decode cX8_read 60 = .ok (.iload_n 3, 1) := by decide +kernel
theorem dX8_read_61 : decode cX8_read 61 = .ok (.invokevirtual 34, 3) := by decide +kernel
theorem dX8_read_64 : decode cX8_read 64 = .ok (.iload_n 2, 1) := by decide +kernel
theorem dX8_read_65 : decode cX8_read 65 = .ok (.iload 4, 2) := by decide +kernel
theorem dX8_read_67 : decode cX8_read 67 = .ok (.ior, 1) := by decide +kernel
theorem dX8_read_68 : decode cX8_read 68 = .ok (.istore_n 2, 1) := by decide +kernel
theorem dX8_read_69 : decode cX8_read 69 = .ok (.goto 84, 3) := by decide +kernel
theorem dX8_read_72 : decode cX8_read 72 = .ok (.aload_n 1, 1) := by decide +kernel
theorem dX8_read_73 : decode cX8_read 73 = .ok (.getfield 38, 3) := by decide +kernel
theorem dX8_read_76 : decode cX8_read 76 = .ok (.iload_n 3, 1) := by decide +kernel
theorem dX8_read_77 : decode cX8_read 77 = .ok (.iaload, 1) := by decide +kernel
theorem dX8_read_78 : decode cX8_read 78 = .ok (.bipush 59, 2) := by decide +kernel
theorem dX8_read_80 : decode cX8_read 80 = .ok (.if_icmp .ne 50, 3) := by decide +kernel
theorem dX8_read_83 : decode cX8_read 83 = .ok (.aload_n 0, 1) := by decide +kernel
theorem dX8_read_84 : decode cX8_read 84 = .ok (.iload_n 2, 1) := by decide +kernel
theorem dX8_read_85 : decode cX8_read 85 = .ok (.ifCond .ne 7, 3) := by decide +kernel
theorem dX8_read_88 : decode cX8_read 88 = .ok (.iconst 1, 1) := by decide +kernel
theorem dX8_read_89 : decode cX8_read 89 = .ok (.goto 4, 3) := by decide +kernel
theorem dX8_read_92 : decode cX8_read 92 = .ok (.iconst 0, 1) := by decide +kernel
theorem dX8_read_93 : decode cX8_read 93 = .ok (.iconst 2, 1) := by decide +kernel
theorem dX8_read_94 : decode cX8_read 94 = .ok (.iload_n 3, 1) := by decide +kernel
theorem dX8_read_95 : decode cX8_read 95 = .ok (.invokevirtual 34, 3) := by decide +kernel
theorem dX8_read_98 : decode cX8_read 98 = .ok (.aload_n 0, 1) := by decide +kernel
theorem dX8_read_99 : decode cX8_read 99 = .ok (.aload_n 0, 1) := by decide +kernel
theorem dX8_read_100 : decode cX8_read 100 = .ok (.getfield 15, 3) := by decide +kernel
theorem dX8_read_103 : decode cX8_read 103 = .ok (.iconst 1, 1) := by decide +kernel
theorem dX8_read_104 : decode cX8_read 104 = .ok (.iadd, 1) := by decide +kernel
theorem dX8_read_105 : decode cX8_read 105 = .ok (.bipush 24, 2) := by decide +kernel
theorem dX8_read_107 : decode cX8_read 107 = .ok (.if_icmp .lt 7, 3) := by decide +kernel
theorem dX8_read_110 : decode cX8_read 110 = .ok (.iconst 1, 1) := by decide +kernel
theorem dX8_read_111 : decode cX8_read 111 = .ok (.goto 4, 3) := by decide +kernel
theorem dX8_read_114 : decode cX8_read 114 = .ok (.iconst 0, 1) := by decide +kernel
theorem dX8_read_115 : decode cX8_read 115 = .ok (.iconst 3, 1) := by decide +kernel
theorem dX8_read_116 : decode cX8_read 116 = .ok (.iload_n 3, 1) := by decide +kernel
theorem dX8_read_117 : decode cX8_read 117 = .ok (.invokevirtual 34, 3) := by decide +kernel
theorem dX8_read_120 : decode cX8_read 120 = .ok (.aload_n 0, 1) := by decide +kernel
theorem dX8_read_121 : decode cX8_read 121 = .ok (.iload_n 2, 1) := by decide +kernel
theorem dX8_read_122 : decode cX8_read 122 = .ok (.invokevirtual 41, 3) := by decide +kernel
theorem dX8_read_125 : decode cX8_read 125 = .ok (.iconst 0, 1) := by decide +kernel
theorem dX8_read_126 : decode cX8_read 126 = .ok (.istore_n 2, 1) := by decide +kernel
theorem dX8_read_127 : decode cX8_read 127 = .ok (.goto 26, 3) := by decide +kernel
theorem dX8_read_130 : decode cX8_read 130 = .ok (.aload_n 0, 1) := by decide +kernel
theorem dX8_read_131 : decode cX8_read 131 = .ok (.aload_n 1, 1) := by decide +kernel
theorem dX8_read_132 : decode cX8_read 132 = .ok (.getfield 38, 3) := by decide +kernel
theorem dX8_read_135 : decode cX8_read 135 = .ok (.iload_n 3, 1) := by decide +kernel
theorem dX8_read_136 : decode cX8_read 136 = .ok (.iaload, 1) := by decide +kernel
theorem dX8_read_137 : decode cX8_read 137 = .ok (.invokestatic 45, 3) := by decide +kernel
theorem dX8_read_140 : decode cX8_read 140 = .ok (.ifCond .ne 7, 3) := by decide +kernel
theorem dX8_read_143 : decode cX8_read 143 = .ok (.iconst 1, 1) := by decide +kernel
theorem dX8_read_144 : decode cX8_read 144 = .ok (.goto 4, 3) := by decide +kernel
theorem dX8_read_147 : decode cX8_read 147 = .ok (.iconst 0, 1) := by decide +kernel
theorem dX8_read_148 : decode cX8_read 148 = .ok (.iconst 1, 1) := by decide +kernel
theorem dX8_read_149 : decode cX8_read 149 = .ok (.iload_n 3, 1) := by decide +kernel
theorem dX8_read_150 : decode cX8_read 150 = .ok (.invokevirtual 34, 3) := by decide +kernel
theorem dX8_read_153 : decode cX8_read 153 = .ok (.iinc 3 1, 3) := by decide +kernel
theorem dX8_read_156 : decode cX8_read 156 = .ok (.goto (-137), 3) := by decide +kernel
theorem dX8_read_159 : decode cX8_read 159 = .ok (.aload_n 0, 1) := by decide +kernel
theorem dX8_read_160 : decode cX8_read 160 = .ok (.iload_n 2, 1) := by decide +kernel
theorem dX8_read_161 : decode cX8_read 161 = .ok (.ifCond .ne 7, 3) := by decide +kernel
theorem dX8_read_164 : decode cX8_read 164 = .ok (.iconst 1, 1) := by decide +kernel
theorem dX8_read_165 : decode cX8_read 165 = .ok (.goto 4, 3) := by decide +kernel
theorem dX8_read_168 : decode cX8_read 168 = .ok (.iconst 0, 1) := by decide +kernel
theorem dX8_read_169 : decode cX8_read 169 = .ok (.iconst 2, 1) := by decide +kernel
theorem dX8_read_170 : decode cX8_read 170 = .ok (.aload_n 1, 1) := by decide +kernel
theorem dX8_read_171 : decode cX8_read 171 = .ok (.getfield 25, 3) := by decide +kernel
theorem dX8_read_174 : decode cX8_read 174 = .ok (.invokevirtual 34, 3) := by decide +kernel
theorem dX8_read_177 : decode cX8_read 177 = .ok (.aload_n 0, 1) := by decide +kernel
theorem dX8_read_178 : decode cX8_read 178 = .ok (.iload_n 2, 1) := by decide +kernel
theorem dX8_read_179 : decode cX8_read 179 = .ok (.invokevirtual 41, 3) := by decide +kernel
theorem dX8_read_182 : decode cX8_read 182 = .ok (.return_, 1) := by decide +kernel
theorem dX8_readSigns_0 : decode cX8_readSigns 0 = .ok (.iconst 0, 1) := by decide +kernel
theorem dX8_readSigns_1 : decode cX8_readSigns 1 = .ok (.istore_n 2, 1) := by decide +kernel
theorem dX8_readSigns_2 : decode cX8_readSigns 2 = .ok (.iconst 0, 1) := by decide +kernel
theorem dX8_readSigns_3 : decode cX8_readSigns 3 = .ok (.istore_n 3, 1) := by decide +kernel
theorem dX8_readSigns_4 : decode cX8_readSigns 4 = .ok (.iload_n 3, 1) := by decide +kernel
theorem dX8_readSigns_5 : decode cX8_readSigns 5 = .ok (.aload_n 1, 1) := by decide +kernel
theorem dX8_readSigns_6 : decode cX8_readSigns 6 = .ok (.getfield 25, 3) := by decide +kernel
theorem dX8_readSigns_9 : decode cX8_readSigns 9 = .ok (.if_icmp .ge 55, 3) := by decide +kernel
theorem dX8_readSigns_12 : decode cX8_readSigns 12 = .ok (.aload_n 1, 1) := by decide +kernel
theorem dX8_readSigns_13 : decode cX8_readSigns 13 = .ok (.iload_n 3, 1) := by decide +kernel
theorem dX8_readSigns_14 : decode cX8_readSigns 14 = .ok (.invokestatic 30, 3) := by decide +kernel
theorem dX8_readSigns_17 : decode cX8_readSigns 17 = .ok (.istore 4, 2) := by decide +kernel
theorem dX8_readSigns_19 : decode cX8_readSigns 19 = .ok (.iload 4, 2) := by decide +kernel
theorem dX8_readSigns_21 : decode cX8_readSigns 21 = .ok (.ifCond .eq 23, 3) := by decide +kernel
theorem dX8_readSigns_24 : decode cX8_readSigns 24 = .ok (.iload_n 2, 1) := by decide +kernel
theorem dX8_readSigns_25 : decode cX8_readSigns 25 = .ok (.bipush 6, 2) := by decide +kernel
theorem dX8_readSigns_27 : decode cX8_readSigns 27 = .ok (.if_icmp .ge 17, 3) := by decide +kernel
theorem dX8_readSigns_30 : decode cX8_readSigns 30 = .ok (.aload_n 0, 1) := by decide +kernel
theorem dX8_readSigns_31 : decode cX8_readSigns 31 = .ok (.getfield 9, 3) := by decide +kernel
theorem dX8_readSigns_34 : decode cX8_readSigns 34 = .ok (.iload_n 2, 1) := by decide +kernel
theorem dX8_readSigns_35 : decode cX8_readSigns 35 = .ok (.iload 4, 2) := by decide +kernel
theorem dX8_readSigns_37 : decode cX8_readSigns 37 = .ok (.iastore, 1) := by decide +kernel
theorem dX8_readSigns_38 : decode cX8_readSigns 38 = .ok (.iinc 2 1, 3) := by decide +kernel
theorem dX8_readSigns_41 : decode cX8_readSigns 41 = .ok (.goto 17, 3) := by decide +kernel
theorem dX8_readSigns_44 : decode cX8_readSigns 44 = .ok (.aload_n 1, 1) := by decide +kernel
theorem dX8_readSigns_45 : decode cX8_readSigns 45 = .ok (.getfield 38, 3) := by decide +kernel
theorem dX8_readSigns_48 : decode cX8_readSigns 48 = .ok (.iload_n 3, 1) := by decide +kernel
theorem dX8_readSigns_49 : decode cX8_readSigns 49 = .ok (.iaload, 1) := by decide +kernel
theorem dX8_readSigns_50 : decode cX8_readSigns 50 = .ok (.invokestatic 45, 3) := by decide +kernel
theorem dX8_readSigns_53 : decode cX8_readSigns 53 = .ok (.ifCond .ne 5, 3) := by decide +kernel
theorem dX8_readSigns_56 : decode cX8_readSigns 56 = .ok (.iconst (-1), 1) := by decide +kernel
theorem dX8_readSigns_57 : decode cX8_readSigns 57 = .ok (.ireturn, 1) := by decide +kernel
theorem dX8_readSigns_58 : decode cX8_readSigns 58 = .ok (.iinc 3 1, 3) := by decide +kernel
theorem dX8_readSigns_61 : decode cX8_readSigns 61 = .ok (.goto (-57), 3) := by decide +kernel
theorem dX8_readSigns_64 : decode cX8_readSigns 64 = .ok (.iload_n 2, 1) := by decide +kernel
theorem dX8_readSigns_65 : decode cX8_readSigns 65 = .ok (.ireturn, 1) := by decide +kernel
theorem dX8_blameIf_0 : decode cX8_blameIf 0 = .ok (.iload_n 1, 1) := by decide +kernel
theorem dX8_blameIf_1 : decode cX8_blameIf 1 = .ok (.ifCond .eq 20, 3) := by decide +kernel
theorem dX8_blameIf_4 : decode cX8_blameIf 4 = .ok (.aload_n 0, 1) := by decide +kernel
theorem dX8_blameIf_5 : decode cX8_blameIf 5 = .ok (.getfield 19, 3) := by decide +kernel
theorem dX8_blameIf_8 : decode cX8_blameIf 8 = .ok (.ifCond .ne 13, 3) := by decide +kernel
theorem dX8_blameIf_11 : decode cX8_blameIf 11 = .ok (.aload_n 0, 1) := by decide +kernel
theorem dX8_blameIf_12 : decode cX8_blameIf 12 = .ok (.iload_n 2, 1) := by decide +kernel
theorem dX8_blameIf_13 : decode cX8_blameIf 13 = .ok (.putfield 19, 3) := by decide +kernel
theorem dX8_blameIf_16 : decode cX8_blameIf 16 = .ok (.aload_n 0, 1) := by decide +kernel
theorem dX8_blameIf_17 : decode cX8_blameIf 17 = .ok (.iload_n 3, 1) := by decide +kernel
theorem dX8_blameIf_18 : decode cX8_blameIf 18 = .ok (.putfield 22, 3) := by decide +kernel
theorem dX8_blameIf_21 : decode cX8_blameIf 21 = .ok (.return_, 1) := by decide +kernel
theorem dX8_close_0 : decode cX8_close 0 = .ok (.aload_n 0, 1) := by decide +kernel
theorem dX8_close_1 : decode cX8_close 1 = .ok (.getfield 19, 3) := by decide +kernel
theorem dX8_close_4 : decode cX8_close 4 = .ok (.ifCond .ne 32, 3) := by decide +kernel
theorem dX8_close_7 : decode cX8_close 7 = .ok (.aload_n 0, 1) := by decide +kernel
theorem dX8_close_8 : decode cX8_close 8 = .ok (.getfield 15, 3) := by decide +kernel
theorem dX8_close_11 : decode cX8_close 11 = .ok (.bipush 24, 2) := by decide +kernel
theorem dX8_close_13 : decode cX8_close 13 = .ok (.if_icmp .ge 23, 3) := by decide +kernel
theorem dX8_close_16 : decode cX8_close 16 = .ok (.aload_n 0, 1) := by decide +kernel
theorem dX8_close_17 : decode cX8_close 17 = .ok (.getfield 9, 3) := by decide +kernel
theorem dX8_close_20 : decode cX8_close 20 = .ok (.aload_n 0, 1) := by decide +kernel
theorem dX8_close_21 : decode cX8_close 21 = .ok (.getfield 15, 3) := by decide +kernel
theorem dX8_close_24 : decode cX8_close 24 = .ok (.iload_n 1, 1) := by decide +kernel
theorem dX8_close_25 : decode cX8_close 25 = .ok (.iastore, 1) := by decide +kernel
theorem dX8_close_26 : decode cX8_close 26 = .ok (.aload_n 0, 1) := by decide +kernel
theorem dX8_close_27 : decode cX8_close 27 = .ok (.dup, 1) := by decide +kernel
theorem dX8_close_28 : decode cX8_close 28 = .ok (.getfield 15, 3) := by decide +kernel
theorem dX8_close_31 : decode cX8_close 31 = .ok (.iconst 1, 1) := by decide +kernel
theorem dX8_close_32 : decode cX8_close 32 = .ok (.iadd, 1) := by decide +kernel
theorem dX8_close_33 : decode cX8_close 33 = .ok (.putfield 15, 3) := by decide +kernel
theorem dX8_close_36 : decode cX8_close 36 = .ok (.return_, 1) := by decide +kernel
theorem dX8_signAt_0 : decode cX8_signAt 0 = .ok (.aload_n 0, 1) := by decide +kernel
theorem dX8_signAt_1 : decode cX8_signAt 1 = .ok (.getfield 38, 3) := by decide +kernel
theorem dX8_signAt_4 : decode cX8_signAt 4 = .ok (.iload_n 1, 1) := by decide +kernel
theorem dX8_signAt_5 : decode cX8_signAt 5 = .ok (.iaload, 1) := by decide +kernel
theorem dX8_signAt_6 : decode cX8_signAt 6 = .ok (.bipush 97, 2) := by decide +kernel
theorem dX8_signAt_8 : decode cX8_signAt 8 = .ok (.isub, 1) := by decide +kernel
theorem dX8_signAt_9 : decode cX8_signAt 9 = .ok (.istore_n 2, 1) := by decide +kernel
theorem dX8_signAt_10 : decode cX8_signAt 10 = .ok (.iload_n 2, 1) := by decide +kernel
theorem dX8_signAt_11 : decode cX8_signAt 11 = .ok (.ifCond .lt 9, 3) := by decide +kernel
theorem dX8_signAt_14 : decode cX8_signAt 14 = .ok (.iload_n 2, 1) := by decide +kernel
theorem dX8_signAt_15 : decode cX8_signAt 15 = .ok (.bipush 24, 2) := by decide +kernel
theorem dX8_signAt_17 : decode cX8_signAt 17 = .ok (.if_icmp .lt 7, 3) := by decide +kernel
theorem dX8_signAt_20 : decode cX8_signAt 20 = .ok (.iconst 0, 1) := by decide +kernel
theorem dX8_signAt_21 : decode cX8_signAt 21 = .ok (.goto 6, 3) := by decide +kernel
theorem dX8_signAt_24 : decode cX8_signAt 24 = .ok (.iconst 1, 1) := by decide +kernel
theorem dX8_signAt_25 : decode cX8_signAt 25 = .ok (.iload_n 2, 1) := by decide +kernel
theorem dX8_signAt_26 : decode cX8_signAt 26 = .ok (.ishl, 1) := by decide +kernel
theorem dX8_signAt_27 : decode cX8_signAt 27 = .ok (.ireturn, 1) := by decide +kernel
theorem dX8_isBlank_0 : decode cX8_isBlank 0 = .ok (.iload_n 0, 1) := by decide +kernel
theorem dX8_isBlank_1 : decode cX8_isBlank 1 = .ok (.bipush 32, 2) := by decide +kernel
theorem dX8_isBlank_3 : decode cX8_isBlank 3 = .ok (.if_icmp .eq 9, 3) := by decide +kernel
theorem dX8_isBlank_6 : decode cX8_isBlank 6 = .ok (.iload_n 0, 1) := by decide +kernel
theorem dX8_isBlank_7 : decode cX8_isBlank 7 = .ok (.bipush 10, 2) := by decide +kernel
theorem dX8_isBlank_9 : decode cX8_isBlank 9 = .ok (.if_icmp .ne 7, 3) := by decide +kernel
theorem dX8_isBlank_12 : decode cX8_isBlank 12 = .ok (.iconst 1, 1) := by decide +kernel
theorem dX8_isBlank_13 : decode cX8_isBlank 13 = .ok (.goto 4, 3) := by decide +kernel
theorem dX8_isBlank_16 : decode cX8_isBlank 16 = .ok (.iconst 0, 1) := by decide +kernel
theorem dX8_isBlank_17 : decode cX8_isBlank 17 = .ok (.ireturn, 1) := by decide +kernel
theorem dX9_init_0 : decode cX9_init 0 = .ok (.aload_n 0, 1) := by decide +kernel
theorem dX9_init_1 : decode cX9_init 1 = .ok (.invokespecial 1, 3) := by decide +kernel
theorem dX9_init_4 : decode cX9_init 4 = .ok (.aload_n 0, 1) := by decide +kernel
theorem dX9_init_5 : decode cX9_init 5 = .ok (.new 7, 3) := by decide +kernel
theorem dX9_init_8 : decode cX9_init 8 = .ok (.dup, 1) := by decide +kernel
theorem dX9_init_9 : decode cX9_init 9 = .ok (.invokespecial 9, 3) := by decide +kernel
theorem dX9_init_12 : decode cX9_init 12 = .ok (.putfield 10, 3) := by decide +kernel
theorem dX9_init_15 : decode cX9_init 15 = .ok (.aload_n 0, 1) := by decide +kernel
theorem dX9_init_16 : decode cX9_init 16 = .ok (.new 16, 3) := by decide +kernel
theorem dX9_init_19 : decode cX9_init 19 = .ok (.dup, 1) := by decide +kernel
theorem dX9_init_20 : decode cX9_init 20 = .ok (.invokespecial 18, 3) := by decide +kernel
theorem dX9_init_23 : decode cX9_init 23 = .ok (.putfield 19, 3) := by decide +kernel
theorem dX9_init_26 : decode cX9_init 26 = .ok (.aload_n 0, 1) := by decide +kernel
theorem dX9_init_27 : decode cX9_init 27 = .ok (.bipush 8, 2) := by decide +kernel
theorem dX9_init_29 : decode cX9_init 29 = .ok (.anewarray 23, 3) := by decide +kernel
theorem dX9_init_32 : decode cX9_init 32 = .ok (.putfield 25, 3) := by decide +kernel
theorem dX9_init_35 : decode cX9_init 35 = .ok (.aload_n 0, 1) := by decide +kernel
theorem dX9_init_36 : decode cX9_init 36 = .ok (.bipush 24, 2) := by decide +kernel
theorem dX9_init_38 : decode cX9_init 38 = .ok (.newarray .int, 2) := by decide +kernel
theorem dX9_init_40 : decode cX9_init 40 = .ok (.putfield 29, 3) := by decide +kernel
theorem dX9_init_43 : decode cX9_init 43 = .ok (.aload_n 0, 1) := by decide +kernel
theorem dX9_init_44 : decode cX9_init 44 = .ok (.new 33, 3) := by decide +kernel
theorem dX9_init_47 : decode cX9_init 47 = .ok (.dup, 1) := by decide +kernel
theorem dX9_init_48 : decode cX9_init 48 = .ok (.invokespecial 35, 3) := by decide +kernel
theorem dX9_init_51 : decode cX9_init 51 = .ok (.putfield 36, 3) := by decide +kernel
theorem dX9_init_54 : decode cX9_init 54 = .ok (.aload_n 0, 1) := by decide +kernel
theorem dX9_init_55 : decode cX9_init 55 = .ok (.new 40, 3) := by decide +kernel
theorem dX9_init_58 : decode cX9_init 58 = .ok (.dup, 1) := by decide +kernel
theorem dX9_init_59 : decode cX9_init 59 = .ok (.invokespecial 42, 3) := by decide +kernel
theorem dX9_init_62 : decode cX9_init 62 = .ok (.putfield 43, 3) := by decide +kernel
theorem dX9_init_65 : decode cX9_init 65 = .ok (.aload_n 0, 1) := by decide +kernel
theorem dX9_init_66 : decode cX9_init 66 = .ok (.new 47, 3) := by decide +kernel
theorem dX9_init_69 : decode cX9_init 69 = .ok (.dup, 1) := by decide +kernel
theorem dX9_init_70 : decode cX9_init 70 = .ok (.invokespecial 49, 3) := by decide +kernel
theorem dX9_init_73 : decode cX9_init 73 = .ok (.putfield 50, 3) := by decide +kernel
theorem dX9_init_76 : decode cX9_init 76 = .ok (.aload_n 0, 1) := by decide +kernel
theorem dX9_init_77 : decode cX9_init 77 = .ok (.new 54, 3) := by decide +kernel
theorem dX9_init_80 : decode cX9_init 80 = .ok (.dup, 1) := by decide +kernel
theorem dX9_init_81 : decode cX9_init 81 = .ok (.invokespecial 56, 3) := by decide +kernel
theorem dX9_init_84 : decode cX9_init 84 = .ok (.putfield 57, 3) := by decide +kernel
theorem dX9_init_87 : decode cX9_init 87 = .ok (.aload_n 0, 1) := by decide +kernel
theorem dX9_init_88 : decode cX9_init 88 = .ok (.new 61, 3) := by decide +kernel
theorem dX9_init_91 : decode cX9_init 91 = .ok (.dup, 1) := by decide +kernel
theorem dX9_init_92 : decode cX9_init 92 = .ok (.invokespecial 63, 3) := by decide +kernel
theorem dX9_init_95 : decode cX9_init 95 = .ok (.putfield 64, 3) := by decide +kernel
theorem dX9_init_98 : decode cX9_init 98 = .ok (.aload_n 0, 1) := by decide +kernel
theorem dX9_init_99 : decode cX9_init 99 = .ok (.new 68, 3) := by decide +kernel
theorem dX9_init_102 : decode cX9_init 102 = .ok (.dup, 1) := by decide +kernel
theorem dX9_init_103 : decode cX9_init 103 = .ok (.invokespecial 70, 3) := by decide +kernel
theorem dX9_init_106 : decode cX9_init 106 = .ok (.putfield 71, 3) := by decide +kernel
theorem dX9_init_109 : decode cX9_init 109 = .ok (.aload_n 0, 1) := by decide +kernel
theorem dX9_init_110 : decode cX9_init 110 = .ok (.bipush 24, 2) := by decide +kernel
theorem dX9_init_112 : decode cX9_init 112 = .ok (.newarray .int, 2) := by decide +kernel
theorem dX9_init_114 : decode cX9_init 114 = .ok (.putfield 75, 3) := by decide +kernel
theorem dX9_init_117 : decode cX9_init 117 = .ok (.aload_n 0, 1) := by decide +kernel
theorem dX9_init_118 : decode cX9_init 118 = .ok (.iconst 0, 1) := by decide +kernel
theorem dX9_init_119 : decode cX9_init 119 = .ok (.putfield 78, 3) := by decide +kernel
theorem dX9_init_122 : decode cX9_init 122 = .ok (.aload_n 0, 1) := by decide +kernel
theorem dX9_init_123 : decode cX9_init 123 = .ok (.iconst (-1), 1) := by decide +kernel
theorem dX9_init_124 : decode cX9_init 124 = .ok (.putfield 82, 3) := by decide +kernel
theorem dX9_init_127 : decode cX9_init 127 = .ok (.aload_n 0, 1) := by decide +kernel
theorem dX9_init_128 : decode cX9_init 128 = .ok (.iconst (-1), 1) := by decide +kernel
theorem dX9_init_129 : decode cX9_init 129 = .ok (.putfield 85, 3) := by decide +kernel
theorem dX9_init_132 : decode cX9_init 132 = .ok (.iconst 0, 1) := by decide +kernel
theorem dX9_init_133 : decode cX9_init 133 = .ok (.istore_n 1, 1) := by decide +kernel
theorem dX9_init_134 : decode cX9_init 134 = .ok (.iload_n 1, 1) := by decide +kernel
theorem dX9_init_135 : decode cX9_init 135 = .ok (.bipush 8, 2) := by decide +kernel
theorem dX9_init_137 : decode cX9_init 137 = .ok (.if_icmp .ge 22, 3) := by decide +kernel
theorem dX9_init_140 : decode cX9_init 140 = .ok (.aload_n 0, 1) := by decide +kernel
theorem dX9_init_141 : decode cX9_init 141 = .ok (.getfield 25, 3) := by decide +kernel
theorem dX9_init_144 : decode cX9_init 144 = .ok (.iload_n 1, 1) := by decide +kernel
theorem dX9_init_145 : decode cX9_init 145 = .ok (.new 23, 3) := by decide +kernel
theorem dX9_init_148 : decode cX9_init 148 = .ok (.dup, 1) := by decide +kernel
theorem dX9_init_149 : decode cX9_init 149 = .ok (.invokespecial 88, 3) := by decide +kernel
theorem dX9_init_152 : decode cX9_init 152 = .ok (.aastore, 1) := by decide +kernel
theorem dX9_init_153 : decode cX9_init 153 = .ok (.iinc 1 1, 3) := by decide +kernel
theorem dX9_init_156 : decode cX9_init 156 = .ok (.goto (-22), 3) := by decide +kernel
theorem dX9_init_159 : decode cX9_init 159 = .ok (.return_, 1) := by decide +kernel
theorem dX9_feed_0 : decode cX9_feed 0 = .ok (.aload_n 0, 1) := by decide +kernel
theorem dX9_feed_1 : decode cX9_feed 1 = .ok (.getfield 10, 3) := by decide +kernel
theorem dX9_feed_4 : decode cX9_feed 4 = .ok (.bipush 20, 2) := by decide +kernel
theorem dX9_feed_6 : decode cX9_feed 6 = .ok (.invokevirtual 89, 3) := by decide +kernel
theorem dX9_feed_9 : decode cX9_feed 9 = .ok (.ifCond .ne 6, 3) := by decide +kernel
theorem dX9_feed_12 : decode cX9_feed 12 = .ok (.bipush (-3), 2) := by decide +kernel
theorem dX9_feed_14 : decode cX9_feed 14 = .ok (.ireturn, 1) := by decide +kernel
theorem dX9_feed_15 : decode cX9_feed 15 = .ok (.aload_n 0, 1) := by decide +kernel
theorem dX9_feed_16 : decode cX9_feed 16 = .ok (.getfield 10, 3) := by decide +kernel
theorem dX9_feed_19 : decode cX9_feed 19 = .ok (.iload_n 1, 1) := by decide +kernel
theorem dX9_feed_20 : decode cX9_feed 20 = .ok (.invokevirtual 93, 3) := by decide +kernel
theorem dX9_feed_23 : decode cX9_feed 23 = .ok (.aload_n 0, 1) := by decide +kernel
theorem dX9_feed_24 : decode cX9_feed 24 = .ok (.getfield 10, 3) := by decide +kernel
theorem dX9_feed_27 : decode cX9_feed 27 = .ok (.iload_n 2, 1) := by decide +kernel
theorem dX9_feed_28 : decode cX9_feed 28 = .ok (.invokevirtual 93, 3) := by decide +kernel
theorem dX9_feed_31 : decode cX9_feed 31 = .ok (.aload_n 0, 1) := by decide +kernel
theorem dX9_feed_32 : decode cX9_feed 32 = .ok (.getfield 10, 3) := by decide +kernel
theorem dX9_feed_35 : decode cX9_feed 35 = .ok (.iload_n 3, 1) := by decide +kernel
theorem dX9_feed_36 : decode cX9_feed 36 = .ok (.invokevirtual 93, 3) := by decide +kernel
theorem dX9_feed_39 : decode cX9_feed 39 = .ok (.aload_n 0, 1) := by decide +kernel
theorem dX9_feed_40 : decode cX9_feed 40 = .ok (.getfield 10, 3) := by decide +kernel
theorem dX9_feed_43 : decode cX9_feed 43 = .ok (.iload 4, 2) := by decide +kernel
theorem dX9_feed_45 : decode cX9_feed 45 = .ok (.invokevirtual 93, 3) := by decide +kernel
theorem dX9_feed_48 : decode cX9_feed 48 = .ok (.aload_n 0, 1) := by decide +kernel
theorem dX9_feed_49 : decode cX9_feed 49 = .ok (.getfield 10, 3) := by decide +kernel
theorem dX9_feed_52 : decode cX9_feed 52 = .ok (.iload 5, 2) := by decide +kernel
theorem dX9_feed_54 : decode cX9_feed 54 = .ok (.invokevirtual 93, 3) := by decide +kernel
theorem dX9_feed_57 : decode cX9_feed 57 = .ok (.aload_n 0, 1) := by decide +kernel
theorem dX9_feed_58 : decode cX9_feed 58 = .ok (.getfield 10, 3) := by decide +kernel
theorem dX9_feed_61 : decode cX9_feed 61 = .ok (.getfield 97, 3) := by decide +kernel
theorem dX9_feed_64 : decode cX9_feed 64 = .ok (.ireturn, 1) := by decide +kernel
theorem dX9_end_0 : decode cX9_end 0 = .ok (.iload_n 1, 1) := by decide +kernel
theorem dX9_end_1 : decode cX9_end 1 = .ok (.ifCond .lt 14, 3) := by decide +kernel
theorem dX9_end_4 : decode cX9_end 4 = .ok (.iload_n 1, 1) := by decide +kernel
theorem dX9_end_5 : decode cX9_end 5 = .ok (.aload_n 0, 1) := by decide +kernel
theorem dX9_end_6 : decode cX9_end 6 = .ok (.getfield 10, 3) := by decide +kernel
theorem dX9_end_9 : decode cX9_end 9 = .ok (.getfield 97, 3) := by decide +kernel
theorem dX9_end_12 : decode cX9_end 12 = .ok (.if_icmp .le 5, 3) := by decide +kernel
theorem dX9_end_15 : decode cX9_end 15 = .ok (.iconst (-1), 1) := by decide +kernel
theorem dX9_end_16 : decode cX9_end 16 = .ok (.ireturn, 1) := by decide +kernel
theorem dX9_end_17 : decode cX9_end 17 = .ok (.aload_n 0, 1) := by decide +kernel
theorem dX9_end_18 : decode cX9_end 18 = .ok (.getfield 10, 3) := by decide +kernel
theorem dX9_end_21 : decode cX9_end 21 = .ok (.iload_n 1, 1) := by decide +kernel
theorem dX9_end_22 : decode cX9_end 22 = .ok (.putfield 97, 3) := by decide +kernel
theorem dX9_end_25 : decode cX9_end 25 = .ok (.iload_n 1, 1) := by decide +kernel
theorem dX9_end_26 : decode cX9_end 26 = .ok (.ireturn, 1) := by decide +kernel
theorem dX9_net_0 : decode cX9_net 0 = .ok (.aload_n 0, 1) := by decide +kernel
theorem dX9_net_1 : decode cX9_net 1 = .ok (.iload_n 1, 1) := by decide +kernel
theorem dX9_net_2 : decode cX9_net 2 = .ok (.invokevirtual 100, 3) := by decide +kernel
theorem dX9_net_5 : decode cX9_net 5 = .ok (.astore_n 3, 1) := by decide +kernel
theorem dX9_net_6 : decode cX9_net 6 = .ok (.aload_n 3, 1) := by decide +kernel
theorem dX9_net_7 : decode cX9_net 7 = .ok (.ifnull 14, 3) := by decide +kernel
theorem dX9_net_10 : decode cX9_net 10 = .ok (.iload_n 2, 1) := by decide +kernel
theorem dX9_net_11 : decode cX9_net 11 = .ok (.iconst 1, 1) := by decide +kernel
theorem dX9_net_12 : decode cX9_net 12 = .ok (.if_icmp .lt 9, 3) := by decide +kernel
theorem dX9_net_15 : decode cX9_net 15 = .ok (.iload_n 2, 1) := by decide +kernel
theorem dX9_net_16 : decode cX9_net 16 = .ok (.bipush 24, 2) := by decide +kernel
theorem dX9_net_18 : decode cX9_net 18 = .ok (.if_icmp .le 6, 3) := by decide +kernel
theorem dX9_net_21 : decode cX9_net 21 = .ok (.bipush (-2), 2) := by decide +kernel
theorem dX9_net_23 : decode cX9_net 23 = .ok (.ireturn, 1) := by decide +kernel
theorem dX9_net_24 : decode cX9_net 24 = .ok (.aload_n 3, 1) := by decide +kernel
theorem dX9_net_25 : decode cX9_net 25 = .ok (.iconst 0, 1) := by decide +kernel
theorem dX9_net_26 : decode cX9_net 26 = .ok (.iload_n 2, 1) := by decide +kernel
theorem dX9_net_27 : decode cX9_net 27 = .ok (.invokevirtual 104, 3) := by decide +kernel
theorem dX9_net_30 : decode cX9_net 30 = .ok (.iload_n 2, 1) := by decide +kernel
theorem dX9_net_31 : decode cX9_net 31 = .ok (.ireturn, 1) := by decide +kernel
theorem dX9_mistake_0 : decode cX9_mistake 0 = .ok (.aload_n 0, 1) := by decide +kernel
theorem dX9_mistake_1 : decode cX9_mistake 1 = .ok (.iload_n 1, 1) := by decide +kernel
theorem dX9_mistake_2 : decode cX9_mistake 2 = .ok (.invokevirtual 100, 3) := by decide +kernel
theorem dX9_mistake_5 : decode cX9_mistake 5 = .ok (.astore 5, 2) := by decide +kernel
theorem dX9_mistake_7 : decode cX9_mistake 7 = .ok (.aload 5, 2) := by decide +kernel
theorem dX9_mistake_9 : decode cX9_mistake 9 = .ok (.ifnull 26, 3) := by decide +kernel
theorem dX9_mistake_12 : decode cX9_mistake 12 = .ok (.aload 5, 2) := by decide +kernel
theorem dX9_mistake_14 : decode cX9_mistake 14 = .ok (.iload_n 2, 1) := by decide +kernel
theorem dX9_mistake_15 : decode cX9_mistake 15 = .ok (.invokevirtual 108, 3) := by decide +kernel
theorem dX9_mistake_18 : decode cX9_mistake 18 = .ok (.ifCond .eq 17, 3) := by decide +kernel
theorem dX9_mistake_21 : decode cX9_mistake 21 = .ok (.aload 5, 2) := by decide +kernel
theorem dX9_mistake_23 : decode cX9_mistake 23 = .ok (.iload_n 3, 1) := by decide +kernel
theorem dX9_mistake_24 : decode cX9_mistake 24 = .ok (.invokevirtual 108, 3) := by decide +kernel
theorem dX9_mistake_27 : decode cX9_mistake 27 = .ok (.ifCond .eq 8, 3) := by decide +kernel
theorem dX9_mistake_30 : decode cX9_mistake 30 = .ok (.iload_n 2, 1) := by decide +kernel
theorem dX9_mistake_31 : decode cX9_mistake 31 = .ok (.iload_n 3, 1) := by decide +kernel
theorem dX9_mistake_32 : decode cX9_mistake 32 = .ok (.if_icmp .ne 6, 3) := by decide +kernel
theorem dX9_mistake_35 : decode cX9_mistake 35 = .ok (.bipush (-2), 2) := by decide +kernel
theorem dX9_mistake_37 : decode cX9_mistake 37 = .ok (.ireturn, 1) := by decide +kernel
theorem dX9_mistake_38 : decode cX9_mistake 38 = .ok (.aload 5, 2) := by decide +kernel
theorem dX9_mistake_40 : decode cX9_mistake 40 = .ok (.getfield 111, 3) := by decide +kernel
theorem dX9_mistake_43 : decode cX9_mistake 43 = .ok (.ifCond .eq 6, 3) := by decide +kernel
theorem dX9_mistake_46 : decode cX9_mistake 46 = .ok (.bipush (-4), 2) := by decide +kernel
theorem dX9_mistake_48 : decode cX9_mistake 48 = .ok (.ireturn, 1) := by decide +kernel
theorem dX9_mistake_49 : decode cX9_mistake 49 = .ok (.aload 5, 2) := by decide +kernel
theorem dX9_mistake_51 : decode cX9_mistake 51 = .ok (.iload_n 2, 1) := by decide +kernel
theorem dX9_mistake_52 : decode cX9_mistake 52 = .ok (.iload_n 3, 1) := by decide +kernel
theorem dX9_mistake_53 : decode cX9_mistake 53 = .ok (.invokevirtual 114, 3) := by decide +kernel
theorem dX9_mistake_56 : decode cX9_mistake 56 = .ok (.iload 4, 2) := by decide +kernel
theorem dX9_mistake_58 : decode cX9_mistake 58 = .ok (.if_icmp .ne 5, 3) := by decide +kernel
theorem dX9_mistake_61 : decode cX9_mistake 61 = .ok (.iconst 0, 1) := by decide +kernel
theorem dX9_mistake_62 : decode cX9_mistake 62 = .ok (.ireturn, 1) := by decide +kernel
theorem dX9_mistake_63 : decode cX9_mistake 63 = .ok (.aload 5, 2) := by decide +kernel
theorem dX9_mistake_65 : decode cX9_mistake 65 = .ok (.iload_n 2, 1) := by decide +kernel
theorem dX9_mistake_66 : decode cX9_mistake 66 = .ok (.iload_n 3, 1) := by decide +kernel
theorem dX9_mistake_67 : decode cX9_mistake 67 = .ok (.invokevirtual 118, 3) := by decide +kernel
theorem dX9_mistake_70 : decode cX9_mistake 70 = .ok (.aload 5, 2) := by decide +kernel
theorem dX9_mistake_72 : decode cX9_mistake 72 = .ok (.invokevirtual 121, 3) := by decide +kernel
theorem dX9_mistake_75 : decode cX9_mistake 75 = .ok (.iconst 1, 1) := by decide +kernel
theorem dX9_mistake_76 : decode cX9_mistake 76 = .ok (.ireturn, 1) := by decide +kernel
theorem dX9_ring_0 : decode cX9_ring 0 = .ok (.aload_n 0, 1) := by decide +kernel
theorem dX9_ring_1 : decode cX9_ring 1 = .ok (.iload_n 1, 1) := by decide +kernel
theorem dX9_ring_2 : decode cX9_ring 2 = .ok (.invokevirtual 100, 3) := by decide +kernel
theorem dX9_ring_5 : decode cX9_ring 5 = .ok (.astore_n 3, 1) := by decide +kernel
theorem dX9_ring_6 : decode cX9_ring 6 = .ok (.aload_n 3, 1) := by decide +kernel
theorem dX9_ring_7 : decode cX9_ring 7 = .ok (.ifnull 14, 3) := by decide +kernel
theorem dX9_ring_10 : decode cX9_ring 10 = .ok (.iload_n 2, 1) := by decide +kernel
theorem dX9_ring_11 : decode cX9_ring 11 = .ok (.iconst 3, 1) := by decide +kernel
theorem dX9_ring_12 : decode cX9_ring 12 = .ok (.if_icmp .lt 9, 3) := by decide +kernel
theorem dX9_ring_15 : decode cX9_ring 15 = .ok (.iload_n 2, 1) := by decide +kernel
theorem dX9_ring_16 : decode cX9_ring 16 = .ok (.bipush 24, 2) := by decide +kernel
theorem dX9_ring_18 : decode cX9_ring 18 = .ok (.if_icmp .le 6, 3) := by decide +kernel
theorem dX9_ring_21 : decode cX9_ring 21 = .ok (.bipush (-2), 2) := by decide +kernel
theorem dX9_ring_23 : decode cX9_ring 23 = .ok (.ireturn, 1) := by decide +kernel
theorem dX9_ring_24 : decode cX9_ring 24 = .ok (.aload_n 3, 1) := by decide +kernel
theorem dX9_ring_25 : decode cX9_ring 25 = .ok (.iconst 2, 1) := by decide +kernel
theorem dX9_ring_26 : decode cX9_ring 26 = .ok (.iload_n 2, 1) := by decide +kernel
theorem dX9_ring_27 : decode cX9_ring 27 = .ok (.invokevirtual 104, 3) := by decide +kernel
theorem dX9_ring_30 : decode cX9_ring 30 = .ok (.iconst 0, 1) := by decide +kernel
theorem dX9_ring_31 : decode cX9_ring 31 = .ok (.istore 4, 2) := by decide +kernel
theorem dX9_ring_33 : decode cX9_ring 33 = .ok (.iload 4, 2) := by decide +kernel
theorem dX9_ring_35 : decode cX9_ring 35 = .ok (.iload_n 2, 1) := by decide +kernel
theorem dX9_ring_36 : decode cX9_ring 36 = .ok (.if_icmp .ge 31, 3) := by decide +kernel
theorem dX9_ring_39 : decode cX9_ring 39 = .ok (.aload_n 3, 1) := by decide +kernel
theorem dX9_ring_40 : decode cX9_ring 40 = .ok (.iload 4, 2) := by decide +kernel
theorem dX9_ring_42 : decode cX9_ring 42 = .ok (.iload 4, 2) := by decide +kernel
theorem dX9_ring_44 : decode cX9_ring 44 = .ok (.iconst 1, 1) := by decide +kernel
theorem dX9_ring_45 : decode cX9_ring 45 = .ok (.iadd, 1) := by decide +kernel
theorem dX9_ring_46 : decode cX9_ring 46 = .ok (.iload_n 2, 1) := by decide +kernel
theorem dX9_ring_47 : decode cX9_ring 47 = .ok (.if_icmp .ge 10, 3) := by decide +kernel
theorem dX9_ring_50 : decode cX9_ring 50 = .ok (.iload 4, 2) := by decide +kernel
theorem dX9_ring_52 : decode cX9_ring 52 = .ok (.iconst 1, 1) := by decide +kernel
theorem dX9_ring_53 : decode cX9_ring 53 = .ok (.iadd, 1) := by decide +kernel
theorem dX9_ring_54 : decode cX9_ring 54 = .ok (.goto 4, 3) := by decide +kernel
theorem dX9_ring_57 : decode cX9_ring 57 = .ok (.iconst 0, 1) := by decide +kernel
theorem dX9_ring_58 : decode cX9_ring 58 = .ok (.invokevirtual 118, 3) := by decide +kernel
theorem dX9_ring_61 : decode cX9_ring 61 = .ok (.iinc 4 1, 3) := by decide +kernel
theorem dX9_ring_64 : decode cX9_ring 64 = .ok (.goto (-31), 3) := by decide +kernel
theorem dX9_ring_67 : decode cX9_ring 67 = .ok (.iload_n 2, 1) := by decide +kernel
theorem dX9_ring_68 : decode cX9_ring 68 = .ok (.ireturn, 1) := by decide +kernel
theorem dX9_told_0 : decode cX9_told 0 = .ok (.aload_n 0, 1) := by decide +kernel
theorem dX9_told_1 : decode cX9_told 1 = .ok (.iload_n 1, 1) := by decide +kernel
theorem dX9_told_2 : decode cX9_told 2 = .ok (.invokevirtual 100, 3) := by decide +kernel
theorem dX9_told_5 : decode cX9_told 5 = .ok (.astore_n 2, 1) := by decide +kernel
theorem dX9_told_6 : decode cX9_told 6 = .ok (.aload_n 2, 1) := by decide +kernel
theorem dX9_told_7 : decode cX9_told 7 = .ok (.ifnonnull 13, 3) := by decide +kernel
theorem dX9_told_10 : decode cX9_told 10 = .ok (.aload_n 0, 1) := by decide +kernel
theorem dX9_told_11 : decode cX9_told 11 = .ok (.getfield 10, 3) := by decide +kernel
theorem dX9_told_14 : decode cX9_told 14 = .ok (.invokevirtual 124, 3) := by decide +kernel
theorem dX9_told_17 : decode cX9_told 17 = .ok (.bipush (-2), 2) := by decide +kernel
theorem dX9_told_19 : decode cX9_told 19 = .ok (.ireturn, 1) := by decide +kernel
theorem dX9_told_20 : decode cX9_told 20 = .ok (.aload_n 0, 1) := by decide +kernel
theorem dX9_told_21 : decode cX9_told 21 = .ok (.getfield 19, 3) := by decide +kernel
theorem dX9_told_24 : decode cX9_told 24 = .ok (.aload_n 0, 1) := by decide +kernel
theorem dX9_told_25 : decode cX9_told 25 = .ok (.getfield 10, 3) := by decide +kernel
theorem dX9_told_28 : decode cX9_told 28 = .ok (.invokevirtual 127, 3) := by decide +kernel
theorem dX9_told_31 : decode cX9_told 31 = .ok (.aload_n 0, 1) := by decide +kernel
theorem dX9_told_32 : decode cX9_told 32 = .ok (.getfield 10, 3) := by decide +kernel
theorem dX9_told_35 : decode cX9_told 35 = .ok (.invokevirtual 124, 3) := by decide +kernel
theorem dX9_told_38 : decode cX9_told 38 = .ok (.aload_n 0, 1) := by decide +kernel
theorem dX9_told_39 : decode cX9_told 39 = .ok (.getfield 19, 3) := by decide +kernel
theorem dX9_told_42 : decode cX9_told 42 = .ok (.getfield 131, 3) := by decide +kernel
theorem dX9_told_45 : decode cX9_told 45 = .ok (.ifCond .eq 5, 3) := by decide +kernel
theorem dX9_told_48 : decode cX9_told 48 = .ok (.iconst (-1), 1) := by decide +kernel
theorem dX9_told_49 : decode cX9_told 49 = .ok (.ireturn, 1) := by decide +kernel
theorem dX9_told_50 : decode cX9_told 50 = .ok (.aload_n 2, 1) := by decide +kernel
theorem dX9_told_51 : decode cX9_told 51 = .ok (.iconst 1, 1) := by decide +kernel
theorem dX9_told_52 : decode cX9_told 52 = .ok (.aload_n 0, 1) := by decide +kernel
theorem dX9_told_53 : decode cX9_told 53 = .ok (.getfield 19, 3) := by decide +kernel
theorem dX9_told_56 : decode cX9_told 56 = .ok (.getfield 134, 3) := by decide +kernel
theorem dX9_told_59 : decode cX9_told 59 = .ok (.invokevirtual 104, 3) := by decide +kernel
theorem dX9_told_62 : decode cX9_told 62 = .ok (.aload_n 2, 1) := by decide +kernel
theorem dX9_told_63 : decode cX9_told 63 = .ok (.aload_n 0, 1) := by decide +kernel
theorem dX9_told_64 : decode cX9_told 64 = .ok (.getfield 19, 3) := by decide +kernel
theorem dX9_told_67 : decode cX9_told 67 = .ok (.getfield 137, 3) := by decide +kernel
theorem dX9_told_70 : decode cX9_told 70 = .ok (.invokevirtual 140, 3) := by decide +kernel
theorem dX9_told_73 : decode cX9_told 73 = .ok (.aload_n 2, 1) := by decide +kernel
theorem dX9_told_74 : decode cX9_told 74 = .ok (.getfield 144, 3) := by decide +kernel
theorem dX9_told_77 : decode cX9_told 77 = .ok (.ireturn, 1) := by decide +kernel
theorem dX9_fault_0 : decode cX9_fault 0 = .ok (.iload_n 1, 1) := by decide +kernel
theorem dX9_fault_1 : decode cX9_fault 1 = .ok (.ifCond .ne 11, 3) := by decide +kernel
theorem dX9_fault_4 : decode cX9_fault 4 = .ok (.aload_n 0, 1) := by decide +kernel
theorem dX9_fault_5 : decode cX9_fault 5 = .ok (.getfield 19, 3) := by decide +kernel
theorem dX9_fault_8 : decode cX9_fault 8 = .ok (.getfield 131, 3) := by decide +kernel
theorem dX9_fault_11 : decode cX9_fault 11 = .ok (.ireturn, 1) := by decide +kernel
theorem dX9_fault_12 : decode cX9_fault 12 = .ok (.iload_n 1, 1) := by decide +kernel
theorem dX9_fault_13 : decode cX9_fault 13 = .ok (.iconst 1, 1) := by decide +kernel
theorem dX9_fault_14 : decode cX9_fault 14 = .ok (.if_icmp .ne 13, 3) := by decide +kernel
theorem dX9_fault_17 : decode cX9_fault 17 = .ok (.aload_n 0, 1) := by decide +kernel
theorem dX9_fault_18 : decode cX9_fault 18 = .ok (.getfield 19, 3) := by decide +kernel
theorem dX9_fault_21 : decode cX9_fault 21 = .ok (.getfield 145, 3) := by decide +kernel
theorem dX9_fault_24 : decode cX9_fault 24 = .ok (.goto 4, 3) := by decide +kernel
theorem dX9_fault_27 : decode cX9_fault 27 = .ok (.iconst (-1), 1) := by decide +kernel
theorem dX9_fault_28 : decode cX9_fault 28 = .ok (.ireturn, 1) := by decide +kernel
theorem dX9_both_0 : decode cX9_both 0 = .ok (.aload_n 0, 1) := by decide +kernel
theorem dX9_both_1 : decode cX9_both 1 = .ok (.iload_n 1, 1) := by decide +kernel
theorem dX9_both_2 : decode cX9_both 2 = .ok (.invokevirtual 100, 3) := by decide +kernel
theorem dX9_both_5 : decode cX9_both 5 = .ok (.astore 4, 2) := by decide +kernel
theorem dX9_both_7 : decode cX9_both 7 = .ok (.aload_n 0, 1) := by decide +kernel
theorem dX9_both_8 : decode cX9_both 8 = .ok (.iload_n 2, 1) := by decide +kernel
theorem dX9_both_9 : decode cX9_both 9 = .ok (.invokevirtual 100, 3) := by decide +kernel
theorem dX9_both_12 : decode cX9_both 12 = .ok (.astore 5, 2) := by decide +kernel
theorem dX9_both_14 : decode cX9_both 14 = .ok (.aload_n 0, 1) := by decide +kernel
theorem dX9_both_15 : decode cX9_both 15 = .ok (.iload_n 3, 1) := by decide +kernel
theorem dX9_both_16 : decode cX9_both 16 = .ok (.invokevirtual 100, 3) := by decide +kernel
theorem dX9_both_19 : decode cX9_both 19 = .ok (.astore 6, 2) := by decide +kernel
theorem dX9_both_21 : decode cX9_both 21 = .ok (.aload 4, 2) := by decide +kernel
theorem dX9_both_23 : decode cX9_both 23 = .ok (.ifnull 13, 3) := by decide +kernel
theorem dX9_both_26 : decode cX9_both 26 = .ok (.aload 5, 2) := by decide +kernel
theorem dX9_both_28 : decode cX9_both 28 = .ok (.ifnull 8, 3) := by decide +kernel
theorem dX9_both_31 : decode cX9_both 31 = .ok (.aload 6, 2) := by decide +kernel
theorem dX9_both_33 : decode cX9_both 33 = .ok (.ifnonnull 6, 3) := by decide +kernel
theorem dX9_both_36 : decode cX9_both 36 = .ok (.bipush (-2), 2) := by decide +kernel
theorem dX9_both_38 : decode cX9_both 38 = .ok (.ireturn, 1) := by decide +kernel
theorem dX9_both_39 : decode cX9_both 39 = .ok (.aload 4, 2) := by decide +kernel
theorem dX9_both_41 : decode cX9_both 41 = .ok (.getfield 144, 3) := by decide +kernel
theorem dX9_both_44 : decode cX9_both 44 = .ok (.aload 5, 2) := by decide +kernel
theorem dX9_both_46 : decode cX9_both 46 = .ok (.getfield 144, 3) := by decide +kernel
theorem dX9_both_49 : decode cX9_both 49 = .ok (.imul, 1) := by decide +kernel
theorem dX9_both_50 : decode cX9_both 50 = .ok (.istore 7, 2) := by decide +kernel
theorem dX9_both_52 : decode cX9_both 52 = .ok (.iload 7, 2) := by decide +kernel
theorem dX9_both_54 : decode cX9_both 54 = .ok (.bipush 24, 2) := by decide +kernel
theorem dX9_both_56 : decode cX9_both 56 = .ok (.if_icmp .le 6, 3) := by decide +kernel
theorem dX9_both_59 : decode cX9_both 59 = .ok (.bipush (-3), 2) := by decide +kernel
theorem dX9_both_61 : decode cX9_both 61 = .ok (.ireturn, 1) := by decide +kernel
theorem dX9_both_62 : decode cX9_both 62 = .ok (.iconst 0, 1) := by decide +kernel
theorem dX9_both_63 : decode cX9_both 63 = .ok (.istore 8, 2) := by decide +kernel
theorem dX9_both_65 : decode cX9_both 65 = .ok (.iload 8, 2) := by decide +kernel
theorem dX9_both_67 : decode cX9_both 67 = .ok (.aload 4, 2) := by decide +kernel
theorem dX9_both_69 : decode cX9_both 69 = .ok (.getfield 144, 3) := by decide +kernel
theorem dX9_both_72 : decode cX9_both 72 = .ok (.if_icmp .ge 66, 3) := by decide +kernel
theorem dX9_both_75 : decode cX9_both 75 = .ok (.iconst 0, 1) := by decide +kernel
theorem dX9_both_76 : decode cX9_both 76 = .ok (.istore 9, 2) := by decide +kernel
theorem dX9_both_78 : decode cX9_both 78 = .ok (.iload 9, 2) := by decide +kernel
theorem dX9_both_80 : decode cX9_both 80 = .ok (.aload 5, 2) := by decide +kernel
theorem dX9_both_82 : decode cX9_both 82 = .ok (.getfield 144, 3) := by decide +kernel
theorem dX9_both_85 : decode cX9_both 85 = .ok (.if_icmp .ge 47, 3) := by decide +kernel
theorem dX9_both_88 : decode cX9_both 88 = .ok (.iload 8, 2) := by decide +kernel
theorem dX9_both_90 : decode cX9_both 90 = .ok (.aload 5, 2) := by decide +kernel
theorem dX9_both_92 : decode cX9_both 92 = .ok (.getfield 144, 3) := by decide +kernel
theorem dX9_both_95 : decode cX9_both 95 = .ok (.imul, 1) := by decide +kernel
theorem dX9_both_96 : decode cX9_both 96 = .ok (.iload 9, 2) := by decide +kernel
theorem dX9_both_98 : decode cX9_both 98 = .ok (.iadd, 1) := by decide +kernel
theorem dX9_both_99 : decode cX9_both 99 = .ok (.istore 10, 2) := by decide +kernel
theorem dX9_both_101 : decode cX9_both 101 = .ok (.aload_n 0, 1) := by decide +kernel
theorem dX9_both_102 : decode cX9_both 102 = .ok (.getfield 29, 3) := by decide +kernel
theorem dX9_both_105 : decode cX9_both 105 = .ok (.iload 10, 2) := by decide +kernel
theorem dX9_both_107 : decode cX9_both 107 = .ok (.aload 4, 2) := by decide +kernel
theorem dX9_both_109 : decode cX9_both 109 = .ok (.iload 8, 2) := by decide +kernel
theorem dX9_both_111 : decode cX9_both 111 = .ok (.aload 5, 2) := by decide +kernel
theorem dX9_both_113 : decode cX9_both 113 = .ok (.iload 9, 2) := by decide +kernel
theorem dX9_both_115 : decode cX9_both 115 = .ok (.invokestatic 148, 3) := by decide +kernel
theorem dX9_both_118 : decode cX9_both 118 = .ok (.iconst 1, 1) := by decide +kernel
theorem dX9_both_119 : decode cX9_both 119 = .ok (.iload 10, 2) := by decide +kernel
theorem dX9_both_121 : decode cX9_both 121 = .ok (.ishl, 1) := by decide +kernel
theorem dX9_both_122 : decode cX9_both 122 = .ok (.iconst (-1), 1) := by decide +kernel
theorem dX9_both_123 : decode cX9_both 123 = .ok (.ixor, 1) := by decide +kernel
theorem dX9_both_124 : decode cX9_both 124 = .ok (.iand, 1) := by decide +kernel
theorem dX9_both_125 : decode cX9_both 125 = .ok (.iastore, 1) := by decide +kernel
theorem dX9_both_126 : decode cX9_both 126 = .ok (.iinc 9 1, 3) := by decide +kernel
theorem dX9_both_129 : decode cX9_both 129 = .ok (.goto (-51), 3) := by decide +kernel
theorem dX9_both_132 : decode cX9_both 132 = .ok (.iinc 8 1, 3) := by decide +kernel
theorem dX9_both_135 : decode cX9_both 135 = .ok (.goto (-70), 3) := by decide +kernel
theorem dX9_both_138 : decode cX9_both 138 = .ok (.aload 6, 2) := by decide +kernel
theorem dX9_both_140 : decode cX9_both 140 = .ok (.iconst 0, 1) := by decide +kernel
theorem dX9_both_141 : decode cX9_both 141 = .ok (.iload 7, 2) := by decide +kernel
theorem dX9_both_143 : decode cX9_both 143 = .ok (.invokevirtual 104, 3) := by decide +kernel
theorem dX9_both_146 : decode cX9_both 146 = .ok (.aload 6, 2) := by decide +kernel
theorem dX9_both_148 : decode cX9_both 148 = .ok (.aload_n 0, 1) := by decide +kernel
theorem dX9_both_149 : decode cX9_both 149 = .ok (.getfield 29, 3) := by decide +kernel
theorem dX9_both_152 : decode cX9_both 152 = .ok (.invokevirtual 152, 3) := by decide +kernel
theorem dX9_both_155 : decode cX9_both 155 = .ok (.iload 7, 2) := by decide +kernel
theorem dX9_both_157 : decode cX9_both 157 = .ok (.ireturn, 1) := by decide +kernel
theorem dX9_either_0 : decode cX9_either 0 = .ok (.aload_n 0, 1) := by decide +kernel
theorem dX9_either_1 : decode cX9_either 1 = .ok (.iload_n 1, 1) := by decide +kernel
theorem dX9_either_2 : decode cX9_either 2 = .ok (.invokevirtual 100, 3) := by decide +kernel
theorem dX9_either_5 : decode cX9_either 5 = .ok (.astore 4, 2) := by decide +kernel
theorem dX9_either_7 : decode cX9_either 7 = .ok (.aload_n 0, 1) := by decide +kernel
theorem dX9_either_8 : decode cX9_either 8 = .ok (.iload_n 2, 1) := by decide +kernel
theorem dX9_either_9 : decode cX9_either 9 = .ok (.invokevirtual 100, 3) := by decide +kernel
theorem dX9_either_12 : decode cX9_either 12 = .ok (.astore 5, 2) := by decide +kernel
theorem dX9_either_14 : decode cX9_either 14 = .ok (.aload_n 0, 1) := by decide +kernel
theorem dX9_either_15 : decode cX9_either 15 = .ok (.iload_n 3, 1) := by decide +kernel
theorem dX9_either_16 : decode cX9_either 16 = .ok (.invokevirtual 100, 3) := by decide +kernel
theorem dX9_either_19 : decode cX9_either 19 = .ok (.astore 6, 2) := by decide +kernel
theorem dX9_either_21 : decode cX9_either 21 = .ok (.aload 4, 2) := by decide +kernel
theorem dX9_either_23 : decode cX9_either 23 = .ok (.ifnull 13, 3) := by decide +kernel
theorem dX9_either_26 : decode cX9_either 26 = .ok (.aload 5, 2) := by decide +kernel
theorem dX9_either_28 : decode cX9_either 28 = .ok (.ifnull 8, 3) := by decide +kernel
theorem dX9_either_31 : decode cX9_either 31 = .ok (.aload 6, 2) := by decide +kernel
theorem dX9_either_33 : decode cX9_either 33 = .ok (.ifnonnull 6, 3) := by decide +kernel
theorem dX9_either_36 : decode cX9_either 36 = .ok (.bipush (-2), 2) := by decide +kernel
theorem dX9_either_38 : decode cX9_either 38 = .ok (.ireturn, 1) := by decide +kernel
theorem dX9_either_39 : decode cX9_either 39 = .ok (.aload 4, 2) := by decide +kernel
theorem dX9_either_41 : decode cX9_either 41 = .ok (.getfield 144, 3) := by decide +kernel
theorem dX9_either_44 : decode cX9_either 44 = .ok (.aload 5, 2) := by decide +kernel
theorem dX9_either_46 : decode cX9_either 46 = .ok (.getfield 144, 3) := by decide +kernel
theorem dX9_either_49 : decode cX9_either 49 = .ok (.iadd, 1) := by decide +kernel
theorem dX9_either_50 : decode cX9_either 50 = .ok (.istore 7, 2) := by decide +kernel
theorem dX9_either_52 : decode cX9_either 52 = .ok (.iload 7, 2) := by decide +kernel
theorem dX9_either_54 : decode cX9_either 54 = .ok (.bipush 24, 2) := by decide +kernel
theorem dX9_either_56 : decode cX9_either 56 = .ok (.if_icmp .le 6, 3) := by decide +kernel
theorem dX9_either_59 : decode cX9_either 59 = .ok (.bipush (-3), 2) := by decide +kernel
theorem dX9_either_61 : decode cX9_either 61 = .ok (.ireturn, 1) := by decide +kernel
theorem dX9_either_62 : decode cX9_either 62 = .ok (.aload 4, 2) := by decide +kernel
theorem dX9_either_64 : decode cX9_either 64 = .ok (.getfield 144, 3) := by decide +kernel
theorem dX9_either_67 : decode cX9_either 67 = .ok (.istore 8, 2) := by decide +kernel
theorem dX9_either_69 : decode cX9_either 69 = .ok (.iconst 0, 1) := by decide +kernel
theorem dX9_either_70 : decode cX9_either 70 = .ok (.istore 9, 2) := by decide +kernel
theorem dX9_either_72 : decode cX9_either 72 = .ok (.iload 9, 2) := by decide +kernel
theorem dX9_either_74 : decode cX9_either 74 = .ok (.aload 4, 2) := by decide +kernel
theorem dX9_either_76 : decode cX9_either 76 = .ok (.getfield 144, 3) := by decide +kernel
theorem dX9_either_79 : decode cX9_either 79 = .ok (.if_icmp .ge 24, 3) := by decide +kernel
theorem dX9_either_82 : decode cX9_either 82 = .ok (.aload_n 0, 1) := by decide +kernel
theorem dX9_either_83 : decode cX9_either 83 = .ok (.getfield 29, 3) := by decide +kernel
theorem dX9_either_86 : decode cX9_either 86 = .ok (.iload 9, 2) := by decide +kernel
theorem dX9_either_88 : decode cX9_either 88 = .ok (.aload 4, 2) := by decide +kernel
theorem dX9_either_90 : decode cX9_either 90 = .ok (.getfield 155, 3) := by decide +kernel
theorem dX9_either_93 : decode cX9_either 93 = .ok (.iload 9, 2) := by decide +kernel
theorem dX9_either_95 : decode cX9_either 95 = .ok (.iaload, 1) := by decide +kernel
theorem dX9_either_96 : decode cX9_either 96 = .ok (.iastore, 1) := by decide +kernel
theorem dX9_either_97 : decode cX9_either 97 = .ok (.iinc 9 1, 3) := by decide +kernel
theorem dX9_either_100 : decode cX9_either 100 = .ok (.goto (-28), 3) := by decide +kernel
theorem dX9_either_103 : decode cX9_either 103 = .ok (.iconst 0, 1) := by decide +kernel
theorem dX9_either_104 : decode cX9_either 104 = .ok (.istore 9, 2) := by decide +kernel
theorem dX9_either_106 : decode cX9_either 106 = .ok (.iload 9, 2) := by decide +kernel
theorem dX9_either_108 : decode cX9_either 108 = .ok (.aload 5, 2) := by decide +kernel
theorem dX9_either_110 : decode cX9_either 110 = .ok (.getfield 144, 3) := by decide +kernel
theorem dX9_either_113 : decode cX9_either 113 = .ok (.if_icmp .ge 30, 3) := by decide +kernel
theorem dX9_either_116 : decode cX9_either 116 = .ok (.aload_n 0, 1) := by decide +kernel
theorem dX9_either_117 : decode cX9_either 117 = .ok (.getfield 29, 3) := by decide +kernel
theorem dX9_either_120 : decode cX9_either 120 = .ok (.iload 8, 2) := by decide +kernel
