theorem dX10_heldRates_5 : decode cX10_heldRates 5 = .ok (.iload_n 1, 1) := by decide +kernel
theorem dX10_heldRates_6 : decode cX10_heldRates 6 = .ok (.i2l, 1) := by decide +kernel
theorem dX10_heldRates_7 : decode cX10_heldRates 7 = .ok (.iload 4, 2) := by decide +kernel
theorem dX10_heldRates_9 : decode cX10_heldRates 9 = .ok (.invokestatic 236, 3) := by decide +kernel
theorem dX10_heldRates_12 : decode cX10_heldRates 12 = .ok (.aload_n 0, 1) := by decide +kernel
theorem dX10_heldRates_13 : decode cX10_heldRates 13 = .ok (.getfield 70, 3) := by decide +kernel
theorem dX10_heldRates_16 : decode cX10_heldRates 16 = .ok (.iconst 1, 1) := by decide +kernel
theorem dX10_heldRates_17 : decode cX10_heldRates 17 = .ok (.iload_n 3, 1) := by decide +kernel
theorem dX10_heldRates_18 : decode cX10_heldRates 18 = .ok (.i2l, 1) := by decide +kernel
theorem dX10_heldRates_19 : decode cX10_heldRates 19 = .ok (.iload_n 2, 1) := by decide +kernel
theorem dX10_heldRates_20 : decode cX10_heldRates 20 = .ok (.invokestatic 236, 3) := by decide +kernel
theorem dX10_heldRates_23 : decode cX10_heldRates 23 = .ok (.aload_n 0, 1) := by decide +kernel
theorem dX10_heldRates_24 : decode cX10_heldRates 24 = .ok (.invokevirtual 240, 3) := by decide +kernel
theorem dX10_heldRates_27 : decode cX10_heldRates 27 = .ok (.ireturn, 1) := by decide +kernel
theorem dX10_compare_0 : decode cX10_compare 0 = .ok (.iload_n 1, 1) := by decide +kernel
theorem dX10_compare_1 : decode cX10_compare 1 = .ok (.i2l, 1) := by decide +kernel
theorem dX10_compare_2 : decode cX10_compare 2 = .ok (.lconst 1, 1) := by decide +kernel
theorem dX10_compare_3 : decode cX10_compare 3 = .ok (.ldc2_w 244, 3) := by decide +kernel
theorem dX10_compare_6 : decode cX10_compare 6 = .ok (.invokestatic 81, 3) := by decide +kernel
theorem dX10_compare_9 : decode cX10_compare 9 = .ok (.ifCond .eq 52, 3) := by decide +kernel
theorem dX10_compare_12 : decode cX10_compare 12 = .ok (.iload_n 3, 1) := by decide +kernel
theorem dX10_compare_13 : decode cX10_compare 13 = .ok (.i2l, 1) := by decide +kernel
theorem dX10_compare_14 : decode cX10_compare 14 = .ok (.lconst 1, 1) := by decide +kernel
theorem dX10_compare_15 : decode cX10_compare 15 = .ok (.ldc2_w 244, 3) := by decide +kernel
theorem dX10_compare_18 : decode cX10_compare 18 = .ok (.invokestatic 81, 3) := by decide +kernel
theorem dX10_compare_21 : decode cX10_compare 21 = .ok (.ifCond .eq 40, 3) := by decide +kernel
theorem dX10_compare_24 : decode cX10_compare 24 = .ok (.iload_n 2, 1) := by decide +kernel
theorem dX10_compare_25 : decode cX10_compare 25 = .ok (.i2l, 1) := by decide +kernel
theorem dX10_compare_26 : decode cX10_compare 26 = .ok (.lconst 1, 1) := by decide +kernel
theorem dX10_compare_27 : decode cX10_compare 27 = .ok (.ldc2_w 246, 3) := by decide +kernel
theorem dX10_compare_30 : decode cX10_compare 30 = .ok (.invokestatic 81, 3) := by decide +kernel
theorem dX10_compare_33 : decode cX10_compare 33 = .ok (.ifCond .eq 28, 3) := by decide +kernel
theorem dX10_compare_36 : decode cX10_compare 36 = .ok (.iload 4, 2) := by decide +kernel
theorem dX10_compare_38 : decode cX10_compare 38 = .ok (.i2l, 1) := by decide +kernel
theorem dX10_compare_39 : decode cX10_compare 39 = .ok (.lconst 1, 1) := by decide +kernel
theorem dX10_compare_40 : decode cX10_compare 40 = .ok (.ldc2_w 246, 3) := by decide +kernel
theorem dX10_compare_43 : decode cX10_compare 43 = .ok (.invokestatic 81, 3) := by decide +kernel
theorem dX10_compare_46 : decode cX10_compare 46 = .ok (.ifCond .eq 15, 3) := by decide +kernel
theorem dX10_compare_49 : decode cX10_compare 49 = .ok (.aload_n 0, 1) := by decide +kernel
theorem dX10_compare_50 : decode cX10_compare 50 = .ok (.iload_n 1, 1) := by decide +kernel
theorem dX10_compare_51 : decode cX10_compare 51 = .ok (.iload_n 2, 1) := by decide +kernel
theorem dX10_compare_52 : decode cX10_compare 52 = .ok (.iload_n 3, 1) := by decide +kernel
theorem dX10_compare_53 : decode cX10_compare 53 = .ok (.iload 4, 2) := by decide +kernel
theorem dX10_compare_55 : decode cX10_compare 55 = .ok (.invokevirtual 248, 3) := by decide +kernel
theorem dX10_compare_58 : decode cX10_compare 58 = .ok (.goto 5, 3) := by decide +kernel
theorem dX10_compare_61 : decode cX10_compare 61 = .ok (.bipush (-2), 2) := by decide +kernel
theorem dX10_compare_63 : decode cX10_compare 63 = .ok (.ireturn, 1) := by decide +kernel
theorem dX10_bestOf_0 : decode cX10_bestOf 0 = .ok (.iconst (-1), 1) := by decide +kernel
theorem dX10_bestOf_1 : decode cX10_bestOf 1 = .ok (.istore_n 2, 1) := by decide +kernel
theorem dX10_bestOf_2 : decode cX10_bestOf 2 = .ok (.iconst 1, 1) := by decide +kernel
theorem dX10_bestOf_3 : decode cX10_bestOf 3 = .ok (.istore_n 3, 1) := by decide +kernel
theorem dX10_bestOf_4 : decode cX10_bestOf 4 = .ok (.iload_n 3, 1) := by decide +kernel
theorem dX10_bestOf_5 : decode cX10_bestOf 5 = .ok (.aload_n 0, 1) := by decide +kernel
theorem dX10_bestOf_6 : decode cX10_bestOf 6 = .ok (.getfield 9, 3) := by decide +kernel
theorem dX10_bestOf_9 : decode cX10_bestOf 9 = .ok (.iload_n 1, 1) := by decide +kernel
theorem dX10_bestOf_10 : decode cX10_bestOf 10 = .ok (.iaload, 1) := by decide +kernel
theorem dX10_bestOf_11 : decode cX10_bestOf 11 = .ok (.iconst 1, 1) := by decide +kernel
theorem dX10_bestOf_12 : decode cX10_bestOf 12 = .ok (.if_icmp .ne 7, 3) := by decide +kernel
theorem dX10_bestOf_15 : decode cX10_bestOf 15 = .ok (.iconst 1, 1) := by decide +kernel
theorem dX10_bestOf_16 : decode cX10_bestOf 16 = .ok (.goto 5, 3) := by decide +kernel
theorem dX10_bestOf_19 : decode cX10_bestOf 19 = .ok (.bipush 6, 2) := by decide +kernel
theorem dX10_bestOf_21 : decode cX10_bestOf 21 = .ok (.if_icmp .gt 64, 3) := by decide +kernel
theorem dX10_bestOf_24 : decode cX10_bestOf 24 = .ok (.aload_n 0, 1) := by decide +kernel
theorem dX10_bestOf_25 : decode cX10_bestOf 25 = .ok (.iload_n 1, 1) := by decide +kernel
theorem dX10_bestOf_26 : decode cX10_bestOf 26 = .ok (.iload_n 3, 1) := by decide +kernel
theorem dX10_bestOf_27 : decode cX10_bestOf 27 = .ok (.bipush 64, 2) := by decide +kernel
theorem dX10_bestOf_29 : decode cX10_bestOf 29 = .ok (.invokevirtual 168, 3) := by decide +kernel
theorem dX10_bestOf_32 : decode cX10_bestOf 32 = .ok (.ifCond .ne 6, 3) := by decide +kernel
theorem dX10_bestOf_35 : decode cX10_bestOf 35 = .ok (.goto 50, 3) := by decide +kernel
theorem dX10_bestOf_38 : decode cX10_bestOf 38 = .ok (.aload_n 0, 1) := by decide +kernel
theorem dX10_bestOf_39 : decode cX10_bestOf 39 = .ok (.aload_n 0, 1) := by decide +kernel
theorem dX10_bestOf_40 : decode cX10_bestOf 40 = .ok (.invokevirtual 171, 3) := by decide +kernel
theorem dX10_bestOf_43 : decode cX10_bestOf 43 = .ok (.invokevirtual 175, 3) := by decide +kernel
theorem dX10_bestOf_46 : decode cX10_bestOf 46 = .ok (.istore 4, 2) := by decide +kernel
theorem dX10_bestOf_48 : decode cX10_bestOf 48 = .ok (.iload_n 2, 1) := by decide +kernel
theorem dX10_bestOf_49 : decode cX10_bestOf 49 = .ok (.iconst (-1), 1) := by decide +kernel
theorem dX10_bestOf_50 : decode cX10_bestOf 50 = .ok (.if_icmp .eq 21, 3) := by decide +kernel
theorem dX10_bestOf_53 : decode cX10_bestOf 53 = .ok (.aload_n 0, 1) := by decide +kernel
theorem dX10_bestOf_54 : decode cX10_bestOf 54 = .ok (.iload 4, 2) := by decide +kernel
theorem dX10_bestOf_56 : decode cX10_bestOf 56 = .ok (.iload_n 3, 1) := by decide +kernel
theorem dX10_bestOf_57 : decode cX10_bestOf 57 = .ok (.aload_n 0, 1) := by decide +kernel
theorem dX10_bestOf_58 : decode cX10_bestOf 58 = .ok (.getfield 251, 3) := by decide +kernel
theorem dX10_bestOf_61 : decode cX10_bestOf 61 = .ok (.iload_n 2, 1) := by decide +kernel
theorem dX10_bestOf_62 : decode cX10_bestOf 62 = .ok (.invokevirtual 248, 3) := by decide +kernel
theorem dX10_bestOf_65 : decode cX10_bestOf 65 = .ok (.ifCond .gt 6, 3) := by decide +kernel
theorem dX10_bestOf_68 : decode cX10_bestOf 68 = .ok (.goto 11, 3) := by decide +kernel
theorem dX10_bestOf_71 : decode cX10_bestOf 71 = .ok (.iload_n 3, 1) := by decide +kernel
theorem dX10_bestOf_72 : decode cX10_bestOf 72 = .ok (.istore_n 2, 1) := by decide +kernel
theorem dX10_bestOf_73 : decode cX10_bestOf 73 = .ok (.aload_n 0, 1) := by decide +kernel
theorem dX10_bestOf_74 : decode cX10_bestOf 74 = .ok (.iload 4, 2) := by decide +kernel
theorem dX10_bestOf_76 : decode cX10_bestOf 76 = .ok (.putfield 251, 3) := by decide +kernel
theorem dX10_bestOf_79 : decode cX10_bestOf 79 = .ok (.iinc 3 1, 3) := by decide +kernel
theorem dX10_bestOf_82 : decode cX10_bestOf 82 = .ok (.goto (-78), 3) := by decide +kernel
theorem dX10_bestOf_85 : decode cX10_bestOf 85 = .ok (.iload_n 2, 1) := by decide +kernel
theorem dX10_bestOf_86 : decode cX10_bestOf 86 = .ok (.ireturn, 1) := by decide +kernel
theorem dX10_best_0 : decode cX10_best 0 = .ok (.iload_n 1, 1) := by decide +kernel
theorem dX10_best_1 : decode cX10_best 1 = .ok (.invokestatic 85, 3) := by decide +kernel
theorem dX10_best_4 : decode cX10_best 4 = .ok (.ifCond .eq 11, 3) := by decide +kernel
theorem dX10_best_7 : decode cX10_best 7 = .ok (.aload_n 0, 1) := by decide +kernel
theorem dX10_best_8 : decode cX10_best 8 = .ok (.iload_n 1, 1) := by decide +kernel
theorem dX10_best_9 : decode cX10_best 9 = .ok (.invokevirtual 254, 3) := by decide +kernel
theorem dX10_best_12 : decode cX10_best 12 = .ok (.goto 5, 3) := by decide +kernel
theorem dX10_best_15 : decode cX10_best 15 = .ok (.bipush (-2), 2) := by decide +kernel
theorem dX10_best_17 : decode cX10_best 17 = .ok (.ireturn, 1) := by decide +kernel
theorem dX10_met_0 : decode cX10_met 0 = .ok (.iload_n 1, 1) := by decide +kernel
theorem dX10_met_1 : decode cX10_met 1 = .ok (.invokestatic 85, 3) := by decide +kernel
theorem dX10_met_4 : decode cX10_met 4 = .ok (.ifCond .ne 6, 3) := by decide +kernel
theorem dX10_met_7 : decode cX10_met 7 = .ok (.bipush (-2), 2) := by decide +kernel
theorem dX10_met_9 : decode cX10_met 9 = .ok (.ireturn, 1) := by decide +kernel
theorem dX10_met_10 : decode cX10_met 10 = .ok (.aload_n 0, 1) := by decide +kernel
theorem dX10_met_11 : decode cX10_met 11 = .ok (.iload_n 1, 1) := by decide +kernel
theorem dX10_met_12 : decode cX10_met 12 = .ok (.invokevirtual 254, 3) := by decide +kernel
theorem dX10_met_15 : decode cX10_met 15 = .ok (.istore_n 2, 1) := by decide +kernel
theorem dX10_met_16 : decode cX10_met 16 = .ok (.aload_n 0, 1) := by decide +kernel
theorem dX10_met_17 : decode cX10_met 17 = .ok (.getfield 251, 3) := by decide +kernel
theorem dX10_met_20 : decode cX10_met 20 = .ok (.istore_n 3, 1) := by decide +kernel
theorem dX10_met_21 : decode cX10_met 21 = .ok (.aload_n 0, 1) := by decide +kernel
theorem dX10_met_22 : decode cX10_met 22 = .ok (.iload_n 1, 1) := by decide +kernel
theorem dX10_met_23 : decode cX10_met 23 = .ok (.invokevirtual 196, 3) := by decide +kernel
theorem dX10_met_26 : decode cX10_met 26 = .ok (.iload_n 2, 1) := by decide +kernel
theorem dX10_met_27 : decode cX10_met 27 = .ok (.invokestatic 145, 3) := by decide +kernel
theorem dX10_met_30 : decode cX10_met 30 = .ok (.iload_n 3, 1) := by decide +kernel
theorem dX10_met_31 : decode cX10_met 31 = .ok (.if_icmp .ne 7, 3) := by decide +kernel
theorem dX10_met_34 : decode cX10_met 34 = .ok (.iconst 1, 1) := by decide +kernel
theorem dX10_met_35 : decode cX10_met 35 = .ok (.goto 4, 3) := by decide +kernel
theorem dX10_met_38 : decode cX10_met 38 = .ok (.iconst 0, 1) := by decide +kernel
theorem dX10_met_39 : decode cX10_met 39 = .ok (.istore 4, 2) := by decide +kernel
theorem dX10_met_41 : decode cX10_met 41 = .ok (.aload_n 0, 1) := by decide +kernel
theorem dX10_met_42 : decode cX10_met 42 = .ok (.iload_n 1, 1) := by decide +kernel
theorem dX10_met_43 : decode cX10_met 43 = .ok (.invokevirtual 228, 3) := by decide +kernel
theorem dX10_met_46 : decode cX10_met 46 = .ok (.iconst (-1), 1) := by decide +kernel
theorem dX10_met_47 : decode cX10_met 47 = .ok (.if_icmp .eq 6, 3) := by decide +kernel
theorem dX10_met_50 : decode cX10_met 50 = .ok (.iload 4, 2) := by decide +kernel
theorem dX10_met_52 : decode cX10_met 52 = .ok (.ireturn, 1) := by decide +kernel
theorem dX10_met_53 : decode cX10_met 53 = .ok (.aload_n 0, 1) := by decide +kernel
theorem dX10_met_54 : decode cX10_met 54 = .ok (.iload_n 1, 1) := by decide +kernel
theorem dX10_met_55 : decode cX10_met 55 = .ok (.invokevirtual 231, 3) := by decide +kernel
theorem dX10_met_58 : decode cX10_met 58 = .ok (.aload_n 0, 1) := by decide +kernel
theorem dX10_met_59 : decode cX10_met 59 = .ok (.getfield 67, 3) := by decide +kernel
theorem dX10_met_62 : decode cX10_met 62 = .ok (.iload_n 3, 1) := by decide +kernel
theorem dX10_met_63 : decode cX10_met 63 = .ok (.aload_n 0, 1) := by decide +kernel
theorem dX10_met_64 : decode cX10_met 64 = .ok (.getfield 219, 3) := by decide +kernel
theorem dX10_met_67 : decode cX10_met 67 = .ok (.iload_n 2, 1) := by decide +kernel
theorem dX10_met_68 : decode cX10_met 68 = .ok (.invokestatic 236, 3) := by decide +kernel
theorem dX10_met_71 : decode cX10_met 71 = .ok (.aload_n 0, 1) := by decide +kernel
theorem dX10_met_72 : decode cX10_met 72 = .ok (.getfield 70, 3) := by decide +kernel
theorem dX10_met_75 : decode cX10_met 75 = .ok (.iconst 1, 1) := by decide +kernel
theorem dX10_met_76 : decode cX10_met 76 = .ok (.aload_n 0, 1) := by decide +kernel
theorem dX10_met_77 : decode cX10_met 77 = .ok (.getfield 223, 3) := by decide +kernel
theorem dX10_met_80 : decode cX10_met 80 = .ok (.iload_n 2, 1) := by decide +kernel
theorem dX10_met_81 : decode cX10_met 81 = .ok (.invokestatic 236, 3) := by decide +kernel
theorem dX10_met_84 : decode cX10_met 84 = .ok (.aload_n 0, 1) := by decide +kernel
theorem dX10_met_85 : decode cX10_met 85 = .ok (.invokevirtual 240, 3) := by decide +kernel
theorem dX10_met_88 : decode cX10_met 88 = .ok (.ifCond .ne 10, 3) := by decide +kernel
theorem dX10_met_91 : decode cX10_met 91 = .ok (.iload 4, 2) := by decide +kernel
theorem dX10_met_93 : decode cX10_met 93 = .ok (.iconst 2, 1) := by decide +kernel
theorem dX10_met_94 : decode cX10_met 94 = .ok (.ior, 1) := by decide +kernel
theorem dX10_met_95 : decode cX10_met 95 = .ok (.goto 5, 3) := by decide +kernel
theorem dX10_met_98 : decode cX10_met 98 = .ok (.iload 4, 2) := by decide +kernel
theorem dX10_met_100 : decode cX10_met 100 = .ok (.ireturn, 1) := by decide +kernel
theorem dX10_came_0 : decode cX10_came 0 = .ok (.aload_n 0, 1) := by decide +kernel
theorem dX10_came_1 : decode cX10_came 1 = .ok (.getfield 93, 3) := by decide +kernel
theorem dX10_came_4 : decode cX10_came 4 = .ok (.istore_n 2, 1) := by decide +kernel
theorem dX10_came_5 : decode cX10_came 5 = .ok (.aload_n 0, 1) := by decide +kernel
theorem dX10_came_6 : decode cX10_came 6 = .ok (.iconst 0, 1) := by decide +kernel
theorem dX10_came_7 : decode cX10_came 7 = .ok (.putfield 93, 3) := by decide +kernel
theorem dX10_came_10 : decode cX10_came 10 = .ok (.iload_n 1, 1) := by decide +kernel
theorem dX10_came_11 : decode cX10_came 11 = .ok (.invokestatic 85, 3) := by decide +kernel
theorem dX10_came_14 : decode cX10_came 14 = .ok (.ifCond .ne 6, 3) := by decide +kernel
theorem dX10_came_17 : decode cX10_came 17 = .ok (.bipush (-2), 2) := by decide +kernel
theorem dX10_came_19 : decode cX10_came 19 = .ok (.ireturn, 1) := by decide +kernel
theorem dX10_came_20 : decode cX10_came 20 = .ok (.aload_n 0, 1) := by decide +kernel
theorem dX10_came_21 : decode cX10_came 21 = .ok (.getfield 13, 3) := by decide +kernel
theorem dX10_came_24 : decode cX10_came 24 = .ok (.iload_n 1, 1) := by decide +kernel
theorem dX10_came_25 : decode cX10_came 25 = .ok (.iaload, 1) := by decide +kernel
theorem dX10_came_26 : decode cX10_came 26 = .ok (.iconst 1, 1) := by decide +kernel
theorem dX10_came_27 : decode cX10_came 27 = .ok (.if_icmp .ne 24, 3) := by decide +kernel
theorem dX10_came_30 : decode cX10_came 30 = .ok (.aload_n 0, 1) := by decide +kernel
theorem dX10_came_31 : decode cX10_came 31 = .ok (.getfield 55, 3) := by decide +kernel
theorem dX10_came_34 : decode cX10_came 34 = .ok (.iload_n 1, 1) := by decide +kernel
theorem dX10_came_35 : decode cX10_came 35 = .ok (.if_icmp .ne 16, 3) := by decide +kernel
theorem dX10_came_38 : decode cX10_came 38 = .ok (.aload_n 0, 1) := by decide +kernel
theorem dX10_came_39 : decode cX10_came 39 = .ok (.getfield 178, 3) := by decide +kernel
theorem dX10_came_42 : decode cX10_came 42 = .ok (.aload_n 0, 1) := by decide +kernel
theorem dX10_came_43 : decode cX10_came 43 = .ok (.getfield 25, 3) := by decide +kernel
theorem dX10_came_46 : decode cX10_came 46 = .ok (.iload_n 1, 1) := by decide +kernel
theorem dX10_came_47 : decode cX10_came 47 = .ok (.iaload, 1) := by decide +kernel
theorem dX10_came_48 : decode cX10_came 48 = .ok (.if_icmp .eq 6, 3) := by decide +kernel
theorem dX10_came_51 : decode cX10_came 51 = .ok (.bipush (-4), 2) := by decide +kernel
theorem dX10_came_53 : decode cX10_came 53 = .ok (.ireturn, 1) := by decide +kernel
theorem dX10_came_54 : decode cX10_came 54 = .ok (.iconst 0, 1) := by decide +kernel
theorem dX10_came_55 : decode cX10_came 55 = .ok (.istore_n 3, 1) := by decide +kernel
theorem dX10_came_56 : decode cX10_came 56 = .ok (.iconst 0, 1) := by decide +kernel
theorem dX10_came_57 : decode cX10_came 57 = .ok (.istore 4, 2) := by decide +kernel
theorem dX10_came_59 : decode cX10_came 59 = .ok (.iload 4, 2) := by decide +kernel
theorem dX10_came_61 : decode cX10_came 61 = .ok (.iload_n 2, 1) := by decide +kernel
theorem dX10_came_62 : decode cX10_came 62 = .ok (.if_icmp .ge 73, 3) := by decide +kernel
theorem dX10_came_65 : decode cX10_came 65 = .ok (.aload_n 0, 1) := by decide +kernel
theorem dX10_came_66 : decode cX10_came 66 = .ok (.getfield 28, 3) := by decide +kernel
theorem dX10_came_69 : decode cX10_came 69 = .ok (.iload 4, 2) := by decide +kernel
theorem dX10_came_71 : decode cX10_came 71 = .ok (.baload, 1) := by decide +kernel
theorem dX10_came_72 : decode cX10_came 72 = .ok (.istore 5, 2) := by decide +kernel
theorem dX10_came_74 : decode cX10_came 74 = .ok (.iload 5, 2) := by decide +kernel
theorem dX10_came_76 : decode cX10_came 76 = .ok (.bipush 32, 2) := by decide +kernel
theorem dX10_came_78 : decode cX10_came 78 = .ok (.if_icmp .eq 51, 3) := by decide +kernel
theorem dX10_came_81 : decode cX10_came 81 = .ok (.iload 5, 2) := by decide +kernel
theorem dX10_came_83 : decode cX10_came 83 = .ok (.bipush 10, 2) := by decide +kernel
theorem dX10_came_85 : decode cX10_came 85 = .ok (.if_icmp .ne 6, 3) := by decide +kernel
theorem dX10_came_88 : decode cX10_came 88 = .ok (.goto 41, 3) := by decide +kernel
theorem dX10_came_91 : decode cX10_came 91 = .ok (.iload 5, 2) := by decide +kernel
theorem dX10_came_93 : decode cX10_came 93 = .ok (.bipush 97, 2) := by decide +kernel
theorem dX10_came_95 : decode cX10_came 95 = .ok (.if_icmp .lt 18, 3) := by decide +kernel
theorem dX10_came_98 : decode cX10_came 98 = .ok (.iload 5, 2) := by decide +kernel
theorem dX10_came_100 : decode cX10_came 100 = .ok (.bipush 120, 2) := by decide +kernel
theorem dX10_came_102 : decode cX10_came 102 = .ok (.if_icmp .gt 11, 3) := by decide +kernel
theorem dX10_came_105 : decode cX10_came 105 = .ok (.iload_n 3, 1) := by decide +kernel
theorem dX10_came_106 : decode cX10_came 106 = .ok (.aload_n 0, 1) := by decide +kernel
theorem dX10_came_107 : decode cX10_came 107 = .ok (.getfield 52, 3) := by decide +kernel
theorem dX10_came_110 : decode cX10_came 110 = .ok (.if_icmp .ne 5, 3) := by decide +kernel
theorem dX10_came_113 : decode cX10_came 113 = .ok (.iconst (-1), 1) := by decide +kernel
theorem dX10_came_114 : decode cX10_came 114 = .ok (.ireturn, 1) := by decide +kernel
theorem dX10_came_115 : decode cX10_came 115 = .ok (.aload_n 0, 1) := by decide +kernel
theorem dX10_came_116 : decode cX10_came 116 = .ok (.getfield 36, 3) := by decide +kernel
theorem dX10_came_119 : decode cX10_came 119 = .ok (.iload_n 3, 1) := by decide +kernel
theorem dX10_came_120 : decode cX10_came 120 = .ok (.iload 5, 2) := by decide +kernel
theorem dX10_came_122 : decode cX10_came 122 = .ok (.bipush 97, 2) := by decide +kernel
theorem dX10_came_124 : decode cX10_came 124 = .ok (.isub, 1) := by decide +kernel
theorem dX10_came_125 : decode cX10_came 125 = .ok (.iastore, 1) := by decide +kernel
theorem dX10_came_126 : decode cX10_came 126 = .ok (.iinc 3 1, 3) := by decide +kernel
theorem dX10_came_129 : decode cX10_came 129 = .ok (.iinc 4 1, 3) := by decide +kernel
theorem dX10_came_132 : decode cX10_came 132 = .ok (.goto (-73), 3) := by decide +kernel
theorem dX10_came_135 : decode cX10_came 135 = .ok (.iload_n 3, 1) := by decide +kernel
theorem dX10_came_136 : decode cX10_came 136 = .ok (.aload_n 0, 1) := by decide +kernel
theorem dX10_came_137 : decode cX10_came 137 = .ok (.getfield 52, 3) := by decide +kernel
theorem dX10_came_140 : decode cX10_came 140 = .ok (.if_icmp .eq 5, 3) := by decide +kernel
theorem dX10_came_143 : decode cX10_came 143 = .ok (.iconst (-1), 1) := by decide +kernel
theorem dX10_came_144 : decode cX10_came 144 = .ok (.ireturn, 1) := by decide +kernel
theorem dX10_came_145 : decode cX10_came 145 = .ok (.iconst 0, 1) := by decide +kernel
theorem dX10_came_146 : decode cX10_came 146 = .ok (.istore 4, 2) := by decide +kernel
theorem dX10_came_148 : decode cX10_came 148 = .ok (.iconst 0, 1) := by decide +kernel
theorem dX10_came_149 : decode cX10_came 149 = .ok (.istore 5, 2) := by decide +kernel
theorem dX10_came_151 : decode cX10_came 151 = .ok (.iload 5, 2) := by decide +kernel
theorem dX10_came_153 : decode cX10_came 153 = .ok (.aload_n 0, 1) := by decide +kernel
theorem dX10_came_154 : decode cX10_came 154 = .ok (.getfield 49, 3) := by decide +kernel
theorem dX10_came_157 : decode cX10_came 157 = .ok (.if_icmp .ge 123, 3) := by decide +kernel
theorem dX10_came_160 : decode cX10_came 160 = .ok (.iconst 1, 1) := by decide +kernel
theorem dX10_came_161 : decode cX10_came 161 = .ok (.istore 6, 2) := by decide +kernel
theorem dX10_came_163 : decode cX10_came 163 = .ok (.aload_n 0, 1) := by decide +kernel
theorem dX10_came_164 : decode cX10_came 164 = .ok (.getfield 46, 3) := by decide +kernel
theorem dX10_came_167 : decode cX10_came 167 = .ok (.iload 5, 2) := by decide +kernel
theorem dX10_came_169 : decode cX10_came 169 = .ok (.iaload, 1) := by decide +kernel
theorem dX10_came_170 : decode cX10_came 170 = .ok (.istore 7, 2) := by decide +kernel
theorem dX10_came_172 : decode cX10_came 172 = .ok (.aload_n 0, 1) := by decide +kernel
theorem dX10_came_173 : decode cX10_came 173 = .ok (.getfield 52, 3) := by decide +kernel
theorem dX10_came_176 : decode cX10_came 176 = .ok (.iconst 1, 1) := by decide +kernel
theorem dX10_came_177 : decode cX10_came 177 = .ok (.isub, 1) := by decide +kernel
theorem dX10_came_178 : decode cX10_came 178 = .ok (.istore 8, 2) := by decide +kernel
theorem dX10_came_180 : decode cX10_came 180 = .ok (.iload 8, 2) := by decide +kernel
theorem dX10_came_182 : decode cX10_came 182 = .ok (.ifCond .lt 65, 3) := by decide +kernel
theorem dX10_came_185 : decode cX10_came 185 = .ok (.iload 6, 2) := by decide +kernel
theorem dX10_came_187 : decode cX10_came 187 = .ok (.ifCond .eq 40, 3) := by decide +kernel
theorem dX10_came_190 : decode cX10_came 190 = .ok (.aload_n 0, 1) := by decide +kernel
theorem dX10_came_191 : decode cX10_came 191 = .ok (.getfield 19, 3) := by decide +kernel
theorem dX10_came_194 : decode cX10_came 194 = .ok (.bipush 24, 2) := by decide +kernel
theorem dX10_came_196 : decode cX10_came 196 = .ok (.iload_n 1, 1) := by decide +kernel
theorem dX10_came_197 : decode cX10_came 197 = .ok (.imul, 1) := by decide +kernel
theorem dX10_came_198 : decode cX10_came 198 = .ok (.iload 7, 2) := by decide +kernel
theorem dX10_came_200 : decode cX10_came 200 = .ok (.aload_n 0, 1) := by decide +kernel
theorem dX10_came_201 : decode cX10_came 201 = .ok (.getfield 9, 3) := by decide +kernel
theorem dX10_came_204 : decode cX10_came 204 = .ok (.iload_n 1, 1) := by decide +kernel
theorem dX10_came_205 : decode cX10_came 205 = .ok (.iaload, 1) := by decide +kernel
theorem dX10_came_206 : decode cX10_came 206 = .ok (.irem, 1) := by decide +kernel
theorem dX10_came_207 : decode cX10_came 207 = .ok (.iadd, 1) := by decide +kernel
theorem dX10_came_208 : decode cX10_came 208 = .ok (.iaload, 1) := by decide +kernel
theorem dX10_came_209 : decode cX10_came 209 = .ok (.aload_n 0, 1) := by decide +kernel
theorem dX10_came_210 : decode cX10_came 210 = .ok (.getfield 36, 3) := by decide +kernel
theorem dX10_came_213 : decode cX10_came 213 = .ok (.iload 8, 2) := by decide +kernel
theorem dX10_came_215 : decode cX10_came 215 = .ok (.iaload, 1) := by decide +kernel
theorem dX10_came_216 : decode cX10_came 216 = .ok (.ishr, 1) := by decide +kernel
theorem dX10_came_217 : decode cX10_came 217 = .ok (.iconst 1, 1) := by decide +kernel
theorem dX10_came_218 : decode cX10_came 218 = .ok (.iand, 1) := by decide +kernel
theorem dX10_came_219 : decode cX10_came 219 = .ok (.iconst 1, 1) := by decide +kernel
theorem dX10_came_220 : decode cX10_came 220 = .ok (.if_icmp .ne 7, 3) := by decide +kernel
theorem dX10_came_223 : decode cX10_came 223 = .ok (.iconst 1, 1) := by decide +kernel
theorem dX10_came_224 : decode cX10_came 224 = .ok (.goto 4, 3) := by decide +kernel
theorem dX10_came_227 : decode cX10_came 227 = .ok (.iconst 0, 1) := by decide +kernel
theorem dX10_came_228 : decode cX10_came 228 = .ok (.istore 6, 2) := by decide +kernel
theorem dX10_came_230 : decode cX10_came 230 = .ok (.iload 7, 2) := by decide +kernel
theorem dX10_came_232 : decode cX10_came 232 = .ok (.aload_n 0, 1) := by decide +kernel
theorem dX10_came_233 : decode cX10_came 233 = .ok (.getfield 9, 3) := by decide +kernel
theorem dX10_came_236 : decode cX10_came 236 = .ok (.iload_n 1, 1) := by decide +kernel
theorem dX10_came_237 : decode cX10_came 237 = .ok (.iaload, 1) := by decide +kernel
theorem dX10_came_238 : decode cX10_came 238 = .ok (.idiv, 1) := by decide +kernel
theorem dX10_came_239 : decode cX10_came 239 = .ok (.istore 7, 2) := by decide +kernel
theorem dX10_came_241 : decode cX10_came 241 = .ok (.iinc 8 (-1), 3) := by decide +kernel
theorem dX10_came_244 : decode cX10_came 244 = .ok (.goto (-64), 3) := by decide +kernel
theorem dX10_came_247 : decode cX10_came 247 = .ok (.iload 6, 2) := by decide +kernel
theorem dX10_came_249 : decode cX10_came 249 = .ok (.ifCond .ne 6, 3) := by decide +kernel
theorem dX10_came_252 : decode cX10_came 252 = .ok (.goto 22, 3) := by decide +kernel
theorem dX10_came_255 : decode cX10_came 255 = .ok (.iload 4, 2) := by decide +kernel
theorem dX10_came_257 : decode cX10_came 257 = .ok (.ifCond .ne 14, 3) := by decide +kernel
theorem dX10_came_260 : decode cX10_came 260 = .ok (.aload_n 0, 1) := by decide +kernel
theorem dX10_came_261 : decode cX10_came 261 = .ok (.aload_n 0, 1) := by decide +kernel
theorem dX10_came_262 : decode cX10_came 262 = .ok (.getfield 46, 3) := by decide +kernel
theorem dX10_came_265 : decode cX10_came 265 = .ok (.iload 5, 2) := by decide +kernel
theorem dX10_came_267 : decode cX10_came 267 = .ok (.iaload, 1) := by decide +kernel
theorem dX10_came_268 : decode cX10_came 268 = .ok (.putfield 73, 3) := by decide +kernel
theorem dX10_came_271 : decode cX10_came 271 = .ok (.iinc 4 1, 3) := by decide +kernel
theorem dX10_came_274 : decode cX10_came 274 = .ok (.iinc 5 1, 3) := by decide +kernel
theorem dX10_came_277 : decode cX10_came 277 = .ok (.goto (-126), 3) := by decide +kernel
theorem dX10_came_280 : decode cX10_came 280 = .ok (.iload 4, 2) := by decide +kernel
theorem dX10_came_282 : decode cX10_came 282 = .ok (.ireturn, 1) := by decide +kernel
theorem dX10_sent_0 : decode cX10_sent 0 = .ok (.aload_n 0, 1) := by decide +kernel
theorem dX10_sent_1 : decode cX10_sent 1 = .ok (.getfield 73, 3) := by decide +kernel
theorem dX10_sent_4 : decode cX10_sent 4 = .ok (.ireturn, 1) := by decide +kernel
theorem dX10_isList_0 : decode cX10_isList 0 = .ok (.iconst 0, 1) := by decide +kernel
theorem dX10_isList_1 : decode cX10_isList 1 = .ok (.istore 4, 2) := by decide +kernel
theorem dX10_isList_3 : decode cX10_isList 3 = .ok (.iload 4, 2) := by decide +kernel
theorem dX10_isList_5 : decode cX10_isList 5 = .ok (.bipush 24, 2) := by decide +kernel
theorem dX10_isList_7 : decode cX10_isList 7 = .ok (.if_icmp .ge 81, 3) := by decide +kernel
theorem dX10_isList_10 : decode cX10_isList 10 = .ok (.iconst 0, 1) := by decide +kernel
theorem dX10_isList_11 : decode cX10_isList 11 = .ok (.istore 5, 2) := by decide +kernel
theorem dX10_isList_13 : decode cX10_isList 13 = .ok (.iconst 0, 1) := by decide +kernel
theorem dX10_isList_14 : decode cX10_isList 14 = .ok (.istore 6, 2) := by decide +kernel
theorem dX10_isList_16 : decode cX10_isList 16 = .ok (.iload 6, 2) := by decide +kernel
theorem dX10_isList_18 : decode cX10_isList 18 = .ok (.aload_n 0, 1) := by decide +kernel
theorem dX10_isList_19 : decode cX10_isList 19 = .ok (.getfield 9, 3) := by decide +kernel
theorem dX10_isList_22 : decode cX10_isList 22 = .ok (.iload_n 1, 1) := by decide +kernel
theorem dX10_isList_23 : decode cX10_isList 23 = .ok (.iaload, 1) := by decide +kernel
theorem dX10_isList_24 : decode cX10_isList 24 = .ok (.if_icmp .ge 50, 3) := by decide +kernel
theorem dX10_isList_27 : decode cX10_isList 27 = .ok (.iload 5, 2) := by decide +kernel
theorem dX10_isList_29 : decode cX10_isList 29 = .ok (.iload_n 2, 1) := by decide +kernel
theorem dX10_isList_30 : decode cX10_isList 30 = .ok (.iload 6, 2) := by decide +kernel
theorem dX10_isList_32 : decode cX10_isList 32 = .ok (.ishr, 1) := by decide +kernel
theorem dX10_isList_33 : decode cX10_isList 33 = .ok (.iconst 1, 1) := by decide +kernel
theorem dX10_isList_34 : decode cX10_isList 34 = .ok (.iand, 1) := by decide +kernel
theorem dX10_isList_35 : decode cX10_isList 35 = .ok (.iconst 1, 1) := by decide +kernel
theorem dX10_isList_36 : decode cX10_isList 36 = .ok (.if_icmp .ne 28, 3) := by decide +kernel
theorem dX10_isList_39 : decode cX10_isList 39 = .ok (.aload_n 0, 1) := by decide +kernel
theorem dX10_isList_40 : decode cX10_isList 40 = .ok (.getfield 19, 3) := by decide +kernel
theorem dX10_isList_43 : decode cX10_isList 43 = .ok (.bipush 24, 2) := by decide +kernel
theorem dX10_isList_45 : decode cX10_isList 45 = .ok (.iload_n 1, 1) := by decide +kernel
theorem dX10_isList_46 : decode cX10_isList 46 = .ok (.imul, 1) := by decide +kernel
theorem dX10_isList_47 : decode cX10_isList 47 = .ok (.iload 6, 2) := by decide +kernel
theorem dX10_isList_49 : decode cX10_isList 49 = .ok (.iadd, 1) := by decide +kernel
theorem dX10_isList_50 : decode cX10_isList 50 = .ok (.iaload, 1) := by decide +kernel
theorem dX10_isList_51 : decode cX10_isList 51 = .ok (.iload 4, 2) := by decide +kernel
theorem dX10_isList_53 : decode cX10_isList 53 = .ok (.ishr, 1) := by decide +kernel
theorem dX10_isList_54 : decode cX10_isList 54 = .ok (.iconst 1, 1) := by decide +kernel
theorem dX10_isList_55 : decode cX10_isList 55 = .ok (.iand, 1) := by decide +kernel
theorem dX10_isList_56 : decode cX10_isList 56 = .ok (.iconst 1, 1) := by decide +kernel
theorem dX10_isList_57 : decode cX10_isList 57 = .ok (.if_icmp .ne 7, 3) := by decide +kernel
theorem dX10_isList_60 : decode cX10_isList 60 = .ok (.iconst 1, 1) := by decide +kernel
theorem dX10_isList_61 : decode cX10_isList 61 = .ok (.goto 4, 3) := by decide +kernel
theorem dX10_isList_64 : decode cX10_isList 64 = .ok (.iconst 0, 1) := by decide +kernel
theorem dX10_isList_65 : decode cX10_isList 65 = .ok (.iadd, 1) := by decide +kernel
theorem dX10_isList_66 : decode cX10_isList 66 = .ok (.istore 5, 2) := by decide +kernel
theorem dX10_isList_68 : decode cX10_isList 68 = .ok (.iinc 6 1, 3) := by decide +kernel
theorem dX10_isList_71 : decode cX10_isList 71 = .ok (.goto (-55), 3) := by decide +kernel
theorem dX10_isList_74 : decode cX10_isList 74 = .ok (.iload 5, 2) := by decide +kernel
theorem dX10_isList_76 : decode cX10_isList 76 = .ok (.iload_n 3, 1) := by decide +kernel
theorem dX10_isList_77 : decode cX10_isList 77 = .ok (.if_icmp .le 5, 3) := by decide +kernel
theorem dX10_isList_80 : decode cX10_isList 80 = .ok (.iconst 0, 1) := by decide +kernel
theorem dX10_isList_81 : decode cX10_isList 81 = .ok (.ireturn, 1) := by decide +kernel
theorem dX10_isList_82 : decode cX10_isList 82 = .ok (.iinc 4 1, 3) := by decide +kernel
theorem dX10_isList_85 : decode cX10_isList 85 = .ok (.goto (-82), 3) := by decide +kernel
theorem dX10_isList_88 : decode cX10_isList 88 = .ok (.iconst 1, 1) := by decide +kernel
theorem dX10_isList_89 : decode cX10_isList 89 = .ok (.ireturn, 1) := by decide +kernel
theorem dX10_list_0 : decode cX10_list 0 = .ok (.iload_n 1, 1) := by decide +kernel
theorem dX10_list_1 : decode cX10_list 1 = .ok (.invokestatic 85, 3) := by decide +kernel
theorem dX10_list_4 : decode cX10_list 4 = .ok (.ifCond .eq 15, 3) := by decide +kernel
theorem dX10_list_7 : decode cX10_list 7 = .ok (.iload_n 2, 1) := by decide +kernel
theorem dX10_list_8 : decode cX10_list 8 = .ok (.i2l, 1) := by decide +kernel
theorem dX10_list_9 : decode cX10_list 9 = .ok (.lconst 1, 1) := by decide +kernel
theorem dX10_list_10 : decode cX10_list 10 = .ok (.ldc2_w 99, 3) := by decide +kernel
theorem dX10_list_13 : decode cX10_list 13 = .ok (.invokestatic 81, 3) := by decide +kernel
theorem dX10_list_16 : decode cX10_list 16 = .ok (.ifCond .ne 6, 3) := by decide +kernel
theorem dX10_list_19 : decode cX10_list 19 = .ok (.bipush (-2), 2) := by decide +kernel
theorem dX10_list_21 : decode cX10_list 21 = .ok (.ireturn, 1) := by decide +kernel
theorem dX10_list_22 : decode cX10_list 22 = .ok (.aload_n 0, 1) := by decide +kernel
theorem dX10_list_23 : decode cX10_list 23 = .ok (.getfield 13, 3) := by decide +kernel
theorem dX10_list_26 : decode cX10_list 26 = .ok (.iload_n 1, 1) := by decide +kernel
theorem dX10_list_27 : decode cX10_list 27 = .ok (.iaload, 1) := by decide +kernel
theorem dX10_list_28 : decode cX10_list 28 = .ok (.iconst 1, 1) := by decide +kernel
theorem dX10_list_29 : decode cX10_list 29 = .ok (.if_icmp .eq 6, 3) := by decide +kernel
theorem dX10_list_32 : decode cX10_list 32 = .ok (.bipush (-4), 2) := by decide +kernel
theorem dX10_list_34 : decode cX10_list 34 = .ok (.ireturn, 1) := by decide +kernel
theorem dX10_list_35 : decode cX10_list 35 = .ok (.aload_n 0, 1) := by decide +kernel
theorem dX10_list_36 : decode cX10_list 36 = .ok (.getfield 9, 3) := by decide +kernel
theorem dX10_list_39 : decode cX10_list 39 = .ok (.iload_n 1, 1) := by decide +kernel
theorem dX10_list_40 : decode cX10_list 40 = .ok (.iaload, 1) := by decide +kernel
theorem dX10_list_41 : decode cX10_list 41 = .ok (.bipush 16, 2) := by decide +kernel
theorem dX10_list_43 : decode cX10_list 43 = .ok (.if_icmp .le 6, 3) := by decide +kernel
theorem dX10_list_46 : decode cX10_list 46 = .ok (.bipush (-3), 2) := by decide +kernel
theorem dX10_list_48 : decode cX10_list 48 = .ok (.ireturn, 1) := by decide +kernel
theorem dX10_list_49 : decode cX10_list 49 = .ok (.iconst 0, 1) := by decide +kernel
theorem dX10_list_50 : decode cX10_list 50 = .ok (.istore_n 3, 1) := by decide +kernel
theorem dX10_list_51 : decode cX10_list 51 = .ok (.iconst (-1), 1) := by decide +kernel
theorem dX10_list_52 : decode cX10_list 52 = .ok (.istore 4, 2) := by decide +kernel
theorem dX10_list_54 : decode cX10_list 54 = .ok (.iconst 0, 1) := by decide +kernel
theorem dX10_list_55 : decode cX10_list 55 = .ok (.istore 5, 2) := by decide +kernel
theorem dX10_list_57 : decode cX10_list 57 = .ok (.iload 5, 2) := by decide +kernel
theorem dX10_list_59 : decode cX10_list 59 = .ok (.iconst 1, 1) := by decide +kernel
theorem dX10_list_60 : decode cX10_list 60 = .ok (.aload_n 0, 1) := by decide +kernel
theorem dX10_list_61 : decode cX10_list 61 = .ok (.getfield 9, 3) := by decide +kernel
theorem dX10_list_64 : decode cX10_list 64 = .ok (.iload_n 1, 1) := by decide +kernel
theorem dX10_list_65 : decode cX10_list 65 = .ok (.iaload, 1) := by decide +kernel
theorem dX10_list_66 : decode cX10_list 66 = .ok (.ishl, 1) := by decide +kernel
theorem dX10_list_67 : decode cX10_list 67 = .ok (.if_icmp .ge 45, 3) := by decide +kernel
theorem dX10_list_70 : decode cX10_list 70 = .ok (.iload 5, 2) := by decide +kernel
theorem dX10_list_72 : decode cX10_list 72 = .ok (.i2l, 1) := by decide +kernel
theorem dX10_list_73 : decode cX10_list 73 = .ok (.invokestatic 139, 3) := by decide +kernel
theorem dX10_list_76 : decode cX10_list 76 = .ok (.iload 4, 2) := by decide +kernel
theorem dX10_list_78 : decode cX10_list 78 = .ok (.if_icmp .le 28, 3) := by decide +kernel
theorem dX10_list_81 : decode cX10_list 81 = .ok (.aload_n 0, 1) := by decide +kernel
theorem dX10_list_82 : decode cX10_list 82 = .ok (.iload_n 1, 1) := by decide +kernel
theorem dX10_list_83 : decode cX10_list 83 = .ok (.iload 5, 2) := by decide +kernel
theorem dX10_list_85 : decode cX10_list 85 = .ok (.iload_n 2, 1) := by decide +kernel
theorem dX10_list_86 : decode cX10_list 86 = .ok (.invokevirtual 257, 3) := by decide +kernel
theorem dX10_list_89 : decode cX10_list 89 = .ok (.ifCond .ne 6, 3) := by decide +kernel
theorem dX10_list_92 : decode cX10_list 92 = .ok (.goto 14, 3) := by decide +kernel
theorem dX10_list_95 : decode cX10_list 95 = .ok (.iload 5, 2) := by decide +kernel
theorem dX10_list_97 : decode cX10_list 97 = .ok (.i2l, 1) := by decide +kernel
theorem dX10_list_98 : decode cX10_list 98 = .ok (.invokestatic 139, 3) := by decide +kernel
theorem dX10_list_101 : decode cX10_list 101 = .ok (.istore 4, 2) := by decide +kernel
theorem dX10_list_103 : decode cX10_list 103 = .ok (.iload 5, 2) := by decide +kernel
theorem dX10_list_105 : decode cX10_list 105 = .ok (.istore_n 3, 1) := by decide +kernel
theorem dX10_list_106 : decode cX10_list 106 = .ok (.iinc 5 1, 3) := by decide +kernel
theorem dX10_list_109 : decode cX10_list 109 = .ok (.goto (-52), 3) := by decide +kernel
theorem dX10_list_112 : decode cX10_list 112 = .ok (.aload_n 0, 1) := by decide +kernel
theorem dX10_list_113 : decode cX10_list 113 = .ok (.iload_n 3, 1) := by decide +kernel
theorem dX10_list_114 : decode cX10_list 114 = .ok (.putfield 76, 3) := by decide +kernel
theorem dX10_list_117 : decode cX10_list 117 = .ok (.iload 4, 2) := by decide +kernel
theorem dX10_list_119 : decode cX10_list 119 = .ok (.ireturn, 1) := by decide +kernel
theorem dX10_listed_0 : decode cX10_listed 0 = .ok (.aload_n 0, 1) := by decide +kernel
theorem dX10_listed_1 : decode cX10_listed 1 = .ok (.getfield 76, 3) := by decide +kernel
theorem dX10_listed_4 : decode cX10_listed 4 = .ok (.ireturn, 1) := by decide +kernel
theorem dX10_count_0 : decode cX10_count 0 = .ok (.iload_n 1, 1) := by decide +kernel
theorem dX10_count_1 : decode cX10_count 1 = .ok (.ifCond .ne 10, 3) := by decide +kernel
theorem dX10_count_4 : decode cX10_count 4 = .ok (.aload_n 0, 1) := by decide +kernel
theorem dX10_count_5 : decode cX10_count 5 = .ok (.getfield 93, 3) := by decide +kernel
theorem dX10_count_8 : decode cX10_count 8 = .ok (.goto 40, 3) := by decide +kernel
theorem dX10_count_11 : decode cX10_count 11 = .ok (.iload_n 1, 1) := by decide +kernel
theorem dX10_count_12 : decode cX10_count 12 = .ok (.iconst 1, 1) := by decide +kernel
theorem dX10_count_13 : decode cX10_count 13 = .ok (.if_icmp .ne 10, 3) := by decide +kernel
theorem dX10_count_16 : decode cX10_count 16 = .ok (.aload_n 0, 1) := by decide +kernel
theorem dX10_count_17 : decode cX10_count 17 = .ok (.getfield 49, 3) := by decide +kernel
theorem dX10_count_20 : decode cX10_count 20 = .ok (.goto 28, 3) := by decide +kernel
theorem dX10_count_23 : decode cX10_count 23 = .ok (.iload_n 1, 1) := by decide +kernel
theorem dX10_count_24 : decode cX10_count 24 = .ok (.iconst 2, 1) := by decide +kernel
theorem dX10_count_25 : decode cX10_count 25 = .ok (.if_icmp .ne 10, 3) := by decide +kernel
theorem dX10_count_28 : decode cX10_count 28 = .ok (.aload_n 0, 1) := by decide +kernel
theorem dX10_count_29 : decode cX10_count 29 = .ok (.getfield 52, 3) := by decide +kernel
theorem dX10_count_32 : decode cX10_count 32 = .ok (.goto 16, 3) := by decide +kernel
theorem dX10_count_35 : decode cX10_count 35 = .ok (.iload_n 1, 1) := by decide +kernel
theorem dX10_count_36 : decode cX10_count 36 = .ok (.iconst 3, 1) := by decide +kernel
theorem dX10_count_37 : decode cX10_count 37 = .ok (.if_icmp .ne 10, 3) := by decide +kernel
theorem dX10_count_40 : decode cX10_count 40 = .ok (.aload_n 0, 1) := by decide +kernel
theorem dX10_count_41 : decode cX10_count 41 = .ok (.getfield 55, 3) := by decide +kernel
theorem dX10_count_44 : decode cX10_count 44 = .ok (.goto 4, 3) := by decide +kernel
theorem dX10_count_47 : decode cX10_count 47 = .ok (.iconst (-1), 1) := by decide +kernel
theorem dX10_count_48 : decode cX10_count 48 = .ok (.ireturn, 1) := by decide +kernel
theorem dJ6_bitCount_0f7a4_0 : decode cJ6_bitCount_0f7a4 0 = .ok (.iload_n 0, 1) := by decide +kernel
theorem dJ6_bitCount_0f7a4_1 : decode cJ6_bitCount_0f7a4 1 = .ok (.iload_n 0, 1) := by decide +kernel
theorem dJ6_bitCount_0f7a4_2 : decode cJ6_bitCount_0f7a4 2 = .ok (.iconst 1, 1) := by decide +kernel
theorem dJ6_bitCount_0f7a4_3 : decode cJ6_bitCount_0f7a4 3 = .ok (.iushr, 1) := by decide +kernel
theorem dJ6_bitCount_0f7a4_4 : decode cJ6_bitCount_0f7a4 4 = .ok (.ldc_w 265, 3) := by decide +kernel
theorem dJ6_bitCount_0f7a4_7 : decode cJ6_bitCount_0f7a4 7 = .ok (.iand, 1) := by decide +kernel
theorem dJ6_bitCount_0f7a4_8 : decode cJ6_bitCount_0f7a4 8 = .ok (.isub, 1) := by decide +kernel
theorem dJ6_bitCount_0f7a4_9 : decode cJ6_bitCount_0f7a4 9 = .ok (.istore_n 0, 1) := by decide +kernel
theorem dJ6_bitCount_0f7a4_10 : decode cJ6_bitCount_0f7a4 10 = .ok (.iload_n 0, 1) := by decide +kernel
theorem dJ6_bitCount_0f7a4_11 : decode cJ6_bitCount_0f7a4 11 = .ok (.ldc_w 266, 3) := by decide +kernel
theorem dJ6_bitCount_0f7a4_14 : decode cJ6_bitCount_0f7a4 14 = .ok (.iand, 1) := by decide +kernel
theorem dJ6_bitCount_0f7a4_15 : decode cJ6_bitCount_0f7a4 15 = .ok (.iload_n 0, 1) := by decide +kernel
theorem dJ6_bitCount_0f7a4_16 : decode cJ6_bitCount_0f7a4 16 = .ok (.iconst 2, 1) := by decide +kernel
theorem dJ6_bitCount_0f7a4_17 : decode cJ6_bitCount_0f7a4 17 = .ok (.iushr, 1) := by decide +kernel
theorem dJ6_bitCount_0f7a4_18 : decode cJ6_bitCount_0f7a4 18 = .ok (.ldc_w 266, 3) := by decide +kernel
theorem dJ6_bitCount_0f7a4_21 : decode cJ6_bitCount_0f7a4 21 = .ok (.iand, 1) := by decide +kernel
theorem dJ6_bitCount_0f7a4_22 : decode cJ6_bitCount_0f7a4 22 = .ok (.iadd, 1) := by decide +kernel
theorem dJ6_bitCount_0f7a4_23 : decode cJ6_bitCount_0f7a4 23 = .ok (.istore_n 0, 1) := by decide +kernel
theorem dJ6_bitCount_0f7a4_24 : decode cJ6_bitCount_0f7a4 24 = .ok (.iload_n 0, 1) := by decide +kernel
theorem dJ6_bitCount_0f7a4_25 : decode cJ6_bitCount_0f7a4 25 = .ok (.iload_n 0, 1) := by decide +kernel
theorem dJ6_bitCount_0f7a4_26 : decode cJ6_bitCount_0f7a4 26 = .ok (.iconst 4, 1) := by decide +kernel
theorem dJ6_bitCount_0f7a4_27 : decode cJ6_bitCount_0f7a4 27 = .ok (.iushr, 1) := by decide +kernel
theorem dJ6_bitCount_0f7a4_28 : decode cJ6_bitCount_0f7a4 28 = .ok (.iadd, 1) := by decide +kernel
theorem dJ6_bitCount_0f7a4_29 : decode cJ6_bitCount_0f7a4 29 = .ok (.ldc_w 267, 3) := by decide +kernel
theorem dJ6_bitCount_0f7a4_32 : decode cJ6_bitCount_0f7a4 32 = .ok (.iand, 1) := by decide +kernel
theorem dJ6_bitCount_0f7a4_33 : decode cJ6_bitCount_0f7a4 33 = .ok (.istore_n 0, 1) := by decide +kernel
theorem dJ6_bitCount_0f7a4_34 : decode cJ6_bitCount_0f7a4 34 = .ok (.iload_n 0, 1) := by decide +kernel
theorem dJ6_bitCount_0f7a4_35 : decode cJ6_bitCount_0f7a4 35 = .ok (.iload_n 0, 1) := by decide +kernel
theorem dJ6_bitCount_0f7a4_36 : decode cJ6_bitCount_0f7a4 36 = .ok (.bipush 8, 2) := by decide +kernel
theorem dJ6_bitCount_0f7a4_38 : decode cJ6_bitCount_0f7a4 38 = .ok (.iushr, 1) := by decide +kernel
theorem dJ6_bitCount_0f7a4_39 : decode cJ6_bitCount_0f7a4 39 = .ok (.iadd, 1) := by decide +kernel
theorem dJ6_bitCount_0f7a4_40 : decode cJ6_bitCount_0f7a4 40 = .ok (.istore_n 0, 1) := by decide +kernel
theorem dJ6_bitCount_0f7a4_41 : decode cJ6_bitCount_0f7a4 41 = .ok (.iload_n 0, 1) := by decide +kernel
theorem dJ6_bitCount_0f7a4_42 : decode cJ6_bitCount_0f7a4 42 = .ok (.iload_n 0, 1) := by decide +kernel
theorem dJ6_bitCount_0f7a4_43 : decode cJ6_bitCount_0f7a4 43 = .ok (.bipush 16, 2) := by decide +kernel
theorem dJ6_bitCount_0f7a4_45 : decode cJ6_bitCount_0f7a4 45 = .ok (.iushr, 1) := by decide +kernel
theorem dJ6_bitCount_0f7a4_46 : decode cJ6_bitCount_0f7a4 46 = .ok (.iadd, 1) := by decide +kernel
theorem dJ6_bitCount_0f7a4_47 : decode cJ6_bitCount_0f7a4 47 = .ok (.istore_n 0, 1) := by decide +kernel
theorem dJ6_bitCount_0f7a4_48 : decode cJ6_bitCount_0f7a4 48 = .ok (.iload_n 0, 1) := by decide +kernel
theorem dJ6_bitCount_0f7a4_49 : decode cJ6_bitCount_0f7a4 49 = .ok (.bipush 63, 2) := by decide +kernel
theorem dJ6_bitCount_0f7a4_51 : decode cJ6_bitCount_0f7a4 51 = .ok (.iand, 1) := by decide +kernel
theorem dJ6_bitCount_0f7a4_52 : decode cJ6_bitCount_0f7a4 52 = .ok (.ireturn, 1) := by decide +kernel
theorem dJ13_bitCount_95d88_0 : decode cJ13_bitCount_95d88 0 = .ok (.lload_n 0, 1) := by decide +kernel
theorem dJ13_bitCount_95d88_1 : decode cJ13_bitCount_95d88 1 = .ok (.lload_n 0, 1) := by decide +kernel
theorem dJ13_bitCount_95d88_2 : decode cJ13_bitCount_95d88 2 = .ok (.iconst 1, 1) := by decide +kernel
theorem dJ13_bitCount_95d88_3 : decode cJ13_bitCount_95d88 3 = .ok (.lushr, 1) := by decide +kernel
theorem dJ13_bitCount_95d88_4 : decode cJ13_bitCount_95d88 4 = .ok (.ldc2_w 314, 3) := by decide +kernel
theorem dJ13_bitCount_95d88_7 : decode cJ13_bitCount_95d88 7 = .ok (.land, 1) := by decide +kernel
theorem dJ13_bitCount_95d88_8 : decode cJ13_bitCount_95d88 8 = .ok (.lsub, 1) := by decide +kernel
theorem dJ13_bitCount_95d88_9 : decode cJ13_bitCount_95d88 9 = .ok (.lstore_n 0, 1) := by decide +kernel
theorem dJ13_bitCount_95d88_10 : decode cJ13_bitCount_95d88 10 = .ok (.lload_n 0, 1) := by decide +kernel
theorem dJ13_bitCount_95d88_11 : decode cJ13_bitCount_95d88 11 = .ok (.ldc2_w 316, 3) := by decide +kernel
theorem dJ13_bitCount_95d88_14 : decode cJ13_bitCount_95d88 14 = .ok (.land, 1) := by decide +kernel
theorem dJ13_bitCount_95d88_15 : decode cJ13_bitCount_95d88 15 = .ok (.lload_n 0, 1) := by decide +kernel
theorem dJ13_bitCount_95d88_16 : decode cJ13_bitCount_95d88 16 = .ok (.iconst 2, 1) := by decide +kernel
theorem dJ13_bitCount_95d88_17 : decode cJ13_bitCount_95d88 17 = .ok (.lushr, 1) := by decide +kernel
theorem dJ13_bitCount_95d88_18 : decode cJ13_bitCount_95d88 18 = .ok (.ldc2_w 316, 3) := by decide +kernel
theorem dJ13_bitCount_95d88_21 : decode cJ13_bitCount_95d88 21 = .ok (.land, 1) := by decide +kernel
theorem dJ13_bitCount_95d88_22 : decode cJ13_bitCount_95d88 22 = .ok (.ladd, 1) := by decide +kernel
theorem dJ13_bitCount_95d88_23 : decode cJ13_bitCount_95d88 23 = .ok (.lstore_n 0, 1) := by decide +kernel
theorem dJ13_bitCount_95d88_24 : decode cJ13_bitCount_95d88 24 = .ok (.lload_n 0, 1) := by decide +kernel
theorem dJ13_bitCount_95d88_25 : decode cJ13_bitCount_95d88 25 = .ok (.lload_n 0, 1) := by decide +kernel
theorem dJ13_bitCount_95d88_26 : decode cJ13_bitCount_95d88 26 = .ok (.iconst 4, 1) := by decide +kernel
theorem dJ13_bitCount_95d88_27 : decode cJ13_bitCount_95d88 27 = .ok (.lushr, 1) := by decide +kernel
theorem dJ13_bitCount_95d88_28 : decode cJ13_bitCount_95d88 28 = .ok (.ladd, 1) := by decide +kernel
theorem dJ13_bitCount_95d88_29 : decode cJ13_bitCount_95d88 29 = .ok (.ldc2_w 318, 3) := by decide +kernel
theorem dJ13_bitCount_95d88_32 : decode cJ13_bitCount_95d88 32 = .ok (.land, 1) := by decide +kernel
theorem dJ13_bitCount_95d88_33 : decode cJ13_bitCount_95d88 33 = .ok (.lstore_n 0, 1) := by decide +kernel
theorem dJ13_bitCount_95d88_34 : decode cJ13_bitCount_95d88 34 = .ok (.lload_n 0, 1) := by decide +kernel
theorem dJ13_bitCount_95d88_35 : decode cJ13_bitCount_95d88 35 = .ok (.lload_n 0, 1) := by decide +kernel
theorem dJ13_bitCount_95d88_36 : decode cJ13_bitCount_95d88 36 = .ok (.bipush 8, 2) := by decide +kernel
theorem dJ13_bitCount_95d88_38 : decode cJ13_bitCount_95d88 38 = .ok (.lushr, 1) := by decide +kernel
theorem dJ13_bitCount_95d88_39 : decode cJ13_bitCount_95d88 39 = .ok (.ladd, 1) := by decide +kernel
theorem dJ13_bitCount_95d88_40 : decode cJ13_bitCount_95d88 40 = .ok (.lstore_n 0, 1) := by decide +kernel
theorem dJ13_bitCount_95d88_41 : decode cJ13_bitCount_95d88 41 = .ok (.lload_n 0, 1) := by decide +kernel
theorem dJ13_bitCount_95d88_42 : decode cJ13_bitCount_95d88 42 = .ok (.lload_n 0, 1) := by decide +kernel
theorem dJ13_bitCount_95d88_43 : decode cJ13_bitCount_95d88 43 = .ok (.bipush 16, 2) := by decide +kernel
theorem dJ13_bitCount_95d88_45 : decode cJ13_bitCount_95d88 45 = .ok (.lushr, 1) := by decide +kernel
theorem dJ13_bitCount_95d88_46 : decode cJ13_bitCount_95d88 46 = .ok (.ladd, 1) := by decide +kernel
theorem dJ13_bitCount_95d88_47 : decode cJ13_bitCount_95d88 47 = .ok (.lstore_n 0, 1) := by decide +kernel
theorem dJ13_bitCount_95d88_48 : decode cJ13_bitCount_95d88 48 = .ok (.lload_n 0, 1) := by decide +kernel
theorem dJ13_bitCount_95d88_49 : decode cJ13_bitCount_95d88 49 = .ok (.lload_n 0, 1) := by decide +kernel
theorem dJ13_bitCount_95d88_50 : decode cJ13_bitCount_95d88 50 = .ok (.bipush 32, 2) := by decide +kernel
theorem dJ13_bitCount_95d88_52 : decode cJ13_bitCount_95d88 52 = .ok (.lushr, 1) := by decide +kernel
theorem dJ13_bitCount_95d88_53 : decode cJ13_bitCount_95d88 53 = .ok (.ladd, 1) := by decide +kernel
theorem dJ13_bitCount_95d88_54 : decode cJ13_bitCount_95d88 54 = .ok (.lstore_n 0, 1) := by decide +kernel
theorem dJ13_bitCount_95d88_55 : decode cJ13_bitCount_95d88 55 = .ok (.lload_n 0, 1) := by decide +kernel
theorem dJ13_bitCount_95d88_56 : decode cJ13_bitCount_95d88 56 = .ok (.l2i, 1) := by decide +kernel
theorem dJ13_bitCount_95d88_57 : decode cJ13_bitCount_95d88 57 = .ok (.bipush 127, 2) := by decide +kernel
theorem dJ13_bitCount_95d88_59 : decode cJ13_bitCount_95d88 59 = .ok (.iand, 1) := by decide +kernel
theorem dJ13_bitCount_95d88_60 : decode cJ13_bitCount_95d88 60 = .ok (.ireturn, 1) := by decide +kernel
theorem dJ9_max_7cf53_0 : decode cJ9_max_7cf53 0 = .ok (.iload_n 0, 1) := by decide +kernel
theorem dJ9_max_7cf53_1 : decode cJ9_max_7cf53 1 = .ok (.iload_n 1, 1) := by decide +kernel
theorem dJ9_max_7cf53_2 : decode cJ9_max_7cf53 2 = .ok (.if_icmp .lt 7, 3) := by decide +kernel
theorem dJ9_max_7cf53_5 : decode cJ9_max_7cf53 5 = .ok (.iload_n 0, 1) := by decide +kernel
theorem dJ9_max_7cf53_6 : decode cJ9_max_7cf53 6 = .ok (.goto 4, 3) := by decide +kernel
theorem dJ9_max_7cf53_9 : decode cJ9_max_7cf53 9 = .ok (.iload_n 1, 1) := by decide +kernel
theorem dJ9_max_7cf53_10 : decode cJ9_max_7cf53 10 = .ok (.ireturn, 1) := by decide +kernel
theorem dJ9_max_f86c9_0 : decode cJ9_max_f86c9 0 = .ok (.lload_n 0, 1) := by decide +kernel
theorem dJ9_max_f86c9_1 : decode cJ9_max_f86c9 1 = .ok (.lload_n 2, 1) := by decide +kernel
theorem dJ9_max_f86c9_2 : decode cJ9_max_f86c9 2 = .ok (.lcmp, 1) := by decide +kernel
theorem dJ9_max_f86c9_3 : decode cJ9_max_f86c9 3 = .ok (.ifCond .lt 7, 3) := by decide +kernel
theorem dJ9_max_f86c9_6 : decode cJ9_max_f86c9 6 = .ok (.lload_n 0, 1) := by decide +kernel
theorem dJ9_max_f86c9_7 : decode cJ9_max_f86c9 7 = .ok (.goto 4, 3) := by decide +kernel
theorem dJ9_max_f86c9_10 : decode cJ9_max_f86c9 10 = .ok (.lload_n 2, 1) := by decide +kernel
theorem dJ9_max_f86c9_11 : decode cJ9_max_f86c9 11 = .ok (.lreturn, 1) := by decide +kernel
theorem dJ9_min_7cf53_0 : decode cJ9_min_7cf53 0 = .ok (.iload_n 0, 1) := by decide +kernel
theorem dJ9_min_7cf53_1 : decode cJ9_min_7cf53 1 = .ok (.iload_n 1, 1) := by decide +kernel
theorem dJ9_min_7cf53_2 : decode cJ9_min_7cf53 2 = .ok (.if_icmp .gt 7, 3) := by decide +kernel
theorem dJ9_min_7cf53_5 : decode cJ9_min_7cf53 5 = .ok (.iload_n 0, 1) := by decide +kernel
theorem dJ9_min_7cf53_6 : decode cJ9_min_7cf53 6 = .ok (.goto 4, 3) := by decide +kernel
theorem dJ9_min_7cf53_9 : decode cJ9_min_7cf53 9 = .ok (.iload_n 1, 1) := by decide +kernel
theorem dJ9_min_7cf53_10 : decode cJ9_min_7cf53 10 = .ok (.ireturn, 1) := by decide +kernel
theorem dL_law_0 : decode cL_law 0 = .ok (.new 7, 3) := by decide +kernel
theorem dL_law_3 : decode cL_law 3 = .ok (.dup, 1) := by decide +kernel
theorem dL_law_4 : decode cL_law 4 = .ok (.invokespecial 9, 3) := by decide +kernel
theorem dL_law_7 : decode cL_law 7 = .ok (.astore_n 1, 1) := by decide +kernel
theorem dL_law_8 : decode cL_law 8 = .ok (.new 10, 3) := by decide +kernel
theorem dL_law_11 : decode cL_law 11 = .ok (.dup, 1) := by decide +kernel
theorem dL_law_12 : decode cL_law 12 = .ok (.invokespecial 12, 3) := by decide +kernel
theorem dL_law_15 : decode cL_law 15 = .ok (.astore_n 2, 1) := by decide +kernel
theorem dL_law_16 : decode cL_law 16 = .ok (.iconst 0, 1) := by decide +kernel
theorem dL_law_17 : decode cL_law 17 = .ok (.istore_n 3, 1) := by decide +kernel
theorem dL_law_18 : decode cL_law 18 = .ok (.iload_n 3, 1) := by decide +kernel
theorem dL_law_19 : decode cL_law 19 = .ok (.aload_n 0, 1) := by decide +kernel
theorem dL_law_20 : decode cL_law 20 = .ok (.arraylength, 1) := by decide +kernel
theorem dL_law_21 : decode cL_law 21 = .ok (.bipush 6, 2) := by decide +kernel
theorem dL_law_23 : decode cL_law 23 = .ok (.isub, 1) := by decide +kernel
theorem dL_law_24 : decode cL_law 24 = .ok (.if_icmp .gt 1025, 3) := by decide +kernel
theorem dL_law_27 : decode cL_law 27 = .ok (.aload_n 0, 1) := by decide +kernel
theorem dL_law_28 : decode cL_law 28 = .ok (.iload_n 3, 1) := by decide +kernel
theorem dL_law_29 : decode cL_law 29 = .ok (.iaload, 1) := by decide +kernel
theorem dL_law_30 : decode cL_law 30 = .ok (.bipush 31, 2) := by decide +kernel
theorem dL_law_32 : decode cL_law 32 = .ok (.iand, 1) := by decide +kernel
theorem dL_law_33 : decode cL_law 33 = .ok (.tableswitch 1010 0 26 #[123, 186, 209, 242, 311, 344, 367, 390, 433, 476, 509, 562, 595, 618, 651, 674, 697, 750, 773, 806, 859, 882, 905, 928, 941, 974, 987], 123) := by decide +kernel
theorem dL_law_156 : decode cL_law 156 = .ok (.aload_n 1, 1) := by decide +kernel
theorem dL_law_157 : decode cL_law 157 = .ok (.aload_n 0, 1) := by decide +kernel
theorem dL_law_158 : decode cL_law 158 = .ok (.iload_n 3, 1) := by decide +kernel
theorem dL_law_159 : decode cL_law 159 = .ok (.iconst 1, 1) := by decide +kernel
theorem dL_law_160 : decode cL_law 160 = .ok (.iadd, 1) := by decide +kernel
theorem dL_law_161 : decode cL_law 161 = .ok (.iaload, 1) := by decide +kernel
theorem dL_law_162 : decode cL_law 162 = .ok (.aload_n 0, 1) := by decide +kernel
theorem dL_law_163 : decode cL_law 163 = .ok (.iload_n 3, 1) := by decide +kernel
theorem dL_law_164 : decode cL_law 164 = .ok (.iconst 2, 1) := by decide +kernel
theorem dL_law_165 : decode cL_law 165 = .ok (.iadd, 1) := by decide +kernel
theorem dL_law_166 : decode cL_law 166 = .ok (.iaload, 1) := by decide +kernel
theorem dL_law_167 : decode cL_law 167 = .ok (.aload_n 0, 1) := by decide +kernel
theorem dL_law_168 : decode cL_law 168 = .ok (.iload_n 3, 1) := by decide +kernel
theorem dL_law_169 : decode cL_law 169 = .ok (.iconst 3, 1) := by decide +kernel
theorem dL_law_170 : decode cL_law 170 = .ok (.iadd, 1) := by decide +kernel
theorem dL_law_171 : decode cL_law 171 = .ok (.iaload, 1) := by decide +kernel
theorem dL_law_172 : decode cL_law 172 = .ok (.aload_n 0, 1) := by decide +kernel
theorem dL_law_173 : decode cL_law 173 = .ok (.iload_n 3, 1) := by decide +kernel
theorem dL_law_174 : decode cL_law 174 = .ok (.iconst 4, 1) := by decide +kernel
theorem dL_law_175 : decode cL_law 175 = .ok (.iadd, 1) := by decide +kernel
theorem dL_law_176 : decode cL_law 176 = .ok (.iaload, 1) := by decide +kernel
theorem dL_law_177 : decode cL_law 177 = .ok (.aload_n 0, 1) := by decide +kernel
theorem dL_law_178 : decode cL_law 178 = .ok (.iload_n 3, 1) := by decide +kernel
theorem dL_law_179 : decode cL_law 179 = .ok (.iconst 5, 1) := by decide +kernel
theorem dL_law_180 : decode cL_law 180 = .ok (.iadd, 1) := by decide +kernel
theorem dL_law_181 : decode cL_law 181 = .ok (.iaload, 1) := by decide +kernel
theorem dL_law_182 : decode cL_law 182 = .ok (.invokevirtual 13, 3) := by decide +kernel
theorem dL_law_185 : decode cL_law 185 = .ok (.aload_n 2, 1) := by decide +kernel
theorem dL_law_186 : decode cL_law 186 = .ok (.aload_n 0, 1) := by decide +kernel
theorem dL_law_187 : decode cL_law 187 = .ok (.iload_n 3, 1) := by decide +kernel
theorem dL_law_188 : decode cL_law 188 = .ok (.iconst 1, 1) := by decide +kernel
theorem dL_law_189 : decode cL_law 189 = .ok (.iadd, 1) := by decide +kernel
theorem dL_law_190 : decode cL_law 190 = .ok (.iaload, 1) := by decide +kernel
theorem dL_law_191 : decode cL_law 191 = .ok (.aload_n 0, 1) := by decide +kernel
theorem dL_law_192 : decode cL_law 192 = .ok (.iload_n 3, 1) := by decide +kernel
theorem dL_law_193 : decode cL_law 193 = .ok (.iconst 2, 1) := by decide +kernel
theorem dL_law_194 : decode cL_law 194 = .ok (.iadd, 1) := by decide +kernel
theorem dL_law_195 : decode cL_law 195 = .ok (.iaload, 1) := by decide +kernel
theorem dL_law_196 : decode cL_law 196 = .ok (.aload_n 0, 1) := by decide +kernel
theorem dL_law_197 : decode cL_law 197 = .ok (.iload_n 3, 1) := by decide +kernel
theorem dL_law_198 : decode cL_law 198 = .ok (.iconst 3, 1) := by decide +kernel
theorem dL_law_199 : decode cL_law 199 = .ok (.iadd, 1) := by decide +kernel
theorem dL_law_200 : decode cL_law 200 = .ok (.iaload, 1) := by decide +kernel
theorem dL_law_201 : decode cL_law 201 = .ok (.aload_n 0, 1) := by decide +kernel
theorem dL_law_202 : decode cL_law 202 = .ok (.iload_n 3, 1) := by decide +kernel
theorem dL_law_203 : decode cL_law 203 = .ok (.iconst 4, 1) := by decide +kernel
theorem dL_law_204 : decode cL_law 204 = .ok (.iadd, 1) := by decide +kernel
theorem dL_law_205 : decode cL_law 205 = .ok (.iaload, 1) := by decide +kernel
theorem dL_law_206 : decode cL_law 206 = .ok (.aload_n 0, 1) := by decide +kernel
theorem dL_law_207 : decode cL_law 207 = .ok (.iload_n 3, 1) := by decide +kernel
theorem dL_law_208 : decode cL_law 208 = .ok (.iconst 5, 1) := by decide +kernel
theorem dL_law_209 : decode cL_law 209 = .ok (.iadd, 1) := by decide +kernel
theorem dL_law_210 : decode cL_law 210 = .ok (.iaload, 1) := by decide +kernel
theorem dL_law_211 : decode cL_law 211 = .ok (.invokevirtual 17, 3) := by decide +kernel
theorem dL_law_214 : decode cL_law 214 = .ok (.if_icmp .eq 829, 3) := by decide +kernel
theorem dL_law_217 : decode cL_law 217 = .ok (.iconst 0, 1) := by decide +kernel
theorem dL_law_218 : decode cL_law 218 = .ok (.ireturn, 1) := by decide +kernel
theorem dL_law_219 : decode cL_law 219 = .ok (.aload_n 1, 1) := by decide +kernel
theorem dL_law_220 : decode cL_law 220 = .ok (.aload_n 0, 1) := by decide +kernel
theorem dL_law_221 : decode cL_law 221 = .ok (.iload_n 3, 1) := by decide +kernel
theorem dL_law_222 : decode cL_law 222 = .ok (.iconst 1, 1) := by decide +kernel
theorem dL_law_223 : decode cL_law 223 = .ok (.iadd, 1) := by decide +kernel
theorem dL_law_224 : decode cL_law 224 = .ok (.iaload, 1) := by decide +kernel
theorem dL_law_225 : decode cL_law 225 = .ok (.invokevirtual 18, 3) := by decide +kernel
theorem dL_law_228 : decode cL_law 228 = .ok (.aload_n 2, 1) := by decide +kernel
theorem dL_law_229 : decode cL_law 229 = .ok (.aload_n 0, 1) := by decide +kernel
theorem dL_law_230 : decode cL_law 230 = .ok (.iload_n 3, 1) := by decide +kernel
theorem dL_law_231 : decode cL_law 231 = .ok (.iconst 1, 1) := by decide +kernel
theorem dL_law_232 : decode cL_law 232 = .ok (.iadd, 1) := by decide +kernel
theorem dL_law_233 : decode cL_law 233 = .ok (.iaload, 1) := by decide +kernel
theorem dL_law_234 : decode cL_law 234 = .ok (.invokevirtual 22, 3) := by decide +kernel
theorem dL_law_237 : decode cL_law 237 = .ok (.if_icmp .eq 806, 3) := by decide +kernel
theorem dL_law_240 : decode cL_law 240 = .ok (.iconst 0, 1) := by decide +kernel
theorem dL_law_241 : decode cL_law 241 = .ok (.ireturn, 1) := by decide +kernel
theorem dL_law_242 : decode cL_law 242 = .ok (.aload_n 1, 1) := by decide +kernel
theorem dL_law_243 : decode cL_law 243 = .ok (.aload_n 0, 1) := by decide +kernel
theorem dL_law_244 : decode cL_law 244 = .ok (.iload_n 3, 1) := by decide +kernel
theorem dL_law_245 : decode cL_law 245 = .ok (.iconst 1, 1) := by decide +kernel
theorem dL_law_246 : decode cL_law 246 = .ok (.iadd, 1) := by decide +kernel
theorem dL_law_247 : decode cL_law 247 = .ok (.iaload, 1) := by decide +kernel
theorem dL_law_248 : decode cL_law 248 = .ok (.aload_n 0, 1) := by decide +kernel
theorem dL_law_249 : decode cL_law 249 = .ok (.iload_n 3, 1) := by decide +kernel
theorem dL_law_250 : decode cL_law 250 = .ok (.iconst 2, 1) := by decide +kernel
theorem dL_law_251 : decode cL_law 251 = .ok (.iadd, 1) := by decide +kernel
theorem dL_law_252 : decode cL_law 252 = .ok (.iaload, 1) := by decide +kernel
theorem dL_law_253 : decode cL_law 253 = .ok (.invokevirtual 23, 3) := by decide +kernel
theorem dL_law_256 : decode cL_law 256 = .ok (.aload_n 2, 1) := by decide +kernel
theorem dL_law_257 : decode cL_law 257 = .ok (.aload_n 0, 1) := by decide +kernel
theorem dL_law_258 : decode cL_law 258 = .ok (.iload_n 3, 1) := by decide +kernel
theorem dL_law_259 : decode cL_law 259 = .ok (.iconst 1, 1) := by decide +kernel
theorem dL_law_260 : decode cL_law 260 = .ok (.iadd, 1) := by decide +kernel
theorem dL_law_261 : decode cL_law 261 = .ok (.iaload, 1) := by decide +kernel
theorem dL_law_262 : decode cL_law 262 = .ok (.aload_n 0, 1) := by decide +kernel
theorem dL_law_263 : decode cL_law 263 = .ok (.iload_n 3, 1) := by decide +kernel
theorem dL_law_264 : decode cL_law 264 = .ok (.iconst 2, 1) := by decide +kernel
theorem dL_law_265 : decode cL_law 265 = .ok (.iadd, 1) := by decide +kernel
theorem dL_law_266 : decode cL_law 266 = .ok (.iaload, 1) := by decide +kernel
theorem dL_law_267 : decode cL_law 267 = .ok (.invokevirtual 27, 3) := by decide +kernel
theorem dL_law_270 : decode cL_law 270 = .ok (.if_icmp .eq 773, 3) := by decide +kernel
theorem dL_law_273 : decode cL_law 273 = .ok (.iconst 0, 1) := by decide +kernel
theorem dL_law_274 : decode cL_law 274 = .ok (.ireturn, 1) := by decide +kernel
theorem dL_law_275 : decode cL_law 275 = .ok (.aload_n 1, 1) := by decide +kernel
theorem dL_law_276 : decode cL_law 276 = .ok (.aload_n 0, 1) := by decide +kernel
theorem dL_law_277 : decode cL_law 277 = .ok (.iload_n 3, 1) := by decide +kernel
theorem dL_law_278 : decode cL_law 278 = .ok (.iconst 1, 1) := by decide +kernel
theorem dL_law_279 : decode cL_law 279 = .ok (.iadd, 1) := by decide +kernel
theorem dL_law_280 : decode cL_law 280 = .ok (.iaload, 1) := by decide +kernel
theorem dL_law_281 : decode cL_law 281 = .ok (.aload_n 0, 1) := by decide +kernel
theorem dL_law_282 : decode cL_law 282 = .ok (.iload_n 3, 1) := by decide +kernel
theorem dL_law_283 : decode cL_law 283 = .ok (.iconst 2, 1) := by decide +kernel
theorem dL_law_284 : decode cL_law 284 = .ok (.iadd, 1) := by decide +kernel
theorem dL_law_285 : decode cL_law 285 = .ok (.iaload, 1) := by decide +kernel
theorem dL_law_286 : decode cL_law 286 = .ok (.aload_n 0, 1) := by decide +kernel
theorem dL_law_287 : decode cL_law 287 = .ok (.iload_n 3, 1) := by decide +kernel
theorem dL_law_288 : decode cL_law 288 = .ok (.iconst 3, 1) := by decide +kernel
theorem dL_law_289 : decode cL_law 289 = .ok (.iadd, 1) := by decide +kernel
theorem dL_law_290 : decode cL_law 290 = .ok (.iaload, 1) := by decide +kernel
theorem dL_law_291 : decode cL_law 291 = .ok (.aload_n 0, 1) := by decide +kernel
theorem dL_law_292 : decode cL_law 292 = .ok (.iload_n 3, 1) := by decide +kernel
theorem dL_law_293 : decode cL_law 293 = .ok (.iconst 4, 1) := by decide +kernel
theorem dL_law_294 : decode cL_law 294 = .ok (.iadd, 1) := by decide +kernel
theorem dL_law_295 : decode cL_law 295 = .ok (.iaload, 1) := by decide +kernel
theorem dL_law_296 : decode cL_law 296 = .ok (.ifCond .eq 7, 3) := by decide +kernel
theorem dL_law_299 : decode cL_law 299 = .ok (.iconst 1, 1) := by decide +kernel
theorem dL_law_300 : decode cL_law 300 = .ok (.goto 4, 3) := by decide +kernel
theorem dL_law_303 : decode cL_law 303 = .ok (.iconst 0, 1) := by decide +kernel
theorem dL_law_304 : decode cL_law 304 = .ok (.invokevirtual 28, 3) := by decide +kernel
theorem dL_law_307 : decode cL_law 307 = .ok (.aload_n 2, 1) := by decide +kernel
theorem dL_law_308 : decode cL_law 308 = .ok (.aload_n 0, 1) := by decide +kernel
theorem dL_law_309 : decode cL_law 309 = .ok (.iload_n 3, 1) := by decide +kernel
theorem dL_law_310 : decode cL_law 310 = .ok (.iconst 1, 1) := by decide +kernel
theorem dL_law_311 : decode cL_law 311 = .ok (.iadd, 1) := by decide +kernel
theorem dL_law_312 : decode cL_law 312 = .ok (.iaload, 1) := by decide +kernel
theorem dL_law_313 : decode cL_law 313 = .ok (.aload_n 0, 1) := by decide +kernel
theorem dL_law_314 : decode cL_law 314 = .ok (.iload_n 3, 1) := by decide +kernel
theorem dL_law_315 : decode cL_law 315 = .ok (.iconst 2, 1) := by decide +kernel
theorem dL_law_316 : decode cL_law 316 = .ok (.iadd, 1) := by decide +kernel
theorem dL_law_317 : decode cL_law 317 = .ok (.iaload, 1) := by decide +kernel
theorem dL_law_318 : decode cL_law 318 = .ok (.aload_n 0, 1) := by decide +kernel
theorem dL_law_319 : decode cL_law 319 = .ok (.iload_n 3, 1) := by decide +kernel
theorem dL_law_320 : decode cL_law 320 = .ok (.iconst 3, 1) := by decide +kernel
theorem dL_law_321 : decode cL_law 321 = .ok (.iadd, 1) := by decide +kernel
theorem dL_law_322 : decode cL_law 322 = .ok (.iaload, 1) := by decide +kernel
theorem dL_law_323 : decode cL_law 323 = .ok (.aload_n 0, 1) := by decide +kernel
theorem dL_law_324 : decode cL_law 324 = .ok (.iload_n 3, 1) := by decide +kernel
theorem dL_law_325 : decode cL_law 325 = .ok (.iconst 4, 1) := by decide +kernel
theorem dL_law_326 : decode cL_law 326 = .ok (.iadd, 1) := by decide +kernel
theorem dL_law_327 : decode cL_law 327 = .ok (.iaload, 1) := by decide +kernel
theorem dL_law_328 : decode cL_law 328 = .ok (.ifCond .eq 7, 3) := by decide +kernel
theorem dL_law_331 : decode cL_law 331 = .ok (.iconst 1, 1) := by decide +kernel
theorem dL_law_332 : decode cL_law 332 = .ok (.goto 4, 3) := by decide +kernel
theorem dL_law_335 : decode cL_law 335 = .ok (.iconst 0, 1) := by decide +kernel
theorem dL_law_336 : decode cL_law 336 = .ok (.invokevirtual 32, 3) := by decide +kernel
theorem dL_law_339 : decode cL_law 339 = .ok (.if_icmp .eq 704, 3) := by decide +kernel
theorem dL_law_342 : decode cL_law 342 = .ok (.iconst 0, 1) := by decide +kernel
theorem dL_law_343 : decode cL_law 343 = .ok (.ireturn, 1) := by decide +kernel
theorem dL_law_344 : decode cL_law 344 = .ok (.aload_n 1, 1) := by decide +kernel
theorem dL_law_345 : decode cL_law 345 = .ok (.aload_n 0, 1) := by decide +kernel
theorem dL_law_346 : decode cL_law 346 = .ok (.iload_n 3, 1) := by decide +kernel
theorem dL_law_347 : decode cL_law 347 = .ok (.iconst 1, 1) := by decide +kernel
theorem dL_law_348 : decode cL_law 348 = .ok (.iadd, 1) := by decide +kernel
theorem dL_law_349 : decode cL_law 349 = .ok (.iaload, 1) := by decide +kernel
theorem dL_law_350 : decode cL_law 350 = .ok (.aload_n 0, 1) := by decide +kernel
theorem dL_law_351 : decode cL_law 351 = .ok (.iload_n 3, 1) := by decide +kernel
theorem dL_law_352 : decode cL_law 352 = .ok (.iconst 2, 1) := by decide +kernel
theorem dL_law_353 : decode cL_law 353 = .ok (.iadd, 1) := by decide +kernel
theorem dL_law_354 : decode cL_law 354 = .ok (.iaload, 1) := by decide +kernel
theorem dL_law_355 : decode cL_law 355 = .ok (.invokevirtual 33, 3) := by decide +kernel
theorem dL_law_358 : decode cL_law 358 = .ok (.aload_n 2, 1) := by decide +kernel
theorem dL_law_359 : decode cL_law 359 = .ok (.aload_n 0, 1) := by decide +kernel
theorem dL_law_360 : decode cL_law 360 = .ok (.iload_n 3, 1) := by decide +kernel
theorem dL_law_361 : decode cL_law 361 = .ok (.iconst 1, 1) := by decide +kernel
theorem dL_law_362 : decode cL_law 362 = .ok (.iadd, 1) := by decide +kernel
theorem dL_law_363 : decode cL_law 363 = .ok (.iaload, 1) := by decide +kernel
theorem dL_law_364 : decode cL_law 364 = .ok (.aload_n 0, 1) := by decide +kernel
theorem dL_law_365 : decode cL_law 365 = .ok (.iload_n 3, 1) := by decide +kernel
theorem dL_law_366 : decode cL_law 366 = .ok (.iconst 2, 1) := by decide +kernel
theorem dL_law_367 : decode cL_law 367 = .ok (.iadd, 1) := by decide +kernel
theorem dL_law_368 : decode cL_law 368 = .ok (.iaload, 1) := by decide +kernel
theorem dL_law_369 : decode cL_law 369 = .ok (.invokevirtual 36, 3) := by decide +kernel
theorem dL_law_372 : decode cL_law 372 = .ok (.if_icmp .eq 671, 3) := by decide +kernel
theorem dL_law_375 : decode cL_law 375 = .ok (.iconst 0, 1) := by decide +kernel
theorem dL_law_376 : decode cL_law 376 = .ok (.ireturn, 1) := by decide +kernel
theorem dL_law_377 : decode cL_law 377 = .ok (.aload_n 1, 1) := by decide +kernel
theorem dL_law_378 : decode cL_law 378 = .ok (.aload_n 0, 1) := by decide +kernel
theorem dL_law_379 : decode cL_law 379 = .ok (.iload_n 3, 1) := by decide +kernel
theorem dL_law_380 : decode cL_law 380 = .ok (.iconst 1, 1) := by decide +kernel
theorem dL_law_381 : decode cL_law 381 = .ok (.iadd, 1) := by decide +kernel
theorem dL_law_382 : decode cL_law 382 = .ok (.iaload, 1) := by decide +kernel
theorem dL_law_383 : decode cL_law 383 = .ok (.invokevirtual 37, 3) := by decide +kernel
theorem dL_law_386 : decode cL_law 386 = .ok (.aload_n 2, 1) := by decide +kernel
theorem dL_law_387 : decode cL_law 387 = .ok (.aload_n 0, 1) := by decide +kernel
theorem dL_law_388 : decode cL_law 388 = .ok (.iload_n 3, 1) := by decide +kernel
theorem dL_law_389 : decode cL_law 389 = .ok (.iconst 1, 1) := by decide +kernel
theorem dL_law_390 : decode cL_law 390 = .ok (.iadd, 1) := by decide +kernel
theorem dL_law_391 : decode cL_law 391 = .ok (.iaload, 1) := by decide +kernel
theorem dL_law_392 : decode cL_law 392 = .ok (.invokevirtual 40, 3) := by decide +kernel
theorem dL_law_395 : decode cL_law 395 = .ok (.if_icmp .eq 648, 3) := by decide +kernel
theorem dL_law_398 : decode cL_law 398 = .ok (.iconst 0, 1) := by decide +kernel
theorem dL_law_399 : decode cL_law 399 = .ok (.ireturn, 1) := by decide +kernel
theorem dL_law_400 : decode cL_law 400 = .ok (.aload_n 1, 1) := by decide +kernel
theorem dL_law_401 : decode cL_law 401 = .ok (.aload_n 0, 1) := by decide +kernel
theorem dL_law_402 : decode cL_law 402 = .ok (.iload_n 3, 1) := by decide +kernel
theorem dL_law_403 : decode cL_law 403 = .ok (.iconst 1, 1) := by decide +kernel
theorem dL_law_404 : decode cL_law 404 = .ok (.iadd, 1) := by decide +kernel
theorem dL_law_405 : decode cL_law 405 = .ok (.iaload, 1) := by decide +kernel
theorem dL_law_406 : decode cL_law 406 = .ok (.invokevirtual 41, 3) := by decide +kernel
theorem dL_law_409 : decode cL_law 409 = .ok (.aload_n 2, 1) := by decide +kernel
theorem dL_law_410 : decode cL_law 410 = .ok (.aload_n 0, 1) := by decide +kernel
theorem dL_law_411 : decode cL_law 411 = .ok (.iload_n 3, 1) := by decide +kernel
theorem dL_law_412 : decode cL_law 412 = .ok (.iconst 1, 1) := by decide +kernel
theorem dL_law_413 : decode cL_law 413 = .ok (.iadd, 1) := by decide +kernel
theorem dL_law_414 : decode cL_law 414 = .ok (.iaload, 1) := by decide +kernel
theorem dL_law_415 : decode cL_law 415 = .ok (.invokevirtual 44, 3) := by decide +kernel
theorem dL_law_418 : decode cL_law 418 = .ok (.if_icmp .eq 625, 3) := by decide +kernel
theorem dL_law_421 : decode cL_law 421 = .ok (.iconst 0, 1) := by decide +kernel
theorem dL_law_422 : decode cL_law 422 = .ok (.ireturn, 1) := by decide +kernel
theorem dL_law_423 : decode cL_law 423 = .ok (.aload_n 1, 1) := by decide +kernel
theorem dL_law_424 : decode cL_law 424 = .ok (.aload_n 0, 1) := by decide +kernel
theorem dL_law_425 : decode cL_law 425 = .ok (.iload_n 3, 1) := by decide +kernel
theorem dL_law_426 : decode cL_law 426 = .ok (.iconst 1, 1) := by decide +kernel
theorem dL_law_427 : decode cL_law 427 = .ok (.iadd, 1) := by decide +kernel
theorem dL_law_428 : decode cL_law 428 = .ok (.iaload, 1) := by decide +kernel
theorem dL_law_429 : decode cL_law 429 = .ok (.aload_n 0, 1) := by decide +kernel
theorem dL_law_430 : decode cL_law 430 = .ok (.iload_n 3, 1) := by decide +kernel
theorem dL_law_431 : decode cL_law 431 = .ok (.iconst 2, 1) := by decide +kernel
theorem dL_law_432 : decode cL_law 432 = .ok (.iadd, 1) := by decide +kernel
theorem dL_law_433 : decode cL_law 433 = .ok (.iaload, 1) := by decide +kernel
theorem dL_law_434 : decode cL_law 434 = .ok (.aload_n 0, 1) := by decide +kernel
theorem dL_law_435 : decode cL_law 435 = .ok (.iload_n 3, 1) := by decide +kernel
theorem dL_law_436 : decode cL_law 436 = .ok (.iconst 3, 1) := by decide +kernel
theorem dL_law_437 : decode cL_law 437 = .ok (.iadd, 1) := by decide +kernel
theorem dL_law_438 : decode cL_law 438 = .ok (.iaload, 1) := by decide +kernel
theorem dL_law_439 : decode cL_law 439 = .ok (.invokevirtual 45, 3) := by decide +kernel
theorem dL_law_442 : decode cL_law 442 = .ok (.aload_n 2, 1) := by decide +kernel
theorem dL_law_443 : decode cL_law 443 = .ok (.aload_n 0, 1) := by decide +kernel
theorem dL_law_444 : decode cL_law 444 = .ok (.iload_n 3, 1) := by decide +kernel
theorem dL_law_445 : decode cL_law 445 = .ok (.iconst 1, 1) := by decide +kernel
theorem dL_law_446 : decode cL_law 446 = .ok (.iadd, 1) := by decide +kernel
theorem dL_law_447 : decode cL_law 447 = .ok (.iaload, 1) := by decide +kernel
theorem dL_law_448 : decode cL_law 448 = .ok (.aload_n 0, 1) := by decide +kernel
theorem dL_law_449 : decode cL_law 449 = .ok (.iload_n 3, 1) := by decide +kernel
theorem dL_law_450 : decode cL_law 450 = .ok (.iconst 2, 1) := by decide +kernel
theorem dL_law_451 : decode cL_law 451 = .ok (.iadd, 1) := by decide +kernel
theorem dL_law_452 : decode cL_law 452 = .ok (.iaload, 1) := by decide +kernel
theorem dL_law_453 : decode cL_law 453 = .ok (.aload_n 0, 1) := by decide +kernel
theorem dL_law_454 : decode cL_law 454 = .ok (.iload_n 3, 1) := by decide +kernel
theorem dL_law_455 : decode cL_law 455 = .ok (.iconst 3, 1) := by decide +kernel
theorem dL_law_456 : decode cL_law 456 = .ok (.iadd, 1) := by decide +kernel
theorem dL_law_457 : decode cL_law 457 = .ok (.iaload, 1) := by decide +kernel
theorem dL_law_458 : decode cL_law 458 = .ok (.invokevirtual 49, 3) := by decide +kernel
theorem dL_law_461 : decode cL_law 461 = .ok (.if_icmp .eq 582, 3) := by decide +kernel
theorem dL_law_464 : decode cL_law 464 = .ok (.iconst 0, 1) := by decide +kernel
theorem dL_law_465 : decode cL_law 465 = .ok (.ireturn, 1) := by decide +kernel
theorem dL_law_466 : decode cL_law 466 = .ok (.aload_n 1, 1) := by decide +kernel
theorem dL_law_467 : decode cL_law 467 = .ok (.aload_n 0, 1) := by decide +kernel
theorem dL_law_468 : decode cL_law 468 = .ok (.iload_n 3, 1) := by decide +kernel
theorem dL_law_469 : decode cL_law 469 = .ok (.iconst 1, 1) := by decide +kernel
theorem dL_law_470 : decode cL_law 470 = .ok (.iadd, 1) := by decide +kernel
theorem dL_law_471 : decode cL_law 471 = .ok (.iaload, 1) := by decide +kernel
theorem dL_law_472 : decode cL_law 472 = .ok (.aload_n 0, 1) := by decide +kernel
theorem dL_law_473 : decode cL_law 473 = .ok (.iload_n 3, 1) := by decide +kernel
theorem dL_law_474 : decode cL_law 474 = .ok (.iconst 2, 1) := by decide +kernel
theorem dL_law_475 : decode cL_law 475 = .ok (.iadd, 1) := by decide +kernel
theorem dL_law_476 : decode cL_law 476 = .ok (.iaload, 1) := by decide +kernel
theorem dL_law_477 : decode cL_law 477 = .ok (.aload_n 0, 1) := by decide +kernel
theorem dL_law_478 : decode cL_law 478 = .ok (.iload_n 3, 1) := by decide +kernel
theorem dL_law_479 : decode cL_law 479 = .ok (.iconst 3, 1) := by decide +kernel
theorem dL_law_480 : decode cL_law 480 = .ok (.iadd, 1) := by decide +kernel
theorem dL_law_481 : decode cL_law 481 = .ok (.iaload, 1) := by decide +kernel
theorem dL_law_482 : decode cL_law 482 = .ok (.invokevirtual 50, 3) := by decide +kernel
theorem dL_law_485 : decode cL_law 485 = .ok (.aload_n 2, 1) := by decide +kernel
theorem dL_law_486 : decode cL_law 486 = .ok (.aload_n 0, 1) := by decide +kernel
theorem dL_law_487 : decode cL_law 487 = .ok (.iload_n 3, 1) := by decide +kernel
theorem dL_law_488 : decode cL_law 488 = .ok (.iconst 1, 1) := by decide +kernel
theorem dL_law_489 : decode cL_law 489 = .ok (.iadd, 1) := by decide +kernel
theorem dL_law_490 : decode cL_law 490 = .ok (.iaload, 1) := by decide +kernel
theorem dL_law_491 : decode cL_law 491 = .ok (.aload_n 0, 1) := by decide +kernel
theorem dL_law_492 : decode cL_law 492 = .ok (.iload_n 3, 1) := by decide +kernel
theorem dL_law_493 : decode cL_law 493 = .ok (.iconst 2, 1) := by decide +kernel
theorem dL_law_494 : decode cL_law 494 = .ok (.iadd, 1) := by decide +kernel
theorem dL_law_495 : decode cL_law 495 = .ok (.iaload, 1) := by decide +kernel
theorem dL_law_496 : decode cL_law 496 = .ok (.aload_n 0, 1) := by decide +kernel
theorem dL_law_497 : decode cL_law 497 = .ok (.iload_n 3, 1) := by decide +kernel
theorem dL_law_498 : decode cL_law 498 = .ok (.iconst 3, 1) := by decide +kernel
theorem dL_law_499 : decode cL_law 499 = .ok (.iadd, 1) := by decide +kernel
theorem dL_law_500 : decode cL_law 500 = .ok (.iaload, 1) := by decide +kernel
theorem dL_law_501 : decode cL_law 501 = .ok (.invokevirtual 53, 3) := by decide +kernel
theorem dL_law_504 : decode cL_law 504 = .ok (.if_icmp .eq 539, 3) := by decide +kernel
theorem dL_law_507 : decode cL_law 507 = .ok (.iconst 0, 1) := by decide +kernel
theorem dL_law_508 : decode cL_law 508 = .ok (.ireturn, 1) := by decide +kernel
theorem dL_law_509 : decode cL_law 509 = .ok (.aload_n 1, 1) := by decide +kernel
theorem dL_law_510 : decode cL_law 510 = .ok (.aload_n 0, 1) := by decide +kernel
theorem dL_law_511 : decode cL_law 511 = .ok (.iload_n 3, 1) := by decide +kernel
theorem dL_law_512 : decode cL_law 512 = .ok (.iconst 1, 1) := by decide +kernel
theorem dL_law_513 : decode cL_law 513 = .ok (.iadd, 1) := by decide +kernel
theorem dL_law_514 : decode cL_law 514 = .ok (.iaload, 1) := by decide +kernel
theorem dL_law_515 : decode cL_law 515 = .ok (.aload_n 0, 1) := by decide +kernel
theorem dL_law_516 : decode cL_law 516 = .ok (.iload_n 3, 1) := by decide +kernel
theorem dL_law_517 : decode cL_law 517 = .ok (.iconst 2, 1) := by decide +kernel
theorem dL_law_518 : decode cL_law 518 = .ok (.iadd, 1) := by decide +kernel
theorem dL_law_519 : decode cL_law 519 = .ok (.iaload, 1) := by decide +kernel
theorem dL_law_520 : decode cL_law 520 = .ok (.invokevirtual 54, 3) := by decide +kernel
theorem dL_law_523 : decode cL_law 523 = .ok (.aload_n 2, 1) := by decide +kernel
theorem dL_law_524 : decode cL_law 524 = .ok (.aload_n 0, 1) := by decide +kernel
theorem dL_law_525 : decode cL_law 525 = .ok (.iload_n 3, 1) := by decide +kernel
theorem dL_law_526 : decode cL_law 526 = .ok (.iconst 1, 1) := by decide +kernel
theorem dL_law_527 : decode cL_law 527 = .ok (.iadd, 1) := by decide +kernel
theorem dL_law_528 : decode cL_law 528 = .ok (.iaload, 1) := by decide +kernel
theorem dL_law_529 : decode cL_law 529 = .ok (.aload_n 0, 1) := by decide +kernel
theorem dL_law_530 : decode cL_law 530 = .ok (.iload_n 3, 1) := by decide +kernel
theorem dL_law_531 : decode cL_law 531 = .ok (.iconst 2, 1) := by decide +kernel
theorem dL_law_532 : decode cL_law 532 = .ok (.iadd, 1) := by decide +kernel
theorem dL_law_533 : decode cL_law 533 = .ok (.iaload, 1) := by decide +kernel
theorem dL_law_534 : decode cL_law 534 = .ok (.invokevirtual 57, 3) := by decide +kernel
theorem dL_law_537 : decode cL_law 537 = .ok (.if_icmp .eq 506, 3) := by decide +kernel
theorem dL_law_540 : decode cL_law 540 = .ok (.iconst 0, 1) := by decide +kernel
theorem dL_law_541 : decode cL_law 541 = .ok (.ireturn, 1) := by decide +kernel
theorem dL_law_542 : decode cL_law 542 = .ok (.aload_n 1, 1) := by decide +kernel
theorem dL_law_543 : decode cL_law 543 = .ok (.aload_n 0, 1) := by decide +kernel
theorem dL_law_544 : decode cL_law 544 = .ok (.iload_n 3, 1) := by decide +kernel
theorem dL_law_545 : decode cL_law 545 = .ok (.iconst 1, 1) := by decide +kernel
theorem dL_law_546 : decode cL_law 546 = .ok (.iadd, 1) := by decide +kernel
theorem dL_law_547 : decode cL_law 547 = .ok (.iaload, 1) := by decide +kernel
theorem dL_law_548 : decode cL_law 548 = .ok (.aload_n 0, 1) := by decide +kernel
theorem dL_law_549 : decode cL_law 549 = .ok (.iload_n 3, 1) := by decide +kernel
theorem dL_law_550 : decode cL_law 550 = .ok (.iconst 2, 1) := by decide +kernel
theorem dL_law_551 : decode cL_law 551 = .ok (.iadd, 1) := by decide +kernel
theorem dL_law_552 : decode cL_law 552 = .ok (.iaload, 1) := by decide +kernel
theorem dL_law_553 : decode cL_law 553 = .ok (.aload_n 0, 1) := by decide +kernel
theorem dL_law_554 : decode cL_law 554 = .ok (.iload_n 3, 1) := by decide +kernel
theorem dL_law_555 : decode cL_law 555 = .ok (.iconst 3, 1) := by decide +kernel
theorem dL_law_556 : decode cL_law 556 = .ok (.iadd, 1) := by decide +kernel
theorem dL_law_557 : decode cL_law 557 = .ok (.iaload, 1) := by decide +kernel
theorem dL_law_558 : decode cL_law 558 = .ok (.aload_n 0, 1) := by decide +kernel
theorem dL_law_559 : decode cL_law 559 = .ok (.iload_n 3, 1) := by decide +kernel
theorem dL_law_560 : decode cL_law 560 = .ok (.iconst 4, 1) := by decide +kernel
theorem dL_law_561 : decode cL_law 561 = .ok (.iadd, 1) := by decide +kernel
theorem dL_law_562 : decode cL_law 562 = .ok (.iaload, 1) := by decide +kernel
theorem dL_law_563 : decode cL_law 563 = .ok (.invokevirtual 58, 3) := by decide +kernel
theorem dL_law_566 : decode cL_law 566 = .ok (.aload_n 2, 1) := by decide +kernel
theorem dL_law_567 : decode cL_law 567 = .ok (.aload_n 0, 1) := by decide +kernel
theorem dL_law_568 : decode cL_law 568 = .ok (.iload_n 3, 1) := by decide +kernel
theorem dL_law_569 : decode cL_law 569 = .ok (.iconst 1, 1) := by decide +kernel
theorem dL_law_570 : decode cL_law 570 = .ok (.iadd, 1) := by decide +kernel
theorem dL_law_571 : decode cL_law 571 = .ok (.iaload, 1) := by decide +kernel
theorem dL_law_572 : decode cL_law 572 = .ok (.aload_n 0, 1) := by decide +kernel
theorem dL_law_573 : decode cL_law 573 = .ok (.iload_n 3, 1) := by decide +kernel
theorem dL_law_574 : decode cL_law 574 = .ok (.iconst 2, 1) := by decide +kernel
theorem dL_law_575 : decode cL_law 575 = .ok (.iadd, 1) := by decide +kernel
theorem dL_law_576 : decode cL_law 576 = .ok (.iaload, 1) := by decide +kernel
theorem dL_law_577 : decode cL_law 577 = .ok (.aload_n 0, 1) := by decide +kernel
theorem dL_law_578 : decode cL_law 578 = .ok (.iload_n 3, 1) := by decide +kernel
theorem dL_law_579 : decode cL_law 579 = .ok (.iconst 3, 1) := by decide +kernel
theorem dL_law_580 : decode cL_law 580 = .ok (.iadd, 1) := by decide +kernel
theorem dL_law_581 : decode cL_law 581 = .ok (.iaload, 1) := by decide +kernel
theorem dL_law_582 : decode cL_law 582 = .ok (.aload_n 0, 1) := by decide +kernel
theorem dL_law_583 : decode cL_law 583 = .ok (.iload_n 3, 1) := by decide +kernel
theorem dL_law_584 : decode cL_law 584 = .ok (.iconst 4, 1) := by decide +kernel
theorem dL_law_585 : decode cL_law 585 = .ok (.iadd, 1) := by decide +kernel
theorem dL_law_586 : decode cL_law 586 = .ok (.iaload, 1) := by decide +kernel
theorem dL_law_587 : decode cL_law 587 = .ok (.invokevirtual 62, 3) := by decide +kernel
theorem dL_law_590 : decode cL_law 590 = .ok (.if_icmp .eq 453, 3) := by decide +kernel
theorem dL_law_593 : decode cL_law 593 = .ok (.iconst 0, 1) := by decide +kernel
theorem dL_law_594 : decode cL_law 594 = .ok (.ireturn, 1) := by decide +kernel
theorem dL_law_595 : decode cL_law 595 = .ok (.aload_n 1, 1) := by decide +kernel
theorem dL_law_596 : decode cL_law 596 = .ok (.aload_n 0, 1) := by decide +kernel
theorem dL_law_597 : decode cL_law 597 = .ok (.iload_n 3, 1) := by decide +kernel
theorem dL_law_598 : decode cL_law 598 = .ok (.iconst 1, 1) := by decide +kernel
theorem dL_law_599 : decode cL_law 599 = .ok (.iadd, 1) := by decide +kernel
theorem dL_law_600 : decode cL_law 600 = .ok (.iaload, 1) := by decide +kernel
theorem dL_law_601 : decode cL_law 601 = .ok (.aload_n 0, 1) := by decide +kernel
theorem dL_law_602 : decode cL_law 602 = .ok (.iload_n 3, 1) := by decide +kernel
theorem dL_law_603 : decode cL_law 603 = .ok (.iconst 2, 1) := by decide +kernel
theorem dL_law_604 : decode cL_law 604 = .ok (.iadd, 1) := by decide +kernel
theorem dL_law_605 : decode cL_law 605 = .ok (.iaload, 1) := by decide +kernel
theorem dL_law_606 : decode cL_law 606 = .ok (.invokevirtual 63, 3) := by decide +kernel
theorem dL_law_609 : decode cL_law 609 = .ok (.aload_n 2, 1) := by decide +kernel
theorem dL_law_610 : decode cL_law 610 = .ok (.aload_n 0, 1) := by decide +kernel
theorem dL_law_611 : decode cL_law 611 = .ok (.iload_n 3, 1) := by decide +kernel
theorem dL_law_612 : decode cL_law 612 = .ok (.iconst 1, 1) := by decide +kernel
theorem dL_law_613 : decode cL_law 613 = .ok (.iadd, 1) := by decide +kernel
theorem dL_law_614 : decode cL_law 614 = .ok (.iaload, 1) := by decide +kernel
theorem dL_law_615 : decode cL_law 615 = .ok (.aload_n 0, 1) := by decide +kernel
theorem dL_law_616 : decode cL_law 616 = .ok (.iload_n 3, 1) := by decide +kernel
theorem dL_law_617 : decode cL_law 617 = .ok (.iconst 2, 1) := by decide +kernel
theorem dL_law_618 : decode cL_law 618 = .ok (.iadd, 1) := by decide +kernel
theorem dL_law_619 : decode cL_law 619 = .ok (.iaload, 1) := by decide +kernel
theorem dL_law_620 : decode cL_law 620 = .ok (.invokevirtual 66, 3) := by decide +kernel
theorem dL_law_623 : decode cL_law 623 = .ok (.if_icmp .eq 420, 3) := by decide +kernel
theorem dL_law_626 : decode cL_law 626 = .ok (.iconst 0, 1) := by decide +kernel
theorem dL_law_627 : decode cL_law 627 = .ok (.ireturn, 1) := by decide +kernel
theorem dL_law_628 : decode cL_law 628 = .ok (.aload_n 1, 1) := by decide +kernel
theorem dL_law_629 : decode cL_law 629 = .ok (.aload_n 0, 1) := by decide +kernel
theorem dL_law_630 : decode cL_law 630 = .ok (.iload_n 3, 1) := by decide +kernel
theorem dL_law_631 : decode cL_law 631 = .ok (.iconst 1, 1) := by decide +kernel
theorem dL_law_632 : decode cL_law 632 = .ok (.iadd, 1) := by decide +kernel
theorem dL_law_633 : decode cL_law 633 = .ok (.iaload, 1) := by decide +kernel
theorem dL_law_634 : decode cL_law 634 = .ok (.invokevirtual 67, 3) := by decide +kernel
theorem dL_law_637 : decode cL_law 637 = .ok (.aload_n 2, 1) := by decide +kernel
theorem dL_law_638 : decode cL_law 638 = .ok (.aload_n 0, 1) := by decide +kernel
theorem dL_law_639 : decode cL_law 639 = .ok (.iload_n 3, 1) := by decide +kernel
theorem dL_law_640 : decode cL_law 640 = .ok (.iconst 1, 1) := by decide +kernel
