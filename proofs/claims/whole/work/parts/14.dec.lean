theorem dX10_anew_41 : decode cX10_anew 41 = .ok (.imul, 1) := by decide +kernel
theorem dX10_anew_42 : decode cX10_anew 42 = .ok (.iload 4, 2) := by decide +kernel
theorem dX10_anew_44 : decode cX10_anew 44 = .ok (.iadd, 1) := by decide +kernel
theorem dX10_anew_45 : decode cX10_anew 45 = .ok (.iconst 0, 1) := by decide +kernel
theorem dX10_anew_46 : decode cX10_anew 46 = .ok (.iastore, 1) := by decide +kernel
theorem dX10_anew_47 : decode cX10_anew 47 = .ok (.aload_n 0, 1) := by decide +kernel
theorem dX10_anew_48 : decode cX10_anew 48 = .ok (.getfield 19, 3) := by decide +kernel
theorem dX10_anew_51 : decode cX10_anew 51 = .ok (.bipush 24, 2) := by decide +kernel
theorem dX10_anew_53 : decode cX10_anew 53 = .ok (.iload_n 1, 1) := by decide +kernel
theorem dX10_anew_54 : decode cX10_anew 54 = .ok (.imul, 1) := by decide +kernel
theorem dX10_anew_55 : decode cX10_anew 55 = .ok (.iload 4, 2) := by decide +kernel
theorem dX10_anew_57 : decode cX10_anew 57 = .ok (.iadd, 1) := by decide +kernel
theorem dX10_anew_58 : decode cX10_anew 58 = .ok (.iconst 0, 1) := by decide +kernel
theorem dX10_anew_59 : decode cX10_anew 59 = .ok (.iastore, 1) := by decide +kernel
theorem dX10_anew_60 : decode cX10_anew 60 = .ok (.iinc 4 1, 3) := by decide +kernel
theorem dX10_anew_63 : decode cX10_anew 63 = .ok (.goto (-36), 3) := by decide +kernel
theorem dX10_anew_66 : decode cX10_anew 66 = .ok (.aload_n 0, 1) := by decide +kernel
theorem dX10_anew_67 : decode cX10_anew 67 = .ok (.iload_n 1, 1) := by decide +kernel
theorem dX10_anew_68 : decode cX10_anew 68 = .ok (.invokevirtual 89, 3) := by decide +kernel
theorem dX10_anew_71 : decode cX10_anew 71 = .ok (.return_, 1) := by decide +kernel
theorem dX10_noRows_0 : decode cX10_noRows 0 = .ok (.iconst 0, 1) := by decide +kernel
theorem dX10_noRows_1 : decode cX10_noRows 1 = .ok (.istore_n 2, 1) := by decide +kernel
theorem dX10_noRows_2 : decode cX10_noRows 2 = .ok (.iload_n 2, 1) := by decide +kernel
theorem dX10_noRows_3 : decode cX10_noRows 3 = .ok (.sipush 150, 3) := by decide +kernel
theorem dX10_noRows_6 : decode cX10_noRows 6 = .ok (.if_icmp .ge 22, 3) := by decide +kernel
theorem dX10_noRows_9 : decode cX10_noRows 9 = .ok (.aload_n 0, 1) := by decide +kernel
theorem dX10_noRows_10 : decode cX10_noRows 10 = .ok (.getfield 22, 3) := by decide +kernel
theorem dX10_noRows_13 : decode cX10_noRows 13 = .ok (.sipush 150, 3) := by decide +kernel
theorem dX10_noRows_16 : decode cX10_noRows 16 = .ok (.iload_n 1, 1) := by decide +kernel
theorem dX10_noRows_17 : decode cX10_noRows 17 = .ok (.imul, 1) := by decide +kernel
theorem dX10_noRows_18 : decode cX10_noRows 18 = .ok (.iload_n 2, 1) := by decide +kernel
theorem dX10_noRows_19 : decode cX10_noRows 19 = .ok (.iadd, 1) := by decide +kernel
theorem dX10_noRows_20 : decode cX10_noRows 20 = .ok (.iconst 0, 1) := by decide +kernel
theorem dX10_noRows_21 : decode cX10_noRows 21 = .ok (.iastore, 1) := by decide +kernel
theorem dX10_noRows_22 : decode cX10_noRows 22 = .ok (.iinc 2 1, 3) := by decide +kernel
theorem dX10_noRows_25 : decode cX10_noRows 25 = .ok (.goto (-23), 3) := by decide +kernel
theorem dX10_noRows_28 : decode cX10_noRows 28 = .ok (.return_, 1) := by decide +kernel
theorem dX10_join_0 : decode cX10_join 0 = .ok (.aload_n 0, 1) := by decide +kernel
theorem dX10_join_1 : decode cX10_join 1 = .ok (.getfield 16, 3) := by decide +kernel
theorem dX10_join_4 : decode cX10_join 4 = .ok (.bipush 24, 2) := by decide +kernel
theorem dX10_join_6 : decode cX10_join 6 = .ok (.iload_n 1, 1) := by decide +kernel
theorem dX10_join_7 : decode cX10_join 7 = .ok (.imul, 1) := by decide +kernel
theorem dX10_join_8 : decode cX10_join 8 = .ok (.iload_n 2, 1) := by decide +kernel
theorem dX10_join_9 : decode cX10_join 9 = .ok (.iadd, 1) := by decide +kernel
theorem dX10_join_10 : decode cX10_join 10 = .ok (.dup2, 1) := by decide +kernel
theorem dX10_join_11 : decode cX10_join 11 = .ok (.iaload, 1) := by decide +kernel
theorem dX10_join_12 : decode cX10_join 12 = .ok (.iconst 1, 1) := by decide +kernel
theorem dX10_join_13 : decode cX10_join 13 = .ok (.iload_n 3, 1) := by decide +kernel
theorem dX10_join_14 : decode cX10_join 14 = .ok (.ishl, 1) := by decide +kernel
theorem dX10_join_15 : decode cX10_join 15 = .ok (.ior, 1) := by decide +kernel
theorem dX10_join_16 : decode cX10_join 16 = .ok (.iastore, 1) := by decide +kernel
theorem dX10_join_17 : decode cX10_join 17 = .ok (.aload_n 0, 1) := by decide +kernel
theorem dX10_join_18 : decode cX10_join 18 = .ok (.getfield 16, 3) := by decide +kernel
theorem dX10_join_21 : decode cX10_join 21 = .ok (.bipush 24, 2) := by decide +kernel
theorem dX10_join_23 : decode cX10_join 23 = .ok (.iload_n 1, 1) := by decide +kernel
theorem dX10_join_24 : decode cX10_join 24 = .ok (.imul, 1) := by decide +kernel
theorem dX10_join_25 : decode cX10_join 25 = .ok (.iload_n 3, 1) := by decide +kernel
theorem dX10_join_26 : decode cX10_join 26 = .ok (.iadd, 1) := by decide +kernel
theorem dX10_join_27 : decode cX10_join 27 = .ok (.dup2, 1) := by decide +kernel
theorem dX10_join_28 : decode cX10_join 28 = .ok (.iaload, 1) := by decide +kernel
theorem dX10_join_29 : decode cX10_join 29 = .ok (.iconst 1, 1) := by decide +kernel
theorem dX10_join_30 : decode cX10_join 30 = .ok (.iload_n 2, 1) := by decide +kernel
theorem dX10_join_31 : decode cX10_join 31 = .ok (.ishl, 1) := by decide +kernel
theorem dX10_join_32 : decode cX10_join 32 = .ok (.ior, 1) := by decide +kernel
theorem dX10_join_33 : decode cX10_join 33 = .ok (.iastore, 1) := by decide +kernel
theorem dX10_join_34 : decode cX10_join 34 = .ok (.return_, 1) := by decide +kernel
theorem dX10_feed_0 : decode cX10_feed 0 = .ok (.aload_n 0, 1) := by decide +kernel
theorem dX10_feed_1 : decode cX10_feed 1 = .ok (.getfield 93, 3) := by decide +kernel
theorem dX10_feed_4 : decode cX10_feed 4 = .ok (.bipush 20, 2) := by decide +kernel
theorem dX10_feed_6 : decode cX10_feed 6 = .ok (.iadd, 1) := by decide +kernel
theorem dX10_feed_7 : decode cX10_feed 7 = .ok (.sipush 600, 3) := by decide +kernel
theorem dX10_feed_10 : decode cX10_feed 10 = .ok (.if_icmp .le 6, 3) := by decide +kernel
theorem dX10_feed_13 : decode cX10_feed 13 = .ok (.bipush (-3), 2) := by decide +kernel
theorem dX10_feed_15 : decode cX10_feed 15 = .ok (.ireturn, 1) := by decide +kernel
theorem dX10_feed_16 : decode cX10_feed 16 = .ok (.aload_n 0, 1) := by decide +kernel
theorem dX10_feed_17 : decode cX10_feed 17 = .ok (.iload_n 1, 1) := by decide +kernel
theorem dX10_feed_18 : decode cX10_feed 18 = .ok (.invokevirtual 96, 3) := by decide +kernel
theorem dX10_feed_21 : decode cX10_feed 21 = .ok (.aload_n 0, 1) := by decide +kernel
theorem dX10_feed_22 : decode cX10_feed 22 = .ok (.iload_n 2, 1) := by decide +kernel
theorem dX10_feed_23 : decode cX10_feed 23 = .ok (.invokevirtual 96, 3) := by decide +kernel
theorem dX10_feed_26 : decode cX10_feed 26 = .ok (.aload_n 0, 1) := by decide +kernel
theorem dX10_feed_27 : decode cX10_feed 27 = .ok (.iload_n 3, 1) := by decide +kernel
theorem dX10_feed_28 : decode cX10_feed 28 = .ok (.invokevirtual 96, 3) := by decide +kernel
theorem dX10_feed_31 : decode cX10_feed 31 = .ok (.aload_n 0, 1) := by decide +kernel
theorem dX10_feed_32 : decode cX10_feed 32 = .ok (.iload 4, 2) := by decide +kernel
theorem dX10_feed_34 : decode cX10_feed 34 = .ok (.invokevirtual 96, 3) := by decide +kernel
theorem dX10_feed_37 : decode cX10_feed 37 = .ok (.aload_n 0, 1) := by decide +kernel
theorem dX10_feed_38 : decode cX10_feed 38 = .ok (.iload 5, 2) := by decide +kernel
theorem dX10_feed_40 : decode cX10_feed 40 = .ok (.invokevirtual 96, 3) := by decide +kernel
theorem dX10_feed_43 : decode cX10_feed 43 = .ok (.aload_n 0, 1) := by decide +kernel
theorem dX10_feed_44 : decode cX10_feed 44 = .ok (.getfield 93, 3) := by decide +kernel
theorem dX10_feed_47 : decode cX10_feed 47 = .ok (.ireturn, 1) := by decide +kernel
theorem dX10_lay_0 : decode cX10_lay 0 = .ok (.bipush 24, 2) := by decide +kernel
theorem dX10_lay_2 : decode cX10_lay 2 = .ok (.istore_n 2, 1) := by decide +kernel
theorem dX10_lay_3 : decode cX10_lay 3 = .ok (.iload_n 2, 1) := by decide +kernel
theorem dX10_lay_4 : decode cX10_lay 4 = .ok (.ifCond .lt 32, 3) := by decide +kernel
theorem dX10_lay_7 : decode cX10_lay 7 = .ok (.aload_n 0, 1) := by decide +kernel
theorem dX10_lay_8 : decode cX10_lay 8 = .ok (.getfield 28, 3) := by decide +kernel
theorem dX10_lay_11 : decode cX10_lay 11 = .ok (.aload_n 0, 1) := by decide +kernel
theorem dX10_lay_12 : decode cX10_lay 12 = .ok (.getfield 93, 3) := by decide +kernel
theorem dX10_lay_15 : decode cX10_lay 15 = .ok (.iload_n 1, 1) := by decide +kernel
theorem dX10_lay_16 : decode cX10_lay 16 = .ok (.iload_n 2, 1) := by decide +kernel
theorem dX10_lay_17 : decode cX10_lay 17 = .ok (.ishr, 1) := by decide +kernel
theorem dX10_lay_18 : decode cX10_lay 18 = .ok (.i2b, 1) := by decide +kernel
theorem dX10_lay_19 : decode cX10_lay 19 = .ok (.bastore, 1) := by decide +kernel
theorem dX10_lay_20 : decode cX10_lay 20 = .ok (.aload_n 0, 1) := by decide +kernel
theorem dX10_lay_21 : decode cX10_lay 21 = .ok (.dup, 1) := by decide +kernel
theorem dX10_lay_22 : decode cX10_lay 22 = .ok (.getfield 93, 3) := by decide +kernel
theorem dX10_lay_25 : decode cX10_lay 25 = .ok (.iconst 1, 1) := by decide +kernel
theorem dX10_lay_26 : decode cX10_lay 26 = .ok (.iadd, 1) := by decide +kernel
theorem dX10_lay_27 : decode cX10_lay 27 = .ok (.putfield 93, 3) := by decide +kernel
theorem dX10_lay_30 : decode cX10_lay 30 = .ok (.iinc 2 (-8), 3) := by decide +kernel
theorem dX10_lay_33 : decode cX10_lay 33 = .ok (.goto (-30), 3) := by decide +kernel
theorem dX10_lay_36 : decode cX10_lay 36 = .ok (.return_, 1) := by decide +kernel
theorem dX10_end_0 : decode cX10_end 0 = .ok (.iload_n 1, 1) := by decide +kernel
theorem dX10_end_1 : decode cX10_end 1 = .ok (.i2l, 1) := by decide +kernel
theorem dX10_end_2 : decode cX10_end 2 = .ok (.lconst 0, 1) := by decide +kernel
theorem dX10_end_3 : decode cX10_end 3 = .ok (.aload_n 0, 1) := by decide +kernel
theorem dX10_end_4 : decode cX10_end 4 = .ok (.getfield 93, 3) := by decide +kernel
theorem dX10_end_7 : decode cX10_end 7 = .ok (.i2l, 1) := by decide +kernel
theorem dX10_end_8 : decode cX10_end 8 = .ok (.invokestatic 81, 3) := by decide +kernel
theorem dX10_end_11 : decode cX10_end 11 = .ok (.ifCond .ne 5, 3) := by decide +kernel
theorem dX10_end_14 : decode cX10_end 14 = .ok (.iconst (-1), 1) := by decide +kernel
theorem dX10_end_15 : decode cX10_end 15 = .ok (.ireturn, 1) := by decide +kernel
theorem dX10_end_16 : decode cX10_end 16 = .ok (.aload_n 0, 1) := by decide +kernel
theorem dX10_end_17 : decode cX10_end 17 = .ok (.iload_n 1, 1) := by decide +kernel
theorem dX10_end_18 : decode cX10_end 18 = .ok (.putfield 93, 3) := by decide +kernel
theorem dX10_end_21 : decode cX10_end 21 = .ok (.iload_n 1, 1) := by decide +kernel
theorem dX10_end_22 : decode cX10_end 22 = .ok (.ireturn, 1) := by decide +kernel
theorem dX10_net_0 : decode cX10_net 0 = .ok (.iload_n 1, 1) := by decide +kernel
theorem dX10_net_1 : decode cX10_net 1 = .ok (.invokestatic 85, 3) := by decide +kernel
theorem dX10_net_4 : decode cX10_net 4 = .ok (.ifCond .eq 15, 3) := by decide +kernel
theorem dX10_net_7 : decode cX10_net 7 = .ok (.iload_n 2, 1) := by decide +kernel
theorem dX10_net_8 : decode cX10_net 8 = .ok (.i2l, 1) := by decide +kernel
theorem dX10_net_9 : decode cX10_net 9 = .ok (.lconst 1, 1) := by decide +kernel
theorem dX10_net_10 : decode cX10_net 10 = .ok (.ldc2_w 99, 3) := by decide +kernel
theorem dX10_net_13 : decode cX10_net 13 = .ok (.invokestatic 81, 3) := by decide +kernel
theorem dX10_net_16 : decode cX10_net 16 = .ok (.ifCond .ne 6, 3) := by decide +kernel
theorem dX10_net_19 : decode cX10_net 19 = .ok (.bipush (-2), 2) := by decide +kernel
theorem dX10_net_21 : decode cX10_net 21 = .ok (.ireturn, 1) := by decide +kernel
theorem dX10_net_22 : decode cX10_net 22 = .ok (.aload_n 0, 1) := by decide +kernel
theorem dX10_net_23 : decode cX10_net 23 = .ok (.iload_n 1, 1) := by decide +kernel
theorem dX10_net_24 : decode cX10_net 24 = .ok (.iload_n 2, 1) := by decide +kernel
theorem dX10_net_25 : decode cX10_net 25 = .ok (.iconst 0, 1) := by decide +kernel
theorem dX10_net_26 : decode cX10_net 26 = .ok (.invokevirtual 101, 3) := by decide +kernel
theorem dX10_net_29 : decode cX10_net 29 = .ok (.iload_n 2, 1) := by decide +kernel
theorem dX10_net_30 : decode cX10_net 30 = .ok (.ireturn, 1) := by decide +kernel
theorem dX10_mistake_0 : decode cX10_mistake 0 = .ok (.aload_n 0, 1) := by decide +kernel
theorem dX10_mistake_1 : decode cX10_mistake 1 = .ok (.iload_n 1, 1) := by decide +kernel
theorem dX10_mistake_2 : decode cX10_mistake 2 = .ok (.iload_n 2, 1) := by decide +kernel
theorem dX10_mistake_3 : decode cX10_mistake 3 = .ok (.invokevirtual 105, 3) := by decide +kernel
theorem dX10_mistake_6 : decode cX10_mistake 6 = .ok (.ifCond .eq 17, 3) := by decide +kernel
theorem dX10_mistake_9 : decode cX10_mistake 9 = .ok (.aload_n 0, 1) := by decide +kernel
theorem dX10_mistake_10 : decode cX10_mistake 10 = .ok (.iload_n 1, 1) := by decide +kernel
theorem dX10_mistake_11 : decode cX10_mistake 11 = .ok (.iload_n 3, 1) := by decide +kernel
theorem dX10_mistake_12 : decode cX10_mistake 12 = .ok (.invokevirtual 105, 3) := by decide +kernel
theorem dX10_mistake_15 : decode cX10_mistake 15 = .ok (.ifCond .eq 8, 3) := by decide +kernel
theorem dX10_mistake_18 : decode cX10_mistake 18 = .ok (.iload_n 2, 1) := by decide +kernel
theorem dX10_mistake_19 : decode cX10_mistake 19 = .ok (.iload_n 3, 1) := by decide +kernel
theorem dX10_mistake_20 : decode cX10_mistake 20 = .ok (.if_icmp .ne 6, 3) := by decide +kernel
theorem dX10_mistake_23 : decode cX10_mistake 23 = .ok (.bipush (-2), 2) := by decide +kernel
theorem dX10_mistake_25 : decode cX10_mistake 25 = .ok (.ireturn, 1) := by decide +kernel
theorem dX10_mistake_26 : decode cX10_mistake 26 = .ok (.aload_n 0, 1) := by decide +kernel
theorem dX10_mistake_27 : decode cX10_mistake 27 = .ok (.getfield 13, 3) := by decide +kernel
theorem dX10_mistake_30 : decode cX10_mistake 30 = .ok (.iload_n 1, 1) := by decide +kernel
theorem dX10_mistake_31 : decode cX10_mistake 31 = .ok (.iaload, 1) := by decide +kernel
theorem dX10_mistake_32 : decode cX10_mistake 32 = .ok (.ifCond .eq 6, 3) := by decide +kernel
theorem dX10_mistake_35 : decode cX10_mistake 35 = .ok (.bipush (-4), 2) := by decide +kernel
theorem dX10_mistake_37 : decode cX10_mistake 37 = .ok (.ireturn, 1) := by decide +kernel
theorem dX10_mistake_38 : decode cX10_mistake 38 = .ok (.aload_n 0, 1) := by decide +kernel
theorem dX10_mistake_39 : decode cX10_mistake 39 = .ok (.iload_n 1, 1) := by decide +kernel
theorem dX10_mistake_40 : decode cX10_mistake 40 = .ok (.iload_n 2, 1) := by decide +kernel
theorem dX10_mistake_41 : decode cX10_mistake 41 = .ok (.iload_n 3, 1) := by decide +kernel
theorem dX10_mistake_42 : decode cX10_mistake 42 = .ok (.invokevirtual 109, 3) := by decide +kernel
theorem dX10_mistake_45 : decode cX10_mistake 45 = .ok (.iload 4, 2) := by decide +kernel
theorem dX10_mistake_47 : decode cX10_mistake 47 = .ok (.if_icmp .ne 5, 3) := by decide +kernel
theorem dX10_mistake_50 : decode cX10_mistake 50 = .ok (.iconst 0, 1) := by decide +kernel
theorem dX10_mistake_51 : decode cX10_mistake 51 = .ok (.ireturn, 1) := by decide +kernel
theorem dX10_mistake_52 : decode cX10_mistake 52 = .ok (.aload_n 0, 1) := by decide +kernel
theorem dX10_mistake_53 : decode cX10_mistake 53 = .ok (.getfield 16, 3) := by decide +kernel
theorem dX10_mistake_56 : decode cX10_mistake 56 = .ok (.bipush 24, 2) := by decide +kernel
theorem dX10_mistake_58 : decode cX10_mistake 58 = .ok (.iload_n 1, 1) := by decide +kernel
theorem dX10_mistake_59 : decode cX10_mistake 59 = .ok (.imul, 1) := by decide +kernel
theorem dX10_mistake_60 : decode cX10_mistake 60 = .ok (.iload_n 2, 1) := by decide +kernel
theorem dX10_mistake_61 : decode cX10_mistake 61 = .ok (.iadd, 1) := by decide +kernel
theorem dX10_mistake_62 : decode cX10_mistake 62 = .ok (.dup2, 1) := by decide +kernel
theorem dX10_mistake_63 : decode cX10_mistake 63 = .ok (.iaload, 1) := by decide +kernel
theorem dX10_mistake_64 : decode cX10_mistake 64 = .ok (.iconst 1, 1) := by decide +kernel
theorem dX10_mistake_65 : decode cX10_mistake 65 = .ok (.iload_n 3, 1) := by decide +kernel
theorem dX10_mistake_66 : decode cX10_mistake 66 = .ok (.ishl, 1) := by decide +kernel
theorem dX10_mistake_67 : decode cX10_mistake 67 = .ok (.ixor, 1) := by decide +kernel
theorem dX10_mistake_68 : decode cX10_mistake 68 = .ok (.iastore, 1) := by decide +kernel
theorem dX10_mistake_69 : decode cX10_mistake 69 = .ok (.aload_n 0, 1) := by decide +kernel
theorem dX10_mistake_70 : decode cX10_mistake 70 = .ok (.getfield 16, 3) := by decide +kernel
theorem dX10_mistake_73 : decode cX10_mistake 73 = .ok (.bipush 24, 2) := by decide +kernel
theorem dX10_mistake_75 : decode cX10_mistake 75 = .ok (.iload_n 1, 1) := by decide +kernel
theorem dX10_mistake_76 : decode cX10_mistake 76 = .ok (.imul, 1) := by decide +kernel
theorem dX10_mistake_77 : decode cX10_mistake 77 = .ok (.iload_n 3, 1) := by decide +kernel
theorem dX10_mistake_78 : decode cX10_mistake 78 = .ok (.iadd, 1) := by decide +kernel
theorem dX10_mistake_79 : decode cX10_mistake 79 = .ok (.dup2, 1) := by decide +kernel
theorem dX10_mistake_80 : decode cX10_mistake 80 = .ok (.iaload, 1) := by decide +kernel
theorem dX10_mistake_81 : decode cX10_mistake 81 = .ok (.iconst 1, 1) := by decide +kernel
theorem dX10_mistake_82 : decode cX10_mistake 82 = .ok (.iload_n 2, 1) := by decide +kernel
theorem dX10_mistake_83 : decode cX10_mistake 83 = .ok (.ishl, 1) := by decide +kernel
theorem dX10_mistake_84 : decode cX10_mistake 84 = .ok (.ixor, 1) := by decide +kernel
theorem dX10_mistake_85 : decode cX10_mistake 85 = .ok (.iastore, 1) := by decide +kernel
theorem dX10_mistake_86 : decode cX10_mistake 86 = .ok (.aload_n 0, 1) := by decide +kernel
theorem dX10_mistake_87 : decode cX10_mistake 87 = .ok (.iload_n 1, 1) := by decide +kernel
theorem dX10_mistake_88 : decode cX10_mistake 88 = .ok (.invokevirtual 89, 3) := by decide +kernel
theorem dX10_mistake_91 : decode cX10_mistake 91 = .ok (.iconst 1, 1) := by decide +kernel
theorem dX10_mistake_92 : decode cX10_mistake 92 = .ok (.ireturn, 1) := by decide +kernel
theorem dX10_ring_0 : decode cX10_ring 0 = .ok (.iload_n 1, 1) := by decide +kernel
theorem dX10_ring_1 : decode cX10_ring 1 = .ok (.invokestatic 85, 3) := by decide +kernel
theorem dX10_ring_4 : decode cX10_ring 4 = .ok (.ifCond .eq 17, 3) := by decide +kernel
theorem dX10_ring_7 : decode cX10_ring 7 = .ok (.iload_n 2, 1) := by decide +kernel
theorem dX10_ring_8 : decode cX10_ring 8 = .ok (.i2l, 1) := by decide +kernel
theorem dX10_ring_9 : decode cX10_ring 9 = .ok (.ldc2_w 113, 3) := by decide +kernel
theorem dX10_ring_12 : decode cX10_ring 12 = .ok (.ldc2_w 99, 3) := by decide +kernel
theorem dX10_ring_15 : decode cX10_ring 15 = .ok (.invokestatic 81, 3) := by decide +kernel
theorem dX10_ring_18 : decode cX10_ring 18 = .ok (.ifCond .ne 6, 3) := by decide +kernel
theorem dX10_ring_21 : decode cX10_ring 21 = .ok (.bipush (-2), 2) := by decide +kernel
theorem dX10_ring_23 : decode cX10_ring 23 = .ok (.ireturn, 1) := by decide +kernel
theorem dX10_ring_24 : decode cX10_ring 24 = .ok (.aload_n 0, 1) := by decide +kernel
theorem dX10_ring_25 : decode cX10_ring 25 = .ok (.iload_n 1, 1) := by decide +kernel
theorem dX10_ring_26 : decode cX10_ring 26 = .ok (.iload_n 2, 1) := by decide +kernel
theorem dX10_ring_27 : decode cX10_ring 27 = .ok (.iconst 2, 1) := by decide +kernel
theorem dX10_ring_28 : decode cX10_ring 28 = .ok (.invokevirtual 101, 3) := by decide +kernel
theorem dX10_ring_31 : decode cX10_ring 31 = .ok (.iconst 0, 1) := by decide +kernel
theorem dX10_ring_32 : decode cX10_ring 32 = .ok (.istore_n 3, 1) := by decide +kernel
theorem dX10_ring_33 : decode cX10_ring 33 = .ok (.iload_n 3, 1) := by decide +kernel
theorem dX10_ring_34 : decode cX10_ring 34 = .ok (.iload_n 2, 1) := by decide +kernel
theorem dX10_ring_35 : decode cX10_ring 35 = .ok (.if_icmp .ge 20, 3) := by decide +kernel
theorem dX10_ring_38 : decode cX10_ring 38 = .ok (.aload_n 0, 1) := by decide +kernel
theorem dX10_ring_39 : decode cX10_ring 39 = .ok (.iload_n 1, 1) := by decide +kernel
theorem dX10_ring_40 : decode cX10_ring 40 = .ok (.iload_n 3, 1) := by decide +kernel
theorem dX10_ring_41 : decode cX10_ring 41 = .ok (.iload_n 3, 1) := by decide +kernel
theorem dX10_ring_42 : decode cX10_ring 42 = .ok (.iconst 1, 1) := by decide +kernel
theorem dX10_ring_43 : decode cX10_ring 43 = .ok (.iadd, 1) := by decide +kernel
theorem dX10_ring_44 : decode cX10_ring 44 = .ok (.iload_n 2, 1) := by decide +kernel
theorem dX10_ring_45 : decode cX10_ring 45 = .ok (.irem, 1) := by decide +kernel
theorem dX10_ring_46 : decode cX10_ring 46 = .ok (.invokevirtual 115, 3) := by decide +kernel
theorem dX10_ring_49 : decode cX10_ring 49 = .ok (.iinc 3 1, 3) := by decide +kernel
theorem dX10_ring_52 : decode cX10_ring 52 = .ok (.goto (-19), 3) := by decide +kernel
theorem dX10_ring_55 : decode cX10_ring 55 = .ok (.iload_n 2, 1) := by decide +kernel
theorem dX10_ring_56 : decode cX10_ring 56 = .ok (.ireturn, 1) := by decide +kernel
theorem dX10_wrong_0 : decode cX10_wrong 0 = .ok (.aload_n 0, 1) := by decide +kernel
theorem dX10_wrong_1 : decode cX10_wrong 1 = .ok (.iload_n 1, 1) := by decide +kernel
theorem dX10_wrong_2 : decode cX10_wrong 2 = .ok (.putfield 118, 3) := by decide +kernel
theorem dX10_wrong_5 : decode cX10_wrong 5 = .ok (.aload_n 0, 1) := by decide +kernel
theorem dX10_wrong_6 : decode cX10_wrong 6 = .ok (.iload_n 2, 1) := by decide +kernel
theorem dX10_wrong_7 : decode cX10_wrong 7 = .ok (.putfield 32, 3) := by decide +kernel
theorem dX10_wrong_10 : decode cX10_wrong 10 = .ok (.iconst (-1), 1) := by decide +kernel
theorem dX10_wrong_11 : decode cX10_wrong 11 = .ok (.ireturn, 1) := by decide +kernel
theorem dX10_told_0 : decode cX10_told 0 = .ok (.aload_n 0, 1) := by decide +kernel
theorem dX10_told_1 : decode cX10_told 1 = .ok (.getfield 93, 3) := by decide +kernel
theorem dX10_told_4 : decode cX10_told 4 = .ok (.istore_n 2, 1) := by decide +kernel
theorem dX10_told_5 : decode cX10_told 5 = .ok (.aload_n 0, 1) := by decide +kernel
theorem dX10_told_6 : decode cX10_told 6 = .ok (.iconst 0, 1) := by decide +kernel
theorem dX10_told_7 : decode cX10_told 7 = .ok (.putfield 93, 3) := by decide +kernel
theorem dX10_told_10 : decode cX10_told 10 = .ok (.iload_n 1, 1) := by decide +kernel
theorem dX10_told_11 : decode cX10_told 11 = .ok (.invokestatic 85, 3) := by decide +kernel
theorem dX10_told_14 : decode cX10_told 14 = .ok (.ifCond .ne 6, 3) := by decide +kernel
theorem dX10_told_17 : decode cX10_told 17 = .ok (.bipush (-2), 2) := by decide +kernel
theorem dX10_told_19 : decode cX10_told 19 = .ok (.ireturn, 1) := by decide +kernel
theorem dX10_told_20 : decode cX10_told 20 = .ok (.iconst 0, 1) := by decide +kernel
theorem dX10_told_21 : decode cX10_told 21 = .ok (.istore_n 3, 1) := by decide +kernel
theorem dX10_told_22 : decode cX10_told 22 = .ok (.iconst 0, 1) := by decide +kernel
theorem dX10_told_23 : decode cX10_told 23 = .ok (.istore 4, 2) := by decide +kernel
theorem dX10_told_25 : decode cX10_told 25 = .ok (.iconst 0, 1) := by decide +kernel
theorem dX10_told_26 : decode cX10_told 26 = .ok (.istore 5, 2) := by decide +kernel
theorem dX10_told_28 : decode cX10_told 28 = .ok (.iload 5, 2) := by decide +kernel
theorem dX10_told_30 : decode cX10_told 30 = .ok (.iload_n 2, 1) := by decide +kernel
theorem dX10_told_31 : decode cX10_told 31 = .ok (.if_icmp .ge 140, 3) := by decide +kernel
theorem dX10_told_34 : decode cX10_told 34 = .ok (.aload_n 0, 1) := by decide +kernel
theorem dX10_told_35 : decode cX10_told 35 = .ok (.getfield 28, 3) := by decide +kernel
theorem dX10_told_38 : decode cX10_told 38 = .ok (.iload 5, 2) := by decide +kernel
theorem dX10_told_40 : decode cX10_told 40 = .ok (.baload, 1) := by decide +kernel
theorem dX10_told_41 : decode cX10_told 41 = .ok (.istore 6, 2) := by decide +kernel
theorem dX10_told_43 : decode cX10_told 43 = .ok (.iload 6, 2) := by decide +kernel
theorem dX10_told_45 : decode cX10_told 45 = .ok (.bipush 32, 2) := by decide +kernel
theorem dX10_told_47 : decode cX10_told 47 = .ok (.if_icmp .eq 118, 3) := by decide +kernel
theorem dX10_told_50 : decode cX10_told 50 = .ok (.iload 6, 2) := by decide +kernel
theorem dX10_told_52 : decode cX10_told 52 = .ok (.bipush 10, 2) := by decide +kernel
theorem dX10_told_54 : decode cX10_told 54 = .ok (.if_icmp .ne 6, 3) := by decide +kernel
theorem dX10_told_57 : decode cX10_told 57 = .ok (.goto 108, 3) := by decide +kernel
theorem dX10_told_60 : decode cX10_told 60 = .ok (.iload 6, 2) := by decide +kernel
theorem dX10_told_62 : decode cX10_told 62 = .ok (.bipush 59, 2) := by decide +kernel
theorem dX10_told_64 : decode cX10_told 64 = .ok (.if_icmp .ne 47, 3) := by decide +kernel
theorem dX10_told_67 : decode cX10_told 67 = .ok (.iload 4, 2) := by decide +kernel
theorem dX10_told_69 : decode cX10_told 69 = .ok (.ifCond .ne 11, 3) := by decide +kernel
theorem dX10_told_72 : decode cX10_told 72 = .ok (.aload_n 0, 1) := by decide +kernel
theorem dX10_told_73 : decode cX10_told 73 = .ok (.iconst 2, 1) := by decide +kernel
theorem dX10_told_74 : decode cX10_told 74 = .ok (.iload 5, 2) := by decide +kernel
theorem dX10_told_76 : decode cX10_told 76 = .ok (.invokevirtual 121, 3) := by decide +kernel
theorem dX10_told_79 : decode cX10_told 79 = .ok (.ireturn, 1) := by decide +kernel
theorem dX10_told_80 : decode cX10_told 80 = .ok (.iload_n 3, 1) := by decide +kernel
theorem dX10_told_81 : decode cX10_told 81 = .ok (.bipush 23, 2) := by decide +kernel
theorem dX10_told_83 : decode cX10_told 83 = .ok (.if_icmp .ne 11, 3) := by decide +kernel
theorem dX10_told_86 : decode cX10_told 86 = .ok (.aload_n 0, 1) := by decide +kernel
theorem dX10_told_87 : decode cX10_told 87 = .ok (.iconst 3, 1) := by decide +kernel
theorem dX10_told_88 : decode cX10_told 88 = .ok (.iload 5, 2) := by decide +kernel
theorem dX10_told_90 : decode cX10_told 90 = .ok (.invokevirtual 121, 3) := by decide +kernel
theorem dX10_told_93 : decode cX10_told 93 = .ok (.ireturn, 1) := by decide +kernel
theorem dX10_told_94 : decode cX10_told 94 = .ok (.aload_n 0, 1) := by decide +kernel
theorem dX10_told_95 : decode cX10_told 95 = .ok (.getfield 36, 3) := by decide +kernel
theorem dX10_told_98 : decode cX10_told 98 = .ok (.iload_n 3, 1) := by decide +kernel
theorem dX10_told_99 : decode cX10_told 99 = .ok (.iload 4, 2) := by decide +kernel
theorem dX10_told_101 : decode cX10_told 101 = .ok (.iastore, 1) := by decide +kernel
theorem dX10_told_102 : decode cX10_told 102 = .ok (.iinc 3 1, 3) := by decide +kernel
theorem dX10_told_105 : decode cX10_told 105 = .ok (.iconst 0, 1) := by decide +kernel
theorem dX10_told_106 : decode cX10_told 106 = .ok (.istore 4, 2) := by decide +kernel
theorem dX10_told_108 : decode cX10_told 108 = .ok (.goto 57, 3) := by decide +kernel
theorem dX10_told_111 : decode cX10_told 111 = .ok (.iload 6, 2) := by decide +kernel
theorem dX10_told_113 : decode cX10_told 113 = .ok (.bipush 97, 2) := by decide +kernel
theorem dX10_told_115 : decode cX10_told 115 = .ok (.if_icmp .lt 10, 3) := by decide +kernel
theorem dX10_told_118 : decode cX10_told 118 = .ok (.iload 6, 2) := by decide +kernel
theorem dX10_told_120 : decode cX10_told 120 = .ok (.bipush 120, 2) := by decide +kernel
theorem dX10_told_122 : decode cX10_told 122 = .ok (.if_icmp .le 11, 3) := by decide +kernel
theorem dX10_told_125 : decode cX10_told 125 = .ok (.aload_n 0, 1) := by decide +kernel
theorem dX10_told_126 : decode cX10_told 126 = .ok (.iconst 1, 1) := by decide +kernel
theorem dX10_told_127 : decode cX10_told 127 = .ok (.iload 5, 2) := by decide +kernel
theorem dX10_told_129 : decode cX10_told 129 = .ok (.invokevirtual 121, 3) := by decide +kernel
theorem dX10_told_132 : decode cX10_told 132 = .ok (.ireturn, 1) := by decide +kernel
theorem dX10_told_133 : decode cX10_told 133 = .ok (.iconst 1, 1) := by decide +kernel
theorem dX10_told_134 : decode cX10_told 134 = .ok (.iload 6, 2) := by decide +kernel
theorem dX10_told_136 : decode cX10_told 136 = .ok (.bipush 97, 2) := by decide +kernel
theorem dX10_told_138 : decode cX10_told 138 = .ok (.isub, 1) := by decide +kernel
theorem dX10_told_139 : decode cX10_told 139 = .ok (.ishl, 1) := by decide +kernel
theorem dX10_told_140 : decode cX10_told 140 = .ok (.istore 7, 2) := by decide +kernel
theorem dX10_told_142 : decode cX10_told 142 = .ok (.iload 4, 2) := by decide +kernel
theorem dX10_told_144 : decode cX10_told 144 = .ok (.iload 7, 2) := by decide +kernel
theorem dX10_told_146 : decode cX10_told 146 = .ok (.iand, 1) := by decide +kernel
theorem dX10_told_147 : decode cX10_told 147 = .ok (.ifCond .eq 11, 3) := by decide +kernel
theorem dX10_told_150 : decode cX10_told 150 = .ok (.aload_n 0, 1) := by decide +kernel
theorem dX10_told_151 : decode cX10_told 151 = .ok (.iconst 4, 1) := by decide +kernel
theorem dX10_told_152 : decode cX10_told 152 = .ok (.iload 5, 2) := by decide +kernel
theorem dX10_told_154 : decode cX10_told 154 = .ok (.invokevirtual 121, 3) := by decide +kernel
theorem dX10_told_157 : decode cX10_told 157 = .ok (.ireturn, 1) := by decide +kernel
theorem dX10_told_158 : decode cX10_told 158 = .ok (.iload 4, 2) := by decide +kernel
theorem dX10_told_160 : decode cX10_told 160 = .ok (.iload 7, 2) := by decide +kernel
theorem dX10_told_162 : decode cX10_told 162 = .ok (.ior, 1) := by decide +kernel
theorem dX10_told_163 : decode cX10_told 163 = .ok (.istore 4, 2) := by decide +kernel
theorem dX10_told_165 : decode cX10_told 165 = .ok (.iinc 5 1, 3) := by decide +kernel
theorem dX10_told_168 : decode cX10_told 168 = .ok (.goto (-140), 3) := by decide +kernel
theorem dX10_told_171 : decode cX10_told 171 = .ok (.iload 4, 2) := by decide +kernel
theorem dX10_told_173 : decode cX10_told 173 = .ok (.ifCond .ne 10, 3) := by decide +kernel
theorem dX10_told_176 : decode cX10_told 176 = .ok (.aload_n 0, 1) := by decide +kernel
theorem dX10_told_177 : decode cX10_told 177 = .ok (.iconst 2, 1) := by decide +kernel
theorem dX10_told_178 : decode cX10_told 178 = .ok (.iload_n 2, 1) := by decide +kernel
theorem dX10_told_179 : decode cX10_told 179 = .ok (.invokevirtual 121, 3) := by decide +kernel
theorem dX10_told_182 : decode cX10_told 182 = .ok (.ireturn, 1) := by decide +kernel
theorem dX10_told_183 : decode cX10_told 183 = .ok (.aload_n 0, 1) := by decide +kernel
theorem dX10_told_184 : decode cX10_told 184 = .ok (.getfield 36, 3) := by decide +kernel
theorem dX10_told_187 : decode cX10_told 187 = .ok (.iload_n 3, 1) := by decide +kernel
theorem dX10_told_188 : decode cX10_told 188 = .ok (.iload 4, 2) := by decide +kernel
theorem dX10_told_190 : decode cX10_told 190 = .ok (.iastore, 1) := by decide +kernel
theorem dX10_told_191 : decode cX10_told 191 = .ok (.iinc 3 1, 3) := by decide +kernel
theorem dX10_told_194 : decode cX10_told 194 = .ok (.aload_n 0, 1) := by decide +kernel
theorem dX10_told_195 : decode cX10_told 195 = .ok (.iconst 0, 1) := by decide +kernel
theorem dX10_told_196 : decode cX10_told 196 = .ok (.iconst (-1), 1) := by decide +kernel
theorem dX10_told_197 : decode cX10_told 197 = .ok (.invokevirtual 121, 3) := by decide +kernel
theorem dX10_told_200 : decode cX10_told 200 = .ok (.istore 5, 2) := by decide +kernel
theorem dX10_told_202 : decode cX10_told 202 = .ok (.aload_n 0, 1) := by decide +kernel
theorem dX10_told_203 : decode cX10_told 203 = .ok (.iload_n 1, 1) := by decide +kernel
theorem dX10_told_204 : decode cX10_told 204 = .ok (.iload_n 3, 1) := by decide +kernel
theorem dX10_told_205 : decode cX10_told 205 = .ok (.iconst 1, 1) := by decide +kernel
theorem dX10_told_206 : decode cX10_told 206 = .ok (.invokevirtual 101, 3) := by decide +kernel
theorem dX10_told_209 : decode cX10_told 209 = .ok (.iconst 0, 1) := by decide +kernel
theorem dX10_told_210 : decode cX10_told 210 = .ok (.istore 6, 2) := by decide +kernel
theorem dX10_told_212 : decode cX10_told 212 = .ok (.iload 6, 2) := by decide +kernel
theorem dX10_told_214 : decode cX10_told 214 = .ok (.iload_n 3, 1) := by decide +kernel
theorem dX10_told_215 : decode cX10_told 215 = .ok (.if_icmp .ge 71, 3) := by decide +kernel
theorem dX10_told_218 : decode cX10_told 218 = .ok (.aload_n 0, 1) := by decide +kernel
theorem dX10_told_219 : decode cX10_told 219 = .ok (.getfield 19, 3) := by decide +kernel
theorem dX10_told_222 : decode cX10_told 222 = .ok (.bipush 24, 2) := by decide +kernel
theorem dX10_told_224 : decode cX10_told 224 = .ok (.iload_n 1, 1) := by decide +kernel
theorem dX10_told_225 : decode cX10_told 225 = .ok (.imul, 1) := by decide +kernel
theorem dX10_told_226 : decode cX10_told 226 = .ok (.iload 6, 2) := by decide +kernel
theorem dX10_told_228 : decode cX10_told 228 = .ok (.iadd, 1) := by decide +kernel
theorem dX10_told_229 : decode cX10_told 229 = .ok (.aload_n 0, 1) := by decide +kernel
theorem dX10_told_230 : decode cX10_told 230 = .ok (.getfield 36, 3) := by decide +kernel
theorem dX10_told_233 : decode cX10_told 233 = .ok (.iload 6, 2) := by decide +kernel
theorem dX10_told_235 : decode cX10_told 235 = .ok (.iaload, 1) := by decide +kernel
theorem dX10_told_236 : decode cX10_told 236 = .ok (.iastore, 1) := by decide +kernel
theorem dX10_told_237 : decode cX10_told 237 = .ok (.iconst 0, 1) := by decide +kernel
theorem dX10_told_238 : decode cX10_told 238 = .ok (.istore 7, 2) := by decide +kernel
theorem dX10_told_240 : decode cX10_told 240 = .ok (.iload 7, 2) := by decide +kernel
theorem dX10_told_242 : decode cX10_told 242 = .ok (.iload 6, 2) := by decide +kernel
theorem dX10_told_244 : decode cX10_told 244 = .ok (.if_icmp .ge 36, 3) := by decide +kernel
theorem dX10_told_247 : decode cX10_told 247 = .ok (.aload_n 0, 1) := by decide +kernel
theorem dX10_told_248 : decode cX10_told 248 = .ok (.getfield 36, 3) := by decide +kernel
theorem dX10_told_251 : decode cX10_told 251 = .ok (.iload 6, 2) := by decide +kernel
theorem dX10_told_253 : decode cX10_told 253 = .ok (.iaload, 1) := by decide +kernel
theorem dX10_told_254 : decode cX10_told 254 = .ok (.aload_n 0, 1) := by decide +kernel
theorem dX10_told_255 : decode cX10_told 255 = .ok (.getfield 36, 3) := by decide +kernel
theorem dX10_told_258 : decode cX10_told 258 = .ok (.iload 7, 2) := by decide +kernel
theorem dX10_told_260 : decode cX10_told 260 = .ok (.iaload, 1) := by decide +kernel
theorem dX10_told_261 : decode cX10_told 261 = .ok (.iand, 1) := by decide +kernel
theorem dX10_told_262 : decode cX10_told 262 = .ok (.ifCond .eq 12, 3) := by decide +kernel
theorem dX10_told_265 : decode cX10_told 265 = .ok (.aload_n 0, 1) := by decide +kernel
theorem dX10_told_266 : decode cX10_told 266 = .ok (.iload_n 1, 1) := by decide +kernel
theorem dX10_told_267 : decode cX10_told 267 = .ok (.iload 6, 2) := by decide +kernel
theorem dX10_told_269 : decode cX10_told 269 = .ok (.iload 7, 2) := by decide +kernel
theorem dX10_told_271 : decode cX10_told 271 = .ok (.invokevirtual 115, 3) := by decide +kernel
theorem dX10_told_274 : decode cX10_told 274 = .ok (.iinc 7 1, 3) := by decide +kernel
theorem dX10_told_277 : decode cX10_told 277 = .ok (.goto (-37), 3) := by decide +kernel
theorem dX10_told_280 : decode cX10_told 280 = .ok (.iinc 6 1, 3) := by decide +kernel
theorem dX10_told_283 : decode cX10_told 283 = .ok (.goto (-71), 3) := by decide +kernel
theorem dX10_told_286 : decode cX10_told 286 = .ok (.iload_n 3, 1) := by decide +kernel
theorem dX10_told_287 : decode cX10_told 287 = .ok (.ireturn, 1) := by decide +kernel
theorem dX10_fault_0 : decode cX10_fault 0 = .ok (.iload_n 1, 1) := by decide +kernel
theorem dX10_fault_1 : decode cX10_fault 1 = .ok (.ifCond .ne 10, 3) := by decide +kernel
theorem dX10_fault_4 : decode cX10_fault 4 = .ok (.aload_n 0, 1) := by decide +kernel
theorem dX10_fault_5 : decode cX10_fault 5 = .ok (.getfield 118, 3) := by decide +kernel
theorem dX10_fault_8 : decode cX10_fault 8 = .ok (.goto 16, 3) := by decide +kernel
theorem dX10_fault_11 : decode cX10_fault 11 = .ok (.iload_n 1, 1) := by decide +kernel
theorem dX10_fault_12 : decode cX10_fault 12 = .ok (.iconst 1, 1) := by decide +kernel
theorem dX10_fault_13 : decode cX10_fault 13 = .ok (.if_icmp .ne 10, 3) := by decide +kernel
theorem dX10_fault_16 : decode cX10_fault 16 = .ok (.aload_n 0, 1) := by decide +kernel
theorem dX10_fault_17 : decode cX10_fault 17 = .ok (.getfield 32, 3) := by decide +kernel
theorem dX10_fault_20 : decode cX10_fault 20 = .ok (.goto 4, 3) := by decide +kernel
theorem dX10_fault_23 : decode cX10_fault 23 = .ok (.iconst (-1), 1) := by decide +kernel
theorem dX10_fault_24 : decode cX10_fault 24 = .ok (.ireturn, 1) := by decide +kernel
theorem dX10_isLike_0 : decode cX10_isLike 0 = .ok (.iload_n 2, 1) := by decide +kernel
theorem dX10_isLike_1 : decode cX10_isLike 1 = .ok (.iload_n 3, 1) := by decide +kernel
theorem dX10_isLike_2 : decode cX10_isLike 2 = .ok (.if_icmp .eq 13, 3) := by decide +kernel
theorem dX10_isLike_5 : decode cX10_isLike 5 = .ok (.aload_n 0, 1) := by decide +kernel
theorem dX10_isLike_6 : decode cX10_isLike 6 = .ok (.iload_n 1, 1) := by decide +kernel
theorem dX10_isLike_7 : decode cX10_isLike 7 = .ok (.iload_n 2, 1) := by decide +kernel
theorem dX10_isLike_8 : decode cX10_isLike 8 = .ok (.iload_n 3, 1) := by decide +kernel
theorem dX10_isLike_9 : decode cX10_isLike 9 = .ok (.invokevirtual 109, 3) := by decide +kernel
theorem dX10_isLike_12 : decode cX10_isLike 12 = .ok (.ifCond .eq 7, 3) := by decide +kernel
theorem dX10_isLike_15 : decode cX10_isLike 15 = .ok (.iconst 1, 1) := by decide +kernel
theorem dX10_isLike_16 : decode cX10_isLike 16 = .ok (.goto 4, 3) := by decide +kernel
theorem dX10_isLike_19 : decode cX10_isLike 19 = .ok (.iconst 0, 1) := by decide +kernel
theorem dX10_isLike_20 : decode cX10_isLike 20 = .ok (.ireturn, 1) := by decide +kernel
theorem dX10_both_0 : decode cX10_both 0 = .ok (.iload_n 1, 1) := by decide +kernel
theorem dX10_both_1 : decode cX10_both 1 = .ok (.invokestatic 85, 3) := by decide +kernel
theorem dX10_both_4 : decode cX10_both 4 = .ok (.ifCond .eq 17, 3) := by decide +kernel
theorem dX10_both_7 : decode cX10_both 7 = .ok (.iload_n 2, 1) := by decide +kernel
theorem dX10_both_8 : decode cX10_both 8 = .ok (.invokestatic 85, 3) := by decide +kernel
theorem dX10_both_11 : decode cX10_both 11 = .ok (.ifCond .eq 10, 3) := by decide +kernel
theorem dX10_both_14 : decode cX10_both 14 = .ok (.iload_n 3, 1) := by decide +kernel
theorem dX10_both_15 : decode cX10_both 15 = .ok (.invokestatic 85, 3) := by decide +kernel
theorem dX10_both_18 : decode cX10_both 18 = .ok (.ifCond .ne 6, 3) := by decide +kernel
theorem dX10_both_21 : decode cX10_both 21 = .ok (.bipush (-2), 2) := by decide +kernel
theorem dX10_both_23 : decode cX10_both 23 = .ok (.ireturn, 1) := by decide +kernel
theorem dX10_both_24 : decode cX10_both 24 = .ok (.aload_n 0, 1) := by decide +kernel
theorem dX10_both_25 : decode cX10_both 25 = .ok (.getfield 9, 3) := by decide +kernel
theorem dX10_both_28 : decode cX10_both 28 = .ok (.iload_n 1, 1) := by decide +kernel
theorem dX10_both_29 : decode cX10_both 29 = .ok (.iaload, 1) := by decide +kernel
theorem dX10_both_30 : decode cX10_both 30 = .ok (.aload_n 0, 1) := by decide +kernel
theorem dX10_both_31 : decode cX10_both 31 = .ok (.getfield 9, 3) := by decide +kernel
theorem dX10_both_34 : decode cX10_both 34 = .ok (.iload_n 2, 1) := by decide +kernel
theorem dX10_both_35 : decode cX10_both 35 = .ok (.iaload, 1) := by decide +kernel
theorem dX10_both_36 : decode cX10_both 36 = .ok (.imul, 1) := by decide +kernel
theorem dX10_both_37 : decode cX10_both 37 = .ok (.istore 4, 2) := by decide +kernel
theorem dX10_both_39 : decode cX10_both 39 = .ok (.iload 4, 2) := by decide +kernel
theorem dX10_both_41 : decode cX10_both 41 = .ok (.bipush 24, 2) := by decide +kernel
theorem dX10_both_43 : decode cX10_both 43 = .ok (.if_icmp .le 6, 3) := by decide +kernel
theorem dX10_both_46 : decode cX10_both 46 = .ok (.bipush (-3), 2) := by decide +kernel
theorem dX10_both_48 : decode cX10_both 48 = .ok (.ireturn, 1) := by decide +kernel
theorem dX10_both_49 : decode cX10_both 49 = .ok (.iconst 0, 1) := by decide +kernel
theorem dX10_both_50 : decode cX10_both 50 = .ok (.istore 5, 2) := by decide +kernel
theorem dX10_both_52 : decode cX10_both 52 = .ok (.iload 5, 2) := by decide +kernel
theorem dX10_both_54 : decode cX10_both 54 = .ok (.iload 4, 2) := by decide +kernel
theorem dX10_both_56 : decode cX10_both 56 = .ok (.if_icmp .ge 106, 3) := by decide +kernel
theorem dX10_both_59 : decode cX10_both 59 = .ok (.aload_n 0, 1) := by decide +kernel
theorem dX10_both_60 : decode cX10_both 60 = .ok (.getfield 39, 3) := by decide +kernel
theorem dX10_both_63 : decode cX10_both 63 = .ok (.iload 5, 2) := by decide +kernel
theorem dX10_both_65 : decode cX10_both 65 = .ok (.iconst 0, 1) := by decide +kernel
theorem dX10_both_66 : decode cX10_both 66 = .ok (.iastore, 1) := by decide +kernel
theorem dX10_both_67 : decode cX10_both 67 = .ok (.iconst 0, 1) := by decide +kernel
theorem dX10_both_68 : decode cX10_both 68 = .ok (.istore 6, 2) := by decide +kernel
theorem dX10_both_70 : decode cX10_both 70 = .ok (.iload 6, 2) := by decide +kernel
theorem dX10_both_72 : decode cX10_both 72 = .ok (.iload 4, 2) := by decide +kernel
theorem dX10_both_74 : decode cX10_both 74 = .ok (.if_icmp .ge 82, 3) := by decide +kernel
theorem dX10_both_77 : decode cX10_both 77 = .ok (.iload 5, 2) := by decide +kernel
theorem dX10_both_79 : decode cX10_both 79 = .ok (.iload 6, 2) := by decide +kernel
theorem dX10_both_81 : decode cX10_both 81 = .ok (.if_icmp .eq 69, 3) := by decide +kernel
theorem dX10_both_84 : decode cX10_both 84 = .ok (.aload_n 0, 1) := by decide +kernel
theorem dX10_both_85 : decode cX10_both 85 = .ok (.iload_n 1, 1) := by decide +kernel
theorem dX10_both_86 : decode cX10_both 86 = .ok (.iload 5, 2) := by decide +kernel
theorem dX10_both_88 : decode cX10_both 88 = .ok (.aload_n 0, 1) := by decide +kernel
theorem dX10_both_89 : decode cX10_both 89 = .ok (.getfield 9, 3) := by decide +kernel
theorem dX10_both_92 : decode cX10_both 92 = .ok (.iload_n 2, 1) := by decide +kernel
theorem dX10_both_93 : decode cX10_both 93 = .ok (.iaload, 1) := by decide +kernel
theorem dX10_both_94 : decode cX10_both 94 = .ok (.idiv, 1) := by decide +kernel
theorem dX10_both_95 : decode cX10_both 95 = .ok (.iload 6, 2) := by decide +kernel
theorem dX10_both_97 : decode cX10_both 97 = .ok (.aload_n 0, 1) := by decide +kernel
theorem dX10_both_98 : decode cX10_both 98 = .ok (.getfield 9, 3) := by decide +kernel
theorem dX10_both_101 : decode cX10_both 101 = .ok (.iload_n 2, 1) := by decide +kernel
theorem dX10_both_102 : decode cX10_both 102 = .ok (.iaload, 1) := by decide +kernel
theorem dX10_both_103 : decode cX10_both 103 = .ok (.idiv, 1) := by decide +kernel
theorem dX10_both_104 : decode cX10_both 104 = .ok (.invokevirtual 125, 3) := by decide +kernel
theorem dX10_both_107 : decode cX10_both 107 = .ok (.ifCond .eq 43, 3) := by decide +kernel
theorem dX10_both_110 : decode cX10_both 110 = .ok (.aload_n 0, 1) := by decide +kernel
theorem dX10_both_111 : decode cX10_both 111 = .ok (.iload_n 2, 1) := by decide +kernel
theorem dX10_both_112 : decode cX10_both 112 = .ok (.iload 5, 2) := by decide +kernel
theorem dX10_both_114 : decode cX10_both 114 = .ok (.aload_n 0, 1) := by decide +kernel
theorem dX10_both_115 : decode cX10_both 115 = .ok (.getfield 9, 3) := by decide +kernel
theorem dX10_both_118 : decode cX10_both 118 = .ok (.iload_n 2, 1) := by decide +kernel
theorem dX10_both_119 : decode cX10_both 119 = .ok (.iaload, 1) := by decide +kernel
theorem dX10_both_120 : decode cX10_both 120 = .ok (.irem, 1) := by decide +kernel
theorem dX10_both_121 : decode cX10_both 121 = .ok (.iload 6, 2) := by decide +kernel
theorem dX10_both_123 : decode cX10_both 123 = .ok (.aload_n 0, 1) := by decide +kernel
theorem dX10_both_124 : decode cX10_both 124 = .ok (.getfield 9, 3) := by decide +kernel
theorem dX10_both_127 : decode cX10_both 127 = .ok (.iload_n 2, 1) := by decide +kernel
theorem dX10_both_128 : decode cX10_both 128 = .ok (.iaload, 1) := by decide +kernel
theorem dX10_both_129 : decode cX10_both 129 = .ok (.irem, 1) := by decide +kernel
theorem dX10_both_130 : decode cX10_both 130 = .ok (.invokevirtual 125, 3) := by decide +kernel
theorem dX10_both_133 : decode cX10_both 133 = .ok (.ifCond .eq 17, 3) := by decide +kernel
theorem dX10_both_136 : decode cX10_both 136 = .ok (.aload_n 0, 1) := by decide +kernel
theorem dX10_both_137 : decode cX10_both 137 = .ok (.getfield 39, 3) := by decide +kernel
theorem dX10_both_140 : decode cX10_both 140 = .ok (.iload 5, 2) := by decide +kernel
theorem dX10_both_142 : decode cX10_both 142 = .ok (.dup2, 1) := by decide +kernel
theorem dX10_both_143 : decode cX10_both 143 = .ok (.iaload, 1) := by decide +kernel
theorem dX10_both_144 : decode cX10_both 144 = .ok (.iconst 1, 1) := by decide +kernel
theorem dX10_both_145 : decode cX10_both 145 = .ok (.iload 6, 2) := by decide +kernel
theorem dX10_both_147 : decode cX10_both 147 = .ok (.ishl, 1) := by decide +kernel
theorem dX10_both_148 : decode cX10_both 148 = .ok (.ior, 1) := by decide +kernel
theorem dX10_both_149 : decode cX10_both 149 = .ok (.iastore, 1) := by decide +kernel
theorem dX10_both_150 : decode cX10_both 150 = .ok (.iinc 6 1, 3) := by decide +kernel
theorem dX10_both_153 : decode cX10_both 153 = .ok (.goto (-83), 3) := by decide +kernel
theorem dX10_both_156 : decode cX10_both 156 = .ok (.iinc 5 1, 3) := by decide +kernel
theorem dX10_both_159 : decode cX10_both 159 = .ok (.goto (-107), 3) := by decide +kernel
theorem dX10_both_162 : decode cX10_both 162 = .ok (.aload_n 0, 1) := by decide +kernel
theorem dX10_both_163 : decode cX10_both 163 = .ok (.iload_n 3, 1) := by decide +kernel
theorem dX10_both_164 : decode cX10_both 164 = .ok (.iload 4, 2) := by decide +kernel
theorem dX10_both_166 : decode cX10_both 166 = .ok (.invokevirtual 128, 3) := by decide +kernel
theorem dX10_both_169 : decode cX10_both 169 = .ok (.ireturn, 1) := by decide +kernel
theorem dX10_either_0 : decode cX10_either 0 = .ok (.iload_n 1, 1) := by decide +kernel
theorem dX10_either_1 : decode cX10_either 1 = .ok (.invokestatic 85, 3) := by decide +kernel
theorem dX10_either_4 : decode cX10_either 4 = .ok (.ifCond .eq 17, 3) := by decide +kernel
theorem dX10_either_7 : decode cX10_either 7 = .ok (.iload_n 2, 1) := by decide +kernel
theorem dX10_either_8 : decode cX10_either 8 = .ok (.invokestatic 85, 3) := by decide +kernel
theorem dX10_either_11 : decode cX10_either 11 = .ok (.ifCond .eq 10, 3) := by decide +kernel
theorem dX10_either_14 : decode cX10_either 14 = .ok (.iload_n 3, 1) := by decide +kernel
theorem dX10_either_15 : decode cX10_either 15 = .ok (.invokestatic 85, 3) := by decide +kernel
theorem dX10_either_18 : decode cX10_either 18 = .ok (.ifCond .ne 6, 3) := by decide +kernel
theorem dX10_either_21 : decode cX10_either 21 = .ok (.bipush (-2), 2) := by decide +kernel
theorem dX10_either_23 : decode cX10_either 23 = .ok (.ireturn, 1) := by decide +kernel
theorem dX10_either_24 : decode cX10_either 24 = .ok (.aload_n 0, 1) := by decide +kernel
theorem dX10_either_25 : decode cX10_either 25 = .ok (.getfield 9, 3) := by decide +kernel
theorem dX10_either_28 : decode cX10_either 28 = .ok (.iload_n 1, 1) := by decide +kernel
theorem dX10_either_29 : decode cX10_either 29 = .ok (.iaload, 1) := by decide +kernel
theorem dX10_either_30 : decode cX10_either 30 = .ok (.aload_n 0, 1) := by decide +kernel
theorem dX10_either_31 : decode cX10_either 31 = .ok (.getfield 9, 3) := by decide +kernel
theorem dX10_either_34 : decode cX10_either 34 = .ok (.iload_n 2, 1) := by decide +kernel
theorem dX10_either_35 : decode cX10_either 35 = .ok (.iaload, 1) := by decide +kernel
theorem dX10_either_36 : decode cX10_either 36 = .ok (.iadd, 1) := by decide +kernel
theorem dX10_either_37 : decode cX10_either 37 = .ok (.istore 4, 2) := by decide +kernel
theorem dX10_either_39 : decode cX10_either 39 = .ok (.iload 4, 2) := by decide +kernel
theorem dX10_either_41 : decode cX10_either 41 = .ok (.bipush 24, 2) := by decide +kernel
theorem dX10_either_43 : decode cX10_either 43 = .ok (.if_icmp .le 6, 3) := by decide +kernel
theorem dX10_either_46 : decode cX10_either 46 = .ok (.bipush (-3), 2) := by decide +kernel
theorem dX10_either_48 : decode cX10_either 48 = .ok (.ireturn, 1) := by decide +kernel
theorem dX10_either_49 : decode cX10_either 49 = .ok (.iconst 0, 1) := by decide +kernel
theorem dX10_either_50 : decode cX10_either 50 = .ok (.istore 5, 2) := by decide +kernel
theorem dX10_either_52 : decode cX10_either 52 = .ok (.iload 5, 2) := by decide +kernel
theorem dX10_either_54 : decode cX10_either 54 = .ok (.iload 4, 2) := by decide +kernel
theorem dX10_either_56 : decode cX10_either 56 = .ok (.if_icmp .ge 68, 3) := by decide +kernel
theorem dX10_either_59 : decode cX10_either 59 = .ok (.aload_n 0, 1) := by decide +kernel
theorem dX10_either_60 : decode cX10_either 60 = .ok (.getfield 39, 3) := by decide +kernel
theorem dX10_either_63 : decode cX10_either 63 = .ok (.iload 5, 2) := by decide +kernel
theorem dX10_either_65 : decode cX10_either 65 = .ok (.iload 5, 2) := by decide +kernel
theorem dX10_either_67 : decode cX10_either 67 = .ok (.aload_n 0, 1) := by decide +kernel
theorem dX10_either_68 : decode cX10_either 68 = .ok (.getfield 9, 3) := by decide +kernel
theorem dX10_either_71 : decode cX10_either 71 = .ok (.iload_n 1, 1) := by decide +kernel
theorem dX10_either_72 : decode cX10_either 72 = .ok (.iaload, 1) := by decide +kernel
theorem dX10_either_73 : decode cX10_either 73 = .ok (.if_icmp .ge 18, 3) := by decide +kernel
theorem dX10_either_76 : decode cX10_either 76 = .ok (.aload_n 0, 1) := by decide +kernel
theorem dX10_either_77 : decode cX10_either 77 = .ok (.getfield 16, 3) := by decide +kernel
theorem dX10_either_80 : decode cX10_either 80 = .ok (.bipush 24, 2) := by decide +kernel
theorem dX10_either_82 : decode cX10_either 82 = .ok (.iload_n 1, 1) := by decide +kernel
theorem dX10_either_83 : decode cX10_either 83 = .ok (.imul, 1) := by decide +kernel
theorem dX10_either_84 : decode cX10_either 84 = .ok (.iload 5, 2) := by decide +kernel
theorem dX10_either_86 : decode cX10_either 86 = .ok (.iadd, 1) := by decide +kernel
theorem dX10_either_87 : decode cX10_either 87 = .ok (.iaload, 1) := by decide +kernel
theorem dX10_either_88 : decode cX10_either 88 = .ok (.goto 29, 3) := by decide +kernel
theorem dX10_either_91 : decode cX10_either 91 = .ok (.aload_n 0, 1) := by decide +kernel
theorem dX10_either_92 : decode cX10_either 92 = .ok (.getfield 16, 3) := by decide +kernel
theorem dX10_either_95 : decode cX10_either 95 = .ok (.bipush 24, 2) := by decide +kernel
theorem dX10_either_97 : decode cX10_either 97 = .ok (.iload_n 2, 1) := by decide +kernel
theorem dX10_either_98 : decode cX10_either 98 = .ok (.imul, 1) := by decide +kernel
theorem dX10_either_99 : decode cX10_either 99 = .ok (.iload 5, 2) := by decide +kernel
theorem dX10_either_101 : decode cX10_either 101 = .ok (.iadd, 1) := by decide +kernel
theorem dX10_either_102 : decode cX10_either 102 = .ok (.aload_n 0, 1) := by decide +kernel
theorem dX10_either_103 : decode cX10_either 103 = .ok (.getfield 9, 3) := by decide +kernel
theorem dX10_either_106 : decode cX10_either 106 = .ok (.iload_n 1, 1) := by decide +kernel
theorem dX10_either_107 : decode cX10_either 107 = .ok (.iaload, 1) := by decide +kernel
theorem dX10_either_108 : decode cX10_either 108 = .ok (.isub, 1) := by decide +kernel
theorem dX10_either_109 : decode cX10_either 109 = .ok (.iaload, 1) := by decide +kernel
theorem dX10_either_110 : decode cX10_either 110 = .ok (.aload_n 0, 1) := by decide +kernel
theorem dX10_either_111 : decode cX10_either 111 = .ok (.getfield 9, 3) := by decide +kernel
theorem dX10_either_114 : decode cX10_either 114 = .ok (.iload_n 1, 1) := by decide +kernel
theorem dX10_either_115 : decode cX10_either 115 = .ok (.iaload, 1) := by decide +kernel
theorem dX10_either_116 : decode cX10_either 116 = .ok (.ishl, 1) := by decide +kernel
theorem dX10_either_117 : decode cX10_either 117 = .ok (.iastore, 1) := by decide +kernel
theorem dX10_either_118 : decode cX10_either 118 = .ok (.iinc 5 1, 3) := by decide +kernel
theorem dX10_either_121 : decode cX10_either 121 = .ok (.goto (-69), 3) := by decide +kernel
theorem dX10_either_124 : decode cX10_either 124 = .ok (.aload_n 0, 1) := by decide +kernel
theorem dX10_either_125 : decode cX10_either 125 = .ok (.iload_n 3, 1) := by decide +kernel
theorem dX10_either_126 : decode cX10_either 126 = .ok (.iload 4, 2) := by decide +kernel
theorem dX10_either_128 : decode cX10_either 128 = .ok (.invokevirtual 128, 3) := by decide +kernel
theorem dX10_either_131 : decode cX10_either 131 = .ok (.ireturn, 1) := by decide +kernel
theorem dX10_put_0 : decode cX10_put 0 = .ok (.aload_n 0, 1) := by decide +kernel
theorem dX10_put_1 : decode cX10_put 1 = .ok (.iload_n 1, 1) := by decide +kernel
theorem dX10_put_2 : decode cX10_put 2 = .ok (.iload_n 2, 1) := by decide +kernel
theorem dX10_put_3 : decode cX10_put 3 = .ok (.iconst 0, 1) := by decide +kernel
theorem dX10_put_4 : decode cX10_put 4 = .ok (.invokevirtual 101, 3) := by decide +kernel
theorem dX10_put_7 : decode cX10_put 7 = .ok (.iconst 0, 1) := by decide +kernel
theorem dX10_put_8 : decode cX10_put 8 = .ok (.istore_n 3, 1) := by decide +kernel
theorem dX10_put_9 : decode cX10_put 9 = .ok (.iload_n 3, 1) := by decide +kernel
theorem dX10_put_10 : decode cX10_put 10 = .ok (.iload_n 2, 1) := by decide +kernel
theorem dX10_put_11 : decode cX10_put 11 = .ok (.if_icmp .ge 26, 3) := by decide +kernel
theorem dX10_put_14 : decode cX10_put 14 = .ok (.aload_n 0, 1) := by decide +kernel
theorem dX10_put_15 : decode cX10_put 15 = .ok (.getfield 16, 3) := by decide +kernel
theorem dX10_put_18 : decode cX10_put 18 = .ok (.bipush 24, 2) := by decide +kernel
theorem dX10_put_20 : decode cX10_put 20 = .ok (.iload_n 1, 1) := by decide +kernel
theorem dX10_put_21 : decode cX10_put 21 = .ok (.imul, 1) := by decide +kernel
theorem dX10_put_22 : decode cX10_put 22 = .ok (.iload_n 3, 1) := by decide +kernel
theorem dX10_put_23 : decode cX10_put 23 = .ok (.iadd, 1) := by decide +kernel
theorem dX10_put_24 : decode cX10_put 24 = .ok (.aload_n 0, 1) := by decide +kernel
theorem dX10_put_25 : decode cX10_put 25 = .ok (.getfield 39, 3) := by decide +kernel
theorem dX10_put_28 : decode cX10_put 28 = .ok (.iload_n 3, 1) := by decide +kernel
theorem dX10_put_29 : decode cX10_put 29 = .ok (.iaload, 1) := by decide +kernel
theorem dX10_put_30 : decode cX10_put 30 = .ok (.iastore, 1) := by decide +kernel
theorem dX10_put_31 : decode cX10_put 31 = .ok (.iinc 3 1, 3) := by decide +kernel
theorem dX10_put_34 : decode cX10_put 34 = .ok (.goto (-25), 3) := by decide +kernel
theorem dX10_put_37 : decode cX10_put 37 = .ok (.iload_n 2, 1) := by decide +kernel
theorem dX10_put_38 : decode cX10_put 38 = .ok (.ireturn, 1) := by decide +kernel
theorem dX10_bits_0 : decode cX10_bits 0 = .ok (.iconst 0, 1) := by decide +kernel
theorem dX10_bits_1 : decode cX10_bits 1 = .ok (.istore_n 2, 1) := by decide +kernel
theorem dX10_bits_2 : decode cX10_bits 2 = .ok (.lload_n 0, 1) := by decide +kernel
theorem dX10_bits_3 : decode cX10_bits 3 = .ok (.lstore_n 3, 1) := by decide +kernel
theorem dX10_bits_4 : decode cX10_bits 4 = .ok (.lload_n 3, 1) := by decide +kernel
theorem dX10_bits_5 : decode cX10_bits 5 = .ok (.lconst 0, 1) := by decide +kernel
theorem dX10_bits_6 : decode cX10_bits 6 = .ok (.lcmp, 1) := by decide +kernel
theorem dX10_bits_7 : decode cX10_bits 7 = .ok (.ifCond .eq 15, 3) := by decide +kernel
theorem dX10_bits_10 : decode cX10_bits 10 = .ok (.iinc 2 1, 3) := by decide +kernel
theorem dX10_bits_13 : decode cX10_bits 13 = .ok (.lload_n 3, 1) := by decide +kernel
theorem dX10_bits_14 : decode cX10_bits 14 = .ok (.lload_n 3, 1) := by decide +kernel
theorem dX10_bits_15 : decode cX10_bits 15 = .ok (.lconst 1, 1) := by decide +kernel
theorem dX10_bits_16 : decode cX10_bits 16 = .ok (.lsub, 1) := by decide +kernel
theorem dX10_bits_17 : decode cX10_bits 17 = .ok (.land, 1) := by decide +kernel
theorem dX10_bits_18 : decode cX10_bits 18 = .ok (.lstore_n 3, 1) := by decide +kernel
theorem dX10_bits_19 : decode cX10_bits 19 = .ok (.goto (-15), 3) := by decide +kernel
theorem dX10_bits_22 : decode cX10_bits 22 = .ok (.iload_n 2, 1) := by decide +kernel
theorem dX10_bits_23 : decode cX10_bits 23 = .ok (.ireturn, 1) := by decide +kernel
theorem dX10_about_0 : decode cX10_about 0 = .ok (.iload_n 1, 1) := by decide +kernel
theorem dX10_about_1 : decode cX10_about 1 = .ok (.invokestatic 85, 3) := by decide +kernel
theorem dX10_about_4 : decode cX10_about 4 = .ok (.ifCond .ne 5, 3) := by decide +kernel
theorem dX10_about_7 : decode cX10_about 7 = .ok (.iconst (-1), 1) := by decide +kernel
theorem dX10_about_8 : decode cX10_about 8 = .ok (.ireturn, 1) := by decide +kernel
theorem dX10_about_9 : decode cX10_about 9 = .ok (.iload_n 2, 1) := by decide +kernel
theorem dX10_about_10 : decode cX10_about 10 = .ok (.i2l, 1) := by decide +kernel
theorem dX10_about_11 : decode cX10_about 11 = .ok (.ldc2_w 131, 3) := by decide +kernel
theorem dX10_about_14 : decode cX10_about 14 = .ok (.ldc2_w 133, 3) := by decide +kernel
theorem dX10_about_17 : decode cX10_about 17 = .ok (.aload_n 0, 1) := by decide +kernel
theorem dX10_about_18 : decode cX10_about 18 = .ok (.getfield 9, 3) := by decide +kernel
theorem dX10_about_21 : decode cX10_about 21 = .ok (.iload_n 1, 1) := by decide +kernel
theorem dX10_about_22 : decode cX10_about 22 = .ok (.iaload, 1) := by decide +kernel
theorem dX10_about_23 : decode cX10_about 23 = .ok (.i2l, 1) := by decide +kernel
theorem dX10_about_24 : decode cX10_about 24 = .ok (.ladd, 1) := by decide +kernel
theorem dX10_about_25 : decode cX10_about 25 = .ok (.invokestatic 81, 3) := by decide +kernel
theorem dX10_about_28 : decode cX10_about 28 = .ok (.ifCond .eq 18, 3) := by decide +kernel
theorem dX10_about_31 : decode cX10_about 31 = .ok (.aload_n 0, 1) := by decide +kernel
theorem dX10_about_32 : decode cX10_about 32 = .ok (.getfield 16, 3) := by decide +kernel
theorem dX10_about_35 : decode cX10_about 35 = .ok (.bipush 24, 2) := by decide +kernel
theorem dX10_about_37 : decode cX10_about 37 = .ok (.iload_n 1, 1) := by decide +kernel
theorem dX10_about_38 : decode cX10_about 38 = .ok (.imul, 1) := by decide +kernel
theorem dX10_about_39 : decode cX10_about 39 = .ok (.iload_n 2, 1) := by decide +kernel
theorem dX10_about_40 : decode cX10_about 40 = .ok (.iadd, 1) := by decide +kernel
theorem dX10_about_41 : decode cX10_about 41 = .ok (.bipush 10, 2) := by decide +kernel
theorem dX10_about_43 : decode cX10_about 43 = .ok (.isub, 1) := by decide +kernel
theorem dX10_about_44 : decode cX10_about 44 = .ok (.iaload, 1) := by decide +kernel
theorem dX10_about_45 : decode cX10_about 45 = .ok (.ireturn, 1) := by decide +kernel
theorem dX10_about_46 : decode cX10_about 46 = .ok (.iload_n 2, 1) := by decide +kernel
theorem dX10_about_47 : decode cX10_about 47 = .ok (.i2l, 1) := by decide +kernel
theorem dX10_about_48 : decode cX10_about 48 = .ok (.ldc2_w 135, 3) := by decide +kernel
theorem dX10_about_51 : decode cX10_about 51 = .ok (.ldc2_w 137, 3) := by decide +kernel
theorem dX10_about_54 : decode cX10_about 54 = .ok (.aload_n 0, 1) := by decide +kernel
theorem dX10_about_55 : decode cX10_about 55 = .ok (.getfield 9, 3) := by decide +kernel
theorem dX10_about_58 : decode cX10_about 58 = .ok (.iload_n 1, 1) := by decide +kernel
theorem dX10_about_59 : decode cX10_about 59 = .ok (.iaload, 1) := by decide +kernel
theorem dX10_about_60 : decode cX10_about 60 = .ok (.i2l, 1) := by decide +kernel
theorem dX10_about_61 : decode cX10_about 61 = .ok (.ladd, 1) := by decide +kernel
theorem dX10_about_62 : decode cX10_about 62 = .ok (.invokestatic 81, 3) := by decide +kernel
theorem dX10_about_65 : decode cX10_about 65 = .ok (.ifCond .eq 32, 3) := by decide +kernel
theorem dX10_about_68 : decode cX10_about 68 = .ok (.aload_n 0, 1) := by decide +kernel
theorem dX10_about_69 : decode cX10_about 69 = .ok (.getfield 13, 3) := by decide +kernel
theorem dX10_about_72 : decode cX10_about 72 = .ok (.iload_n 1, 1) := by decide +kernel
theorem dX10_about_73 : decode cX10_about 73 = .ok (.iaload, 1) := by decide +kernel
theorem dX10_about_74 : decode cX10_about 74 = .ok (.iconst 1, 1) := by decide +kernel
theorem dX10_about_75 : decode cX10_about 75 = .ok (.if_icmp .ne 20, 3) := by decide +kernel
theorem dX10_about_78 : decode cX10_about 78 = .ok (.aload_n 0, 1) := by decide +kernel
theorem dX10_about_79 : decode cX10_about 79 = .ok (.getfield 19, 3) := by decide +kernel
theorem dX10_about_82 : decode cX10_about 82 = .ok (.bipush 24, 2) := by decide +kernel
theorem dX10_about_84 : decode cX10_about 84 = .ok (.iload_n 1, 1) := by decide +kernel
theorem dX10_about_85 : decode cX10_about 85 = .ok (.imul, 1) := by decide +kernel
theorem dX10_about_86 : decode cX10_about 86 = .ok (.iload_n 2, 1) := by decide +kernel
theorem dX10_about_87 : decode cX10_about 87 = .ok (.iadd, 1) := by decide +kernel
theorem dX10_about_88 : decode cX10_about 88 = .ok (.bipush 40, 2) := by decide +kernel
theorem dX10_about_90 : decode cX10_about 90 = .ok (.isub, 1) := by decide +kernel
theorem dX10_about_91 : decode cX10_about 91 = .ok (.iaload, 1) := by decide +kernel
theorem dX10_about_92 : decode cX10_about 92 = .ok (.goto 4, 3) := by decide +kernel
theorem dX10_about_95 : decode cX10_about 95 = .ok (.iconst (-1), 1) := by decide +kernel
theorem dX10_about_96 : decode cX10_about 96 = .ok (.ireturn, 1) := by decide +kernel
theorem dX10_about_97 : decode cX10_about 97 = .ok (.iconst 0, 1) := by decide +kernel
theorem dX10_about_98 : decode cX10_about 98 = .ok (.istore_n 3, 1) := by decide +kernel
theorem dX10_about_99 : decode cX10_about 99 = .ok (.iconst 0, 1) := by decide +kernel
theorem dX10_about_100 : decode cX10_about 100 = .ok (.istore 4, 2) := by decide +kernel
theorem dX10_about_102 : decode cX10_about 102 = .ok (.iconst 0, 1) := by decide +kernel
theorem dX10_about_103 : decode cX10_about 103 = .ok (.istore 5, 2) := by decide +kernel
theorem dX10_about_105 : decode cX10_about 105 = .ok (.iload 5, 2) := by decide +kernel
theorem dX10_about_107 : decode cX10_about 107 = .ok (.aload_n 0, 1) := by decide +kernel
theorem dX10_about_108 : decode cX10_about 108 = .ok (.getfield 9, 3) := by decide +kernel
theorem dX10_about_111 : decode cX10_about 111 = .ok (.iload_n 1, 1) := by decide +kernel
theorem dX10_about_112 : decode cX10_about 112 = .ok (.iaload, 1) := by decide +kernel
theorem dX10_about_113 : decode cX10_about 113 = .ok (.if_icmp .ge 45, 3) := by decide +kernel
theorem dX10_about_116 : decode cX10_about 116 = .ok (.iload_n 3, 1) := by decide +kernel
theorem dX10_about_117 : decode cX10_about 117 = .ok (.aload_n 0, 1) := by decide +kernel
theorem dX10_about_118 : decode cX10_about 118 = .ok (.getfield 16, 3) := by decide +kernel
theorem dX10_about_121 : decode cX10_about 121 = .ok (.bipush 24, 2) := by decide +kernel
theorem dX10_about_123 : decode cX10_about 123 = .ok (.iload_n 1, 1) := by decide +kernel
theorem dX10_about_124 : decode cX10_about 124 = .ok (.imul, 1) := by decide +kernel
theorem dX10_about_125 : decode cX10_about 125 = .ok (.iload 5, 2) := by decide +kernel
theorem dX10_about_127 : decode cX10_about 127 = .ok (.iadd, 1) := by decide +kernel
theorem dX10_about_128 : decode cX10_about 128 = .ok (.iaload, 1) := by decide +kernel
theorem dX10_about_129 : decode cX10_about 129 = .ok (.i2l, 1) := by decide +kernel
theorem dX10_about_130 : decode cX10_about 130 = .ok (.invokestatic 139, 3) := by decide +kernel
theorem dX10_about_133 : decode cX10_about 133 = .ok (.iadd, 1) := by decide +kernel
theorem dX10_about_134 : decode cX10_about 134 = .ok (.istore_n 3, 1) := by decide +kernel
theorem dX10_about_135 : decode cX10_about 135 = .ok (.iload 4, 2) := by decide +kernel
theorem dX10_about_137 : decode cX10_about 137 = .ok (.aload_n 0, 1) := by decide +kernel
theorem dX10_about_138 : decode cX10_about 138 = .ok (.getfield 19, 3) := by decide +kernel
theorem dX10_about_141 : decode cX10_about 141 = .ok (.bipush 24, 2) := by decide +kernel
theorem dX10_about_143 : decode cX10_about 143 = .ok (.iload_n 1, 1) := by decide +kernel
theorem dX10_about_144 : decode cX10_about 144 = .ok (.imul, 1) := by decide +kernel
theorem dX10_about_145 : decode cX10_about 145 = .ok (.iload 5, 2) := by decide +kernel
theorem dX10_about_147 : decode cX10_about 147 = .ok (.iadd, 1) := by decide +kernel
theorem dX10_about_148 : decode cX10_about 148 = .ok (.iaload, 1) := by decide +kernel
theorem dX10_about_149 : decode cX10_about 149 = .ok (.ior, 1) := by decide +kernel
theorem dX10_about_150 : decode cX10_about 150 = .ok (.istore 4, 2) := by decide +kernel
theorem dX10_about_152 : decode cX10_about 152 = .ok (.iinc 5 1, 3) := by decide +kernel
theorem dX10_about_155 : decode cX10_about 155 = .ok (.goto (-50), 3) := by decide +kernel
theorem dX10_about_158 : decode cX10_about 158 = .ok (.iload_n 2, 1) := by decide +kernel
theorem dX10_about_159 : decode cX10_about 159 = .ok (.ifCond .ne 12, 3) := by decide +kernel
theorem dX10_about_162 : decode cX10_about 162 = .ok (.aload_n 0, 1) := by decide +kernel
theorem dX10_about_163 : decode cX10_about 163 = .ok (.getfield 9, 3) := by decide +kernel
theorem dX10_about_166 : decode cX10_about 166 = .ok (.iload_n 1, 1) := by decide +kernel
theorem dX10_about_167 : decode cX10_about 167 = .ok (.iaload, 1) := by decide +kernel
theorem dX10_about_168 : decode cX10_about 168 = .ok (.goto 43, 3) := by decide +kernel
theorem dX10_about_171 : decode cX10_about 171 = .ok (.iload_n 2, 1) := by decide +kernel
theorem dX10_about_172 : decode cX10_about 172 = .ok (.iconst 1, 1) := by decide +kernel
theorem dX10_about_173 : decode cX10_about 173 = .ok (.if_icmp .ne 12, 3) := by decide +kernel
theorem dX10_about_176 : decode cX10_about 176 = .ok (.aload_n 0, 1) := by decide +kernel
theorem dX10_about_177 : decode cX10_about 177 = .ok (.getfield 13, 3) := by decide +kernel
theorem dX10_about_180 : decode cX10_about 180 = .ok (.iload_n 1, 1) := by decide +kernel
theorem dX10_about_181 : decode cX10_about 181 = .ok (.iaload, 1) := by decide +kernel
theorem dX10_about_182 : decode cX10_about 182 = .ok (.goto 29, 3) := by decide +kernel
theorem dX10_about_185 : decode cX10_about 185 = .ok (.iload_n 2, 1) := by decide +kernel
theorem dX10_about_186 : decode cX10_about 186 = .ok (.iconst 3, 1) := by decide +kernel
theorem dX10_about_187 : decode cX10_about 187 = .ok (.if_icmp .ne 9, 3) := by decide +kernel
theorem dX10_about_190 : decode cX10_about 190 = .ok (.iload_n 3, 1) := by decide +kernel
theorem dX10_about_191 : decode cX10_about 191 = .ok (.iconst 2, 1) := by decide +kernel
theorem dX10_about_192 : decode cX10_about 192 = .ok (.idiv, 1) := by decide +kernel
theorem dX10_about_193 : decode cX10_about 193 = .ok (.goto 18, 3) := by decide +kernel
theorem dX10_about_196 : decode cX10_about 196 = .ok (.iload_n 2, 1) := by decide +kernel
theorem dX10_about_197 : decode cX10_about 197 = .ok (.iconst 4, 1) := by decide +kernel
theorem dX10_about_198 : decode cX10_about 198 = .ok (.if_icmp .ne 12, 3) := by decide +kernel
theorem dX10_about_201 : decode cX10_about 201 = .ok (.iload 4, 2) := by decide +kernel
theorem dX10_about_203 : decode cX10_about 203 = .ok (.i2l, 1) := by decide +kernel
theorem dX10_about_204 : decode cX10_about 204 = .ok (.invokestatic 139, 3) := by decide +kernel
theorem dX10_about_207 : decode cX10_about 207 = .ok (.goto 4, 3) := by decide +kernel
theorem dX10_about_210 : decode cX10_about 210 = .ok (.iconst (-1), 1) := by decide +kernel
theorem dX10_about_211 : decode cX10_about 211 = .ok (.ireturn, 1) := by decide +kernel
theorem dX10_power_0 : decode cX10_power 0 = .ok (.iconst 1, 1) := by decide +kernel
theorem dX10_power_1 : decode cX10_power 1 = .ok (.istore_n 2, 1) := by decide +kernel
theorem dX10_power_2 : decode cX10_power 2 = .ok (.iconst 0, 1) := by decide +kernel
theorem dX10_power_3 : decode cX10_power 3 = .ok (.istore_n 3, 1) := by decide +kernel
theorem dX10_power_4 : decode cX10_power 4 = .ok (.iload_n 3, 1) := by decide +kernel
theorem dX10_power_5 : decode cX10_power 5 = .ok (.iload_n 1, 1) := by decide +kernel
theorem dX10_power_6 : decode cX10_power 6 = .ok (.if_icmp .ge 13, 3) := by decide +kernel
theorem dX10_power_9 : decode cX10_power 9 = .ok (.iload_n 2, 1) := by decide +kernel
theorem dX10_power_10 : decode cX10_power 10 = .ok (.iload_n 0, 1) := by decide +kernel
theorem dX10_power_11 : decode cX10_power 11 = .ok (.imul, 1) := by decide +kernel
theorem dX10_power_12 : decode cX10_power 12 = .ok (.istore_n 2, 1) := by decide +kernel
theorem dX10_power_13 : decode cX10_power 13 = .ok (.iinc 3 1, 3) := by decide +kernel
theorem dX10_power_16 : decode cX10_power 16 = .ok (.goto (-12), 3) := by decide +kernel
theorem dX10_power_19 : decode cX10_power 19 = .ok (.iload_n 2, 1) := by decide +kernel
theorem dX10_power_20 : decode cX10_power 20 = .ok (.ireturn, 1) := by decide +kernel
theorem dX10_areTaken_0 : decode cX10_areTaken 0 = .ok (.iload_n 3, 1) := by decide +kernel
theorem dX10_areTaken_1 : decode cX10_areTaken 1 = .ok (.istore 5, 2) := by decide +kernel
theorem dX10_areTaken_3 : decode cX10_areTaken 3 = .ok (.iload 4, 2) := by decide +kernel
theorem dX10_areTaken_5 : decode cX10_areTaken 5 = .ok (.istore 6, 2) := by decide +kernel
theorem dX10_areTaken_7 : decode cX10_areTaken 7 = .ok (.iconst 0, 1) := by decide +kernel
theorem dX10_areTaken_8 : decode cX10_areTaken 8 = .ok (.istore 7, 2) := by decide +kernel
theorem dX10_areTaken_10 : decode cX10_areTaken 10 = .ok (.iload 7, 2) := by decide +kernel
theorem dX10_areTaken_12 : decode cX10_areTaken 12 = .ok (.iload_n 2, 1) := by decide +kernel
theorem dX10_areTaken_13 : decode cX10_areTaken 13 = .ok (.if_icmp .ge 59, 3) := by decide +kernel
theorem dX10_areTaken_16 : decode cX10_areTaken 16 = .ok (.aload_n 0, 1) := by decide +kernel
theorem dX10_areTaken_17 : decode cX10_areTaken 17 = .ok (.iload_n 1, 1) := by decide +kernel
theorem dX10_areTaken_18 : decode cX10_areTaken 18 = .ok (.iload 5, 2) := by decide +kernel
theorem dX10_areTaken_20 : decode cX10_areTaken 20 = .ok (.aload_n 0, 1) := by decide +kernel
theorem dX10_areTaken_21 : decode cX10_areTaken 21 = .ok (.getfield 9, 3) := by decide +kernel
theorem dX10_areTaken_24 : decode cX10_areTaken 24 = .ok (.iload_n 1, 1) := by decide +kernel
theorem dX10_areTaken_25 : decode cX10_areTaken 25 = .ok (.iaload, 1) := by decide +kernel
theorem dX10_areTaken_26 : decode cX10_areTaken 26 = .ok (.irem, 1) := by decide +kernel
theorem dX10_areTaken_27 : decode cX10_areTaken 27 = .ok (.iload 6, 2) := by decide +kernel
theorem dX10_areTaken_29 : decode cX10_areTaken 29 = .ok (.aload_n 0, 1) := by decide +kernel
theorem dX10_areTaken_30 : decode cX10_areTaken 30 = .ok (.getfield 9, 3) := by decide +kernel
theorem dX10_areTaken_33 : decode cX10_areTaken 33 = .ok (.iload_n 1, 1) := by decide +kernel
theorem dX10_areTaken_34 : decode cX10_areTaken 34 = .ok (.iaload, 1) := by decide +kernel
theorem dX10_areTaken_35 : decode cX10_areTaken 35 = .ok (.irem, 1) := by decide +kernel
theorem dX10_areTaken_36 : decode cX10_areTaken 36 = .ok (.invokevirtual 125, 3) := by decide +kernel
theorem dX10_areTaken_39 : decode cX10_areTaken 39 = .ok (.ifCond .ne 5, 3) := by decide +kernel
theorem dX10_areTaken_42 : decode cX10_areTaken 42 = .ok (.iconst 0, 1) := by decide +kernel
theorem dX10_areTaken_43 : decode cX10_areTaken 43 = .ok (.ireturn, 1) := by decide +kernel
theorem dX10_areTaken_44 : decode cX10_areTaken 44 = .ok (.iload 5, 2) := by decide +kernel
theorem dX10_areTaken_46 : decode cX10_areTaken 46 = .ok (.aload_n 0, 1) := by decide +kernel
theorem dX10_areTaken_47 : decode cX10_areTaken 47 = .ok (.getfield 9, 3) := by decide +kernel
theorem dX10_areTaken_50 : decode cX10_areTaken 50 = .ok (.iload_n 1, 1) := by decide +kernel
theorem dX10_areTaken_51 : decode cX10_areTaken 51 = .ok (.iaload, 1) := by decide +kernel
theorem dX10_areTaken_52 : decode cX10_areTaken 52 = .ok (.idiv, 1) := by decide +kernel
theorem dX10_areTaken_53 : decode cX10_areTaken 53 = .ok (.istore 5, 2) := by decide +kernel
theorem dX10_areTaken_55 : decode cX10_areTaken 55 = .ok (.iload 6, 2) := by decide +kernel
theorem dX10_areTaken_57 : decode cX10_areTaken 57 = .ok (.aload_n 0, 1) := by decide +kernel
theorem dX10_areTaken_58 : decode cX10_areTaken 58 = .ok (.getfield 9, 3) := by decide +kernel
theorem dX10_areTaken_61 : decode cX10_areTaken 61 = .ok (.iload_n 1, 1) := by decide +kernel
theorem dX10_areTaken_62 : decode cX10_areTaken 62 = .ok (.iaload, 1) := by decide +kernel
theorem dX10_areTaken_63 : decode cX10_areTaken 63 = .ok (.idiv, 1) := by decide +kernel
theorem dX10_areTaken_64 : decode cX10_areTaken 64 = .ok (.istore 6, 2) := by decide +kernel
theorem dX10_areTaken_66 : decode cX10_areTaken 66 = .ok (.iinc 7 1, 3) := by decide +kernel
theorem dX10_areTaken_69 : decode cX10_areTaken 69 = .ok (.goto (-59), 3) := by decide +kernel
theorem dX10_areTaken_72 : decode cX10_areTaken 72 = .ok (.iconst 1, 1) := by decide +kernel
theorem dX10_areTaken_73 : decode cX10_areTaken 73 = .ok (.ireturn, 1) := by decide +kernel
theorem dX10_taken_0 : decode cX10_taken 0 = .ok (.iload_n 1, 1) := by decide +kernel
theorem dX10_taken_1 : decode cX10_taken 1 = .ok (.invokestatic 85, 3) := by decide +kernel
theorem dX10_taken_4 : decode cX10_taken 4 = .ok (.ifCond .eq 21, 3) := by decide +kernel
theorem dX10_taken_7 : decode cX10_taken 7 = .ok (.iload_n 2, 1) := by decide +kernel
theorem dX10_taken_8 : decode cX10_taken 8 = .ok (.i2l, 1) := by decide +kernel
theorem dX10_taken_9 : decode cX10_taken 9 = .ok (.lconst 1, 1) := by decide +kernel
theorem dX10_taken_10 : decode cX10_taken 10 = .ok (.ldc2_w 143, 3) := by decide +kernel
theorem dX10_taken_13 : decode cX10_taken 13 = .ok (.invokestatic 81, 3) := by decide +kernel
theorem dX10_taken_16 : decode cX10_taken 16 = .ok (.ifCond .eq 9, 3) := by decide +kernel
theorem dX10_taken_19 : decode cX10_taken 19 = .ok (.iload_n 3, 1) := by decide +kernel
theorem dX10_taken_20 : decode cX10_taken 20 = .ok (.iload 4, 2) := by decide +kernel
theorem dX10_taken_22 : decode cX10_taken 22 = .ok (.if_icmp .ne 6, 3) := by decide +kernel
theorem dX10_taken_25 : decode cX10_taken 25 = .ok (.bipush (-2), 2) := by decide +kernel
theorem dX10_taken_27 : decode cX10_taken 27 = .ok (.ireturn, 1) := by decide +kernel
theorem dX10_taken_28 : decode cX10_taken 28 = .ok (.aload_n 0, 1) := by decide +kernel
theorem dX10_taken_29 : decode cX10_taken 29 = .ok (.getfield 9, 3) := by decide +kernel
theorem dX10_taken_32 : decode cX10_taken 32 = .ok (.iload_n 1, 1) := by decide +kernel
theorem dX10_taken_33 : decode cX10_taken 33 = .ok (.iaload, 1) := by decide +kernel
theorem dX10_taken_34 : decode cX10_taken 34 = .ok (.iload_n 2, 1) := by decide +kernel
theorem dX10_taken_35 : decode cX10_taken 35 = .ok (.invokestatic 145, 3) := by decide +kernel
theorem dX10_taken_38 : decode cX10_taken 38 = .ok (.istore 5, 2) := by decide +kernel
theorem dX10_taken_40 : decode cX10_taken 40 = .ok (.iload_n 3, 1) := by decide +kernel
theorem dX10_taken_41 : decode cX10_taken 41 = .ok (.i2l, 1) := by decide +kernel
theorem dX10_taken_42 : decode cX10_taken 42 = .ok (.lconst 0, 1) := by decide +kernel
theorem dX10_taken_43 : decode cX10_taken 43 = .ok (.iload 5, 2) := by decide +kernel
theorem dX10_taken_45 : decode cX10_taken 45 = .ok (.i2l, 1) := by decide +kernel
theorem dX10_taken_46 : decode cX10_taken 46 = .ok (.lconst 1, 1) := by decide +kernel
theorem dX10_taken_47 : decode cX10_taken 47 = .ok (.lsub, 1) := by decide +kernel
theorem dX10_taken_48 : decode cX10_taken 48 = .ok (.invokestatic 81, 3) := by decide +kernel
theorem dX10_taken_51 : decode cX10_taken 51 = .ok (.ifCond .eq 18, 3) := by decide +kernel
theorem dX10_taken_54 : decode cX10_taken 54 = .ok (.iload 4, 2) := by decide +kernel
theorem dX10_taken_56 : decode cX10_taken 56 = .ok (.i2l, 1) := by decide +kernel
theorem dX10_taken_57 : decode cX10_taken 57 = .ok (.lconst 0, 1) := by decide +kernel
theorem dX10_taken_58 : decode cX10_taken 58 = .ok (.iload 5, 2) := by decide +kernel
theorem dX10_taken_60 : decode cX10_taken 60 = .ok (.i2l, 1) := by decide +kernel
theorem dX10_taken_61 : decode cX10_taken 61 = .ok (.lconst 1, 1) := by decide +kernel
theorem dX10_taken_62 : decode cX10_taken 62 = .ok (.lsub, 1) := by decide +kernel
theorem dX10_taken_63 : decode cX10_taken 63 = .ok (.invokestatic 81, 3) := by decide +kernel
theorem dX10_taken_66 : decode cX10_taken 66 = .ok (.ifCond .ne 8, 3) := by decide +kernel
theorem dX10_taken_69 : decode cX10_taken 69 = .ok (.bipush (-2), 2) := by decide +kernel
theorem dX10_taken_71 : decode cX10_taken 71 = .ok (.goto 20, 3) := by decide +kernel
theorem dX10_taken_74 : decode cX10_taken 74 = .ok (.aload_n 0, 1) := by decide +kernel
theorem dX10_taken_75 : decode cX10_taken 75 = .ok (.iload_n 1, 1) := by decide +kernel
theorem dX10_taken_76 : decode cX10_taken 76 = .ok (.iload_n 2, 1) := by decide +kernel
theorem dX10_taken_77 : decode cX10_taken 77 = .ok (.iload_n 3, 1) := by decide +kernel
theorem dX10_taken_78 : decode cX10_taken 78 = .ok (.iload 4, 2) := by decide +kernel
theorem dX10_taken_80 : decode cX10_taken 80 = .ok (.invokevirtual 148, 3) := by decide +kernel
theorem dX10_taken_83 : decode cX10_taken 83 = .ok (.ifCond .eq 7, 3) := by decide +kernel
theorem dX10_taken_86 : decode cX10_taken 86 = .ok (.iconst 1, 1) := by decide +kernel
theorem dX10_taken_87 : decode cX10_taken 87 = .ok (.goto 4, 3) := by decide +kernel
theorem dX10_taken_90 : decode cX10_taken 90 = .ok (.iconst 0, 1) := by decide +kernel
theorem dX10_taken_91 : decode cX10_taken 91 = .ok (.ireturn, 1) := by decide +kernel
theorem dX10_spell_0 : decode cX10_spell 0 = .ok (.lconst 1, 1) := by decide +kernel
theorem dX10_spell_1 : decode cX10_spell 1 = .ok (.lstore 4, 2) := by decide +kernel
theorem dX10_spell_3 : decode cX10_spell 3 = .ok (.iconst 0, 1) := by decide +kernel
theorem dX10_spell_4 : decode cX10_spell 4 = .ok (.istore 6, 2) := by decide +kernel
theorem dX10_spell_6 : decode cX10_spell 6 = .ok (.iload 6, 2) := by decide +kernel
theorem dX10_spell_8 : decode cX10_spell 8 = .ok (.iload_n 2, 1) := by decide +kernel
theorem dX10_spell_9 : decode cX10_spell 9 = .ok (.if_icmp .ge 29, 3) := by decide +kernel
theorem dX10_spell_12 : decode cX10_spell 12 = .ok (.lload 4, 2) := by decide +kernel
theorem dX10_spell_14 : decode cX10_spell 14 = .ok (.iload_n 3, 1) := by decide +kernel
theorem dX10_spell_15 : decode cX10_spell 15 = .ok (.i2l, 1) := by decide +kernel
theorem dX10_spell_16 : decode cX10_spell 16 = .ok (.lcmp, 1) := by decide +kernel
theorem dX10_spell_17 : decode cX10_spell 17 = .ok (.ifCond .gt 21, 3) := by decide +kernel
theorem dX10_spell_20 : decode cX10_spell 20 = .ok (.lload 4, 2) := by decide +kernel
theorem dX10_spell_22 : decode cX10_spell 22 = .ok (.aload_n 0, 1) := by decide +kernel
theorem dX10_spell_23 : decode cX10_spell 23 = .ok (.getfield 9, 3) := by decide +kernel
theorem dX10_spell_26 : decode cX10_spell 26 = .ok (.iload_n 1, 1) := by decide +kernel
theorem dX10_spell_27 : decode cX10_spell 27 = .ok (.iaload, 1) := by decide +kernel
theorem dX10_spell_28 : decode cX10_spell 28 = .ok (.i2l, 1) := by decide +kernel
theorem dX10_spell_29 : decode cX10_spell 29 = .ok (.lmul, 1) := by decide +kernel
theorem dX10_spell_30 : decode cX10_spell 30 = .ok (.lstore 4, 2) := by decide +kernel
theorem dX10_spell_32 : decode cX10_spell 32 = .ok (.iinc 6 1, 3) := by decide +kernel
theorem dX10_spell_35 : decode cX10_spell 35 = .ok (.goto (-29), 3) := by decide +kernel
theorem dX10_spell_38 : decode cX10_spell 38 = .ok (.lload 4, 2) := by decide +kernel
theorem dX10_spell_40 : decode cX10_spell 40 = .ok (.iload_n 3, 1) := by decide +kernel
theorem dX10_spell_41 : decode cX10_spell 41 = .ok (.i2l, 1) := by decide +kernel
theorem dX10_spell_42 : decode cX10_spell 42 = .ok (.lcmp, 1) := by decide +kernel
theorem dX10_spell_43 : decode cX10_spell 43 = .ok (.ifCond .le 5, 3) := by decide +kernel
theorem dX10_spell_46 : decode cX10_spell 46 = .ok (.iconst 0, 1) := by decide +kernel
theorem dX10_spell_47 : decode cX10_spell 47 = .ok (.ireturn, 1) := by decide +kernel
theorem dX10_spell_48 : decode cX10_spell 48 = .ok (.aload_n 0, 1) := by decide +kernel
theorem dX10_spell_49 : decode cX10_spell 49 = .ok (.lload 4, 2) := by decide +kernel
theorem dX10_spell_51 : decode cX10_spell 51 = .ok (.l2i, 1) := by decide +kernel
theorem dX10_spell_52 : decode cX10_spell 52 = .ok (.putfield 152, 3) := by decide +kernel
theorem dX10_spell_55 : decode cX10_spell 55 = .ok (.iconst 0, 1) := by decide +kernel
theorem dX10_spell_56 : decode cX10_spell 56 = .ok (.istore 6, 2) := by decide +kernel
theorem dX10_spell_58 : decode cX10_spell 58 = .ok (.iload 6, 2) := by decide +kernel
theorem dX10_spell_60 : decode cX10_spell 60 = .ok (.aload_n 0, 1) := by decide +kernel
theorem dX10_spell_61 : decode cX10_spell 61 = .ok (.getfield 152, 3) := by decide +kernel
theorem dX10_spell_64 : decode cX10_spell 64 = .ok (.if_icmp .ge 69, 3) := by decide +kernel
theorem dX10_spell_67 : decode cX10_spell 67 = .ok (.aload_n 0, 1) := by decide +kernel
theorem dX10_spell_68 : decode cX10_spell 68 = .ok (.getfield 42, 3) := by decide +kernel
theorem dX10_spell_71 : decode cX10_spell 71 = .ok (.iload 6, 2) := by decide +kernel
theorem dX10_spell_73 : decode cX10_spell 73 = .ok (.lconst 0, 1) := by decide +kernel
theorem dX10_spell_74 : decode cX10_spell 74 = .ok (.lastore, 1) := by decide +kernel
theorem dX10_spell_75 : decode cX10_spell 75 = .ok (.iconst 0, 1) := by decide +kernel
theorem dX10_spell_76 : decode cX10_spell 76 = .ok (.istore 7, 2) := by decide +kernel
theorem dX10_spell_78 : decode cX10_spell 78 = .ok (.iload 7, 2) := by decide +kernel
theorem dX10_spell_80 : decode cX10_spell 80 = .ok (.aload_n 0, 1) := by decide +kernel
theorem dX10_spell_81 : decode cX10_spell 81 = .ok (.getfield 152, 3) := by decide +kernel
theorem dX10_spell_84 : decode cX10_spell 84 = .ok (.if_icmp .ge 43, 3) := by decide +kernel
theorem dX10_spell_87 : decode cX10_spell 87 = .ok (.iload 6, 2) := by decide +kernel
theorem dX10_spell_89 : decode cX10_spell 89 = .ok (.iload 7, 2) := by decide +kernel
theorem dX10_spell_91 : decode cX10_spell 91 = .ok (.if_icmp .eq 30, 3) := by decide +kernel
theorem dX10_spell_94 : decode cX10_spell 94 = .ok (.aload_n 0, 1) := by decide +kernel
theorem dX10_spell_95 : decode cX10_spell 95 = .ok (.iload_n 1, 1) := by decide +kernel
theorem dX10_spell_96 : decode cX10_spell 96 = .ok (.iload_n 2, 1) := by decide +kernel
theorem dX10_spell_97 : decode cX10_spell 97 = .ok (.iload 6, 2) := by decide +kernel
theorem dX10_spell_99 : decode cX10_spell 99 = .ok (.iload 7, 2) := by decide +kernel
theorem dX10_spell_101 : decode cX10_spell 101 = .ok (.invokevirtual 148, 3) := by decide +kernel
theorem dX10_spell_104 : decode cX10_spell 104 = .ok (.ifCond .eq 17, 3) := by decide +kernel
theorem dX10_spell_107 : decode cX10_spell 107 = .ok (.aload_n 0, 1) := by decide +kernel
theorem dX10_spell_108 : decode cX10_spell 108 = .ok (.getfield 42, 3) := by decide +kernel
theorem dX10_spell_111 : decode cX10_spell 111 = .ok (.iload 6, 2) := by decide +kernel
theorem dX10_spell_113 : decode cX10_spell 113 = .ok (.dup2, 1) := by decide +kernel
theorem dX10_spell_114 : decode cX10_spell 114 = .ok (.laload, 1) := by decide +kernel
theorem dX10_spell_115 : decode cX10_spell 115 = .ok (.lconst 1, 1) := by decide +kernel
theorem dX10_spell_116 : decode cX10_spell 116 = .ok (.iload 7, 2) := by decide +kernel
theorem dX10_spell_118 : decode cX10_spell 118 = .ok (.lshl, 1) := by decide +kernel
theorem dX10_spell_119 : decode cX10_spell 119 = .ok (.lor, 1) := by decide +kernel
theorem dX10_spell_120 : decode cX10_spell 120 = .ok (.lastore, 1) := by decide +kernel
theorem dX10_spell_121 : decode cX10_spell 121 = .ok (.iinc 7 1, 3) := by decide +kernel
theorem dX10_spell_124 : decode cX10_spell 124 = .ok (.goto (-46), 3) := by decide +kernel
theorem dX10_spell_127 : decode cX10_spell 127 = .ok (.iinc 6 1, 3) := by decide +kernel
theorem dX10_spell_130 : decode cX10_spell 130 = .ok (.goto (-72), 3) := by decide +kernel
theorem dX10_spell_133 : decode cX10_spell 133 = .ok (.iconst 1, 1) := by decide +kernel
theorem dX10_spell_134 : decode cX10_spell 134 = .ok (.ireturn, 1) := by decide +kernel
theorem dX10_all_0 : decode cX10_all 0 = .ok (.aload_n 0, 1) := by decide +kernel
theorem dX10_all_1 : decode cX10_all 1 = .ok (.getfield 152, 3) := by decide +kernel
theorem dX10_all_4 : decode cX10_all 4 = .ok (.bipush 64, 2) := by decide +kernel
theorem dX10_all_6 : decode cX10_all 6 = .ok (.if_icmp .ne 9, 3) := by decide +kernel
theorem dX10_all_9 : decode cX10_all 9 = .ok (.ldc2_w 155, 3) := by decide +kernel
theorem dX10_all_12 : decode cX10_all 12 = .ok (.goto 11, 3) := by decide +kernel
theorem dX10_all_15 : decode cX10_all 15 = .ok (.lconst 1, 1) := by decide +kernel
theorem dX10_all_16 : decode cX10_all 16 = .ok (.aload_n 0, 1) := by decide +kernel
theorem dX10_all_17 : decode cX10_all 17 = .ok (.getfield 152, 3) := by decide +kernel
theorem dX10_all_20 : decode cX10_all 20 = .ok (.lshl, 1) := by decide +kernel
theorem dX10_all_21 : decode cX10_all 21 = .ok (.lconst 1, 1) := by decide +kernel
theorem dX10_all_22 : decode cX10_all 22 = .ok (.lsub, 1) := by decide +kernel
theorem dX10_all_23 : decode cX10_all 23 = .ok (.lreturn, 1) := by decide +kernel
theorem dX10_lowest_0 : decode cX10_lowest 0 = .ok (.lload_n 0, 1) := by decide +kernel
theorem dX10_lowest_1 : decode cX10_lowest 1 = .ok (.lstore_n 2, 1) := by decide +kernel
theorem dX10_lowest_2 : decode cX10_lowest 2 = .ok (.iconst 0, 1) := by decide +kernel
theorem dX10_lowest_3 : decode cX10_lowest 3 = .ok (.istore 4, 2) := by decide +kernel
theorem dX10_lowest_5 : decode cX10_lowest 5 = .ok (.bipush 32, 2) := by decide +kernel
theorem dX10_lowest_7 : decode cX10_lowest 7 = .ok (.istore 5, 2) := by decide +kernel
theorem dX10_lowest_9 : decode cX10_lowest 9 = .ok (.iload 5, 2) := by decide +kernel
theorem dX10_lowest_11 : decode cX10_lowest 11 = .ok (.ifCond .le 40, 3) := by decide +kernel
theorem dX10_lowest_14 : decode cX10_lowest 14 = .ok (.lload_n 2, 1) := by decide +kernel
theorem dX10_lowest_15 : decode cX10_lowest 15 = .ok (.lconst 1, 1) := by decide +kernel
theorem dX10_lowest_16 : decode cX10_lowest 16 = .ok (.iload 5, 2) := by decide +kernel
theorem dX10_lowest_18 : decode cX10_lowest 18 = .ok (.lshl, 1) := by decide +kernel
theorem dX10_lowest_19 : decode cX10_lowest 19 = .ok (.lconst 1, 1) := by decide +kernel
theorem dX10_lowest_20 : decode cX10_lowest 20 = .ok (.lsub, 1) := by decide +kernel
theorem dX10_lowest_21 : decode cX10_lowest 21 = .ok (.land, 1) := by decide +kernel
theorem dX10_lowest_22 : decode cX10_lowest 22 = .ok (.lconst 0, 1) := by decide +kernel
theorem dX10_lowest_23 : decode cX10_lowest 23 = .ok (.lcmp, 1) := by decide +kernel
theorem dX10_lowest_24 : decode cX10_lowest 24 = .ok (.ifCond .eq 6, 3) := by decide +kernel
theorem dX10_lowest_27 : decode cX10_lowest 27 = .ok (.goto 15, 3) := by decide +kernel
theorem dX10_lowest_30 : decode cX10_lowest 30 = .ok (.lload_n 2, 1) := by decide +kernel
theorem dX10_lowest_31 : decode cX10_lowest 31 = .ok (.iload 5, 2) := by decide +kernel
