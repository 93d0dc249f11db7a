theorem dX5_init_0 : decode cX5_init 0 = .ok (.aload_n 0, 1) := by decide +kernel
theorem dX5_init_1 : decode cX5_init 1 = .ok (.invokespecial 3, 3) := by decide +kernel
theorem dX5_init_4 : decode cX5_init 4 = .ok (.aload_n 0, 1) := by decide +kernel
theorem dX5_init_5 : decode cX5_init 5 = .ok (.iconst 1, 1) := by decide +kernel
theorem dX5_init_6 : decode cX5_init 6 = .ok (.putfield 9, 3) := by decide +kernel
theorem dX5_init_9 : decode cX5_init 9 = .ok (.aload_n 0, 1) := by decide +kernel
theorem dX5_init_10 : decode cX5_init 10 = .ok (.bipush 8, 2) := by decide +kernel
theorem dX5_init_12 : decode cX5_init 12 = .ok (.newarray .int, 2) := by decide +kernel
theorem dX5_init_14 : decode cX5_init 14 = .ok (.putfield 15, 3) := by decide +kernel
theorem dX5_init_17 : decode cX5_init 17 = .ok (.aload_n 0, 1) := by decide +kernel
theorem dX5_init_18 : decode cX5_init 18 = .ok (.iload_n 1, 1) := by decide +kernel
theorem dX5_init_19 : decode cX5_init 19 = .ok (.putfield 19, 3) := by decide +kernel
theorem dX5_init_22 : decode cX5_init 22 = .ok (.aload_n 0, 1) := by decide +kernel
theorem dX5_init_23 : decode cX5_init 23 = .ok (.iload_n 2, 1) := by decide +kernel
theorem dX5_init_24 : decode cX5_init 24 = .ok (.putfield 23, 3) := by decide +kernel
theorem dX5_init_27 : decode cX5_init 27 = .ok (.return_, 1) := by decide +kernel
theorem dX5_sum_0 : decode cX5_sum 0 = .ok (.iconst 0, 1) := by decide +kernel
theorem dX5_sum_1 : decode cX5_sum 1 = .ok (.istore_n 1, 1) := by decide +kernel
theorem dX5_sum_2 : decode cX5_sum 2 = .ok (.aload_n 0, 1) := by decide +kernel
theorem dX5_sum_3 : decode cX5_sum 3 = .ok (.getfield 15, 3) := by decide +kernel
theorem dX5_sum_6 : decode cX5_sum 6 = .ok (.astore_n 2, 1) := by decide +kernel
theorem dX5_sum_7 : decode cX5_sum 7 = .ok (.aload_n 2, 1) := by decide +kernel
theorem dX5_sum_8 : decode cX5_sum 8 = .ok (.arraylength, 1) := by decide +kernel
theorem dX5_sum_9 : decode cX5_sum 9 = .ok (.istore_n 3, 1) := by decide +kernel
theorem dX5_sum_10 : decode cX5_sum 10 = .ok (.iconst 0, 1) := by decide +kernel
theorem dX5_sum_11 : decode cX5_sum 11 = .ok (.istore 4, 2) := by decide +kernel
theorem dX5_sum_13 : decode cX5_sum 13 = .ok (.iload 4, 2) := by decide +kernel
theorem dX5_sum_15 : decode cX5_sum 15 = .ok (.iload_n 3, 1) := by decide +kernel
theorem dX5_sum_16 : decode cX5_sum 16 = .ok (.if_icmp .ge 20, 3) := by decide +kernel
theorem dX5_sum_19 : decode cX5_sum 19 = .ok (.aload_n 2, 1) := by decide +kernel
theorem dX5_sum_20 : decode cX5_sum 20 = .ok (.iload 4, 2) := by decide +kernel
theorem dX5_sum_22 : decode cX5_sum 22 = .ok (.iaload, 1) := by decide +kernel
theorem dX5_sum_23 : decode cX5_sum 23 = .ok (.istore 5, 2) := by decide +kernel
theorem dX5_sum_25 : decode cX5_sum 25 = .ok (.iload_n 1, 1) := by decide +kernel
theorem dX5_sum_26 : decode cX5_sum 26 = .ok (.iload 5, 2) := by decide +kernel
theorem dX5_sum_28 : decode cX5_sum 28 = .ok (.iadd, 1) := by decide +kernel
theorem dX5_sum_29 : decode cX5_sum 29 = .ok (.istore_n 1, 1) := by decide +kernel
theorem dX5_sum_30 : decode cX5_sum 30 = .ok (.iinc 4 1, 3) := by decide +kernel
theorem dX5_sum_33 : decode cX5_sum 33 = .ok (.goto (-20), 3) := by decide +kernel
theorem dX5_sum_36 : decode cX5_sum 36 = .ok (.iload_n 1, 1) := by decide +kernel
theorem dX5_sum_37 : decode cX5_sum 37 = .ok (.ireturn, 1) := by decide +kernel
theorem dX5_isLost_0 : decode cX5_isLost 0 = .ok (.iconst 0, 1) := by decide +kernel
theorem dX5_isLost_1 : decode cX5_isLost 1 = .ok (.istore_n 1, 1) := by decide +kernel
theorem dX5_isLost_2 : decode cX5_isLost 2 = .ok (.aload_n 0, 1) := by decide +kernel
theorem dX5_isLost_3 : decode cX5_isLost 3 = .ok (.getfield 15, 3) := by decide +kernel
theorem dX5_isLost_6 : decode cX5_isLost 6 = .ok (.astore_n 2, 1) := by decide +kernel
theorem dX5_isLost_7 : decode cX5_isLost 7 = .ok (.aload_n 2, 1) := by decide +kernel
theorem dX5_isLost_8 : decode cX5_isLost 8 = .ok (.arraylength, 1) := by decide +kernel
theorem dX5_isLost_9 : decode cX5_isLost 9 = .ok (.istore_n 3, 1) := by decide +kernel
theorem dX5_isLost_10 : decode cX5_isLost 10 = .ok (.iconst 0, 1) := by decide +kernel
theorem dX5_isLost_11 : decode cX5_isLost 11 = .ok (.istore 4, 2) := by decide +kernel
theorem dX5_isLost_13 : decode cX5_isLost 13 = .ok (.iload 4, 2) := by decide +kernel
theorem dX5_isLost_15 : decode cX5_isLost 15 = .ok (.iload_n 3, 1) := by decide +kernel
theorem dX5_isLost_16 : decode cX5_isLost 16 = .ok (.if_icmp .ge 30, 3) := by decide +kernel
theorem dX5_isLost_19 : decode cX5_isLost 19 = .ok (.aload_n 2, 1) := by decide +kernel
theorem dX5_isLost_20 : decode cX5_isLost 20 = .ok (.iload 4, 2) := by decide +kernel
theorem dX5_isLost_22 : decode cX5_isLost 22 = .ok (.iaload, 1) := by decide +kernel
theorem dX5_isLost_23 : decode cX5_isLost 23 = .ok (.istore 5, 2) := by decide +kernel
theorem dX5_isLost_25 : decode cX5_isLost 25 = .ok (.iload_n 1, 1) := by decide +kernel
theorem dX5_isLost_26 : decode cX5_isLost 26 = .ok (.iload 5, 2) := by decide +kernel
theorem dX5_isLost_28 : decode cX5_isLost 28 = .ok (.bipush 9, 2) := by decide +kernel
theorem dX5_isLost_30 : decode cX5_isLost 30 = .ok (.if_icmp .ne 7, 3) := by decide +kernel
theorem dX5_isLost_33 : decode cX5_isLost 33 = .ok (.iconst 1, 1) := by decide +kernel
theorem dX5_isLost_34 : decode cX5_isLost 34 = .ok (.goto 4, 3) := by decide +kernel
theorem dX5_isLost_37 : decode cX5_isLost 37 = .ok (.iconst 0, 1) := by decide +kernel
theorem dX5_isLost_38 : decode cX5_isLost 38 = .ok (.ior, 1) := by decide +kernel
theorem dX5_isLost_39 : decode cX5_isLost 39 = .ok (.istore_n 1, 1) := by decide +kernel
theorem dX5_isLost_40 : decode cX5_isLost 40 = .ok (.iinc 4 1, 3) := by decide +kernel
theorem dX5_isLost_43 : decode cX5_isLost 43 = .ok (.goto (-30), 3) := by decide +kernel
theorem dX5_isLost_46 : decode cX5_isLost 46 = .ok (.aload_n 0, 1) := by decide +kernel
theorem dX5_isLost_47 : decode cX5_isLost 47 = .ok (.getfield 26, 3) := by decide +kernel
theorem dX5_isLost_50 : decode cX5_isLost 50 = .ok (.ifCond .ne 42, 3) := by decide +kernel
theorem dX5_isLost_53 : decode cX5_isLost 53 = .ok (.aload_n 0, 1) := by decide +kernel
theorem dX5_isLost_54 : decode cX5_isLost 54 = .ok (.getfield 19, 3) := by decide +kernel
theorem dX5_isLost_57 : decode cX5_isLost 57 = .ok (.ifCond .ne 13, 3) := by decide +kernel
theorem dX5_isLost_60 : decode cX5_isLost 60 = .ok (.aload_n 0, 1) := by decide +kernel
theorem dX5_isLost_61 : decode cX5_isLost 61 = .ok (.getfield 23, 3) := by decide +kernel
theorem dX5_isLost_64 : decode cX5_isLost 64 = .ok (.sipush 255, 3) := by decide +kernel
theorem dX5_isLost_67 : decode cX5_isLost 67 = .ok (.if_icmp .ne 25, 3) := by decide +kernel
theorem dX5_isLost_70 : decode cX5_isLost 70 = .ok (.aload_n 0, 1) := by decide +kernel
theorem dX5_isLost_71 : decode cX5_isLost 71 = .ok (.getfield 19, 3) := by decide +kernel
theorem dX5_isLost_74 : decode cX5_isLost 74 = .ok (.bipush 7, 2) := by decide +kernel
theorem dX5_isLost_76 : decode cX5_isLost 76 = .ok (.if_icmp .ne 7, 3) := by decide +kernel
theorem dX5_isLost_79 : decode cX5_isLost 79 = .ok (.iload_n 1, 1) := by decide +kernel
theorem dX5_isLost_80 : decode cX5_isLost 80 = .ok (.ifCond .ne 12, 3) := by decide +kernel
theorem dX5_isLost_83 : decode cX5_isLost 83 = .ok (.aload_n 0, 1) := by decide +kernel
theorem dX5_isLost_84 : decode cX5_isLost 84 = .ok (.getfield 19, 3) := by decide +kernel
theorem dX5_isLost_87 : decode cX5_isLost 87 = .ok (.bipush 10, 2) := by decide +kernel
theorem dX5_isLost_89 : decode cX5_isLost 89 = .ok (.if_icmp .ne 7, 3) := by decide +kernel
theorem dX5_isLost_92 : decode cX5_isLost 92 = .ok (.iconst 1, 1) := by decide +kernel
theorem dX5_isLost_93 : decode cX5_isLost 93 = .ok (.goto 4, 3) := by decide +kernel
theorem dX5_isLost_96 : decode cX5_isLost 96 = .ok (.iconst 0, 1) := by decide +kernel
theorem dX5_isLost_97 : decode cX5_isLost 97 = .ok (.ireturn, 1) := by decide +kernel
theorem dX5_factor_0 : decode cX5_factor 0 = .ok (.aload_n 0, 1) := by decide +kernel
theorem dX5_factor_1 : decode cX5_factor 1 = .ok (.getfield 19, 3) := by decide +kernel
theorem dX5_factor_4 : decode cX5_factor 4 = .ok (.iconst 2, 1) := by decide +kernel
theorem dX5_factor_5 : decode cX5_factor 5 = .ok (.if_icmp .eq 11, 3) := by decide +kernel
theorem dX5_factor_8 : decode cX5_factor 8 = .ok (.aload_n 0, 1) := by decide +kernel
theorem dX5_factor_9 : decode cX5_factor 9 = .ok (.getfield 19, 3) := by decide +kernel
theorem dX5_factor_12 : decode cX5_factor 12 = .ok (.iconst 3, 1) := by decide +kernel
theorem dX5_factor_13 : decode cX5_factor 13 = .ok (.if_icmp .ne 8, 3) := by decide +kernel
theorem dX5_factor_16 : decode cX5_factor 16 = .ok (.bipush 8, 2) := by decide +kernel
theorem dX5_factor_18 : decode cX5_factor 18 = .ok (.goto 60, 3) := by decide +kernel
theorem dX5_factor_21 : decode cX5_factor 21 = .ok (.aload_n 0, 1) := by decide +kernel
theorem dX5_factor_22 : decode cX5_factor 22 = .ok (.getfield 19, 3) := by decide +kernel
theorem dX5_factor_25 : decode cX5_factor 25 = .ok (.bipush 6, 2) := by decide +kernel
theorem dX5_factor_27 : decode cX5_factor 27 = .ok (.if_icmp .ne 15, 3) := by decide +kernel
theorem dX5_factor_30 : decode cX5_factor 30 = .ok (.aload_n 0, 1) := by decide +kernel
theorem dX5_factor_31 : decode cX5_factor 31 = .ok (.getfield 23, 3) := by decide +kernel
theorem dX5_factor_34 : decode cX5_factor 34 = .ok (.aload_n 0, 1) := by decide +kernel
theorem dX5_factor_35 : decode cX5_factor 35 = .ok (.getfield 23, 3) := by decide +kernel
theorem dX5_factor_38 : decode cX5_factor 38 = .ok (.imul, 1) := by decide +kernel
theorem dX5_factor_39 : decode cX5_factor 39 = .ok (.goto 39, 3) := by decide +kernel
theorem dX5_factor_42 : decode cX5_factor 42 = .ok (.aload_n 0, 1) := by decide +kernel
theorem dX5_factor_43 : decode cX5_factor 43 = .ok (.getfield 19, 3) := by decide +kernel
theorem dX5_factor_46 : decode cX5_factor 46 = .ok (.bipush 7, 2) := by decide +kernel
theorem dX5_factor_48 : decode cX5_factor 48 = .ok (.if_icmp .ne 8, 3) := by decide +kernel
theorem dX5_factor_51 : decode cX5_factor 51 = .ok (.bipush 81, 2) := by decide +kernel
theorem dX5_factor_53 : decode cX5_factor 53 = .ok (.goto 25, 3) := by decide +kernel
theorem dX5_factor_56 : decode cX5_factor 56 = .ok (.aload_n 0, 1) := by decide +kernel
theorem dX5_factor_57 : decode cX5_factor 57 = .ok (.getfield 19, 3) := by decide +kernel
theorem dX5_factor_60 : decode cX5_factor 60 = .ok (.bipush 10, 2) := by decide +kernel
theorem dX5_factor_62 : decode cX5_factor 62 = .ok (.if_icmp .ne 15, 3) := by decide +kernel
theorem dX5_factor_65 : decode cX5_factor 65 = .ok (.aload_n 0, 1) := by decide +kernel
theorem dX5_factor_66 : decode cX5_factor 66 = .ok (.getfield 23, 3) := by decide +kernel
theorem dX5_factor_69 : decode cX5_factor 69 = .ok (.iconst 1, 1) := by decide +kernel
theorem dX5_factor_70 : decode cX5_factor 70 = .ok (.if_icmp .le 7, 3) := by decide +kernel
theorem dX5_factor_73 : decode cX5_factor 73 = .ok (.iconst 4, 1) := by decide +kernel
theorem dX5_factor_74 : decode cX5_factor 74 = .ok (.goto 4, 3) := by decide +kernel
theorem dX5_factor_77 : decode cX5_factor 77 = .ok (.iconst 1, 1) := by decide +kernel
theorem dX5_factor_78 : decode cX5_factor 78 = .ok (.ireturn, 1) := by decide +kernel
