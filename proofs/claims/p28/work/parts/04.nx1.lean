theorem dX1_init_0 : decode cX1_init 0 = .ok (.aload_n 0, 1) := by decide +kernel
theorem dX1_init_1 : decode cX1_init 1 = .ok (.invokespecial 3, 3) := by decide +kernel
theorem dX1_init_4 : decode cX1_init 4 = .ok (.aload_n 0, 1) := by decide +kernel
theorem dX1_init_5 : decode cX1_init 5 = .ok (.iconst 1, 1) := by decide +kernel
theorem dX1_init_6 : decode cX1_init 6 = .ok (.putfield 9, 3) := by decide +kernel
theorem dX1_init_9 : decode cX1_init 9 = .ok (.aload_n 0, 1) := by decide +kernel
theorem dX1_init_10 : decode cX1_init 10 = .ok (.iconst 0, 1) := by decide +kernel
theorem dX1_init_11 : decode cX1_init 11 = .ok (.putfield 15, 3) := by decide +kernel
theorem dX1_init_14 : decode cX1_init 14 = .ok (.aload_n 0, 1) := by decide +kernel
theorem dX1_init_15 : decode cX1_init 15 = .ok (.iconst 0, 1) := by decide +kernel
theorem dX1_init_16 : decode cX1_init 16 = .ok (.putfield 19, 3) := by decide +kernel
theorem dX1_init_19 : decode cX1_init 19 = .ok (.aload_n 0, 1) := by decide +kernel
theorem dX1_init_20 : decode cX1_init 20 = .ok (.bipush 8, 2) := by decide +kernel
theorem dX1_init_22 : decode cX1_init 22 = .ok (.newarray .int, 2) := by decide +kernel
theorem dX1_init_24 : decode cX1_init 24 = .ok (.putfield 22, 3) := by decide +kernel
theorem dX1_init_27 : decode cX1_init 27 = .ok (.aload_n 0, 1) := by decide +kernel
theorem dX1_init_28 : decode cX1_init 28 = .ok (.iload_n 1, 1) := by decide +kernel
theorem dX1_init_29 : decode cX1_init 29 = .ok (.putfield 26, 3) := by decide +kernel
theorem dX1_init_32 : decode cX1_init 32 = .ok (.aload_n 0, 1) := by decide +kernel
theorem dX1_init_33 : decode cX1_init 33 = .ok (.iload_n 2, 1) := by decide +kernel
theorem dX1_init_34 : decode cX1_init 34 = .ok (.putfield 29, 3) := by decide +kernel
theorem dX1_init_37 : decode cX1_init 37 = .ok (.return_, 1) := by decide +kernel
theorem dX1_darken_0 : decode cX1_darken 0 = .ok (.iload_n 2, 1) := by decide +kernel
theorem dX1_darken_1 : decode cX1_darken 1 = .ok (.iconst 1, 1) := by decide +kernel
theorem dX1_darken_2 : decode cX1_darken 2 = .ok (.if_icmp .ge 4, 3) := by decide +kernel
theorem dX1_darken_5 : decode cX1_darken 5 = .ok (.return_, 1) := by decide +kernel
theorem dX1_darken_6 : decode cX1_darken 6 = .ok (.iconst 0, 1) := by decide +kernel
theorem dX1_darken_7 : decode cX1_darken 7 = .ok (.istore_n 3, 1) := by decide +kernel
theorem dX1_darken_8 : decode cX1_darken 8 = .ok (.iload_n 3, 1) := by decide +kernel
theorem dX1_darken_9 : decode cX1_darken 9 = .ok (.bipush 8, 2) := by decide +kernel
theorem dX1_darken_11 : decode cX1_darken 11 = .ok (.if_icmp .ge 43, 3) := by decide +kernel
theorem dX1_darken_14 : decode cX1_darken 14 = .ok (.aload_n 0, 1) := by decide +kernel
theorem dX1_darken_15 : decode cX1_darken 15 = .ok (.getfield 22, 3) := by decide +kernel
theorem dX1_darken_18 : decode cX1_darken 18 = .ok (.iload_n 3, 1) := by decide +kernel
theorem dX1_darken_19 : decode cX1_darken 19 = .ok (.iaload, 1) := by decide +kernel
theorem dX1_darken_20 : decode cX1_darken 20 = .ok (.i2l, 1) := by decide +kernel
theorem dX1_darken_21 : decode cX1_darken 21 = .ok (.aload_n 1, 1) := by decide +kernel
theorem dX1_darken_22 : decode cX1_darken 22 = .ok (.getfield 32, 3) := by decide +kernel
theorem dX1_darken_25 : decode cX1_darken 25 = .ok (.iload_n 3, 1) := by decide +kernel
theorem dX1_darken_26 : decode cX1_darken 26 = .ok (.laload, 1) := by decide +kernel
theorem dX1_darken_27 : decode cX1_darken 27 = .ok (.iload_n 2, 1) := by decide +kernel
theorem dX1_darken_28 : decode cX1_darken 28 = .ok (.i2l, 1) := by decide +kernel
theorem dX1_darken_29 : decode cX1_darken 29 = .ok (.ldiv, 1) := by decide +kernel
theorem dX1_darken_30 : decode cX1_darken 30 = .ok (.ladd, 1) := by decide +kernel
theorem dX1_darken_31 : decode cX1_darken 31 = .ok (.lstore 4, 2) := by decide +kernel
theorem dX1_darken_33 : decode cX1_darken 33 = .ok (.aload_n 0, 1) := by decide +kernel
theorem dX1_darken_34 : decode cX1_darken 34 = .ok (.getfield 22, 3) := by decide +kernel
theorem dX1_darken_37 : decode cX1_darken 37 = .ok (.iload_n 3, 1) := by decide +kernel
theorem dX1_darken_38 : decode cX1_darken 38 = .ok (.ldc2_w 38, 3) := by decide +kernel
theorem dX1_darken_41 : decode cX1_darken 41 = .ok (.lload 4, 2) := by decide +kernel
theorem dX1_darken_43 : decode cX1_darken 43 = .ok (.invokestatic 40, 3) := by decide +kernel
theorem dX1_darken_46 : decode cX1_darken 46 = .ok (.l2i, 1) := by decide +kernel
theorem dX1_darken_47 : decode cX1_darken 47 = .ok (.iastore, 1) := by decide +kernel
theorem dX1_darken_48 : decode cX1_darken 48 = .ok (.iinc 3 1, 3) := by decide +kernel
theorem dX1_darken_51 : decode cX1_darken 51 = .ok (.goto (-43), 3) := by decide +kernel
theorem dX1_darken_54 : decode cX1_darken 54 = .ok (.aload_n 0, 1) := by decide +kernel
theorem dX1_darken_55 : decode cX1_darken 55 = .ok (.dup, 1) := by decide +kernel
theorem dX1_darken_56 : decode cX1_darken 56 = .ok (.getfield 19, 3) := by decide +kernel
theorem dX1_darken_59 : decode cX1_darken 59 = .ok (.iconst 1, 1) := by decide +kernel
theorem dX1_darken_60 : decode cX1_darken 60 = .ok (.iadd, 1) := by decide +kernel
theorem dX1_darken_61 : decode cX1_darken 61 = .ok (.putfield 19, 3) := by decide +kernel
theorem dX1_darken_64 : decode cX1_darken 64 = .ok (.return_, 1) := by decide +kernel
theorem dX1_sumOfExposures_0 : decode cX1_sumOfExposures 0 = .ok (.iconst 0, 1) := by decide +kernel
theorem dX1_sumOfExposures_1 : decode cX1_sumOfExposures 1 = .ok (.istore_n 1, 1) := by decide +kernel
theorem dX1_sumOfExposures_2 : decode cX1_sumOfExposures 2 = .ok (.iconst 0, 1) := by decide +kernel
theorem dX1_sumOfExposures_3 : decode cX1_sumOfExposures 3 = .ok (.istore_n 2, 1) := by decide +kernel
theorem dX1_sumOfExposures_4 : decode cX1_sumOfExposures 4 = .ok (.iload_n 2, 1) := by decide +kernel
theorem dX1_sumOfExposures_5 : decode cX1_sumOfExposures 5 = .ok (.bipush 8, 2) := by decide +kernel
theorem dX1_sumOfExposures_7 : decode cX1_sumOfExposures 7 = .ok (.if_icmp .ge 18, 3) := by decide +kernel
theorem dX1_sumOfExposures_10 : decode cX1_sumOfExposures 10 = .ok (.iload_n 1, 1) := by decide +kernel
theorem dX1_sumOfExposures_11 : decode cX1_sumOfExposures 11 = .ok (.aload_n 0, 1) := by decide +kernel
theorem dX1_sumOfExposures_12 : decode cX1_sumOfExposures 12 = .ok (.getfield 22, 3) := by decide +kernel
theorem dX1_sumOfExposures_15 : decode cX1_sumOfExposures 15 = .ok (.iload_n 2, 1) := by decide +kernel
theorem dX1_sumOfExposures_16 : decode cX1_sumOfExposures 16 = .ok (.iaload, 1) := by decide +kernel
theorem dX1_sumOfExposures_17 : decode cX1_sumOfExposures 17 = .ok (.iadd, 1) := by decide +kernel
theorem dX1_sumOfExposures_18 : decode cX1_sumOfExposures 18 = .ok (.istore_n 1, 1) := by decide +kernel
theorem dX1_sumOfExposures_19 : decode cX1_sumOfExposures 19 = .ok (.iinc 2 1, 3) := by decide +kernel
theorem dX1_sumOfExposures_22 : decode cX1_sumOfExposures 22 = .ok (.goto (-18), 3) := by decide +kernel
theorem dX1_sumOfExposures_25 : decode cX1_sumOfExposures 25 = .ok (.iload_n 1, 1) := by decide +kernel
theorem dX1_sumOfExposures_26 : decode cX1_sumOfExposures 26 = .ok (.ireturn, 1) := by decide +kernel
theorem dX1_canBeUndone_0 : decode cX1_canBeUndone 0 = .ok (.aload_n 0, 1) := by decide +kernel
theorem dX1_canBeUndone_1 : decode cX1_canBeUndone 1 = .ok (.getfield 15, 3) := by decide +kernel
theorem dX1_canBeUndone_4 : decode cX1_canBeUndone 4 = .ok (.ifCond .ne 12, 3) := by decide +kernel
theorem dX1_canBeUndone_7 : decode cX1_canBeUndone 7 = .ok (.aload_n 0, 1) := by decide +kernel
theorem dX1_canBeUndone_8 : decode cX1_canBeUndone 8 = .ok (.getfield 26, 3) := by decide +kernel
theorem dX1_canBeUndone_11 : decode cX1_canBeUndone 11 = .ok (.bipush 10, 2) := by decide +kernel
theorem dX1_canBeUndone_13 : decode cX1_canBeUndone 13 = .ok (.if_icmp .ne 5, 3) := by decide +kernel
theorem dX1_canBeUndone_16 : decode cX1_canBeUndone 16 = .ok (.iconst 0, 1) := by decide +kernel
theorem dX1_canBeUndone_17 : decode cX1_canBeUndone 17 = .ok (.ireturn, 1) := by decide +kernel
theorem dX1_canBeUndone_18 : decode cX1_canBeUndone 18 = .ok (.aload_n 0, 1) := by decide +kernel
theorem dX1_canBeUndone_19 : decode cX1_canBeUndone 19 = .ok (.getfield 26, 3) := by decide +kernel
theorem dX1_canBeUndone_22 : decode cX1_canBeUndone 22 = .ok (.ifCond .ne 19, 3) := by decide +kernel
theorem dX1_canBeUndone_25 : decode cX1_canBeUndone 25 = .ok (.aload_n 0, 1) := by decide +kernel
theorem dX1_canBeUndone_26 : decode cX1_canBeUndone 26 = .ok (.getfield 29, 3) := by decide +kernel
theorem dX1_canBeUndone_29 : decode cX1_canBeUndone 29 = .ok (.sipush 255, 3) := by decide +kernel
theorem dX1_canBeUndone_32 : decode cX1_canBeUndone 32 = .ok (.if_icmp .ne 7, 3) := by decide +kernel
theorem dX1_canBeUndone_35 : decode cX1_canBeUndone 35 = .ok (.iconst 1, 1) := by decide +kernel
theorem dX1_canBeUndone_36 : decode cX1_canBeUndone 36 = .ok (.goto 4, 3) := by decide +kernel
theorem dX1_canBeUndone_39 : decode cX1_canBeUndone 39 = .ok (.iconst 0, 1) := by decide +kernel
theorem dX1_canBeUndone_40 : decode cX1_canBeUndone 40 = .ok (.ireturn, 1) := by decide +kernel
theorem dX1_canBeUndone_41 : decode cX1_canBeUndone 41 = .ok (.iconst 0, 1) := by decide +kernel
theorem dX1_canBeUndone_42 : decode cX1_canBeUndone 42 = .ok (.istore_n 1, 1) := by decide +kernel
theorem dX1_canBeUndone_43 : decode cX1_canBeUndone 43 = .ok (.iload_n 1, 1) := by decide +kernel
theorem dX1_canBeUndone_44 : decode cX1_canBeUndone 44 = .ok (.bipush 8, 2) := by decide +kernel
theorem dX1_canBeUndone_46 : decode cX1_canBeUndone 46 = .ok (.if_icmp .ge 22, 3) := by decide +kernel
theorem dX1_canBeUndone_49 : decode cX1_canBeUndone 49 = .ok (.aload_n 0, 1) := by decide +kernel
theorem dX1_canBeUndone_50 : decode cX1_canBeUndone 50 = .ok (.getfield 22, 3) := by decide +kernel
theorem dX1_canBeUndone_53 : decode cX1_canBeUndone 53 = .ok (.iload_n 1, 1) := by decide +kernel
theorem dX1_canBeUndone_54 : decode cX1_canBeUndone 54 = .ok (.iaload, 1) := by decide +kernel
theorem dX1_canBeUndone_55 : decode cX1_canBeUndone 55 = .ok (.bipush 9, 2) := by decide +kernel
theorem dX1_canBeUndone_57 : decode cX1_canBeUndone 57 = .ok (.if_icmp .ne 5, 3) := by decide +kernel
theorem dX1_canBeUndone_60 : decode cX1_canBeUndone 60 = .ok (.iconst 0, 1) := by decide +kernel
theorem dX1_canBeUndone_61 : decode cX1_canBeUndone 61 = .ok (.ireturn, 1) := by decide +kernel
theorem dX1_canBeUndone_62 : decode cX1_canBeUndone 62 = .ok (.iinc 1 1, 3) := by decide +kernel
theorem dX1_canBeUndone_65 : decode cX1_canBeUndone 65 = .ok (.goto (-22), 3) := by decide +kernel
theorem dX1_canBeUndone_68 : decode cX1_canBeUndone 68 = .ok (.iconst 1, 1) := by decide +kernel
theorem dX1_canBeUndone_69 : decode cX1_canBeUndone 69 = .ok (.ireturn, 1) := by decide +kernel
theorem dX1_canBeTuned_0 : decode cX1_canBeTuned 0 = .ok (.aload_n 0, 1) := by decide +kernel
theorem dX1_canBeTuned_1 : decode cX1_canBeTuned 1 = .ok (.getfield 26, 3) := by decide +kernel
theorem dX1_canBeTuned_4 : decode cX1_canBeTuned 4 = .ok (.iconst 4, 1) := by decide +kernel
theorem dX1_canBeTuned_5 : decode cX1_canBeTuned 5 = .ok (.if_icmp .eq 30, 3) := by decide +kernel
theorem dX1_canBeTuned_8 : decode cX1_canBeTuned 8 = .ok (.aload_n 0, 1) := by decide +kernel
theorem dX1_canBeTuned_9 : decode cX1_canBeTuned 9 = .ok (.getfield 26, 3) := by decide +kernel
theorem dX1_canBeTuned_12 : decode cX1_canBeTuned 12 = .ok (.bipush 6, 2) := by decide +kernel
theorem dX1_canBeTuned_14 : decode cX1_canBeTuned 14 = .ok (.if_icmp .eq 21, 3) := by decide +kernel
theorem dX1_canBeTuned_17 : decode cX1_canBeTuned 17 = .ok (.aload_n 0, 1) := by decide +kernel
theorem dX1_canBeTuned_18 : decode cX1_canBeTuned 18 = .ok (.getfield 26, 3) := by decide +kernel
theorem dX1_canBeTuned_21 : decode cX1_canBeTuned 21 = .ok (.bipush 8, 2) := by decide +kernel
theorem dX1_canBeTuned_23 : decode cX1_canBeTuned 23 = .ok (.if_icmp .eq 12, 3) := by decide +kernel
theorem dX1_canBeTuned_26 : decode cX1_canBeTuned 26 = .ok (.aload_n 0, 1) := by decide +kernel
theorem dX1_canBeTuned_27 : decode cX1_canBeTuned 27 = .ok (.getfield 26, 3) := by decide +kernel
theorem dX1_canBeTuned_30 : decode cX1_canBeTuned 30 = .ok (.bipush 10, 2) := by decide +kernel
theorem dX1_canBeTuned_32 : decode cX1_canBeTuned 32 = .ok (.if_icmp .ne 7, 3) := by decide +kernel
theorem dX1_canBeTuned_35 : decode cX1_canBeTuned 35 = .ok (.iconst 1, 1) := by decide +kernel
theorem dX1_canBeTuned_36 : decode cX1_canBeTuned 36 = .ok (.goto 4, 3) := by decide +kernel
theorem dX1_canBeTuned_39 : decode cX1_canBeTuned 39 = .ok (.iconst 0, 1) := by decide +kernel
theorem dX1_canBeTuned_40 : decode cX1_canBeTuned 40 = .ok (.ireturn, 1) := by decide +kernel
theorem dX1_lossFactor_0 : decode cX1_lossFactor 0 = .ok (.aload_n 0, 1) := by decide +kernel
theorem dX1_lossFactor_1 : decode cX1_lossFactor 1 = .ok (.getfield 26, 3) := by decide +kernel
theorem dX1_lossFactor_4 : decode cX1_lossFactor 4 = .ok (.tableswitch 87 2 10 #[52, 52, 87, 87, 56, 67, 87, 87, 71], 52) := by decide +kernel
theorem dX1_lossFactor_56 : decode cX1_lossFactor 56 = .ok (.ldc2_w 46, 3) := by decide +kernel
theorem dX1_lossFactor_59 : decode cX1_lossFactor 59 = .ok (.lreturn, 1) := by decide +kernel
theorem dX1_lossFactor_60 : decode cX1_lossFactor 60 = .ok (.aload_n 0, 1) := by decide +kernel
theorem dX1_lossFactor_61 : decode cX1_lossFactor 61 = .ok (.getfield 29, 3) := by decide +kernel
theorem dX1_lossFactor_64 : decode cX1_lossFactor 64 = .ok (.aload_n 0, 1) := by decide +kernel
theorem dX1_lossFactor_65 : decode cX1_lossFactor 65 = .ok (.getfield 29, 3) := by decide +kernel
theorem dX1_lossFactor_68 : decode cX1_lossFactor 68 = .ok (.imul, 1) := by decide +kernel
theorem dX1_lossFactor_69 : decode cX1_lossFactor 69 = .ok (.i2l, 1) := by decide +kernel
theorem dX1_lossFactor_70 : decode cX1_lossFactor 70 = .ok (.lreturn, 1) := by decide +kernel
theorem dX1_lossFactor_71 : decode cX1_lossFactor 71 = .ok (.ldc2_w 48, 3) := by decide +kernel
theorem dX1_lossFactor_74 : decode cX1_lossFactor 74 = .ok (.lreturn, 1) := by decide +kernel
theorem dX1_lossFactor_75 : decode cX1_lossFactor 75 = .ok (.aload_n 0, 1) := by decide +kernel
theorem dX1_lossFactor_76 : decode cX1_lossFactor 76 = .ok (.getfield 29, 3) := by decide +kernel
theorem dX1_lossFactor_79 : decode cX1_lossFactor 79 = .ok (.iconst 2, 1) := by decide +kernel
theorem dX1_lossFactor_80 : decode cX1_lossFactor 80 = .ok (.if_icmp .lt 9, 3) := by decide +kernel
theorem dX1_lossFactor_83 : decode cX1_lossFactor 83 = .ok (.ldc2_w 50, 3) := by decide +kernel
theorem dX1_lossFactor_86 : decode cX1_lossFactor 86 = .ok (.goto 4, 3) := by decide +kernel
theorem dX1_lossFactor_89 : decode cX1_lossFactor 89 = .ok (.lconst 1, 1) := by decide +kernel
theorem dX1_lossFactor_90 : decode cX1_lossFactor 90 = .ok (.lreturn, 1) := by decide +kernel
theorem dX1_lossFactor_91 : decode cX1_lossFactor 91 = .ok (.lconst 1, 1) := by decide +kernel
theorem dX1_lossFactor_92 : decode cX1_lossFactor 92 = .ok (.lreturn, 1) := by decide +kernel
set_option maxRecDepth 20000 in
theorem ggX1_pass_X0_carry : GoodIn wsX1_pass wsX0_carry := goodIn_r _ [9, 10, 11, 8, 12, 13, 14, 15, 16, 17, 18, 19, 20, 21, 58, 59] (by decide +kernel) (by decide +kernel)
set_option maxRecDepth 20000 in
theorem gX1_pass_X0_carry : GoodIn wsX1_pass (wsV RX1 52 RX0 yX0_carry wsX0_carry) := goodIn_app (goodIn_of _ (by decide +kernel)) ggX1_pass_X0_carry
set_option maxRecDepth 20000 in
theorem ggX1_pass_X0_gather : GoodIn wsX1_pass wsX0_gather := goodIn_r _ [25, 10, 11, 8, 12, 13, 14, 15, 16, 17, 18, 19, 20, 21, 58, 59] (by decide +kernel) (by decide +kernel)
set_option maxRecDepth 20000 in
theorem gX1_pass_X0_gather : GoodIn wsX1_pass (wsV RX1 58 RX0 yX0_gather wsX0_gather) := goodIn_app (goodIn_of _ (by decide +kernel)) ggX1_pass_X0_gather
set_option maxRecDepth 20000 in
theorem ggX1_pass_X0_retard : GoodIn wsX1_pass wsX0_retard := goodIn_r _ [29, 10, 11, 8, 12, 13, 14, 15, 16, 17, 18, 19, 20, 21, 58, 59] (by decide +kernel) (by decide +kernel)
set_option maxRecDepth 20000 in
theorem gX1_pass_X0_retard : GoodIn wsX1_pass (wsV RX1 62 RX0 yX0_retard wsX0_retard) := goodIn_app (goodIn_of _ (by decide +kernel)) ggX1_pass_X0_retard
set_option maxRecDepth 20000 in
theorem ggX1_pass_X0_exchange : GoodIn wsX1_pass wsX0_exchange := goodIn_r _ [33, 10, 11, 8, 12, 19, 20, 21, 13, 14, 15, 16, 17, 18, 58, 59] (by decide +kernel) (by decide +kernel)
set_option maxRecDepth 20000 in
theorem gX1_pass_X0_exchange : GoodIn wsX1_pass (wsV RX1 65 RX0 yX0_exchange wsX0_exchange) := goodIn_app (goodIn_of _ (by decide +kernel)) ggX1_pass_X0_exchange
set_option maxRecDepth 20000 in
theorem ggX1_pass_X0_polarise : GoodIn wsX1_pass wsX0_polarise := goodIn_r _ [37, 10, 11, 8, 12, 19, 20, 21, 13, 14, 15, 16, 17, 18, 58, 59] (by decide +kernel) (by decide +kernel)
set_option maxRecDepth 20000 in
theorem gX1_pass_X0_polarise : GoodIn wsX1_pass (wsV RX1 69 RX0 yX0_polarise wsX0_polarise) := goodIn_app (goodIn_of _ (by decide +kernel)) ggX1_pass_X0_polarise
set_option maxRecDepth 20000 in
theorem ggX1_pass_X0_settle : GoodIn wsX1_pass wsX0_settle := goodIn_r _ [41, 18, 17, 10, 11, 8, 12, 42, 43, 44, 45, 46, 47, 48, 49, 50, 51, 58, 59] (by decide +kernel) (by decide +kernel)
set_option maxRecDepth 20000 in
theorem gX1_pass_X0_settle : GoodIn wsX1_pass (wsV RX1 72 RX0 yX0_settle wsX0_settle) := goodIn_app (goodIn_of _ (by decide +kernel)) ggX1_pass_X0_settle
theorem dX1_pass_0 : decode cX1_pass 0 = .ok (.iconst 0, 1) := by decide +kernel
theorem dX1_pass_1 : decode cX1_pass 1 = .ok (.istore_n 2, 1) := by decide +kernel
theorem dX1_pass_2 : decode cX1_pass 2 = .ok (.iload_n 2, 1) := by decide +kernel
theorem dX1_pass_3 : decode cX1_pass 3 = .ok (.bipush 8, 2) := by decide +kernel
theorem dX1_pass_5 : decode cX1_pass 5 = .ok (.if_icmp .ge 222, 3) := by decide +kernel
theorem dX1_pass_8 : decode cX1_pass 8 = .ok (.aload_n 0, 1) := by decide +kernel
theorem dX1_pass_9 : decode cX1_pass 9 = .ok (.getfield 26, 3) := by decide +kernel
theorem dX1_pass_12 : decode cX1_pass 12 = .ok (.tableswitch 200 0 9 #[56, 74, 95, 104, 114, 133, 147, 161, 180, 192], 56) := by decide +kernel
theorem dX1_pass_68 : decode cX1_pass 68 = .ok (.aload_n 1, 1) := by decide +kernel
theorem dX1_pass_69 : decode cX1_pass 69 = .ok (.iload_n 2, 1) := by decide +kernel
theorem dX1_pass_70 : decode cX1_pass 70 = .ok (.iload_n 2, 1) := by decide +kernel
theorem dX1_pass_71 : decode cX1_pass 71 = .ok (.iconst 0, 1) := by decide +kernel
theorem dX1_pass_72 : decode cX1_pass 72 = .ok (.aload_n 0, 1) := by decide +kernel
theorem dX1_pass_73 : decode cX1_pass 73 = .ok (.getfield 29, 3) := by decide +kernel
theorem dX1_pass_76 : decode cX1_pass 76 = .ok (.iload_n 2, 1) := by decide +kernel
theorem dX1_pass_77 : decode cX1_pass 77 = .ok (.ishr, 1) := by decide +kernel
theorem dX1_pass_78 : decode cX1_pass 78 = .ok (.iconst 1, 1) := by decide +kernel
theorem dX1_pass_79 : decode cX1_pass 79 = .ok (.iand, 1) := by decide +kernel
theorem dX1_pass_80 : decode cX1_pass 80 = .ok (.invokevirtual 52, 3) := by decide +kernel
theorem dX1_pass_83 : decode cX1_pass 83 = .ok (.goto 138, 3) := by decide +kernel
theorem dX1_pass_86 : decode cX1_pass 86 = .ok (.aload_n 1, 1) := by decide +kernel
theorem dX1_pass_87 : decode cX1_pass 87 = .ok (.iload_n 2, 1) := by decide +kernel
theorem dX1_pass_88 : decode cX1_pass 88 = .ok (.iload_n 2, 1) := by decide +kernel
theorem dX1_pass_89 : decode cX1_pass 89 = .ok (.aload_n 0, 1) := by decide +kernel
theorem dX1_pass_90 : decode cX1_pass 90 = .ok (.getfield 29, 3) := by decide +kernel
theorem dX1_pass_93 : decode cX1_pass 93 = .ok (.iconst 3, 1) := by decide +kernel
theorem dX1_pass_94 : decode cX1_pass 94 = .ok (.iload_n 2, 1) := by decide +kernel
theorem dX1_pass_95 : decode cX1_pass 95 = .ok (.imul, 1) := by decide +kernel
theorem dX1_pass_96 : decode cX1_pass 96 = .ok (.ishr, 1) := by decide +kernel
theorem dX1_pass_97 : decode cX1_pass 97 = .ok (.bipush 7, 2) := by decide +kernel
theorem dX1_pass_99 : decode cX1_pass 99 = .ok (.iand, 1) := by decide +kernel
theorem dX1_pass_100 : decode cX1_pass 100 = .ok (.iconst 1, 1) := by decide +kernel
theorem dX1_pass_101 : decode cX1_pass 101 = .ok (.invokevirtual 52, 3) := by decide +kernel
theorem dX1_pass_104 : decode cX1_pass 104 = .ok (.goto 117, 3) := by decide +kernel
theorem dX1_pass_107 : decode cX1_pass 107 = .ok (.aload_n 1, 1) := by decide +kernel
theorem dX1_pass_108 : decode cX1_pass 108 = .ok (.iload_n 2, 1) := by decide +kernel
theorem dX1_pass_109 : decode cX1_pass 109 = .ok (.iconst 1, 1) := by decide +kernel
theorem dX1_pass_110 : decode cX1_pass 110 = .ok (.invokevirtual 58, 3) := by decide +kernel
theorem dX1_pass_113 : decode cX1_pass 113 = .ok (.goto 108, 3) := by decide +kernel
theorem dX1_pass_116 : decode cX1_pass 116 = .ok (.aload_n 1, 1) := by decide +kernel
theorem dX1_pass_117 : decode cX1_pass 117 = .ok (.iload_n 2, 1) := by decide +kernel
theorem dX1_pass_118 : decode cX1_pass 118 = .ok (.bipush 7, 2) := by decide +kernel
theorem dX1_pass_120 : decode cX1_pass 120 = .ok (.invokevirtual 58, 3) := by decide +kernel
theorem dX1_pass_123 : decode cX1_pass 123 = .ok (.goto 98, 3) := by decide +kernel
theorem dX1_pass_126 : decode cX1_pass 126 = .ok (.aload_n 1, 1) := by decide +kernel
theorem dX1_pass_127 : decode cX1_pass 127 = .ok (.iload_n 2, 1) := by decide +kernel
theorem dX1_pass_128 : decode cX1_pass 128 = .ok (.iload_n 2, 1) := by decide +kernel
theorem dX1_pass_129 : decode cX1_pass 129 = .ok (.aload_n 0, 1) := by decide +kernel
theorem dX1_pass_130 : decode cX1_pass 130 = .ok (.getfield 29, 3) := by decide +kernel
theorem dX1_pass_133 : decode cX1_pass 133 = .ok (.iadd, 1) := by decide +kernel
theorem dX1_pass_134 : decode cX1_pass 134 = .ok (.bipush 7, 2) := by decide +kernel
theorem dX1_pass_136 : decode cX1_pass 136 = .ok (.iand, 1) := by decide +kernel
theorem dX1_pass_137 : decode cX1_pass 137 = .ok (.iconst 0, 1) := by decide +kernel
theorem dX1_pass_138 : decode cX1_pass 138 = .ok (.iconst 1, 1) := by decide +kernel
theorem dX1_pass_139 : decode cX1_pass 139 = .ok (.invokevirtual 52, 3) := by decide +kernel
theorem dX1_pass_142 : decode cX1_pass 142 = .ok (.goto 79, 3) := by decide +kernel
theorem dX1_pass_145 : decode cX1_pass 145 = .ok (.aload_n 1, 1) := by decide +kernel
theorem dX1_pass_146 : decode cX1_pass 146 = .ok (.iload_n 2, 1) := by decide +kernel
theorem dX1_pass_147 : decode cX1_pass 147 = .ok (.bipush 7, 2) := by decide +kernel
theorem dX1_pass_149 : decode cX1_pass 149 = .ok (.iload_n 2, 1) := by decide +kernel
theorem dX1_pass_150 : decode cX1_pass 150 = .ok (.isub, 1) := by decide +kernel
theorem dX1_pass_151 : decode cX1_pass 151 = .ok (.iconst 0, 1) := by decide +kernel
theorem dX1_pass_152 : decode cX1_pass 152 = .ok (.iconst 1, 1) := by decide +kernel
theorem dX1_pass_153 : decode cX1_pass 153 = .ok (.invokevirtual 52, 3) := by decide +kernel
theorem dX1_pass_156 : decode cX1_pass 156 = .ok (.goto 65, 3) := by decide +kernel
theorem dX1_pass_159 : decode cX1_pass 159 = .ok (.aload_n 1, 1) := by decide +kernel
theorem dX1_pass_160 : decode cX1_pass 160 = .ok (.iload_n 2, 1) := by decide +kernel
theorem dX1_pass_161 : decode cX1_pass 161 = .ok (.iload_n 2, 1) := by decide +kernel
theorem dX1_pass_162 : decode cX1_pass 162 = .ok (.iconst 0, 1) := by decide +kernel
theorem dX1_pass_163 : decode cX1_pass 163 = .ok (.aload_n 0, 1) := by decide +kernel
theorem dX1_pass_164 : decode cX1_pass 164 = .ok (.getfield 29, 3) := by decide +kernel
theorem dX1_pass_167 : decode cX1_pass 167 = .ok (.invokevirtual 52, 3) := by decide +kernel
theorem dX1_pass_170 : decode cX1_pass 170 = .ok (.goto 51, 3) := by decide +kernel
theorem dX1_pass_173 : decode cX1_pass 173 = .ok (.aload_n 1, 1) := by decide +kernel
theorem dX1_pass_174 : decode cX1_pass 174 = .ok (.iload_n 2, 1) := by decide +kernel
theorem dX1_pass_175 : decode cX1_pass 175 = .ok (.iload_n 2, 1) := by decide +kernel
theorem dX1_pass_176 : decode cX1_pass 176 = .ok (.iconst 0, 1) := by decide +kernel
theorem dX1_pass_177 : decode cX1_pass 177 = .ok (.bipush 9, 2) := by decide +kernel
theorem dX1_pass_179 : decode cX1_pass 179 = .ok (.aload_n 0, 1) := by decide +kernel
theorem dX1_pass_180 : decode cX1_pass 180 = .ok (.getfield 22, 3) := by decide +kernel
theorem dX1_pass_183 : decode cX1_pass 183 = .ok (.iload_n 2, 1) := by decide +kernel
theorem dX1_pass_184 : decode cX1_pass 184 = .ok (.iaload, 1) := by decide +kernel
theorem dX1_pass_185 : decode cX1_pass 185 = .ok (.isub, 1) := by decide +kernel
theorem dX1_pass_186 : decode cX1_pass 186 = .ok (.invokevirtual 52, 3) := by decide +kernel
theorem dX1_pass_189 : decode cX1_pass 189 = .ok (.goto 32, 3) := by decide +kernel
theorem dX1_pass_192 : decode cX1_pass 192 = .ok (.aload_n 1, 1) := by decide +kernel
theorem dX1_pass_193 : decode cX1_pass 193 = .ok (.iload_n 2, 1) := by decide +kernel
theorem dX1_pass_194 : decode cX1_pass 194 = .ok (.aload_n 0, 1) := by decide +kernel
theorem dX1_pass_195 : decode cX1_pass 195 = .ok (.getfield 29, 3) := by decide +kernel
theorem dX1_pass_198 : decode cX1_pass 198 = .ok (.invokevirtual 62, 3) := by decide +kernel
theorem dX1_pass_201 : decode cX1_pass 201 = .ok (.goto 20, 3) := by decide +kernel
theorem dX1_pass_204 : decode cX1_pass 204 = .ok (.aload_n 1, 1) := by decide +kernel
theorem dX1_pass_205 : decode cX1_pass 205 = .ok (.iload_n 2, 1) := by decide +kernel
theorem dX1_pass_206 : decode cX1_pass 206 = .ok (.invokevirtual 65, 3) := by decide +kernel
theorem dX1_pass_209 : decode cX1_pass 209 = .ok (.goto 12, 3) := by decide +kernel
theorem dX1_pass_212 : decode cX1_pass 212 = .ok (.aload_n 1, 1) := by decide +kernel
theorem dX1_pass_213 : decode cX1_pass 213 = .ok (.iload_n 2, 1) := by decide +kernel
theorem dX1_pass_214 : decode cX1_pass 214 = .ok (.aload_n 0, 1) := by decide +kernel
theorem dX1_pass_215 : decode cX1_pass 215 = .ok (.getfield 29, 3) := by decide +kernel
theorem dX1_pass_218 : decode cX1_pass 218 = .ok (.invokevirtual 69, 3) := by decide +kernel
theorem dX1_pass_221 : decode cX1_pass 221 = .ok (.iinc 2 1, 3) := by decide +kernel
theorem dX1_pass_224 : decode cX1_pass 224 = .ok (.goto (-222), 3) := by decide +kernel
theorem dX1_pass_227 : decode cX1_pass 227 = .ok (.aload_n 1, 1) := by decide +kernel
theorem dX1_pass_228 : decode cX1_pass 228 = .ok (.aload_n 0, 1) := by decide +kernel
theorem dX1_pass_229 : decode cX1_pass 229 = .ok (.getfield 15, 3) := by decide +kernel
theorem dX1_pass_232 : decode cX1_pass 232 = .ok (.invokevirtual 72, 3) := by decide +kernel
theorem dX1_pass_235 : decode cX1_pass 235 = .ok (.return_, 1) := by decide +kernel
theorem dX2_init_0 : decode cX2_init 0 = .ok (.aload_n 0, 1) := by decide +kernel
theorem dX2_init_1 : decode cX2_init 1 = .ok (.invokespecial 3, 3) := by decide +kernel
theorem dX2_init_4 : decode cX2_init 4 = .ok (.aload_n 0, 1) := by decide +kernel
theorem dX2_init_5 : decode cX2_init 5 = .ok (.bipush 8, 2) := by decide +kernel
theorem dX2_init_7 : decode cX2_init 7 = .ok (.newarray .long, 2) := by decide +kernel
theorem dX2_init_9 : decode cX2_init 9 = .ok (.putfield 9, 3) := by decide +kernel
theorem dX2_init_12 : decode cX2_init 12 = .ok (.aload_n 0, 1) := by decide +kernel
theorem dX2_init_13 : decode cX2_init 13 = .ok (.bipush 8, 2) := by decide +kernel
theorem dX2_init_15 : decode cX2_init 15 = .ok (.newarray .long, 2) := by decide +kernel
theorem dX2_init_17 : decode cX2_init 17 = .ok (.putfield 15, 3) := by decide +kernel
theorem dX2_init_20 : decode cX2_init 20 = .ok (.return_, 1) := by decide +kernel
set_option maxRecDepth 20000 in
theorem ggX2_wipe_J7_fill_d0a16 : GoodIn wsX2_wipe wsJ7_fill_d0a16 := goodIn_r _ [6] (by decide +kernel) (by decide +kernel)
set_option maxRecDepth 20000 in
theorem gX2_wipe_J7_fill_d0a16 : GoodIn wsX2_wipe (va_wsS RX2 18 yJ7_fill_d0a16 wsJ7_fill_d0a16) := goodIn_app (goodIn_of _ (by decide +kernel)) ggX2_wipe_J7_fill_d0a16
theorem dX2_wipe_0 : decode cX2_wipe 0 = .ok (.aload_n 0, 1) := by decide +kernel
theorem dX2_wipe_1 : decode cX2_wipe 1 = .ok (.getfield 9, 3) := by decide +kernel
theorem dX2_wipe_4 : decode cX2_wipe 4 = .ok (.lconst 0, 1) := by decide +kernel
theorem dX2_wipe_5 : decode cX2_wipe 5 = .ok (.invokestatic 18, 3) := by decide +kernel
theorem dX2_wipe_8 : decode cX2_wipe 8 = .ok (.aload_n 0, 1) := by decide +kernel
theorem dX2_wipe_9 : decode cX2_wipe 9 = .ok (.getfield 15, 3) := by decide +kernel
theorem dX2_wipe_12 : decode cX2_wipe 12 = .ok (.lconst 0, 1) := by decide +kernel
theorem dX2_wipe_13 : decode cX2_wipe 13 = .ok (.invokestatic 18, 3) := by decide +kernel
theorem dX2_wipe_16 : decode cX2_wipe 16 = .ok (.return_, 1) := by decide +kernel
set_option maxRecDepth 20000 in
theorem ggX2_add_X0_wholeAt : GoodIn wsX2_add wsX0_wholeAt := goodIn_r _ [7, 8, 9, 10, 6, 11, 12, 13, 14, 15, 29, 30] (by decide +kernel) (by decide +kernel)
set_option maxRecDepth 20000 in
theorem gX2_add_X0_wholeAt : GoodIn wsX2_add (wsV RX2 24 RX0 yX0_wholeAt wsX0_wholeAt) := goodIn_app (goodIn_of _ (by decide +kernel)) ggX2_add_X0_wholeAt
set_option maxRecDepth 20000 in
theorem ggX2_add_X0_rootAt : GoodIn wsX2_add wsX0_rootAt := goodIn_r _ [19, 13, 14, 6, 15, 20, 21, 22, 23, 12, 24, 25, 26, 29, 30] (by decide +kernel) (by decide +kernel)
set_option maxRecDepth 20000 in
theorem gX2_add_X0_rootAt : GoodIn wsX2_add (wsV RX2 30 RX0 yX0_rootAt wsX0_rootAt) := goodIn_app (goodIn_of _ (by decide +kernel)) ggX2_add_X0_rootAt
theorem dX2_add_0 : decode cX2_add 0 = .ok (.iconst 0, 1) := by decide +kernel
theorem dX2_add_1 : decode cX2_add 1 = .ok (.istore_n 2, 1) := by decide +kernel
theorem dX2_add_2 : decode cX2_add 2 = .ok (.iload_n 2, 1) := by decide +kernel
theorem dX2_add_3 : decode cX2_add 3 = .ok (.bipush 8, 2) := by decide +kernel
theorem dX2_add_5 : decode cX2_add 5 = .ok (.if_icmp .ge 37, 3) := by decide +kernel
theorem dX2_add_8 : decode cX2_add 8 = .ok (.aload_n 0, 1) := by decide +kernel
theorem dX2_add_9 : decode cX2_add 9 = .ok (.getfield 9, 3) := by decide +kernel
theorem dX2_add_12 : decode cX2_add 12 = .ok (.iload_n 2, 1) := by decide +kernel
theorem dX2_add_13 : decode cX2_add 13 = .ok (.dup2, 1) := by decide +kernel
theorem dX2_add_14 : decode cX2_add 14 = .ok (.laload, 1) := by decide +kernel
theorem dX2_add_15 : decode cX2_add 15 = .ok (.aload_n 1, 1) := by decide +kernel
theorem dX2_add_16 : decode cX2_add 16 = .ok (.iload_n 2, 1) := by decide +kernel
theorem dX2_add_17 : decode cX2_add 17 = .ok (.invokevirtual 24, 3) := by decide +kernel
theorem dX2_add_20 : decode cX2_add 20 = .ok (.ladd, 1) := by decide +kernel
theorem dX2_add_21 : decode cX2_add 21 = .ok (.lastore, 1) := by decide +kernel
theorem dX2_add_22 : decode cX2_add 22 = .ok (.aload_n 0, 1) := by decide +kernel
theorem dX2_add_23 : decode cX2_add 23 = .ok (.getfield 15, 3) := by decide +kernel
theorem dX2_add_26 : decode cX2_add 26 = .ok (.iload_n 2, 1) := by decide +kernel
theorem dX2_add_27 : decode cX2_add 27 = .ok (.dup2, 1) := by decide +kernel
theorem dX2_add_28 : decode cX2_add 28 = .ok (.laload, 1) := by decide +kernel
theorem dX2_add_29 : decode cX2_add 29 = .ok (.aload_n 1, 1) := by decide +kernel
theorem dX2_add_30 : decode cX2_add 30 = .ok (.iload_n 2, 1) := by decide +kernel
theorem dX2_add_31 : decode cX2_add 31 = .ok (.invokevirtual 30, 3) := by decide +kernel
theorem dX2_add_34 : decode cX2_add 34 = .ok (.ladd, 1) := by decide +kernel
theorem dX2_add_35 : decode cX2_add 35 = .ok (.lastore, 1) := by decide +kernel
theorem dX2_add_36 : decode cX2_add 36 = .ok (.iinc 2 1, 3) := by decide +kernel
theorem dX2_add_39 : decode cX2_add 39 = .ok (.goto (-37), 3) := by decide +kernel
theorem dX2_add_42 : decode cX2_add 42 = .ok (.return_, 1) := by decide +kernel
set_option maxRecDepth 20000 in
theorem ggX2_sumOfWholes_X2_sum : GoodIn wsX2_sumOfWholes wsX2_sum := goodIn_r _ [5] (by decide +kernel) (by decide +kernel)
set_option maxRecDepth 20000 in
theorem gX2_sumOfWholes_X2_sum : GoodIn wsX2_sumOfWholes (va_wsS RX2 33 yX2_sum wsX2_sum) := goodIn_app (goodIn_of _ (by decide +kernel)) ggX2_sumOfWholes_X2_sum
theorem dX2_sumOfWholes_0 : decode cX2_sumOfWholes 0 = .ok (.aload_n 0, 1) := by decide +kernel
theorem dX2_sumOfWholes_1 : decode cX2_sumOfWholes 1 = .ok (.getfield 9, 3) := by decide +kernel
theorem dX2_sumOfWholes_4 : decode cX2_sumOfWholes 4 = .ok (.invokestatic 33, 3) := by decide +kernel
theorem dX2_sumOfWholes_7 : decode cX2_sumOfWholes 7 = .ok (.lreturn, 1) := by decide +kernel
set_option maxRecDepth 20000 in
theorem ggX2_sumOfRoots_X2_sum : GoodIn wsX2_sumOfRoots wsX2_sum := goodIn_r _ [5] (by decide +kernel) (by decide +kernel)
set_option maxRecDepth 20000 in
theorem gX2_sumOfRoots_X2_sum : GoodIn wsX2_sumOfRoots (va_wsS RX2 33 yX2_sum wsX2_sum) := goodIn_app (goodIn_of _ (by decide +kernel)) ggX2_sumOfRoots_X2_sum
theorem dX2_sumOfRoots_0 : decode cX2_sumOfRoots 0 = .ok (.aload_n 0, 1) := by decide +kernel
theorem dX2_sumOfRoots_1 : decode cX2_sumOfRoots 1 = .ok (.getfield 15, 3) := by decide +kernel
theorem dX2_sumOfRoots_4 : decode cX2_sumOfRoots 4 = .ok (.invokestatic 33, 3) := by decide +kernel
theorem dX2_sumOfRoots_7 : decode cX2_sumOfRoots 7 = .ok (.lreturn, 1) := by decide +kernel
theorem dX2_sum_0 : decode cX2_sum 0 = .ok (.lconst 0, 1) := by decide +kernel
theorem dX2_sum_1 : decode cX2_sum 1 = .ok (.lstore_n 1, 1) := by decide +kernel
theorem dX2_sum_2 : decode cX2_sum 2 = .ok (.iconst 0, 1) := by decide +kernel
theorem dX2_sum_3 : decode cX2_sum 3 = .ok (.istore_n 3, 1) := by decide +kernel
theorem dX2_sum_4 : decode cX2_sum 4 = .ok (.iload_n 3, 1) := by decide +kernel
theorem dX2_sum_5 : decode cX2_sum 5 = .ok (.aload_n 0, 1) := by decide +kernel
theorem dX2_sum_6 : decode cX2_sum 6 = .ok (.arraylength, 1) := by decide +kernel
theorem dX2_sum_7 : decode cX2_sum 7 = .ok (.if_icmp .ge 15, 3) := by decide +kernel
theorem dX2_sum_10 : decode cX2_sum 10 = .ok (.lload_n 1, 1) := by decide +kernel
theorem dX2_sum_11 : decode cX2_sum 11 = .ok (.aload_n 0, 1) := by decide +kernel
theorem dX2_sum_12 : decode cX2_sum 12 = .ok (.iload_n 3, 1) := by decide +kernel
theorem dX2_sum_13 : decode cX2_sum 13 = .ok (.laload, 1) := by decide +kernel
theorem dX2_sum_14 : decode cX2_sum 14 = .ok (.ladd, 1) := by decide +kernel
theorem dX2_sum_15 : decode cX2_sum 15 = .ok (.lstore_n 1, 1) := by decide +kernel
theorem dX2_sum_16 : decode cX2_sum 16 = .ok (.iinc 3 1, 3) := by decide +kernel
theorem dX2_sum_19 : decode cX2_sum 19 = .ok (.goto (-15), 3) := by decide +kernel
theorem dX2_sum_22 : decode cX2_sum 22 = .ok (.lload_n 1, 1) := by decide +kernel
theorem dX2_sum_23 : decode cX2_sum 23 = .ok (.lreturn, 1) := by decide +kernel
theorem dX2_valueAt_0 : decode cX2_valueAt 0 = .ok (.aload_n 0, 1) := by decide +kernel
theorem dX2_valueAt_1 : decode cX2_valueAt 1 = .ok (.getfield 9, 3) := by decide +kernel
theorem dX2_valueAt_4 : decode cX2_valueAt 4 = .ok (.iload_n 1, 1) := by decide +kernel
theorem dX2_valueAt_5 : decode cX2_valueAt 5 = .ok (.bipush 7, 2) := by decide +kernel
theorem dX2_valueAt_7 : decode cX2_valueAt 7 = .ok (.iand, 1) := by decide +kernel
theorem dX2_valueAt_8 : decode cX2_valueAt 8 = .ok (.laload, 1) := by decide +kernel
theorem dX2_valueAt_9 : decode cX2_valueAt 9 = .ok (.l2d, 1) := by decide +kernel
theorem dX2_valueAt_10 : decode cX2_valueAt 10 = .ok (.ldc2_w 37, 3) := by decide +kernel
theorem dX2_valueAt_13 : decode cX2_valueAt 13 = .ok (.aload_n 0, 1) := by decide +kernel
theorem dX2_valueAt_14 : decode cX2_valueAt 14 = .ok (.getfield 15, 3) := by decide +kernel
theorem dX2_valueAt_17 : decode cX2_valueAt 17 = .ok (.iload_n 1, 1) := by decide +kernel
theorem dX2_valueAt_18 : decode cX2_valueAt 18 = .ok (.bipush 7, 2) := by decide +kernel
theorem dX2_valueAt_20 : decode cX2_valueAt 20 = .ok (.iand, 1) := by decide +kernel
theorem dX2_valueAt_21 : decode cX2_valueAt 21 = .ok (.laload, 1) := by decide +kernel
theorem dX2_valueAt_22 : decode cX2_valueAt 22 = .ok (.l2d, 1) := by decide +kernel
theorem dX2_valueAt_23 : decode cX2_valueAt 23 = .ok (.dmul, 1) := by decide +kernel
theorem dX2_valueAt_24 : decode cX2_valueAt 24 = .ok (.dadd, 1) := by decide +kernel
theorem dX2_valueAt_25 : decode cX2_valueAt 25 = .ok (.dreturn, 1) := by decide +kernel
set_option maxRecDepth 20000 in
theorem ggX2_placeOfGreatest_X2_valueAt : GoodIn wsX2_placeOfGreatest wsX2_valueAt := goodIn_r _ [5, 6, 7, 8, 9, 10] (by decide +kernel) (by decide +kernel)
set_option maxRecDepth 20000 in
theorem gX2_placeOfGreatest_X2_valueAt : GoodIn wsX2_placeOfGreatest (wsV RX2 39 RX2 yX2_valueAt wsX2_valueAt) := goodIn_app (goodIn_of _ (by decide +kernel)) ggX2_placeOfGreatest_X2_valueAt
theorem dX2_placeOfGreatest_0 : decode cX2_placeOfGreatest 0 = .ok (.iconst 0, 1) := by decide +kernel
theorem dX2_placeOfGreatest_1 : decode cX2_placeOfGreatest 1 = .ok (.istore_n 1, 1) := by decide +kernel
theorem dX2_placeOfGreatest_2 : decode cX2_placeOfGreatest 2 = .ok (.iconst 1, 1) := by decide +kernel
theorem dX2_placeOfGreatest_3 : decode cX2_placeOfGreatest 3 = .ok (.istore_n 2, 1) := by decide +kernel
theorem dX2_placeOfGreatest_4 : decode cX2_placeOfGreatest 4 = .ok (.iload_n 2, 1) := by decide +kernel
theorem dX2_placeOfGreatest_5 : decode cX2_placeOfGreatest 5 = .ok (.bipush 8, 2) := by decide +kernel
theorem dX2_placeOfGreatest_7 : decode cX2_placeOfGreatest 7 = .ok (.if_icmp .ge 25, 3) := by decide +kernel
theorem dX2_placeOfGreatest_10 : decode cX2_placeOfGreatest 10 = .ok (.aload_n 0, 1) := by decide +kernel
theorem dX2_placeOfGreatest_11 : decode cX2_placeOfGreatest 11 = .ok (.iload_n 2, 1) := by decide +kernel
theorem dX2_placeOfGreatest_12 : decode cX2_placeOfGreatest 12 = .ok (.invokevirtual 39, 3) := by decide +kernel
theorem dX2_placeOfGreatest_15 : decode cX2_placeOfGreatest 15 = .ok (.aload_n 0, 1) := by decide +kernel
theorem dX2_placeOfGreatest_16 : decode cX2_placeOfGreatest 16 = .ok (.iload_n 1, 1) := by decide +kernel
theorem dX2_placeOfGreatest_17 : decode cX2_placeOfGreatest 17 = .ok (.invokevirtual 39, 3) := by decide +kernel
theorem dX2_placeOfGreatest_20 : decode cX2_placeOfGreatest 20 = .ok (.dcmp .l, 1) := by decide +kernel
theorem dX2_placeOfGreatest_21 : decode cX2_placeOfGreatest 21 = .ok (.ifCond .le 5, 3) := by decide +kernel
theorem dX2_placeOfGreatest_24 : decode cX2_placeOfGreatest 24 = .ok (.iload_n 2, 1) := by decide +kernel
theorem dX2_placeOfGreatest_25 : decode cX2_placeOfGreatest 25 = .ok (.istore_n 1, 1) := by decide +kernel
theorem dX2_placeOfGreatest_26 : decode cX2_placeOfGreatest 26 = .ok (.iinc 2 1, 3) := by decide +kernel
theorem dX2_placeOfGreatest_29 : decode cX2_placeOfGreatest 29 = .ok (.goto (-25), 3) := by decide +kernel
theorem dX2_placeOfGreatest_32 : decode cX2_placeOfGreatest 32 = .ok (.iload_n 1, 1) := by decide +kernel
theorem dX2_placeOfGreatest_33 : decode cX2_placeOfGreatest 33 = .ok (.ireturn, 1) := by decide +kernel
set_option maxRecDepth 20000 in
theorem ggX2_greatest_X2_placeOfGreatest : GoodIn wsX2_greatest wsX2_placeOfGreatest := goodIn_r _ [5, 6, 7, 8, 4, 9, 10, 11, 12, 13, 14] (by decide +kernel) (by decide +kernel)
set_option maxRecDepth 20000 in
theorem gX2_greatest_X2_placeOfGreatest : GoodIn wsX2_greatest (wsV RX2 43 RX2 yX2_placeOfGreatest wsX2_placeOfGreatest) := goodIn_app (goodIn_of _ (by decide +kernel)) ggX2_greatest_X2_placeOfGreatest
set_option maxRecDepth 20000 in
theorem ggX2_greatest_X2_valueAt : GoodIn wsX2_greatest wsX2_valueAt := goodIn_r _ [9, 10, 11, 12, 13, 14] (by decide +kernel) (by decide +kernel)
set_option maxRecDepth 20000 in
theorem gX2_greatest_X2_valueAt : GoodIn wsX2_greatest (wsV RX2 39 RX2 yX2_valueAt wsX2_valueAt) := goodIn_app (goodIn_of _ (by decide +kernel)) ggX2_greatest_X2_valueAt
theorem dX2_greatest_0 : decode cX2_greatest 0 = .ok (.aload_n 0, 1) := by decide +kernel
theorem dX2_greatest_1 : decode cX2_greatest 1 = .ok (.aload_n 0, 1) := by decide +kernel
theorem dX2_greatest_2 : decode cX2_greatest 2 = .ok (.invokevirtual 43, 3) := by decide +kernel
theorem dX2_greatest_5 : decode cX2_greatest 5 = .ok (.invokevirtual 39, 3) := by decide +kernel
theorem dX2_greatest_8 : decode cX2_greatest 8 = .ok (.dreturn, 1) := by decide +kernel
set_option maxRecDepth 20000 in
theorem ggX2_least_X2_valueAt : GoodIn wsX2_least wsX2_valueAt := goodIn_r _ [5, 6, 7, 8, 9, 10] (by decide +kernel) (by decide +kernel)
set_option maxRecDepth 20000 in
theorem gX2_least_X2_valueAt : GoodIn wsX2_least (wsV RX2 39 RX2 yX2_valueAt wsX2_valueAt) := goodIn_app (goodIn_of _ (by decide +kernel)) ggX2_least_X2_valueAt
theorem dX2_least_0 : decode cX2_least 0 = .ok (.aload_n 0, 1) := by decide +kernel
theorem dX2_least_1 : decode cX2_least 1 = .ok (.iconst 0, 1) := by decide +kernel
theorem dX2_least_2 : decode cX2_least 2 = .ok (.invokevirtual 39, 3) := by decide +kernel
theorem dX2_least_5 : decode cX2_least 5 = .ok (.dstore_n 1, 1) := by decide +kernel
theorem dX2_least_6 : decode cX2_least 6 = .ok (.iconst 1, 1) := by decide +kernel
theorem dX2_least_7 : decode cX2_least 7 = .ok (.istore_n 3, 1) := by decide +kernel
theorem dX2_least_8 : decode cX2_least 8 = .ok (.iload_n 3, 1) := by decide +kernel
theorem dX2_least_9 : decode cX2_least 9 = .ok (.bipush 8, 2) := by decide +kernel
theorem dX2_least_11 : decode cX2_least 11 = .ok (.if_icmp .ge 30, 3) := by decide +kernel
theorem dX2_least_14 : decode cX2_least 14 = .ok (.aload_n 0, 1) := by decide +kernel
theorem dX2_least_15 : decode cX2_least 15 = .ok (.iload_n 3, 1) := by decide +kernel
theorem dX2_least_16 : decode cX2_least 16 = .ok (.invokevirtual 39, 3) := by decide +kernel
theorem dX2_least_19 : decode cX2_least 19 = .ok (.dstore 4, 2) := by decide +kernel
theorem dX2_least_21 : decode cX2_least 21 = .ok (.dload 4, 2) := by decide +kernel
theorem dX2_least_23 : decode cX2_least 23 = .ok (.dload_n 1, 1) := by decide +kernel
theorem dX2_least_24 : decode cX2_least 24 = .ok (.dcmp .g, 1) := by decide +kernel
theorem dX2_least_25 : decode cX2_least 25 = .ok (.ifCond .ge 8, 3) := by decide +kernel
theorem dX2_least_28 : decode cX2_least 28 = .ok (.dload 4, 2) := by decide +kernel
theorem dX2_least_30 : decode cX2_least 30 = .ok (.goto 4, 3) := by decide +kernel
theorem dX2_least_33 : decode cX2_least 33 = .ok (.dload_n 1, 1) := by decide +kernel
theorem dX2_least_34 : decode cX2_least 34 = .ok (.dstore_n 1, 1) := by decide +kernel
theorem dX2_least_35 : decode cX2_least 35 = .ok (.iinc 3 1, 3) := by decide +kernel
theorem dX2_least_38 : decode cX2_least 38 = .ok (.goto (-30), 3) := by decide +kernel
theorem dX2_least_41 : decode cX2_least 41 = .ok (.dload_n 1, 1) := by decide +kernel
theorem dX2_least_42 : decode cX2_least 42 = .ok (.dreturn, 1) := by decide +kernel
theorem dX2_darkPlaces_0 : decode cX2_darkPlaces 0 = .ok (.iconst 0, 1) := by decide +kernel
theorem dX2_darkPlaces_1 : decode cX2_darkPlaces 1 = .ok (.istore_n 1, 1) := by decide +kernel
theorem dX2_darkPlaces_2 : decode cX2_darkPlaces 2 = .ok (.iconst 0, 1) := by decide +kernel
theorem dX2_darkPlaces_3 : decode cX2_darkPlaces 3 = .ok (.istore_n 2, 1) := by decide +kernel
theorem dX2_darkPlaces_4 : decode cX2_darkPlaces 4 = .ok (.iload_n 2, 1) := by decide +kernel
theorem dX2_darkPlaces_5 : decode cX2_darkPlaces 5 = .ok (.bipush 8, 2) := by decide +kernel
theorem dX2_darkPlaces_7 : decode cX2_darkPlaces 7 = .ok (.if_icmp .ge 37, 3) := by decide +kernel
theorem dX2_darkPlaces_10 : decode cX2_darkPlaces 10 = .ok (.aload_n 0, 1) := by decide +kernel
theorem dX2_darkPlaces_11 : decode cX2_darkPlaces 11 = .ok (.getfield 9, 3) := by decide +kernel
theorem dX2_darkPlaces_14 : decode cX2_darkPlaces 14 = .ok (.iload_n 2, 1) := by decide +kernel
theorem dX2_darkPlaces_15 : decode cX2_darkPlaces 15 = .ok (.laload, 1) := by decide +kernel
theorem dX2_darkPlaces_16 : decode cX2_darkPlaces 16 = .ok (.lconst 0, 1) := by decide +kernel
theorem dX2_darkPlaces_17 : decode cX2_darkPlaces 17 = .ok (.lcmp, 1) := by decide +kernel
theorem dX2_darkPlaces_18 : decode cX2_darkPlaces 18 = .ok (.ifCond .ne 20, 3) := by decide +kernel
theorem dX2_darkPlaces_21 : decode cX2_darkPlaces 21 = .ok (.aload_n 0, 1) := by decide +kernel
theorem dX2_darkPlaces_22 : decode cX2_darkPlaces 22 = .ok (.getfield 15, 3) := by decide +kernel
theorem dX2_darkPlaces_25 : decode cX2_darkPlaces 25 = .ok (.iload_n 2, 1) := by decide +kernel
theorem dX2_darkPlaces_26 : decode cX2_darkPlaces 26 = .ok (.laload, 1) := by decide +kernel
theorem dX2_darkPlaces_27 : decode cX2_darkPlaces 27 = .ok (.lconst 0, 1) := by decide +kernel
theorem dX2_darkPlaces_28 : decode cX2_darkPlaces 28 = .ok (.lcmp, 1) := by decide +kernel
theorem dX2_darkPlaces_29 : decode cX2_darkPlaces 29 = .ok (.ifCond .ne 9, 3) := by decide +kernel
theorem dX2_darkPlaces_32 : decode cX2_darkPlaces 32 = .ok (.iload_n 1, 1) := by decide +kernel
theorem dX2_darkPlaces_33 : decode cX2_darkPlaces 33 = .ok (.iconst 1, 1) := by decide +kernel
theorem dX2_darkPlaces_34 : decode cX2_darkPlaces 34 = .ok (.iload_n 2, 1) := by decide +kernel
theorem dX2_darkPlaces_35 : decode cX2_darkPlaces 35 = .ok (.ishl, 1) := by decide +kernel
theorem dX2_darkPlaces_36 : decode cX2_darkPlaces 36 = .ok (.ior, 1) := by decide +kernel
theorem dX2_darkPlaces_37 : decode cX2_darkPlaces 37 = .ok (.istore_n 1, 1) := by decide +kernel
theorem dX2_darkPlaces_38 : decode cX2_darkPlaces 38 = .ok (.iinc 2 1, 3) := by decide +kernel
theorem dX2_darkPlaces_41 : decode cX2_darkPlaces 41 = .ok (.goto (-37), 3) := by decide +kernel
theorem dX2_darkPlaces_44 : decode cX2_darkPlaces 44 = .ok (.iload_n 1, 1) := by decide +kernel
theorem dX2_darkPlaces_45 : decode cX2_darkPlaces 45 = .ok (.ireturn, 1) := by decide +kernel
set_option maxRecDepth 20000 in
theorem ggX2_shortestRoll_X2_isAsItWas : GoodIn wsX2_shortestRoll wsX2_isAsItWas := goodIn_r _ [5, 6, 7, 8, 9] (by decide +kernel) (by decide +kernel)
set_option maxRecDepth 20000 in
theorem gX2_shortestRoll_X2_isAsItWas : GoodIn wsX2_shortestRoll (wsV RX2 47 RX2 yX2_isAsItWas wsX2_isAsItWas) := goodIn_app (goodIn_of _ (by decide +kernel)) ggX2_shortestRoll_X2_isAsItWas
theorem dX2_shortestRoll_0 : decode cX2_shortestRoll 0 = .ok (.iconst 1, 1) := by decide +kernel
theorem dX2_shortestRoll_1 : decode cX2_shortestRoll 1 = .ok (.istore_n 1, 1) := by decide +kernel
theorem dX2_shortestRoll_2 : decode cX2_shortestRoll 2 = .ok (.iload_n 1, 1) := by decide +kernel
theorem dX2_shortestRoll_3 : decode cX2_shortestRoll 3 = .ok (.bipush 8, 2) := by decide +kernel
theorem dX2_shortestRoll_5 : decode cX2_shortestRoll 5 = .ok (.if_icmp .ge 19, 3) := by decide +kernel
theorem dX2_shortestRoll_8 : decode cX2_shortestRoll 8 = .ok (.aload_n 0, 1) := by decide +kernel
theorem dX2_shortestRoll_9 : decode cX2_shortestRoll 9 = .ok (.iload_n 1, 1) := by decide +kernel
theorem dX2_shortestRoll_10 : decode cX2_shortestRoll 10 = .ok (.invokevirtual 47, 3) := by decide +kernel
theorem dX2_shortestRoll_13 : decode cX2_shortestRoll 13 = .ok (.ifCond .eq 5, 3) := by decide +kernel
theorem dX2_shortestRoll_16 : decode cX2_shortestRoll 16 = .ok (.iload_n 1, 1) := by decide +kernel
theorem dX2_shortestRoll_17 : decode cX2_shortestRoll 17 = .ok (.ireturn, 1) := by decide +kernel
theorem dX2_shortestRoll_18 : decode cX2_shortestRoll 18 = .ok (.iinc 1 1, 3) := by decide +kernel
theorem dX2_shortestRoll_21 : decode cX2_shortestRoll 21 = .ok (.goto (-19), 3) := by decide +kernel
theorem dX2_shortestRoll_24 : decode cX2_shortestRoll 24 = .ok (.bipush 8, 2) := by decide +kernel
theorem dX2_shortestRoll_26 : decode cX2_shortestRoll 26 = .ok (.ireturn, 1) := by decide +kernel
theorem dX2_isAsItWas_0 : decode cX2_isAsItWas 0 = .ok (.iconst 0, 1) := by decide +kernel
theorem dX2_isAsItWas_1 : decode cX2_isAsItWas 1 = .ok (.istore_n 2, 1) := by decide +kernel
theorem dX2_isAsItWas_2 : decode cX2_isAsItWas 2 = .ok (.iload_n 2, 1) := by decide +kernel
theorem dX2_isAsItWas_3 : decode cX2_isAsItWas 3 = .ok (.bipush 8, 2) := by decide +kernel
theorem dX2_isAsItWas_5 : decode cX2_isAsItWas 5 = .ok (.if_icmp .ge 50, 3) := by decide +kernel
theorem dX2_isAsItWas_8 : decode cX2_isAsItWas 8 = .ok (.iload_n 2, 1) := by decide +kernel
theorem dX2_isAsItWas_9 : decode cX2_isAsItWas 9 = .ok (.iload_n 1, 1) := by decide +kernel
theorem dX2_isAsItWas_10 : decode cX2_isAsItWas 10 = .ok (.iadd, 1) := by decide +kernel
theorem dX2_isAsItWas_11 : decode cX2_isAsItWas 11 = .ok (.bipush 7, 2) := by decide +kernel
theorem dX2_isAsItWas_13 : decode cX2_isAsItWas 13 = .ok (.iand, 1) := by decide +kernel
theorem dX2_isAsItWas_14 : decode cX2_isAsItWas 14 = .ok (.istore_n 3, 1) := by decide +kernel
theorem dX2_isAsItWas_15 : decode cX2_isAsItWas 15 = .ok (.aload_n 0, 1) := by decide +kernel
theorem dX2_isAsItWas_16 : decode cX2_isAsItWas 16 = .ok (.getfield 9, 3) := by decide +kernel
theorem dX2_isAsItWas_19 : decode cX2_isAsItWas 19 = .ok (.iload_n 2, 1) := by decide +kernel
theorem dX2_isAsItWas_20 : decode cX2_isAsItWas 20 = .ok (.laload, 1) := by decide +kernel
theorem dX2_isAsItWas_21 : decode cX2_isAsItWas 21 = .ok (.aload_n 0, 1) := by decide +kernel
theorem dX2_isAsItWas_22 : decode cX2_isAsItWas 22 = .ok (.getfield 9, 3) := by decide +kernel
theorem dX2_isAsItWas_25 : decode cX2_isAsItWas 25 = .ok (.iload_n 3, 1) := by decide +kernel
theorem dX2_isAsItWas_26 : decode cX2_isAsItWas 26 = .ok (.laload, 1) := by decide +kernel
theorem dX2_isAsItWas_27 : decode cX2_isAsItWas 27 = .ok (.lcmp, 1) := by decide +kernel
theorem dX2_isAsItWas_28 : decode cX2_isAsItWas 28 = .ok (.ifCond .ne 19, 3) := by decide +kernel
theorem dX2_isAsItWas_31 : decode cX2_isAsItWas 31 = .ok (.aload_n 0, 1) := by decide +kernel
theorem dX2_isAsItWas_32 : decode cX2_isAsItWas 32 = .ok (.getfield 15, 3) := by decide +kernel
theorem dX2_isAsItWas_35 : decode cX2_isAsItWas 35 = .ok (.iload_n 2, 1) := by decide +kernel
theorem dX2_isAsItWas_36 : decode cX2_isAsItWas 36 = .ok (.laload, 1) := by decide +kernel
theorem dX2_isAsItWas_37 : decode cX2_isAsItWas 37 = .ok (.aload_n 0, 1) := by decide +kernel
theorem dX2_isAsItWas_38 : decode cX2_isAsItWas 38 = .ok (.getfield 15, 3) := by decide +kernel
theorem dX2_isAsItWas_41 : decode cX2_isAsItWas 41 = .ok (.iload_n 3, 1) := by decide +kernel
theorem dX2_isAsItWas_42 : decode cX2_isAsItWas 42 = .ok (.laload, 1) := by decide +kernel
theorem dX2_isAsItWas_43 : decode cX2_isAsItWas 43 = .ok (.lcmp, 1) := by decide +kernel
theorem dX2_isAsItWas_44 : decode cX2_isAsItWas 44 = .ok (.ifCond .eq 5, 3) := by decide +kernel
theorem dX2_isAsItWas_47 : decode cX2_isAsItWas 47 = .ok (.iconst 0, 1) := by decide +kernel
theorem dX2_isAsItWas_48 : decode cX2_isAsItWas 48 = .ok (.ireturn, 1) := by decide +kernel
theorem dX2_isAsItWas_49 : decode cX2_isAsItWas 49 = .ok (.iinc 2 1, 3) := by decide +kernel
theorem dX2_isAsItWas_52 : decode cX2_isAsItWas 52 = .ok (.goto (-50), 3) := by decide +kernel
theorem dX2_isAsItWas_55 : decode cX2_isAsItWas 55 = .ok (.iconst 1, 1) := by decide +kernel
theorem dX2_isAsItWas_56 : decode cX2_isAsItWas 56 = .ok (.ireturn, 1) := by decide +kernel
set_option maxRecDepth 20000 in
theorem ggX2_contrast_X2_greatest : GoodIn wsX2_contrast wsX2_greatest := goodIn_r _ [5, 6, 7, 8, 4, 9, 10, 11, 12, 13, 14, 15, 16, 24, 25] (by decide +kernel) (by decide +kernel)
set_option maxRecDepth 20000 in
theorem gX2_contrast_X2_greatest : GoodIn wsX2_contrast (wsV RX2 51 RX2 yX2_greatest wsX2_greatest) := goodIn_app (goodIn_of _ (by decide +kernel)) ggX2_contrast_X2_greatest
set_option maxRecDepth 20000 in
theorem ggX2_contrast_X2_notBelowZero : GoodIn wsX2_contrast wsX2_notBelowZero := goodIn_r _ [19] (by decide +kernel) (by decide +kernel)
set_option maxRecDepth 20000 in
theorem gX2_contrast_X2_notBelowZero : GoodIn wsX2_contrast (va_wsS RX2 55 yX2_notBelowZero wsX2_notBelowZero) := goodIn_app (goodIn_of _ (by decide +kernel)) ggX2_contrast_X2_notBelowZero
set_option maxRecDepth 20000 in
theorem ggX2_contrast_X2_least : GoodIn wsX2_contrast wsX2_least := goodIn_r _ [23, 10, 11, 12, 4, 13, 14, 15, 16, 24, 25] (by decide +kernel) (by decide +kernel)
set_option maxRecDepth 20000 in
theorem gX2_contrast_X2_least : GoodIn wsX2_contrast (wsV RX2 59 RX2 yX2_least wsX2_least) := goodIn_app (goodIn_of _ (by decide +kernel)) ggX2_contrast_X2_least
theorem dX2_contrast_0 : decode cX2_contrast 0 = .ok (.aload_n 0, 1) := by decide +kernel
theorem dX2_contrast_1 : decode cX2_contrast 1 = .ok (.invokevirtual 51, 3) := by decide +kernel
theorem dX2_contrast_4 : decode cX2_contrast 4 = .ok (.invokestatic 55, 3) := by decide +kernel
theorem dX2_contrast_7 : decode cX2_contrast 7 = .ok (.dstore_n 1, 1) := by decide +kernel
theorem dX2_contrast_8 : decode cX2_contrast 8 = .ok (.aload_n 0, 1) := by decide +kernel
theorem dX2_contrast_9 : decode cX2_contrast 9 = .ok (.invokevirtual 59, 3) := by decide +kernel
theorem dX2_contrast_12 : decode cX2_contrast 12 = .ok (.invokestatic 55, 3) := by decide +kernel
theorem dX2_contrast_15 : decode cX2_contrast 15 = .ok (.dstore_n 3, 1) := by decide +kernel
theorem dX2_contrast_16 : decode cX2_contrast 16 = .ok (.dload_n 1, 1) := by decide +kernel
theorem dX2_contrast_17 : decode cX2_contrast 17 = .ok (.dload_n 3, 1) := by decide +kernel
theorem dX2_contrast_18 : decode cX2_contrast 18 = .ok (.dadd, 1) := by decide +kernel
theorem dX2_contrast_19 : decode cX2_contrast 19 = .ok (.dstore 5, 2) := by decide +kernel
theorem dX2_contrast_21 : decode cX2_contrast 21 = .ok (.dload 5, 2) := by decide +kernel
theorem dX2_contrast_23 : decode cX2_contrast 23 = .ok (.dconst 0, 1) := by decide +kernel
theorem dX2_contrast_24 : decode cX2_contrast 24 = .ok (.dcmp .l, 1) := by decide +kernel
theorem dX2_contrast_25 : decode cX2_contrast 25 = .ok (.ifCond .le 12, 3) := by decide +kernel
theorem dX2_contrast_28 : decode cX2_contrast 28 = .ok (.dload_n 1, 1) := by decide +kernel
theorem dX2_contrast_29 : decode cX2_contrast 29 = .ok (.dload_n 3, 1) := by decide +kernel
theorem dX2_contrast_30 : decode cX2_contrast 30 = .ok (.dsub, 1) := by decide +kernel
theorem dX2_contrast_31 : decode cX2_contrast 31 = .ok (.dload 5, 2) := by decide +kernel
theorem dX2_contrast_33 : decode cX2_contrast 33 = .ok (.ddiv, 1) := by decide +kernel
theorem dX2_contrast_34 : decode cX2_contrast 34 = .ok (.goto 4, 3) := by decide +kernel
theorem dX2_contrast_37 : decode cX2_contrast 37 = .ok (.dconst 0, 1) := by decide +kernel
theorem dX2_contrast_38 : decode cX2_contrast 38 = .ok (.dreturn, 1) := by decide +kernel
set_option maxRecDepth 20000 in
theorem ggX2_inTenths_X2_greatest : GoodIn wsX2_inTenths wsX2_greatest := goodIn_r _ [6, 7, 8, 9, 5, 10, 11, 12, 13, 14, 15, 16, 17, 25, 26] (by decide +kernel) (by decide +kernel)
set_option maxRecDepth 20000 in
theorem gX2_inTenths_X2_greatest : GoodIn wsX2_inTenths (wsV RX2 51 RX2 yX2_greatest wsX2_greatest) := goodIn_app (goodIn_of _ (by decide +kernel)) ggX2_inTenths_X2_greatest
set_option maxRecDepth 20000 in
theorem ggX2_inTenths_X2_valueAt : GoodIn wsX2_inTenths wsX2_valueAt := goodIn_r _ [14, 15, 16, 17, 25, 26] (by decide +kernel) (by decide +kernel)
set_option maxRecDepth 20000 in
theorem gX2_inTenths_X2_valueAt : GoodIn wsX2_inTenths (wsV RX2 39 RX2 yX2_valueAt wsX2_valueAt) := goodIn_app (goodIn_of _ (by decide +kernel)) ggX2_inTenths_X2_valueAt
set_option maxRecDepth 20000 in
theorem ggX2_inTenths_X2_roundToEven : GoodIn wsX2_inTenths wsX2_roundToEven := goodIn_r _ [20, 21, 22, 5, 23, 24] (by decide +kernel) (by decide +kernel)
set_option maxRecDepth 20000 in
theorem gX2_inTenths_X2_roundToEven : GoodIn wsX2_inTenths (va_wsS RX2 64 yX2_roundToEven wsX2_roundToEven) := goodIn_app (goodIn_of _ (by decide +kernel)) ggX2_inTenths_X2_roundToEven
theorem dX2_inTenths_0 : decode cX2_inTenths 0 = .ok (.aload_n 0, 1) := by decide +kernel
theorem dX2_inTenths_1 : decode cX2_inTenths 1 = .ok (.invokevirtual 51, 3) := by decide +kernel
theorem dX2_inTenths_4 : decode cX2_inTenths 4 = .ok (.dstore_n 2, 1) := by decide +kernel
theorem dX2_inTenths_5 : decode cX2_inTenths 5 = .ok (.dload_n 2, 1) := by decide +kernel
theorem dX2_inTenths_6 : decode cX2_inTenths 6 = .ok (.dconst 0, 1) := by decide +kernel
theorem dX2_inTenths_7 : decode cX2_inTenths 7 = .ok (.dcmp .l, 1) := by decide +kernel
theorem dX2_inTenths_8 : decode cX2_inTenths 8 = .ok (.ifCond .le 20, 3) := by decide +kernel
theorem dX2_inTenths_11 : decode cX2_inTenths 11 = .ok (.ldc2_w 62, 3) := by decide +kernel
theorem dX2_inTenths_14 : decode cX2_inTenths 14 = .ok (.aload_n 0, 1) := by decide +kernel
theorem dX2_inTenths_15 : decode cX2_inTenths 15 = .ok (.iload_n 1, 1) := by decide +kernel
theorem dX2_inTenths_16 : decode cX2_inTenths 16 = .ok (.invokevirtual 39, 3) := by decide +kernel
theorem dX2_inTenths_19 : decode cX2_inTenths 19 = .ok (.dmul, 1) := by decide +kernel
theorem dX2_inTenths_20 : decode cX2_inTenths 20 = .ok (.dload_n 2, 1) := by decide +kernel
theorem dX2_inTenths_21 : decode cX2_inTenths 21 = .ok (.ddiv, 1) := by decide +kernel
theorem dX2_inTenths_22 : decode cX2_inTenths 22 = .ok (.invokestatic 64, 3) := by decide +kernel
theorem dX2_inTenths_25 : decode cX2_inTenths 25 = .ok (.goto 4, 3) := by decide +kernel
theorem dX2_inTenths_28 : decode cX2_inTenths 28 = .ok (.dconst 0, 1) := by decide +kernel
theorem dX2_inTenths_29 : decode cX2_inTenths 29 = .ok (.dreturn, 1) := by decide +kernel
theorem dX2_notBelowZero_0 : decode cX2_notBelowZero 0 = .ok (.dload_n 0, 1) := by decide +kernel
theorem dX2_notBelowZero_1 : decode cX2_notBelowZero 1 = .ok (.dconst 0, 1) := by decide +kernel
theorem dX2_notBelowZero_2 : decode cX2_notBelowZero 2 = .ok (.dcmp .l, 1) := by decide +kernel
theorem dX2_notBelowZero_3 : decode cX2_notBelowZero 3 = .ok (.ifCond .le 7, 3) := by decide +kernel
theorem dX2_notBelowZero_6 : decode cX2_notBelowZero 6 = .ok (.dload_n 0, 1) := by decide +kernel
theorem dX2_notBelowZero_7 : decode cX2_notBelowZero 7 = .ok (.goto 4, 3) := by decide +kernel
theorem dX2_notBelowZero_10 : decode cX2_notBelowZero 10 = .ok (.dconst 0, 1) := by decide +kernel
theorem dX2_notBelowZero_11 : decode cX2_notBelowZero 11 = .ok (.dreturn, 1) := by decide +kernel
set_option maxRecDepth 20000 in
theorem ggX2_roundToEven_X2_roundAboveZero : GoodIn wsX2_roundToEven wsX2_roundAboveZero := goodIn_r _ [4, 5] (by decide +kernel) (by decide +kernel)
set_option maxRecDepth 20000 in
theorem gX2_roundToEven_X2_roundAboveZero : GoodIn wsX2_roundToEven (va_wsS RX2 67 yX2_roundAboveZero wsX2_roundAboveZero) := goodIn_app (goodIn_of _ (by decide +kernel)) ggX2_roundToEven_X2_roundAboveZero
theorem dX2_roundToEven_0 : decode cX2_roundToEven 0 = .ok (.dload_n 0, 1) := by decide +kernel
theorem dX2_roundToEven_1 : decode cX2_roundToEven 1 = .ok (.dconst 0, 1) := by decide +kernel
theorem dX2_roundToEven_2 : decode cX2_roundToEven 2 = .ok (.dcmp .g, 1) := by decide +kernel
theorem dX2_roundToEven_3 : decode cX2_roundToEven 3 = .ok (.ifCond .ge 10, 3) := by decide +kernel
theorem dX2_roundToEven_6 : decode cX2_roundToEven 6 = .ok (.dload_n 0, 1) := by decide +kernel
theorem dX2_roundToEven_7 : decode cX2_roundToEven 7 = .ok (.dneg, 1) := by decide +kernel
theorem dX2_roundToEven_8 : decode cX2_roundToEven 8 = .ok (.invokestatic 67, 3) := by decide +kernel
theorem dX2_roundToEven_11 : decode cX2_roundToEven 11 = .ok (.dneg, 1) := by decide +kernel
theorem dX2_roundToEven_12 : decode cX2_roundToEven 12 = .ok (.dreturn, 1) := by decide +kernel
theorem dX2_roundToEven_13 : decode cX2_roundToEven 13 = .ok (.dload_n 0, 1) := by decide +kernel
theorem dX2_roundToEven_14 : decode cX2_roundToEven 14 = .ok (.invokestatic 67, 3) := by decide +kernel
theorem dX2_roundToEven_17 : decode cX2_roundToEven 17 = .ok (.dreturn, 1) := by decide +kernel
theorem dX2_roundAboveZero_0 : decode cX2_roundAboveZero 0 = .ok (.ldc2_w 70, 3) := by decide +kernel
theorem dX2_roundAboveZero_3 : decode cX2_roundAboveZero 3 = .ok (.dstore_n 2, 1) := by decide +kernel
theorem dX2_roundAboveZero_4 : decode cX2_roundAboveZero 4 = .ok (.dload_n 0, 1) := by decide +kernel
theorem dX2_roundAboveZero_5 : decode cX2_roundAboveZero 5 = .ok (.dload_n 2, 1) := by decide +kernel
theorem dX2_roundAboveZero_6 : decode cX2_roundAboveZero 6 = .ok (.dcmp .g, 1) := by decide +kernel
theorem dX2_roundAboveZero_7 : decode cX2_roundAboveZero 7 = .ok (.ifCond .ge 11, 3) := by decide +kernel
theorem dX2_roundAboveZero_10 : decode cX2_roundAboveZero 10 = .ok (.dload_n 0, 1) := by decide +kernel
theorem dX2_roundAboveZero_11 : decode cX2_roundAboveZero 11 = .ok (.dload_n 2, 1) := by decide +kernel
theorem dX2_roundAboveZero_12 : decode cX2_roundAboveZero 12 = .ok (.dadd, 1) := by decide +kernel
theorem dX2_roundAboveZero_13 : decode cX2_roundAboveZero 13 = .ok (.dload_n 2, 1) := by decide +kernel
theorem dX2_roundAboveZero_14 : decode cX2_roundAboveZero 14 = .ok (.dsub, 1) := by decide +kernel
theorem dX2_roundAboveZero_15 : decode cX2_roundAboveZero 15 = .ok (.goto 4, 3) := by decide +kernel
theorem dX2_roundAboveZero_18 : decode cX2_roundAboveZero 18 = .ok (.dload_n 0, 1) := by decide +kernel
theorem dX2_roundAboveZero_19 : decode cX2_roundAboveZero 19 = .ok (.dreturn, 1) := by decide +kernel
set_option maxRecDepth 20000 in
theorem ggX2_addToDigest_X2_placeOfGreatest : GoodIn wsX2_addToDigest wsX2_placeOfGreatest := goodIn_r _ [8, 9, 10, 11, 7, 12, 2, 13, 3, 26, 27] (by decide +kernel) (by decide +kernel)
set_option maxRecDepth 20000 in
theorem gX2_addToDigest_X2_placeOfGreatest : GoodIn wsX2_addToDigest (wsV RX2 43 RX2 yX2_placeOfGreatest wsX2_placeOfGreatest) := goodIn_app (goodIn_of _ (by decide +kernel)) ggX2_addToDigest_X2_placeOfGreatest
set_option maxRecDepth 20000 in
theorem ggX2_addToDigest_X2_darkPlaces : GoodIn wsX2_addToDigest wsX2_darkPlaces := goodIn_r _ [17, 2, 3, 26, 27] (by decide +kernel) (by decide +kernel)
set_option maxRecDepth 20000 in
theorem gX2_addToDigest_X2_darkPlaces : GoodIn wsX2_addToDigest (wsV RX2 74 RX2 yX2_darkPlaces wsX2_darkPlaces) := goodIn_app (goodIn_of _ (by decide +kernel)) ggX2_addToDigest_X2_darkPlaces
set_option maxRecDepth 20000 in
theorem ggX2_addToDigest_X2_shortestRoll : GoodIn wsX2_addToDigest wsX2_shortestRoll := goodIn_r _ [21, 22, 23, 24, 7, 25, 2, 3, 26, 27] (by decide +kernel) (by decide +kernel)
set_option maxRecDepth 20000 in
theorem gX2_addToDigest_X2_shortestRoll : GoodIn wsX2_addToDigest (wsV RX2 77 RX2 yX2_shortestRoll wsX2_shortestRoll) := goodIn_app (goodIn_of _ (by decide +kernel)) ggX2_addToDigest_X2_shortestRoll
theorem dX2_addToDigest_0 : decode cX2_addToDigest 0 = .ok (.lload_n 1, 1) := by decide +kernel
theorem dX2_addToDigest_1 : decode cX2_addToDigest 1 = .ok (.lstore_n 3, 1) := by decide +kernel
theorem dX2_addToDigest_2 : decode cX2_addToDigest 2 = .ok (.iconst 0, 1) := by decide +kernel
theorem dX2_addToDigest_3 : decode cX2_addToDigest 3 = .ok (.istore 5, 2) := by decide +kernel
theorem dX2_addToDigest_5 : decode cX2_addToDigest 5 = .ok (.iload 5, 2) := by decide +kernel
theorem dX2_addToDigest_7 : decode cX2_addToDigest 7 = .ok (.bipush 8, 2) := by decide +kernel
theorem dX2_addToDigest_9 : decode cX2_addToDigest 9 = .ok (.if_icmp .ge 37, 3) := by decide +kernel
theorem dX2_addToDigest_12 : decode cX2_addToDigest 12 = .ok (.lload_n 3, 1) := by decide +kernel
theorem dX2_addToDigest_13 : decode cX2_addToDigest 13 = .ok (.ldc2_w 72, 3) := by decide +kernel
theorem dX2_addToDigest_16 : decode cX2_addToDigest 16 = .ok (.lmul, 1) := by decide +kernel
theorem dX2_addToDigest_17 : decode cX2_addToDigest 17 = .ok (.aload_n 0, 1) := by decide +kernel
theorem dX2_addToDigest_18 : decode cX2_addToDigest 18 = .ok (.getfield 9, 3) := by decide +kernel
theorem dX2_addToDigest_21 : decode cX2_addToDigest 21 = .ok (.iload 5, 2) := by decide +kernel
theorem dX2_addToDigest_23 : decode cX2_addToDigest 23 = .ok (.laload, 1) := by decide +kernel
theorem dX2_addToDigest_24 : decode cX2_addToDigest 24 = .ok (.ladd, 1) := by decide +kernel
theorem dX2_addToDigest_25 : decode cX2_addToDigest 25 = .ok (.lstore_n 3, 1) := by decide +kernel
theorem dX2_addToDigest_26 : decode cX2_addToDigest 26 = .ok (.lload_n 3, 1) := by decide +kernel
theorem dX2_addToDigest_27 : decode cX2_addToDigest 27 = .ok (.ldc2_w 72, 3) := by decide +kernel
theorem dX2_addToDigest_30 : decode cX2_addToDigest 30 = .ok (.lmul, 1) := by decide +kernel
theorem dX2_addToDigest_31 : decode cX2_addToDigest 31 = .ok (.aload_n 0, 1) := by decide +kernel
theorem dX2_addToDigest_32 : decode cX2_addToDigest 32 = .ok (.getfield 15, 3) := by decide +kernel
theorem dX2_addToDigest_35 : decode cX2_addToDigest 35 = .ok (.iload 5, 2) := by decide +kernel
theorem dX2_addToDigest_37 : decode cX2_addToDigest 37 = .ok (.laload, 1) := by decide +kernel
theorem dX2_addToDigest_38 : decode cX2_addToDigest 38 = .ok (.ladd, 1) := by decide +kernel
theorem dX2_addToDigest_39 : decode cX2_addToDigest 39 = .ok (.lstore_n 3, 1) := by decide +kernel
theorem dX2_addToDigest_40 : decode cX2_addToDigest 40 = .ok (.iinc 5 1, 3) := by decide +kernel
theorem dX2_addToDigest_43 : decode cX2_addToDigest 43 = .ok (.goto (-38), 3) := by decide +kernel
theorem dX2_addToDigest_46 : decode cX2_addToDigest 46 = .ok (.lload_n 3, 1) := by decide +kernel
theorem dX2_addToDigest_47 : decode cX2_addToDigest 47 = .ok (.ldc2_w 72, 3) := by decide +kernel
theorem dX2_addToDigest_50 : decode cX2_addToDigest 50 = .ok (.lmul, 1) := by decide +kernel
theorem dX2_addToDigest_51 : decode cX2_addToDigest 51 = .ok (.aload_n 0, 1) := by decide +kernel
theorem dX2_addToDigest_52 : decode cX2_addToDigest 52 = .ok (.invokevirtual 43, 3) := by decide +kernel
theorem dX2_addToDigest_55 : decode cX2_addToDigest 55 = .ok (.i2l, 1) := by decide +kernel
theorem dX2_addToDigest_56 : decode cX2_addToDigest 56 = .ok (.ladd, 1) := by decide +kernel
theorem dX2_addToDigest_57 : decode cX2_addToDigest 57 = .ok (.lstore_n 3, 1) := by decide +kernel
theorem dX2_addToDigest_58 : decode cX2_addToDigest 58 = .ok (.lload_n 3, 1) := by decide +kernel
theorem dX2_addToDigest_59 : decode cX2_addToDigest 59 = .ok (.ldc2_w 72, 3) := by decide +kernel
theorem dX2_addToDigest_62 : decode cX2_addToDigest 62 = .ok (.lmul, 1) := by decide +kernel
theorem dX2_addToDigest_63 : decode cX2_addToDigest 63 = .ok (.aload_n 0, 1) := by decide +kernel
theorem dX2_addToDigest_64 : decode cX2_addToDigest 64 = .ok (.invokevirtual 74, 3) := by decide +kernel
theorem dX2_addToDigest_67 : decode cX2_addToDigest 67 = .ok (.i2l, 1) := by decide +kernel
theorem dX2_addToDigest_68 : decode cX2_addToDigest 68 = .ok (.ladd, 1) := by decide +kernel
theorem dX2_addToDigest_69 : decode cX2_addToDigest 69 = .ok (.lstore_n 3, 1) := by decide +kernel
theorem dX2_addToDigest_70 : decode cX2_addToDigest 70 = .ok (.lload_n 3, 1) := by decide +kernel
theorem dX2_addToDigest_71 : decode cX2_addToDigest 71 = .ok (.ldc2_w 72, 3) := by decide +kernel
theorem dX2_addToDigest_74 : decode cX2_addToDigest 74 = .ok (.lmul, 1) := by decide +kernel
theorem dX2_addToDigest_75 : decode cX2_addToDigest 75 = .ok (.aload_n 0, 1) := by decide +kernel
theorem dX2_addToDigest_76 : decode cX2_addToDigest 76 = .ok (.invokevirtual 77, 3) := by decide +kernel
theorem dX2_addToDigest_79 : decode cX2_addToDigest 79 = .ok (.i2l, 1) := by decide +kernel
theorem dX2_addToDigest_80 : decode cX2_addToDigest 80 = .ok (.ladd, 1) := by decide +kernel
theorem dX2_addToDigest_81 : decode cX2_addToDigest 81 = .ok (.lreturn, 1) := by decide +kernel
