theorem dX1_init_0 : decode cX1_init 0 = .ok (.aload_n 0, 1) := by decide +kernel
theorem dX1_init_1 : decode cX1_init 1 = .ok (.invokespecial 3, 3) := by decide +kernel
theorem dX1_init_4 : decode cX1_init 4 = .ok (.aload_n 0, 1) := by decide +kernel
theorem dX1_init_5 : decode cX1_init 5 = .ok (.iconst 1, 1) := by decide +kernel
theorem dX1_init_6 : decode cX1_init 6 = .ok (.putfield 9, 3) := by decide +kernel
theorem dX1_init_9 : decode cX1_init 9 = .ok (.aload_n 0, 1) := by decide +kernel
theorem dX1_init_10 : decode cX1_init 10 = .ok (.iconst 0, 1) := by decide +kernel
theorem dX1_init_11 : decode cX1_init 11 = .ok (.putfield 15, 3) := by decide +kernel
theorem dX1_init_14 : decode cX1_init 14 = .ok (.aload_n 0, 1) := by decide +kernel
theorem dX1_init_15 : decode cX1_init 15 = .ok (.iconst 0, 1) := by decide +kernel
theorem dX1_init_16 : decode cX1_init 16 = .ok (.putfield 19, 3) := by decide +kernel
theorem dX1_init_19 : decode cX1_init 19 = .ok (.aload_n 0, 1) := by decide +kernel
theorem dX1_init_20 : decode cX1_init 20 = .ok (.bipush 8, 2) := by decide +kernel
theorem dX1_init_22 : decode cX1_init 22 = .ok (.newarray .int, 2) := by decide +kernel
theorem dX1_init_24 : decode cX1_init 24 = .ok (.putfield 22, 3) := by decide +kernel
theorem dX1_init_27 : decode cX1_init 27 = .ok (.aload_n 0, 1) := by decide +kernel
theorem dX1_init_28 : decode cX1_init 28 = .ok (.iload_n 1, 1) := by decide +kernel
theorem dX1_init_29 : decode cX1_init 29 = .ok (.putfield 26, 3) := by decide +kernel
theorem dX1_init_32 : decode cX1_init 32 = .ok (.aload_n 0, 1) := by decide +kernel
theorem dX1_init_33 : decode cX1_init 33 = .ok (.iload_n 2, 1) := by decide +kernel
theorem dX1_init_34 : decode cX1_init 34 = .ok (.putfield 29, 3) := by decide +kernel
theorem dX1_init_37 : decode cX1_init 37 = .ok (.return_, 1) := by decide +kernel
theorem dX1_darken_0 : decode cX1_darken 0 = .ok (.iload_n 2, 1) := by decide +kernel
theorem dX1_darken_1 : decode cX1_darken 1 = .ok (.iconst 1, 1) := by decide +kernel
theorem dX1_darken_2 : decode cX1_darken 2 = .ok (.if_icmp .ge 4, 3) := by decide +kernel
theorem dX1_darken_5 : decode cX1_darken 5 = .ok (.return_, 1) := by decide +kernel
theorem dX1_darken_6 : decode cX1_darken 6 = .ok (.iconst 0, 1) := by decide +kernel
theorem dX1_darken_7 : decode cX1_darken 7 = .ok (.istore_n 3, 1) := by decide +kernel
theorem dX1_darken_8 : decode cX1_darken 8 = .ok (.iload_n 3, 1) := by decide +kernel
theorem dX1_darken_9 : decode cX1_darken 9 = .ok (.bipush 8, 2) := by decide +kernel
theorem dX1_darken_11 : decode cX1_darken 11 = .ok (.if_icmp .ge 43, 3) := by decide +kernel
theorem dX1_darken_14 : decode cX1_darken 14 = .ok (.aload_n 0, 1) := by decide +kernel
theorem dX1_darken_15 : decode cX1_darken 15 = .ok (.getfield 22, 3) := by decide +kernel
theorem dX1_darken_18 : decode cX1_darken 18 = .ok (.iload_n 3, 1) := by decide +kernel
theorem dX1_darken_19 : decode cX1_darken 19 = .ok (.iaload, 1) := by decide +kernel
theorem dX1_darken_20 : decode cX1_darken 20 = .ok (.i2l, 1) := by decide +kernel
theorem dX1_darken_21 : decode cX1_darken 21 = .ok (.aload_n 1, 1) := by decide +kernel
theorem dX1_darken_22 : decode cX1_darken 22 = .ok (.getfield 32, 3) := by decide +kernel
theorem dX1_darken_25 : decode cX1_darken 25 = .ok (.iload_n 3, 1) := by decide +kernel
theorem dX1_darken_26 : decode cX1_darken 26 = .ok (.laload, 1) := by decide +kernel
theorem dX1_darken_27 : decode cX1_darken 27 = .ok (.iload_n 2, 1) := by decide +kernel
theorem dX1_darken_28 : decode cX1_darken 28 = .ok (.i2l, 1) := by decide +kernel
theorem dX1_darken_29 : decode cX1_darken 29 = .ok (.ldiv, 1) := by decide +kernel
theorem dX1_darken_30 : decode cX1_darken 30 = .ok (.ladd, 1) := by decide +kernel
theorem dX1_darken_31 : decode cX1_darken 31 = .ok (.lstore 4, 2) := by decide +kernel
theorem dX1_darken_33 : decode cX1_darken 33 = .ok (.aload_n 0, 1) := by decide +kernel
theorem dX1_darken_34 : decode cX1_darken 34 = .ok (.getfield 22, 3) := by decide +kernel
theorem dX1_darken_37 : decode cX1_darken 37 = .ok (.iload_n 3, 1) := by decide +kernel
theorem dX1_darken_38 : decode cX1_darken 38 = .ok (.ldc2_w 38, 3) := by decide +kernel
theorem dX1_darken_41 : decode cX1_darken 41 = .ok (.lload 4, 2) := by decide +kernel
theorem dX1_darken_43 : decode cX1_darken 43 = .ok (.invokestatic 40, 3) := by decide +kernel
theorem dX1_darken_46 : decode cX1_darken 46 = .ok (.l2i, 1) := by decide +kernel
theorem dX1_darken_47 : decode cX1_darken 47 = .ok (.iastore, 1) := by decide +kernel
theorem dX1_darken_48 : decode cX1_darken 48 = .ok (.iinc 3 1, 3) := by decide +kernel
theorem dX1_darken_51 : decode cX1_darken 51 = .ok (.goto (-43), 3) := by decide +kernel
theorem dX1_darken_54 : decode cX1_darken 54 = .ok (.aload_n 0, 1) := by decide +kernel
theorem dX1_darken_55 : decode cX1_darken 55 = .ok (.dup, 1) := by decide +kernel
theorem dX1_darken_56 : decode cX1_darken 56 = .ok (.getfield 19, 3) := by decide +kernel
theorem dX1_darken_59 : decode cX1_darken 59 = .ok (.iconst 1, 1) := by decide +kernel
theorem dX1_darken_60 : decode cX1_darken 60 = .ok (.iadd, 1) := by decide +kernel
theorem dX1_darken_61 : decode cX1_darken 61 = .ok (.putfield 19, 3) := by decide +kernel
theorem dX1_darken_64 : decode cX1_darken 64 = .ok (.return_, 1) := by decide +kernel
theorem dX1_sumOfExposures_0 : decode cX1_sumOfExposures 0 = .ok (.iconst 0, 1) := by decide +kernel
theorem dX1_sumOfExposures_1 : decode cX1_sumOfExposures 1 = .ok (.istore_n 1, 1) := by decide +kernel
theorem dX1_sumOfExposures_2 : decode cX1_sumOfExposures 2 = .ok (.iconst 0, 1) := by decide +kernel
theorem dX1_sumOfExposures_3 : decode cX1_sumOfExposures 3 = .ok (.istore_n 2, 1) := by decide +kernel
theorem dX1_sumOfExposures_4 : decode cX1_sumOfExposures 4 = .ok (.iload_n 2, 1) := by decide +kernel
theorem dX1_sumOfExposures_5 : decode cX1_sumOfExposures 5 = .ok (.bipush 8, 2) := by decide +kernel
theorem dX1_sumOfExposures_7 : decode cX1_sumOfExposures 7 = .ok (.if_icmp .ge 18, 3) := by decide +kernel
theorem dX1_sumOfExposures_10 : decode cX1_sumOfExposures 10 = .ok (.iload_n 1, 1) := by decide +kernel
theorem dX1_sumOfExposures_11 : decode cX1_sumOfExposures 11 = .ok (.aload_n 0, 1) := by decide +kernel
theorem dX1_sumOfExposures_12 : decode cX1_sumOfExposures 12 = .ok (.getfield 22, 3) := by decide +kernel
theorem dX1_sumOfExposures_15 : decode cX1_sumOfExposures 15 = .ok (.iload_n 2, 1) := by decide +kernel
theorem dX1_sumOfExposures_16 : decode cX1_sumOfExposures 16 = .ok (.iaload, 1) := by decide +kernel
theorem dX1_sumOfExposures_17 : decode cX1_sumOfExposures 17 = .ok (.iadd, 1) := by decide +kernel
theorem dX1_sumOfExposures_18 : decode cX1_sumOfExposures 18 = .ok (.istore_n 1, 1) := by decide +kernel
theorem dX1_sumOfExposures_19 : decode cX1_sumOfExposures 19 = .ok (.iinc 2 1, 3) := by decide +kernel
theorem dX1_sumOfExposures_22 : decode cX1_sumOfExposures 22 = .ok (.goto (-18), 3) := by decide +kernel
theorem dX1_sumOfExposures_25 : decode cX1_sumOfExposures 25 = .ok (.iload_n 1, 1) := by decide +kernel
theorem dX1_sumOfExposures_26 : decode cX1_sumOfExposures 26 = .ok (.ireturn, 1) := by decide +kernel
theorem dX1_canBeUndone_0 : decode cX1_canBeUndone 0 = .ok (.aload_n 0, 1) := by decide +kernel
theorem dX1_canBeUndone_1 : decode cX1_canBeUndone 1 = .ok (.getfield 15, 3) := by decide +kernel
theorem dX1_canBeUndone_4 : decode cX1_canBeUndone 4 = .ok (.ifCond .ne 12, 3) := by decide +kernel
theorem dX1_canBeUndone_7 : decode cX1_canBeUndone 7 = .ok (.aload_n 0, 1) := by decide +kernel
theorem dX1_canBeUndone_8 : decode cX1_canBeUndone 8 = .ok (.getfield 26, 3) := by decide +kernel
theorem dX1_canBeUndone_11 : decode cX1_canBeUndone 11 = .ok (.bipush 10, 2) := by decide +kernel
theorem dX1_canBeUndone_13 : decode cX1_canBeUndone 13 = .ok (.if_icmp .ne 5, 3) := by decide +kernel
theorem dX1_canBeUndone_16 : decode cX1_canBeUndone 16 = .ok (.iconst 0, 1) := by decide +kernel
theorem dX1_canBeUndone_17 : decode cX1_canBeUndone 17 = .ok (.ireturn, 1) := by decide +kernel
theorem dX1_canBeUndone_18 : decode cX1_canBeUndone 18 = .ok (.aload_n 0, 1) := by decide +kernel
theorem dX1_canBeUndone_19 : decode cX1_canBeUndone 19 = .ok (.getfield 26, 3) := by decide +kernel
theorem dX1_canBeUndone_22 : decode cX1_canBeUndone 22 = .ok (.ifCond .ne 19, 3) := by decide +kernel
theorem dX1_canBeUndone_25 : decode cX1_canBeUndone 25 = .ok (.aload_n 0, 1) := by decide +kernel
theorem dX1_canBeUndone_26 : decode cX1_canBeUndone 26 = .ok (.getfield 29, 3) := by decide +kernel
theorem dX1_canBeUndone_29 : decode cX1_canBeUndone 29 = .ok (.sipush 255, 3) := by decide +kernel
theorem dX1_canBeUndone_32 : decode cX1_canBeUndone 32 = .ok (.if_icmp .ne 7, 3) := by decide +kernel
theorem dX1_canBeUndone_35 : decode cX1_canBeUndone 35 = .ok (.iconst 1, 1) := by decide +kernel
theorem dX1_canBeUndone_36 : decode cX1_canBeUndone 36 = .ok (.goto 4, 3) := by decide +kernel
theorem dX1_canBeUndone_39 : decode cX1_canBeUndone 39 = .ok (.iconst 0, 1) := by decide +kernel
theorem dX1_canBeUndone_40 : decode cX1_canBeUndone 40 = .ok (.ireturn, 1) := by decide +kernel
theorem dX1_canBeUndone_41 : decode cX1_canBeUndone 41 = .ok (.iconst 0, 1) := by decide +kernel
theorem dX1_canBeUndone_42 : decode cX1_canBeUndone 42 = .ok (.istore_n 1, 1) := by decide +kernel
theorem dX1_canBeUndone_43 : decode cX1_canBeUndone 43 = .ok (.iload_n 1, 1) := by decide +kernel
theorem dX1_canBeUndone_44 : decode cX1_canBeUndone 44 = .ok (.bipush 8, 2) := by decide +kernel
theorem dX1_canBeUndone_46 : decode cX1_canBeUndone 46 = .ok (.if_icmp .ge 22, 3) := by decide +kernel
theorem dX1_canBeUndone_49 : decode cX1_canBeUndone 49 = .ok (.aload_n 0, 1) := by decide +kernel
theorem dX1_canBeUndone_50 : decode cX1_canBeUndone 50 = .ok (.getfield 22, 3) := by decide +kernel
theorem dX1_canBeUndone_53 : decode cX1_canBeUndone 53 = .ok (.iload_n 1, 1) := by decide +kernel
theorem dX1_canBeUndone_54 : decode cX1_canBeUndone 54 = .ok (.iaload, 1) := by decide +kernel
theorem dX1_canBeUndone_55 : decode cX1_canBeUndone 55 = .ok (.bipush 9, 2) := by decide +kernel
theorem dX1_canBeUndone_57 : decode cX1_canBeUndone 57 = .ok (.if_icmp .ne 5, 3) := by decide +kernel
theorem dX1_canBeUndone_60 : decode cX1_canBeUndone 60 = .ok (.iconst 0, 1) := by decide +kernel
theorem dX1_canBeUndone_61 : decode cX1_canBeUndone 61 = .ok (.ireturn, 1) := by decide +kernel
theorem dX1_canBeUndone_62 : decode cX1_canBeUndone 62 = .ok (.iinc 1 1, 3) := by decide +kernel
theorem dX1_canBeUndone_65 : decode cX1_canBeUndone 65 = .ok (.goto (-22), 3) := by decide +kernel
theorem dX1_canBeUndone_68 : decode cX1_canBeUndone 68 = .ok (.iconst 1, 1) := by decide +kernel
theorem dX1_canBeUndone_69 : decode cX1_canBeUndone 69 = .ok (.ireturn, 1) := by decide +kernel
theorem dX1_canBeTuned_0 : decode cX1_canBeTuned 0 = .ok (.aload_n 0, 1) := by decide +kernel
theorem dX1_canBeTuned_1 : decode cX1_canBeTuned 1 = .ok (.getfield 26, 3) := by decide +kernel
theorem dX1_canBeTuned_4 : decode cX1_canBeTuned 4 = .ok (.iconst 4, 1) := by decide +kernel
theorem dX1_canBeTuned_5 : decode cX1_canBeTuned 5 = .ok (.if_icmp .eq 30, 3) := by decide +kernel
theorem dX1_canBeTuned_8 : decode cX1_canBeTuned 8 = .ok (.aload_n 0, 1) := by decide +kernel
theorem dX1_canBeTuned_9 : decode cX1_canBeTuned 9 = .ok (.getfield 26, 3) := by decide +kernel
theorem dX1_canBeTuned_12 : decode cX1_canBeTuned 12 = .ok (.bipush 6, 2) := by decide +kernel
theorem dX1_canBeTuned_14 : decode cX1_canBeTuned 14 = .ok (.if_icmp .eq 21, 3) := by decide +kernel
theorem dX1_canBeTuned_17 : decode cX1_canBeTuned 17 = .ok (.aload_n 0, 1) := by decide +kernel
theorem dX1_canBeTuned_18 : decode cX1_canBeTuned 18 = .ok (.getfield 26, 3) := by decide +kernel
theorem dX1_canBeTuned_21 : decode cX1_canBeTuned 21 = .ok (.bipush 8, 2) := by decide +kernel
theorem dX1_canBeTuned_23 : decode cX1_canBeTuned 23 = .ok (.if_icmp .eq 12, 3) := by decide +kernel
theorem dX1_canBeTuned_26 : decode cX1_canBeTuned 26 = .ok (.aload_n 0, 1) := by decide +kernel
theorem dX1_canBeTuned_27 : decode cX1_canBeTuned 27 = .ok (.getfield 26, 3) := by decide +kernel
theorem dX1_canBeTuned_30 : decode cX1_canBeTuned 30 = .ok (.bipush 10, 2) := by decide +kernel
theorem dX1_canBeTuned_32 : decode cX1_canBeTuned 32 = .ok (.if_icmp .ne 7, 3) := by decide +kernel
theorem dX1_canBeTuned_35 : decode cX1_canBeTuned 35 = .ok (.iconst 1, 1) := by decide +kernel
theorem dX1_canBeTuned_36 : decode cX1_canBeTuned 36 = .ok (.goto 4, 3) := by decide +kernel
theorem dX1_canBeTuned_39 : decode cX1_canBeTuned 39 = .ok (.iconst 0, 1) := by decide +kernel
theorem dX1_canBeTuned_40 : decode cX1_canBeTuned 40 = .ok (.ireturn, 1) := by decide +kernel
theorem dX1_lossFactor_0 : decode cX1_lossFactor 0 = .ok (.aload_n 0, 1) := by decide +kernel
theorem dX1_lossFactor_1 : decode cX1_lossFactor 1 = .ok (.getfield 26, 3) := by decide +kernel
theorem dX1_lossFactor_4 : decode cX1_lossFactor 4 = .ok (.tableswitch 87 2 10 #[52, 52, 87, 87, 56, 67, 87, 87, 71], 52) := by decide +kernel
theorem dX1_lossFactor_56 : decode cX1_lossFactor 56 = .ok (.ldc2_w 46, 3) := by decide +kernel
theorem dX1_lossFactor_59 : decode cX1_lossFactor 59 = .ok (.lreturn, 1) := by decide +kernel
theorem dX1_lossFactor_60 : decode cX1_lossFactor 60 = .ok (.aload_n 0, 1) := by decide +kernel
theorem dX1_lossFactor_61 : decode cX1_lossFactor 61 = .ok (.getfield 29, 3) := by decide +kernel
theorem dX1_lossFactor_64 : decode cX1_lossFactor 64 = .ok (.aload_n 0, 1) := by decide +kernel
theorem dX1_lossFactor_65 : decode cX1_lossFactor 65 = .ok (.getfield 29, 3) := by decide +kernel
theorem dX1_lossFactor_68 : decode cX1_lossFactor 68 = .ok (.imul, 1) := by decide +kernel
theorem dX1_lossFactor_69 : decode cX1_lossFactor 69 = .ok (.i2l, 1) := by decide +kernel
theorem dX1_lossFactor_70 : decode cX1_lossFactor 70 = .ok (.lreturn, 1) := by decide +kernel
theorem dX1_lossFactor_71 : decode cX1_lossFactor 71 = .ok (.ldc2_w 48, 3) := by decide +kernel
theorem dX1_lossFactor_74 : decode cX1_lossFactor 74 = .ok (.lreturn, 1) := by decide +kernel
theorem dX1_lossFactor_75 : decode cX1_lossFactor 75 = .ok (.aload_n 0, 1) := by decide +kernel
theorem dX1_lossFactor_76 : decode cX1_lossFactor 76 = .ok (.getfield 29, 3) := by decide +kernel
theorem dX1_lossFactor_79 : decode cX1_lossFactor 79 = .ok (.iconst 2, 1) := by decide +kernel
theorem dX1_lossFactor_80 : decode cX1_lossFactor 80 = .ok (.if_icmp .lt 9, 3) := by decide +kernel
theorem dX1_lossFactor_83 : decode cX1_lossFactor 83 = .ok (.ldc2_w 50, 3) := by decide +kernel
theorem dX1_lossFactor_86 : decode cX1_lossFactor 86 = .ok (.goto 4, 3) := by decide +kernel
theorem dX1_lossFactor_89 : decode cX1_lossFactor 89 = .ok (.lconst 1, 1) := by decide +kernel
theorem dX1_lossFactor_90 : decode cX1_lossFactor 90 = .ok (.lreturn, 1) := by decide +kernel
theorem dX1_lossFactor_91 : decode cX1_lossFactor 91 = .ok (.lconst 1, 1) := by decide +kernel
theorem dX1_lossFactor_92 : decode cX1_lossFactor 92 = .ok (.lreturn, 1) := by decide +kernel
set_option maxRecDepth 20000 in
theorem ggX1_pass_X0_carry : GoodIn wsX1_pass wsX0_carry := goodIn_ca (goodIn_r _ [9, 10, 11, 8, 12, 13, 14, 15, 16, 17, 18, 19, 20, 21, 64, 65] (by decide +kernel) (by decide +kernel)) (goodIn_sub (fun _ h => List.mem_cons_of_mem _ (List.mem_append_right _ h)) (by decide +kernel))
set_option maxRecDepth 20000 in
theorem gX1_pass_X0_carry : GoodIn wsX1_pass (wsV RX1 52 RX0 yX0_carry wsX0_carry) := goodIn_app (goodIn_of _ (by decide +kernel)) ggX1_pass_X0_carry
set_option maxRecDepth 20000 in
theorem ggX1_pass_X0_gather : GoodIn wsX1_pass wsX0_gather := goodIn_ca (goodIn_r _ [25, 10, 11, 8, 12, 13, 14, 15, 16, 17, 18, 19, 20, 21, 64, 65] (by decide +kernel) (by decide +kernel)) (goodIn_sub (fun _ h => List.mem_cons_of_mem _ (List.mem_append_right _ h)) (by decide +kernel))
set_option maxRecDepth 20000 in
theorem gX1_pass_X0_gather : GoodIn wsX1_pass (wsV RX1 58 RX0 yX0_gather wsX0_gather) := goodIn_app (goodIn_of _ (by decide +kernel)) ggX1_pass_X0_gather
set_option maxRecDepth 20000 in
theorem ggX1_pass_X0_retard : GoodIn wsX1_pass wsX0_retard := goodIn_ca (goodIn_r _ [29, 10, 11, 8, 12, 13, 14, 15, 16, 17, 18, 19, 20, 21, 64, 65] (by decide +kernel) (by decide +kernel)) (goodIn_sub (fun _ h => List.mem_cons_of_mem _ (List.mem_append_right _ h)) (by decide +kernel))
set_option maxRecDepth 20000 in
theorem gX1_pass_X0_retard : GoodIn wsX1_pass (wsV RX1 62 RX0 yX0_retard wsX0_retard) := goodIn_app (goodIn_of _ (by decide +kernel)) ggX1_pass_X0_retard
set_option maxRecDepth 20000 in
theorem ggX1_pass_X0_exchange : GoodIn wsX1_pass wsX0_exchange := goodIn_ca (goodIn_r _ [33, 10, 11, 8, 12, 19, 20, 21, 13, 14, 15, 16, 17, 18, 64, 65] (by decide +kernel) (by decide +kernel)) (goodIn_sub (fun _ h => List.mem_cons_of_mem _ (List.mem_append_right _ h)) (by decide +kernel))
set_option maxRecDepth 20000 in
theorem gX1_pass_X0_exchange : GoodIn wsX1_pass (wsV RX1 65 RX0 yX0_exchange wsX0_exchange) := goodIn_app (goodIn_of _ (by decide +kernel)) ggX1_pass_X0_exchange
set_option maxRecDepth 20000 in
theorem ggX1_pass_X0_polarise : GoodIn wsX1_pass wsX0_polarise := goodIn_ca (goodIn_r _ [37, 10, 11, 8, 12, 19, 20, 21, 13, 14, 15, 16, 17, 18, 64, 65] (by decide +kernel) (by decide +kernel)) (goodIn_sub (fun _ h => List.mem_cons_of_mem _ (List.mem_append_right _ h)) (by decide +kernel))
set_option maxRecDepth 20000 in
theorem gX1_pass_X0_polarise : GoodIn wsX1_pass (wsV RX1 69 RX0 yX0_polarise wsX0_polarise) := goodIn_app (goodIn_of _ (by decide +kernel)) ggX1_pass_X0_polarise
set_option maxRecDepth 20000 in
theorem ggX1_pass_X0_settle : GoodIn wsX1_pass wsX0_settle := goodIn_r _ [41, 18, 17, 10, 11, 8, 12, 42, 43, 44, 45, 46, 47, 48, 49, 50, 51, 52, 53, 54, 55, 56, 57, 64, 65, 66, 67, 68, 69, 70, 71, 72, 73, 74, 75] (by decide +kernel) (by decide +kernel)
set_option maxRecDepth 20000 in
theorem gX1_pass_X0_settle : GoodIn wsX1_pass (wsV RX1 72 RX0 yX0_settle wsX0_settle) := goodIn_app (goodIn_of _ (by decide +kernel)) ggX1_pass_X0_settle
theorem dX1_pass_0 : decode cX1_pass 0 = .ok (.iconst 0, 1) := by decide +kernel
theorem dX1_pass_1 : decode cX1_pass 1 = .ok (.istore_n 2, 1) := by decide +kernel
theorem dX1_pass_2 : decode cX1_pass 2 = .ok (.iload_n 2, 1) := by decide +kernel
theorem dX1_pass_3 : decode cX1_pass 3 = .ok (.bipush 8, 2) := by decide +kernel
theorem dX1_pass_5 : decode cX1_pass 5 = .ok (.if_icmp .ge 222, 3) := by decide +kernel
theorem dX1_pass_8 : decode cX1_pass 8 = .ok (.aload_n 0, 1) := by decide +kernel
theorem dX1_pass_9 : decode cX1_pass 9 = .ok (.getfield 26, 3) := by decide +kernel
theorem dX1_pass_12 : decode cX1_pass 12 = .ok (.tableswitch 200 0 9 #[56, 74, 95, 104, 114, 133, 147, 161, 180, 192], 56) := by decide +kernel
theorem dX1_pass_68 : decode cX1_pass 68 = .ok (.aload_n 1, 1) := by decide +kernel
theorem dX1_pass_69 : decode cX1_pass 69 = .ok (.iload_n 2, 1) := by decide +kernel
theorem dX1_pass_70 : decode cX1_pass 70 = .ok (.iload_n 2, 1) := by decide +kernel
theorem dX1_pass_71 : decode cX1_pass 71 = .ok (.iconst 0, 1) := by decide +kernel
theorem dX1_pass_72 : decode cX1_pass 72 = .ok (.aload_n 0, 1) := by decide +kernel
theorem dX1_pass_73 : decode cX1_pass 73 = .ok (.getfield 29, 3) := by decide +kernel
theorem dX1_pass_76 : decode cX1_pass 76 = .ok (.iload_n 2, 1) := by decide +kernel
theorem dX1_pass_77 : decode cX1_pass 77 = .ok (.ishr, 1) := by decide +kernel
theorem dX1_pass_78 : decode cX1_pass 78 = .ok (.iconst 1, 1) := by decide +kernel
theorem dX1_pass_79 : decode cX1_pass 79 = .ok (.iand, 1) := by decide +kernel
theorem dX1_pass_80 : decode cX1_pass 80 = .ok (.invokevirtual 52, 3) := by decide +kernel
theorem dX1_pass_83 : decode cX1_pass 83 = .ok (.goto 138, 3) := by decide +kernel
theorem dX1_pass_86 : decode cX1_pass 86 = .ok (.aload_n 1, 1) := by decide +kernel
theorem dX1_pass_87 : decode cX1_pass 87 = .ok (.iload_n 2, 1) := by decide +kernel
theorem dX1_pass_88 : decode cX1_pass 88 = .ok (.iload_n 2, 1) := by decide +kernel
theorem dX1_pass_89 : decode cX1_pass 89 = .ok (.aload_n 0, 1) := by decide +kernel
theorem dX1_pass_90 : decode cX1_pass 90 = .ok (.getfield 29, 3) := by decide +kernel
theorem dX1_pass_93 : decode cX1_pass 93 = .ok (.iconst 3, 1) := by decide +kernel
theorem dX1_pass_94 : decode cX1_pass 94 = .ok (.iload_n 2, 1) := by decide +kernel
theorem dX1_pass_95 : decode cX1_pass 95 = .ok (.imul, 1) := by decide +kernel
theorem dX1_pass_96 : decode cX1_pass 96 = .ok (.ishr, 1) := by decide +kernel
theorem dX1_pass_97 : decode cX1_pass 97 = .ok (.bipush 7, 2) := by decide +kernel
theorem dX1_pass_99 : decode cX1_pass 99 = .ok (.iand, 1) := by decide +kernel
theorem dX1_pass_100 : decode cX1_pass 100 = .ok (.iconst 1, 1) := by decide +kernel
theorem dX1_pass_101 : decode cX1_pass 101 = .ok (.invokevirtual 52, 3) := by decide +kernel
theorem dX1_pass_104 : decode cX1_pass 104 = .ok (.goto 117, 3) := by decide +kernel
theorem dX1_pass_107 : decode cX1_pass 107 = .ok (.aload_n 1, 1) := by decide +kernel
theorem dX1_pass_108 : decode cX1_pass 108 = .ok (.iload_n 2, 1) := by decide +kernel
theorem dX1_pass_109 : decode cX1_pass 109 = .ok (.iconst 1, 1) := by decide +kernel
theorem dX1_pass_110 : decode cX1_pass 110 = .ok (.invokevirtual 58, 3) := by decide +kernel
theorem dX1_pass_113 : decode cX1_pass 113 = .ok (.goto 108, 3) := by decide +kernel
theorem dX1_pass_116 : decode cX1_pass 116 = .ok (.aload_n 1, 1) := by decide +kernel
theorem dX1_pass_117 : decode cX1_pass 117 = .ok (.iload_n 2, 1) := by decide +kernel
theorem dX1_pass_118 : decode cX1_pass 118 = .ok (.bipush 7, 2) := by decide +kernel
theorem dX1_pass_120 : decode cX1_pass 120 = .ok (.invokevirtual 58, 3) := by decide +kernel
theorem dX1_pass_123 : decode cX1_pass 123 = .ok (.goto 98, 3) := by decide +kernel
theorem dX1_pass_126 : decode cX1_pass 126 = .ok (.aload_n 1, 1) := by decide +kernel
theorem dX1_pass_127 : decode cX1_pass 127 = .ok (.iload_n 2, 1) := by decide +kernel
theorem dX1_pass_128 : decode cX1_pass 128 = .ok (.iload_n 2, 1) := by decide +kernel
theorem dX1_pass_129 : decode cX1_pass 129 = .ok (.aload_n 0, 1) := by decide +kernel
theorem dX1_pass_130 : decode cX1_pass 130 = .ok (.getfield 29, 3) := by decide +kernel
theorem dX1_pass_133 : decode cX1_pass 133 = .ok (.iadd, 1) := by decide +kernel
theorem dX1_pass_134 : decode cX1_pass 134 = .ok (.bipush 7, 2) := by decide +kernel
theorem dX1_pass_136 : decode cX1_pass 136 = .ok (.iand, 1) := by decide +kernel
theorem dX1_pass_137 : decode cX1_pass 137 = .ok (.iconst 0, 1) := by decide +kernel
theorem dX1_pass_138 : decode cX1_pass 138 = .ok (.iconst 1, 1) := by decide +kernel
theorem dX1_pass_139 : decode cX1_pass 139 = .ok (.invokevirtual 52, 3) := by decide +kernel
theorem dX1_pass_142 : decode cX1_pass 142 = .ok (.goto 79, 3) := by decide +kernel
theorem dX1_pass_145 : decode cX1_pass 145 = .ok (.aload_n 1, 1) := by decide +kernel
theorem dX1_pass_146 : decode cX1_pass 146 = .ok (.iload_n 2, 1) := by decide +kernel
theorem dX1_pass_147 : decode cX1_pass 147 = .ok (.bipush 7, 2) := by decide +kernel
theorem dX1_pass_149 : decode cX1_pass 149 = .ok (.iload_n 2, 1) := by decide +kernel
theorem dX1_pass_150 : decode cX1_pass 150 = .ok (.isub, 1) := by decide +kernel
theorem dX1_pass_151 : decode cX1_pass 151 = .ok (.iconst 0, 1) := by decide +kernel
theorem dX1_pass_152 : decode cX1_pass 152 = .ok (.iconst 1, 1) := by decide +kernel
theorem dX1_pass_153 : decode cX1_pass 153 = .ok (.invokevirtual 52, 3) := by decide +kernel
theorem dX1_pass_156 : decode cX1_pass 156 = .ok (.goto 65, 3) := by decide +kernel
theorem dX1_pass_159 : decode cX1_pass 159 = .ok (.aload_n 1, 1) := by decide +kernel
theorem dX1_pass_160 : decode cX1_pass 160 = .ok (.iload_n 2, 1) := by decide +kernel
theorem dX1_pass_161 : decode cX1_pass 161 = .ok (.iload_n 2, 1) := by decide +kernel
theorem dX1_pass_162 : decode cX1_pass 162 = .ok (.iconst 0, 1) := by decide +kernel
theorem dX1_pass_163 : decode cX1_pass 163 = .ok (.aload_n 0, 1) := by decide +kernel
theorem dX1_pass_164 : decode cX1_pass 164 = .ok (.getfield 29, 3) := by decide +kernel
theorem dX1_pass_167 : decode cX1_pass 167 = .ok (.invokevirtual 52, 3) := by decide +kernel
theorem dX1_pass_170 : decode cX1_pass 170 = .ok (.goto 51, 3) := by decide +kernel
theorem dX1_pass_173 : decode cX1_pass 173 = .ok (.aload_n 1, 1) := by decide +kernel
theorem dX1_pass_174 : decode cX1_pass 174 = .ok (.iload_n 2, 1) := by decide +kernel
theorem dX1_pass_175 : decode cX1_pass 175 = .ok (.iload_n 2, 1) := by decide +kernel
theorem dX1_pass_176 : decode cX1_pass 176 = .ok (.iconst 0, 1) := by decide +kernel
theorem dX1_pass_177 : decode cX1_pass 177 = .ok (.bipush 9, 2) := by decide +kernel
theorem dX1_pass_179 : decode cX1_pass 179 = .ok (.aload_n 0, 1) := by decide +kernel
theorem dX1_pass_180 : decode cX1_pass 180 = .ok (.getfield 22, 3) := by decide +kernel
theorem dX1_pass_183 : decode cX1_pass 183 = .ok (.iload_n 2, 1) := by decide +kernel
theorem dX1_pass_184 : decode cX1_pass 184 = .ok (.iaload, 1) := by decide +kernel
theorem dX1_pass_185 : decode cX1_pass 185 = .ok (.isub, 1) := by decide +kernel
theorem dX1_pass_186 : decode cX1_pass 186 = .ok (.invokevirtual 52, 3) := by decide +kernel
theorem dX1_pass_189 : decode cX1_pass 189 = .ok (.goto 32, 3) := by decide +kernel
theorem dX1_pass_192 : decode cX1_pass 192 = .ok (.aload_n 1, 1) := by decide +kernel
theorem dX1_pass_193 : decode cX1_pass 193 = .ok (.iload_n 2, 1) := by decide +kernel
theorem dX1_pass_194 : decode cX1_pass 194 = .ok (.aload_n 0, 1) := by decide +kernel
theorem dX1_pass_195 : decode cX1_pass 195 = .ok (.getfield 29, 3) := by decide +kernel
theorem dX1_pass_198 : decode cX1_pass 198 = .ok (.invokevirtual 62, 3) := by decide +kernel
theorem dX1_pass_201 : decode cX1_pass 201 = .ok (.goto 20, 3) := by decide +kernel
theorem dX1_pass_204 : decode cX1_pass 204 = .ok (.aload_n 1, 1) := by decide +kernel
theorem dX1_pass_205 : decode cX1_pass 205 = .ok (.iload_n 2, 1) := by decide +kernel
theorem dX1_pass_206 : decode cX1_pass 206 = .ok (.invokevirtual 65, 3) := by decide +kernel
theorem dX1_pass_209 : decode cX1_pass 209 = .ok (.goto 12, 3) := by decide +kernel
theorem dX1_pass_212 : decode cX1_pass 212 = .ok (.aload_n 1, 1) := by decide +kernel
theorem dX1_pass_213 : decode cX1_pass 213 = .ok (.iload_n 2, 1) := by decide +kernel
theorem dX1_pass_214 : decode cX1_pass 214 = .ok (.aload_n 0, 1) := by decide +kernel
theorem dX1_pass_215 : decode cX1_pass 215 = .ok (.getfield 29, 3) := by decide +kernel
theorem dX1_pass_218 : decode cX1_pass 218 = .ok (.invokevirtual 69, 3) := by decide +kernel
theorem dX1_pass_221 : decode cX1_pass 221 = .ok (.iinc 2 1, 3) := by decide +kernel
theorem dX1_pass_224 : decode cX1_pass 224 = .ok (.goto (-222), 3) := by decide +kernel
theorem dX1_pass_227 : decode cX1_pass 227 = .ok (.aload_n 1, 1) := by decide +kernel
theorem dX1_pass_228 : decode cX1_pass 228 = .ok (.aload_n 0, 1) := by decide +kernel
theorem dX1_pass_229 : decode cX1_pass 229 = .ok (.getfield 15, 3) := by decide +kernel
theorem dX1_pass_232 : decode cX1_pass 232 = .ok (.invokevirtual 72, 3) := by decide +kernel
theorem dX1_pass_235 : decode cX1_pass 235 = .ok (.return_, 1) := by decide +kernel
