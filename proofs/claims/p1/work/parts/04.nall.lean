theorem dX0_init_0 : decode cX0_init 0 = .ok (.aload_n 0, 1) := by decide +kernel
theorem dX0_init_1 : decode cX0_init 1 = .ok (.invokespecial 5, 3) := by decide +kernel
theorem dX0_init_4 : decode cX0_init 4 = .ok (.aload_n 0, 1) := by decide +kernel
theorem dX0_init_5 : decode cX0_init 5 = .ok (.bipush 64, 2) := by decide +kernel
theorem dX0_init_7 : decode cX0_init 7 = .ok (.newarray .long, 2) := by decide +kernel
theorem dX0_init_9 : decode cX0_init 9 = .ok (.putfield 11, 3) := by decide +kernel
theorem dX0_init_12 : decode cX0_init 12 = .ok (.aload_n 0, 1) := by decide +kernel
theorem dX0_init_13 : decode cX0_init 13 = .ok (.bipush 64, 2) := by decide +kernel
theorem dX0_init_15 : decode cX0_init 15 = .ok (.newarray .long, 2) := by decide +kernel
theorem dX0_init_17 : decode cX0_init 17 = .ok (.putfield 15, 3) := by decide +kernel
theorem dX0_init_20 : decode cX0_init 20 = .ok (.return_, 1) := by decide +kernel
theorem dX1_init_0 : decode cX1_init 0 = .ok (.aload_n 0, 1) := by decide +kernel
theorem dX1_init_1 : decode cX1_init 1 = .ok (.invokespecial 3, 3) := by decide +kernel
theorem dX1_init_4 : decode cX1_init 4 = .ok (.aload_n 0, 1) := by decide +kernel
theorem dX1_init_5 : decode cX1_init 5 = .ok (.iconst 1, 1) := by decide +kernel
theorem dX1_init_6 : decode cX1_init 6 = .ok (.putfield 9, 3) := by decide +kernel
theorem dX1_init_9 : decode cX1_init 9 = .ok (.aload_n 0, 1) := by decide +kernel
theorem dX1_init_10 : decode cX1_init 10 = .ok (.iconst 0, 1) := by decide +kernel
theorem dX1_init_11 : decode cX1_init 11 = .ok (.putfield 15, 3) := by decide +kernel
theorem dX1_init_14 : decode cX1_init 14 = .ok (.aload_n 0, 1) := by decide +kernel
theorem dX1_init_15 : decode cX1_init 15 = .ok (.iconst 0, 1) := by decide +kernel
theorem dX1_init_16 : decode cX1_init 16 = .ok (.putfield 19, 3) := by decide +kernel
theorem dX1_init_19 : decode cX1_init 19 = .ok (.aload_n 0, 1) := by decide +kernel
theorem dX1_init_20 : decode cX1_init 20 = .ok (.bipush 8, 2) := by decide +kernel
theorem dX1_init_22 : decode cX1_init 22 = .ok (.newarray .int, 2) := by decide +kernel
theorem dX1_init_24 : decode cX1_init 24 = .ok (.putfield 22, 3) := by decide +kernel
theorem dX1_init_27 : decode cX1_init 27 = .ok (.aload_n 0, 1) := by decide +kernel
theorem dX1_init_28 : decode cX1_init 28 = .ok (.iload_n 1, 1) := by decide +kernel
theorem dX1_init_29 : decode cX1_init 29 = .ok (.putfield 26, 3) := by decide +kernel
theorem dX1_init_32 : decode cX1_init 32 = .ok (.aload_n 0, 1) := by decide +kernel
theorem dX1_init_33 : decode cX1_init 33 = .ok (.iload_n 2, 1) := by decide +kernel
theorem dX1_init_34 : decode cX1_init 34 = .ok (.putfield 29, 3) := by decide +kernel
theorem dX1_init_37 : decode cX1_init 37 = .ok (.return_, 1) := by decide +kernel
theorem dX2_init_0 : decode cX2_init 0 = .ok (.aload_n 0, 1) := by decide +kernel
theorem dX2_init_1 : decode cX2_init 1 = .ok (.invokespecial 3, 3) := by decide +kernel
theorem dX2_init_4 : decode cX2_init 4 = .ok (.aload_n 0, 1) := by decide +kernel
theorem dX2_init_5 : decode cX2_init 5 = .ok (.bipush 8, 2) := by decide +kernel
theorem dX2_init_7 : decode cX2_init 7 = .ok (.newarray .long, 2) := by decide +kernel
theorem dX2_init_9 : decode cX2_init 9 = .ok (.putfield 9, 3) := by decide +kernel
theorem dX2_init_12 : decode cX2_init 12 = .ok (.aload_n 0, 1) := by decide +kernel
theorem dX2_init_13 : decode cX2_init 13 = .ok (.bipush 8, 2) := by decide +kernel
theorem dX2_init_15 : decode cX2_init 15 = .ok (.newarray .long, 2) := by decide +kernel
theorem dX2_init_17 : decode cX2_init 17 = .ok (.putfield 15, 3) := by decide +kernel
theorem dX2_init_20 : decode cX2_init 20 = .ok (.return_, 1) := by decide +kernel
set_option maxRecDepth 20000 in
theorem ggX2_wipe_J7_fill_d0a16 : GoodIn wsX2_wipe wsJ7_fill_d0a16 := goodIn_r _ [6] (by decide +kernel) (by decide +kernel)
set_option maxRecDepth 20000 in
theorem gX2_wipe_J7_fill_d0a16 : GoodIn wsX2_wipe (va_wsS RX2 18 yJ7_fill_d0a16 wsJ7_fill_d0a16) := goodIn_app (goodIn_of _ (by decide +kernel)) ggX2_wipe_J7_fill_d0a16
theorem dX2_wipe_0 : decode cX2_wipe 0 = .ok (.aload_n 0, 1) := by decide +kernel
theorem dX2_wipe_1 : decode cX2_wipe 1 = .ok (.getfield 9, 3) := by decide +kernel
theorem dX2_wipe_4 : decode cX2_wipe 4 = .ok (.lconst 0, 1) := by decide +kernel
theorem dX2_wipe_5 : decode cX2_wipe 5 = .ok (.invokestatic 18, 3) := by decide +kernel
theorem dX2_wipe_8 : decode cX2_wipe 8 = .ok (.aload_n 0, 1) := by decide +kernel
theorem dX2_wipe_9 : decode cX2_wipe 9 = .ok (.getfield 15, 3) := by decide +kernel
theorem dX2_wipe_12 : decode cX2_wipe 12 = .ok (.lconst 0, 1) := by decide +kernel
theorem dX2_wipe_13 : decode cX2_wipe 13 = .ok (.invokestatic 18, 3) := by decide +kernel
theorem dX2_wipe_16 : decode cX2_wipe 16 = .ok (.return_, 1) := by decide +kernel
set_option maxRecDepth 20000 in
theorem ggX2_sumOfWholes_X2_sum : GoodIn wsX2_sumOfWholes wsX2_sum := goodIn_ca (goodIn_r _ [5] (by decide +kernel) (by decide +kernel)) (goodIn_sub (fun _ h => List.mem_cons_of_mem _ (List.mem_append_right _ h)) (by decide +kernel))
set_option maxRecDepth 20000 in
theorem gX2_sumOfWholes_X2_sum : GoodIn wsX2_sumOfWholes (va_wsS RX2 33 yX2_sum wsX2_sum) := goodIn_app (goodIn_of _ (by decide +kernel)) ggX2_sumOfWholes_X2_sum
theorem dX2_sumOfWholes_0 : decode cX2_sumOfWholes 0 = .ok (.aload_n 0, 1) := by decide +kernel
theorem dX2_sumOfWholes_1 : decode cX2_sumOfWholes 1 = .ok (.getfield 9, 3) := by decide +kernel
theorem dX2_sumOfWholes_4 : decode cX2_sumOfWholes 4 = .ok (.invokestatic 33, 3) := by decide +kernel
theorem dX2_sumOfWholes_7 : decode cX2_sumOfWholes 7 = .ok (.lreturn, 1) := by decide +kernel
set_option maxRecDepth 20000 in
theorem ggX2_sumOfRoots_X2_sum : GoodIn wsX2_sumOfRoots wsX2_sum := goodIn_ca (goodIn_r _ [5] (by decide +kernel) (by decide +kernel)) (goodIn_sub (fun _ h => List.mem_cons_of_mem _ (List.mem_append_right _ h)) (by decide +kernel))
set_option maxRecDepth 20000 in
theorem gX2_sumOfRoots_X2_sum : GoodIn wsX2_sumOfRoots (va_wsS RX2 33 yX2_sum wsX2_sum) := goodIn_app (goodIn_of _ (by decide +kernel)) ggX2_sumOfRoots_X2_sum
theorem dX2_sumOfRoots_0 : decode cX2_sumOfRoots 0 = .ok (.aload_n 0, 1) := by decide +kernel
theorem dX2_sumOfRoots_1 : decode cX2_sumOfRoots 1 = .ok (.getfield 15, 3) := by decide +kernel
theorem dX2_sumOfRoots_4 : decode cX2_sumOfRoots 4 = .ok (.invokestatic 33, 3) := by decide +kernel
theorem dX2_sumOfRoots_7 : decode cX2_sumOfRoots 7 = .ok (.lreturn, 1) := by decide +kernel
theorem dX2_sum_0 : decode cX2_sum 0 = .ok (.lconst 0, 1) := by decide +kernel
theorem dX2_sum_1 : decode cX2_sum 1 = .ok (.lstore_n 1, 1) := by decide +kernel
theorem dX2_sum_2 : decode cX2_sum 2 = .ok (.iconst 0, 1) := by decide +kernel
theorem dX2_sum_3 : decode cX2_sum 3 = .ok (.istore_n 3, 1) := by decide +kernel
theorem dX2_sum_4 : decode cX2_sum 4 = .ok (.iload_n 3, 1) := by decide +kernel
theorem dX2_sum_5 : decode cX2_sum 5 = .ok (.aload_n 0, 1) := by decide +kernel
theorem dX2_sum_6 : decode cX2_sum 6 = .ok (.arraylength, 1) := by decide +kernel
theorem dX2_sum_7 : decode cX2_sum 7 = .ok (.if_icmp .ge 15, 3) := by decide +kernel
theorem dX2_sum_10 : decode cX2_sum 10 = .ok (.lload_n 1, 1) := by decide +kernel
theorem dX2_sum_11 : decode cX2_sum 11 = .ok (.aload_n 0, 1) := by decide +kernel
theorem dX2_sum_12 : decode cX2_sum 12 = .ok (.iload_n 3, 1) := by decide +kernel
theorem dX2_sum_13 : decode cX2_sum 13 = .ok (.laload, 1) := by decide +kernel
theorem dX2_sum_14 : decode cX2_sum 14 = .ok (.ladd, 1) := by decide +kernel
theorem dX2_sum_15 : decode cX2_sum 15 = .ok (.lstore_n 1, 1) := by decide +kernel
theorem dX2_sum_16 : decode cX2_sum 16 = .ok (.iinc 3 1, 3) := by decide +kernel
theorem dX2_sum_19 : decode cX2_sum 19 = .ok (.goto (-15), 3) := by decide +kernel
theorem dX2_sum_22 : decode cX2_sum 22 = .ok (.lload_n 1, 1) := by decide +kernel
theorem dX2_sum_23 : decode cX2_sum 23 = .ok (.lreturn, 1) := by decide +kernel
theorem dX2_valueAt_0 : decode cX2_valueAt 0 = .ok (.aload_n 0, 1) := by decide +kernel
theorem dX2_valueAt_1 : decode cX2_valueAt 1 = .ok (.getfield 9, 3) := by decide +kernel
theorem dX2_valueAt_4 : decode cX2_valueAt 4 = .ok (.iload_n 1, 1) := by decide +kernel
theorem dX2_valueAt_5 : decode cX2_valueAt 5 = .ok (.bipush 7, 2) := by decide +kernel
theorem dX2_valueAt_7 : decode cX2_valueAt 7 = .ok (.iand, 1) := by decide +kernel
theorem dX2_valueAt_8 : decode cX2_valueAt 8 = .ok (.laload, 1) := by decide +kernel
theorem dX2_valueAt_9 : decode cX2_valueAt 9 = .ok (.l2d, 1) := by decide +kernel
theorem dX2_valueAt_10 : decode cX2_valueAt 10 = .ok (.ldc2_w 37, 3) := by decide +kernel
theorem dX2_valueAt_13 : decode cX2_valueAt 13 = .ok (.aload_n 0, 1) := by decide +kernel
theorem dX2_valueAt_14 : decode cX2_valueAt 14 = .ok (.getfield 15, 3) := by decide +kernel
theorem dX2_valueAt_17 : decode cX2_valueAt 17 = .ok (.iload_n 1, 1) := by decide +kernel
theorem dX2_valueAt_18 : decode cX2_valueAt 18 = .ok (.bipush 7, 2) := by decide +kernel
theorem dX2_valueAt_20 : decode cX2_valueAt 20 = .ok (.iand, 1) := by decide +kernel
theorem dX2_valueAt_21 : decode cX2_valueAt 21 = .ok (.laload, 1) := by decide +kernel
theorem dX2_valueAt_22 : decode cX2_valueAt 22 = .ok (.l2d, 1) := by decide +kernel
theorem dX2_valueAt_23 : decode cX2_valueAt 23 = .ok (.dmul, 1) := by decide +kernel
theorem dX2_valueAt_24 : decode cX2_valueAt 24 = .ok (.dadd, 1) := by decide +kernel
theorem dX2_valueAt_25 : decode cX2_valueAt 25 = .ok (.dreturn, 1) := by decide +kernel
set_option maxRecDepth 20000 in
theorem ggX2_placeOfGreatest_X2_valueAt : GoodIn wsX2_placeOfGreatest wsX2_valueAt := goodIn_ca (goodIn_r _ [5, 6, 7, 8, 9, 10] (by decide +kernel) (by decide +kernel)) (goodIn_sub (fun _ h => List.mem_cons_of_mem _ (List.mem_append_right _ h)) (by decide +kernel))
set_option maxRecDepth 20000 in
theorem gX2_placeOfGreatest_X2_valueAt : GoodIn wsX2_placeOfGreatest (wsV RX2 39 RX2 yX2_valueAt wsX2_valueAt) := goodIn_app (goodIn_of _ (by decide +kernel)) ggX2_placeOfGreatest_X2_valueAt
theorem dX2_placeOfGreatest_0 : decode cX2_placeOfGreatest 0 = .ok (.iconst 0, 1) := by decide +kernel
theorem dX2_placeOfGreatest_1 : decode cX2_placeOfGreatest 1 = .ok (.istore_n 1, 1) := by decide +kernel
theorem dX2_placeOfGreatest_2 : decode cX2_placeOfGreatest 2 = .ok (.iconst 1, 1) := by decide +kernel
theorem dX2_placeOfGreatest_3 : decode cX2_placeOfGreatest 3 = .ok (.istore_n 2, 1) := by decide +kernel
theorem dX2_placeOfGreatest_4 : decode cX2_placeOfGreatest 4 = .ok (.iload_n 2, 1) := by decide +kernel
theorem dX2_placeOfGreatest_5 : decode cX2_placeOfGreatest 5 = .ok (.bipush 8, 2) := by decide +kernel
theorem dX2_placeOfGreatest_7 : decode cX2_placeOfGreatest 7 = .ok (.if_icmp .ge 25, 3) := by decide +kernel
theorem dX2_placeOfGreatest_10 : decode cX2_placeOfGreatest 10 = .ok (.aload_n 0, 1) := by decide +kernel
theorem dX2_placeOfGreatest_11 : decode cX2_placeOfGreatest 11 = .ok (.iload_n 2, 1) := by decide +kernel
theorem dX2_placeOfGreatest_12 : decode cX2_placeOfGreatest 12 = .ok (.invokevirtual 39, 3) := by decide +kernel
theorem dX2_placeOfGreatest_15 : decode cX2_placeOfGreatest 15 = .ok (.aload_n 0, 1) := by decide +kernel
theorem dX2_placeOfGreatest_16 : decode cX2_placeOfGreatest 16 = .ok (.iload_n 1, 1) := by decide +kernel
theorem dX2_placeOfGreatest_17 : decode cX2_placeOfGreatest 17 = .ok (.invokevirtual 39, 3) := by decide +kernel
theorem dX2_placeOfGreatest_20 : decode cX2_placeOfGreatest 20 = .ok (.dcmp .l, 1) := by decide +kernel
theorem dX2_placeOfGreatest_21 : decode cX2_placeOfGreatest 21 = .ok (.ifCond .le 5, 3) := by decide +kernel
theorem dX2_placeOfGreatest_26 : decode cX2_placeOfGreatest 26 = .ok (.iinc 2 1, 3) := by decide +kernel
theorem dX2_placeOfGreatest_29 : decode cX2_placeOfGreatest 29 = .ok (.goto (-25), 3) := by decide +kernel
theorem dX2_placeOfGreatest_32 : decode cX2_placeOfGreatest 32 = .ok (.iload_n 1, 1) := by decide +kernel
theorem dX2_placeOfGreatest_33 : decode cX2_placeOfGreatest 33 = .ok (.ireturn, 1) := by decide +kernel
set_option maxRecDepth 20000 in
theorem ggX2_greatest_X2_placeOfGreatest : GoodIn wsX2_greatest wsX2_placeOfGreatest := goodIn_ca (goodIn_r _ [5, 6, 7, 8, 4, 9, 10, 11, 12, 13, 14] (by decide +kernel) (by decide +kernel)) (goodIn_sub (fun _ h => List.mem_cons_of_mem _ (List.mem_append_right _ h)) (by decide +kernel))
set_option maxRecDepth 20000 in
theorem gX2_greatest_X2_placeOfGreatest : GoodIn wsX2_greatest (wsV RX2 43 RX2 yX2_placeOfGreatest wsX2_placeOfGreatest) := goodIn_app (goodIn_of _ (by decide +kernel)) ggX2_greatest_X2_placeOfGreatest
set_option maxRecDepth 20000 in
theorem ggX2_greatest_X2_valueAt : GoodIn wsX2_greatest wsX2_valueAt := goodIn_ca (goodIn_r _ [9, 10, 11, 12, 13, 14] (by decide +kernel) (by decide +kernel)) (goodIn_sub (fun _ h => List.mem_cons_of_mem _ (List.mem_append_right _ h)) (by decide +kernel))
set_option maxRecDepth 20000 in
theorem gX2_greatest_X2_valueAt : GoodIn wsX2_greatest (wsV RX2 39 RX2 yX2_valueAt wsX2_valueAt) := goodIn_app (goodIn_of _ (by decide +kernel)) ggX2_greatest_X2_valueAt
theorem dX2_greatest_0 : decode cX2_greatest 0 = .ok (.aload_n 0, 1) := by decide +kernel
theorem dX2_greatest_1 : decode cX2_greatest 1 = .ok (.aload_n 0, 1) := by decide +kernel
theorem dX2_greatest_2 : decode cX2_greatest 2 = .ok (.invokevirtual 43, 3) := by decide +kernel
theorem dX2_greatest_5 : decode cX2_greatest 5 = .ok (.invokevirtual 39, 3) := by decide +kernel
theorem dX2_greatest_8 : decode cX2_greatest 8 = .ok (.dreturn, 1) := by decide +kernel
set_option maxRecDepth 20000 in
theorem ggX2_least_X2_valueAt : GoodIn wsX2_least wsX2_valueAt := goodIn_ca (goodIn_r _ [5, 6, 7, 8, 9, 10] (by decide +kernel) (by decide +kernel)) (goodIn_sub (fun _ h => List.mem_cons_of_mem _ (List.mem_append_right _ h)) (by decide +kernel))
set_option maxRecDepth 20000 in
theorem gX2_least_X2_valueAt : GoodIn wsX2_least (wsV RX2 39 RX2 yX2_valueAt wsX2_valueAt) := goodIn_app (goodIn_of _ (by decide +kernel)) ggX2_least_X2_valueAt
theorem dX2_least_0 : decode cX2_least 0 = .ok (.aload_n 0, 1) := by decide +kernel
theorem dX2_least_1 : decode cX2_least 1 = .ok (.iconst 0, 1) := by decide +kernel
theorem dX2_least_2 : decode cX2_least 2 = .ok (.invokevirtual 39, 3) := by decide +kernel
theorem dX2_least_5 : decode cX2_least 5 = .ok (.dstore_n 1, 1) := by decide +kernel
theorem dX2_least_6 : decode cX2_least 6 = .ok (.iconst 1, 1) := by decide +kernel
theorem dX2_least_7 : decode cX2_least 7 = .ok (.istore_n 3, 1) := by decide +kernel
theorem dX2_least_8 : decode cX2_least 8 = .ok (.iload_n 3, 1) := by decide +kernel
theorem dX2_least_9 : decode cX2_least 9 = .ok (.bipush 8, 2) := by decide +kernel
theorem dX2_least_11 : decode cX2_least 11 = .ok (.if_icmp .ge 30, 3) := by decide +kernel
theorem dX2_least_14 : decode cX2_least 14 = .ok (.aload_n 0, 1) := by decide +kernel
theorem dX2_least_15 : decode cX2_least 15 = .ok (.iload_n 3, 1) := by decide +kernel
theorem dX2_least_16 : decode cX2_least 16 = .ok (.invokevirtual 39, 3) := by decide +kernel
theorem dX2_least_19 : decode cX2_least 19 = .ok (.dstore 4, 2) := by decide +kernel
theorem dX2_least_21 : decode cX2_least 21 = .ok (.dload 4, 2) := by decide +kernel
theorem dX2_least_23 : decode cX2_least 23 = .ok (.dload_n 1, 1) := by decide +kernel
theorem dX2_least_24 : decode cX2_least 24 = .ok (.dcmp .g, 1) := by decide +kernel
theorem dX2_least_25 : decode cX2_least 25 = .ok (.ifCond .ge 8, 3) := by decide +kernel
theorem dX2_least_33 : decode cX2_least 33 = .ok (.dload_n 1, 1) := by decide +kernel
theorem dX2_least_34 : decode cX2_least 34 = .ok (.dstore_n 1, 1) := by decide +kernel
theorem dX2_least_35 : decode cX2_least 35 = .ok (.iinc 3 1, 3) := by decide +kernel
theorem dX2_least_38 : decode cX2_least 38 = .ok (.goto (-30), 3) := by decide +kernel
theorem dX2_least_41 : decode cX2_least 41 = .ok (.dload_n 1, 1) := by decide +kernel
theorem dX2_least_42 : decode cX2_least 42 = .ok (.dreturn, 1) := by decide +kernel
theorem dX2_darkPlaces_0 : decode cX2_darkPlaces 0 = .ok (.iconst 0, 1) := by decide +kernel
theorem dX2_darkPlaces_1 : decode cX2_darkPlaces 1 = .ok (.istore_n 1, 1) := by decide +kernel
theorem dX2_darkPlaces_2 : decode cX2_darkPlaces 2 = .ok (.iconst 0, 1) := by decide +kernel
theorem dX2_darkPlaces_3 : decode cX2_darkPlaces 3 = .ok (.istore_n 2, 1) := by decide +kernel
theorem dX2_darkPlaces_4 : decode cX2_darkPlaces 4 = .ok (.iload_n 2, 1) := by decide +kernel
theorem dX2_darkPlaces_5 : decode cX2_darkPlaces 5 = .ok (.bipush 8, 2) := by decide +kernel
theorem dX2_darkPlaces_7 : decode cX2_darkPlaces 7 = .ok (.if_icmp .ge 37, 3) := by decide +kernel
theorem dX2_darkPlaces_10 : decode cX2_darkPlaces 10 = .ok (.aload_n 0, 1) := by decide +kernel
theorem dX2_darkPlaces_11 : decode cX2_darkPlaces 11 = .ok (.getfield 9, 3) := by decide +kernel
theorem dX2_darkPlaces_14 : decode cX2_darkPlaces 14 = .ok (.iload_n 2, 1) := by decide +kernel
theorem dX2_darkPlaces_15 : decode cX2_darkPlaces 15 = .ok (.laload, 1) := by decide +kernel
theorem dX2_darkPlaces_16 : decode cX2_darkPlaces 16 = .ok (.lconst 0, 1) := by decide +kernel
theorem dX2_darkPlaces_17 : decode cX2_darkPlaces 17 = .ok (.lcmp, 1) := by decide +kernel
theorem dX2_darkPlaces_18 : decode cX2_darkPlaces 18 = .ok (.ifCond .ne 20, 3) := by decide +kernel
theorem dX2_darkPlaces_21 : decode cX2_darkPlaces 21 = .ok (.aload_n 0, 1) := by decide +kernel
theorem dX2_darkPlaces_22 : decode cX2_darkPlaces 22 = .ok (.getfield 15, 3) := by decide +kernel
theorem dX2_darkPlaces_25 : decode cX2_darkPlaces 25 = .ok (.iload_n 2, 1) := by decide +kernel
theorem dX2_darkPlaces_26 : decode cX2_darkPlaces 26 = .ok (.laload, 1) := by decide +kernel
theorem dX2_darkPlaces_27 : decode cX2_darkPlaces 27 = .ok (.lconst 0, 1) := by decide +kernel
theorem dX2_darkPlaces_28 : decode cX2_darkPlaces 28 = .ok (.lcmp, 1) := by decide +kernel
theorem dX2_darkPlaces_29 : decode cX2_darkPlaces 29 = .ok (.ifCond .ne 9, 3) := by decide +kernel
theorem dX2_darkPlaces_32 : decode cX2_darkPlaces 32 = .ok (.iload_n 1, 1) := by decide +kernel
theorem dX2_darkPlaces_33 : decode cX2_darkPlaces 33 = .ok (.iconst 1, 1) := by decide +kernel
theorem dX2_darkPlaces_34 : decode cX2_darkPlaces 34 = .ok (.iload_n 2, 1) := by decide +kernel
theorem dX2_darkPlaces_35 : decode cX2_darkPlaces 35 = .ok (.ishl, 1) := by decide +kernel
theorem dX2_darkPlaces_36 : decode cX2_darkPlaces 36 = .ok (.ior, 1) := by decide +kernel
theorem dX2_darkPlaces_37 : decode cX2_darkPlaces 37 = .ok (.istore_n 1, 1) := by decide +kernel
theorem dX2_darkPlaces_38 : decode cX2_darkPlaces 38 = .ok (.iinc 2 1, 3) := by decide +kernel
theorem dX2_darkPlaces_41 : decode cX2_darkPlaces 41 = .ok (.goto (-37), 3) := by decide +kernel
theorem dX2_darkPlaces_44 : decode cX2_darkPlaces 44 = .ok (.iload_n 1, 1) := by decide +kernel
theorem dX2_darkPlaces_45 : decode cX2_darkPlaces 45 = .ok (.ireturn, 1) := by decide +kernel
set_option maxRecDepth 20000 in
theorem ggX2_shortestRoll_X2_isAsItWas : GoodIn wsX2_shortestRoll wsX2_isAsItWas := goodIn_ca (goodIn_r _ [5, 6, 7, 8, 9] (by decide +kernel) (by decide +kernel)) (goodIn_sub (fun _ h => List.mem_cons_of_mem _ (List.mem_append_right _ h)) (by decide +kernel))
set_option maxRecDepth 20000 in
theorem gX2_shortestRoll_X2_isAsItWas : GoodIn wsX2_shortestRoll (wsV RX2 47 RX2 yX2_isAsItWas wsX2_isAsItWas) := goodIn_app (goodIn_of _ (by decide +kernel)) ggX2_shortestRoll_X2_isAsItWas
theorem dX2_shortestRoll_0 : decode cX2_shortestRoll 0 = .ok (.iconst 1, 1) := by decide +kernel
theorem dX2_shortestRoll_1 : decode cX2_shortestRoll 1 = .ok (.istore_n 1, 1) := by decide +kernel
theorem dX2_shortestRoll_2 : decode cX2_shortestRoll 2 = .ok (.iload_n 1, 1) := by decide +kernel
theorem dX2_shortestRoll_3 : decode cX2_shortestRoll 3 = .ok (.bipush 8, 2) := by decide +kernel
theorem dX2_shortestRoll_5 : decode cX2_shortestRoll 5 = .ok (.if_icmp .ge 19, 3) := by decide +kernel
theorem dX2_shortestRoll_8 : decode cX2_shortestRoll 8 = .ok (.aload_n 0, 1) := by decide +kernel
theorem dX2_shortestRoll_9 : decode cX2_shortestRoll 9 = .ok (.iload_n 1, 1) := by decide +kernel
theorem dX2_shortestRoll_10 : decode cX2_shortestRoll 10 = .ok (.invokevirtual 47, 3) := by decide +kernel
theorem dX2_shortestRoll_13 : decode cX2_shortestRoll 13 = .ok (.ifCond .eq 5, 3) := by decide +kernel
theorem dX2_shortestRoll_16 : decode cX2_shortestRoll 16 = .ok (.iload_n 1, 1) := by decide +kernel
theorem dX2_shortestRoll_17 : decode cX2_shortestRoll 17 = .ok (.ireturn, 1) := by decide +kernel
theorem dX2_isAsItWas_0 : decode cX2_isAsItWas 0 = .ok (.iconst 0, 1) := by decide +kernel
theorem dX2_isAsItWas_1 : decode cX2_isAsItWas 1 = .ok (.istore_n 2, 1) := by decide +kernel
theorem dX2_isAsItWas_2 : decode cX2_isAsItWas 2 = .ok (.iload_n 2, 1) := by decide +kernel
theorem dX2_isAsItWas_3 : decode cX2_isAsItWas 3 = .ok (.bipush 8, 2) := by decide +kernel
theorem dX2_isAsItWas_5 : decode cX2_isAsItWas 5 = .ok (.if_icmp .ge 50, 3) := by decide +kernel
theorem dX2_isAsItWas_8 : decode cX2_isAsItWas 8 = .ok (.iload_n 2, 1) := by decide +kernel
theorem dX2_isAsItWas_9 : decode cX2_isAsItWas 9 = .ok (.iload_n 1, 1) := by decide +kernel
theorem dX2_isAsItWas_10 : decode cX2_isAsItWas 10 = .ok (.iadd, 1) := by decide +kernel
theorem dX2_isAsItWas_11 : decode cX2_isAsItWas 11 = .ok (.bipush 7, 2) := by decide +kernel
theorem dX2_isAsItWas_13 : decode cX2_isAsItWas 13 = .ok (.iand, 1) := by decide +kernel
theorem dX2_isAsItWas_14 : decode cX2_isAsItWas 14 = .ok (.istore_n 3, 1) := by decide +kernel
theorem dX2_isAsItWas_15 : decode cX2_isAsItWas 15 = .ok (.aload_n 0, 1) := by decide +kernel
theorem dX2_isAsItWas_16 : decode cX2_isAsItWas 16 = .ok (.getfield 9, 3) := by decide +kernel
theorem dX2_isAsItWas_19 : decode cX2_isAsItWas 19 = .ok (.iload_n 2, 1) := by decide +kernel
theorem dX2_isAsItWas_20 : decode cX2_isAsItWas 20 = .ok (.laload, 1) := by decide +kernel
theorem dX2_isAsItWas_21 : decode cX2_isAsItWas 21 = .ok (.aload_n 0, 1) := by decide +kernel
theorem dX2_isAsItWas_22 : decode cX2_isAsItWas 22 = .ok (.getfield 9, 3) := by decide +kernel
theorem dX2_isAsItWas_25 : decode cX2_isAsItWas 25 = .ok (.iload_n 3, 1) := by decide +kernel
theorem dX2_isAsItWas_26 : decode cX2_isAsItWas 26 = .ok (.laload, 1) := by decide +kernel
theorem dX2_isAsItWas_27 : decode cX2_isAsItWas 27 = .ok (.lcmp, 1) := by decide +kernel
theorem dX2_isAsItWas_28 : decode cX2_isAsItWas 28 = .ok (.ifCond .ne 19, 3) := by decide +kernel
theorem dX2_isAsItWas_31 : decode cX2_isAsItWas 31 = .ok (.aload_n 0, 1) := by decide +kernel
theorem dX2_isAsItWas_32 : decode cX2_isAsItWas 32 = .ok (.getfield 15, 3) := by decide +kernel
theorem dX2_isAsItWas_35 : decode cX2_isAsItWas 35 = .ok (.iload_n 2, 1) := by decide +kernel
theorem dX2_isAsItWas_36 : decode cX2_isAsItWas 36 = .ok (.laload, 1) := by decide +kernel
theorem dX2_isAsItWas_37 : decode cX2_isAsItWas 37 = .ok (.aload_n 0, 1) := by decide +kernel
theorem dX2_isAsItWas_38 : decode cX2_isAsItWas 38 = .ok (.getfield 15, 3) := by decide +kernel
theorem dX2_isAsItWas_41 : decode cX2_isAsItWas 41 = .ok (.iload_n 3, 1) := by decide +kernel
theorem dX2_isAsItWas_42 : decode cX2_isAsItWas 42 = .ok (.laload, 1) := by decide +kernel
theorem dX2_isAsItWas_43 : decode cX2_isAsItWas 43 = .ok (.lcmp, 1) := by decide +kernel
theorem dX2_isAsItWas_44 : decode cX2_isAsItWas 44 = .ok (.ifCond .eq 5, 3) := by decide +kernel
theorem dX2_isAsItWas_49 : decode cX2_isAsItWas 49 = .ok (.iinc 2 1, 3) := by decide +kernel
theorem dX2_isAsItWas_52 : decode cX2_isAsItWas 52 = .ok (.goto (-50), 3) := by decide +kernel
theorem dX2_isAsItWas_55 : decode cX2_isAsItWas 55 = .ok (.iconst 1, 1) := by decide +kernel
theorem dX2_isAsItWas_56 : decode cX2_isAsItWas 56 = .ok (.ireturn, 1) := by decide +kernel
set_option maxRecDepth 20000 in
theorem ggX2_contrast_X2_greatest : GoodIn wsX2_contrast wsX2_greatest := goodIn_ca (goodIn_r _ [5, 6, 7, 8, 4, 9, 10, 11, 12, 13, 14, 15, 16, 24, 25] (by decide +kernel) (by decide +kernel)) (goodIn_sub (fun _ h => List.mem_cons_of_mem _ (List.mem_append_right _ h)) (by decide +kernel))
set_option maxRecDepth 20000 in
theorem gX2_contrast_X2_greatest : GoodIn wsX2_contrast (wsV RX2 51 RX2 yX2_greatest wsX2_greatest) := goodIn_app (goodIn_of _ (by decide +kernel)) ggX2_contrast_X2_greatest
set_option maxRecDepth 20000 in
theorem ggX2_contrast_X2_notBelowZero : GoodIn wsX2_contrast wsX2_notBelowZero := goodIn_r _ [19] (by decide +kernel) (by decide +kernel)
set_option maxRecDepth 20000 in
theorem gX2_contrast_X2_notBelowZero : GoodIn wsX2_contrast (va_wsS RX2 55 yX2_notBelowZero wsX2_notBelowZero) := goodIn_app (goodIn_of _ (by decide +kernel)) ggX2_contrast_X2_notBelowZero
set_option maxRecDepth 20000 in
theorem ggX2_contrast_X2_least : GoodIn wsX2_contrast wsX2_least := goodIn_ca (goodIn_r _ [23, 10, 11, 12, 4, 13, 14, 15, 16, 24, 25] (by decide +kernel) (by decide +kernel)) (goodIn_sub (fun _ h => List.mem_cons_of_mem _ (List.mem_append_right _ h)) (by decide +kernel))
set_option maxRecDepth 20000 in
theorem gX2_contrast_X2_least : GoodIn wsX2_contrast (wsV RX2 59 RX2 yX2_least wsX2_least) := goodIn_app (goodIn_of _ (by decide +kernel)) ggX2_contrast_X2_least
theorem dX2_contrast_0 : decode cX2_contrast 0 = .ok (.aload_n 0, 1) := by decide +kernel
theorem dX2_contrast_1 : decode cX2_contrast 1 = .ok (.invokevirtual 51, 3) := by decide +kernel
theorem dX2_contrast_4 : decode cX2_contrast 4 = .ok (.invokestatic 55, 3) := by decide +kernel
theorem dX2_contrast_7 : decode cX2_contrast 7 = .ok (.dstore_n 1, 1) := by decide +kernel
theorem dX2_contrast_8 : decode cX2_contrast 8 = .ok (.aload_n 0, 1) := by decide +kernel
theorem dX2_contrast_9 : decode cX2_contrast 9 = .ok (.invokevirtual 59, 3) := by decide +kernel
theorem dX2_contrast_12 : decode cX2_contrast 12 = .ok (.invokestatic 55, 3) := by decide +kernel
theorem dX2_contrast_15 : decode cX2_contrast 15 = .ok (.dstore_n 3, 1) := by decide +kernel
theorem dX2_contrast_16 : decode cX2_contrast 16 = .ok (.dload_n 1, 1) := by decide +kernel
theorem dX2_contrast_17 : decode cX2_contrast 17 = .ok (.dload_n 3, 1) := by decide +kernel
theorem dX2_contrast_18 : decode cX2_contrast 18 = .ok (.dadd, 1) := by decide +kernel
theorem dX2_contrast_19 : decode cX2_contrast 19 = .ok (.dstore 5, 2) := by decide +kernel
theorem dX2_contrast_21 : decode cX2_contrast 21 = .ok (.dload 5, 2) := by decide +kernel
theorem dX2_contrast_23 : decode cX2_contrast 23 = .ok (.dconst 0, 1) := by decide +kernel
theorem dX2_contrast_24 : decode cX2_contrast 24 = .ok (.dcmp .l, 1) := by decide +kernel
theorem dX2_contrast_25 : decode cX2_contrast 25 = .ok (.ifCond .le 12, 3) := by decide +kernel
theorem dX2_contrast_37 : decode cX2_contrast 37 = .ok (.dconst 0, 1) := by decide +kernel
theorem dX2_contrast_38 : decode cX2_contrast 38 = .ok (.dreturn, 1) := by decide +kernel
set_option maxRecDepth 20000 in
theorem ggX2_inTenths_X2_greatest : GoodIn wsX2_inTenths wsX2_greatest := goodIn_ca (goodIn_r _ [6, 7, 8, 9, 5, 10, 11, 12, 13, 14, 15, 16, 17, 25, 26] (by decide +kernel) (by decide +kernel)) (goodIn_sub (fun _ h => List.mem_cons_of_mem _ (List.mem_append_right _ h)) (by decide +kernel))
set_option maxRecDepth 20000 in
theorem gX2_inTenths_X2_greatest : GoodIn wsX2_inTenths (wsV RX2 51 RX2 yX2_greatest wsX2_greatest) := goodIn_app (goodIn_of _ (by decide +kernel)) ggX2_inTenths_X2_greatest
theorem dX2_inTenths_0 : decode cX2_inTenths 0 = .ok (.aload_n 0, 1) := by decide +kernel
theorem dX2_inTenths_1 : decode cX2_inTenths 1 = .ok (.invokevirtual 51, 3) := by decide +kernel
theorem dX2_inTenths_4 : decode cX2_inTenths 4 = .ok (.dstore_n 2, 1) := by decide +kernel
theorem dX2_inTenths_5 : decode cX2_inTenths 5 = .ok (.dload_n 2, 1) := by decide +kernel
theorem dX2_inTenths_6 : decode cX2_inTenths 6 = .ok (.dconst 0, 1) := by decide +kernel
theorem dX2_inTenths_7 : decode cX2_inTenths 7 = .ok (.dcmp .l, 1) := by decide +kernel
theorem dX2_inTenths_8 : decode cX2_inTenths 8 = .ok (.ifCond .le 20, 3) := by decide +kernel
theorem dX2_inTenths_28 : decode cX2_inTenths 28 = .ok (.dconst 0, 1) := by decide +kernel
theorem dX2_inTenths_29 : decode cX2_inTenths 29 = .ok (.dreturn, 1) := by decide +kernel
theorem dX2_notBelowZero_0 : decode cX2_notBelowZero 0 = .ok (.dload_n 0, 1) := by decide +kernel
theorem dX2_notBelowZero_1 : decode cX2_notBelowZero 1 = .ok (.dconst 0, 1) := by decide +kernel
theorem dX2_notBelowZero_2 : decode cX2_notBelowZero 2 = .ok (.dcmp .l, 1) := by decide +kernel
theorem dX2_notBelowZero_3 : decode cX2_notBelowZero 3 = .ok (.ifCond .le 7, 3) := by decide +kernel
theorem dX2_notBelowZero_10 : decode cX2_notBelowZero 10 = .ok (.dconst 0, 1) := by decide +kernel
theorem dX2_notBelowZero_11 : decode cX2_notBelowZero 11 = .ok (.dreturn, 1) := by decide +kernel
set_option maxRecDepth 20000 in
theorem ggX2_addToDigest_X2_placeOfGreatest : GoodIn wsX2_addToDigest wsX2_placeOfGreatest := goodIn_ca (goodIn_r _ [8, 9, 10, 11, 7, 12, 2, 13, 3, 26, 27] (by decide +kernel) (by decide +kernel)) (goodIn_sub (fun _ h => List.mem_cons_of_mem _ (List.mem_append_right _ h)) (by decide +kernel))
set_option maxRecDepth 20000 in
theorem gX2_addToDigest_X2_placeOfGreatest : GoodIn wsX2_addToDigest (wsV RX2 43 RX2 yX2_placeOfGreatest wsX2_placeOfGreatest) := goodIn_app (goodIn_of _ (by decide +kernel)) ggX2_addToDigest_X2_placeOfGreatest
set_option maxRecDepth 20000 in
theorem ggX2_addToDigest_X2_darkPlaces : GoodIn wsX2_addToDigest wsX2_darkPlaces := goodIn_ca (goodIn_r _ [17, 2, 3, 26, 27] (by decide +kernel) (by decide +kernel)) (goodIn_sub (fun _ h => List.mem_cons_of_mem _ (List.mem_append_right _ h)) (by decide +kernel))
set_option maxRecDepth 20000 in
theorem gX2_addToDigest_X2_darkPlaces : GoodIn wsX2_addToDigest (wsV RX2 74 RX2 yX2_darkPlaces wsX2_darkPlaces) := goodIn_app (goodIn_of _ (by decide +kernel)) ggX2_addToDigest_X2_darkPlaces
set_option maxRecDepth 20000 in
theorem ggX2_addToDigest_X2_shortestRoll : GoodIn wsX2_addToDigest wsX2_shortestRoll := goodIn_ca (goodIn_r _ [21, 22, 23, 24, 7, 25, 2, 3, 26, 27] (by decide +kernel) (by decide +kernel)) (goodIn_sub (fun _ h => List.mem_cons_of_mem _ (List.mem_append_right _ h)) (by decide +kernel))
set_option maxRecDepth 20000 in
theorem gX2_addToDigest_X2_shortestRoll : GoodIn wsX2_addToDigest (wsV RX2 77 RX2 yX2_shortestRoll wsX2_shortestRoll) := goodIn_app (goodIn_of _ (by decide +kernel)) ggX2_addToDigest_X2_shortestRoll
theorem dX2_addToDigest_0 : decode cX2_addToDigest 0 = .ok (.lload_n 1, 1) := by decide +kernel
theorem dX2_addToDigest_1 : decode cX2_addToDigest 1 = .ok (.lstore_n 3, 1) := by decide +kernel
theorem dX2_addToDigest_2 : decode cX2_addToDigest 2 = .ok (.iconst 0, 1) := by decide +kernel
theorem dX2_addToDigest_3 : decode cX2_addToDigest 3 = .ok (.istore 5, 2) := by decide +kernel
theorem dX2_addToDigest_5 : decode cX2_addToDigest 5 = .ok (.iload 5, 2) := by decide +kernel
theorem dX2_addToDigest_7 : decode cX2_addToDigest 7 = .ok (.bipush 8, 2) := by decide +kernel
theorem dX2_addToDigest_9 : decode cX2_addToDigest 9 = .ok (.if_icmp .ge 37, 3) := by decide +kernel
theorem dX2_addToDigest_12 : decode cX2_addToDigest 12 = .ok (.lload_n 3, 1) := by decide +kernel
theorem dX2_addToDigest_13 : decode cX2_addToDigest 13 = .ok (.ldc2_w 72, 3) := by decide +kernel
theorem dX2_addToDigest_16 : decode cX2_addToDigest 16 = .ok (.lmul, 1) := by decide +kernel
theorem dX2_addToDigest_17 : decode cX2_addToDigest 17 = .ok (.aload_n 0, 1) := by decide +kernel
theorem dX2_addToDigest_18 : decode cX2_addToDigest 18 = .ok (.getfield 9, 3) := by decide +kernel
theorem dX2_addToDigest_21 : decode cX2_addToDigest 21 = .ok (.iload 5, 2) := by decide +kernel
theorem dX2_addToDigest_23 : decode cX2_addToDigest 23 = .ok (.laload, 1) := by decide +kernel
theorem dX2_addToDigest_24 : decode cX2_addToDigest 24 = .ok (.ladd, 1) := by decide +kernel
theorem dX2_addToDigest_25 : decode cX2_addToDigest 25 = .ok (.lstore_n 3, 1) := by decide +kernel
theorem dX2_addToDigest_26 : decode cX2_addToDigest 26 = .ok (.lload_n 3, 1) := by decide +kernel
theorem dX2_addToDigest_27 : decode cX2_addToDigest 27 = .ok (.ldc2_w 72, 3) := by decide +kernel
theorem dX2_addToDigest_30 : decode cX2_addToDigest 30 = .ok (.lmul, 1) := by decide +kernel
theorem dX2_addToDigest_31 : decode cX2_addToDigest 31 = .ok (.aload_n 0, 1) := by decide +kernel
theorem dX2_addToDigest_32 : decode cX2_addToDigest 32 = .ok (.getfield 15, 3) := by decide +kernel
theorem dX2_addToDigest_35 : decode cX2_addToDigest 35 = .ok (.iload 5, 2) := by decide +kernel
theorem dX2_addToDigest_37 : decode cX2_addToDigest 37 = .ok (.laload, 1) := by decide +kernel
theorem dX2_addToDigest_38 : decode cX2_addToDigest 38 = .ok (.ladd, 1) := by decide +kernel
theorem dX2_addToDigest_39 : decode cX2_addToDigest 39 = .ok (.lstore_n 3, 1) := by decide +kernel
theorem dX2_addToDigest_40 : decode cX2_addToDigest 40 = .ok (.iinc 5 1, 3) := by decide +kernel
theorem dX2_addToDigest_43 : decode cX2_addToDigest 43 = .ok (.goto (-38), 3) := by decide +kernel
theorem dX2_addToDigest_46 : decode cX2_addToDigest 46 = .ok (.lload_n 3, 1) := by decide +kernel
theorem dX2_addToDigest_47 : decode cX2_addToDigest 47 = .ok (.ldc2_w 72, 3) := by decide +kernel
theorem dX2_addToDigest_50 : decode cX2_addToDigest 50 = .ok (.lmul, 1) := by decide +kernel
theorem dX2_addToDigest_51 : decode cX2_addToDigest 51 = .ok (.aload_n 0, 1) := by decide +kernel
theorem dX2_addToDigest_52 : decode cX2_addToDigest 52 = .ok (.invokevirtual 43, 3) := by decide +kernel
theorem dX2_addToDigest_55 : decode cX2_addToDigest 55 = .ok (.i2l, 1) := by decide +kernel
theorem dX2_addToDigest_56 : decode cX2_addToDigest 56 = .ok (.ladd, 1) := by decide +kernel
theorem dX2_addToDigest_57 : decode cX2_addToDigest 57 = .ok (.lstore_n 3, 1) := by decide +kernel
theorem dX2_addToDigest_58 : decode cX2_addToDigest 58 = .ok (.lload_n 3, 1) := by decide +kernel
theorem dX2_addToDigest_59 : decode cX2_addToDigest 59 = .ok (.ldc2_w 72, 3) := by decide +kernel
theorem dX2_addToDigest_62 : decode cX2_addToDigest 62 = .ok (.lmul, 1) := by decide +kernel
theorem dX2_addToDigest_63 : decode cX2_addToDigest 63 = .ok (.aload_n 0, 1) := by decide +kernel
theorem dX2_addToDigest_64 : decode cX2_addToDigest 64 = .ok (.invokevirtual 74, 3) := by decide +kernel
theorem dX2_addToDigest_67 : decode cX2_addToDigest 67 = .ok (.i2l, 1) := by decide +kernel
theorem dX2_addToDigest_68 : decode cX2_addToDigest 68 = .ok (.ladd, 1) := by decide +kernel
theorem dX2_addToDigest_69 : decode cX2_addToDigest 69 = .ok (.lstore_n 3, 1) := by decide +kernel
theorem dX2_addToDigest_70 : decode cX2_addToDigest 70 = .ok (.lload_n 3, 1) := by decide +kernel
theorem dX2_addToDigest_71 : decode cX2_addToDigest 71 = .ok (.ldc2_w 72, 3) := by decide +kernel
theorem dX2_addToDigest_74 : decode cX2_addToDigest 74 = .ok (.lmul, 1) := by decide +kernel
theorem dX2_addToDigest_75 : decode cX2_addToDigest 75 = .ok (.aload_n 0, 1) := by decide +kernel
theorem dX2_addToDigest_76 : decode cX2_addToDigest 76 = .ok (.invokevirtual 77, 3) := by decide +kernel
theorem dX2_addToDigest_79 : decode cX2_addToDigest 79 = .ok (.i2l, 1) := by decide +kernel
theorem dX2_addToDigest_80 : decode cX2_addToDigest 80 = .ok (.ladd, 1) := by decide +kernel
theorem dX2_addToDigest_81 : decode cX2_addToDigest 81 = .ok (.lreturn, 1) := by decide +kernel
theorem dX3_init_0 : decode cX3_init 0 = .ok (.aload_n 0, 1) := by decide +kernel
theorem dX3_init_1 : decode cX3_init 1 = .ok (.invokespecial 1, 3) := by decide +kernel
theorem dX3_init_4 : decode cX3_init 4 = .ok (.aload_n 0, 1) := by decide +kernel
theorem dX3_init_5 : decode cX3_init 5 = .ok (.iload_n 1, 1) := by decide +kernel
theorem dX3_init_6 : decode cX3_init 6 = .ok (.putfield 7, 3) := by decide +kernel
theorem dX3_init_9 : decode cX3_init 9 = .ok (.aload_n 0, 1) := by decide +kernel
theorem dX3_init_10 : decode cX3_init 10 = .ok (.iload_n 2, 1) := by decide +kernel
theorem dX3_init_11 : decode cX3_init 11 = .ok (.putfield 13, 3) := by decide +kernel
theorem dX3_init_14 : decode cX3_init 14 = .ok (.aload_n 0, 1) := by decide +kernel
theorem dX3_init_15 : decode cX3_init 15 = .ok (.iload_n 3, 1) := by decide +kernel
theorem dX3_init_16 : decode cX3_init 16 = .ok (.putfield 16, 3) := by decide +kernel
theorem dX3_init_19 : decode cX3_init 19 = .ok (.return_, 1) := by decide +kernel
set_option maxRecDepth 20000 in
theorem ggX4_init_X0_init : GoodIn wsX4_init wsX0_init := goodIn_r _ [19, 20, 2, 3, 21, 22, 23, 35, 36] (by decide +kernel) (by decide +kernel)
set_option maxRecDepth 20000 in
theorem gX4_init_X0_init_n23 : GoodIn wsX4_init (wsX0_init) := ggX4_init_X0_init
set_option maxRecDepth 20000 in
theorem ggX4_init_X2_init : GoodIn wsX4_init wsX2_init := goodIn_r _ [25, 26, 2, 3, 21, 27, 28, 37, 38] (by decide +kernel) (by decide +kernel)
set_option maxRecDepth 20000 in
theorem gX4_init_X2_init_n30 : GoodIn wsX4_init (wsX2_init) := ggX4_init_X2_init
theorem dX4_init_0 : decode cX4_init 0 = .ok (.aload_n 0, 1) := by decide +kernel
theorem dX4_init_1 : decode cX4_init 1 = .ok (.invokespecial 1, 3) := by decide +kernel
theorem dX4_init_4 : decode cX4_init 4 = .ok (.aload_n 0, 1) := by decide +kernel
theorem dX4_init_5 : decode cX4_init 5 = .ok (.iconst 3, 1) := by decide +kernel
theorem dX4_init_6 : decode cX4_init 6 = .ok (.anewarray 9, 3) := by decide +kernel
theorem dX4_init_9 : decode cX4_init 9 = .ok (.putfield 11, 3) := by decide +kernel
theorem dX4_init_12 : decode cX4_init 12 = .ok (.aload_n 0, 1) := by decide +kernel
theorem dX4_init_13 : decode cX4_init 13 = .ok (.bipush 8, 2) := by decide +kernel
theorem dX4_init_15 : decode cX4_init 15 = .ok (.anewarray 15, 3) := by decide +kernel
theorem dX4_init_18 : decode cX4_init 18 = .ok (.putfield 17, 3) := by decide +kernel
theorem dX4_init_21 : decode cX4_init 21 = .ok (.aload_n 0, 1) := by decide +kernel
theorem dX4_init_22 : decode cX4_init 22 = .ok (.new 21, 3) := by decide +kernel
theorem dX4_init_25 : decode cX4_init 25 = .ok (.dup, 1) := by decide +kernel
theorem dX4_init_26 : decode cX4_init 26 = .ok (.invokespecial 23, 3) := by decide +kernel
theorem dX4_init_29 : decode cX4_init 29 = .ok (.putfield 24, 3) := by decide +kernel
theorem dX4_init_32 : decode cX4_init 32 = .ok (.aload_n 0, 1) := by decide +kernel
theorem dX4_init_33 : decode cX4_init 33 = .ok (.new 28, 3) := by decide +kernel
theorem dX4_init_36 : decode cX4_init 36 = .ok (.dup, 1) := by decide +kernel
theorem dX4_init_37 : decode cX4_init 37 = .ok (.invokespecial 30, 3) := by decide +kernel
theorem dX4_init_40 : decode cX4_init 40 = .ok (.putfield 31, 3) := by decide +kernel
theorem dX4_init_43 : decode cX4_init 43 = .ok (.aload_n 0, 1) := by decide +kernel
theorem dX4_init_44 : decode cX4_init 44 = .ok (.iconst 0, 1) := by decide +kernel
theorem dX4_init_45 : decode cX4_init 45 = .ok (.putfield 35, 3) := by decide +kernel
theorem dX4_init_48 : decode cX4_init 48 = .ok (.aload_n 0, 1) := by decide +kernel
theorem dX4_init_49 : decode cX4_init 49 = .ok (.iconst 0, 1) := by decide +kernel
theorem dX4_init_50 : decode cX4_init 50 = .ok (.putfield 39, 3) := by decide +kernel
theorem dX4_init_53 : decode cX4_init 53 = .ok (.return_, 1) := by decide +kernel
set_option maxRecDepth 20000 in
theorem ggX4_source_X4_checkSource : GoodIn wsX4_source wsX4_checkSource := goodIn_ca (goodIn_r _ [11, 12, 13, 14, 15, 10, 16] (by decide +kernel) (by decide +kernel)) (goodIn_sub (fun _ h => List.mem_cons_of_mem _ (List.mem_append_right _ h)) (by decide +kernel))
set_option maxRecDepth 20000 in
theorem gX4_source_X4_checkSource : GoodIn wsX4_source (va_wsS RX4 42 yX4_checkSource wsX4_checkSource) := goodIn_app (goodIn_of _ (by decide +kernel)) ggX4_source_X4_checkSource
set_option maxRecDepth 20000 in
theorem ggX4_source_X3_init : GoodIn wsX4_source wsX3_init := goodIn_r _ [19, 20, 21, 22, 23, 24, 25, 32, 33, 34] (by decide +kernel) (by decide +kernel)
set_option maxRecDepth 20000 in
theorem gX4_source_X3_init : GoodIn wsX4_source (wsX3_init) := ggX4_source_X3_init
theorem dX4_source_0 : decode cX4_source 0 = .ok (.iload_n 1, 1) := by decide +kernel
theorem dX4_source_1 : decode cX4_source 1 = .ok (.iload_n 2, 1) := by decide +kernel
theorem dX4_source_2 : decode cX4_source 2 = .ok (.iload_n 3, 1) := by decide +kernel
theorem dX4_source_3 : decode cX4_source 3 = .ok (.invokestatic 42, 3) := by decide +kernel
theorem dX4_source_6 : decode cX4_source 6 = .ok (.aload_n 0, 1) := by decide +kernel
theorem dX4_source_7 : decode cX4_source 7 = .ok (.getfield 35, 3) := by decide +kernel
theorem dX4_source_10 : decode cX4_source 10 = .ok (.ifCond .lt 11, 3) := by decide +kernel
theorem dX4_source_13 : decode cX4_source 13 = .ok (.aload_n 0, 1) := by decide +kernel
theorem dX4_source_14 : decode cX4_source 14 = .ok (.getfield 35, 3) := by decide +kernel
theorem dX4_source_17 : decode cX4_source 17 = .ok (.iconst 3, 1) := by decide +kernel
theorem dX4_source_18 : decode cX4_source 18 = .ok (.if_icmp .lt 13, 3) := by decide +kernel
theorem dX4_source_31 : decode cX4_source 31 = .ok (.aload_n 0, 1) := by decide +kernel
theorem dX4_source_32 : decode cX4_source 32 = .ok (.getfield 11, 3) := by decide +kernel
theorem dX4_source_35 : decode cX4_source 35 = .ok (.aload_n 0, 1) := by decide +kernel
theorem dX4_source_36 : decode cX4_source 36 = .ok (.getfield 35, 3) := by decide +kernel
theorem dX4_source_39 : decode cX4_source 39 = .ok (.new 9, 3) := by decide +kernel
theorem dX4_source_42 : decode cX4_source 42 = .ok (.dup, 1) := by decide +kernel
theorem dX4_source_43 : decode cX4_source 43 = .ok (.iload_n 1, 1) := by decide +kernel
theorem dX4_source_44 : decode cX4_source 44 = .ok (.iload_n 2, 1) := by decide +kernel
theorem dX4_source_45 : decode cX4_source 45 = .ok (.iload_n 3, 1) := by decide +kernel
theorem dX4_source_46 : decode cX4_source 46 = .ok (.invokespecial 53, 3) := by decide +kernel
theorem dX4_source_49 : decode cX4_source 49 = .ok (.aastore, 1) := by decide +kernel
theorem dX4_source_50 : decode cX4_source 50 = .ok (.aload_n 0, 1) := by decide +kernel
theorem dX4_source_51 : decode cX4_source 51 = .ok (.dup, 1) := by decide +kernel
theorem dX4_source_52 : decode cX4_source 52 = .ok (.getfield 35, 3) := by decide +kernel
theorem dX4_source_55 : decode cX4_source 55 = .ok (.iconst 1, 1) := by decide +kernel
theorem dX4_source_56 : decode cX4_source 56 = .ok (.iadd, 1) := by decide +kernel
theorem dX4_source_57 : decode cX4_source 57 = .ok (.putfield 35, 3) := by decide +kernel
theorem dX4_source_60 : decode cX4_source 60 = .ok (.aload_n 0, 1) := by decide +kernel
theorem dX4_source_61 : decode cX4_source 61 = .ok (.getfield 35, 3) := by decide +kernel
theorem dX4_source_64 : decode cX4_source 64 = .ok (.iconst 1, 1) := by decide +kernel
theorem dX4_source_65 : decode cX4_source 65 = .ok (.isub, 1) := by decide +kernel
theorem dX4_source_66 : decode cX4_source 66 = .ok (.ireturn, 1) := by decide +kernel
set_option maxRecDepth 20000 in
theorem ggX4_move_X4_sourceAt : GoodIn wsX4_move wsX4_sourceAt := goodIn_r _ [10, 11, 12, 24, 25, 26, 27, 28, 29] (by decide +kernel) (by decide +kernel)
set_option maxRecDepth 20000 in
theorem gX4_move_X4_sourceAt : GoodIn wsX4_move (wsV RX4 55 RX4 yX4_sourceAt wsX4_sourceAt) := goodIn_app (goodIn_of _ (by decide +kernel)) ggX4_move_X4_sourceAt
theorem dX4_move_0 : decode cX4_move 0 = .ok (.aload_n 0, 1) := by decide +kernel
theorem dX4_move_1 : decode cX4_move 1 = .ok (.iload_n 1, 1) := by decide +kernel
theorem dX4_move_2 : decode cX4_move 2 = .ok (.invokevirtual 55, 3) := by decide +kernel
theorem dX4_move_5 : decode cX4_move 5 = .ok (.astore 5, 2) := by decide +kernel
theorem dX4_move_7 : decode cX4_move 7 = .ok (.aload 5, 2) := by decide +kernel
theorem dX4_move_9 : decode cX4_move 9 = .ok (.ifnonnull 13, 3) := by decide +kernel
theorem dX4_move_12 : decode cX4_move 12 = .ok (.new 59, 3) := by decide +kernel
theorem dX4_move_15 : decode cX4_move 15 = .ok (.dup, 1) := by decide +kernel
theorem dX4_move_16 : decode cX4_move 16 = .ok (.ldc 61, 2) := by decide +kernel
theorem dX4_move_18 : decode cX4_move 18 = .ok (.invokespecial 63, 3) := by decide +kernel
theorem dX4_move_21 : decode cX4_move 21 = .ok (.athrow, 1) := by decide +kernel
set_option maxRecDepth 20000 in
theorem ggX4_part_X4_isNumberOf : GoodIn wsX4_part wsX4_isNumberOf := goodIn_ca (goodIn_r _ [13, 14, 15, 12, 16, 17, 18, 19, 20, 21] (by decide +kernel) (by decide +kernel)) (goodIn_sub (fun _ h => List.mem_cons_of_mem _ (List.mem_append_right _ h)) (by decide +kernel))
set_option maxRecDepth 20000 in
theorem gX4_part_X4_isNumberOf : GoodIn wsX4_part (va_wsS RX4 73 yX4_isNumberOf wsX4_isNumberOf) := goodIn_app (goodIn_of _ (by decide +kernel)) ggX4_part_X4_isNumberOf
set_option maxRecDepth 20000 in
theorem ggX4_part_X1_init : GoodIn wsX4_part wsX1_init := goodIn_r _ [24, 25, 26, 27, 28, 29, 30, 31, 32, 33, 34, 41, 42, 43, 44, 45, 46] (by decide +kernel) (by decide +kernel)
set_option maxRecDepth 20000 in
theorem gX4_part_X1_init : GoodIn wsX4_part (wsX1_init) := ggX4_part_X1_init
theorem dX4_part_0 : decode cX4_part 0 = .ok (.iload_n 1, 1) := by decide +kernel
theorem dX4_part_1 : decode cX4_part 1 = .ok (.iload_n 2, 1) := by decide +kernel
theorem dX4_part_2 : decode cX4_part 2 = .ok (.invokestatic 73, 3) := by decide +kernel
theorem dX4_part_5 : decode cX4_part 5 = .ok (.ifCond .ne 13, 3) := by decide +kernel
theorem dX4_part_8 : decode cX4_part 8 = .ok (.new 77, 3) := by decide +kernel
theorem dX4_part_11 : decode cX4_part 11 = .ok (.dup, 1) := by decide +kernel
theorem dX4_part_12 : decode cX4_part 12 = .ok (.ldc 79, 2) := by decide +kernel
theorem dX4_part_14 : decode cX4_part 14 = .ok (.invokespecial 81, 3) := by decide +kernel
theorem dX4_part_17 : decode cX4_part 17 = .ok (.athrow, 1) := by decide +kernel
theorem dX4_part_18 : decode cX4_part 18 = .ok (.aload_n 0, 1) := by decide +kernel
theorem dX4_part_19 : decode cX4_part 19 = .ok (.getfield 39, 3) := by decide +kernel
theorem dX4_part_22 : decode cX4_part 22 = .ok (.ifCond .lt 12, 3) := by decide +kernel
theorem dX4_part_25 : decode cX4_part 25 = .ok (.aload_n 0, 1) := by decide +kernel
theorem dX4_part_26 : decode cX4_part 26 = .ok (.getfield 39, 3) := by decide +kernel
theorem dX4_part_29 : decode cX4_part 29 = .ok (.bipush 8, 2) := by decide +kernel
theorem dX4_part_31 : decode cX4_part 31 = .ok (.if_icmp .lt 13, 3) := by decide +kernel
theorem dX4_part_44 : decode cX4_part 44 = .ok (.aload_n 0, 1) := by decide +kernel
theorem dX4_part_45 : decode cX4_part 45 = .ok (.getfield 17, 3) := by decide +kernel
theorem dX4_part_48 : decode cX4_part 48 = .ok (.aload_n 0, 1) := by decide +kernel
theorem dX4_part_49 : decode cX4_part 49 = .ok (.getfield 39, 3) := by decide +kernel
theorem dX4_part_52 : decode cX4_part 52 = .ok (.new 15, 3) := by decide +kernel
theorem dX4_part_55 : decode cX4_part 55 = .ok (.dup, 1) := by decide +kernel
theorem dX4_part_56 : decode cX4_part 56 = .ok (.iload_n 1, 1) := by decide +kernel
theorem dX4_part_57 : decode cX4_part 57 = .ok (.iload_n 2, 1) := by decide +kernel
theorem dX4_part_58 : decode cX4_part 58 = .ok (.invokespecial 84, 3) := by decide +kernel
theorem dX4_part_61 : decode cX4_part 61 = .ok (.aastore, 1) := by decide +kernel
theorem dX4_part_62 : decode cX4_part 62 = .ok (.aload_n 0, 1) := by decide +kernel
theorem dX4_part_63 : decode cX4_part 63 = .ok (.dup, 1) := by decide +kernel
theorem dX4_part_64 : decode cX4_part 64 = .ok (.getfield 39, 3) := by decide +kernel
theorem dX4_part_67 : decode cX4_part 67 = .ok (.iconst 1, 1) := by decide +kernel
theorem dX4_part_68 : decode cX4_part 68 = .ok (.iadd, 1) := by decide +kernel
theorem dX4_part_69 : decode cX4_part 69 = .ok (.putfield 39, 3) := by decide +kernel
theorem dX4_part_72 : decode cX4_part 72 = .ok (.aload_n 0, 1) := by decide +kernel
theorem dX4_part_73 : decode cX4_part 73 = .ok (.getfield 39, 3) := by decide +kernel
theorem dX4_part_76 : decode cX4_part 76 = .ok (.iconst 1, 1) := by decide +kernel
theorem dX4_part_77 : decode cX4_part 77 = .ok (.isub, 1) := by decide +kernel
theorem dX4_part_78 : decode cX4_part 78 = .ok (.ireturn, 1) := by decide +kernel
set_option maxRecDepth 20000 in
theorem ggX4_set_X4_partAt : GoodIn wsX4_set wsX4_partAt := goodIn_r _ [11, 12, 13, 31, 32, 33, 34, 35, 36] (by decide +kernel) (by decide +kernel)
set_option maxRecDepth 20000 in
theorem gX4_set_X4_partAt : GoodIn wsX4_set (wsV RX4 87 RX4 yX4_partAt wsX4_partAt) := goodIn_app (goodIn_of _ (by decide +kernel)) ggX4_set_X4_partAt
theorem dX4_set_0 : decode cX4_set 0 = .ok (.aload_n 0, 1) := by decide +kernel
theorem dX4_set_1 : decode cX4_set 1 = .ok (.iload_n 1, 1) := by decide +kernel
theorem dX4_set_2 : decode cX4_set 2 = .ok (.invokevirtual 87, 3) := by decide +kernel
theorem dX4_set_5 : decode cX4_set 5 = .ok (.astore_n 3, 1) := by decide +kernel
theorem dX4_set_6 : decode cX4_set 6 = .ok (.aload_n 3, 1) := by decide +kernel
theorem dX4_set_7 : decode cX4_set 7 = .ok (.ifnonnull 13, 3) := by decide +kernel
theorem dX4_set_10 : decode cX4_set 10 = .ok (.new 59, 3) := by decide +kernel
theorem dX4_set_13 : decode cX4_set 13 = .ok (.dup, 1) := by decide +kernel
theorem dX4_set_14 : decode cX4_set 14 = .ok (.ldc 91, 2) := by decide +kernel
theorem dX4_set_16 : decode cX4_set 16 = .ok (.invokespecial 63, 3) := by decide +kernel
theorem dX4_set_19 : decode cX4_set 19 = .ok (.athrow, 1) := by decide +kernel
set_option maxRecDepth 20000 in
theorem ggX4_put_X4_partAt : GoodIn wsX4_put wsX4_partAt := goodIn_r _ [8, 9, 10, 17, 18, 19, 20, 21, 22] (by decide +kernel) (by decide +kernel)
set_option maxRecDepth 20000 in
theorem gX4_put_X4_partAt : GoodIn wsX4_put (wsV RX4 87 RX4 yX4_partAt wsX4_partAt) := goodIn_app (goodIn_of _ (by decide +kernel)) ggX4_put_X4_partAt
theorem dX4_put_0 : decode cX4_put 0 = .ok (.aload_n 0, 1) := by decide +kernel
theorem dX4_put_1 : decode cX4_put 1 = .ok (.iload_n 1, 1) := by decide +kernel
theorem dX4_put_2 : decode cX4_put 2 = .ok (.invokevirtual 87, 3) := by decide +kernel
theorem dX4_put_5 : decode cX4_put 5 = .ok (.astore_n 3, 1) := by decide +kernel
theorem dX4_put_6 : decode cX4_put 6 = .ok (.aload_n 3, 1) := by decide +kernel
theorem dX4_put_7 : decode cX4_put 7 = .ok (.ifnonnull 13, 3) := by decide +kernel
theorem dX4_put_10 : decode cX4_put 10 = .ok (.new 59, 3) := by decide +kernel
theorem dX4_put_13 : decode cX4_put 13 = .ok (.dup, 1) := by decide +kernel
theorem dX4_put_14 : decode cX4_put 14 = .ok (.ldc 91, 2) := by decide +kernel
theorem dX4_put_16 : decode cX4_put 16 = .ok (.invokespecial 63, 3) := by decide +kernel
theorem dX4_put_19 : decode cX4_put 19 = .ok (.athrow, 1) := by decide +kernel
set_option maxRecDepth 20000 in
theorem ggX4_dirt_X4_partAt : GoodIn wsX4_dirt wsX4_partAt := goodIn_r _ [10, 11, 12, 19, 20, 21, 22, 23, 24] (by decide +kernel) (by decide +kernel)
set_option maxRecDepth 20000 in
theorem gX4_dirt_X4_partAt : GoodIn wsX4_dirt (wsV RX4 87 RX4 yX4_partAt wsX4_partAt) := goodIn_app (goodIn_of _ (by decide +kernel)) ggX4_dirt_X4_partAt
theorem dX4_dirt_0 : decode cX4_dirt 0 = .ok (.aload_n 0, 1) := by decide +kernel
theorem dX4_dirt_1 : decode cX4_dirt 1 = .ok (.iload_n 1, 1) := by decide +kernel
theorem dX4_dirt_2 : decode cX4_dirt 2 = .ok (.invokevirtual 87, 3) := by decide +kernel
theorem dX4_dirt_5 : decode cX4_dirt 5 = .ok (.astore_n 3, 1) := by decide +kernel
theorem dX4_dirt_6 : decode cX4_dirt 6 = .ok (.aload_n 3, 1) := by decide +kernel
theorem dX4_dirt_7 : decode cX4_dirt 7 = .ok (.ifnonnull 13, 3) := by decide +kernel
theorem dX4_dirt_10 : decode cX4_dirt 10 = .ok (.new 59, 3) := by decide +kernel
theorem dX4_dirt_13 : decode cX4_dirt 13 = .ok (.dup, 1) := by decide +kernel
theorem dX4_dirt_14 : decode cX4_dirt 14 = .ok (.ldc 91, 2) := by decide +kernel
theorem dX4_dirt_16 : decode cX4_dirt 16 = .ok (.invokespecial 63, 3) := by decide +kernel
theorem dX4_dirt_19 : decode cX4_dirt 19 = .ok (.athrow, 1) := by decide +kernel
set_option maxRecDepth 20000 in
theorem ggX4_expose_X4_partAt : GoodIn wsX4_expose wsX4_partAt := goodIn_r _ [14, 15, 16, 150, 151, 152, 153, 154, 155] (by decide +kernel) (by decide +kernel)
set_option maxRecDepth 20000 in
theorem gX4_expose_X4_partAt : GoodIn wsX4_expose (wsV RX4 87 RX4 yX4_partAt wsX4_partAt) := goodIn_app (goodIn_of _ (by decide +kernel)) ggX4_expose_X4_partAt
theorem dX4_expose_0 : decode cX4_expose 0 = .ok (.aload_n 0, 1) := by decide +kernel
theorem dX4_expose_1 : decode cX4_expose 1 = .ok (.iload_n 1, 1) := by decide +kernel
theorem dX4_expose_2 : decode cX4_expose 2 = .ok (.invokevirtual 87, 3) := by decide +kernel
theorem dX4_expose_5 : decode cX4_expose 5 = .ok (.astore_n 3, 1) := by decide +kernel
theorem dX4_expose_6 : decode cX4_expose 6 = .ok (.aload_n 3, 1) := by decide +kernel
theorem dX4_expose_7 : decode cX4_expose 7 = .ok (.ifnonnull 13, 3) := by decide +kernel
theorem dX4_expose_10 : decode cX4_expose 10 = .ok (.new 59, 3) := by decide +kernel
theorem dX4_expose_13 : decode cX4_expose 13 = .ok (.dup, 1) := by decide +kernel
theorem dX4_expose_14 : decode cX4_expose 14 = .ok (.ldc 91, 2) := by decide +kernel
theorem dX4_expose_16 : decode cX4_expose 16 = .ok (.invokespecial 63, 3) := by decide +kernel
theorem dX4_expose_19 : decode cX4_expose 19 = .ok (.athrow, 1) := by decide +kernel
set_option maxRecDepth 20000 in
theorem ggX4_amplitude_X4_checkBehind : GoodIn wsX4_amplitude wsX4_checkBehind := goodIn_ca (goodIn_r _ [10, 1, 2, 11, 104, 105, 106, 107, 108, 109] (by decide +kernel) (by decide +kernel)) (goodIn_sub (fun _ h => List.mem_cons_of_mem _ (List.mem_append_left _ (List.mem_append_left _ (List.mem_append_right _ h)))) (by decide +kernel))
set_option maxRecDepth 20000 in
theorem gX4_amplitude_X4_checkBehind : GoodIn wsX4_amplitude (wsV RX4 126 RX4 yX4_checkBehind wsX4_checkBehind) := goodIn_app (goodIn_of _ (by decide +kernel)) ggX4_amplitude_X4_checkBehind
set_option maxRecDepth 20000 in
theorem ggX4_amplitude_X4_sourceAt : GoodIn wsX4_amplitude wsX4_sourceAt := goodIn_r _ [15, 16, 17, 104, 105, 106, 107, 108, 109] (by decide +kernel) (by decide +kernel)
set_option maxRecDepth 20000 in
theorem gX4_amplitude_X4_sourceAt : GoodIn wsX4_amplitude (wsV RX4 55 RX4 yX4_sourceAt wsX4_sourceAt) := goodIn_app (goodIn_of _ (by decide +kernel)) ggX4_amplitude_X4_sourceAt
theorem dX4_amplitude_0 : decode cX4_amplitude 0 = .ok (.aload_n 0, 1) := by decide +kernel
theorem dX4_amplitude_1 : decode cX4_amplitude 1 = .ok (.iload_n 1, 1) := by decide +kernel
theorem dX4_amplitude_2 : decode cX4_amplitude 2 = .ok (.invokevirtual 126, 3) := by decide +kernel
theorem dX4_amplitude_5 : decode cX4_amplitude 5 = .ok (.aload_n 0, 1) := by decide +kernel
theorem dX4_amplitude_6 : decode cX4_amplitude 6 = .ok (.iload_n 2, 1) := by decide +kernel
theorem dX4_amplitude_7 : decode cX4_amplitude 7 = .ok (.invokevirtual 55, 3) := by decide +kernel
theorem dX4_amplitude_10 : decode cX4_amplitude 10 = .ok (.astore 5, 2) := by decide +kernel
theorem dX4_amplitude_12 : decode cX4_amplitude 12 = .ok (.aload 5, 2) := by decide +kernel
theorem dX4_amplitude_14 : decode cX4_amplitude 14 = .ok (.ifnull 10, 3) := by decide +kernel
theorem dX4_amplitude_24 : decode cX4_amplitude 24 = .ok (.new 59, 3) := by decide +kernel
theorem dX4_amplitude_27 : decode cX4_amplitude 27 = .ok (.dup, 1) := by decide +kernel
theorem dX4_amplitude_28 : decode cX4_amplitude 28 = .ok (.ldc 133, 2) := by decide +kernel
theorem dX4_amplitude_30 : decode cX4_amplitude 30 = .ok (.invokespecial 63, 3) := by decide +kernel
theorem dX4_amplitude_33 : decode cX4_amplitude 33 = .ok (.athrow, 1) := by decide +kernel
set_option maxRecDepth 20000 in
theorem ggX4_whole_X4_checkBehind : GoodIn wsX4_whole wsX4_checkBehind := goodIn_ca (goodIn_r _ [7, 8, 9, 10, 135, 136, 137, 138, 139, 140] (by decide +kernel) (by decide +kernel)) (goodIn_sub (fun _ h => List.mem_cons_of_mem _ (List.mem_append_right _ h)) (by decide +kernel))
set_option maxRecDepth 20000 in
theorem gX4_whole_X4_checkBehind : GoodIn wsX4_whole (wsV RX4 126 RX4 yX4_checkBehind wsX4_checkBehind) := goodIn_app (goodIn_of _ (by decide +kernel)) ggX4_whole_X4_checkBehind
set_option maxRecDepth 20000 in
theorem ggX4_whole_X4_checkPlace : GoodIn wsX4_whole wsX4_checkPlace := goodIn_ca (goodIn_r _ [13, 8, 9, 14, 15, 6, 16] (by decide +kernel) (by decide +kernel)) (goodIn_sub (fun _ h => List.mem_cons_of_mem _ (List.mem_append_right _ h)) (by decide +kernel))
set_option maxRecDepth 20000 in
theorem gX4_whole_X4_checkPlace : GoodIn wsX4_whole (va_wsS RX4 145 yX4_checkPlace wsX4_checkPlace) := goodIn_app (goodIn_of _ (by decide +kernel)) ggX4_whole_X4_checkPlace
set_option maxRecDepth 20000 in
theorem ggX4_whole_X4_shineAll : GoodIn wsX4_whole wsX4_shineAll := goodIn_ca (goodIn_r _ [20, 1, 21, 22, 23, 24, 25, 26, 27, 28, 29, 30, 31, 32, 33, 34, 35, 36, 6, 37, 38, 39, 40, 41, 42, 10, 43, 44, 45, 46, 47, 48, 49, 50, 51, 52, 53, 54, 55, 56, 57, 58, 59, 60, 61, 62, 63, 64, 65, 66, 67, 68, 69, 70, 71, 72, 73, 74, 75, 76, 77, 78, 79, 80, 81, 82, 83, 84, 85, 86, 87, 88, 89, 90, 91, 92, 93, 94, 95, 96, 97, 98, 99, 100, 101, 102, 103, 104, 105, 106, 107, 108, 109, 110, 111, 112, 113, 114, 115, 116, 117, 118, 119, 120, 121, 122, 123, 124, 125, 126, 127, 128, 129, 130, 131, 132, 133, 134, 135, 136, 137, 138, 139, 140, 141, 142, 143, 144, 145, 146, 147, 148, 149, 150, 151, 152, 153, 154, 155, 156, 157, 158, 159, 160, 161, 162, 163] (by decide +kernel) (by decide +kernel)) (goodIn_sub (fun _ h => List.mem_cons_of_mem _ (List.mem_append_left _ (List.mem_append_right _ h))) (by decide +kernel))
set_option maxRecDepth 20000 in
theorem gX4_whole_X4_shineAll : GoodIn wsX4_whole (wsV RX4 114 RX4 yX4_shineAll wsX4_shineAll) := goodIn_app (goodIn_of _ (by decide +kernel)) ggX4_whole_X4_shineAll
theorem dX4_whole_0 : decode cX4_whole 0 = .ok (.aload_n 0, 1) := by decide +kernel
theorem dX4_whole_1 : decode cX4_whole 1 = .ok (.iload_n 1, 1) := by decide +kernel
theorem dX4_whole_2 : decode cX4_whole 2 = .ok (.invokevirtual 126, 3) := by decide +kernel
theorem dX4_whole_5 : decode cX4_whole 5 = .ok (.iload_n 2, 1) := by decide +kernel
theorem dX4_whole_6 : decode cX4_whole 6 = .ok (.invokestatic 145, 3) := by decide +kernel
theorem dX4_whole_9 : decode cX4_whole 9 = .ok (.aload_n 0, 1) := by decide +kernel
theorem dX4_whole_10 : decode cX4_whole 10 = .ok (.iload_n 1, 1) := by decide +kernel
theorem dX4_whole_11 : decode cX4_whole 11 = .ok (.invokevirtual 114, 3) := by decide +kernel
theorem dX4_whole_14 : decode cX4_whole 14 = .ok (.aload_n 0, 1) := by decide +kernel
theorem dX4_whole_15 : decode cX4_whole 15 = .ok (.getfield 31, 3) := by decide +kernel
theorem dX4_whole_18 : decode cX4_whole 18 = .ok (.getfield 148, 3) := by decide +kernel
theorem dX4_whole_21 : decode cX4_whole 21 = .ok (.iload_n 2, 1) := by decide +kernel
theorem dX4_whole_22 : decode cX4_whole 22 = .ok (.laload, 1) := by decide +kernel
theorem dX4_whole_23 : decode cX4_whole 23 = .ok (.lreturn, 1) := by decide +kernel
set_option maxRecDepth 20000 in
theorem ggX4_root_X4_checkBehind : GoodIn wsX4_root wsX4_checkBehind := goodIn_ca (goodIn_r _ [7, 8, 9, 10, 135, 136, 137, 138, 139, 140] (by decide +kernel) (by decide +kernel)) (goodIn_sub (fun _ h => List.mem_cons_of_mem _ (List.mem_append_right _ h)) (by decide +kernel))
set_option maxRecDepth 20000 in
theorem gX4_root_X4_checkBehind : GoodIn wsX4_root (wsV RX4 126 RX4 yX4_checkBehind wsX4_checkBehind) := goodIn_app (goodIn_of _ (by decide +kernel)) ggX4_root_X4_checkBehind
set_option maxRecDepth 20000 in
theorem ggX4_root_X4_checkPlace : GoodIn wsX4_root wsX4_checkPlace := goodIn_ca (goodIn_r _ [13, 8, 9, 14, 15, 6, 16] (by decide +kernel) (by decide +kernel)) (goodIn_sub (fun _ h => List.mem_cons_of_mem _ (List.mem_append_right _ h)) (by decide +kernel))
set_option maxRecDepth 20000 in
theorem gX4_root_X4_checkPlace : GoodIn wsX4_root (va_wsS RX4 145 yX4_checkPlace wsX4_checkPlace) := goodIn_app (goodIn_of _ (by decide +kernel)) ggX4_root_X4_checkPlace
set_option maxRecDepth 20000 in
theorem ggX4_root_X4_shineAll : GoodIn wsX4_root wsX4_shineAll := goodIn_ca (goodIn_r _ [20, 1, 21, 22, 23, 24, 25, 26, 27, 28, 29, 30, 31, 32, 33, 34, 35, 36, 6, 37, 38, 39, 40, 41, 42, 10, 43, 44, 45, 46, 47, 48, 49, 50, 51, 52, 53, 54, 55, 56, 57, 58, 59, 60, 61, 62, 63, 64, 65, 66, 67, 68, 69, 70, 71, 72, 73, 74, 75, 76, 77, 78, 79, 80, 81, 82, 83, 84, 85, 86, 87, 88, 89, 90, 91, 92, 93, 94, 95, 96, 97, 98, 99, 100, 101, 102, 103, 104, 105, 106, 107, 108, 109, 110, 111, 112, 113, 114, 115, 116, 117, 118, 119, 120, 121, 122, 123, 124, 125, 126, 127, 128, 129, 130, 131, 132, 133, 134, 135, 136, 137, 138, 139, 140, 141, 142, 143, 144, 145, 146, 147, 148, 149, 150, 151, 152, 153, 154, 155, 156, 157, 158, 159, 160, 161, 162, 163] (by decide +kernel) (by decide +kernel)) (goodIn_sub (fun _ h => List.mem_cons_of_mem _ (List.mem_append_left _ (List.mem_append_right _ h))) (by decide +kernel))
set_option maxRecDepth 20000 in
theorem gX4_root_X4_shineAll : GoodIn wsX4_root (wsV RX4 114 RX4 yX4_shineAll wsX4_shineAll) := goodIn_app (goodIn_of _ (by decide +kernel)) ggX4_root_X4_shineAll
theorem dX4_root_0 : decode cX4_root 0 = .ok (.aload_n 0, 1) := by decide +kernel
theorem dX4_root_1 : decode cX4_root 1 = .ok (.iload_n 1, 1) := by decide +kernel
theorem dX4_root_2 : decode cX4_root 2 = .ok (.invokevirtual 126, 3) := by decide +kernel
theorem dX4_root_5 : decode cX4_root 5 = .ok (.iload_n 2, 1) := by decide +kernel
theorem dX4_root_6 : decode cX4_root 6 = .ok (.invokestatic 145, 3) := by decide +kernel
theorem dX4_root_9 : decode cX4_root 9 = .ok (.aload_n 0, 1) := by decide +kernel
theorem dX4_root_10 : decode cX4_root 10 = .ok (.iload_n 1, 1) := by decide +kernel
theorem dX4_root_11 : decode cX4_root 11 = .ok (.invokevirtual 114, 3) := by decide +kernel
theorem dX4_root_14 : decode cX4_root 14 = .ok (.aload_n 0, 1) := by decide +kernel
theorem dX4_root_15 : decode cX4_root 15 = .ok (.getfield 31, 3) := by decide +kernel
theorem dX4_root_18 : decode cX4_root 18 = .ok (.getfield 152, 3) := by decide +kernel
theorem dX4_root_21 : decode cX4_root 21 = .ok (.iload_n 2, 1) := by decide +kernel
theorem dX4_root_22 : decode cX4_root 22 = .ok (.laload, 1) := by decide +kernel
theorem dX4_root_23 : decode cX4_root 23 = .ok (.lreturn, 1) := by decide +kernel
set_option maxRecDepth 20000 in
theorem ggX4_power_X4_checkBehind : GoodIn wsX4_power wsX4_checkBehind := goodIn_ca (goodIn_r _ [6, 7, 8, 9, 139, 140, 141, 142, 143, 144] (by decide +kernel) (by decide +kernel)) (goodIn_sub (fun _ h => List.mem_cons_of_mem _ (List.mem_append_left _ (List.mem_append_right _ h))) (by decide +kernel))
set_option maxRecDepth 20000 in
theorem gX4_power_X4_checkBehind : GoodIn wsX4_power (wsV RX4 126 RX4 yX4_checkBehind wsX4_checkBehind) := goodIn_app (goodIn_of _ (by decide +kernel)) ggX4_power_X4_checkBehind
set_option maxRecDepth 20000 in
theorem ggX4_power_X4_shineAll : GoodIn wsX4_power wsX4_shineAll := goodIn_ca (goodIn_r _ [13, 1, 14, 15, 16, 17, 18, 19, 20, 21, 22, 23, 24, 25, 26, 27, 28, 29, 5, 30, 31, 32, 33, 34, 35, 9, 36, 37, 38, 39, 40, 41, 42, 43, 44, 45, 46, 47, 48, 49, 50, 51, 52, 53, 54, 55, 56, 57, 58, 59, 60, 61, 62, 63, 64, 65, 66, 67, 68, 69, 70, 71, 72, 73, 74, 75, 76, 77, 78, 79, 80, 81, 82, 83, 84, 85, 86, 87, 88, 89, 90, 91, 92, 93, 94, 95, 96, 97, 98, 99, 100, 101, 102, 103, 104, 105, 106, 107, 108, 109, 110, 111, 112, 113, 114, 115, 116, 117, 118, 119, 120, 121, 122, 123, 124, 125, 126, 127, 139, 140, 141, 142, 143, 144, 145, 146, 147, 148, 149, 150, 151, 152, 153, 154, 155, 156, 157, 158, 159, 160, 161, 162, 163, 164, 165, 166, 167] (by decide +kernel) (by decide +kernel)) (goodIn_sub (fun _ h => List.mem_cons_of_mem _ (List.mem_append_right _ h)) (by decide +kernel))
set_option maxRecDepth 20000 in
theorem gX4_power_X4_shineAll : GoodIn wsX4_power (wsV RX4 114 RX4 yX4_shineAll wsX4_shineAll) := goodIn_app (goodIn_of _ (by decide +kernel)) ggX4_power_X4_shineAll
set_option maxRecDepth 20000 in
theorem ggX4_power_X2_sumOfRoots : GoodIn wsX4_power wsX2_sumOfRoots := goodIn_ca (goodIn_r _ [131, 22, 132, 133, 19, 134, 145, 146] (by decide +kernel) (by decide +kernel)) (goodIn_sub (fun _ h => List.mem_cons_of_mem _ (List.mem_append_right _ h)) (by decide +kernel))
set_option maxRecDepth 20000 in
theorem gX4_power_X2_sumOfRoots : GoodIn wsX4_power (wsV RX4 155 RX2 yX2_sumOfRoots wsX2_sumOfRoots) := goodIn_app (goodIn_of _ (by decide +kernel)) ggX4_power_X2_sumOfRoots
set_option maxRecDepth 20000 in
theorem ggX4_power_X2_sumOfWholes : GoodIn wsX4_power wsX2_sumOfWholes := goodIn_ca (goodIn_r _ [138, 21, 132, 133, 19, 134, 145, 146] (by decide +kernel) (by decide +kernel)) (goodIn_sub (fun _ h => List.mem_cons_of_mem _ (List.mem_append_right _ h)) (by decide +kernel))
set_option maxRecDepth 20000 in
theorem gX4_power_X2_sumOfWholes : GoodIn wsX4_power (wsV RX4 159 RX2 yX2_sumOfWholes wsX2_sumOfWholes) := goodIn_app (goodIn_of _ (by decide +kernel)) ggX4_power_X2_sumOfWholes
theorem dX4_power_0 : decode cX4_power 0 = .ok (.aload_n 0, 1) := by decide +kernel
theorem dX4_power_1 : decode cX4_power 1 = .ok (.iload_n 1, 1) := by decide +kernel
theorem dX4_power_2 : decode cX4_power 2 = .ok (.invokevirtual 126, 3) := by decide +kernel
theorem dX4_power_5 : decode cX4_power 5 = .ok (.aload_n 0, 1) := by decide +kernel
theorem dX4_power_6 : decode cX4_power 6 = .ok (.iload_n 1, 1) := by decide +kernel
theorem dX4_power_7 : decode cX4_power 7 = .ok (.invokevirtual 114, 3) := by decide +kernel
theorem dX4_power_10 : decode cX4_power 10 = .ok (.iload_n 2, 1) := by decide +kernel
theorem dX4_power_11 : decode cX4_power 11 = .ok (.ifCond .eq 13, 3) := by decide +kernel
theorem dX4_power_14 : decode cX4_power 14 = .ok (.aload_n 0, 1) := by decide +kernel
theorem dX4_power_15 : decode cX4_power 15 = .ok (.getfield 31, 3) := by decide +kernel
theorem dX4_power_18 : decode cX4_power 18 = .ok (.invokevirtual 155, 3) := by decide +kernel
theorem dX4_power_21 : decode cX4_power 21 = .ok (.goto 10, 3) := by decide +kernel
theorem dX4_power_24 : decode cX4_power 24 = .ok (.aload_n 0, 1) := by decide +kernel
theorem dX4_power_25 : decode cX4_power 25 = .ok (.getfield 31, 3) := by decide +kernel
theorem dX4_power_28 : decode cX4_power 28 = .ok (.invokevirtual 159, 3) := by decide +kernel
theorem dX4_power_31 : decode cX4_power 31 = .ok (.lreturn, 1) := by decide +kernel
set_option maxRecDepth 20000 in
theorem ggX4_brightest_X4_checkBehind : GoodIn wsX4_brightest wsX4_checkBehind := goodIn_ca (goodIn_r _ [6, 7, 8, 9, 137, 138, 139, 140, 141, 142] (by decide +kernel) (by decide +kernel)) (goodIn_sub (fun _ h => List.mem_cons_of_mem _ (List.mem_append_left _ (List.mem_append_right _ h))) (by decide +kernel))
set_option maxRecDepth 20000 in
theorem gX4_brightest_X4_checkBehind : GoodIn wsX4_brightest (wsV RX4 126 RX4 yX4_checkBehind wsX4_checkBehind) := goodIn_app (goodIn_of _ (by decide +kernel)) ggX4_brightest_X4_checkBehind
set_option maxRecDepth 20000 in
theorem ggX4_brightest_X4_shineAll : GoodIn wsX4_brightest wsX4_shineAll := goodIn_ca (goodIn_r _ [13, 1, 14, 15, 16, 17, 18, 19, 20, 21, 22, 23, 24, 25, 26, 27, 28, 29, 5, 30, 31, 32, 33, 34, 35, 9, 36, 37, 38, 39, 40, 41, 42, 43, 44, 45, 46, 47, 48, 49, 50, 51, 52, 53, 54, 55, 56, 57, 58, 59, 60, 61, 62, 63, 64, 65, 66, 67, 68, 69, 70, 71, 72, 73, 74, 75, 76, 77, 78, 79, 80, 81, 82, 83, 84, 85, 86, 87, 88, 89, 90, 91, 92, 93, 94, 95, 96, 97, 98, 99, 100, 101, 102, 103, 104, 105, 106, 107, 108, 109, 110, 111, 112, 113, 114, 115, 116, 117, 118, 119, 120, 121, 122, 123, 124, 125, 126, 127, 137, 138, 139, 140, 141, 142, 143, 144, 145, 146, 147, 148, 149, 150, 151, 152, 153, 154, 155, 156, 157, 158, 159, 160, 161, 162, 163, 164, 165] (by decide +kernel) (by decide +kernel)) (goodIn_sub (fun _ h => List.mem_cons_of_mem _ (List.mem_append_right _ h)) (by decide +kernel))
set_option maxRecDepth 20000 in
theorem gX4_brightest_X4_shineAll : GoodIn wsX4_brightest (wsV RX4 114 RX4 yX4_shineAll wsX4_shineAll) := goodIn_app (goodIn_of _ (by decide +kernel)) ggX4_brightest_X4_shineAll
set_option maxRecDepth 20000 in
theorem ggX4_brightest_X2_placeOfGreatest : GoodIn wsX4_brightest wsX2_placeOfGreatest := goodIn_ca (goodIn_r _ [131, 132, 133, 134, 19, 135, 21, 136, 22, 143, 144] (by decide +kernel) (by decide +kernel)) (goodIn_sub (fun _ h => List.mem_cons_of_mem _ (List.mem_append_right _ h)) (by decide +kernel))
set_option maxRecDepth 20000 in
theorem gX4_brightest_X2_placeOfGreatest : GoodIn wsX4_brightest (wsV RX4 162 RX2 yX2_placeOfGreatest wsX2_placeOfGreatest) := goodIn_app (goodIn_of _ (by decide +kernel)) ggX4_brightest_X2_placeOfGreatest
theorem dX4_brightest_0 : decode cX4_brightest 0 = .ok (.aload_n 0, 1) := by decide +kernel
theorem dX4_brightest_1 : decode cX4_brightest 1 = .ok (.iload_n 1, 1) := by decide +kernel
theorem dX4_brightest_2 : decode cX4_brightest 2 = .ok (.invokevirtual 126, 3) := by decide +kernel
theorem dX4_brightest_5 : decode cX4_brightest 5 = .ok (.aload_n 0, 1) := by decide +kernel
theorem dX4_brightest_6 : decode cX4_brightest 6 = .ok (.iload_n 1, 1) := by decide +kernel
theorem dX4_brightest_7 : decode cX4_brightest 7 = .ok (.invokevirtual 114, 3) := by decide +kernel
theorem dX4_brightest_10 : decode cX4_brightest 10 = .ok (.aload_n 0, 1) := by decide +kernel
theorem dX4_brightest_11 : decode cX4_brightest 11 = .ok (.getfield 31, 3) := by decide +kernel
theorem dX4_brightest_14 : decode cX4_brightest 14 = .ok (.invokevirtual 162, 3) := by decide +kernel
theorem dX4_brightest_17 : decode cX4_brightest 17 = .ok (.ireturn, 1) := by decide +kernel
set_option maxRecDepth 20000 in
theorem ggX4_dark_X4_checkBehind : GoodIn wsX4_dark wsX4_checkBehind := goodIn_ca (goodIn_r _ [6, 7, 8, 9, 132, 133, 134, 135, 136, 137] (by decide +kernel) (by decide +kernel)) (goodIn_sub (fun _ h => List.mem_cons_of_mem _ (List.mem_append_left _ (List.mem_append_right _ h))) (by decide +kernel))
set_option maxRecDepth 20000 in
theorem gX4_dark_X4_checkBehind : GoodIn wsX4_dark (wsV RX4 126 RX4 yX4_checkBehind wsX4_checkBehind) := goodIn_app (goodIn_of _ (by decide +kernel)) ggX4_dark_X4_checkBehind
set_option maxRecDepth 20000 in
theorem ggX4_dark_X4_shineAll : GoodIn wsX4_dark wsX4_shineAll := goodIn_ca (goodIn_r _ [13, 1, 14, 15, 16, 17, 18, 19, 20, 21, 22, 23, 24, 25, 26, 27, 28, 29, 5, 30, 31, 32, 33, 34, 35, 9, 36, 37, 38, 39, 40, 41, 42, 43, 44, 45, 46, 47, 48, 49, 50, 51, 52, 53, 54, 55, 56, 57, 58, 59, 60, 61, 62, 63, 64, 65, 66, 67, 68, 69, 70, 71, 72, 73, 74, 75, 76, 77, 78, 79, 80, 81, 82, 83, 84, 85, 86, 87, 88, 89, 90, 91, 92, 93, 94, 95, 96, 97, 98, 99, 100, 101, 102, 103, 104, 105, 106, 107, 108, 109, 110, 111, 112, 113, 114, 115, 116, 117, 118, 119, 120, 121, 122, 123, 124, 125, 126, 127, 132, 133, 134, 135, 136, 137, 138, 139, 140, 141, 142, 143, 144, 145, 146, 147, 148, 149, 150, 151, 152, 153, 154, 155, 156, 157, 158, 159, 160] (by decide +kernel) (by decide +kernel)) (goodIn_sub (fun _ h => List.mem_cons_of_mem _ (List.mem_append_right _ h)) (by decide +kernel))
set_option maxRecDepth 20000 in
theorem gX4_dark_X4_shineAll : GoodIn wsX4_dark (wsV RX4 114 RX4 yX4_shineAll wsX4_shineAll) := goodIn_app (goodIn_of _ (by decide +kernel)) ggX4_dark_X4_shineAll
set_option maxRecDepth 20000 in
theorem ggX4_dark_X2_darkPlaces : GoodIn wsX4_dark wsX2_darkPlaces := goodIn_ca (goodIn_r _ [131, 21, 22, 138, 139] (by decide +kernel) (by decide +kernel)) (goodIn_sub (fun _ h => List.mem_cons_of_mem _ (List.mem_append_right _ h)) (by decide +kernel))
set_option maxRecDepth 20000 in
theorem gX4_dark_X2_darkPlaces : GoodIn wsX4_dark (wsV RX4 165 RX2 yX2_darkPlaces wsX2_darkPlaces) := goodIn_app (goodIn_of _ (by decide +kernel)) ggX4_dark_X2_darkPlaces
theorem dX4_dark_0 : decode cX4_dark 0 = .ok (.aload_n 0, 1) := by decide +kernel
theorem dX4_dark_1 : decode cX4_dark 1 = .ok (.iload_n 1, 1) := by decide +kernel
theorem dX4_dark_2 : decode cX4_dark 2 = .ok (.invokevirtual 126, 3) := by decide +kernel
theorem dX4_dark_5 : decode cX4_dark 5 = .ok (.aload_n 0, 1) := by decide +kernel
theorem dX4_dark_6 : decode cX4_dark 6 = .ok (.iload_n 1, 1) := by decide +kernel
theorem dX4_dark_7 : decode cX4_dark 7 = .ok (.invokevirtual 114, 3) := by decide +kernel
theorem dX4_dark_10 : decode cX4_dark 10 = .ok (.aload_n 0, 1) := by decide +kernel
theorem dX4_dark_11 : decode cX4_dark 11 = .ok (.getfield 31, 3) := by decide +kernel
theorem dX4_dark_14 : decode cX4_dark 14 = .ok (.invokevirtual 165, 3) := by decide +kernel
theorem dX4_dark_17 : decode cX4_dark 17 = .ok (.ireturn, 1) := by decide +kernel
set_option maxRecDepth 20000 in
theorem ggX4_period_X4_checkBehind : GoodIn wsX4_period wsX4_checkBehind := goodIn_ca (goodIn_r _ [6, 7, 8, 9, 136, 137, 138, 139, 140, 141] (by decide +kernel) (by decide +kernel)) (goodIn_sub (fun _ h => List.mem_cons_of_mem _ (List.mem_append_left _ (List.mem_append_right _ h))) (by decide +kernel))
set_option maxRecDepth 20000 in
theorem gX4_period_X4_checkBehind : GoodIn wsX4_period (wsV RX4 126 RX4 yX4_checkBehind wsX4_checkBehind) := goodIn_app (goodIn_of _ (by decide +kernel)) ggX4_period_X4_checkBehind
set_option maxRecDepth 20000 in
theorem ggX4_period_X4_shineAll : GoodIn wsX4_period wsX4_shineAll := goodIn_ca (goodIn_r _ [13, 1, 14, 15, 16, 17, 18, 19, 20, 21, 22, 23, 24, 25, 26, 27, 28, 29, 5, 30, 31, 32, 33, 34, 35, 9, 36, 37, 38, 39, 40, 41, 42, 43, 44, 45, 46, 47, 48, 49, 50, 51, 52, 53, 54, 55, 56, 57, 58, 59, 60, 61, 62, 63, 64, 65, 66, 67, 68, 69, 70, 71, 72, 73, 74, 75, 76, 77, 78, 79, 80, 81, 82, 83, 84, 85, 86, 87, 88, 89, 90, 91, 92, 93, 94, 95, 96, 97, 98, 99, 100, 101, 102, 103, 104, 105, 106, 107, 108, 109, 110, 111, 112, 113, 114, 115, 116, 117, 118, 119, 120, 121, 122, 123, 124, 125, 126, 127, 136, 137, 138, 139, 140, 141, 142, 143, 144, 145, 146, 147, 148, 149, 150, 151, 152, 153, 154, 155, 156, 157, 158, 159, 160, 161, 162, 163, 164] (by decide +kernel) (by decide +kernel)) (goodIn_sub (fun _ h => List.mem_cons_of_mem _ (List.mem_append_right _ h)) (by decide +kernel))
set_option maxRecDepth 20000 in
theorem gX4_period_X4_shineAll : GoodIn wsX4_period (wsV RX4 114 RX4 yX4_shineAll wsX4_shineAll) := goodIn_app (goodIn_of _ (by decide +kernel)) ggX4_period_X4_shineAll
set_option maxRecDepth 20000 in
theorem ggX4_period_X2_shortestRoll : GoodIn wsX4_period wsX2_shortestRoll := goodIn_ca (goodIn_r _ [131, 132, 133, 134, 19, 135, 21, 22, 142, 143] (by decide +kernel) (by decide +kernel)) (goodIn_sub (fun _ h => List.mem_cons_of_mem _ (List.mem_append_right _ h)) (by decide +kernel))
set_option maxRecDepth 20000 in
theorem gX4_period_X2_shortestRoll : GoodIn wsX4_period (wsV RX4 168 RX2 yX2_shortestRoll wsX2_shortestRoll) := goodIn_app (goodIn_of _ (by decide +kernel)) ggX4_period_X2_shortestRoll
theorem dX4_period_0 : decode cX4_period 0 = .ok (.aload_n 0, 1) := by decide +kernel
theorem dX4_period_1 : decode cX4_period 1 = .ok (.iload_n 1, 1) := by decide +kernel
theorem dX4_period_2 : decode cX4_period 2 = .ok (.invokevirtual 126, 3) := by decide +kernel
theorem dX4_period_5 : decode cX4_period 5 = .ok (.aload_n 0, 1) := by decide +kernel
theorem dX4_period_6 : decode cX4_period 6 = .ok (.iload_n 1, 1) := by decide +kernel
theorem dX4_period_7 : decode cX4_period 7 = .ok (.invokevirtual 114, 3) := by decide +kernel
theorem dX4_period_10 : decode cX4_period 10 = .ok (.aload_n 0, 1) := by decide +kernel
theorem dX4_period_11 : decode cX4_period 11 = .ok (.getfield 31, 3) := by decide +kernel
theorem dX4_period_14 : decode cX4_period 14 = .ok (.invokevirtual 168, 3) := by decide +kernel
theorem dX4_period_17 : decode cX4_period 17 = .ok (.ireturn, 1) := by decide +kernel
set_option maxRecDepth 20000 in
theorem ggX4_clear_X4_checkBehind : GoodIn wsX4_clear wsX4_checkBehind := goodIn_ca (goodIn_r _ [6, 7, 8, 9, 152, 153, 154, 155, 156, 157] (by decide +kernel) (by decide +kernel)) (goodIn_sub (fun _ h => List.mem_cons_of_mem _ (List.mem_append_left _ (List.mem_append_right _ h))) (by decide +kernel))
set_option maxRecDepth 20000 in
theorem gX4_clear_X4_checkBehind : GoodIn wsX4_clear (wsV RX4 126 RX4 yX4_checkBehind wsX4_checkBehind) := goodIn_app (goodIn_of _ (by decide +kernel)) ggX4_clear_X4_checkBehind
set_option maxRecDepth 20000 in
theorem ggX4_clear_X4_shineAll : GoodIn wsX4_clear wsX4_shineAll := goodIn_ca (goodIn_r _ [13, 1, 14, 15, 16, 17, 18, 19, 20, 21, 22, 23, 24, 25, 26, 27, 28, 29, 5, 30, 31, 32, 33, 34, 35, 9, 36, 37, 38, 39, 40, 41, 42, 43, 44, 45, 46, 47, 48, 49, 50, 51, 52, 53, 54, 55, 56, 57, 58, 59, 60, 61, 62, 63, 64, 65, 66, 67, 68, 69, 70, 71, 72, 73, 74, 75, 76, 77, 78, 79, 80, 81, 82, 83, 84, 85, 86, 87, 88, 89, 90, 91, 92, 93, 94, 95, 96, 97, 98, 99, 100, 101, 102, 103, 104, 105, 106, 107, 108, 109, 110, 111, 112, 113, 114, 115, 116, 117, 118, 119, 120, 121, 122, 123, 124, 125, 126, 127, 152, 153, 154, 155, 156, 157, 158, 159, 160, 161, 162, 163, 164, 165, 166, 167, 168, 169, 170, 171, 172, 173, 174, 175, 176, 177, 178, 179, 180] (by decide +kernel) (by decide +kernel)) (goodIn_sub (fun _ h => List.mem_cons_of_mem _ (List.mem_append_right _ h)) (by decide +kernel))
set_option maxRecDepth 20000 in
theorem gX4_clear_X4_shineAll : GoodIn wsX4_clear (wsV RX4 114 RX4 yX4_shineAll wsX4_shineAll) := goodIn_app (goodIn_of _ (by decide +kernel)) ggX4_clear_X4_shineAll
set_option maxRecDepth 20000 in
theorem ggX4_clear_X2_contrast : GoodIn wsX4_clear wsX2_contrast := goodIn_ca (goodIn_r _ [131, 132, 133, 134, 19, 135, 136, 137, 138, 139, 140, 141, 142, 143, 21, 144, 22, 145, 146, 147, 148, 149, 150, 151, 158, 159] (by decide +kernel) (by decide +kernel)) (goodIn_sub (fun _ h => List.mem_cons_of_mem _ (List.mem_append_right _ h)) (by decide +kernel))
set_option maxRecDepth 20000 in
theorem gX4_clear_X2_contrast : GoodIn wsX4_clear (wsV RX4 171 RX2 yX2_contrast wsX2_contrast) := goodIn_app (goodIn_of _ (by decide +kernel)) ggX4_clear_X2_contrast
theorem dX4_clear_0 : decode cX4_clear 0 = .ok (.aload_n 0, 1) := by decide +kernel
theorem dX4_clear_1 : decode cX4_clear 1 = .ok (.iload_n 1, 1) := by decide +kernel
theorem dX4_clear_2 : decode cX4_clear 2 = .ok (.invokevirtual 126, 3) := by decide +kernel
theorem dX4_clear_5 : decode cX4_clear 5 = .ok (.aload_n 0, 1) := by decide +kernel
theorem dX4_clear_6 : decode cX4_clear 6 = .ok (.iload_n 1, 1) := by decide +kernel
theorem dX4_clear_7 : decode cX4_clear 7 = .ok (.invokevirtual 114, 3) := by decide +kernel
theorem dX4_clear_10 : decode cX4_clear 10 = .ok (.aload_n 0, 1) := by decide +kernel
theorem dX4_clear_11 : decode cX4_clear 11 = .ok (.getfield 31, 3) := by decide +kernel
theorem dX4_clear_14 : decode cX4_clear 14 = .ok (.invokevirtual 171, 3) := by decide +kernel
theorem dX4_clear_17 : decode cX4_clear 17 = .ok (.dreturn, 1) := by decide +kernel
set_option maxRecDepth 20000 in
theorem ggX4_tenths_X4_checkBehind : GoodIn wsX4_tenths wsX4_checkBehind := goodIn_ca (goodIn_r _ [6, 7, 8, 9, 159, 160, 161, 162, 163, 164] (by decide +kernel) (by decide +kernel)) (goodIn_sub (fun _ h => List.mem_cons_of_mem _ (List.mem_append_left _ (List.mem_append_right _ h))) (by decide +kernel))
set_option maxRecDepth 20000 in
theorem gX4_tenths_X4_checkBehind : GoodIn wsX4_tenths (wsV RX4 126 RX4 yX4_checkBehind wsX4_checkBehind) := goodIn_app (goodIn_of _ (by decide +kernel)) ggX4_tenths_X4_checkBehind
set_option maxRecDepth 20000 in
theorem ggX4_tenths_X4_checkPlace : GoodIn wsX4_tenths wsX4_checkPlace := goodIn_ca (goodIn_r _ [12, 7, 8, 13, 14, 5, 15] (by decide +kernel) (by decide +kernel)) (goodIn_sub (fun _ h => List.mem_cons_of_mem _ (List.mem_append_left _ (List.mem_append_right _ h))) (by decide +kernel))
set_option maxRecDepth 20000 in
theorem gX4_tenths_X4_checkPlace : GoodIn wsX4_tenths (va_wsS RX4 145 yX4_checkPlace wsX4_checkPlace) := goodIn_app (goodIn_of _ (by decide +kernel)) ggX4_tenths_X4_checkPlace
set_option maxRecDepth 20000 in
theorem ggX4_tenths_X4_shineAll : GoodIn wsX4_tenths wsX4_shineAll := goodIn_ca (goodIn_r _ [19, 1, 20, 21, 22, 23, 24, 25, 26, 27, 28, 29, 30, 31, 32, 33, 34, 35, 5, 36, 37, 38, 39, 40, 41, 9, 42, 43, 44, 45, 46, 47, 48, 49, 50, 51, 52, 53, 54, 55, 56, 57, 58, 59, 60, 61, 62, 63, 64, 65, 66, 67, 68, 69, 70, 71, 72, 73, 74, 75, 76, 77, 78, 79, 80, 81, 82, 83, 84, 85, 86, 87, 88, 89, 90, 91, 92, 93, 94, 95, 96, 97, 98, 99, 100, 101, 102, 103, 104, 105, 106, 107, 108, 109, 110, 111, 112, 113, 114, 115, 116, 117, 118, 119, 120, 121, 122, 123, 124, 125, 126, 127, 128, 129, 130, 131, 132, 133, 159, 160, 161, 162, 163, 164, 165, 166, 167, 168, 169, 170, 171, 172, 173, 174, 175, 176, 177, 178, 179, 180, 181, 182, 183, 184, 185, 186, 187] (by decide +kernel) (by decide +kernel)) (goodIn_sub (fun _ h => List.mem_cons_of_mem _ (List.mem_append_right _ h)) (by decide +kernel))
set_option maxRecDepth 20000 in
theorem gX4_tenths_X4_shineAll : GoodIn wsX4_tenths (wsV RX4 114 RX4 yX4_shineAll wsX4_shineAll) := goodIn_app (goodIn_of _ (by decide +kernel)) ggX4_tenths_X4_shineAll
set_option maxRecDepth 20000 in
theorem ggX4_tenths_X2_inTenths : GoodIn wsX4_tenths wsX2_inTenths := goodIn_ca (goodIn_r _ [137, 138, 139, 140, 141, 25, 142, 143, 144, 145, 146, 147, 148, 149, 150, 27, 151, 28, 152, 153, 154, 155, 156, 157, 158, 165, 166] (by decide +kernel) (by decide +kernel)) (goodIn_sub (fun _ h => List.mem_cons_of_mem _ (List.mem_append_right _ h)) (by decide +kernel))
set_option maxRecDepth 20000 in
theorem gX4_tenths_X2_inTenths : GoodIn wsX4_tenths (wsV RX4 175 RX2 yX2_inTenths wsX2_inTenths) := goodIn_app (goodIn_of _ (by decide +kernel)) ggX4_tenths_X2_inTenths
theorem dX4_tenths_0 : decode cX4_tenths 0 = .ok (.aload_n 0, 1) := by decide +kernel
theorem dX4_tenths_1 : decode cX4_tenths 1 = .ok (.iload_n 1, 1) := by decide +kernel
theorem dX4_tenths_2 : decode cX4_tenths 2 = .ok (.invokevirtual 126, 3) := by decide +kernel
theorem dX4_tenths_5 : decode cX4_tenths 5 = .ok (.iload_n 2, 1) := by decide +kernel
theorem dX4_tenths_6 : decode cX4_tenths 6 = .ok (.invokestatic 145, 3) := by decide +kernel
theorem dX4_tenths_9 : decode cX4_tenths 9 = .ok (.aload_n 0, 1) := by decide +kernel
theorem dX4_tenths_10 : decode cX4_tenths 10 = .ok (.iload_n 1, 1) := by decide +kernel
theorem dX4_tenths_11 : decode cX4_tenths 11 = .ok (.invokevirtual 114, 3) := by decide +kernel
theorem dX4_tenths_14 : decode cX4_tenths 14 = .ok (.aload_n 0, 1) := by decide +kernel
theorem dX4_tenths_15 : decode cX4_tenths 15 = .ok (.getfield 31, 3) := by decide +kernel
theorem dX4_tenths_18 : decode cX4_tenths 18 = .ok (.iload_n 2, 1) := by decide +kernel
theorem dX4_tenths_19 : decode cX4_tenths 19 = .ok (.invokevirtual 175, 3) := by decide +kernel
theorem dX4_tenths_22 : decode cX4_tenths 22 = .ok (.dreturn, 1) := by decide +kernel
set_option maxRecDepth 20000 in
theorem ggX4_loses_X4_partAt : GoodIn wsX4_loses wsX4_partAt := goodIn_r _ [9, 10, 11, 144, 145, 146, 147, 148, 149] (by decide +kernel) (by decide +kernel)
set_option maxRecDepth 20000 in
theorem gX4_loses_X4_partAt : GoodIn wsX4_loses (wsV RX4 87 RX4 yX4_partAt wsX4_partAt) := goodIn_app (goodIn_of _ (by decide +kernel)) ggX4_loses_X4_partAt
theorem dX4_loses_0 : decode cX4_loses 0 = .ok (.aload_n 0, 1) := by decide +kernel
theorem dX4_loses_1 : decode cX4_loses 1 = .ok (.iload_n 1, 1) := by decide +kernel
theorem dX4_loses_2 : decode cX4_loses 2 = .ok (.invokevirtual 87, 3) := by decide +kernel
theorem dX4_loses_5 : decode cX4_loses 5 = .ok (.astore_n 2, 1) := by decide +kernel
theorem dX4_loses_6 : decode cX4_loses 6 = .ok (.aload_n 2, 1) := by decide +kernel
theorem dX4_loses_7 : decode cX4_loses 7 = .ok (.ifnonnull 13, 3) := by decide +kernel
theorem dX4_loses_10 : decode cX4_loses 10 = .ok (.new 59, 3) := by decide +kernel
theorem dX4_loses_13 : decode cX4_loses 13 = .ok (.dup, 1) := by decide +kernel
theorem dX4_loses_14 : decode cX4_loses 14 = .ok (.ldc 91, 2) := by decide +kernel
theorem dX4_loses_16 : decode cX4_loses 16 = .ok (.invokespecial 63, 3) := by decide +kernel
theorem dX4_loses_19 : decode cX4_loses 19 = .ok (.athrow, 1) := by decide +kernel
set_option maxRecDepth 20000 in
theorem ggX4_ofPart_X4_partAt : GoodIn wsX4_ofPart wsX4_partAt := goodIn_r _ [14, 15, 16, 29, 30, 31, 32, 33, 34] (by decide +kernel) (by decide +kernel)
set_option maxRecDepth 20000 in
theorem gX4_ofPart_X4_partAt : GoodIn wsX4_ofPart (wsV RX4 87 RX4 yX4_partAt wsX4_partAt) := goodIn_app (goodIn_of _ (by decide +kernel)) ggX4_ofPart_X4_partAt
theorem dX4_ofPart_0 : decode cX4_ofPart 0 = .ok (.aload_n 0, 1) := by decide +kernel
theorem dX4_ofPart_1 : decode cX4_ofPart 1 = .ok (.iload_n 1, 1) := by decide +kernel
theorem dX4_ofPart_2 : decode cX4_ofPart 2 = .ok (.invokevirtual 87, 3) := by decide +kernel
theorem dX4_ofPart_5 : decode cX4_ofPart 5 = .ok (.astore_n 3, 1) := by decide +kernel
theorem dX4_ofPart_6 : decode cX4_ofPart 6 = .ok (.aload_n 3, 1) := by decide +kernel
theorem dX4_ofPart_7 : decode cX4_ofPart 7 = .ok (.ifnonnull 13, 3) := by decide +kernel
theorem dX4_ofPart_10 : decode cX4_ofPart 10 = .ok (.new 59, 3) := by decide +kernel
theorem dX4_ofPart_13 : decode cX4_ofPart 13 = .ok (.dup, 1) := by decide +kernel
theorem dX4_ofPart_14 : decode cX4_ofPart 14 = .ok (.ldc 91, 2) := by decide +kernel
theorem dX4_ofPart_16 : decode cX4_ofPart 16 = .ok (.invokespecial 63, 3) := by decide +kernel
theorem dX4_ofPart_19 : decode cX4_ofPart 19 = .ok (.athrow, 1) := by decide +kernel
set_option maxRecDepth 20000 in
theorem ggX4_exposure_X4_partAt : GoodIn wsX4_exposure wsX4_partAt := goodIn_r _ [8, 9, 10, 23, 24, 25, 26, 27, 28] (by decide +kernel) (by decide +kernel)
set_option maxRecDepth 20000 in
theorem gX4_exposure_X4_partAt : GoodIn wsX4_exposure (wsV RX4 87 RX4 yX4_partAt wsX4_partAt) := goodIn_app (goodIn_of _ (by decide +kernel)) ggX4_exposure_X4_partAt
theorem dX4_exposure_0 : decode cX4_exposure 0 = .ok (.aload_n 0, 1) := by decide +kernel
theorem dX4_exposure_1 : decode cX4_exposure 1 = .ok (.iload_n 1, 1) := by decide +kernel
theorem dX4_exposure_2 : decode cX4_exposure 2 = .ok (.invokevirtual 87, 3) := by decide +kernel
theorem dX4_exposure_5 : decode cX4_exposure 5 = .ok (.astore_n 3, 1) := by decide +kernel
theorem dX4_exposure_6 : decode cX4_exposure 6 = .ok (.aload_n 3, 1) := by decide +kernel
theorem dX4_exposure_7 : decode cX4_exposure 7 = .ok (.ifnonnull 13, 3) := by decide +kernel
theorem dX4_exposure_10 : decode cX4_exposure 10 = .ok (.new 59, 3) := by decide +kernel
theorem dX4_exposure_13 : decode cX4_exposure 13 = .ok (.dup, 1) := by decide +kernel
theorem dX4_exposure_14 : decode cX4_exposure 14 = .ok (.ldc 91, 2) := by decide +kernel
theorem dX4_exposure_16 : decode cX4_exposure 16 = .ok (.invokespecial 63, 3) := by decide +kernel
theorem dX4_exposure_19 : decode cX4_exposure 19 = .ok (.athrow, 1) := by decide +kernel
set_option maxRecDepth 20000 in
theorem ggX4_ofSource_X4_sourceAt : GoodIn wsX4_ofSource wsX4_sourceAt := goodIn_r _ [12, 13, 14, 18, 19, 20, 21, 22, 23] (by decide +kernel) (by decide +kernel)
set_option maxRecDepth 20000 in
theorem gX4_ofSource_X4_sourceAt : GoodIn wsX4_ofSource (wsV RX4 55 RX4 yX4_sourceAt wsX4_sourceAt) := goodIn_app (goodIn_of _ (by decide +kernel)) ggX4_ofSource_X4_sourceAt
theorem dX4_ofSource_0 : decode cX4_ofSource 0 = .ok (.aload_n 0, 1) := by decide +kernel
theorem dX4_ofSource_1 : decode cX4_ofSource 1 = .ok (.iload_n 1, 1) := by decide +kernel
theorem dX4_ofSource_2 : decode cX4_ofSource 2 = .ok (.invokevirtual 55, 3) := by decide +kernel
theorem dX4_ofSource_5 : decode cX4_ofSource 5 = .ok (.astore_n 3, 1) := by decide +kernel
theorem dX4_ofSource_6 : decode cX4_ofSource 6 = .ok (.aload_n 3, 1) := by decide +kernel
theorem dX4_ofSource_7 : decode cX4_ofSource 7 = .ok (.ifnonnull 13, 3) := by decide +kernel
theorem dX4_ofSource_10 : decode cX4_ofSource 10 = .ok (.new 59, 3) := by decide +kernel
theorem dX4_ofSource_13 : decode cX4_ofSource 13 = .ok (.dup, 1) := by decide +kernel
theorem dX4_ofSource_14 : decode cX4_ofSource 14 = .ok (.ldc 61, 2) := by decide +kernel
theorem dX4_ofSource_16 : decode cX4_ofSource 16 = .ok (.invokespecial 63, 3) := by decide +kernel
theorem dX4_ofSource_19 : decode cX4_ofSource 19 = .ok (.athrow, 1) := by decide +kernel
set_option maxRecDepth 20000 in
theorem ggX4_many_X4_countPartsIn : GoodIn wsX4_many wsX4_countPartsIn := goodIn_r _ [9, 4, 10, 11, 12, 13, 8, 14, 15, 34, 35, 36, 37, 38, 39, 40, 41, 42, 43, 44, 45] (by decide +kernel) (by decide +kernel)
set_option maxRecDepth 20000 in
theorem gX4_many_X4_countPartsIn : GoodIn wsX4_many (wsV RX4 193 RX4 yX4_countPartsIn wsX4_countPartsIn) := goodIn_app (goodIn_of _ (by decide +kernel)) ggX4_many_X4_countPartsIn
set_option maxRecDepth 20000 in
theorem ggX4_many_X4_firstThatCannotBeUndone : GoodIn wsX4_many wsX4_firstThatCannotBeUndone := goodIn_ca (goodIn_r _ [19, 4, 10, 11, 12, 13, 8, 14, 15, 20, 21, 22, 23, 24, 25, 26, 27, 28, 34, 35, 36, 37, 38, 39, 40, 41, 42, 43, 44, 45] (by decide +kernel) (by decide +kernel)) (goodIn_sub (fun _ h => List.mem_cons_of_mem _ (List.mem_append_right _ h)) (by decide +kernel))
set_option maxRecDepth 20000 in
theorem gX4_many_X4_firstThatCannotBeUndone : GoodIn wsX4_many (wsV RX4 196 RX4 yX4_firstThatCannotBeUndone wsX4_firstThatCannotBeUndone) := goodIn_app (goodIn_of _ (by decide +kernel)) ggX4_many_X4_firstThatCannotBeUndone
set_option maxRecDepth 20000 in
theorem ggX4_many_X4_countExposuresEver : GoodIn wsX4_many wsX4_countExposuresEver := goodIn_r _ [32, 4, 33, 11, 12, 13, 8, 14, 15, 34, 35, 36, 37, 38, 39, 40, 41, 42, 43, 44, 45] (by decide +kernel) (by decide +kernel)
set_option maxRecDepth 20000 in
theorem gX4_many_X4_countExposuresEver : GoodIn wsX4_many (wsV RX4 199 RX4 yX4_countExposuresEver wsX4_countExposuresEver) := goodIn_app (goodIn_of _ (by decide +kernel)) ggX4_many_X4_countExposuresEver
theorem dX4_many_0 : decode cX4_many 0 = .ok (.iload_n 1, 1) := by decide +kernel
theorem dX4_many_1 : decode cX4_many 1 = .ok (.tableswitch 60 0 4 #[35, 40, 45, 50, 55], 35) := by decide +kernel
theorem dX4_many_36 : decode cX4_many 36 = .ok (.aload_n 0, 1) := by decide +kernel
theorem dX4_many_37 : decode cX4_many 37 = .ok (.getfield 35, 3) := by decide +kernel
theorem dX4_many_40 : decode cX4_many 40 = .ok (.ireturn, 1) := by decide +kernel
theorem dX4_many_41 : decode cX4_many 41 = .ok (.aload_n 0, 1) := by decide +kernel
theorem dX4_many_42 : decode cX4_many 42 = .ok (.getfield 39, 3) := by decide +kernel
theorem dX4_many_45 : decode cX4_many 45 = .ok (.ireturn, 1) := by decide +kernel
theorem dX4_many_46 : decode cX4_many 46 = .ok (.aload_n 0, 1) := by decide +kernel
theorem dX4_many_47 : decode cX4_many 47 = .ok (.invokevirtual 193, 3) := by decide +kernel
theorem dX4_many_50 : decode cX4_many 50 = .ok (.ireturn, 1) := by decide +kernel
theorem dX4_many_51 : decode cX4_many 51 = .ok (.aload_n 0, 1) := by decide +kernel
theorem dX4_many_52 : decode cX4_many 52 = .ok (.invokevirtual 196, 3) := by decide +kernel
theorem dX4_many_55 : decode cX4_many 55 = .ok (.ireturn, 1) := by decide +kernel
theorem dX4_many_56 : decode cX4_many 56 = .ok (.aload_n 0, 1) := by decide +kernel
theorem dX4_many_57 : decode cX4_many 57 = .ok (.invokevirtual 199, 3) := by decide +kernel
theorem dX4_many_60 : decode cX4_many 60 = .ok (.ireturn, 1) := by decide +kernel
theorem dX4_many_61 : decode cX4_many 61 = .ok (.new 77, 3) := by decide +kernel
theorem dX4_many_64 : decode cX4_many 64 = .ok (.dup, 1) := by decide +kernel
theorem dX4_many_65 : decode cX4_many 65 = .ok (.ldc 202, 2) := by decide +kernel
theorem dX4_many_67 : decode cX4_many 67 = .ok (.invokespecial 81, 3) := by decide +kernel
theorem dX4_many_70 : decode cX4_many 70 = .ok (.athrow, 1) := by decide +kernel
set_option maxRecDepth 20000 in
theorem ggX4_without_X4_partAt : GoodIn wsX4_without wsX4_partAt := goodIn_r _ [11, 4, 12, 137, 138, 139, 140, 141, 142] (by decide +kernel) (by decide +kernel)
set_option maxRecDepth 20000 in
theorem gX4_without_X4_partAt : GoodIn wsX4_without (wsV RX4 87 RX4 yX4_partAt wsX4_partAt) := goodIn_app (goodIn_of _ (by decide +kernel)) ggX4_without_X4_partAt
theorem dX4_without_0 : decode cX4_without 0 = .ok (.aload_n 0, 1) := by decide +kernel
theorem dX4_without_1 : decode cX4_without 1 = .ok (.iload_n 1, 1) := by decide +kernel
theorem dX4_without_2 : decode cX4_without 2 = .ok (.invokevirtual 87, 3) := by decide +kernel
theorem dX4_without_5 : decode cX4_without 5 = .ok (.astore_n 3, 1) := by decide +kernel
theorem dX4_without_6 : decode cX4_without 6 = .ok (.aload_n 3, 1) := by decide +kernel
theorem dX4_without_7 : decode cX4_without 7 = .ok (.ifnonnull 13, 3) := by decide +kernel
theorem dX4_without_10 : decode cX4_without 10 = .ok (.new 59, 3) := by decide +kernel
theorem dX4_without_13 : decode cX4_without 13 = .ok (.dup, 1) := by decide +kernel
theorem dX4_without_14 : decode cX4_without 14 = .ok (.ldc 91, 2) := by decide +kernel
theorem dX4_without_16 : decode cX4_without 16 = .ok (.invokespecial 63, 3) := by decide +kernel
theorem dX4_without_19 : decode cX4_without 19 = .ok (.athrow, 1) := by decide +kernel
set_option maxRecDepth 20000 in
theorem ggX4_best_X4_partAt : GoodIn wsX4_best wsX4_partAt := goodIn_r _ [11, 5, 12, 155, 156, 157, 158, 159, 160] (by decide +kernel) (by decide +kernel)
set_option maxRecDepth 20000 in
theorem gX4_best_X4_partAt : GoodIn wsX4_best (wsV RX4 87 RX4 yX4_partAt wsX4_partAt) := goodIn_app (goodIn_of _ (by decide +kernel)) ggX4_best_X4_partAt
theorem dX4_best_0 : decode cX4_best 0 = .ok (.aload_n 0, 1) := by decide +kernel
theorem dX4_best_1 : decode cX4_best 1 = .ok (.iload_n 1, 1) := by decide +kernel
theorem dX4_best_2 : decode cX4_best 2 = .ok (.invokevirtual 87, 3) := by decide +kernel
theorem dX4_best_5 : decode cX4_best 5 = .ok (.astore_n 3, 1) := by decide +kernel
theorem dX4_best_6 : decode cX4_best 6 = .ok (.aload_n 3, 1) := by decide +kernel
theorem dX4_best_7 : decode cX4_best 7 = .ok (.ifnonnull 13, 3) := by decide +kernel
theorem dX4_best_10 : decode cX4_best 10 = .ok (.new 59, 3) := by decide +kernel
theorem dX4_best_13 : decode cX4_best 13 = .ok (.dup, 1) := by decide +kernel
theorem dX4_best_14 : decode cX4_best 14 = .ok (.ldc 91, 2) := by decide +kernel
theorem dX4_best_16 : decode cX4_best 16 = .ok (.invokespecial 63, 3) := by decide +kernel
theorem dX4_best_19 : decode cX4_best 19 = .ok (.athrow, 1) := by decide +kernel
set_option maxRecDepth 20000 in
theorem ggX4_alone_X4_sourceAt : GoodIn wsX4_alone wsX4_sourceAt := goodIn_r _ [10, 11, 12, 129, 130, 131, 132, 133, 134] (by decide +kernel) (by decide +kernel)
set_option maxRecDepth 20000 in
theorem gX4_alone_X4_sourceAt : GoodIn wsX4_alone (wsV RX4 55 RX4 yX4_sourceAt wsX4_sourceAt) := goodIn_app (goodIn_of _ (by decide +kernel)) ggX4_alone_X4_sourceAt
theorem dX4_alone_0 : decode cX4_alone 0 = .ok (.aload_n 0, 1) := by decide +kernel
theorem dX4_alone_1 : decode cX4_alone 1 = .ok (.iload_n 1, 1) := by decide +kernel
theorem dX4_alone_2 : decode cX4_alone 2 = .ok (.invokevirtual 55, 3) := by decide +kernel
theorem dX4_alone_5 : decode cX4_alone 5 = .ok (.astore_n 2, 1) := by decide +kernel
theorem dX4_alone_6 : decode cX4_alone 6 = .ok (.aload_n 2, 1) := by decide +kernel
theorem dX4_alone_7 : decode cX4_alone 7 = .ok (.ifnonnull 13, 3) := by decide +kernel
theorem dX4_alone_10 : decode cX4_alone 10 = .ok (.new 59, 3) := by decide +kernel
theorem dX4_alone_13 : decode cX4_alone 13 = .ok (.dup, 1) := by decide +kernel
theorem dX4_alone_14 : decode cX4_alone 14 = .ok (.ldc 61, 2) := by decide +kernel
theorem dX4_alone_16 : decode cX4_alone 16 = .ok (.invokespecial 63, 3) := by decide +kernel
theorem dX4_alone_19 : decode cX4_alone 19 = .ok (.athrow, 1) := by decide +kernel
set_option maxRecDepth 20000 in
theorem ggX4_digest_X4_many : GoodIn wsX4_digest wsX4_many := goodIn_ca (goodIn_ca (goodIn_r _ [10, 11, 12, 3, 4, 13, 14, 15, 9, 16, 17, 18, 19, 20, 21, 22, 23, 24, 25, 26, 27, 28, 29, 30, 31, 32, 33, 34, 35, 36, 37, 38, 39, 40, 244, 245, 246, 247, 248, 249, 250, 251, 252, 253, 254, 255] (by decide +kernel) (by decide +kernel)) (goodIn_sub (fun _ h => List.mem_cons_of_mem _ (List.mem_append_left _ (List.mem_append_left _ (List.mem_append_right _ h)))) (by decide +kernel))) (goodIn_sub (fun _ h => List.mem_cons_of_mem _ (List.mem_append_left _ (List.mem_append_right _ h))) (by decide +kernel))
set_option maxRecDepth 20000 in
theorem gX4_digest_X4_many : GoodIn wsX4_digest (wsV RX4 229 RX4 yX4_many wsX4_many) := goodIn_app (goodIn_of _ (by decide +kernel)) ggX4_digest_X4_many
set_option maxRecDepth 20000 in
theorem ggX4_digest_X4_shineAll : GoodIn wsX4_digest wsX4_shineAll := goodIn_ca (goodIn_r _ [168, 5, 3, 59, 128, 129, 130, 131, 132, 133, 134, 135, 74, 75, 76, 50, 51, 52, 9, 53, 54, 60, 61, 62, 63, 4, 17, 64, 65, 66, 67, 68, 69, 70, 71, 72, 73, 77, 78, 79, 18, 19, 20, 21, 22, 80, 81, 82, 30, 83, 33, 34, 35, 32, 84, 85, 86, 87, 88, 89, 90, 91, 92, 93, 94, 95, 96, 97, 98, 99, 100, 101, 102, 103, 104, 105, 106, 107, 108, 109, 110, 111, 112, 113, 114, 115, 116, 117, 118, 119, 120, 121, 122, 123, 124, 125, 126, 127, 136, 137, 138, 139, 140, 141, 142, 143, 144, 145, 146, 147, 148, 149, 150, 151, 152, 153, 154, 155, 244, 245, 246, 247, 248, 249, 271, 272, 250, 251, 252, 253, 254, 255, 259, 260, 256, 257, 258, 261, 262, 263, 264, 265, 266, 267, 268, 269, 270] (by decide +kernel) (by decide +kernel)) (goodIn_sub (fun _ h => List.mem_cons_of_mem _ (List.mem_append_left _ (List.mem_append_right _ h))) (by decide +kernel))
set_option maxRecDepth 20000 in
theorem gX4_digest_X4_shineAll : GoodIn wsX4_digest (wsV RX4 114 RX4 yX4_shineAll wsX4_shineAll) := goodIn_app (goodIn_of _ (by decide +kernel)) ggX4_digest_X4_shineAll
set_option maxRecDepth 20000 in
theorem ggX4_digest_X2_addToDigest : GoodIn wsX4_digest wsX2_addToDigest := goodIn_ca (goodIn_r _ [172, 173, 133, 134, 174, 157, 158, 131, 159, 160, 161, 162, 163, 164, 175, 176, 177, 178, 179, 180, 181, 182, 183, 184, 185, 186, 271, 272] (by decide +kernel) (by decide +kernel)) (goodIn_sub (fun _ h => List.mem_cons_of_mem _ (List.mem_append_left _ (List.mem_append_right _ h))) (by decide +kernel))
set_option maxRecDepth 20000 in
theorem gX4_digest_X2_addToDigest : GoodIn wsX4_digest (wsV RX4 239 RX2 yX2_addToDigest wsX2_addToDigest) := goodIn_app (goodIn_of _ (by decide +kernel)) ggX4_digest_X2_addToDigest
theorem dX4_digest_0 : decode cX4_digest 0 = .ok (.ldc2_w 225, 3) := by decide +kernel
theorem dX4_digest_3 : decode cX4_digest 3 = .ok (.lstore_n 1, 1) := by decide +kernel
theorem dX4_digest_4 : decode cX4_digest 4 = .ok (.iconst 0, 1) := by decide +kernel
theorem dX4_digest_5 : decode cX4_digest 5 = .ok (.istore_n 3, 1) := by decide +kernel
theorem dX4_digest_6 : decode cX4_digest 6 = .ok (.iload_n 3, 1) := by decide +kernel
theorem dX4_digest_7 : decode cX4_digest 7 = .ok (.iconst 4, 1) := by decide +kernel
theorem dX4_digest_8 : decode cX4_digest 8 = .ok (.if_icmp .gt 22, 3) := by decide +kernel
theorem dX4_digest_11 : decode cX4_digest 11 = .ok (.lload_n 1, 1) := by decide +kernel
theorem dX4_digest_12 : decode cX4_digest 12 = .ok (.ldc2_w 227, 3) := by decide +kernel
theorem dX4_digest_15 : decode cX4_digest 15 = .ok (.lmul, 1) := by decide +kernel
theorem dX4_digest_16 : decode cX4_digest 16 = .ok (.aload_n 0, 1) := by decide +kernel
theorem dX4_digest_17 : decode cX4_digest 17 = .ok (.iload_n 3, 1) := by decide +kernel
theorem dX4_digest_18 : decode cX4_digest 18 = .ok (.invokevirtual 229, 3) := by decide +kernel
theorem dX4_digest_21 : decode cX4_digest 21 = .ok (.i2l, 1) := by decide +kernel
theorem dX4_digest_22 : decode cX4_digest 22 = .ok (.ladd, 1) := by decide +kernel
theorem dX4_digest_23 : decode cX4_digest 23 = .ok (.lstore_n 1, 1) := by decide +kernel
theorem dX4_digest_24 : decode cX4_digest 24 = .ok (.iinc 3 1, 3) := by decide +kernel
theorem dX4_digest_27 : decode cX4_digest 27 = .ok (.goto (-21), 3) := by decide +kernel
theorem dX4_digest_30 : decode cX4_digest 30 = .ok (.iconst 0, 1) := by decide +kernel
theorem dX4_digest_31 : decode cX4_digest 31 = .ok (.istore_n 3, 1) := by decide +kernel
theorem dX4_digest_32 : decode cX4_digest 32 = .ok (.iload_n 3, 1) := by decide +kernel
theorem dX4_digest_33 : decode cX4_digest 33 = .ok (.aload_n 0, 1) := by decide +kernel
theorem dX4_digest_34 : decode cX4_digest 34 = .ok (.getfield 35, 3) := by decide +kernel
theorem dX4_digest_37 : decode cX4_digest 37 = .ok (.if_icmp .ge 52, 3) := by decide +kernel
theorem dX4_digest_89 : decode cX4_digest 89 = .ok (.iconst (-1), 1) := by decide +kernel
theorem dX4_digest_90 : decode cX4_digest 90 = .ok (.istore_n 3, 1) := by decide +kernel
theorem dX4_digest_91 : decode cX4_digest 91 = .ok (.iload_n 3, 1) := by decide +kernel
theorem dX4_digest_92 : decode cX4_digest 92 = .ok (.aload_n 0, 1) := by decide +kernel
theorem dX4_digest_93 : decode cX4_digest 93 = .ok (.getfield 39, 3) := by decide +kernel
theorem dX4_digest_96 : decode cX4_digest 96 = .ok (.if_icmp .ge 23, 3) := by decide +kernel
theorem dX4_digest_99 : decode cX4_digest 99 = .ok (.aload_n 0, 1) := by decide +kernel
theorem dX4_digest_100 : decode cX4_digest 100 = .ok (.iload_n 3, 1) := by decide +kernel
theorem dX4_digest_101 : decode cX4_digest 101 = .ok (.invokevirtual 114, 3) := by decide +kernel
theorem dX4_digest_104 : decode cX4_digest 104 = .ok (.aload_n 0, 1) := by decide +kernel
theorem dX4_digest_105 : decode cX4_digest 105 = .ok (.getfield 31, 3) := by decide +kernel
theorem dX4_digest_108 : decode cX4_digest 108 = .ok (.lload_n 1, 1) := by decide +kernel
theorem dX4_digest_109 : decode cX4_digest 109 = .ok (.invokevirtual 239, 3) := by decide +kernel
theorem dX4_digest_112 : decode cX4_digest 112 = .ok (.lstore_n 1, 1) := by decide +kernel
theorem dX4_digest_113 : decode cX4_digest 113 = .ok (.iinc 3 1, 3) := by decide +kernel
theorem dX4_digest_116 : decode cX4_digest 116 = .ok (.goto (-25), 3) := by decide +kernel
theorem dX4_digest_119 : decode cX4_digest 119 = .ok (.iconst 0, 1) := by decide +kernel
theorem dX4_digest_120 : decode cX4_digest 120 = .ok (.istore_n 3, 1) := by decide +kernel
theorem dX4_digest_121 : decode cX4_digest 121 = .ok (.iload_n 3, 1) := by decide +kernel
theorem dX4_digest_122 : decode cX4_digest 122 = .ok (.aload_n 0, 1) := by decide +kernel
theorem dX4_digest_123 : decode cX4_digest 123 = .ok (.getfield 39, 3) := by decide +kernel
theorem dX4_digest_126 : decode cX4_digest 126 = .ok (.if_icmp .ge 78, 3) := by decide +kernel
theorem dX4_digest_204 : decode cX4_digest 204 = .ok (.lload_n 1, 1) := by decide +kernel
theorem dX4_digest_205 : decode cX4_digest 205 = .ok (.lreturn, 1) := by decide +kernel
theorem dX4_isPlace_0 : decode cX4_isPlace 0 = .ok (.iload_n 0, 1) := by decide +kernel
theorem dX4_isPlace_1 : decode cX4_isPlace 1 = .ok (.ifCond .lt 13, 3) := by decide +kernel
theorem dX4_isPlace_4 : decode cX4_isPlace 4 = .ok (.iload_n 0, 1) := by decide +kernel
theorem dX4_isPlace_5 : decode cX4_isPlace 5 = .ok (.bipush 8, 2) := by decide +kernel
theorem dX4_isPlace_7 : decode cX4_isPlace 7 = .ok (.if_icmp .ge 7, 3) := by decide +kernel
theorem dX4_isPlace_10 : decode cX4_isPlace 10 = .ok (.iconst 1, 1) := by decide +kernel
theorem dX4_isPlace_11 : decode cX4_isPlace 11 = .ok (.goto 4, 3) := by decide +kernel
theorem dX4_isPlace_14 : decode cX4_isPlace 14 = .ok (.iconst 0, 1) := by decide +kernel
theorem dX4_isPlace_15 : decode cX4_isPlace 15 = .ok (.ireturn, 1) := by decide +kernel
set_option maxRecDepth 20000 in
theorem ggX4_isNumberOf_X4_leastNumber : GoodIn wsX4_isNumberOf wsX4_leastNumber := goodIn_ca (goodIn_r _ [4, 5] (by decide +kernel) (by decide +kernel)) (goodIn_sub (fun _ h => List.mem_cons_of_mem _ (List.mem_append_right _ h)) (by decide +kernel))
set_option maxRecDepth 20000 in
theorem gX4_isNumberOf_X4_leastNumber : GoodIn wsX4_isNumberOf (va_wsS RX4 212 yX4_leastNumber wsX4_leastNumber) := goodIn_app (goodIn_of _ (by decide +kernel)) ggX4_isNumberOf_X4_leastNumber
set_option maxRecDepth 20000 in
theorem ggX4_isNumberOf_X4_mostNumber : GoodIn wsX4_isNumberOf wsX4_mostNumber := goodIn_ca (goodIn_r _ [8, 9] (by decide +kernel) (by decide +kernel)) (goodIn_sub (fun _ h => List.mem_cons_of_mem _ (List.mem_append_right _ h)) (by decide +kernel))
set_option maxRecDepth 20000 in
theorem gX4_isNumberOf_X4_mostNumber : GoodIn wsX4_isNumberOf (va_wsS RX4 208 yX4_mostNumber wsX4_mostNumber) := goodIn_app (goodIn_of _ (by decide +kernel)) ggX4_isNumberOf_X4_mostNumber
theorem dX4_isNumberOf_0 : decode cX4_isNumberOf 0 = .ok (.iload_n 0, 1) := by decide +kernel
theorem dX4_isNumberOf_1 : decode cX4_isNumberOf 1 = .ok (.ifCond .lt 29, 3) := by decide +kernel
theorem dX4_isNumberOf_4 : decode cX4_isNumberOf 4 = .ok (.iload_n 0, 1) := by decide +kernel
theorem dX4_isNumberOf_5 : decode cX4_isNumberOf 5 = .ok (.bipush 10, 2) := by decide +kernel
theorem dX4_isNumberOf_7 : decode cX4_isNumberOf 7 = .ok (.if_icmp .gt 23, 3) := by decide +kernel
theorem dX4_isNumberOf_10 : decode cX4_isNumberOf 10 = .ok (.iload_n 1, 1) := by decide +kernel
theorem dX4_isNumberOf_11 : decode cX4_isNumberOf 11 = .ok (.iload_n 0, 1) := by decide +kernel
theorem dX4_isNumberOf_12 : decode cX4_isNumberOf 12 = .ok (.invokestatic 212, 3) := by decide +kernel
theorem dX4_isNumberOf_15 : decode cX4_isNumberOf 15 = .ok (.if_icmp .lt 15, 3) := by decide +kernel
theorem dX4_isNumberOf_18 : decode cX4_isNumberOf 18 = .ok (.iload_n 1, 1) := by decide +kernel
theorem dX4_isNumberOf_19 : decode cX4_isNumberOf 19 = .ok (.iload_n 0, 1) := by decide +kernel
theorem dX4_isNumberOf_20 : decode cX4_isNumberOf 20 = .ok (.invokestatic 208, 3) := by decide +kernel
theorem dX4_isNumberOf_23 : decode cX4_isNumberOf 23 = .ok (.if_icmp .gt 7, 3) := by decide +kernel
theorem dX4_isNumberOf_26 : decode cX4_isNumberOf 26 = .ok (.iconst 1, 1) := by decide +kernel
theorem dX4_isNumberOf_27 : decode cX4_isNumberOf 27 = .ok (.goto 4, 3) := by decide +kernel
theorem dX4_isNumberOf_30 : decode cX4_isNumberOf 30 = .ok (.iconst 0, 1) := by decide +kernel
theorem dX4_isNumberOf_31 : decode cX4_isNumberOf 31 = .ok (.ireturn, 1) := by decide +kernel
theorem dX4_leastNumber_0 : decode cX4_leastNumber 0 = .ok (.iload_n 0, 1) := by decide +kernel
theorem dX4_leastNumber_1 : decode cX4_leastNumber 1 = .ok (.ifCond .lt 19, 3) := by decide +kernel
theorem dX4_leastNumber_4 : decode cX4_leastNumber 4 = .ok (.iload_n 0, 1) := by decide +kernel
theorem dX4_leastNumber_5 : decode cX4_leastNumber 5 = .ok (.getstatic 256, 3) := by decide +kernel
theorem dX4_leastNumber_8 : decode cX4_leastNumber 8 = .ok (.arraylength, 1) := by decide +kernel
theorem dX4_leastNumber_9 : decode cX4_leastNumber 9 = .ok (.if_icmp .ge 11, 3) := by decide +kernel
theorem dX4_leastNumber_12 : decode cX4_leastNumber 12 = .ok (.getstatic 256, 3) := by decide +kernel
theorem dX4_leastNumber_15 : decode cX4_leastNumber 15 = .ok (.iload_n 0, 1) := by decide +kernel
theorem dX4_leastNumber_16 : decode cX4_leastNumber 16 = .ok (.iaload, 1) := by decide +kernel
theorem dX4_leastNumber_17 : decode cX4_leastNumber 17 = .ok (.goto 4, 3) := by decide +kernel
theorem dX4_leastNumber_20 : decode cX4_leastNumber 20 = .ok (.iconst 0, 1) := by decide +kernel
theorem dX4_leastNumber_21 : decode cX4_leastNumber 21 = .ok (.ireturn, 1) := by decide +kernel
theorem dX4_mostNumber_0 : decode cX4_mostNumber 0 = .ok (.iload_n 0, 1) := by decide +kernel
theorem dX4_mostNumber_1 : decode cX4_mostNumber 1 = .ok (.ifCond .lt 19, 3) := by decide +kernel
theorem dX4_mostNumber_4 : decode cX4_mostNumber 4 = .ok (.iload_n 0, 1) := by decide +kernel
theorem dX4_mostNumber_5 : decode cX4_mostNumber 5 = .ok (.getstatic 259, 3) := by decide +kernel
theorem dX4_mostNumber_8 : decode cX4_mostNumber 8 = .ok (.arraylength, 1) := by decide +kernel
theorem dX4_mostNumber_9 : decode cX4_mostNumber 9 = .ok (.if_icmp .ge 11, 3) := by decide +kernel
theorem dX4_mostNumber_12 : decode cX4_mostNumber 12 = .ok (.getstatic 259, 3) := by decide +kernel
theorem dX4_mostNumber_15 : decode cX4_mostNumber 15 = .ok (.iload_n 0, 1) := by decide +kernel
theorem dX4_mostNumber_16 : decode cX4_mostNumber 16 = .ok (.iaload, 1) := by decide +kernel
theorem dX4_mostNumber_17 : decode cX4_mostNumber 17 = .ok (.goto 4, 3) := by decide +kernel
theorem dX4_mostNumber_20 : decode cX4_mostNumber 20 = .ok (.iconst 0, 1) := by decide +kernel
theorem dX4_mostNumber_21 : decode cX4_mostNumber 21 = .ok (.ireturn, 1) := by decide +kernel
set_option maxRecDepth 20000 in
theorem ggX4_checkPlace_X4_isPlace : GoodIn wsX4_checkPlace wsX4_isPlace := goodIn_r _ [6] (by decide +kernel) (by decide +kernel)
set_option maxRecDepth 20000 in
theorem gX4_checkPlace_X4_isPlace : GoodIn wsX4_checkPlace (va_wsS RX4 129 yX4_isPlace wsX4_isPlace) := goodIn_app (goodIn_of _ (by decide +kernel)) ggX4_checkPlace_X4_isPlace
theorem dX4_checkPlace_0 : decode cX4_checkPlace 0 = .ok (.iload_n 0, 1) := by decide +kernel
theorem dX4_checkPlace_1 : decode cX4_checkPlace 1 = .ok (.invokestatic 129, 3) := by decide +kernel
theorem dX4_checkPlace_4 : decode cX4_checkPlace 4 = .ok (.ifCond .ne 14, 3) := by decide +kernel
theorem dX4_checkPlace_7 : decode cX4_checkPlace 7 = .ok (.new 59, 3) := by decide +kernel
theorem dX4_checkPlace_10 : decode cX4_checkPlace 10 = .ok (.dup, 1) := by decide +kernel
theorem dX4_checkPlace_11 : decode cX4_checkPlace 11 = .ok (.ldc_w 262, 3) := by decide +kernel
theorem dX4_checkPlace_14 : decode cX4_checkPlace 14 = .ok (.invokespecial 63, 3) := by decide +kernel
theorem dX4_checkPlace_17 : decode cX4_checkPlace 17 = .ok (.athrow, 1) := by decide +kernel
theorem dX4_checkPlace_18 : decode cX4_checkPlace 18 = .ok (.return_, 1) := by decide +kernel
set_option maxRecDepth 20000 in
theorem ggX4_checkSource_X4_isPlace : GoodIn wsX4_checkSource wsX4_isPlace := goodIn_r _ [6] (by decide +kernel) (by decide +kernel)
set_option maxRecDepth 20000 in
theorem gX4_checkSource_X4_isPlace : GoodIn wsX4_checkSource (va_wsS RX4 129 yX4_isPlace wsX4_isPlace) := goodIn_app (goodIn_of _ (by decide +kernel)) ggX4_checkSource_X4_isPlace
theorem dX4_checkSource_0 : decode cX4_checkSource 0 = .ok (.iload_n 0, 1) := by decide +kernel
theorem dX4_checkSource_1 : decode cX4_checkSource 1 = .ok (.invokestatic 129, 3) := by decide +kernel
theorem dX4_checkSource_4 : decode cX4_checkSource 4 = .ok (.ifCond .eq 24, 3) := by decide +kernel
theorem dX4_checkSource_7 : decode cX4_checkSource 7 = .ok (.iload_n 1, 1) := by decide +kernel
theorem dX4_checkSource_8 : decode cX4_checkSource 8 = .ok (.ifCond .lt 20, 3) := by decide +kernel
theorem dX4_checkSource_11 : decode cX4_checkSource 11 = .ok (.iload_n 1, 1) := by decide +kernel
theorem dX4_checkSource_12 : decode cX4_checkSource 12 = .ok (.bipush 7, 2) := by decide +kernel
theorem dX4_checkSource_14 : decode cX4_checkSource 14 = .ok (.if_icmp .gt 14, 3) := by decide +kernel
theorem dX4_checkSource_17 : decode cX4_checkSource 17 = .ok (.iload_n 2, 1) := by decide +kernel
theorem dX4_checkSource_18 : decode cX4_checkSource 18 = .ok (.iconst 1, 1) := by decide +kernel
theorem dX4_checkSource_19 : decode cX4_checkSource 19 = .ok (.if_icmp .lt 9, 3) := by decide +kernel
theorem dX4_checkSource_22 : decode cX4_checkSource 22 = .ok (.iload_n 2, 1) := by decide +kernel
theorem dX4_checkSource_23 : decode cX4_checkSource 23 = .ok (.bipush 9, 2) := by decide +kernel
theorem dX4_checkSource_25 : decode cX4_checkSource 25 = .ok (.if_icmp .le 14, 3) := by decide +kernel
theorem dX4_checkSource_28 : decode cX4_checkSource 28 = .ok (.new 77, 3) := by decide +kernel
theorem dX4_checkSource_31 : decode cX4_checkSource 31 = .ok (.dup, 1) := by decide +kernel
theorem dX4_checkSource_32 : decode cX4_checkSource 32 = .ok (.ldc_w 264, 3) := by decide +kernel
theorem dX4_checkSource_35 : decode cX4_checkSource 35 = .ok (.invokespecial 81, 3) := by decide +kernel
theorem dX4_checkSource_38 : decode cX4_checkSource 38 = .ok (.athrow, 1) := by decide +kernel
theorem dX4_checkSource_39 : decode cX4_checkSource 39 = .ok (.return_, 1) := by decide +kernel
theorem dX4_checkBehind_0 : decode cX4_checkBehind 0 = .ok (.iload_n 1, 1) := by decide +kernel
theorem dX4_checkBehind_1 : decode cX4_checkBehind 1 = .ok (.iconst (-1), 1) := by decide +kernel
theorem dX4_checkBehind_2 : decode cX4_checkBehind 2 = .ok (.if_icmp .lt 11, 3) := by decide +kernel
theorem dX4_checkBehind_5 : decode cX4_checkBehind 5 = .ok (.iload_n 1, 1) := by decide +kernel
theorem dX4_checkBehind_6 : decode cX4_checkBehind 6 = .ok (.aload_n 0, 1) := by decide +kernel
theorem dX4_checkBehind_7 : decode cX4_checkBehind 7 = .ok (.getfield 39, 3) := by decide +kernel
theorem dX4_checkBehind_10 : decode cX4_checkBehind 10 = .ok (.if_icmp .lt 13, 3) := by decide +kernel
theorem dX4_checkBehind_13 : decode cX4_checkBehind 13 = .ok (.new 59, 3) := by decide +kernel
theorem dX4_checkBehind_16 : decode cX4_checkBehind 16 = .ok (.dup, 1) := by decide +kernel
theorem dX4_checkBehind_17 : decode cX4_checkBehind 17 = .ok (.ldc 91, 2) := by decide +kernel
theorem dX4_checkBehind_19 : decode cX4_checkBehind 19 = .ok (.invokespecial 63, 3) := by decide +kernel
theorem dX4_checkBehind_22 : decode cX4_checkBehind 22 = .ok (.athrow, 1) := by decide +kernel
theorem dX4_checkBehind_23 : decode cX4_checkBehind 23 = .ok (.return_, 1) := by decide +kernel
theorem dX4_sourceAt_0 : decode cX4_sourceAt 0 = .ok (.iload_n 1, 1) := by decide +kernel
theorem dX4_sourceAt_1 : decode cX4_sourceAt 1 = .ok (.ifCond .lt 25, 3) := by decide +kernel
theorem dX4_sourceAt_4 : decode cX4_sourceAt 4 = .ok (.iload_n 1, 1) := by decide +kernel
theorem dX4_sourceAt_5 : decode cX4_sourceAt 5 = .ok (.aload_n 0, 1) := by decide +kernel
theorem dX4_sourceAt_6 : decode cX4_sourceAt 6 = .ok (.getfield 35, 3) := by decide +kernel
theorem dX4_sourceAt_9 : decode cX4_sourceAt 9 = .ok (.if_icmp .ge 17, 3) := by decide +kernel
theorem dX4_sourceAt_26 : decode cX4_sourceAt 26 = .ok (.aconst_null, 1) := by decide +kernel
theorem dX4_sourceAt_27 : decode cX4_sourceAt 27 = .ok (.areturn, 1) := by decide +kernel
theorem dX4_partAt_0 : decode cX4_partAt 0 = .ok (.iload_n 1, 1) := by decide +kernel
theorem dX4_partAt_1 : decode cX4_partAt 1 = .ok (.ifCond .lt 26, 3) := by decide +kernel
theorem dX4_partAt_4 : decode cX4_partAt 4 = .ok (.iload_n 1, 1) := by decide +kernel
theorem dX4_partAt_5 : decode cX4_partAt 5 = .ok (.aload_n 0, 1) := by decide +kernel
theorem dX4_partAt_6 : decode cX4_partAt 6 = .ok (.getfield 39, 3) := by decide +kernel
theorem dX4_partAt_9 : decode cX4_partAt 9 = .ok (.if_icmp .ge 18, 3) := by decide +kernel
theorem dX4_partAt_27 : decode cX4_partAt 27 = .ok (.aconst_null, 1) := by decide +kernel
theorem dX4_partAt_28 : decode cX4_partAt 28 = .ok (.areturn, 1) := by decide +kernel
theorem dX4_countPartsIn_0 : decode cX4_countPartsIn 0 = .ok (.iconst 0, 1) := by decide +kernel
theorem dX4_countPartsIn_1 : decode cX4_countPartsIn 1 = .ok (.istore_n 1, 1) := by decide +kernel
theorem dX4_countPartsIn_2 : decode cX4_countPartsIn 2 = .ok (.iconst 0, 1) := by decide +kernel
theorem dX4_countPartsIn_3 : decode cX4_countPartsIn 3 = .ok (.istore_n 2, 1) := by decide +kernel
theorem dX4_countPartsIn_4 : decode cX4_countPartsIn 4 = .ok (.iload_n 2, 1) := by decide +kernel
theorem dX4_countPartsIn_5 : decode cX4_countPartsIn 5 = .ok (.aload_n 0, 1) := by decide +kernel
theorem dX4_countPartsIn_6 : decode cX4_countPartsIn 6 = .ok (.getfield 39, 3) := by decide +kernel
theorem dX4_countPartsIn_9 : decode cX4_countPartsIn 9 = .ok (.if_icmp .ge 29, 3) := by decide +kernel
theorem dX4_countPartsIn_38 : decode cX4_countPartsIn 38 = .ok (.iload_n 1, 1) := by decide +kernel
theorem dX4_countPartsIn_39 : decode cX4_countPartsIn 39 = .ok (.ireturn, 1) := by decide +kernel
theorem dX4_firstThatCannotBeUndone_0 : decode cX4_firstThatCannotBeUndone 0 = .ok (.iconst 0, 1) := by decide +kernel
theorem dX4_firstThatCannotBeUndone_1 : decode cX4_firstThatCannotBeUndone 1 = .ok (.istore_n 1, 1) := by decide +kernel
theorem dX4_firstThatCannotBeUndone_2 : decode cX4_firstThatCannotBeUndone 2 = .ok (.iload_n 1, 1) := by decide +kernel
theorem dX4_firstThatCannotBeUndone_3 : decode cX4_firstThatCannotBeUndone 3 = .ok (.aload_n 0, 1) := by decide +kernel
theorem dX4_firstThatCannotBeUndone_4 : decode cX4_firstThatCannotBeUndone 4 = .ok (.getfield 39, 3) := by decide +kernel
theorem dX4_firstThatCannotBeUndone_7 : decode cX4_firstThatCannotBeUndone 7 = .ok (.if_icmp .ge 35, 3) := by decide +kernel
theorem dX4_firstThatCannotBeUndone_42 : decode cX4_firstThatCannotBeUndone 42 = .ok (.iconst (-1), 1) := by decide +kernel
theorem dX4_firstThatCannotBeUndone_43 : decode cX4_firstThatCannotBeUndone 43 = .ok (.ireturn, 1) := by decide +kernel
theorem dX4_countExposuresEver_0 : decode cX4_countExposuresEver 0 = .ok (.iconst 0, 1) := by decide +kernel
theorem dX4_countExposuresEver_1 : decode cX4_countExposuresEver 1 = .ok (.istore_n 1, 1) := by decide +kernel
theorem dX4_countExposuresEver_2 : decode cX4_countExposuresEver 2 = .ok (.iconst 0, 1) := by decide +kernel
theorem dX4_countExposuresEver_3 : decode cX4_countExposuresEver 3 = .ok (.istore_n 2, 1) := by decide +kernel
theorem dX4_countExposuresEver_4 : decode cX4_countExposuresEver 4 = .ok (.iload_n 2, 1) := by decide +kernel
theorem dX4_countExposuresEver_5 : decode cX4_countExposuresEver 5 = .ok (.aload_n 0, 1) := by decide +kernel
theorem dX4_countExposuresEver_6 : decode cX4_countExposuresEver 6 = .ok (.getfield 39, 3) := by decide +kernel
theorem dX4_countExposuresEver_9 : decode cX4_countExposuresEver 9 = .ok (.if_icmp .ge 26, 3) := by decide +kernel
theorem dX4_countExposuresEver_35 : decode cX4_countExposuresEver 35 = .ok (.iload_n 1, 1) := by decide +kernel
theorem dX4_countExposuresEver_36 : decode cX4_countExposuresEver 36 = .ok (.ireturn, 1) := by decide +kernel
set_option maxRecDepth 20000 in
theorem ggX4_shineAll_X2_wipe : GoodIn wsX4_shineAll wsX2_wipe := goodIn_r _ [8, 9, 10, 11, 12, 13, 14, 124, 125] (by decide +kernel) (by decide +kernel)
set_option maxRecDepth 20000 in
theorem gX4_shineAll_X2_wipe : GoodIn wsX4_shineAll (wsV RX4 218 RX2 yX2_wipe wsX2_wipe) := goodIn_app (goodIn_of _ (by decide +kernel)) ggX4_shineAll_X2_wipe
theorem dX4_shineAll_0 : decode cX4_shineAll 0 = .ok (.aload_n 0, 1) := by decide +kernel
theorem dX4_shineAll_1 : decode cX4_shineAll 1 = .ok (.getfield 31, 3) := by decide +kernel
theorem dX4_shineAll_4 : decode cX4_shineAll 4 = .ok (.invokevirtual 218, 3) := by decide +kernel
theorem dX4_shineAll_7 : decode cX4_shineAll 7 = .ok (.iconst 0, 1) := by decide +kernel
theorem dX4_shineAll_8 : decode cX4_shineAll 8 = .ok (.istore_n 2, 1) := by decide +kernel
theorem dX4_shineAll_9 : decode cX4_shineAll 9 = .ok (.iload_n 2, 1) := by decide +kernel
theorem dX4_shineAll_10 : decode cX4_shineAll 10 = .ok (.aload_n 0, 1) := by decide +kernel
theorem dX4_shineAll_11 : decode cX4_shineAll 11 = .ok (.getfield 35, 3) := by decide +kernel
theorem dX4_shineAll_14 : decode cX4_shineAll 14 = .ok (.if_icmp .ge 36, 3) := by decide +kernel
theorem dX4_shineAll_50 : decode cX4_shineAll 50 = .ok (.return_, 1) := by decide +kernel
theorem dJ7_fill_d0a16_0 : decode cJ7_fill_d0a16 0 = .ok (.iconst 0, 1) := by decide +kernel
theorem dJ7_fill_d0a16_1 : decode cJ7_fill_d0a16 1 = .ok (.istore_n 3, 1) := by decide +kernel
theorem dJ7_fill_d0a16_2 : decode cJ7_fill_d0a16 2 = .ok (.aload_n 0, 1) := by decide +kernel
theorem dJ7_fill_d0a16_3 : decode cJ7_fill_d0a16 3 = .ok (.arraylength, 1) := by decide +kernel
theorem dJ7_fill_d0a16_4 : decode cJ7_fill_d0a16 4 = .ok (.istore 4, 2) := by decide +kernel
theorem dJ7_fill_d0a16_6 : decode cJ7_fill_d0a16 6 = .ok (.iload_n 3, 1) := by decide +kernel
theorem dJ7_fill_d0a16_7 : decode cJ7_fill_d0a16 7 = .ok (.iload 4, 2) := by decide +kernel
theorem dJ7_fill_d0a16_9 : decode cJ7_fill_d0a16 9 = .ok (.if_icmp .ge 13, 3) := by decide +kernel
theorem dJ7_fill_d0a16_12 : decode cJ7_fill_d0a16 12 = .ok (.aload_n 0, 1) := by decide +kernel
theorem dJ7_fill_d0a16_13 : decode cJ7_fill_d0a16 13 = .ok (.iload_n 3, 1) := by decide +kernel
theorem dJ7_fill_d0a16_14 : decode cJ7_fill_d0a16 14 = .ok (.lload_n 1, 1) := by decide +kernel
theorem dJ7_fill_d0a16_15 : decode cJ7_fill_d0a16 15 = .ok (.lastore, 1) := by decide +kernel
theorem dJ7_fill_d0a16_16 : decode cJ7_fill_d0a16 16 = .ok (.iinc 3 1, 3) := by decide +kernel
theorem dJ7_fill_d0a16_19 : decode cJ7_fill_d0a16 19 = .ok (.goto (-13), 3) := by decide +kernel
theorem dJ7_fill_d0a16_22 : decode cJ7_fill_d0a16 22 = .ok (.return_, 1) := by decide +kernel
