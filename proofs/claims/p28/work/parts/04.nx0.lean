theorem dX0_init_0 : decode cX0_init 0 = .ok (.aload_n 0, 1) := by decide +kernel
theorem dX0_init_1 : decode cX0_init 1 = .ok (.invokespecial 5, 3) := by decide +kernel
theorem dX0_init_4 : decode cX0_init 4 = .ok (.aload_n 0, 1) := by decide +kernel
theorem dX0_init_5 : decode cX0_init 5 = .ok (.bipush 64, 2) := by decide +kernel
theorem dX0_init_7 : decode cX0_init 7 = .ok (.newarray .long, 2) := by decide +kernel
theorem dX0_init_9 : decode cX0_init 9 = .ok (.putfield 11, 3) := by decide +kernel
theorem dX0_init_12 : decode cX0_init 12 = .ok (.aload_n 0, 1) := by decide +kernel
theorem dX0_init_13 : decode cX0_init 13 = .ok (.bipush 64, 2) := by decide +kernel
theorem dX0_init_15 : decode cX0_init 15 = .ok (.newarray .long, 2) := by decide +kernel
theorem dX0_init_17 : decode cX0_init 17 = .ok (.putfield 15, 3) := by decide +kernel
theorem dX0_init_20 : decode cX0_init 20 = .ok (.return_, 1) := by decide +kernel
set_option maxRecDepth 20000 in
theorem ggX0_start_J7_fill_d0a16 : GoodIn wsX0_start wsJ7_fill_d0a16 := goodIn_r _ [8] (by decide +kernel) (by decide +kernel)
set_option maxRecDepth 20000 in
theorem gX0_start_J7_fill_d0a16 : GoodIn wsX0_start (va_wsS RX0 18 yJ7_fill_d0a16 wsJ7_fill_d0a16) := goodIn_app (goodIn_of _ (by decide +kernel)) ggX0_start_J7_fill_d0a16
set_option maxRecDepth 20000 in
theorem ggX0_start_X0_startOfX : GoodIn wsX0_start wsX0_startOfX := goodIn_r _ [12] (by decide +kernel) (by decide +kernel)
set_option maxRecDepth 20000 in
theorem gX0_start_X0_startOfX : GoodIn wsX0_start (va_wsS RX0 33 yX0_startOfX wsX0_startOfX) := goodIn_app (goodIn_of _ (by decide +kernel)) ggX0_start_X0_startOfX
theorem dX0_start_0 : decode cX0_start 0 = .ok (.aload_n 0, 1) := by decide +kernel
theorem dX0_start_1 : decode cX0_start 1 = .ok (.getfield 11, 3) := by decide +kernel
theorem dX0_start_4 : decode cX0_start 4 = .ok (.lconst 0, 1) := by decide +kernel
theorem dX0_start_5 : decode cX0_start 5 = .ok (.invokestatic 18, 3) := by decide +kernel
theorem dX0_start_8 : decode cX0_start 8 = .ok (.aload_n 1, 1) := by decide +kernel
theorem dX0_start_9 : decode cX0_start 9 = .ok (.getfield 24, 3) := by decide +kernel
theorem dX0_start_12 : decode cX0_start 12 = .ok (.iconst 4, 1) := by decide +kernel
theorem dX0_start_13 : decode cX0_start 13 = .ok (.iand, 1) := by decide +kernel
theorem dX0_start_14 : decode cX0_start 14 = .ok (.ifCond .eq 7, 3) := by decide +kernel
theorem dX0_start_17 : decode cX0_start 17 = .ok (.iconst 1, 1) := by decide +kernel
theorem dX0_start_18 : decode cX0_start 18 = .ok (.goto 4, 3) := by decide +kernel
theorem dX0_start_21 : decode cX0_start 21 = .ok (.iconst 0, 1) := by decide +kernel
theorem dX0_start_22 : decode cX0_start 22 = .ok (.istore_n 2, 1) := by decide +kernel
theorem dX0_start_23 : decode cX0_start 23 = .ok (.aload_n 0, 1) := by decide +kernel
theorem dX0_start_24 : decode cX0_start 24 = .ok (.getfield 11, 3) := by decide +kernel
theorem dX0_start_27 : decode cX0_start 27 = .ok (.aload_n 1, 1) := by decide +kernel
theorem dX0_start_28 : decode cX0_start 28 = .ok (.getfield 30, 3) := by decide +kernel
theorem dX0_start_31 : decode cX0_start 31 = .ok (.invokestatic 33, 3) := by decide +kernel
theorem dX0_start_34 : decode cX0_start 34 = .ok (.aload_n 1, 1) := by decide +kernel
theorem dX0_start_35 : decode cX0_start 35 = .ok (.getfield 24, 3) := by decide +kernel
theorem dX0_start_38 : decode cX0_start 38 = .ok (.iconst 3, 1) := by decide +kernel
theorem dX0_start_39 : decode cX0_start 39 = .ok (.iand, 1) := by decide +kernel
theorem dX0_start_40 : decode cX0_start 40 = .ok (.iadd, 1) := by decide +kernel
theorem dX0_start_41 : decode cX0_start 41 = .ok (.iload_n 2, 1) := by decide +kernel
theorem dX0_start_42 : decode cX0_start 42 = .ok (.ifCond .eq 12, 3) := by decide +kernel
theorem dX0_start_45 : decode cX0_start 45 = .ok (.aload_n 1, 1) := by decide +kernel
theorem dX0_start_46 : decode cX0_start 46 = .ok (.getfield 37, 3) := by decide +kernel
theorem dX0_start_49 : decode cX0_start 49 = .ok (.ineg, 1) := by decide +kernel
theorem dX0_start_50 : decode cX0_start 50 = .ok (.i2l, 1) := by decide +kernel
theorem dX0_start_51 : decode cX0_start 51 = .ok (.goto 8, 3) := by decide +kernel
theorem dX0_start_54 : decode cX0_start 54 = .ok (.aload_n 1, 1) := by decide +kernel
theorem dX0_start_55 : decode cX0_start 55 = .ok (.getfield 37, 3) := by decide +kernel
theorem dX0_start_58 : decode cX0_start 58 = .ok (.i2l, 1) := by decide +kernel
theorem dX0_start_59 : decode cX0_start 59 = .ok (.lastore, 1) := by decide +kernel
theorem dX0_start_60 : decode cX0_start 60 = .ok (.return_, 1) := by decide +kernel
set_option maxRecDepth 20000 in
theorem ggX0_coefficient_X0_startOfX : GoodIn wsX0_coefficient wsX0_startOfX := goodIn_r _ [5] (by decide +kernel) (by decide +kernel)
set_option maxRecDepth 20000 in
theorem gX0_coefficient_X0_startOfX : GoodIn wsX0_coefficient (va_wsS RX0 33 yX0_startOfX wsX0_startOfX) := goodIn_app (goodIn_of _ (by decide +kernel)) ggX0_coefficient_X0_startOfX
theorem dX0_coefficient_0 : decode cX0_coefficient 0 = .ok (.aload_n 0, 1) := by decide +kernel
theorem dX0_coefficient_1 : decode cX0_coefficient 1 = .ok (.getfield 11, 3) := by decide +kernel
theorem dX0_coefficient_4 : decode cX0_coefficient 4 = .ok (.iload_n 1, 1) := by decide +kernel
theorem dX0_coefficient_5 : decode cX0_coefficient 5 = .ok (.invokestatic 33, 3) := by decide +kernel
theorem dX0_coefficient_8 : decode cX0_coefficient 8 = .ok (.iload_n 2, 1) := by decide +kernel
theorem dX0_coefficient_9 : decode cX0_coefficient 9 = .ok (.bipush 7, 2) := by decide +kernel
theorem dX0_coefficient_11 : decode cX0_coefficient 11 = .ok (.iand, 1) := by decide +kernel
theorem dX0_coefficient_12 : decode cX0_coefficient 12 = .ok (.iadd, 1) := by decide +kernel
theorem dX0_coefficient_13 : decode cX0_coefficient 13 = .ok (.laload, 1) := by decide +kernel
theorem dX0_coefficient_14 : decode cX0_coefficient 14 = .ok (.lreturn, 1) := by decide +kernel
set_option maxRecDepth 20000 in
theorem ggX0_wholeAt_X0_coefficient : GoodIn wsX0_wholeAt wsX0_coefficient := goodIn_r _ [5, 6, 7, 8, 4, 9, 10, 11] (by decide +kernel) (by decide +kernel)
set_option maxRecDepth 20000 in
theorem gX0_wholeAt_X0_coefficient : GoodIn wsX0_wholeAt (wsV RX0 40 RX0 yX0_coefficient wsX0_coefficient) := goodIn_app (goodIn_of _ (by decide +kernel)) ggX0_wholeAt_X0_coefficient
theorem dX0_wholeAt_0 : decode cX0_wholeAt 0 = .ok (.lconst 0, 1) := by decide +kernel
theorem dX0_wholeAt_1 : decode cX0_wholeAt 1 = .ok (.lstore_n 2, 1) := by decide +kernel
theorem dX0_wholeAt_2 : decode cX0_wholeAt 2 = .ok (.iconst 0, 1) := by decide +kernel
theorem dX0_wholeAt_3 : decode cX0_wholeAt 3 = .ok (.istore 4, 2) := by decide +kernel
theorem dX0_wholeAt_5 : decode cX0_wholeAt 5 = .ok (.iload 4, 2) := by decide +kernel
theorem dX0_wholeAt_7 : decode cX0_wholeAt 7 = .ok (.bipush 8, 2) := by decide +kernel
theorem dX0_wholeAt_9 : decode cX0_wholeAt 9 = .ok (.if_icmp .ge 26, 3) := by decide +kernel
theorem dX0_wholeAt_12 : decode cX0_wholeAt 12 = .ok (.aload_n 0, 1) := by decide +kernel
theorem dX0_wholeAt_13 : decode cX0_wholeAt 13 = .ok (.iload_n 1, 1) := by decide +kernel
theorem dX0_wholeAt_14 : decode cX0_wholeAt 14 = .ok (.iload 4, 2) := by decide +kernel
theorem dX0_wholeAt_16 : decode cX0_wholeAt 16 = .ok (.invokevirtual 40, 3) := by decide +kernel
theorem dX0_wholeAt_19 : decode cX0_wholeAt 19 = .ok (.lstore 5, 2) := by decide +kernel
theorem dX0_wholeAt_21 : decode cX0_wholeAt 21 = .ok (.lload_n 2, 1) := by decide +kernel
theorem dX0_wholeAt_22 : decode cX0_wholeAt 22 = .ok (.lload 5, 2) := by decide +kernel
theorem dX0_wholeAt_24 : decode cX0_wholeAt 24 = .ok (.lload 5, 2) := by decide +kernel
theorem dX0_wholeAt_26 : decode cX0_wholeAt 26 = .ok (.lmul, 1) := by decide +kernel
theorem dX0_wholeAt_27 : decode cX0_wholeAt 27 = .ok (.ladd, 1) := by decide +kernel
theorem dX0_wholeAt_28 : decode cX0_wholeAt 28 = .ok (.lstore_n 2, 1) := by decide +kernel
theorem dX0_wholeAt_29 : decode cX0_wholeAt 29 = .ok (.iinc 4 1, 3) := by decide +kernel
theorem dX0_wholeAt_32 : decode cX0_wholeAt 32 = .ok (.goto (-27), 3) := by decide +kernel
theorem dX0_wholeAt_35 : decode cX0_wholeAt 35 = .ok (.lload_n 2, 1) := by decide +kernel
theorem dX0_wholeAt_36 : decode cX0_wholeAt 36 = .ok (.lreturn, 1) := by decide +kernel
set_option maxRecDepth 20000 in
theorem ggX0_rootAt_X0_startOfX : GoodIn wsX0_rootAt wsX0_startOfX := goodIn_r _ [4] (by decide +kernel) (by decide +kernel)
set_option maxRecDepth 20000 in
theorem gX0_rootAt_X0_startOfX : GoodIn wsX0_rootAt (va_wsS RX0 33 yX0_startOfX wsX0_startOfX) := goodIn_app (goodIn_of _ (by decide +kernel)) ggX0_rootAt_X0_startOfX
set_option maxRecDepth 20000 in
theorem ggX0_rootAt_X0_rootFrom : GoodIn wsX0_rootAt wsX0_rootFrom := goodIn_r _ [8, 9, 13, 14] (by decide +kernel) (by decide +kernel)
set_option maxRecDepth 20000 in
theorem gX0_rootAt_X0_rootFrom : GoodIn wsX0_rootAt (wsV RX0 44 RX0 yX0_rootFrom wsX0_rootFrom) := goodIn_app (goodIn_of _ (by decide +kernel)) ggX0_rootAt_X0_rootFrom
set_option maxRecDepth 20000 in
theorem ggX0_rootAt_X0_startOfY : GoodIn wsX0_rootAt wsX0_startOfY := goodIn_r _ [12] (by decide +kernel) (by decide +kernel)
set_option maxRecDepth 20000 in
theorem gX0_rootAt_X0_startOfY : GoodIn wsX0_rootAt (va_wsS RX0 48 yX0_startOfY wsX0_startOfY) := goodIn_app (goodIn_of _ (by decide +kernel)) ggX0_rootAt_X0_startOfY
theorem dX0_rootAt_0 : decode cX0_rootAt 0 = .ok (.aload_n 0, 1) := by decide +kernel
theorem dX0_rootAt_1 : decode cX0_rootAt 1 = .ok (.iload_n 1, 1) := by decide +kernel
theorem dX0_rootAt_2 : decode cX0_rootAt 2 = .ok (.invokestatic 33, 3) := by decide +kernel
theorem dX0_rootAt_5 : decode cX0_rootAt 5 = .ok (.invokevirtual 44, 3) := by decide +kernel
theorem dX0_rootAt_8 : decode cX0_rootAt 8 = .ok (.aload_n 0, 1) := by decide +kernel
theorem dX0_rootAt_9 : decode cX0_rootAt 9 = .ok (.iload_n 1, 1) := by decide +kernel
theorem dX0_rootAt_10 : decode cX0_rootAt 10 = .ok (.invokestatic 48, 3) := by decide +kernel
theorem dX0_rootAt_13 : decode cX0_rootAt 13 = .ok (.invokevirtual 44, 3) := by decide +kernel
theorem dX0_rootAt_16 : decode cX0_rootAt 16 = .ok (.ladd, 1) := by decide +kernel
theorem dX0_rootAt_17 : decode cX0_rootAt 17 = .ok (.lreturn, 1) := by decide +kernel
theorem dX0_rootFrom_0 : decode cX0_rootFrom 0 = .ok (.aload_n 0, 1) := by decide +kernel
theorem dX0_rootFrom_1 : decode cX0_rootFrom 1 = .ok (.getfield 11, 3) := by decide +kernel
theorem dX0_rootFrom_4 : decode cX0_rootFrom 4 = .ok (.iload_n 1, 1) := by decide +kernel
theorem dX0_rootFrom_5 : decode cX0_rootFrom 5 = .ok (.laload, 1) := by decide +kernel
theorem dX0_rootFrom_6 : decode cX0_rootFrom 6 = .ok (.lstore_n 2, 1) := by decide +kernel
theorem dX0_rootFrom_7 : decode cX0_rootFrom 7 = .ok (.aload_n 0, 1) := by decide +kernel
theorem dX0_rootFrom_8 : decode cX0_rootFrom 8 = .ok (.getfield 11, 3) := by decide +kernel
theorem dX0_rootFrom_11 : decode cX0_rootFrom 11 = .ok (.iload_n 1, 1) := by decide +kernel
theorem dX0_rootFrom_12 : decode cX0_rootFrom 12 = .ok (.iconst 1, 1) := by decide +kernel
theorem dX0_rootFrom_13 : decode cX0_rootFrom 13 = .ok (.iadd, 1) := by decide +kernel
theorem dX0_rootFrom_14 : decode cX0_rootFrom 14 = .ok (.laload, 1) := by decide +kernel
theorem dX0_rootFrom_15 : decode cX0_rootFrom 15 = .ok (.lstore 4, 2) := by decide +kernel
theorem dX0_rootFrom_17 : decode cX0_rootFrom 17 = .ok (.aload_n 0, 1) := by decide +kernel
theorem dX0_rootFrom_18 : decode cX0_rootFrom 18 = .ok (.getfield 11, 3) := by decide +kernel
theorem dX0_rootFrom_21 : decode cX0_rootFrom 21 = .ok (.iload_n 1, 1) := by decide +kernel
theorem dX0_rootFrom_22 : decode cX0_rootFrom 22 = .ok (.iconst 2, 1) := by decide +kernel
theorem dX0_rootFrom_23 : decode cX0_rootFrom 23 = .ok (.iadd, 1) := by decide +kernel
theorem dX0_rootFrom_24 : decode cX0_rootFrom 24 = .ok (.laload, 1) := by decide +kernel
theorem dX0_rootFrom_25 : decode cX0_rootFrom 25 = .ok (.lstore 6, 2) := by decide +kernel
theorem dX0_rootFrom_27 : decode cX0_rootFrom 27 = .ok (.aload_n 0, 1) := by decide +kernel
theorem dX0_rootFrom_28 : decode cX0_rootFrom 28 = .ok (.getfield 11, 3) := by decide +kernel
theorem dX0_rootFrom_31 : decode cX0_rootFrom 31 = .ok (.iload_n 1, 1) := by decide +kernel
theorem dX0_rootFrom_32 : decode cX0_rootFrom 32 = .ok (.iconst 3, 1) := by decide +kernel
theorem dX0_rootFrom_33 : decode cX0_rootFrom 33 = .ok (.iadd, 1) := by decide +kernel
theorem dX0_rootFrom_34 : decode cX0_rootFrom 34 = .ok (.laload, 1) := by decide +kernel
theorem dX0_rootFrom_35 : decode cX0_rootFrom 35 = .ok (.lstore 8, 2) := by decide +kernel
theorem dX0_rootFrom_37 : decode cX0_rootFrom 37 = .ok (.lload_n 2, 1) := by decide +kernel
theorem dX0_rootFrom_38 : decode cX0_rootFrom 38 = .ok (.lload 4, 2) := by decide +kernel
theorem dX0_rootFrom_40 : decode cX0_rootFrom 40 = .ok (.lmul, 1) := by decide +kernel
theorem dX0_rootFrom_41 : decode cX0_rootFrom 41 = .ok (.lload 4, 2) := by decide +kernel
theorem dX0_rootFrom_43 : decode cX0_rootFrom 43 = .ok (.lload 6, 2) := by decide +kernel
theorem dX0_rootFrom_45 : decode cX0_rootFrom 45 = .ok (.lmul, 1) := by decide +kernel
theorem dX0_rootFrom_46 : decode cX0_rootFrom 46 = .ok (.ladd, 1) := by decide +kernel
theorem dX0_rootFrom_47 : decode cX0_rootFrom 47 = .ok (.lload 6, 2) := by decide +kernel
theorem dX0_rootFrom_49 : decode cX0_rootFrom 49 = .ok (.lload 8, 2) := by decide +kernel
theorem dX0_rootFrom_51 : decode cX0_rootFrom 51 = .ok (.lmul, 1) := by decide +kernel
theorem dX0_rootFrom_52 : decode cX0_rootFrom 52 = .ok (.ladd, 1) := by decide +kernel
theorem dX0_rootFrom_53 : decode cX0_rootFrom 53 = .ok (.lload 8, 2) := by decide +kernel
theorem dX0_rootFrom_55 : decode cX0_rootFrom 55 = .ok (.lload_n 2, 1) := by decide +kernel
theorem dX0_rootFrom_56 : decode cX0_rootFrom 56 = .ok (.lmul, 1) := by decide +kernel
theorem dX0_rootFrom_57 : decode cX0_rootFrom 57 = .ok (.lsub, 1) := by decide +kernel
theorem dX0_rootFrom_58 : decode cX0_rootFrom 58 = .ok (.lreturn, 1) := by decide +kernel
set_option maxRecDepth 20000 in
theorem ggX0_carry_X0_startOfX : GoodIn wsX0_carry wsX0_startOfX := goodIn_r _ [4] (by decide +kernel) (by decide +kernel)
set_option maxRecDepth 20000 in
theorem gX0_carry_X0_startOfX : GoodIn wsX0_carry (va_wsS RX0 33 yX0_startOfX wsX0_startOfX) := goodIn_app (goodIn_of _ (by decide +kernel)) ggX0_carry_X0_startOfX
set_option maxRecDepth 20000 in
theorem ggX0_carry_X0_add : GoodIn wsX0_carry wsX0_add := goodIn_r _ [8, 9, 10, 14, 15] (by decide +kernel) (by decide +kernel)
set_option maxRecDepth 20000 in
theorem gX0_carry_X0_add : GoodIn wsX0_carry (wsV RX0 51 RX0 yX0_add wsX0_add) := goodIn_app (goodIn_of _ (by decide +kernel)) ggX0_carry_X0_add
set_option maxRecDepth 20000 in
theorem ggX0_carry_X0_startOfY : GoodIn wsX0_carry wsX0_startOfY := goodIn_r _ [13] (by decide +kernel) (by decide +kernel)
set_option maxRecDepth 20000 in
theorem gX0_carry_X0_startOfY : GoodIn wsX0_carry (va_wsS RX0 48 yX0_startOfY wsX0_startOfY) := goodIn_app (goodIn_of _ (by decide +kernel)) ggX0_carry_X0_startOfY
theorem dX0_carry_0 : decode cX0_carry 0 = .ok (.aload_n 0, 1) := by decide +kernel
theorem dX0_carry_1 : decode cX0_carry 1 = .ok (.iload_n 1, 1) := by decide +kernel
theorem dX0_carry_2 : decode cX0_carry 2 = .ok (.invokestatic 33, 3) := by decide +kernel
theorem dX0_carry_5 : decode cX0_carry 5 = .ok (.iload_n 2, 1) := by decide +kernel
theorem dX0_carry_6 : decode cX0_carry 6 = .ok (.invokestatic 33, 3) := by decide +kernel
theorem dX0_carry_9 : decode cX0_carry 9 = .ok (.iload_n 3, 1) := by decide +kernel
theorem dX0_carry_10 : decode cX0_carry 10 = .ok (.iload 4, 2) := by decide +kernel
theorem dX0_carry_12 : decode cX0_carry 12 = .ok (.invokevirtual 51, 3) := by decide +kernel
theorem dX0_carry_15 : decode cX0_carry 15 = .ok (.aload_n 0, 1) := by decide +kernel
theorem dX0_carry_16 : decode cX0_carry 16 = .ok (.iload_n 1, 1) := by decide +kernel
theorem dX0_carry_17 : decode cX0_carry 17 = .ok (.invokestatic 48, 3) := by decide +kernel
theorem dX0_carry_20 : decode cX0_carry 20 = .ok (.iload_n 2, 1) := by decide +kernel
theorem dX0_carry_21 : decode cX0_carry 21 = .ok (.invokestatic 48, 3) := by decide +kernel
theorem dX0_carry_24 : decode cX0_carry 24 = .ok (.iload_n 3, 1) := by decide +kernel
theorem dX0_carry_25 : decode cX0_carry 25 = .ok (.iload 4, 2) := by decide +kernel
theorem dX0_carry_27 : decode cX0_carry 27 = .ok (.invokevirtual 51, 3) := by decide +kernel
theorem dX0_carry_30 : decode cX0_carry 30 = .ok (.return_, 1) := by decide +kernel
set_option maxRecDepth 20000 in
theorem ggX0_gather_X0_startOfX : GoodIn wsX0_gather wsX0_startOfX := goodIn_r _ [4] (by decide +kernel) (by decide +kernel)
set_option maxRecDepth 20000 in
theorem gX0_gather_X0_startOfX : GoodIn wsX0_gather (va_wsS RX0 33 yX0_startOfX wsX0_startOfX) := goodIn_app (goodIn_of _ (by decide +kernel)) ggX0_gather_X0_startOfX
set_option maxRecDepth 20000 in
theorem ggX0_gather_X0_add : GoodIn wsX0_gather wsX0_add := goodIn_r _ [8, 9, 10, 14, 15] (by decide +kernel) (by decide +kernel)
set_option maxRecDepth 20000 in
theorem gX0_gather_X0_add : GoodIn wsX0_gather (wsV RX0 51 RX0 yX0_add wsX0_add) := goodIn_app (goodIn_of _ (by decide +kernel)) ggX0_gather_X0_add
set_option maxRecDepth 20000 in
theorem ggX0_gather_X0_startOfY : GoodIn wsX0_gather wsX0_startOfY := goodIn_r _ [13] (by decide +kernel) (by decide +kernel)
set_option maxRecDepth 20000 in
theorem gX0_gather_X0_startOfY : GoodIn wsX0_gather (va_wsS RX0 48 yX0_startOfY wsX0_startOfY) := goodIn_app (goodIn_of _ (by decide +kernel)) ggX0_gather_X0_startOfY
theorem dX0_gather_0 : decode cX0_gather 0 = .ok (.iconst 0, 1) := by decide +kernel
theorem dX0_gather_1 : decode cX0_gather 1 = .ok (.istore_n 3, 1) := by decide +kernel
theorem dX0_gather_2 : decode cX0_gather 2 = .ok (.iload_n 3, 1) := by decide +kernel
theorem dX0_gather_3 : decode cX0_gather 3 = .ok (.bipush 8, 2) := by decide +kernel
theorem dX0_gather_5 : decode cX0_gather 5 = .ok (.if_icmp .ge 45, 3) := by decide +kernel
theorem dX0_gather_8 : decode cX0_gather 8 = .ok (.aload_n 0, 1) := by decide +kernel
theorem dX0_gather_9 : decode cX0_gather 9 = .ok (.iload_n 3, 1) := by decide +kernel
theorem dX0_gather_10 : decode cX0_gather 10 = .ok (.invokestatic 33, 3) := by decide +kernel
theorem dX0_gather_13 : decode cX0_gather 13 = .ok (.iload_n 1, 1) := by decide +kernel
theorem dX0_gather_14 : decode cX0_gather 14 = .ok (.invokestatic 33, 3) := by decide +kernel
theorem dX0_gather_17 : decode cX0_gather 17 = .ok (.iload_n 2, 1) := by decide +kernel
theorem dX0_gather_18 : decode cX0_gather 18 = .ok (.iload_n 3, 1) := by decide +kernel
theorem dX0_gather_19 : decode cX0_gather 19 = .ok (.imul, 1) := by decide +kernel
theorem dX0_gather_20 : decode cX0_gather 20 = .ok (.iload_n 1, 1) := by decide +kernel
theorem dX0_gather_21 : decode cX0_gather 21 = .ok (.imul, 1) := by decide +kernel
theorem dX0_gather_22 : decode cX0_gather 22 = .ok (.iconst 1, 1) := by decide +kernel
theorem dX0_gather_23 : decode cX0_gather 23 = .ok (.invokevirtual 51, 3) := by decide +kernel
theorem dX0_gather_26 : decode cX0_gather 26 = .ok (.aload_n 0, 1) := by decide +kernel
theorem dX0_gather_27 : decode cX0_gather 27 = .ok (.iload_n 3, 1) := by decide +kernel
theorem dX0_gather_28 : decode cX0_gather 28 = .ok (.invokestatic 48, 3) := by decide +kernel
theorem dX0_gather_31 : decode cX0_gather 31 = .ok (.iload_n 1, 1) := by decide +kernel
theorem dX0_gather_32 : decode cX0_gather 32 = .ok (.invokestatic 48, 3) := by decide +kernel
theorem dX0_gather_35 : decode cX0_gather 35 = .ok (.iload_n 2, 1) := by decide +kernel
theorem dX0_gather_36 : decode cX0_gather 36 = .ok (.iload_n 3, 1) := by decide +kernel
theorem dX0_gather_37 : decode cX0_gather 37 = .ok (.imul, 1) := by decide +kernel
theorem dX0_gather_38 : decode cX0_gather 38 = .ok (.iload_n 1, 1) := by decide +kernel
theorem dX0_gather_39 : decode cX0_gather 39 = .ok (.imul, 1) := by decide +kernel
theorem dX0_gather_40 : decode cX0_gather 40 = .ok (.iconst 1, 1) := by decide +kernel
theorem dX0_gather_41 : decode cX0_gather 41 = .ok (.invokevirtual 51, 3) := by decide +kernel
theorem dX0_gather_44 : decode cX0_gather 44 = .ok (.iinc 3 1, 3) := by decide +kernel
theorem dX0_gather_47 : decode cX0_gather 47 = .ok (.goto (-45), 3) := by decide +kernel
theorem dX0_gather_50 : decode cX0_gather 50 = .ok (.return_, 1) := by decide +kernel
set_option maxRecDepth 20000 in
theorem ggX0_retard_X0_startOfX : GoodIn wsX0_retard wsX0_startOfX := goodIn_r _ [4] (by decide +kernel) (by decide +kernel)
set_option maxRecDepth 20000 in
theorem gX0_retard_X0_startOfX : GoodIn wsX0_retard (va_wsS RX0 33 yX0_startOfX wsX0_startOfX) := goodIn_app (goodIn_of _ (by decide +kernel)) ggX0_retard_X0_startOfX
set_option maxRecDepth 20000 in
theorem ggX0_retard_X0_add : GoodIn wsX0_retard wsX0_add := goodIn_r _ [8, 9, 10, 14, 15] (by decide +kernel) (by decide +kernel)
set_option maxRecDepth 20000 in
theorem gX0_retard_X0_add : GoodIn wsX0_retard (wsV RX0 51 RX0 yX0_add wsX0_add) := goodIn_app (goodIn_of _ (by decide +kernel)) ggX0_retard_X0_add
set_option maxRecDepth 20000 in
theorem ggX0_retard_X0_startOfY : GoodIn wsX0_retard wsX0_startOfY := goodIn_r _ [13] (by decide +kernel) (by decide +kernel)
set_option maxRecDepth 20000 in
theorem gX0_retard_X0_startOfY : GoodIn wsX0_retard (va_wsS RX0 48 yX0_startOfY wsX0_startOfY) := goodIn_app (goodIn_of _ (by decide +kernel)) ggX0_retard_X0_startOfY
theorem dX0_retard_0 : decode cX0_retard 0 = .ok (.aload_n 0, 1) := by decide +kernel
theorem dX0_retard_1 : decode cX0_retard 1 = .ok (.iload_n 1, 1) := by decide +kernel
theorem dX0_retard_2 : decode cX0_retard 2 = .ok (.invokestatic 33, 3) := by decide +kernel
theorem dX0_retard_5 : decode cX0_retard 5 = .ok (.iload_n 1, 1) := by decide +kernel
theorem dX0_retard_6 : decode cX0_retard 6 = .ok (.invokestatic 33, 3) := by decide +kernel
theorem dX0_retard_9 : decode cX0_retard 9 = .ok (.iconst 0, 1) := by decide +kernel
theorem dX0_retard_10 : decode cX0_retard 10 = .ok (.iconst 1, 1) := by decide +kernel
theorem dX0_retard_11 : decode cX0_retard 11 = .ok (.invokevirtual 51, 3) := by decide +kernel
theorem dX0_retard_14 : decode cX0_retard 14 = .ok (.aload_n 0, 1) := by decide +kernel
theorem dX0_retard_15 : decode cX0_retard 15 = .ok (.iload_n 1, 1) := by decide +kernel
theorem dX0_retard_16 : decode cX0_retard 16 = .ok (.invokestatic 48, 3) := by decide +kernel
theorem dX0_retard_19 : decode cX0_retard 19 = .ok (.iload_n 1, 1) := by decide +kernel
theorem dX0_retard_20 : decode cX0_retard 20 = .ok (.invokestatic 48, 3) := by decide +kernel
theorem dX0_retard_23 : decode cX0_retard 23 = .ok (.iload_n 2, 1) := by decide +kernel
theorem dX0_retard_24 : decode cX0_retard 24 = .ok (.iconst 1, 1) := by decide +kernel
theorem dX0_retard_25 : decode cX0_retard 25 = .ok (.invokevirtual 51, 3) := by decide +kernel
theorem dX0_retard_28 : decode cX0_retard 28 = .ok (.return_, 1) := by decide +kernel
set_option maxRecDepth 20000 in
theorem ggX0_exchange_X0_startOfX : GoodIn wsX0_exchange wsX0_startOfX := goodIn_r _ [4] (by decide +kernel) (by decide +kernel)
set_option maxRecDepth 20000 in
theorem gX0_exchange_X0_startOfX : GoodIn wsX0_exchange (va_wsS RX0 33 yX0_startOfX wsX0_startOfX) := goodIn_app (goodIn_of _ (by decide +kernel)) ggX0_exchange_X0_startOfX
set_option maxRecDepth 20000 in
theorem ggX0_exchange_X0_startOfY : GoodIn wsX0_exchange wsX0_startOfY := goodIn_r _ [7] (by decide +kernel) (by decide +kernel)
set_option maxRecDepth 20000 in
theorem gX0_exchange_X0_startOfY : GoodIn wsX0_exchange (va_wsS RX0 48 yX0_startOfY wsX0_startOfY) := goodIn_app (goodIn_of _ (by decide +kernel)) ggX0_exchange_X0_startOfY
set_option maxRecDepth 20000 in
theorem ggX0_exchange_X0_add : GoodIn wsX0_exchange wsX0_add := goodIn_r _ [11, 12, 13, 14, 15] (by decide +kernel) (by decide +kernel)
set_option maxRecDepth 20000 in
theorem gX0_exchange_X0_add : GoodIn wsX0_exchange (wsV RX0 51 RX0 yX0_add wsX0_add) := goodIn_app (goodIn_of _ (by decide +kernel)) ggX0_exchange_X0_add
theorem dX0_exchange_0 : decode cX0_exchange 0 = .ok (.aload_n 0, 1) := by decide +kernel
theorem dX0_exchange_1 : decode cX0_exchange 1 = .ok (.iload_n 1, 1) := by decide +kernel
theorem dX0_exchange_2 : decode cX0_exchange 2 = .ok (.invokestatic 33, 3) := by decide +kernel
theorem dX0_exchange_5 : decode cX0_exchange 5 = .ok (.iload_n 1, 1) := by decide +kernel
theorem dX0_exchange_6 : decode cX0_exchange 6 = .ok (.invokestatic 48, 3) := by decide +kernel
theorem dX0_exchange_9 : decode cX0_exchange 9 = .ok (.iconst 0, 1) := by decide +kernel
theorem dX0_exchange_10 : decode cX0_exchange 10 = .ok (.iconst 1, 1) := by decide +kernel
theorem dX0_exchange_11 : decode cX0_exchange 11 = .ok (.invokevirtual 51, 3) := by decide +kernel
theorem dX0_exchange_14 : decode cX0_exchange 14 = .ok (.aload_n 0, 1) := by decide +kernel
theorem dX0_exchange_15 : decode cX0_exchange 15 = .ok (.iload_n 1, 1) := by decide +kernel
theorem dX0_exchange_16 : decode cX0_exchange 16 = .ok (.invokestatic 48, 3) := by decide +kernel
theorem dX0_exchange_19 : decode cX0_exchange 19 = .ok (.iload_n 1, 1) := by decide +kernel
theorem dX0_exchange_20 : decode cX0_exchange 20 = .ok (.invokestatic 33, 3) := by decide +kernel
theorem dX0_exchange_23 : decode cX0_exchange 23 = .ok (.iconst 0, 1) := by decide +kernel
theorem dX0_exchange_24 : decode cX0_exchange 24 = .ok (.iconst 1, 1) := by decide +kernel
theorem dX0_exchange_25 : decode cX0_exchange 25 = .ok (.invokevirtual 51, 3) := by decide +kernel
theorem dX0_exchange_28 : decode cX0_exchange 28 = .ok (.return_, 1) := by decide +kernel
set_option maxRecDepth 20000 in
theorem ggX0_polarise_X0_startOfX : GoodIn wsX0_polarise wsX0_startOfX := goodIn_r _ [4] (by decide +kernel) (by decide +kernel)
set_option maxRecDepth 20000 in
theorem gX0_polarise_X0_startOfX : GoodIn wsX0_polarise (va_wsS RX0 33 yX0_startOfX wsX0_startOfX) := goodIn_app (goodIn_of _ (by decide +kernel)) ggX0_polarise_X0_startOfX
set_option maxRecDepth 20000 in
theorem ggX0_polarise_X0_startOfY : GoodIn wsX0_polarise wsX0_startOfY := goodIn_r _ [7] (by decide +kernel) (by decide +kernel)
set_option maxRecDepth 20000 in
theorem gX0_polarise_X0_startOfY : GoodIn wsX0_polarise (va_wsS RX0 48 yX0_startOfY wsX0_startOfY) := goodIn_app (goodIn_of _ (by decide +kernel)) ggX0_polarise_X0_startOfY
set_option maxRecDepth 20000 in
theorem ggX0_polarise_X0_add : GoodIn wsX0_polarise wsX0_add := goodIn_r _ [11, 12, 13, 14, 15] (by decide +kernel) (by decide +kernel)
set_option maxRecDepth 20000 in
theorem gX0_polarise_X0_add : GoodIn wsX0_polarise (wsV RX0 51 RX0 yX0_add wsX0_add) := goodIn_app (goodIn_of _ (by decide +kernel)) ggX0_polarise_X0_add
theorem dX0_polarise_0 : decode cX0_polarise 0 = .ok (.iload_n 1, 1) := by decide +kernel
theorem dX0_polarise_1 : decode cX0_polarise 1 = .ok (.invokestatic 33, 3) := by decide +kernel
theorem dX0_polarise_4 : decode cX0_polarise 4 = .ok (.istore_n 3, 1) := by decide +kernel
theorem dX0_polarise_5 : decode cX0_polarise 5 = .ok (.iload_n 1, 1) := by decide +kernel
theorem dX0_polarise_6 : decode cX0_polarise 6 = .ok (.invokestatic 48, 3) := by decide +kernel
theorem dX0_polarise_9 : decode cX0_polarise 9 = .ok (.istore 4, 2) := by decide +kernel
theorem dX0_polarise_11 : decode cX0_polarise 11 = .ok (.iload_n 2, 1) := by decide +kernel
theorem dX0_polarise_12 : decode cX0_polarise 12 = .ok (.ifCond .ne 14, 3) := by decide +kernel
theorem dX0_polarise_15 : decode cX0_polarise 15 = .ok (.aload_n 0, 1) := by decide +kernel
theorem dX0_polarise_16 : decode cX0_polarise 16 = .ok (.iload_n 3, 1) := by decide +kernel
theorem dX0_polarise_17 : decode cX0_polarise 17 = .ok (.iload_n 3, 1) := by decide +kernel
theorem dX0_polarise_18 : decode cX0_polarise 18 = .ok (.iconst 0, 1) := by decide +kernel
theorem dX0_polarise_19 : decode cX0_polarise 19 = .ok (.iconst 1, 1) := by decide +kernel
theorem dX0_polarise_20 : decode cX0_polarise 20 = .ok (.invokevirtual 51, 3) := by decide +kernel
theorem dX0_polarise_23 : decode cX0_polarise 23 = .ok (.goto 71, 3) := by decide +kernel
theorem dX0_polarise_26 : decode cX0_polarise 26 = .ok (.iload_n 2, 1) := by decide +kernel
theorem dX0_polarise_27 : decode cX0_polarise 27 = .ok (.iconst 1, 1) := by decide +kernel
theorem dX0_polarise_28 : decode cX0_polarise 28 = .ok (.if_icmp .ne 16, 3) := by decide +kernel
theorem dX0_polarise_31 : decode cX0_polarise 31 = .ok (.aload_n 0, 1) := by decide +kernel
theorem dX0_polarise_32 : decode cX0_polarise 32 = .ok (.iload 4, 2) := by decide +kernel
theorem dX0_polarise_34 : decode cX0_polarise 34 = .ok (.iload 4, 2) := by decide +kernel
theorem dX0_polarise_36 : decode cX0_polarise 36 = .ok (.iconst 0, 1) := by decide +kernel
theorem dX0_polarise_37 : decode cX0_polarise 37 = .ok (.iconst 1, 1) := by decide +kernel
theorem dX0_polarise_38 : decode cX0_polarise 38 = .ok (.invokevirtual 51, 3) := by decide +kernel
theorem dX0_polarise_41 : decode cX0_polarise 41 = .ok (.goto 53, 3) := by decide +kernel
theorem dX0_polarise_44 : decode cX0_polarise 44 = .ok (.iload_n 2, 1) := by decide +kernel
theorem dX0_polarise_45 : decode cX0_polarise 45 = .ok (.iconst 2, 1) := by decide +kernel
theorem dX0_polarise_46 : decode cX0_polarise 46 = .ok (.if_icmp .ne 7, 3) := by decide +kernel
theorem dX0_polarise_49 : decode cX0_polarise 49 = .ok (.iconst 1, 1) := by decide +kernel
theorem dX0_polarise_50 : decode cX0_polarise 50 = .ok (.goto 4, 3) := by decide +kernel
theorem dX0_polarise_53 : decode cX0_polarise 53 = .ok (.iconst (-1), 1) := by decide +kernel
theorem dX0_polarise_54 : decode cX0_polarise 54 = .ok (.istore 5, 2) := by decide +kernel
theorem dX0_polarise_56 : decode cX0_polarise 56 = .ok (.aload_n 0, 1) := by decide +kernel
theorem dX0_polarise_57 : decode cX0_polarise 57 = .ok (.iload_n 3, 1) := by decide +kernel
theorem dX0_polarise_58 : decode cX0_polarise 58 = .ok (.iload_n 3, 1) := by decide +kernel
theorem dX0_polarise_59 : decode cX0_polarise 59 = .ok (.iconst 0, 1) := by decide +kernel
theorem dX0_polarise_60 : decode cX0_polarise 60 = .ok (.iconst 1, 1) := by decide +kernel
theorem dX0_polarise_61 : decode cX0_polarise 61 = .ok (.invokevirtual 51, 3) := by decide +kernel
theorem dX0_polarise_64 : decode cX0_polarise 64 = .ok (.aload_n 0, 1) := by decide +kernel
theorem dX0_polarise_65 : decode cX0_polarise 65 = .ok (.iload 4, 2) := by decide +kernel
theorem dX0_polarise_67 : decode cX0_polarise 67 = .ok (.iload_n 3, 1) := by decide +kernel
theorem dX0_polarise_68 : decode cX0_polarise 68 = .ok (.iconst 0, 1) := by decide +kernel
theorem dX0_polarise_69 : decode cX0_polarise 69 = .ok (.iload 5, 2) := by decide +kernel
theorem dX0_polarise_71 : decode cX0_polarise 71 = .ok (.invokevirtual 51, 3) := by decide +kernel
theorem dX0_polarise_74 : decode cX0_polarise 74 = .ok (.aload_n 0, 1) := by decide +kernel
theorem dX0_polarise_75 : decode cX0_polarise 75 = .ok (.iload 4, 2) := by decide +kernel
theorem dX0_polarise_77 : decode cX0_polarise 77 = .ok (.iload 4, 2) := by decide +kernel
theorem dX0_polarise_79 : decode cX0_polarise 79 = .ok (.iconst 0, 1) := by decide +kernel
theorem dX0_polarise_80 : decode cX0_polarise 80 = .ok (.iconst 1, 1) := by decide +kernel
theorem dX0_polarise_81 : decode cX0_polarise 81 = .ok (.invokevirtual 51, 3) := by decide +kernel
theorem dX0_polarise_84 : decode cX0_polarise 84 = .ok (.aload_n 0, 1) := by decide +kernel
theorem dX0_polarise_85 : decode cX0_polarise 85 = .ok (.iload_n 3, 1) := by decide +kernel
theorem dX0_polarise_86 : decode cX0_polarise 86 = .ok (.iload 4, 2) := by decide +kernel
theorem dX0_polarise_88 : decode cX0_polarise 88 = .ok (.iconst 0, 1) := by decide +kernel
theorem dX0_polarise_89 : decode cX0_polarise 89 = .ok (.iload 5, 2) := by decide +kernel
theorem dX0_polarise_91 : decode cX0_polarise 91 = .ok (.invokevirtual 51, 3) := by decide +kernel
theorem dX0_polarise_94 : decode cX0_polarise 94 = .ok (.return_, 1) := by decide +kernel
set_option maxRecDepth 20000 in
theorem ggX0_settle_X0_startOfX : GoodIn wsX0_settle wsX0_startOfX := goodIn_r _ [6] (by decide +kernel) (by decide +kernel)
set_option maxRecDepth 20000 in
theorem gX0_settle_X0_startOfX : GoodIn wsX0_settle (va_wsS RX0 33 yX0_startOfX wsX0_startOfX) := goodIn_app (goodIn_of _ (by decide +kernel)) ggX0_settle_X0_startOfX
set_option maxRecDepth 20000 in
theorem ggX0_settle_J7_fill_bad5a : GoodIn wsX0_settle wsJ7_fill_bad5a := goodIn_r _ [10, 11, 12, 9, 13] (by decide +kernel) (by decide +kernel)
set_option maxRecDepth 20000 in
theorem gX0_settle_J7_fill_bad5a : GoodIn wsX0_settle (va_wsS RX0 55 yJ7_fill_bad5a wsJ7_fill_bad5a) := goodIn_app (goodIn_of _ (by decide +kernel)) ggX0_settle_J7_fill_bad5a
set_option maxRecDepth 20000 in
theorem ggX0_settle_J7_fill_d0a16 : GoodIn wsX0_settle wsJ7_fill_d0a16 := goodIn_r _ [16] (by decide +kernel) (by decide +kernel)
set_option maxRecDepth 20000 in
theorem gX0_settle_J7_fill_d0a16 : GoodIn wsX0_settle (va_wsS RX0 18 yJ7_fill_d0a16 wsJ7_fill_d0a16) := goodIn_app (goodIn_of _ (by decide +kernel)) ggX0_settle_J7_fill_d0a16
theorem dX0_settle_0 : decode cX0_settle 0 = .ok (.iconst 0, 1) := by decide +kernel
theorem dX0_settle_1 : decode cX0_settle 1 = .ok (.istore_n 2, 1) := by decide +kernel
theorem dX0_settle_2 : decode cX0_settle 2 = .ok (.iload_n 2, 1) := by decide +kernel
theorem dX0_settle_3 : decode cX0_settle 3 = .ok (.bipush 8, 2) := by decide +kernel
theorem dX0_settle_5 : decode cX0_settle 5 = .ok (.if_icmp .ge 36, 3) := by decide +kernel
theorem dX0_settle_8 : decode cX0_settle 8 = .ok (.iload_n 1, 1) := by decide +kernel
theorem dX0_settle_9 : decode cX0_settle 9 = .ok (.iload_n 2, 1) := by decide +kernel
theorem dX0_settle_10 : decode cX0_settle 10 = .ok (.ishr, 1) := by decide +kernel
theorem dX0_settle_11 : decode cX0_settle 11 = .ok (.iconst 1, 1) := by decide +kernel
theorem dX0_settle_12 : decode cX0_settle 12 = .ok (.iand, 1) := by decide +kernel
theorem dX0_settle_13 : decode cX0_settle 13 = .ok (.ifCond .eq 22, 3) := by decide +kernel
theorem dX0_settle_16 : decode cX0_settle 16 = .ok (.aload_n 0, 1) := by decide +kernel
theorem dX0_settle_17 : decode cX0_settle 17 = .ok (.getfield 15, 3) := by decide +kernel
theorem dX0_settle_20 : decode cX0_settle 20 = .ok (.iload_n 2, 1) := by decide +kernel
theorem dX0_settle_21 : decode cX0_settle 21 = .ok (.invokestatic 33, 3) := by decide +kernel
theorem dX0_settle_24 : decode cX0_settle 24 = .ok (.iload_n 2, 1) := by decide +kernel
theorem dX0_settle_25 : decode cX0_settle 25 = .ok (.invokestatic 33, 3) := by decide +kernel
theorem dX0_settle_28 : decode cX0_settle 28 = .ok (.bipush 8, 2) := by decide +kernel
theorem dX0_settle_30 : decode cX0_settle 30 = .ok (.iadd, 1) := by decide +kernel
theorem dX0_settle_31 : decode cX0_settle 31 = .ok (.lconst 0, 1) := by decide +kernel
theorem dX0_settle_32 : decode cX0_settle 32 = .ok (.invokestatic 55, 3) := by decide +kernel
theorem dX0_settle_35 : decode cX0_settle 35 = .ok (.iinc 2 1, 3) := by decide +kernel
theorem dX0_settle_38 : decode cX0_settle 38 = .ok (.goto (-36), 3) := by decide +kernel
theorem dX0_settle_41 : decode cX0_settle 41 = .ok (.aload_n 0, 1) := by decide +kernel
theorem dX0_settle_42 : decode cX0_settle 42 = .ok (.getfield 11, 3) := by decide +kernel
theorem dX0_settle_45 : decode cX0_settle 45 = .ok (.astore_n 2, 1) := by decide +kernel
theorem dX0_settle_46 : decode cX0_settle 46 = .ok (.aload_n 0, 1) := by decide +kernel
theorem dX0_settle_47 : decode cX0_settle 47 = .ok (.aload_n 0, 1) := by decide +kernel
theorem dX0_settle_48 : decode cX0_settle 48 = .ok (.getfield 15, 3) := by decide +kernel
theorem dX0_settle_51 : decode cX0_settle 51 = .ok (.putfield 11, 3) := by decide +kernel
theorem dX0_settle_54 : decode cX0_settle 54 = .ok (.aload_n 0, 1) := by decide +kernel
theorem dX0_settle_55 : decode cX0_settle 55 = .ok (.aload_n 2, 1) := by decide +kernel
theorem dX0_settle_56 : decode cX0_settle 56 = .ok (.putfield 15, 3) := by decide +kernel
theorem dX0_settle_59 : decode cX0_settle 59 = .ok (.aload_n 0, 1) := by decide +kernel
theorem dX0_settle_60 : decode cX0_settle 60 = .ok (.getfield 15, 3) := by decide +kernel
theorem dX0_settle_63 : decode cX0_settle 63 = .ok (.lconst 0, 1) := by decide +kernel
theorem dX0_settle_64 : decode cX0_settle 64 = .ok (.invokestatic 18, 3) := by decide +kernel
theorem dX0_settle_67 : decode cX0_settle 67 = .ok (.return_, 1) := by decide +kernel
theorem dX0_add_0 : decode cX0_add 0 = .ok (.iconst 0, 1) := by decide +kernel
theorem dX0_add_1 : decode cX0_add 1 = .ok (.istore 5, 2) := by decide +kernel
theorem dX0_add_3 : decode cX0_add 3 = .ok (.iload 5, 2) := by decide +kernel
theorem dX0_add_5 : decode cX0_add 5 = .ok (.iconst 4, 1) := by decide +kernel
theorem dX0_add_6 : decode cX0_add 6 = .ok (.if_icmp .ge 74, 3) := by decide +kernel
theorem dX0_add_9 : decode cX0_add 9 = .ok (.iload 5, 2) := by decide +kernel
theorem dX0_add_11 : decode cX0_add 11 = .ok (.iload_n 3, 1) := by decide +kernel
theorem dX0_add_12 : decode cX0_add 12 = .ok (.bipush 7, 2) := by decide +kernel
theorem dX0_add_14 : decode cX0_add 14 = .ok (.iand, 1) := by decide +kernel
theorem dX0_add_15 : decode cX0_add 15 = .ok (.iadd, 1) := by decide +kernel
theorem dX0_add_16 : decode cX0_add 16 = .ok (.istore 6, 2) := by decide +kernel
theorem dX0_add_18 : decode cX0_add 18 = .ok (.iload 4, 2) := by decide +kernel
theorem dX0_add_20 : decode cX0_add 20 = .ok (.i2l, 1) := by decide +kernel
theorem dX0_add_21 : decode cX0_add 21 = .ok (.aload_n 0, 1) := by decide +kernel
theorem dX0_add_22 : decode cX0_add 22 = .ok (.getfield 11, 3) := by decide +kernel
theorem dX0_add_25 : decode cX0_add 25 = .ok (.iload_n 1, 1) := by decide +kernel
theorem dX0_add_26 : decode cX0_add 26 = .ok (.iload 5, 2) := by decide +kernel
theorem dX0_add_28 : decode cX0_add 28 = .ok (.iadd, 1) := by decide +kernel
theorem dX0_add_29 : decode cX0_add 29 = .ok (.laload, 1) := by decide +kernel
theorem dX0_add_30 : decode cX0_add 30 = .ok (.lmul, 1) := by decide +kernel
theorem dX0_add_31 : decode cX0_add 31 = .ok (.lstore 7, 2) := by decide +kernel
theorem dX0_add_33 : decode cX0_add 33 = .ok (.iload 6, 2) := by decide +kernel
theorem dX0_add_35 : decode cX0_add 35 = .ok (.iconst 4, 1) := by decide +kernel
theorem dX0_add_36 : decode cX0_add 36 = .ok (.iand, 1) := by decide +kernel
theorem dX0_add_37 : decode cX0_add 37 = .ok (.ifCond .eq 7, 3) := by decide +kernel
theorem dX0_add_40 : decode cX0_add 40 = .ok (.iconst 1, 1) := by decide +kernel
theorem dX0_add_41 : decode cX0_add 41 = .ok (.goto 4, 3) := by decide +kernel
theorem dX0_add_44 : decode cX0_add 44 = .ok (.iconst 0, 1) := by decide +kernel
theorem dX0_add_45 : decode cX0_add 45 = .ok (.istore 9, 2) := by decide +kernel
theorem dX0_add_47 : decode cX0_add 47 = .ok (.aload_n 0, 1) := by decide +kernel
theorem dX0_add_48 : decode cX0_add 48 = .ok (.getfield 15, 3) := by decide +kernel
theorem dX0_add_51 : decode cX0_add 51 = .ok (.iload_n 2, 1) := by decide +kernel
theorem dX0_add_52 : decode cX0_add 52 = .ok (.iload 6, 2) := by decide +kernel
theorem dX0_add_54 : decode cX0_add 54 = .ok (.iconst 3, 1) := by decide +kernel
theorem dX0_add_55 : decode cX0_add 55 = .ok (.iand, 1) := by decide +kernel
theorem dX0_add_56 : decode cX0_add 56 = .ok (.iadd, 1) := by decide +kernel
theorem dX0_add_57 : decode cX0_add 57 = .ok (.dup2, 1) := by decide +kernel
theorem dX0_add_58 : decode cX0_add 58 = .ok (.laload, 1) := by decide +kernel
theorem dX0_add_59 : decode cX0_add 59 = .ok (.iload 9, 2) := by decide +kernel
theorem dX0_add_61 : decode cX0_add 61 = .ok (.ifCond .eq 9, 3) := by decide +kernel
theorem dX0_add_64 : decode cX0_add 64 = .ok (.lload 7, 2) := by decide +kernel
theorem dX0_add_66 : decode cX0_add 66 = .ok (.lneg, 1) := by decide +kernel
theorem dX0_add_67 : decode cX0_add 67 = .ok (.goto 5, 3) := by decide +kernel
theorem dX0_add_70 : decode cX0_add 70 = .ok (.lload 7, 2) := by decide +kernel
theorem dX0_add_72 : decode cX0_add 72 = .ok (.ladd, 1) := by decide +kernel
theorem dX0_add_73 : decode cX0_add 73 = .ok (.lastore, 1) := by decide +kernel
theorem dX0_add_74 : decode cX0_add 74 = .ok (.iinc 5 1, 3) := by decide +kernel
theorem dX0_add_77 : decode cX0_add 77 = .ok (.goto (-74), 3) := by decide +kernel
theorem dX0_add_80 : decode cX0_add 80 = .ok (.return_, 1) := by decide +kernel
theorem dX0_startOfX_0 : decode cX0_startOfX 0 = .ok (.bipush 8, 2) := by decide +kernel
theorem dX0_startOfX_2 : decode cX0_startOfX 2 = .ok (.iload_n 0, 1) := by decide +kernel
theorem dX0_startOfX_3 : decode cX0_startOfX 3 = .ok (.bipush 7, 2) := by decide +kernel
theorem dX0_startOfX_5 : decode cX0_startOfX 5 = .ok (.iand, 1) := by decide +kernel
theorem dX0_startOfX_6 : decode cX0_startOfX 6 = .ok (.imul, 1) := by decide +kernel
theorem dX0_startOfX_7 : decode cX0_startOfX 7 = .ok (.ireturn, 1) := by decide +kernel
theorem dX0_startOfY_0 : decode cX0_startOfY 0 = .ok (.bipush 8, 2) := by decide +kernel
theorem dX0_startOfY_2 : decode cX0_startOfY 2 = .ok (.iload_n 0, 1) := by decide +kernel
theorem dX0_startOfY_3 : decode cX0_startOfY 3 = .ok (.bipush 7, 2) := by decide +kernel
theorem dX0_startOfY_5 : decode cX0_startOfY 5 = .ok (.iand, 1) := by decide +kernel
theorem dX0_startOfY_6 : decode cX0_startOfY 6 = .ok (.imul, 1) := by decide +kernel
theorem dX0_startOfY_7 : decode cX0_startOfY 7 = .ok (.iconst 4, 1) := by decide +kernel
theorem dX0_startOfY_8 : decode cX0_startOfY 8 = .ok (.iadd, 1) := by decide +kernel
theorem dX0_startOfY_9 : decode cX0_startOfY 9 = .ok (.ireturn, 1) := by decide +kernel
theorem dX3_init_0 : decode cX3_init 0 = .ok (.aload_n 0, 1) := by decide +kernel
theorem dX3_init_1 : decode cX3_init 1 = .ok (.invokespecial 1, 3) := by decide +kernel
theorem dX3_init_4 : decode cX3_init 4 = .ok (.aload_n 0, 1) := by decide +kernel
theorem dX3_init_5 : decode cX3_init 5 = .ok (.iload_n 1, 1) := by decide +kernel
theorem dX3_init_6 : decode cX3_init 6 = .ok (.putfield 7, 3) := by decide +kernel
theorem dX3_init_9 : decode cX3_init 9 = .ok (.aload_n 0, 1) := by decide +kernel
theorem dX3_init_10 : decode cX3_init 10 = .ok (.iload_n 2, 1) := by decide +kernel
theorem dX3_init_11 : decode cX3_init 11 = .ok (.putfield 13, 3) := by decide +kernel
theorem dX3_init_14 : decode cX3_init 14 = .ok (.aload_n 0, 1) := by decide +kernel
theorem dX3_init_15 : decode cX3_init 15 = .ok (.iload_n 3, 1) := by decide +kernel
theorem dX3_init_16 : decode cX3_init 16 = .ok (.putfield 16, 3) := by decide +kernel
theorem dX3_init_19 : decode cX3_init 19 = .ok (.return_, 1) := by decide +kernel
