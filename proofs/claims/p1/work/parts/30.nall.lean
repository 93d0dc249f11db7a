theorem dX5_init_0 : decode cX5_init 0 = .ok (.aload_n 0, 1) := by decide +kernel
theorem dX5_init_1 : decode cX5_init 1 = .ok (.invokespecial 3, 3) := by decide +kernel
theorem dX5_init_4 : decode cX5_init 4 = .ok (.aload_n 0, 1) := by decide +kernel
theorem dX5_init_5 : decode cX5_init 5 = .ok (.iconst 1, 1) := by decide +kernel
theorem dX5_init_6 : decode cX5_init 6 = .ok (.putfield 9, 3) := by decide +kernel
theorem dX5_init_9 : decode cX5_init 9 = .ok (.aload_n 0, 1) := by decide +kernel
theorem dX5_init_10 : decode cX5_init 10 = .ok (.bipush 8, 2) := by decide +kernel
theorem dX5_init_12 : decode cX5_init 12 = .ok (.newarray .int, 2) := by decide +kernel
theorem dX5_init_14 : decode cX5_init 14 = .ok (.putfield 15, 3) := by decide +kernel
theorem dX5_init_17 : decode cX5_init 17 = .ok (.aload_n 0, 1) := by decide +kernel
theorem dX5_init_18 : decode cX5_init 18 = .ok (.iload_n 1, 1) := by decide +kernel
theorem dX5_init_19 : decode cX5_init 19 = .ok (.putfield 19, 3) := by decide +kernel
theorem dX5_init_22 : decode cX5_init 22 = .ok (.aload_n 0, 1) := by decide +kernel
theorem dX5_init_23 : decode cX5_init 23 = .ok (.iload_n 2, 1) := by decide +kernel
theorem dX5_init_24 : decode cX5_init 24 = .ok (.putfield 23, 3) := by decide +kernel
theorem dX5_init_27 : decode cX5_init 27 = .ok (.return_, 1) := by decide +kernel
theorem dX6_init_0 : decode cX6_init 0 = .ok (.aload_n 0, 1) := by decide +kernel
theorem dX6_init_1 : decode cX6_init 1 = .ok (.invokespecial 1, 3) := by decide +kernel
theorem dX6_init_4 : decode cX6_init 4 = .ok (.return_, 1) := by decide +kernel
theorem dX6_tell_0 : decode cX6_tell 0 = .ok (.aload_n 0, 1) := by decide +kernel
theorem dX6_tell_1 : decode cX6_tell 1 = .ok (.iload_n 1, 1) := by decide +kernel
theorem dX6_tell_2 : decode cX6_tell 2 = .ok (.putfield 7, 3) := by decide +kernel
theorem dX6_tell_5 : decode cX6_tell 5 = .ok (.aload_n 0, 1) := by decide +kernel
theorem dX6_tell_6 : decode cX6_tell 6 = .ok (.iload_n 2, 1) := by decide +kernel
theorem dX6_tell_7 : decode cX6_tell 7 = .ok (.putfield 13, 3) := by decide +kernel
theorem dX6_tell_10 : decode cX6_tell 10 = .ok (.aload_n 0, 1) := by decide +kernel
theorem dX6_tell_11 : decode cX6_tell 11 = .ok (.iload_n 3, 1) := by decide +kernel
theorem dX6_tell_12 : decode cX6_tell 12 = .ok (.putfield 16, 3) := by decide +kernel
theorem dX6_tell_15 : decode cX6_tell 15 = .ok (.return_, 1) := by decide +kernel
theorem dX7_isIn_0 : decode cX7_isIn 0 = .ok (.iload_n 0, 1) := by decide +kernel
theorem dX7_isIn_1 : decode cX7_isIn 1 = .ok (.iload_n 1, 1) := by decide +kernel
theorem dX7_isIn_2 : decode cX7_isIn 2 = .ok (.if_icmp .lt 12, 3) := by decide +kernel
theorem dX7_isIn_5 : decode cX7_isIn 5 = .ok (.iload_n 0, 1) := by decide +kernel
theorem dX7_isIn_6 : decode cX7_isIn 6 = .ok (.iload_n 2, 1) := by decide +kernel
theorem dX7_isIn_7 : decode cX7_isIn 7 = .ok (.if_icmp .gt 7, 3) := by decide +kernel
theorem dX7_isIn_10 : decode cX7_isIn 10 = .ok (.iconst 1, 1) := by decide +kernel
theorem dX7_isIn_11 : decode cX7_isIn 11 = .ok (.goto 4, 3) := by decide +kernel
theorem dX7_isIn_14 : decode cX7_isIn 14 = .ok (.iconst 0, 1) := by decide +kernel
theorem dX7_isIn_15 : decode cX7_isIn 15 = .ok (.ireturn, 1) := by decide +kernel
set_option maxRecDepth 20000 in
theorem ggX7_init_Jx4a65c_init_da8c8 : GoodIn wsX7_init wsJx4a65c_init_da8c8 := goodIn_r _ [11, 12, 13, 14, 15, 16, 17, 18, 19, 20, 21, 22, 23, 2, 3, 24, 25, 26] (by decide +kernel) (by decide +kernel)
set_option maxRecDepth 20000 in
theorem gX7_init_Jx4a65c_init_da8c8 : GoodIn wsX7_init (wsJx4a65c_init_da8c8) := ggX7_init_Jx4a65c_init_da8c8
theorem dX7_init_0 : decode cX7_init 0 = .ok (.aload_n 0, 1) := by decide +kernel
theorem dX7_init_1 : decode cX7_init 1 = .ok (.invokespecial 1, 3) := by decide +kernel
theorem dX7_init_4 : decode cX7_init 4 = .ok (.aload_n 0, 1) := by decide +kernel
theorem dX7_init_5 : decode cX7_init 5 = .ok (.new 7, 3) := by decide +kernel
theorem dX7_init_8 : decode cX7_init 8 = .ok (.dup, 1) := by decide +kernel
theorem dX7_init_9 : decode cX7_init 9 = .ok (.invokespecial 9, 3) := by decide +kernel
theorem dX7_init_12 : decode cX7_init 12 = .ok (.putfield 10, 3) := by decide +kernel
theorem dX7_init_15 : decode cX7_init 15 = .ok (.aload_n 0, 1) := by decide +kernel
theorem dX7_init_16 : decode cX7_init 16 = .ok (.new 7, 3) := by decide +kernel
theorem dX7_init_19 : decode cX7_init 19 = .ok (.dup, 1) := by decide +kernel
theorem dX7_init_20 : decode cX7_init 20 = .ok (.invokespecial 9, 3) := by decide +kernel
theorem dX7_init_23 : decode cX7_init 23 = .ok (.putfield 16, 3) := by decide +kernel
theorem dX7_init_26 : decode cX7_init 26 = .ok (.return_, 1) := by decide +kernel
theorem dX7_thrown_0 : decode cX7_thrown 0 = .ok (.aload_n 0, 1) := by decide +kernel
theorem dX7_thrown_1 : decode cX7_thrown 1 = .ok (.getfield 19, 3) := by decide +kernel
theorem dX7_thrown_4 : decode cX7_thrown 4 = .ok (.ireturn, 1) := by decide +kernel
theorem dX7_refuse_0 : decode cX7_refuse 0 = .ok (.iload_n 1, 1) := by decide +kernel
theorem dX7_refuse_1 : decode cX7_refuse 1 = .ok (.ifCond .eq 15, 3) := by decide +kernel
theorem dX7_refuse_4 : decode cX7_refuse 4 = .ok (.aload_n 0, 1) := by decide +kernel
theorem dX7_refuse_5 : decode cX7_refuse 5 = .ok (.getfield 19, 3) := by decide +kernel
theorem dX7_refuse_8 : decode cX7_refuse 8 = .ok (.ifCond .ne 8, 3) := by decide +kernel
theorem dX7_refuse_11 : decode cX7_refuse 11 = .ok (.aload_n 0, 1) := by decide +kernel
theorem dX7_refuse_12 : decode cX7_refuse 12 = .ok (.iload_n 2, 1) := by decide +kernel
theorem dX7_refuse_13 : decode cX7_refuse 13 = .ok (.putfield 19, 3) := by decide +kernel
theorem dX7_refuse_16 : decode cX7_refuse 16 = .ok (.aload_n 0, 1) := by decide +kernel
theorem dX7_refuse_17 : decode cX7_refuse 17 = .ok (.getfield 19, 3) := by decide +kernel
theorem dX7_refuse_20 : decode cX7_refuse 20 = .ok (.ifCond .le 7, 3) := by decide +kernel
theorem dX7_refuse_23 : decode cX7_refuse 23 = .ok (.iconst 1, 1) := by decide +kernel
theorem dX7_refuse_24 : decode cX7_refuse 24 = .ok (.goto 4, 3) := by decide +kernel
theorem dX7_refuse_27 : decode cX7_refuse 27 = .ok (.iconst 0, 1) := by decide +kernel
theorem dX7_refuse_28 : decode cX7_refuse 28 = .ok (.ireturn, 1) := by decide +kernel
set_option maxRecDepth 20000 in
theorem ggX7_start_X7_refuse : GoodIn wsX7_start wsX7_refuse := goodIn_r _ [6, 1, 7, 8, 9, 10] (by decide +kernel) (by decide +kernel)
set_option maxRecDepth 20000 in
theorem gX7_start_X7_refuse : GoodIn wsX7_start (wsV RX7 23 RX7 yX7_refuse wsX7_refuse) := goodIn_app (goodIn_of _ (by decide +kernel)) ggX7_start_X7_refuse
theorem dX7_start_0 : decode cX7_start 0 = .ok (.aload_n 0, 1) := by decide +kernel
theorem dX7_start_1 : decode cX7_start 1 = .ok (.iconst 0, 1) := by decide +kernel
theorem dX7_start_2 : decode cX7_start 2 = .ok (.putfield 19, 3) := by decide +kernel
theorem dX7_start_5 : decode cX7_start 5 = .ok (.aload_n 0, 1) := by decide +kernel
theorem dX7_start_6 : decode cX7_start 6 = .ok (.iload_n 1, 1) := by decide +kernel
theorem dX7_start_7 : decode cX7_start 7 = .ok (.iload_n 2, 1) := by decide +kernel
theorem dX7_start_8 : decode cX7_start 8 = .ok (.invokevirtual 23, 3) := by decide +kernel
theorem dX7_start_11 : decode cX7_start 11 = .ok (.ireturn, 1) := by decide +kernel
set_option maxRecDepth 20000 in
theorem ggX7_isNoPart_Jx4a65c_size_8abf5 : GoodIn wsX7_isNoPart wsJx4a65c_size_8abf5 := goodIn_r _ [6, 7, 16, 17, 18] (by decide +kernel) (by decide +kernel)
set_option maxRecDepth 20000 in
theorem gX7_isNoPart_Jx4a65c_size_8abf5 : GoodIn wsX7_isNoPart (wsV RX7 27 RJx4a65c yJx4a65c_size_8abf5 wsJx4a65c_size_8abf5) := goodIn_app (goodIn_of _ (by decide +kernel)) ggX7_isNoPart_Jx4a65c_size_8abf5
set_option maxRecDepth 20000 in
theorem ggX7_isNoPart_X7_isIn : GoodIn wsX7_isNoPart wsX7_isIn := goodIn_r _ [11] (by decide +kernel) (by decide +kernel)
set_option maxRecDepth 20000 in
theorem gX7_isNoPart_X7_isIn : GoodIn wsX7_isNoPart (va_wsS RX7 31 yX7_isIn wsX7_isIn) := goodIn_app (goodIn_of _ (by decide +kernel)) ggX7_isNoPart_X7_isIn
theorem dX7_isNoPart_0 : decode cX7_isNoPart 0 = .ok (.iload_n 1, 1) := by decide +kernel
theorem dX7_isNoPart_1 : decode cX7_isNoPart 1 = .ok (.iconst 0, 1) := by decide +kernel
theorem dX7_isNoPart_2 : decode cX7_isNoPart 2 = .ok (.aload_n 0, 1) := by decide +kernel
theorem dX7_isNoPart_3 : decode cX7_isNoPart 3 = .ok (.getfield 16, 3) := by decide +kernel
theorem dX7_isNoPart_6 : decode cX7_isNoPart 6 = .ok (.invokevirtual 27, 3) := by decide +kernel
theorem dX7_isNoPart_9 : decode cX7_isNoPart 9 = .ok (.iconst 1, 1) := by decide +kernel
theorem dX7_isNoPart_10 : decode cX7_isNoPart 10 = .ok (.isub, 1) := by decide +kernel
theorem dX7_isNoPart_11 : decode cX7_isNoPart 11 = .ok (.invokestatic 31, 3) := by decide +kernel
theorem dX7_isNoPart_14 : decode cX7_isNoPart 14 = .ok (.ifCond .ne 7, 3) := by decide +kernel
theorem dX7_isNoPart_17 : decode cX7_isNoPart 17 = .ok (.iconst 1, 1) := by decide +kernel
theorem dX7_isNoPart_18 : decode cX7_isNoPart 18 = .ok (.goto 4, 3) := by decide +kernel
theorem dX7_isNoPart_22 : decode cX7_isNoPart 22 = .ok (.ireturn, 1) := by decide +kernel
set_option maxRecDepth 20000 in
theorem ggX7_isNowhere_X7_isNoPart : GoodIn wsX7_isNowhere wsX7_isNoPart := goodIn_r _ [5, 6, 7, 8, 9, 10, 11, 12, 13, 14, 4, 15, 16, 17, 18, 19, 20, 21, 22] (by decide +kernel) (by decide +kernel)
set_option maxRecDepth 20000 in
theorem gX7_isNowhere_X7_isNoPart : GoodIn wsX7_isNowhere (wsV RX7 35 RX7 yX7_isNoPart wsX7_isNoPart) := goodIn_app (goodIn_of _ (by decide +kernel)) ggX7_isNowhere_X7_isNoPart
theorem dX7_isNowhere_0 : decode cX7_isNowhere 0 = .ok (.iload_n 1, 1) := by decide +kernel
theorem dX7_isNowhere_1 : decode cX7_isNowhere 1 = .ok (.iconst (-1), 1) := by decide +kernel
theorem dX7_isNowhere_2 : decode cX7_isNowhere 2 = .ok (.if_icmp .eq 15, 3) := by decide +kernel
theorem dX7_isNowhere_5 : decode cX7_isNowhere 5 = .ok (.aload_n 0, 1) := by decide +kernel
theorem dX7_isNowhere_6 : decode cX7_isNowhere 6 = .ok (.iload_n 1, 1) := by decide +kernel
theorem dX7_isNowhere_7 : decode cX7_isNowhere 7 = .ok (.invokevirtual 35, 3) := by decide +kernel
theorem dX7_isNowhere_10 : decode cX7_isNowhere 10 = .ok (.ifCond .eq 7, 3) := by decide +kernel
theorem dX7_isNowhere_13 : decode cX7_isNowhere 13 = .ok (.iconst 1, 1) := by decide +kernel
theorem dX7_isNowhere_14 : decode cX7_isNowhere 14 = .ok (.goto 4, 3) := by decide +kernel
theorem dX7_isNowhere_17 : decode cX7_isNowhere 17 = .ok (.iconst 0, 1) := by decide +kernel
theorem dX7_isNowhere_18 : decode cX7_isNowhere 18 = .ok (.ireturn, 1) := by decide +kernel
set_option maxRecDepth 20000 in
theorem ggX7_isNoPlace_X7_isIn : GoodIn wsX7_isNoPlace wsX7_isIn := goodIn_r _ [4] (by decide +kernel) (by decide +kernel)
set_option maxRecDepth 20000 in
theorem gX7_isNoPlace_X7_isIn : GoodIn wsX7_isNoPlace (va_wsS RX7 31 yX7_isIn wsX7_isIn) := goodIn_app (goodIn_of _ (by decide +kernel)) ggX7_isNoPlace_X7_isIn
theorem dX7_isNoPlace_0 : decode cX7_isNoPlace 0 = .ok (.iload_n 0, 1) := by decide +kernel
theorem dX7_isNoPlace_1 : decode cX7_isNoPlace 1 = .ok (.iconst 0, 1) := by decide +kernel
theorem dX7_isNoPlace_2 : decode cX7_isNoPlace 2 = .ok (.bipush 7, 2) := by decide +kernel
theorem dX7_isNoPlace_4 : decode cX7_isNoPlace 4 = .ok (.invokestatic 31, 3) := by decide +kernel
theorem dX7_isNoPlace_7 : decode cX7_isNoPlace 7 = .ok (.ifCond .ne 7, 3) := by decide +kernel
theorem dX7_isNoPlace_10 : decode cX7_isNoPlace 10 = .ok (.iconst 1, 1) := by decide +kernel
theorem dX7_isNoPlace_11 : decode cX7_isNoPlace 11 = .ok (.goto 4, 3) := by decide +kernel
theorem dX7_isNoPlace_14 : decode cX7_isNoPlace 14 = .ok (.iconst 0, 1) := by decide +kernel
theorem dX7_isNoPlace_15 : decode cX7_isNoPlace 15 = .ok (.ireturn, 1) := by decide +kernel
set_option maxRecDepth 20000 in
theorem ggX7_isNoNumber_X7_isIn : GoodIn wsX7_isNoNumber wsX7_isIn := goodIn_r _ [6] (by decide +kernel) (by decide +kernel)
set_option maxRecDepth 20000 in
theorem gX7_isNoNumber_X7_isIn : GoodIn wsX7_isNoNumber (va_wsS RX7 31 yX7_isIn wsX7_isIn) := goodIn_app (goodIn_of _ (by decide +kernel)) ggX7_isNoNumber_X7_isIn
theorem dX7_isNoNumber_0 : decode cX7_isNoNumber 0 = .ok (.iload_n 1, 1) := by decide +kernel
theorem dX7_isNoNumber_1 : decode cX7_isNoNumber 1 = .ok (.getstatic 39, 3) := by decide +kernel
theorem dX7_isNoNumber_4 : decode cX7_isNoNumber 4 = .ok (.iload_n 0, 1) := by decide +kernel
theorem dX7_isNoNumber_5 : decode cX7_isNoNumber 5 = .ok (.iaload, 1) := by decide +kernel
theorem dX7_isNoNumber_6 : decode cX7_isNoNumber 6 = .ok (.getstatic 43, 3) := by decide +kernel
theorem dX7_isNoNumber_9 : decode cX7_isNoNumber 9 = .ok (.iload_n 0, 1) := by decide +kernel
theorem dX7_isNoNumber_10 : decode cX7_isNoNumber 10 = .ok (.iaload, 1) := by decide +kernel
theorem dX7_isNoNumber_11 : decode cX7_isNoNumber 11 = .ok (.invokestatic 31, 3) := by decide +kernel
theorem dX7_isNoNumber_14 : decode cX7_isNoNumber 14 = .ok (.ifCond .ne 7, 3) := by decide +kernel
theorem dX7_isNoNumber_17 : decode cX7_isNoNumber 17 = .ok (.iconst 1, 1) := by decide +kernel
theorem dX7_isNoNumber_18 : decode cX7_isNoNumber 18 = .ok (.goto 4, 3) := by decide +kernel
theorem dX7_isNoNumber_21 : decode cX7_isNoNumber 21 = .ok (.iconst 0, 1) := by decide +kernel
theorem dX7_isNoNumber_22 : decode cX7_isNoNumber 22 = .ok (.ireturn, 1) := by decide +kernel
set_option maxRecDepth 20000 in
theorem ggX7_first_Jx4a65c_size_8abf5 : GoodIn wsX7_first wsJx4a65c_size_8abf5 := goodIn_r _ [11, 12, 44, 45, 46] (by decide +kernel) (by decide +kernel)
set_option maxRecDepth 20000 in
theorem gX7_first_Jx4a65c_size_8abf5 : GoodIn wsX7_first (wsV RX7 27 RJx4a65c yJx4a65c_size_8abf5 wsJx4a65c_size_8abf5) := goodIn_app (goodIn_of _ (by decide +kernel)) ggX7_first_Jx4a65c_size_8abf5
theorem dX7_first_0 : decode cX7_first 0 = .ok (.aload_n 0, 1) := by decide +kernel
theorem dX7_first_1 : decode cX7_first 1 = .ok (.getfield 10, 3) := by decide +kernel
theorem dX7_first_4 : decode cX7_first 4 = .ok (.invokevirtual 27, 3) := by decide +kernel
theorem dX7_first_7 : decode cX7_first 7 = .ok (.bipush 64, 2) := by decide +kernel
theorem dX7_first_9 : decode cX7_first 9 = .ok (.imul, 1) := by decide +kernel
theorem dX7_first_10 : decode cX7_first 10 = .ok (.newarray .long, 2) := by decide +kernel
theorem dX7_first_12 : decode cX7_first 12 = .ok (.astore_n 2, 1) := by decide +kernel
theorem dX7_first_13 : decode cX7_first 13 = .ok (.iconst 4, 1) := by decide +kernel
theorem dX7_first_14 : decode cX7_first 14 = .ok (.newarray .long, 2) := by decide +kernel
theorem dX7_first_16 : decode cX7_first 16 = .ok (.dup, 1) := by decide +kernel
theorem dX7_first_17 : decode cX7_first 17 = .ok (.iconst 0, 1) := by decide +kernel
theorem dX7_first_18 : decode cX7_first 18 = .ok (.lconst 1, 1) := by decide +kernel
theorem dX7_first_19 : decode cX7_first 19 = .ok (.lastore, 1) := by decide +kernel
theorem dX7_first_20 : decode cX7_first 20 = .ok (.dup, 1) := by decide +kernel
theorem dX7_first_21 : decode cX7_first 21 = .ok (.iconst 1, 1) := by decide +kernel
theorem dX7_first_22 : decode cX7_first 22 = .ok (.lconst 0, 1) := by decide +kernel
theorem dX7_first_23 : decode cX7_first 23 = .ok (.lastore, 1) := by decide +kernel
theorem dX7_first_24 : decode cX7_first 24 = .ok (.dup, 1) := by decide +kernel
theorem dX7_first_25 : decode cX7_first 25 = .ok (.iconst 2, 1) := by decide +kernel
theorem dX7_first_26 : decode cX7_first 26 = .ok (.lconst 0, 1) := by decide +kernel
theorem dX7_first_27 : decode cX7_first 27 = .ok (.lastore, 1) := by decide +kernel
theorem dX7_first_28 : decode cX7_first 28 = .ok (.dup, 1) := by decide +kernel
theorem dX7_first_29 : decode cX7_first 29 = .ok (.iconst 3, 1) := by decide +kernel
theorem dX7_first_30 : decode cX7_first 30 = .ok (.lconst 0, 1) := by decide +kernel
theorem dX7_first_31 : decode cX7_first 31 = .ok (.lastore, 1) := by decide +kernel
theorem dX7_first_32 : decode cX7_first 32 = .ok (.astore_n 3, 1) := by decide +kernel
theorem dX7_first_33 : decode cX7_first 33 = .ok (.iconst 0, 1) := by decide +kernel
theorem dX7_first_34 : decode cX7_first 34 = .ok (.istore 4, 2) := by decide +kernel
theorem dX7_first_36 : decode cX7_first 36 = .ok (.iload 4, 2) := by decide +kernel
theorem dX7_first_38 : decode cX7_first 38 = .ok (.aload_n 0, 1) := by decide +kernel
theorem dX7_first_39 : decode cX7_first 39 = .ok (.getfield 10, 3) := by decide +kernel
theorem dX7_first_42 : decode cX7_first 42 = .ok (.invokevirtual 27, 3) := by decide +kernel
theorem dX7_first_45 : decode cX7_first 45 = .ok (.if_icmp .ge 61, 3) := by decide +kernel
theorem dX7_first_106 : decode cX7_first 106 = .ok (.aload_n 2, 1) := by decide +kernel
theorem dX7_first_107 : decode cX7_first 107 = .ok (.areturn, 1) := by decide +kernel
set_option maxRecDepth 20000 in
theorem ggX7_behind_X7_first : GoodIn wsX7_behind wsX7_first := goodIn_ca (goodIn_r _ [7, 8, 9, 10, 11, 12, 13, 14, 15, 16, 17, 18, 19, 20, 21, 22, 23, 24, 25, 26, 27, 28, 29, 30, 31, 32, 33, 34, 35, 36, 37, 38, 6, 39, 40, 41, 42, 62, 63, 64, 65, 66, 67, 68, 69, 70, 71] (by decide +kernel) (by decide +kernel)) (goodIn_sub (fun _ h => List.mem_cons_of_mem _ (List.mem_append_right _ h)) (by decide +kernel))
set_option maxRecDepth 20000 in
theorem gX7_behind_X7_first : GoodIn wsX7_behind (wsV RX7 99 RX7 yX7_first wsX7_first) := goodIn_app (goodIn_of _ (by decide +kernel)) ggX7_behind_X7_first
theorem dX7_behind_0 : decode cX7_behind 0 = .ok (.aload_n 0, 1) := by decide +kernel
theorem dX7_behind_1 : decode cX7_behind 1 = .ok (.iload_n 2, 1) := by decide +kernel
theorem dX7_behind_2 : decode cX7_behind 2 = .ok (.invokevirtual 99, 3) := by decide +kernel
theorem dX7_behind_5 : decode cX7_behind 5 = .ok (.astore_n 3, 1) := by decide +kernel
theorem dX7_behind_6 : decode cX7_behind 6 = .ok (.iconst 0, 1) := by decide +kernel
theorem dX7_behind_7 : decode cX7_behind 7 = .ok (.istore 4, 2) := by decide +kernel
theorem dX7_behind_9 : decode cX7_behind 9 = .ok (.iload 4, 2) := by decide +kernel
theorem dX7_behind_11 : decode cX7_behind 11 = .ok (.iload_n 1, 1) := by decide +kernel
theorem dX7_behind_12 : decode cX7_behind 12 = .ok (.if_icmp .gt 27, 3) := by decide +kernel
theorem dX7_behind_39 : decode cX7_behind 39 = .ok (.aload_n 3, 1) := by decide +kernel
theorem dX7_behind_40 : decode cX7_behind 40 = .ok (.areturn, 1) := by decide +kernel
set_option maxRecDepth 20000 in
theorem ggX7_behind__X7_behind : GoodIn wsX7_behind_ wsX7_behind := goodIn_ca (goodIn_r _ [5, 6, 7, 8, 9, 10, 4, 11, 12, 13, 14, 15, 16, 17, 18, 19, 20, 21, 22, 23, 24, 25, 26, 27, 28, 29, 30, 31, 32, 33, 34, 35, 36, 37, 38, 39, 40, 41, 42, 43, 44, 45, 46, 47, 48, 49, 50, 51, 52, 53, 54, 55, 56, 57, 58, 59, 60, 61, 62, 63, 64, 65, 66, 67, 68, 69, 70, 71, 72, 73, 74, 75, 76, 77, 78, 79, 80, 81] (by decide +kernel) (by decide +kernel)) (goodIn_sub (fun _ h => List.mem_cons_of_mem _ (List.mem_append_right _ h)) (by decide +kernel))
set_option maxRecDepth 20000 in
theorem gX7_behind__X7_behind : GoodIn wsX7_behind_ (wsV RX7 107 RX7 yX7_behind wsX7_behind) := goodIn_app (goodIn_of _ (by decide +kernel)) ggX7_behind__X7_behind
theorem dX7_behind__0 : decode cX7_behind_ 0 = .ok (.aload_n 0, 1) := by decide +kernel
theorem dX7_behind__1 : decode cX7_behind_ 1 = .ok (.iload_n 1, 1) := by decide +kernel
theorem dX7_behind__2 : decode cX7_behind_ 2 = .ok (.iconst (-1), 1) := by decide +kernel
theorem dX7_behind__3 : decode cX7_behind_ 3 = .ok (.invokevirtual 107, 3) := by decide +kernel
theorem dX7_behind__6 : decode cX7_behind_ 6 = .ok (.areturn, 1) := by decide +kernel
set_option maxRecDepth 20000 in
theorem ggX7_whole__Jx4a65c_size_8abf5 : GoodIn wsX7_whole_ wsJx4a65c_size_8abf5 := goodIn_r _ [6, 7, 19, 20, 21] (by decide +kernel) (by decide +kernel)
set_option maxRecDepth 20000 in
theorem gX7_whole__Jx4a65c_size_8abf5 : GoodIn wsX7_whole_ (wsV RX7 27 RJx4a65c yJx4a65c_size_8abf5 wsJx4a65c_size_8abf5) := goodIn_app (goodIn_of _ (by decide +kernel)) ggX7_whole__Jx4a65c_size_8abf5
theorem dX7_whole__0 : decode cX7_whole_ 0 = .ok (.lconst 0, 1) := by decide +kernel
theorem dX7_whole__1 : decode cX7_whole_ 1 = .ok (.lstore_n 3, 1) := by decide +kernel
theorem dX7_whole__2 : decode cX7_whole_ 2 = .ok (.iconst 0, 1) := by decide +kernel
theorem dX7_whole__3 : decode cX7_whole_ 3 = .ok (.istore 5, 2) := by decide +kernel
theorem dX7_whole__5 : decode cX7_whole_ 5 = .ok (.iload 5, 2) := by decide +kernel
theorem dX7_whole__7 : decode cX7_whole_ 7 = .ok (.aload_n 0, 1) := by decide +kernel
theorem dX7_whole__8 : decode cX7_whole_ 8 = .ok (.getfield 10, 3) := by decide +kernel
theorem dX7_whole__11 : decode cX7_whole_ 11 = .ok (.invokevirtual 27, 3) := by decide +kernel
theorem dX7_whole__14 : decode cX7_whole_ 14 = .ok (.if_icmp .ge 35, 3) := by decide +kernel
theorem dX7_whole__49 : decode cX7_whole_ 49 = .ok (.lload_n 3, 1) := by decide +kernel
theorem dX7_whole__50 : decode cX7_whole_ 50 = .ok (.lreturn, 1) := by decide +kernel
set_option maxRecDepth 20000 in
theorem ggX7_root__Jx4a65c_size_8abf5 : GoodIn wsX7_root_ wsJx4a65c_size_8abf5 := goodIn_r _ [6, 7, 19, 20, 21] (by decide +kernel) (by decide +kernel)
set_option maxRecDepth 20000 in
theorem gX7_root__Jx4a65c_size_8abf5 : GoodIn wsX7_root_ (wsV RX7 27 RJx4a65c yJx4a65c_size_8abf5 wsJx4a65c_size_8abf5) := goodIn_app (goodIn_of _ (by decide +kernel)) ggX7_root__Jx4a65c_size_8abf5
theorem dX7_root__0 : decode cX7_root_ 0 = .ok (.lconst 0, 1) := by decide +kernel
theorem dX7_root__1 : decode cX7_root_ 1 = .ok (.lstore_n 3, 1) := by decide +kernel
theorem dX7_root__2 : decode cX7_root_ 2 = .ok (.iconst 0, 1) := by decide +kernel
theorem dX7_root__3 : decode cX7_root_ 3 = .ok (.istore 5, 2) := by decide +kernel
theorem dX7_root__5 : decode cX7_root_ 5 = .ok (.iload 5, 2) := by decide +kernel
theorem dX7_root__7 : decode cX7_root_ 7 = .ok (.aload_n 0, 1) := by decide +kernel
theorem dX7_root__8 : decode cX7_root_ 8 = .ok (.getfield 10, 3) := by decide +kernel
theorem dX7_root__11 : decode cX7_root_ 11 = .ok (.invokevirtual 27, 3) := by decide +kernel
theorem dX7_root__14 : decode cX7_root_ 14 = .ok (.if_icmp .ge 35, 3) := by decide +kernel
theorem dX7_root__49 : decode cX7_root_ 49 = .ok (.lload_n 3, 1) := by decide +kernel
theorem dX7_root__50 : decode cX7_root_ 50 = .ok (.lreturn, 1) := by decide +kernel
set_option maxRecDepth 20000 in
theorem ggX7_value_X7_whole_ : GoodIn wsX7_value wsX7_whole_ := goodIn_ca (goodIn_r _ [6, 7, 8, 9, 10, 11, 12, 13, 14, 15, 5, 16, 17, 18, 19, 27, 28, 29, 30, 31, 32, 33] (by decide +kernel) (by decide +kernel)) (goodIn_sub (fun _ h => List.mem_cons_of_mem _ (List.mem_append_right _ h)) (by decide +kernel))
set_option maxRecDepth 20000 in
theorem gX7_value_X7_whole_ : GoodIn wsX7_value (wsV RX7 118 RX7 yX7_whole_ wsX7_whole_) := goodIn_app (goodIn_of _ (by decide +kernel)) ggX7_value_X7_whole_
set_option maxRecDepth 20000 in
theorem ggX7_value_X7_root_ : GoodIn wsX7_value wsX7_root_ := goodIn_ca (goodIn_r _ [23, 7, 8, 9, 10, 11, 12, 13, 14, 15, 5, 16, 24, 25, 26, 27, 28, 29, 30, 31, 32, 33] (by decide +kernel) (by decide +kernel)) (goodIn_sub (fun _ h => List.mem_cons_of_mem _ (List.mem_append_right _ h)) (by decide +kernel))
set_option maxRecDepth 20000 in
theorem gX7_value_X7_root_ : GoodIn wsX7_value (wsV RX7 123 RX7 yX7_root_ wsX7_root_) := goodIn_app (goodIn_of _ (by decide +kernel)) ggX7_value_X7_root_
theorem dX7_value_0 : decode cX7_value 0 = .ok (.aload_n 0, 1) := by decide +kernel
theorem dX7_value_1 : decode cX7_value 1 = .ok (.iload_n 1, 1) := by decide +kernel
theorem dX7_value_2 : decode cX7_value 2 = .ok (.aload_n 2, 1) := by decide +kernel
theorem dX7_value_3 : decode cX7_value 3 = .ok (.invokevirtual 118, 3) := by decide +kernel
theorem dX7_value_6 : decode cX7_value 6 = .ok (.l2d, 1) := by decide +kernel
theorem dX7_value_7 : decode cX7_value 7 = .ok (.ldc2_w 121, 3) := by decide +kernel
theorem dX7_value_10 : decode cX7_value 10 = .ok (.aload_n 0, 1) := by decide +kernel
theorem dX7_value_11 : decode cX7_value 11 = .ok (.iload_n 1, 1) := by decide +kernel
theorem dX7_value_12 : decode cX7_value 12 = .ok (.aload_n 2, 1) := by decide +kernel
theorem dX7_value_13 : decode cX7_value 13 = .ok (.invokevirtual 123, 3) := by decide +kernel
theorem dX7_value_16 : decode cX7_value 16 = .ok (.l2d, 1) := by decide +kernel
theorem dX7_value_17 : decode cX7_value 17 = .ok (.dmul, 1) := by decide +kernel
theorem dX7_value_18 : decode cX7_value 18 = .ok (.dadd, 1) := by decide +kernel
theorem dX7_value_19 : decode cX7_value 19 = .ok (.dreturn, 1) := by decide +kernel
set_option maxRecDepth 20000 in
theorem ggX7_power_X7_root_ : GoodIn wsX7_power wsX7_root_ := goodIn_ca (goodIn_r _ [5, 6, 7, 8, 9, 10, 11, 12, 13, 14, 4, 15, 16, 17, 18, 26, 27, 28, 29, 30, 31, 32] (by decide +kernel) (by decide +kernel)) (goodIn_sub (fun _ h => List.mem_cons_of_mem _ (List.mem_append_right _ h)) (by decide +kernel))
set_option maxRecDepth 20000 in
theorem gX7_power_X7_root_ : GoodIn wsX7_power (wsV RX7 123 RX7 yX7_root_ wsX7_root_) := goodIn_app (goodIn_of _ (by decide +kernel)) ggX7_power_X7_root_
set_option maxRecDepth 20000 in
theorem ggX7_power_X7_whole_ : GoodIn wsX7_power wsX7_whole_ := goodIn_ca (goodIn_r _ [22, 6, 7, 8, 9, 10, 11, 12, 13, 14, 4, 15, 23, 24, 25, 26, 27, 28, 29, 30, 31, 32] (by decide +kernel) (by decide +kernel)) (goodIn_sub (fun _ h => List.mem_cons_of_mem _ (List.mem_append_right _ h)) (by decide +kernel))
set_option maxRecDepth 20000 in
theorem gX7_power_X7_whole_ : GoodIn wsX7_power (wsV RX7 118 RX7 yX7_whole_ wsX7_whole_) := goodIn_app (goodIn_of _ (by decide +kernel)) ggX7_power_X7_whole_
theorem dX7_power_0 : decode cX7_power 0 = .ok (.lconst 0, 1) := by decide +kernel
theorem dX7_power_1 : decode cX7_power 1 = .ok (.lstore_n 3, 1) := by decide +kernel
theorem dX7_power_2 : decode cX7_power 2 = .ok (.iconst 0, 1) := by decide +kernel
theorem dX7_power_3 : decode cX7_power 3 = .ok (.istore 5, 2) := by decide +kernel
theorem dX7_power_5 : decode cX7_power 5 = .ok (.iload 5, 2) := by decide +kernel
theorem dX7_power_7 : decode cX7_power 7 = .ok (.bipush 8, 2) := by decide +kernel
theorem dX7_power_9 : decode cX7_power 9 = .ok (.if_icmp .ge 33, 3) := by decide +kernel
theorem dX7_power_12 : decode cX7_power 12 = .ok (.lload_n 3, 1) := by decide +kernel
theorem dX7_power_13 : decode cX7_power 13 = .ok (.iload_n 2, 1) := by decide +kernel
theorem dX7_power_14 : decode cX7_power 14 = .ok (.ifCond .eq 13, 3) := by decide +kernel
theorem dX7_power_17 : decode cX7_power 17 = .ok (.aload_n 0, 1) := by decide +kernel
theorem dX7_power_18 : decode cX7_power 18 = .ok (.iload 5, 2) := by decide +kernel
theorem dX7_power_20 : decode cX7_power 20 = .ok (.aload_n 1, 1) := by decide +kernel
theorem dX7_power_21 : decode cX7_power 21 = .ok (.invokevirtual 123, 3) := by decide +kernel
theorem dX7_power_24 : decode cX7_power 24 = .ok (.goto 10, 3) := by decide +kernel
theorem dX7_power_27 : decode cX7_power 27 = .ok (.aload_n 0, 1) := by decide +kernel
theorem dX7_power_28 : decode cX7_power 28 = .ok (.iload 5, 2) := by decide +kernel
theorem dX7_power_30 : decode cX7_power 30 = .ok (.aload_n 1, 1) := by decide +kernel
theorem dX7_power_31 : decode cX7_power 31 = .ok (.invokevirtual 118, 3) := by decide +kernel
theorem dX7_power_34 : decode cX7_power 34 = .ok (.ladd, 1) := by decide +kernel
theorem dX7_power_35 : decode cX7_power 35 = .ok (.lstore_n 3, 1) := by decide +kernel
theorem dX7_power_36 : decode cX7_power 36 = .ok (.iinc 5 1, 3) := by decide +kernel
theorem dX7_power_39 : decode cX7_power 39 = .ok (.goto (-34), 3) := by decide +kernel
theorem dX7_power_42 : decode cX7_power 42 = .ok (.lload_n 3, 1) := by decide +kernel
theorem dX7_power_43 : decode cX7_power 43 = .ok (.lreturn, 1) := by decide +kernel
set_option maxRecDepth 20000 in
theorem ggX7_brightest_X7_value : GoodIn wsX7_brightest wsX7_value := goodIn_ca (goodIn_r _ [5, 6, 7, 8, 9, 4, 10, 11, 12, 13, 14, 15, 16, 17, 18, 19, 20, 21, 22, 23, 24, 25, 26, 27, 28, 29, 30, 31, 32, 33, 34, 35, 36, 37] (by decide +kernel) (by decide +kernel)) (goodIn_sub (fun _ h => List.mem_cons_of_mem _ (List.mem_append_right _ h)) (by decide +kernel))
set_option maxRecDepth 20000 in
theorem gX7_brightest_X7_value : GoodIn wsX7_brightest (wsV RX7 125 RX7 yX7_value wsX7_value) := goodIn_app (goodIn_of _ (by decide +kernel)) ggX7_brightest_X7_value
theorem dX7_brightest_0 : decode cX7_brightest 0 = .ok (.iconst 0, 1) := by decide +kernel
theorem dX7_brightest_1 : decode cX7_brightest 1 = .ok (.istore_n 2, 1) := by decide +kernel
theorem dX7_brightest_2 : decode cX7_brightest 2 = .ok (.iconst 1, 1) := by decide +kernel
theorem dX7_brightest_3 : decode cX7_brightest 3 = .ok (.istore_n 3, 1) := by decide +kernel
theorem dX7_brightest_4 : decode cX7_brightest 4 = .ok (.iload_n 3, 1) := by decide +kernel
theorem dX7_brightest_5 : decode cX7_brightest 5 = .ok (.bipush 8, 2) := by decide +kernel
theorem dX7_brightest_7 : decode cX7_brightest 7 = .ok (.if_icmp .ge 27, 3) := by decide +kernel
theorem dX7_brightest_10 : decode cX7_brightest 10 = .ok (.aload_n 0, 1) := by decide +kernel
theorem dX7_brightest_11 : decode cX7_brightest 11 = .ok (.iload_n 3, 1) := by decide +kernel
theorem dX7_brightest_12 : decode cX7_brightest 12 = .ok (.aload_n 1, 1) := by decide +kernel
theorem dX7_brightest_13 : decode cX7_brightest 13 = .ok (.invokevirtual 125, 3) := by decide +kernel
theorem dX7_brightest_16 : decode cX7_brightest 16 = .ok (.aload_n 0, 1) := by decide +kernel
theorem dX7_brightest_17 : decode cX7_brightest 17 = .ok (.iload_n 2, 1) := by decide +kernel
theorem dX7_brightest_18 : decode cX7_brightest 18 = .ok (.aload_n 1, 1) := by decide +kernel
theorem dX7_brightest_19 : decode cX7_brightest 19 = .ok (.invokevirtual 125, 3) := by decide +kernel
theorem dX7_brightest_22 : decode cX7_brightest 22 = .ok (.dcmp .l, 1) := by decide +kernel
theorem dX7_brightest_23 : decode cX7_brightest 23 = .ok (.ifCond .le 5, 3) := by decide +kernel
theorem dX7_brightest_28 : decode cX7_brightest 28 = .ok (.iinc 3 1, 3) := by decide +kernel
theorem dX7_brightest_31 : decode cX7_brightest 31 = .ok (.goto (-27), 3) := by decide +kernel
theorem dX7_brightest_34 : decode cX7_brightest 34 = .ok (.iload_n 2, 1) := by decide +kernel
theorem dX7_brightest_35 : decode cX7_brightest 35 = .ok (.ireturn, 1) := by decide +kernel
set_option maxRecDepth 20000 in
theorem ggX7_dark_X7_whole_ : GoodIn wsX7_dark wsX7_whole_ := goodIn_ca (goodIn_r _ [5, 6, 7, 8, 9, 10, 11, 12, 13, 14, 4, 15, 16, 17, 18, 26, 27, 28, 29, 30, 31, 32] (by decide +kernel) (by decide +kernel)) (goodIn_sub (fun _ h => List.mem_cons_of_mem _ (List.mem_append_right _ h)) (by decide +kernel))
set_option maxRecDepth 20000 in
theorem gX7_dark_X7_whole_ : GoodIn wsX7_dark (wsV RX7 118 RX7 yX7_whole_ wsX7_whole_) := goodIn_app (goodIn_of _ (by decide +kernel)) ggX7_dark_X7_whole_
set_option maxRecDepth 20000 in
theorem ggX7_dark_X7_root_ : GoodIn wsX7_dark wsX7_root_ := goodIn_ca (goodIn_r _ [22, 6, 7, 8, 9, 10, 11, 12, 13, 14, 4, 15, 23, 24, 25, 26, 27, 28, 29, 30, 31, 32] (by decide +kernel) (by decide +kernel)) (goodIn_sub (fun _ h => List.mem_cons_of_mem _ (List.mem_append_right _ h)) (by decide +kernel))
set_option maxRecDepth 20000 in
theorem gX7_dark_X7_root_ : GoodIn wsX7_dark (wsV RX7 123 RX7 yX7_root_ wsX7_root_) := goodIn_app (goodIn_of _ (by decide +kernel)) ggX7_dark_X7_root_
theorem dX7_dark_0 : decode cX7_dark 0 = .ok (.iconst 0, 1) := by decide +kernel
theorem dX7_dark_1 : decode cX7_dark 1 = .ok (.istore_n 2, 1) := by decide +kernel
theorem dX7_dark_2 : decode cX7_dark 2 = .ok (.iconst 0, 1) := by decide +kernel
theorem dX7_dark_3 : decode cX7_dark 3 = .ok (.istore_n 3, 1) := by decide +kernel
theorem dX7_dark_4 : decode cX7_dark 4 = .ok (.iload_n 3, 1) := by decide +kernel
theorem dX7_dark_5 : decode cX7_dark 5 = .ok (.bipush 8, 2) := by decide +kernel
theorem dX7_dark_7 : decode cX7_dark 7 = .ok (.if_icmp .ge 41, 3) := by decide +kernel
theorem dX7_dark_10 : decode cX7_dark 10 = .ok (.iload_n 2, 1) := by decide +kernel
theorem dX7_dark_11 : decode cX7_dark 11 = .ok (.aload_n 0, 1) := by decide +kernel
theorem dX7_dark_12 : decode cX7_dark 12 = .ok (.iload_n 3, 1) := by decide +kernel
theorem dX7_dark_13 : decode cX7_dark 13 = .ok (.aload_n 1, 1) := by decide +kernel
theorem dX7_dark_14 : decode cX7_dark 14 = .ok (.invokevirtual 118, 3) := by decide +kernel
theorem dX7_dark_17 : decode cX7_dark 17 = .ok (.lconst 0, 1) := by decide +kernel
theorem dX7_dark_18 : decode cX7_dark 18 = .ok (.lcmp, 1) := by decide +kernel
theorem dX7_dark_19 : decode cX7_dark 19 = .ok (.ifCond .ne 20, 3) := by decide +kernel
theorem dX7_dark_22 : decode cX7_dark 22 = .ok (.aload_n 0, 1) := by decide +kernel
theorem dX7_dark_23 : decode cX7_dark 23 = .ok (.iload_n 3, 1) := by decide +kernel
theorem dX7_dark_24 : decode cX7_dark 24 = .ok (.aload_n 1, 1) := by decide +kernel
theorem dX7_dark_25 : decode cX7_dark 25 = .ok (.invokevirtual 123, 3) := by decide +kernel
theorem dX7_dark_28 : decode cX7_dark 28 = .ok (.lconst 0, 1) := by decide +kernel
theorem dX7_dark_29 : decode cX7_dark 29 = .ok (.lcmp, 1) := by decide +kernel
theorem dX7_dark_30 : decode cX7_dark 30 = .ok (.ifCond .ne 9, 3) := by decide +kernel
theorem dX7_dark_33 : decode cX7_dark 33 = .ok (.iconst 1, 1) := by decide +kernel
theorem dX7_dark_34 : decode cX7_dark 34 = .ok (.iload_n 3, 1) := by decide +kernel
theorem dX7_dark_35 : decode cX7_dark 35 = .ok (.ishl, 1) := by decide +kernel
theorem dX7_dark_36 : decode cX7_dark 36 = .ok (.goto 4, 3) := by decide +kernel
theorem dX7_dark_40 : decode cX7_dark 40 = .ok (.ior, 1) := by decide +kernel
theorem dX7_dark_41 : decode cX7_dark 41 = .ok (.istore_n 2, 1) := by decide +kernel
theorem dX7_dark_42 : decode cX7_dark 42 = .ok (.iinc 3 1, 3) := by decide +kernel
theorem dX7_dark_45 : decode cX7_dark 45 = .ok (.goto (-41), 3) := by decide +kernel
theorem dX7_dark_48 : decode cX7_dark 48 = .ok (.iload_n 2, 1) := by decide +kernel
theorem dX7_dark_49 : decode cX7_dark 49 = .ok (.ireturn, 1) := by decide +kernel
set_option maxRecDepth 20000 in
theorem ggX7_period_X7_whole_ : GoodIn wsX7_period wsX7_whole_ := goodIn_ca (goodIn_r _ [5, 6, 7, 8, 9, 10, 11, 12, 13, 14, 4, 15, 16, 17, 18, 26, 27, 28, 29, 30, 31, 32] (by decide +kernel) (by decide +kernel)) (goodIn_sub (fun _ h => List.mem_cons_of_mem _ (List.mem_append_right _ h)) (by decide +kernel))
set_option maxRecDepth 20000 in
theorem gX7_period_X7_whole_ : GoodIn wsX7_period (wsV RX7 118 RX7 yX7_whole_ wsX7_whole_) := goodIn_app (goodIn_of _ (by decide +kernel)) ggX7_period_X7_whole_
set_option maxRecDepth 20000 in
theorem ggX7_period_X7_root_ : GoodIn wsX7_period wsX7_root_ := goodIn_ca (goodIn_r _ [22, 6, 7, 8, 9, 10, 11, 12, 13, 14, 4, 15, 23, 24, 25, 26, 27, 28, 29, 30, 31, 32] (by decide +kernel) (by decide +kernel)) (goodIn_sub (fun _ h => List.mem_cons_of_mem _ (List.mem_append_right _ h)) (by decide +kernel))
set_option maxRecDepth 20000 in
theorem gX7_period_X7_root_ : GoodIn wsX7_period (wsV RX7 123 RX7 yX7_root_ wsX7_root_) := goodIn_app (goodIn_of _ (by decide +kernel)) ggX7_period_X7_root_
theorem dX7_period_0 : decode cX7_period 0 = .ok (.iconst 1, 1) := by decide +kernel
theorem dX7_period_1 : decode cX7_period 1 = .ok (.istore_n 2, 1) := by decide +kernel
theorem dX7_period_2 : decode cX7_period 2 = .ok (.iload_n 2, 1) := by decide +kernel
theorem dX7_period_3 : decode cX7_period 3 = .ok (.bipush 8, 2) := by decide +kernel
theorem dX7_period_5 : decode cX7_period 5 = .ok (.if_icmp .ge 86, 3) := by decide +kernel
theorem dX7_period_8 : decode cX7_period 8 = .ok (.iconst 1, 1) := by decide +kernel
theorem dX7_period_9 : decode cX7_period 9 = .ok (.istore_n 3, 1) := by decide +kernel
theorem dX7_period_10 : decode cX7_period 10 = .ok (.iconst 0, 1) := by decide +kernel
theorem dX7_period_11 : decode cX7_period 11 = .ok (.istore 4, 2) := by decide +kernel
theorem dX7_period_13 : decode cX7_period 13 = .ok (.iload 4, 2) := by decide +kernel
theorem dX7_period_15 : decode cX7_period 15 = .ok (.bipush 8, 2) := by decide +kernel
theorem dX7_period_17 : decode cX7_period 17 = .ok (.if_icmp .ge 62, 3) := by decide +kernel
theorem dX7_period_20 : decode cX7_period 20 = .ok (.iload 4, 2) := by decide +kernel
theorem dX7_period_22 : decode cX7_period 22 = .ok (.iload_n 2, 1) := by decide +kernel
theorem dX7_period_23 : decode cX7_period 23 = .ok (.iadd, 1) := by decide +kernel
theorem dX7_period_24 : decode cX7_period 24 = .ok (.bipush 8, 2) := by decide +kernel
theorem dX7_period_26 : decode cX7_period 26 = .ok (.irem, 1) := by decide +kernel
theorem dX7_period_27 : decode cX7_period 27 = .ok (.istore 5, 2) := by decide +kernel
theorem dX7_period_29 : decode cX7_period 29 = .ok (.iload_n 3, 1) := by decide +kernel
theorem dX7_period_30 : decode cX7_period 30 = .ok (.aload_n 0, 1) := by decide +kernel
theorem dX7_period_31 : decode cX7_period 31 = .ok (.iload 4, 2) := by decide +kernel
theorem dX7_period_33 : decode cX7_period 33 = .ok (.aload_n 1, 1) := by decide +kernel
theorem dX7_period_34 : decode cX7_period 34 = .ok (.invokevirtual 118, 3) := by decide +kernel
theorem dX7_period_37 : decode cX7_period 37 = .ok (.aload_n 0, 1) := by decide +kernel
theorem dX7_period_38 : decode cX7_period 38 = .ok (.iload 5, 2) := by decide +kernel
theorem dX7_period_40 : decode cX7_period 40 = .ok (.aload_n 1, 1) := by decide +kernel
theorem dX7_period_41 : decode cX7_period 41 = .ok (.invokevirtual 118, 3) := by decide +kernel
theorem dX7_period_44 : decode cX7_period 44 = .ok (.lcmp, 1) := by decide +kernel
theorem dX7_period_45 : decode cX7_period 45 = .ok (.ifCond .ne 25, 3) := by decide +kernel
theorem dX7_period_48 : decode cX7_period 48 = .ok (.aload_n 0, 1) := by decide +kernel
theorem dX7_period_49 : decode cX7_period 49 = .ok (.iload 4, 2) := by decide +kernel
theorem dX7_period_51 : decode cX7_period 51 = .ok (.aload_n 1, 1) := by decide +kernel
theorem dX7_period_52 : decode cX7_period 52 = .ok (.invokevirtual 123, 3) := by decide +kernel
theorem dX7_period_55 : decode cX7_period 55 = .ok (.aload_n 0, 1) := by decide +kernel
theorem dX7_period_56 : decode cX7_period 56 = .ok (.iload 5, 2) := by decide +kernel
theorem dX7_period_58 : decode cX7_period 58 = .ok (.aload_n 1, 1) := by decide +kernel
theorem dX7_period_59 : decode cX7_period 59 = .ok (.invokevirtual 123, 3) := by decide +kernel
theorem dX7_period_62 : decode cX7_period 62 = .ok (.lcmp, 1) := by decide +kernel
theorem dX7_period_63 : decode cX7_period 63 = .ok (.ifCond .ne 7, 3) := by decide +kernel
theorem dX7_period_66 : decode cX7_period 66 = .ok (.iconst 1, 1) := by decide +kernel
theorem dX7_period_67 : decode cX7_period 67 = .ok (.goto 4, 3) := by decide +kernel
theorem dX7_period_71 : decode cX7_period 71 = .ok (.iand, 1) := by decide +kernel
theorem dX7_period_72 : decode cX7_period 72 = .ok (.istore_n 3, 1) := by decide +kernel
theorem dX7_period_73 : decode cX7_period 73 = .ok (.iinc 4 1, 3) := by decide +kernel
theorem dX7_period_76 : decode cX7_period 76 = .ok (.goto (-63), 3) := by decide +kernel
theorem dX7_period_79 : decode cX7_period 79 = .ok (.iload_n 3, 1) := by decide +kernel
theorem dX7_period_80 : decode cX7_period 80 = .ok (.ifCond .eq 5, 3) := by decide +kernel
theorem dX7_period_83 : decode cX7_period 83 = .ok (.iload_n 2, 1) := by decide +kernel
theorem dX7_period_84 : decode cX7_period 84 = .ok (.ireturn, 1) := by decide +kernel
set_option maxRecDepth 20000 in
theorem ggX7_isNoSource_X7_isNoPlace : GoodIn wsX7_isNoSource wsX7_isNoPlace := goodIn_r _ [4, 5, 6, 3, 7] (by decide +kernel) (by decide +kernel)
set_option maxRecDepth 20000 in
theorem gX7_isNoSource_X7_isNoPlace : GoodIn wsX7_isNoSource (va_wsS RX7 129 yX7_isNoPlace wsX7_isNoPlace) := goodIn_app (goodIn_of _ (by decide +kernel)) ggX7_isNoSource_X7_isNoPlace
set_option maxRecDepth 20000 in
theorem ggX7_isNoSource_X7_isIn : GoodIn wsX7_isNoSource wsX7_isIn := goodIn_r _ [7] (by decide +kernel) (by decide +kernel)
set_option maxRecDepth 20000 in
theorem gX7_isNoSource_X7_isIn : GoodIn wsX7_isNoSource (va_wsS RX7 31 yX7_isIn wsX7_isIn) := goodIn_app (goodIn_of _ (by decide +kernel)) ggX7_isNoSource_X7_isIn
theorem dX7_isNoSource_0 : decode cX7_isNoSource 0 = .ok (.iload_n 0, 1) := by decide +kernel
theorem dX7_isNoSource_1 : decode cX7_isNoSource 1 = .ok (.invokestatic 129, 3) := by decide +kernel
theorem dX7_isNoSource_4 : decode cX7_isNoSource 4 = .ok (.ifCond .ne 23, 3) := by decide +kernel
theorem dX7_isNoSource_7 : decode cX7_isNoSource 7 = .ok (.iload_n 1, 1) := by decide +kernel
theorem dX7_isNoSource_8 : decode cX7_isNoSource 8 = .ok (.iconst 0, 1) := by decide +kernel
theorem dX7_isNoSource_9 : decode cX7_isNoSource 9 = .ok (.bipush 7, 2) := by decide +kernel
theorem dX7_isNoSource_11 : decode cX7_isNoSource 11 = .ok (.invokestatic 31, 3) := by decide +kernel
theorem dX7_isNoSource_14 : decode cX7_isNoSource 14 = .ok (.ifCond .eq 13, 3) := by decide +kernel
theorem dX7_isNoSource_17 : decode cX7_isNoSource 17 = .ok (.iload_n 2, 1) := by decide +kernel
theorem dX7_isNoSource_18 : decode cX7_isNoSource 18 = .ok (.iconst 1, 1) := by decide +kernel
theorem dX7_isNoSource_19 : decode cX7_isNoSource 19 = .ok (.bipush 9, 2) := by decide +kernel
theorem dX7_isNoSource_21 : decode cX7_isNoSource 21 = .ok (.invokestatic 31, 3) := by decide +kernel
theorem dX7_isNoSource_24 : decode cX7_isNoSource 24 = .ok (.ifCond .ne 7, 3) := by decide +kernel
theorem dX7_isNoSource_27 : decode cX7_isNoSource 27 = .ok (.iconst 1, 1) := by decide +kernel
theorem dX7_isNoSource_28 : decode cX7_isNoSource 28 = .ok (.goto 4, 3) := by decide +kernel
theorem dX7_isNoSource_31 : decode cX7_isNoSource 31 = .ok (.iconst 0, 1) := by decide +kernel
theorem dX7_isNoSource_32 : decode cX7_isNoSource 32 = .ok (.ireturn, 1) := by decide +kernel
set_option maxRecDepth 20000 in
theorem ggX7_source_X7_isNoSource : GoodIn wsX7_source wsX7_isNoSource := goodIn_r _ [8, 9, 10, 7, 11, 12, 13, 14] (by decide +kernel) (by decide +kernel)
set_option maxRecDepth 20000 in
theorem gX7_source_X7_isNoSource : GoodIn wsX7_source (va_wsS RX7 132 yX7_isNoSource wsX7_isNoSource) := goodIn_app (goodIn_of _ (by decide +kernel)) ggX7_source_X7_isNoSource
set_option maxRecDepth 20000 in
theorem ggX7_source_X7_start : GoodIn wsX7_source wsX7_start := goodIn_r _ [18, 19, 20, 21, 22, 7, 23, 96, 97, 98, 99] (by decide +kernel) (by decide +kernel)
set_option maxRecDepth 20000 in
theorem gX7_source_X7_start : GoodIn wsX7_source (wsV RX7 135 RX7 yX7_start wsX7_start) := goodIn_app (goodIn_of _ (by decide +kernel)) ggX7_source_X7_start
set_option maxRecDepth 20000 in
theorem ggX7_source_Jx4a65c_size_8abf5 : GoodIn wsX7_source wsJx4a65c_size_8abf5 := goodIn_r _ [28, 29, 103, 104, 105] (by decide +kernel) (by decide +kernel)
set_option maxRecDepth 20000 in
theorem gX7_source_Jx4a65c_size_8abf5 : GoodIn wsX7_source (wsV RX7 27 RJx4a65c yJx4a65c_size_8abf5 wsJx4a65c_size_8abf5) := goodIn_app (goodIn_of _ (by decide +kernel)) ggX7_source_Jx4a65c_size_8abf5
set_option maxRecDepth 20000 in
theorem ggX7_source_X7_refuse : GoodIn wsX7_source wsX7_refuse := goodIn_r _ [23, 19, 96, 97, 98, 99] (by decide +kernel) (by decide +kernel)
set_option maxRecDepth 20000 in
theorem gX7_source_X7_refuse : GoodIn wsX7_source (wsV RX7 23 RX7 yX7_refuse wsX7_refuse) := goodIn_app (goodIn_of _ (by decide +kernel)) ggX7_source_X7_refuse
set_option maxRecDepth 20000 in
theorem ggX7_source_X6_init : GoodIn wsX7_source wsX6_init := goodIn_r _ [31, 32, 33, 34] (by decide +kernel) (by decide +kernel)
set_option maxRecDepth 20000 in
theorem gX7_source_X6_init_n138 : GoodIn wsX7_source (wsX6_init) := ggX7_source_X6_init
set_option maxRecDepth 20000 in
theorem ggX7_source_X6_tell : GoodIn wsX7_source wsX6_tell := goodIn_r _ [38, 39, 40, 41, 100, 101, 102] (by decide +kernel) (by decide +kernel)
set_option maxRecDepth 20000 in
theorem gX7_source_X6_tell : GoodIn wsX7_source (wsV RX7 139 RX6 yX6_tell wsX6_tell) := goodIn_app (goodIn_of _ (by decide +kernel)) ggX7_source_X6_tell
set_option maxRecDepth 20000 in
theorem ggX7_source_Jx4a65c_add_9ea2d : GoodIn wsX7_source wsJx4a65c_add_9ea2d := goodIn_r _ [45, 46, 47, 48, 29, 49, 50, 51, 27, 52, 53, 54, 55, 56, 57, 58, 59, 60, 61, 62, 63, 64, 65, 66, 67, 68, 69, 70, 71, 72, 73, 74, 75, 76, 77, 78, 79, 80, 81, 82, 83, 84, 85, 86, 87, 88, 89, 90, 91, 92, 93, 94, 95, 103, 104, 105] (by decide +kernel) (by decide +kernel)
set_option maxRecDepth 20000 in
theorem gX7_source_Jx4a65c_add_9ea2d : GoodIn wsX7_source (wsV RX7 143 RJx4a65c yJx4a65c_add_9ea2d wsJx4a65c_add_9ea2d) := goodIn_app (goodIn_of _ (by decide +kernel)) ggX7_source_Jx4a65c_add_9ea2d
theorem dX7_source_0 : decode cX7_source 0 = .ok (.aload_n 0, 1) := by decide +kernel
theorem dX7_source_1 : decode cX7_source 1 = .ok (.iload_n 1, 1) := by decide +kernel
theorem dX7_source_2 : decode cX7_source 2 = .ok (.iload_n 2, 1) := by decide +kernel
theorem dX7_source_3 : decode cX7_source 3 = .ok (.iload_n 3, 1) := by decide +kernel
theorem dX7_source_4 : decode cX7_source 4 = .ok (.invokestatic 132, 3) := by decide +kernel
theorem dX7_source_7 : decode cX7_source 7 = .ok (.iconst 1, 1) := by decide +kernel
theorem dX7_source_8 : decode cX7_source 8 = .ok (.invokevirtual 135, 3) := by decide +kernel
theorem dX7_source_11 : decode cX7_source 11 = .ok (.ifCond .ne 27, 3) := by decide +kernel
theorem dX7_source_14 : decode cX7_source 14 = .ok (.aload_n 0, 1) := by decide +kernel
theorem dX7_source_15 : decode cX7_source 15 = .ok (.aload_n 0, 1) := by decide +kernel
theorem dX7_source_16 : decode cX7_source 16 = .ok (.getfield 10, 3) := by decide +kernel
theorem dX7_source_19 : decode cX7_source 19 = .ok (.invokevirtual 27, 3) := by decide +kernel
theorem dX7_source_22 : decode cX7_source 22 = .ok (.iconst 3, 1) := by decide +kernel
theorem dX7_source_23 : decode cX7_source 23 = .ok (.if_icmp .ne 7, 3) := by decide +kernel
theorem dX7_source_30 : decode cX7_source 30 = .ok (.iconst 0, 1) := by decide +kernel
theorem dX7_source_31 : decode cX7_source 31 = .ok (.iconst 2, 1) := by decide +kernel
theorem dX7_source_32 : decode cX7_source 32 = .ok (.invokevirtual 23, 3) := by decide +kernel
theorem dX7_source_35 : decode cX7_source 35 = .ok (.ifCond .eq 5, 3) := by decide +kernel
theorem dX7_source_38 : decode cX7_source 38 = .ok (.iconst 0, 1) := by decide +kernel
theorem dX7_source_39 : decode cX7_source 39 = .ok (.ireturn, 1) := by decide +kernel
theorem dX7_source_40 : decode cX7_source 40 = .ok (.new 50, 3) := by decide +kernel
theorem dX7_source_43 : decode cX7_source 43 = .ok (.dup, 1) := by decide +kernel
theorem dX7_source_44 : decode cX7_source 44 = .ok (.invokespecial 138, 3) := by decide +kernel
theorem dX7_source_47 : decode cX7_source 47 = .ok (.astore 4, 2) := by decide +kernel
theorem dX7_source_49 : decode cX7_source 49 = .ok (.aload 4, 2) := by decide +kernel
theorem dX7_source_51 : decode cX7_source 51 = .ok (.iload_n 1, 1) := by decide +kernel
theorem dX7_source_52 : decode cX7_source 52 = .ok (.iload_n 2, 1) := by decide +kernel
theorem dX7_source_53 : decode cX7_source 53 = .ok (.iload_n 3, 1) := by decide +kernel
theorem dX7_source_54 : decode cX7_source 54 = .ok (.invokevirtual 139, 3) := by decide +kernel
theorem dX7_source_57 : decode cX7_source 57 = .ok (.aload_n 0, 1) := by decide +kernel
theorem dX7_source_58 : decode cX7_source 58 = .ok (.getfield 10, 3) := by decide +kernel
theorem dX7_source_61 : decode cX7_source 61 = .ok (.aload 4, 2) := by decide +kernel
theorem dX7_source_63 : decode cX7_source 63 = .ok (.invokevirtual 143, 3) := by decide +kernel
theorem dX7_source_66 : decode cX7_source 66 = .ok (.pop, 1) := by decide +kernel
theorem dX7_source_67 : decode cX7_source 67 = .ok (.aload_n 0, 1) := by decide +kernel
theorem dX7_source_68 : decode cX7_source 68 = .ok (.getfield 10, 3) := by decide +kernel
theorem dX7_source_71 : decode cX7_source 71 = .ok (.invokevirtual 27, 3) := by decide +kernel
theorem dX7_source_74 : decode cX7_source 74 = .ok (.iconst 1, 1) := by decide +kernel
theorem dX7_source_75 : decode cX7_source 75 = .ok (.isub, 1) := by decide +kernel
theorem dX7_source_76 : decode cX7_source 76 = .ok (.ireturn, 1) := by decide +kernel
set_option maxRecDepth 20000 in
theorem ggX7_move_Jx4a65c_size_8abf5 : GoodIn wsX7_move wsJx4a65c_size_8abf5 := goodIn_r _ [8, 9, 61, 62, 63] (by decide +kernel) (by decide +kernel)
set_option maxRecDepth 20000 in
theorem gX7_move_Jx4a65c_size_8abf5 : GoodIn wsX7_move (wsV RX7 27 RJx4a65c yJx4a65c_size_8abf5 wsJx4a65c_size_8abf5) := goodIn_app (goodIn_of _ (by decide +kernel)) ggX7_move_Jx4a65c_size_8abf5
set_option maxRecDepth 20000 in
theorem ggX7_move_X7_isIn : GoodIn wsX7_move wsX7_isIn := goodIn_r _ [13] (by decide +kernel) (by decide +kernel)
set_option maxRecDepth 20000 in
theorem gX7_move_X7_isIn : GoodIn wsX7_move (va_wsS RX7 31 yX7_isIn wsX7_isIn) := goodIn_app (goodIn_of _ (by decide +kernel)) ggX7_move_X7_isIn
set_option maxRecDepth 20000 in
theorem ggX7_move_X7_start : GoodIn wsX7_move wsX7_start := goodIn_r _ [17, 18, 19, 20, 21, 12, 22, 54, 55, 56, 57] (by decide +kernel) (by decide +kernel)
set_option maxRecDepth 20000 in
theorem gX7_move_X7_start : GoodIn wsX7_move (wsV RX7 135 RX7 yX7_start wsX7_start) := goodIn_app (goodIn_of _ (by decide +kernel)) ggX7_move_X7_start
theorem dX7_move_0 : decode cX7_move 0 = .ok (.aload_n 0, 1) := by decide +kernel
theorem dX7_move_1 : decode cX7_move 1 = .ok (.iload_n 1, 1) := by decide +kernel
theorem dX7_move_2 : decode cX7_move 2 = .ok (.iconst 0, 1) := by decide +kernel
theorem dX7_move_3 : decode cX7_move 3 = .ok (.aload_n 0, 1) := by decide +kernel
theorem dX7_move_4 : decode cX7_move 4 = .ok (.getfield 10, 3) := by decide +kernel
theorem dX7_move_7 : decode cX7_move 7 = .ok (.invokevirtual 27, 3) := by decide +kernel
theorem dX7_move_10 : decode cX7_move 10 = .ok (.iconst 1, 1) := by decide +kernel
theorem dX7_move_11 : decode cX7_move 11 = .ok (.isub, 1) := by decide +kernel
theorem dX7_move_12 : decode cX7_move 12 = .ok (.invokestatic 31, 3) := by decide +kernel
theorem dX7_move_15 : decode cX7_move 15 = .ok (.ifCond .ne 7, 3) := by decide +kernel
theorem dX7_move_18 : decode cX7_move 18 = .ok (.iconst 1, 1) := by decide +kernel
theorem dX7_move_19 : decode cX7_move 19 = .ok (.goto 4, 3) := by decide +kernel
theorem dX7_move_23 : decode cX7_move 23 = .ok (.iconst 1, 1) := by decide +kernel
theorem dX7_move_24 : decode cX7_move 24 = .ok (.invokevirtual 135, 3) := by decide +kernel
theorem dX7_move_27 : decode cX7_move 27 = .ok (.ifCond .ne 18, 3) := by decide +kernel
theorem dX7_move_45 : decode cX7_move 45 = .ok (.iconst 0, 1) := by decide +kernel
theorem dX7_move_46 : decode cX7_move 46 = .ok (.ireturn, 1) := by decide +kernel
set_option maxRecDepth 20000 in
theorem ggX7_part_X7_isIn : GoodIn wsX7_part wsX7_isIn := goodIn_r _ [8] (by decide +kernel) (by decide +kernel)
set_option maxRecDepth 20000 in
theorem gX7_part_X7_isIn : GoodIn wsX7_part (va_wsS RX7 31 yX7_isIn wsX7_isIn) := goodIn_app (goodIn_of _ (by decide +kernel)) ggX7_part_X7_isIn
set_option maxRecDepth 20000 in
theorem ggX7_part_X7_isNoNumber : GoodIn wsX7_part wsX7_isNoNumber := goodIn_ca (goodIn_r _ [11, 12, 13, 5, 6, 7, 8] (by decide +kernel) (by decide +kernel)) (goodIn_sub (fun _ h => List.mem_cons_of_mem _ (List.mem_append_right _ h)) (by decide +kernel))
set_option maxRecDepth 20000 in
theorem gX7_part_X7_isNoNumber : GoodIn wsX7_part (va_wsS RX7 146 yX7_isNoNumber wsX7_isNoNumber) := goodIn_app (goodIn_of _ (by decide +kernel)) ggX7_part_X7_isNoNumber
set_option maxRecDepth 20000 in
theorem ggX7_part_X7_start : GoodIn wsX7_part wsX7_start := goodIn_r _ [17, 18, 19, 20, 21, 7, 22, 94, 95, 96, 97] (by decide +kernel) (by decide +kernel)
set_option maxRecDepth 20000 in
theorem gX7_part_X7_start : GoodIn wsX7_part (wsV RX7 135 RX7 yX7_start wsX7_start) := goodIn_app (goodIn_of _ (by decide +kernel)) ggX7_part_X7_start
set_option maxRecDepth 20000 in
theorem ggX7_part_Jx4a65c_size_8abf5 : GoodIn wsX7_part wsJx4a65c_size_8abf5 := goodIn_r _ [27, 28, 104, 105, 106] (by decide +kernel) (by decide +kernel)
set_option maxRecDepth 20000 in
theorem gX7_part_Jx4a65c_size_8abf5 : GoodIn wsX7_part (wsV RX7 27 RJx4a65c yJx4a65c_size_8abf5 wsJx4a65c_size_8abf5) := goodIn_app (goodIn_of _ (by decide +kernel)) ggX7_part_Jx4a65c_size_8abf5
set_option maxRecDepth 20000 in
theorem ggX7_part_X7_refuse : GoodIn wsX7_part wsX7_refuse := goodIn_r _ [22, 18, 94, 95, 96, 97] (by decide +kernel) (by decide +kernel)
set_option maxRecDepth 20000 in
theorem gX7_part_X7_refuse : GoodIn wsX7_part (wsV RX7 23 RX7 yX7_refuse wsX7_refuse) := goodIn_app (goodIn_of _ (by decide +kernel)) ggX7_part_X7_refuse
set_option maxRecDepth 20000 in
theorem ggX7_part_X5_init : GoodIn wsX7_part wsX5_init := goodIn_r _ [31, 32, 33, 34, 35, 36, 37, 38, 39, 98, 99, 100, 101, 102, 103] (by decide +kernel) (by decide +kernel)
set_option maxRecDepth 20000 in
theorem gX7_part_X5_init : GoodIn wsX7_part (wsX5_init) := ggX7_part_X5_init
set_option maxRecDepth 20000 in
theorem ggX7_part_Jx4a65c_add_9ea2d : GoodIn wsX7_part wsJx4a65c_add_9ea2d := goodIn_r _ [43, 44, 45, 46, 28, 47, 48, 49, 26, 50, 51, 52, 53, 54, 55, 56, 57, 58, 59, 60, 61, 62, 63, 64, 65, 66, 67, 68, 69, 70, 71, 72, 73, 74, 75, 76, 77, 78, 79, 80, 81, 82, 83, 84, 85, 86, 87, 88, 89, 90, 91, 92, 93, 104, 105, 106] (by decide +kernel) (by decide +kernel)
set_option maxRecDepth 20000 in
theorem gX7_part_Jx4a65c_add_9ea2d : GoodIn wsX7_part (wsV RX7 143 RJx4a65c yJx4a65c_add_9ea2d wsJx4a65c_add_9ea2d) := goodIn_app (goodIn_of _ (by decide +kernel)) ggX7_part_Jx4a65c_add_9ea2d
theorem dX7_part_0 : decode cX7_part 0 = .ok (.aload_n 0, 1) := by decide +kernel
theorem dX7_part_1 : decode cX7_part 1 = .ok (.iload_n 1, 1) := by decide +kernel
theorem dX7_part_2 : decode cX7_part 2 = .ok (.iconst 0, 1) := by decide +kernel
theorem dX7_part_3 : decode cX7_part 3 = .ok (.bipush 10, 2) := by decide +kernel
theorem dX7_part_5 : decode cX7_part 5 = .ok (.invokestatic 31, 3) := by decide +kernel
theorem dX7_part_8 : decode cX7_part 8 = .ok (.ifCond .eq 11, 3) := by decide +kernel
theorem dX7_part_11 : decode cX7_part 11 = .ok (.iload_n 1, 1) := by decide +kernel
theorem dX7_part_12 : decode cX7_part 12 = .ok (.iload_n 2, 1) := by decide +kernel
theorem dX7_part_13 : decode cX7_part 13 = .ok (.invokestatic 146, 3) := by decide +kernel
theorem dX7_part_16 : decode cX7_part 16 = .ok (.ifCond .eq 7, 3) := by decide +kernel
theorem dX7_part_19 : decode cX7_part 19 = .ok (.iconst 1, 1) := by decide +kernel
theorem dX7_part_20 : decode cX7_part 20 = .ok (.goto 4, 3) := by decide +kernel
theorem dX7_part_23 : decode cX7_part 23 = .ok (.iconst 0, 1) := by decide +kernel
theorem dX7_part_24 : decode cX7_part 24 = .ok (.iconst 1, 1) := by decide +kernel
theorem dX7_part_25 : decode cX7_part 25 = .ok (.invokevirtual 135, 3) := by decide +kernel
theorem dX7_part_28 : decode cX7_part 28 = .ok (.ifCond .ne 28, 3) := by decide +kernel
theorem dX7_part_31 : decode cX7_part 31 = .ok (.aload_n 0, 1) := by decide +kernel
theorem dX7_part_32 : decode cX7_part 32 = .ok (.aload_n 0, 1) := by decide +kernel
theorem dX7_part_33 : decode cX7_part 33 = .ok (.getfield 16, 3) := by decide +kernel
theorem dX7_part_36 : decode cX7_part 36 = .ok (.invokevirtual 27, 3) := by decide +kernel
theorem dX7_part_39 : decode cX7_part 39 = .ok (.bipush 8, 2) := by decide +kernel
theorem dX7_part_41 : decode cX7_part 41 = .ok (.if_icmp .ne 7, 3) := by decide +kernel
theorem dX7_part_48 : decode cX7_part 48 = .ok (.iconst 0, 1) := by decide +kernel
theorem dX7_part_49 : decode cX7_part 49 = .ok (.iconst 2, 1) := by decide +kernel
theorem dX7_part_50 : decode cX7_part 50 = .ok (.invokevirtual 23, 3) := by decide +kernel
theorem dX7_part_53 : decode cX7_part 53 = .ok (.ifCond .eq 5, 3) := by decide +kernel
theorem dX7_part_56 : decode cX7_part 56 = .ok (.iconst 0, 1) := by decide +kernel
theorem dX7_part_57 : decode cX7_part 57 = .ok (.ireturn, 1) := by decide +kernel
theorem dX7_part_58 : decode cX7_part 58 = .ok (.aload_n 0, 1) := by decide +kernel
theorem dX7_part_59 : decode cX7_part 59 = .ok (.getfield 16, 3) := by decide +kernel
theorem dX7_part_62 : decode cX7_part 62 = .ok (.new 70, 3) := by decide +kernel
theorem dX7_part_65 : decode cX7_part 65 = .ok (.dup, 1) := by decide +kernel
theorem dX7_part_66 : decode cX7_part 66 = .ok (.iload_n 1, 1) := by decide +kernel
theorem dX7_part_67 : decode cX7_part 67 = .ok (.iload_n 2, 1) := by decide +kernel
theorem dX7_part_68 : decode cX7_part 68 = .ok (.invokespecial 150, 3) := by decide +kernel
theorem dX7_part_71 : decode cX7_part 71 = .ok (.invokevirtual 143, 3) := by decide +kernel
theorem dX7_part_74 : decode cX7_part 74 = .ok (.pop, 1) := by decide +kernel
theorem dX7_part_75 : decode cX7_part 75 = .ok (.aload_n 0, 1) := by decide +kernel
theorem dX7_part_76 : decode cX7_part 76 = .ok (.getfield 16, 3) := by decide +kernel
theorem dX7_part_79 : decode cX7_part 79 = .ok (.invokevirtual 27, 3) := by decide +kernel
theorem dX7_part_82 : decode cX7_part 82 = .ok (.iconst 1, 1) := by decide +kernel
theorem dX7_part_83 : decode cX7_part 83 = .ok (.isub, 1) := by decide +kernel
theorem dX7_part_84 : decode cX7_part 84 = .ok (.ireturn, 1) := by decide +kernel
set_option maxRecDepth 20000 in
theorem ggX7_set_X7_isNoPart : GoodIn wsX7_set wsX7_isNoPart := goodIn_r _ [9, 1, 10, 11, 12, 13, 14, 15, 16, 17, 8, 18, 50, 51, 52, 53, 60, 61, 62] (by decide +kernel) (by decide +kernel)
set_option maxRecDepth 20000 in
theorem gX7_set_X7_isNoPart : GoodIn wsX7_set (wsV RX7 35 RX7 yX7_isNoPart wsX7_isNoPart) := goodIn_app (goodIn_of _ (by decide +kernel)) ggX7_set_X7_isNoPart
set_option maxRecDepth 20000 in
theorem ggX7_set_X7_start : GoodIn wsX7_set wsX7_start := goodIn_r _ [22, 23, 24, 25, 26, 8, 27, 50, 51, 52, 53] (by decide +kernel) (by decide +kernel)
set_option maxRecDepth 20000 in
theorem gX7_set_X7_start : GoodIn wsX7_set (wsV RX7 135 RX7 yX7_start wsX7_start) := goodIn_app (goodIn_of _ (by decide +kernel)) ggX7_set_X7_start
theorem dX7_set_0 : decode cX7_set 0 = .ok (.aload_n 0, 1) := by decide +kernel
theorem dX7_set_1 : decode cX7_set 1 = .ok (.aload_n 0, 1) := by decide +kernel
theorem dX7_set_2 : decode cX7_set 2 = .ok (.iload_n 1, 1) := by decide +kernel
theorem dX7_set_3 : decode cX7_set 3 = .ok (.invokevirtual 35, 3) := by decide +kernel
theorem dX7_set_6 : decode cX7_set 6 = .ok (.iconst 1, 1) := by decide +kernel
theorem dX7_set_7 : decode cX7_set 7 = .ok (.invokevirtual 135, 3) := by decide +kernel
theorem dX7_set_10 : decode cX7_set 10 = .ok (.ifCond .ne 29, 3) := by decide +kernel
theorem dX7_set_39 : decode cX7_set 39 = .ok (.iconst 0, 1) := by decide +kernel
theorem dX7_set_40 : decode cX7_set 40 = .ok (.ireturn, 1) := by decide +kernel
set_option maxRecDepth 20000 in
theorem ggX7_put_X7_isNoPart : GoodIn wsX7_put wsX7_isNoPart := goodIn_r _ [8, 1, 9, 10, 11, 12, 13, 14, 15, 16, 7, 17, 44, 45, 46, 47, 54, 55, 56] (by decide +kernel) (by decide +kernel)
set_option maxRecDepth 20000 in
theorem gX7_put_X7_isNoPart : GoodIn wsX7_put (wsV RX7 35 RX7 yX7_isNoPart wsX7_isNoPart) := goodIn_app (goodIn_of _ (by decide +kernel)) ggX7_put_X7_isNoPart
set_option maxRecDepth 20000 in
theorem ggX7_put_X7_start : GoodIn wsX7_put wsX7_start := goodIn_r _ [21, 22, 23, 24, 25, 7, 26, 44, 45, 46, 47] (by decide +kernel) (by decide +kernel)
set_option maxRecDepth 20000 in
theorem gX7_put_X7_start : GoodIn wsX7_put (wsV RX7 135 RX7 yX7_start wsX7_start) := goodIn_app (goodIn_of _ (by decide +kernel)) ggX7_put_X7_start
theorem dX7_put_0 : decode cX7_put 0 = .ok (.aload_n 0, 1) := by decide +kernel
theorem dX7_put_1 : decode cX7_put 1 = .ok (.aload_n 0, 1) := by decide +kernel
theorem dX7_put_2 : decode cX7_put 2 = .ok (.iload_n 1, 1) := by decide +kernel
theorem dX7_put_3 : decode cX7_put 3 = .ok (.invokevirtual 35, 3) := by decide +kernel
theorem dX7_put_6 : decode cX7_put 6 = .ok (.iconst 1, 1) := by decide +kernel
theorem dX7_put_7 : decode cX7_put 7 = .ok (.invokevirtual 135, 3) := by decide +kernel
theorem dX7_put_10 : decode cX7_put 10 = .ok (.ifCond .eq 5, 3) := by decide +kernel
theorem dX7_put_13 : decode cX7_put 13 = .ok (.iconst 0, 1) := by decide +kernel
theorem dX7_put_14 : decode cX7_put 14 = .ok (.ireturn, 1) := by decide +kernel
set_option maxRecDepth 20000 in
theorem ggX7_dirt_X7_isNoPart : GoodIn wsX7_dirt wsX7_isNoPart := goodIn_r _ [8, 1, 9, 10, 11, 12, 13, 14, 15, 16, 7, 17, 44, 45, 46, 47, 54, 55, 56] (by decide +kernel) (by decide +kernel)
set_option maxRecDepth 20000 in
theorem gX7_dirt_X7_isNoPart : GoodIn wsX7_dirt (wsV RX7 35 RX7 yX7_isNoPart wsX7_isNoPart) := goodIn_app (goodIn_of _ (by decide +kernel)) ggX7_dirt_X7_isNoPart
set_option maxRecDepth 20000 in
theorem ggX7_dirt_X7_start : GoodIn wsX7_dirt wsX7_start := goodIn_r _ [21, 22, 23, 24, 25, 7, 26, 44, 45, 46, 47] (by decide +kernel) (by decide +kernel)
set_option maxRecDepth 20000 in
theorem gX7_dirt_X7_start : GoodIn wsX7_dirt (wsV RX7 135 RX7 yX7_start wsX7_start) := goodIn_app (goodIn_of _ (by decide +kernel)) ggX7_dirt_X7_start
theorem dX7_dirt_0 : decode cX7_dirt 0 = .ok (.aload_n 0, 1) := by decide +kernel
theorem dX7_dirt_1 : decode cX7_dirt 1 = .ok (.aload_n 0, 1) := by decide +kernel
theorem dX7_dirt_2 : decode cX7_dirt 2 = .ok (.iload_n 1, 1) := by decide +kernel
theorem dX7_dirt_3 : decode cX7_dirt 3 = .ok (.invokevirtual 35, 3) := by decide +kernel
theorem dX7_dirt_6 : decode cX7_dirt 6 = .ok (.iconst 1, 1) := by decide +kernel
theorem dX7_dirt_7 : decode cX7_dirt 7 = .ok (.invokevirtual 135, 3) := by decide +kernel
theorem dX7_dirt_10 : decode cX7_dirt 10 = .ok (.ifCond .ne 27, 3) := by decide +kernel
theorem dX7_dirt_37 : decode cX7_dirt 37 = .ok (.iconst 0, 1) := by decide +kernel
theorem dX7_dirt_38 : decode cX7_dirt 38 = .ok (.ireturn, 1) := by decide +kernel
set_option maxRecDepth 20000 in
theorem ggX7_expose_X7_isNoPart : GoodIn wsX7_expose wsX7_isNoPart := goodIn_r _ [17, 1, 18, 19, 20, 21, 22, 23, 24, 25, 16, 26, 106, 107, 108, 109, 116, 117, 118] (by decide +kernel) (by decide +kernel)
set_option maxRecDepth 20000 in
theorem gX7_expose_X7_isNoPart : GoodIn wsX7_expose (wsV RX7 35 RX7 yX7_isNoPart wsX7_isNoPart) := goodIn_app (goodIn_of _ (by decide +kernel)) ggX7_expose_X7_isNoPart
set_option maxRecDepth 20000 in
theorem ggX7_expose_X7_start : GoodIn wsX7_expose wsX7_start := goodIn_r _ [30, 31, 32, 33, 34, 16, 35, 106, 107, 108, 109] (by decide +kernel) (by decide +kernel)
set_option maxRecDepth 20000 in
theorem gX7_expose_X7_start : GoodIn wsX7_expose (wsV RX7 135 RX7 yX7_start wsX7_start) := goodIn_app (goodIn_of _ (by decide +kernel)) ggX7_expose_X7_start
theorem dX7_expose_0 : decode cX7_expose 0 = .ok (.aload_n 0, 1) := by decide +kernel
theorem dX7_expose_1 : decode cX7_expose 1 = .ok (.aload_n 0, 1) := by decide +kernel
theorem dX7_expose_2 : decode cX7_expose 2 = .ok (.iload_n 1, 1) := by decide +kernel
theorem dX7_expose_3 : decode cX7_expose 3 = .ok (.invokevirtual 35, 3) := by decide +kernel
theorem dX7_expose_6 : decode cX7_expose 6 = .ok (.iconst 1, 1) := by decide +kernel
theorem dX7_expose_7 : decode cX7_expose 7 = .ok (.invokevirtual 135, 3) := by decide +kernel
theorem dX7_expose_10 : decode cX7_expose 10 = .ok (.ifCond .ne 26, 3) := by decide +kernel
theorem dX7_expose_36 : decode cX7_expose 36 = .ok (.iconst 0, 1) := by decide +kernel
theorem dX7_expose_37 : decode cX7_expose 37 = .ok (.ireturn, 1) := by decide +kernel
set_option maxRecDepth 20000 in
theorem ggX7_amplitude_X7_isNowhere : GoodIn wsX7_amplitude wsX7_isNowhere := goodIn_r _ [6, 7, 8, 9, 5, 10, 11, 12, 13, 14, 15, 16, 17, 18, 19, 20, 93, 94, 95, 96, 97, 98, 99] (by decide +kernel) (by decide +kernel)
set_option maxRecDepth 20000 in
theorem gX7_amplitude_X7_isNowhere : GoodIn wsX7_amplitude (wsV RX7 170 RX7 yX7_isNowhere wsX7_isNowhere) := goodIn_app (goodIn_of _ (by decide +kernel)) ggX7_amplitude_X7_isNowhere
set_option maxRecDepth 20000 in
theorem ggX7_amplitude_Jx4a65c_size_8abf5 : GoodIn wsX7_amplitude wsJx4a65c_size_8abf5 := goodIn_r _ [16, 17, 97, 98, 99] (by decide +kernel) (by decide +kernel)
set_option maxRecDepth 20000 in
theorem gX7_amplitude_Jx4a65c_size_8abf5 : GoodIn wsX7_amplitude (wsV RX7 27 RJx4a65c yJx4a65c_size_8abf5 wsJx4a65c_size_8abf5) := goodIn_app (goodIn_of _ (by decide +kernel)) ggX7_amplitude_Jx4a65c_size_8abf5
set_option maxRecDepth 20000 in
theorem ggX7_amplitude_X7_isIn : GoodIn wsX7_amplitude wsX7_isIn := goodIn_r _ [20] (by decide +kernel) (by decide +kernel)
set_option maxRecDepth 20000 in
theorem gX7_amplitude_X7_isIn : GoodIn wsX7_amplitude (va_wsS RX7 31 yX7_isIn wsX7_isIn) := goodIn_app (goodIn_of _ (by decide +kernel)) ggX7_amplitude_X7_isIn
set_option maxRecDepth 20000 in
theorem ggX7_amplitude_X7_start : GoodIn wsX7_amplitude wsX7_start := goodIn_r _ [27, 28, 29, 30, 31, 5, 32, 93, 94, 95, 96] (by decide +kernel) (by decide +kernel)
set_option maxRecDepth 20000 in
theorem gX7_amplitude_X7_start : GoodIn wsX7_amplitude (wsV RX7 135 RX7 yX7_start wsX7_start) := goodIn_app (goodIn_of _ (by decide +kernel)) ggX7_amplitude_X7_start
theorem dX7_amplitude_0 : decode cX7_amplitude 0 = .ok (.aload_n 0, 1) := by decide +kernel
theorem dX7_amplitude_1 : decode cX7_amplitude 1 = .ok (.aload_n 0, 1) := by decide +kernel
theorem dX7_amplitude_2 : decode cX7_amplitude 2 = .ok (.iload_n 1, 1) := by decide +kernel
theorem dX7_amplitude_3 : decode cX7_amplitude 3 = .ok (.invokevirtual 170, 3) := by decide +kernel
theorem dX7_amplitude_6 : decode cX7_amplitude 6 = .ok (.ifCond .ne 27, 3) := by decide +kernel
theorem dX7_amplitude_9 : decode cX7_amplitude 9 = .ok (.iload_n 2, 1) := by decide +kernel
theorem dX7_amplitude_10 : decode cX7_amplitude 10 = .ok (.iconst 0, 1) := by decide +kernel
theorem dX7_amplitude_11 : decode cX7_amplitude 11 = .ok (.aload_n 0, 1) := by decide +kernel
theorem dX7_amplitude_12 : decode cX7_amplitude 12 = .ok (.getfield 10, 3) := by decide +kernel
theorem dX7_amplitude_15 : decode cX7_amplitude 15 = .ok (.invokevirtual 27, 3) := by decide +kernel
theorem dX7_amplitude_18 : decode cX7_amplitude 18 = .ok (.iconst 1, 1) := by decide +kernel
theorem dX7_amplitude_19 : decode cX7_amplitude 19 = .ok (.isub, 1) := by decide +kernel
theorem dX7_amplitude_20 : decode cX7_amplitude 20 = .ok (.invokestatic 31, 3) := by decide +kernel
theorem dX7_amplitude_23 : decode cX7_amplitude 23 = .ok (.ifCond .eq 10, 3) := by decide +kernel
theorem dX7_amplitude_33 : decode cX7_amplitude 33 = .ok (.iconst 1, 1) := by decide +kernel
theorem dX7_amplitude_34 : decode cX7_amplitude 34 = .ok (.goto 4, 3) := by decide +kernel
theorem dX7_amplitude_38 : decode cX7_amplitude 38 = .ok (.iconst 1, 1) := by decide +kernel
theorem dX7_amplitude_39 : decode cX7_amplitude 39 = .ok (.invokevirtual 135, 3) := by decide +kernel
theorem dX7_amplitude_42 : decode cX7_amplitude 42 = .ok (.ifCond .ne 27, 3) := by decide +kernel
theorem dX7_amplitude_69 : decode cX7_amplitude 69 = .ok (.lconst 0, 1) := by decide +kernel
theorem dX7_amplitude_70 : decode cX7_amplitude 70 = .ok (.lreturn, 1) := by decide +kernel
set_option maxRecDepth 20000 in
theorem ggX7_whole___X7_isNowhere : GoodIn wsX7_whole__ wsX7_isNowhere := goodIn_r _ [5, 6, 7, 8, 4, 9, 10, 11, 12, 13, 14, 15, 16, 17, 18, 19, 100, 101, 102, 103, 104, 105, 106] (by decide +kernel) (by decide +kernel)
set_option maxRecDepth 20000 in
theorem gX7_whole___X7_isNowhere : GoodIn wsX7_whole__ (wsV RX7 170 RX7 yX7_isNowhere wsX7_isNowhere) := goodIn_app (goodIn_of _ (by decide +kernel)) ggX7_whole___X7_isNowhere
set_option maxRecDepth 20000 in
theorem ggX7_whole___X7_isNoPlace : GoodIn wsX7_whole__ wsX7_isNoPlace := goodIn_r _ [22, 17, 18, 4, 19] (by decide +kernel) (by decide +kernel)
set_option maxRecDepth 20000 in
theorem gX7_whole___X7_isNoPlace : GoodIn wsX7_whole__ (va_wsS RX7 129 yX7_isNoPlace wsX7_isNoPlace) := goodIn_app (goodIn_of _ (by decide +kernel)) ggX7_whole___X7_isNoPlace
set_option maxRecDepth 20000 in
theorem ggX7_whole___X7_start : GoodIn wsX7_whole__ wsX7_start := goodIn_r _ [26, 27, 28, 29, 30, 4, 31, 100, 101, 102, 103] (by decide +kernel) (by decide +kernel)
set_option maxRecDepth 20000 in
theorem gX7_whole___X7_start : GoodIn wsX7_whole__ (wsV RX7 135 RX7 yX7_start wsX7_start) := goodIn_app (goodIn_of _ (by decide +kernel)) ggX7_whole___X7_start
set_option maxRecDepth 20000 in
theorem ggX7_whole___X7_behind_ : GoodIn wsX7_whole__ wsX7_behind_ := goodIn_ca (goodIn_r _ [35, 36, 37, 38, 4, 39, 10, 40, 41, 42, 43, 44, 45, 46, 47, 48, 49, 50, 11, 12, 13, 14, 15, 16, 51, 52, 53, 54, 55, 56, 57, 58, 59, 60, 61, 62, 63, 64, 65, 66, 67, 68, 69, 70, 71, 72, 73, 74, 75, 76, 77, 78, 79, 80, 81, 82, 83, 84, 85, 86, 87, 88, 89, 90, 91, 92, 100, 101, 102, 103, 107, 108, 109, 104, 105, 106, 110, 111, 112, 113, 114, 115] (by decide +kernel) (by decide +kernel)) (goodIn_sub (fun _ h => List.mem_cons_of_mem _ (List.mem_append_right _ h)) (by decide +kernel))
set_option maxRecDepth 20000 in
theorem gX7_whole___X7_behind_ : GoodIn wsX7_whole__ (wsV RX7 153 RX7 yX7_behind_ wsX7_behind_) := goodIn_app (goodIn_of _ (by decide +kernel)) ggX7_whole___X7_behind_
set_option maxRecDepth 20000 in
theorem ggX7_whole___X7_whole_ : GoodIn wsX7_whole__ wsX7_whole_ := goodIn_ca (goodIn_r _ [96, 45, 11, 12, 13, 14, 15, 16, 68, 69, 4, 70, 97, 98, 99, 100, 101, 102, 103, 104, 105, 106] (by decide +kernel) (by decide +kernel)) (goodIn_sub (fun _ h => List.mem_cons_of_mem _ (List.mem_append_right _ h)) (by decide +kernel))
set_option maxRecDepth 20000 in
theorem gX7_whole___X7_whole_ : GoodIn wsX7_whole__ (wsV RX7 118 RX7 yX7_whole_ wsX7_whole_) := goodIn_app (goodIn_of _ (by decide +kernel)) ggX7_whole___X7_whole_
theorem dX7_whole___0 : decode cX7_whole__ 0 = .ok (.aload_n 0, 1) := by decide +kernel
theorem dX7_whole___1 : decode cX7_whole__ 1 = .ok (.aload_n 0, 1) := by decide +kernel
theorem dX7_whole___2 : decode cX7_whole__ 2 = .ok (.iload_n 1, 1) := by decide +kernel
theorem dX7_whole___3 : decode cX7_whole__ 3 = .ok (.invokevirtual 170, 3) := by decide +kernel
theorem dX7_whole___6 : decode cX7_whole__ 6 = .ok (.ifCond .ne 10, 3) := by decide +kernel
theorem dX7_whole___9 : decode cX7_whole__ 9 = .ok (.iload_n 2, 1) := by decide +kernel
theorem dX7_whole___10 : decode cX7_whole__ 10 = .ok (.invokestatic 129, 3) := by decide +kernel
theorem dX7_whole___13 : decode cX7_whole__ 13 = .ok (.ifCond .eq 7, 3) := by decide +kernel
theorem dX7_whole___16 : decode cX7_whole__ 16 = .ok (.iconst 1, 1) := by decide +kernel
theorem dX7_whole___17 : decode cX7_whole__ 17 = .ok (.goto 4, 3) := by decide +kernel
theorem dX7_whole___20 : decode cX7_whole__ 20 = .ok (.iconst 0, 1) := by decide +kernel
theorem dX7_whole___21 : decode cX7_whole__ 21 = .ok (.iconst 1, 1) := by decide +kernel
theorem dX7_whole___22 : decode cX7_whole__ 22 = .ok (.invokevirtual 135, 3) := by decide +kernel
theorem dX7_whole___25 : decode cX7_whole__ 25 = .ok (.ifCond .eq 7, 3) := by decide +kernel
theorem dX7_whole___28 : decode cX7_whole__ 28 = .ok (.lconst 0, 1) := by decide +kernel
theorem dX7_whole___29 : decode cX7_whole__ 29 = .ok (.goto 13, 3) := by decide +kernel
theorem dX7_whole___32 : decode cX7_whole__ 32 = .ok (.aload_n 0, 1) := by decide +kernel
theorem dX7_whole___33 : decode cX7_whole__ 33 = .ok (.iload_n 2, 1) := by decide +kernel
theorem dX7_whole___34 : decode cX7_whole__ 34 = .ok (.aload_n 0, 1) := by decide +kernel
theorem dX7_whole___35 : decode cX7_whole__ 35 = .ok (.iload_n 1, 1) := by decide +kernel
theorem dX7_whole___36 : decode cX7_whole__ 36 = .ok (.invokevirtual 153, 3) := by decide +kernel
theorem dX7_whole___39 : decode cX7_whole__ 39 = .ok (.invokevirtual 118, 3) := by decide +kernel
theorem dX7_whole___42 : decode cX7_whole__ 42 = .ok (.lreturn, 1) := by decide +kernel
set_option maxRecDepth 20000 in
theorem ggX7_root___X7_isNowhere : GoodIn wsX7_root__ wsX7_isNowhere := goodIn_r _ [5, 6, 7, 8, 4, 9, 10, 11, 12, 13, 14, 15, 16, 17, 18, 19, 100, 101, 102, 103, 104, 105, 106] (by decide +kernel) (by decide +kernel)
set_option maxRecDepth 20000 in
theorem gX7_root___X7_isNowhere : GoodIn wsX7_root__ (wsV RX7 170 RX7 yX7_isNowhere wsX7_isNowhere) := goodIn_app (goodIn_of _ (by decide +kernel)) ggX7_root___X7_isNowhere
set_option maxRecDepth 20000 in
theorem ggX7_root___X7_isNoPlace : GoodIn wsX7_root__ wsX7_isNoPlace := goodIn_r _ [22, 17, 18, 4, 19] (by decide +kernel) (by decide +kernel)
set_option maxRecDepth 20000 in
theorem gX7_root___X7_isNoPlace : GoodIn wsX7_root__ (va_wsS RX7 129 yX7_isNoPlace wsX7_isNoPlace) := goodIn_app (goodIn_of _ (by decide +kernel)) ggX7_root___X7_isNoPlace
set_option maxRecDepth 20000 in
theorem ggX7_root___X7_start : GoodIn wsX7_root__ wsX7_start := goodIn_r _ [26, 27, 28, 29, 30, 4, 31, 100, 101, 102, 103] (by decide +kernel) (by decide +kernel)
set_option maxRecDepth 20000 in
theorem gX7_root___X7_start : GoodIn wsX7_root__ (wsV RX7 135 RX7 yX7_start wsX7_start) := goodIn_app (goodIn_of _ (by decide +kernel)) ggX7_root___X7_start
set_option maxRecDepth 20000 in
theorem ggX7_root___X7_behind_ : GoodIn wsX7_root__ wsX7_behind_ := goodIn_ca (goodIn_r _ [35, 36, 37, 38, 4, 39, 10, 40, 41, 42, 43, 44, 45, 46, 47, 48, 49, 50, 11, 12, 13, 14, 15, 16, 51, 52, 53, 54, 55, 56, 57, 58, 59, 60, 61, 62, 63, 64, 65, 66, 67, 68, 69, 70, 71, 72, 73, 74, 75, 76, 77, 78, 79, 80, 81, 82, 83, 84, 85, 86, 87, 88, 89, 90, 91, 92, 100, 101, 102, 103, 107, 108, 109, 104, 105, 106, 110, 111, 112, 113, 114, 115] (by decide +kernel) (by decide +kernel)) (goodIn_sub (fun _ h => List.mem_cons_of_mem _ (List.mem_append_right _ h)) (by decide +kernel))
set_option maxRecDepth 20000 in
theorem gX7_root___X7_behind_ : GoodIn wsX7_root__ (wsV RX7 153 RX7 yX7_behind_ wsX7_behind_) := goodIn_app (goodIn_of _ (by decide +kernel)) ggX7_root___X7_behind_
set_option maxRecDepth 20000 in
theorem ggX7_root___X7_root_ : GoodIn wsX7_root__ wsX7_root_ := goodIn_ca (goodIn_r _ [96, 45, 11, 12, 13, 14, 15, 16, 68, 69, 4, 70, 97, 98, 99, 100, 101, 102, 103, 104, 105, 106] (by decide +kernel) (by decide +kernel)) (goodIn_sub (fun _ h => List.mem_cons_of_mem _ (List.mem_append_right _ h)) (by decide +kernel))
set_option maxRecDepth 20000 in
theorem gX7_root___X7_root_ : GoodIn wsX7_root__ (wsV RX7 123 RX7 yX7_root_ wsX7_root_) := goodIn_app (goodIn_of _ (by decide +kernel)) ggX7_root___X7_root_
theorem dX7_root___0 : decode cX7_root__ 0 = .ok (.aload_n 0, 1) := by decide +kernel
theorem dX7_root___1 : decode cX7_root__ 1 = .ok (.aload_n 0, 1) := by decide +kernel
theorem dX7_root___2 : decode cX7_root__ 2 = .ok (.iload_n 1, 1) := by decide +kernel
theorem dX7_root___3 : decode cX7_root__ 3 = .ok (.invokevirtual 170, 3) := by decide +kernel
theorem dX7_root___6 : decode cX7_root__ 6 = .ok (.ifCond .ne 10, 3) := by decide +kernel
theorem dX7_root___9 : decode cX7_root__ 9 = .ok (.iload_n 2, 1) := by decide +kernel
theorem dX7_root___10 : decode cX7_root__ 10 = .ok (.invokestatic 129, 3) := by decide +kernel
theorem dX7_root___13 : decode cX7_root__ 13 = .ok (.ifCond .eq 7, 3) := by decide +kernel
theorem dX7_root___16 : decode cX7_root__ 16 = .ok (.iconst 1, 1) := by decide +kernel
theorem dX7_root___17 : decode cX7_root__ 17 = .ok (.goto 4, 3) := by decide +kernel
theorem dX7_root___20 : decode cX7_root__ 20 = .ok (.iconst 0, 1) := by decide +kernel
theorem dX7_root___21 : decode cX7_root__ 21 = .ok (.iconst 1, 1) := by decide +kernel
theorem dX7_root___22 : decode cX7_root__ 22 = .ok (.invokevirtual 135, 3) := by decide +kernel
theorem dX7_root___25 : decode cX7_root__ 25 = .ok (.ifCond .eq 7, 3) := by decide +kernel
theorem dX7_root___28 : decode cX7_root__ 28 = .ok (.lconst 0, 1) := by decide +kernel
theorem dX7_root___29 : decode cX7_root__ 29 = .ok (.goto 13, 3) := by decide +kernel
theorem dX7_root___32 : decode cX7_root__ 32 = .ok (.aload_n 0, 1) := by decide +kernel
theorem dX7_root___33 : decode cX7_root__ 33 = .ok (.iload_n 2, 1) := by decide +kernel
theorem dX7_root___34 : decode cX7_root__ 34 = .ok (.aload_n 0, 1) := by decide +kernel
theorem dX7_root___35 : decode cX7_root__ 35 = .ok (.iload_n 1, 1) := by decide +kernel
theorem dX7_root___36 : decode cX7_root__ 36 = .ok (.invokevirtual 153, 3) := by decide +kernel
theorem dX7_root___39 : decode cX7_root__ 39 = .ok (.invokevirtual 123, 3) := by decide +kernel
theorem dX7_root___42 : decode cX7_root__ 42 = .ok (.lreturn, 1) := by decide +kernel
set_option maxRecDepth 20000 in
theorem ggX7_power__X7_isNowhere : GoodIn wsX7_power_ wsX7_isNowhere := goodIn_r _ [5, 6, 7, 8, 4, 9, 10, 11, 12, 13, 14, 15, 16, 17, 18, 19, 108, 109, 110, 111, 112, 113, 114] (by decide +kernel) (by decide +kernel)
set_option maxRecDepth 20000 in
theorem gX7_power__X7_isNowhere : GoodIn wsX7_power_ (wsV RX7 170 RX7 yX7_isNowhere wsX7_isNowhere) := goodIn_app (goodIn_of _ (by decide +kernel)) ggX7_power__X7_isNowhere
set_option maxRecDepth 20000 in
theorem ggX7_power__X7_start : GoodIn wsX7_power_ wsX7_start := goodIn_r _ [23, 24, 25, 26, 27, 4, 28, 108, 109, 110, 111] (by decide +kernel) (by decide +kernel)
set_option maxRecDepth 20000 in
theorem gX7_power__X7_start : GoodIn wsX7_power_ (wsV RX7 135 RX7 yX7_start wsX7_start) := goodIn_app (goodIn_of _ (by decide +kernel)) ggX7_power__X7_start
set_option maxRecDepth 20000 in
theorem ggX7_power__X7_behind_ : GoodIn wsX7_power_ wsX7_behind_ := goodIn_ca (goodIn_r _ [32, 33, 34, 35, 4, 36, 10, 37, 38, 39, 40, 41, 42, 43, 44, 45, 46, 47, 11, 12, 13, 14, 15, 16, 48, 49, 50, 51, 52, 53, 54, 55, 56, 57, 58, 59, 60, 61, 62, 63, 64, 65, 66, 67, 68, 69, 70, 71, 72, 73, 74, 75, 76, 77, 78, 79, 80, 81, 82, 83, 84, 85, 86, 87, 88, 89, 108, 109, 110, 111, 115, 116, 117, 112, 113, 114, 118, 119, 120, 121, 122, 123] (by decide +kernel) (by decide +kernel)) (goodIn_sub (fun _ h => List.mem_cons_of_mem _ (List.mem_append_right _ h)) (by decide +kernel))
set_option maxRecDepth 20000 in
theorem gX7_power__X7_behind_ : GoodIn wsX7_power_ (wsV RX7 153 RX7 yX7_behind_ wsX7_behind_) := goodIn_app (goodIn_of _ (by decide +kernel)) ggX7_power__X7_behind_
set_option maxRecDepth 20000 in
theorem ggX7_power__X7_power : GoodIn wsX7_power_ wsX7_power := goodIn_ca (goodIn_r _ [93, 94, 95, 96, 4, 97, 42, 11, 12, 13, 14, 15, 16, 65, 66, 67, 98, 99, 100, 101, 102, 103, 104, 105, 106, 107, 108, 109, 110, 111, 112, 113, 114] (by decide +kernel) (by decide +kernel)) (goodIn_sub (fun _ h => List.mem_cons_of_mem _ (List.mem_append_right _ h)) (by decide +kernel))
set_option maxRecDepth 20000 in
theorem gX7_power__X7_power : GoodIn wsX7_power_ (wsV RX7 173 RX7 yX7_power wsX7_power) := goodIn_app (goodIn_of _ (by decide +kernel)) ggX7_power__X7_power
theorem dX7_power__0 : decode cX7_power_ 0 = .ok (.aload_n 0, 1) := by decide +kernel
theorem dX7_power__1 : decode cX7_power_ 1 = .ok (.aload_n 0, 1) := by decide +kernel
theorem dX7_power__2 : decode cX7_power_ 2 = .ok (.iload_n 1, 1) := by decide +kernel
theorem dX7_power__3 : decode cX7_power_ 3 = .ok (.invokevirtual 170, 3) := by decide +kernel
theorem dX7_power__6 : decode cX7_power_ 6 = .ok (.iconst 1, 1) := by decide +kernel
theorem dX7_power__7 : decode cX7_power_ 7 = .ok (.invokevirtual 135, 3) := by decide +kernel
theorem dX7_power__10 : decode cX7_power_ 10 = .ok (.ifCond .eq 7, 3) := by decide +kernel
theorem dX7_power__13 : decode cX7_power_ 13 = .ok (.lconst 0, 1) := by decide +kernel
theorem dX7_power__14 : decode cX7_power_ 14 = .ok (.goto 13, 3) := by decide +kernel
theorem dX7_power__17 : decode cX7_power_ 17 = .ok (.aload_n 0, 1) := by decide +kernel
theorem dX7_power__18 : decode cX7_power_ 18 = .ok (.aload_n 0, 1) := by decide +kernel
theorem dX7_power__19 : decode cX7_power_ 19 = .ok (.iload_n 1, 1) := by decide +kernel
theorem dX7_power__20 : decode cX7_power_ 20 = .ok (.invokevirtual 153, 3) := by decide +kernel
theorem dX7_power__23 : decode cX7_power_ 23 = .ok (.iload_n 2, 1) := by decide +kernel
theorem dX7_power__24 : decode cX7_power_ 24 = .ok (.invokevirtual 173, 3) := by decide +kernel
theorem dX7_power__27 : decode cX7_power_ 27 = .ok (.lreturn, 1) := by decide +kernel
set_option maxRecDepth 20000 in
theorem ggX7_brightest__X7_isNowhere : GoodIn wsX7_brightest_ wsX7_isNowhere := goodIn_r _ [5, 6, 7, 8, 4, 9, 10, 11, 12, 13, 14, 15, 16, 17, 18, 19, 113, 114, 115, 116, 117, 118, 119] (by decide +kernel) (by decide +kernel)
set_option maxRecDepth 20000 in
theorem gX7_brightest__X7_isNowhere : GoodIn wsX7_brightest_ (wsV RX7 170 RX7 yX7_isNowhere wsX7_isNowhere) := goodIn_app (goodIn_of _ (by decide +kernel)) ggX7_brightest__X7_isNowhere
set_option maxRecDepth 20000 in
theorem ggX7_brightest__X7_start : GoodIn wsX7_brightest_ wsX7_start := goodIn_r _ [23, 24, 25, 26, 27, 4, 28, 113, 114, 115, 116] (by decide +kernel) (by decide +kernel)
set_option maxRecDepth 20000 in
theorem gX7_brightest__X7_start : GoodIn wsX7_brightest_ (wsV RX7 135 RX7 yX7_start wsX7_start) := goodIn_app (goodIn_of _ (by decide +kernel)) ggX7_brightest__X7_start
set_option maxRecDepth 20000 in
theorem ggX7_brightest__X7_behind_ : GoodIn wsX7_brightest_ wsX7_behind_ := goodIn_ca (goodIn_r _ [32, 33, 34, 35, 4, 36, 10, 37, 38, 39, 40, 41, 42, 43, 44, 45, 46, 47, 11, 12, 13, 14, 15, 16, 48, 49, 50, 51, 52, 53, 54, 55, 56, 57, 58, 59, 60, 61, 62, 63, 64, 65, 66, 67, 68, 69, 70, 71, 72, 73, 74, 75, 76, 77, 78, 79, 80, 81, 82, 83, 84, 85, 86, 87, 88, 89, 113, 114, 115, 116, 120, 121, 122, 117, 118, 119, 123, 124, 125, 126, 127, 128] (by decide +kernel) (by decide +kernel)) (goodIn_sub (fun _ h => List.mem_cons_of_mem _ (List.mem_append_right _ h)) (by decide +kernel))
set_option maxRecDepth 20000 in
theorem gX7_brightest__X7_behind_ : GoodIn wsX7_brightest_ (wsV RX7 153 RX7 yX7_behind_ wsX7_behind_) := goodIn_app (goodIn_of _ (by decide +kernel)) ggX7_brightest__X7_behind_
set_option maxRecDepth 20000 in
theorem ggX7_brightest__X7_brightest : GoodIn wsX7_brightest_ wsX7_brightest := goodIn_ca (goodIn_r _ [93, 94, 95, 96, 4, 97, 98, 99, 100, 101, 102, 42, 11, 12, 13, 14, 15, 16, 65, 66, 67, 103, 104, 105, 106, 107, 108, 109, 110, 111, 112, 113, 114, 115, 116, 117, 118, 119] (by decide +kernel) (by decide +kernel)) (goodIn_sub (fun _ h => List.mem_cons_of_mem _ (List.mem_append_right _ h)) (by decide +kernel))
set_option maxRecDepth 20000 in
theorem gX7_brightest__X7_brightest : GoodIn wsX7_brightest_ (wsV RX7 177 RX7 yX7_brightest wsX7_brightest) := goodIn_app (goodIn_of _ (by decide +kernel)) ggX7_brightest__X7_brightest
theorem dX7_brightest__0 : decode cX7_brightest_ 0 = .ok (.aload_n 0, 1) := by decide +kernel
theorem dX7_brightest__1 : decode cX7_brightest_ 1 = .ok (.aload_n 0, 1) := by decide +kernel
theorem dX7_brightest__2 : decode cX7_brightest_ 2 = .ok (.iload_n 1, 1) := by decide +kernel
theorem dX7_brightest__3 : decode cX7_brightest_ 3 = .ok (.invokevirtual 170, 3) := by decide +kernel
theorem dX7_brightest__6 : decode cX7_brightest_ 6 = .ok (.iconst 1, 1) := by decide +kernel
theorem dX7_brightest__7 : decode cX7_brightest_ 7 = .ok (.invokevirtual 135, 3) := by decide +kernel
theorem dX7_brightest__10 : decode cX7_brightest_ 10 = .ok (.ifCond .eq 7, 3) := by decide +kernel
theorem dX7_brightest__13 : decode cX7_brightest_ 13 = .ok (.iconst 0, 1) := by decide +kernel
theorem dX7_brightest__14 : decode cX7_brightest_ 14 = .ok (.goto 12, 3) := by decide +kernel
theorem dX7_brightest__17 : decode cX7_brightest_ 17 = .ok (.aload_n 0, 1) := by decide +kernel
theorem dX7_brightest__18 : decode cX7_brightest_ 18 = .ok (.aload_n 0, 1) := by decide +kernel
theorem dX7_brightest__19 : decode cX7_brightest_ 19 = .ok (.iload_n 1, 1) := by decide +kernel
theorem dX7_brightest__20 : decode cX7_brightest_ 20 = .ok (.invokevirtual 153, 3) := by decide +kernel
theorem dX7_brightest__23 : decode cX7_brightest_ 23 = .ok (.invokevirtual 177, 3) := by decide +kernel
theorem dX7_brightest__26 : decode cX7_brightest_ 26 = .ok (.ireturn, 1) := by decide +kernel
set_option maxRecDepth 20000 in
theorem ggX7_dark__X7_isNowhere : GoodIn wsX7_dark_ wsX7_isNowhere := goodIn_r _ [5, 6, 7, 8, 4, 9, 10, 11, 12, 13, 14, 15, 16, 17, 18, 19, 108, 109, 110, 111, 112, 113, 114] (by decide +kernel) (by decide +kernel)
set_option maxRecDepth 20000 in
theorem gX7_dark__X7_isNowhere : GoodIn wsX7_dark_ (wsV RX7 170 RX7 yX7_isNowhere wsX7_isNowhere) := goodIn_app (goodIn_of _ (by decide +kernel)) ggX7_dark__X7_isNowhere
set_option maxRecDepth 20000 in
theorem ggX7_dark__X7_start : GoodIn wsX7_dark_ wsX7_start := goodIn_r _ [23, 24, 25, 26, 27, 4, 28, 108, 109, 110, 111] (by decide +kernel) (by decide +kernel)
set_option maxRecDepth 20000 in
theorem gX7_dark__X7_start : GoodIn wsX7_dark_ (wsV RX7 135 RX7 yX7_start wsX7_start) := goodIn_app (goodIn_of _ (by decide +kernel)) ggX7_dark__X7_start
set_option maxRecDepth 20000 in
theorem ggX7_dark__X7_behind_ : GoodIn wsX7_dark_ wsX7_behind_ := goodIn_ca (goodIn_r _ [32, 33, 34, 35, 4, 36, 10, 37, 38, 39, 40, 41, 42, 43, 44, 45, 46, 47, 11, 12, 13, 14, 15, 16, 48, 49, 50, 51, 52, 53, 54, 55, 56, 57, 58, 59, 60, 61, 62, 63, 64, 65, 66, 67, 68, 69, 70, 71, 72, 73, 74, 75, 76, 77, 78, 79, 80, 81, 82, 83, 84, 85, 86, 87, 88, 89, 108, 109, 110, 111, 115, 116, 117, 112, 113, 114, 118, 119, 120, 121, 122, 123] (by decide +kernel) (by decide +kernel)) (goodIn_sub (fun _ h => List.mem_cons_of_mem _ (List.mem_append_right _ h)) (by decide +kernel))
set_option maxRecDepth 20000 in
theorem gX7_dark__X7_behind_ : GoodIn wsX7_dark_ (wsV RX7 153 RX7 yX7_behind_ wsX7_behind_) := goodIn_app (goodIn_of _ (by decide +kernel)) ggX7_dark__X7_behind_
set_option maxRecDepth 20000 in
theorem ggX7_dark__X7_dark : GoodIn wsX7_dark_ wsX7_dark := goodIn_ca (goodIn_r _ [93, 94, 95, 96, 4, 97, 42, 11, 12, 13, 14, 15, 16, 65, 66, 67, 98, 99, 100, 101, 102, 103, 104, 105, 106, 107, 108, 109, 110, 111, 112, 113, 114] (by decide +kernel) (by decide +kernel)) (goodIn_sub (fun _ h => List.mem_cons_of_mem _ (List.mem_append_right _ h)) (by decide +kernel))
set_option maxRecDepth 20000 in
theorem gX7_dark__X7_dark : GoodIn wsX7_dark_ (wsV RX7 181 RX7 yX7_dark wsX7_dark) := goodIn_app (goodIn_of _ (by decide +kernel)) ggX7_dark__X7_dark
theorem dX7_dark__0 : decode cX7_dark_ 0 = .ok (.aload_n 0, 1) := by decide +kernel
theorem dX7_dark__1 : decode cX7_dark_ 1 = .ok (.aload_n 0, 1) := by decide +kernel
theorem dX7_dark__2 : decode cX7_dark_ 2 = .ok (.iload_n 1, 1) := by decide +kernel
theorem dX7_dark__3 : decode cX7_dark_ 3 = .ok (.invokevirtual 170, 3) := by decide +kernel
theorem dX7_dark__6 : decode cX7_dark_ 6 = .ok (.iconst 1, 1) := by decide +kernel
theorem dX7_dark__7 : decode cX7_dark_ 7 = .ok (.invokevirtual 135, 3) := by decide +kernel
theorem dX7_dark__10 : decode cX7_dark_ 10 = .ok (.ifCond .eq 7, 3) := by decide +kernel
theorem dX7_dark__13 : decode cX7_dark_ 13 = .ok (.iconst 0, 1) := by decide +kernel
theorem dX7_dark__14 : decode cX7_dark_ 14 = .ok (.goto 12, 3) := by decide +kernel
theorem dX7_dark__17 : decode cX7_dark_ 17 = .ok (.aload_n 0, 1) := by decide +kernel
theorem dX7_dark__18 : decode cX7_dark_ 18 = .ok (.aload_n 0, 1) := by decide +kernel
theorem dX7_dark__19 : decode cX7_dark_ 19 = .ok (.iload_n 1, 1) := by decide +kernel
theorem dX7_dark__20 : decode cX7_dark_ 20 = .ok (.invokevirtual 153, 3) := by decide +kernel
theorem dX7_dark__23 : decode cX7_dark_ 23 = .ok (.invokevirtual 181, 3) := by decide +kernel
theorem dX7_dark__26 : decode cX7_dark_ 26 = .ok (.ireturn, 1) := by decide +kernel
set_option maxRecDepth 20000 in
theorem ggX7_period__X7_isNowhere : GoodIn wsX7_period_ wsX7_isNowhere := goodIn_r _ [5, 6, 7, 8, 4, 9, 10, 11, 12, 13, 14, 15, 16, 17, 18, 19, 108, 109, 110, 111, 112, 113, 114] (by decide +kernel) (by decide +kernel)
set_option maxRecDepth 20000 in
theorem gX7_period__X7_isNowhere : GoodIn wsX7_period_ (wsV RX7 170 RX7 yX7_isNowhere wsX7_isNowhere) := goodIn_app (goodIn_of _ (by decide +kernel)) ggX7_period__X7_isNowhere
set_option maxRecDepth 20000 in
theorem ggX7_period__X7_start : GoodIn wsX7_period_ wsX7_start := goodIn_r _ [23, 24, 25, 26, 27, 4, 28, 108, 109, 110, 111] (by decide +kernel) (by decide +kernel)
set_option maxRecDepth 20000 in
theorem gX7_period__X7_start : GoodIn wsX7_period_ (wsV RX7 135 RX7 yX7_start wsX7_start) := goodIn_app (goodIn_of _ (by decide +kernel)) ggX7_period__X7_start
set_option maxRecDepth 20000 in
theorem ggX7_period__X7_behind_ : GoodIn wsX7_period_ wsX7_behind_ := goodIn_ca (goodIn_r _ [32, 33, 34, 35, 4, 36, 10, 37, 38, 39, 40, 41, 42, 43, 44, 45, 46, 47, 11, 12, 13, 14, 15, 16, 48, 49, 50, 51, 52, 53, 54, 55, 56, 57, 58, 59, 60, 61, 62, 63, 64, 65, 66, 67, 68, 69, 70, 71, 72, 73, 74, 75, 76, 77, 78, 79, 80, 81, 82, 83, 84, 85, 86, 87, 88, 89, 108, 109, 110, 111, 115, 116, 117, 112, 113, 114, 118, 119, 120, 121, 122, 123] (by decide +kernel) (by decide +kernel)) (goodIn_sub (fun _ h => List.mem_cons_of_mem _ (List.mem_append_right _ h)) (by decide +kernel))
set_option maxRecDepth 20000 in
theorem gX7_period__X7_behind_ : GoodIn wsX7_period_ (wsV RX7 153 RX7 yX7_behind_ wsX7_behind_) := goodIn_app (goodIn_of _ (by decide +kernel)) ggX7_period__X7_behind_
set_option maxRecDepth 20000 in
theorem ggX7_period__X7_period : GoodIn wsX7_period_ wsX7_period := goodIn_ca (goodIn_r _ [93, 94, 95, 96, 4, 97, 42, 11, 12, 13, 14, 15, 16, 65, 66, 67, 98, 99, 100, 101, 102, 103, 104, 105, 106, 107, 108, 109, 110, 111, 112, 113, 114] (by decide +kernel) (by decide +kernel)) (goodIn_sub (fun _ h => List.mem_cons_of_mem _ (List.mem_append_right _ h)) (by decide +kernel))
set_option maxRecDepth 20000 in
theorem gX7_period__X7_period : GoodIn wsX7_period_ (wsV RX7 184 RX7 yX7_period wsX7_period) := goodIn_app (goodIn_of _ (by decide +kernel)) ggX7_period__X7_period
theorem dX7_period__0 : decode cX7_period_ 0 = .ok (.aload_n 0, 1) := by decide +kernel
theorem dX7_period__1 : decode cX7_period_ 1 = .ok (.aload_n 0, 1) := by decide +kernel
theorem dX7_period__2 : decode cX7_period_ 2 = .ok (.iload_n 1, 1) := by decide +kernel
theorem dX7_period__3 : decode cX7_period_ 3 = .ok (.invokevirtual 170, 3) := by decide +kernel
theorem dX7_period__6 : decode cX7_period_ 6 = .ok (.iconst 1, 1) := by decide +kernel
theorem dX7_period__7 : decode cX7_period_ 7 = .ok (.invokevirtual 135, 3) := by decide +kernel
theorem dX7_period__10 : decode cX7_period_ 10 = .ok (.ifCond .eq 7, 3) := by decide +kernel
theorem dX7_period__13 : decode cX7_period_ 13 = .ok (.iconst 0, 1) := by decide +kernel
theorem dX7_period__14 : decode cX7_period_ 14 = .ok (.goto 12, 3) := by decide +kernel
theorem dX7_period__17 : decode cX7_period_ 17 = .ok (.aload_n 0, 1) := by decide +kernel
theorem dX7_period__18 : decode cX7_period_ 18 = .ok (.aload_n 0, 1) := by decide +kernel
theorem dX7_period__19 : decode cX7_period_ 19 = .ok (.iload_n 1, 1) := by decide +kernel
theorem dX7_period__20 : decode cX7_period_ 20 = .ok (.invokevirtual 153, 3) := by decide +kernel
theorem dX7_period__23 : decode cX7_period_ 23 = .ok (.invokevirtual 184, 3) := by decide +kernel
theorem dX7_period__26 : decode cX7_period_ 26 = .ok (.ireturn, 1) := by decide +kernel
set_option maxRecDepth 20000 in
theorem ggX7_clear_X7_isNowhere : GoodIn wsX7_clear wsX7_isNowhere := goodIn_r _ [5, 6, 7, 8, 4, 9, 10, 11, 12, 13, 14, 15, 16, 17, 18, 19, 121, 122, 123, 124, 125, 126, 127] (by decide +kernel) (by decide +kernel)
set_option maxRecDepth 20000 in
theorem gX7_clear_X7_isNowhere : GoodIn wsX7_clear (wsV RX7 170 RX7 yX7_isNowhere wsX7_isNowhere) := goodIn_app (goodIn_of _ (by decide +kernel)) ggX7_clear_X7_isNowhere
set_option maxRecDepth 20000 in
theorem ggX7_clear_X7_start : GoodIn wsX7_clear wsX7_start := goodIn_r _ [23, 24, 25, 26, 27, 4, 28, 121, 122, 123, 124] (by decide +kernel) (by decide +kernel)
set_option maxRecDepth 20000 in
theorem gX7_clear_X7_start : GoodIn wsX7_clear (wsV RX7 135 RX7 yX7_start wsX7_start) := goodIn_app (goodIn_of _ (by decide +kernel)) ggX7_clear_X7_start
set_option maxRecDepth 20000 in
theorem ggX7_clear_X7_behind_ : GoodIn wsX7_clear wsX7_behind_ := goodIn_ca (goodIn_r _ [32, 33, 34, 35, 4, 36, 10, 37, 38, 39, 40, 41, 42, 43, 44, 45, 46, 47, 11, 12, 13, 14, 15, 16, 48, 49, 50, 51, 52, 53, 54, 55, 56, 57, 58, 59, 60, 61, 62, 63, 64, 65, 66, 67, 68, 69, 70, 71, 72, 73, 74, 75, 76, 77, 78, 79, 80, 81, 82, 83, 84, 85, 86, 87, 88, 89, 121, 122, 123, 124, 128, 129, 130, 125, 126, 127, 131, 132, 133, 134, 135, 136] (by decide +kernel) (by decide +kernel)) (goodIn_sub (fun _ h => List.mem_cons_of_mem _ (List.mem_append_right _ h)) (by decide +kernel))
set_option maxRecDepth 20000 in
theorem gX7_clear_X7_behind_ : GoodIn wsX7_clear (wsV RX7 153 RX7 yX7_behind_ wsX7_behind_) := goodIn_app (goodIn_of _ (by decide +kernel)) ggX7_clear_X7_behind_
set_option maxRecDepth 20000 in
theorem ggX7_clear_X7_value : GoodIn wsX7_clear wsX7_value := goodIn_ca (goodIn_r _ [93, 94, 95, 96, 97, 4, 98, 42, 11, 12, 13, 14, 15, 16, 65, 66, 67, 99, 100, 101, 102, 103, 104, 105, 106, 107, 108, 121, 122, 123, 124, 125, 126, 127] (by decide +kernel) (by decide +kernel)) (goodIn_sub (fun _ h => List.mem_cons_of_mem _ (List.mem_append_right _ h)) (by decide +kernel))
set_option maxRecDepth 20000 in
theorem gX7_clear_X7_value : GoodIn wsX7_clear (wsV RX7 125 RX7 yX7_value wsX7_value) := goodIn_app (goodIn_of _ (by decide +kernel)) ggX7_clear_X7_value
set_option maxRecDepth 20000 in
theorem ggX7_clear_J9_max_eb370 : GoodIn wsX7_clear wsJ9_max_eb370 := goodIn_r _ [112, 113, 114, 115, 116, 117] (by decide +kernel) (by decide +kernel)
set_option maxRecDepth 20000 in
theorem gX7_clear_J9_max_eb370 : GoodIn wsX7_clear (va_wsS RX7 187 yJ9_max_eb370 wsJ9_max_eb370) := goodIn_app (goodIn_of _ (by decide +kernel)) ggX7_clear_J9_max_eb370
set_option maxRecDepth 20000 in
theorem ggX7_clear_J9_min_eb370 : GoodIn wsX7_clear wsJ9_min_eb370 := goodIn_r _ [120, 113, 114, 115, 116, 117] (by decide +kernel) (by decide +kernel)
set_option maxRecDepth 20000 in
theorem gX7_clear_J9_min_eb370 : GoodIn wsX7_clear (va_wsS RX7 191 yJ9_min_eb370 wsJ9_min_eb370) := goodIn_app (goodIn_of _ (by decide +kernel)) ggX7_clear_J9_min_eb370
theorem dX7_clear_0 : decode cX7_clear 0 = .ok (.aload_n 0, 1) := by decide +kernel
theorem dX7_clear_1 : decode cX7_clear 1 = .ok (.aload_n 0, 1) := by decide +kernel
theorem dX7_clear_2 : decode cX7_clear 2 = .ok (.iload_n 1, 1) := by decide +kernel
theorem dX7_clear_3 : decode cX7_clear 3 = .ok (.invokevirtual 170, 3) := by decide +kernel
theorem dX7_clear_6 : decode cX7_clear 6 = .ok (.iconst 1, 1) := by decide +kernel
theorem dX7_clear_7 : decode cX7_clear 7 = .ok (.invokevirtual 135, 3) := by decide +kernel
theorem dX7_clear_10 : decode cX7_clear 10 = .ok (.ifCond .eq 5, 3) := by decide +kernel
theorem dX7_clear_13 : decode cX7_clear 13 = .ok (.dconst 0, 1) := by decide +kernel
theorem dX7_clear_14 : decode cX7_clear 14 = .ok (.dreturn, 1) := by decide +kernel
theorem dX7_clear_15 : decode cX7_clear 15 = .ok (.aload_n 0, 1) := by decide +kernel
theorem dX7_clear_16 : decode cX7_clear 16 = .ok (.iload_n 1, 1) := by decide +kernel
theorem dX7_clear_17 : decode cX7_clear 17 = .ok (.invokevirtual 153, 3) := by decide +kernel
theorem dX7_clear_20 : decode cX7_clear 20 = .ok (.astore_n 2, 1) := by decide +kernel
theorem dX7_clear_21 : decode cX7_clear 21 = .ok (.aload_n 0, 1) := by decide +kernel
theorem dX7_clear_22 : decode cX7_clear 22 = .ok (.iconst 0, 1) := by decide +kernel
theorem dX7_clear_23 : decode cX7_clear 23 = .ok (.aload_n 2, 1) := by decide +kernel
theorem dX7_clear_24 : decode cX7_clear 24 = .ok (.invokevirtual 125, 3) := by decide +kernel
theorem dX7_clear_27 : decode cX7_clear 27 = .ok (.dstore_n 3, 1) := by decide +kernel
theorem dX7_clear_28 : decode cX7_clear 28 = .ok (.dload_n 3, 1) := by decide +kernel
theorem dX7_clear_29 : decode cX7_clear 29 = .ok (.dstore 5, 2) := by decide +kernel
theorem dX7_clear_31 : decode cX7_clear 31 = .ok (.iconst 1, 1) := by decide +kernel
theorem dX7_clear_32 : decode cX7_clear 32 = .ok (.istore 7, 2) := by decide +kernel
theorem dX7_clear_34 : decode cX7_clear 34 = .ok (.iload 7, 2) := by decide +kernel
theorem dX7_clear_36 : decode cX7_clear 36 = .ok (.bipush 8, 2) := by decide +kernel
theorem dX7_clear_38 : decode cX7_clear 38 = .ok (.if_icmp .ge 35, 3) := by decide +kernel
theorem dX7_clear_41 : decode cX7_clear 41 = .ok (.dload_n 3, 1) := by decide +kernel
theorem dX7_clear_42 : decode cX7_clear 42 = .ok (.aload_n 0, 1) := by decide +kernel
theorem dX7_clear_43 : decode cX7_clear 43 = .ok (.iload 7, 2) := by decide +kernel
theorem dX7_clear_45 : decode cX7_clear 45 = .ok (.aload_n 2, 1) := by decide +kernel
theorem dX7_clear_46 : decode cX7_clear 46 = .ok (.invokevirtual 125, 3) := by decide +kernel
theorem dX7_clear_49 : decode cX7_clear 49 = .ok (.invokestatic 187, 3) := by decide +kernel
theorem dX7_clear_52 : decode cX7_clear 52 = .ok (.dstore_n 3, 1) := by decide +kernel
theorem dX7_clear_53 : decode cX7_clear 53 = .ok (.dload 5, 2) := by decide +kernel
theorem dX7_clear_55 : decode cX7_clear 55 = .ok (.aload_n 0, 1) := by decide +kernel
theorem dX7_clear_56 : decode cX7_clear 56 = .ok (.iload 7, 2) := by decide +kernel
theorem dX7_clear_58 : decode cX7_clear 58 = .ok (.aload_n 2, 1) := by decide +kernel
theorem dX7_clear_59 : decode cX7_clear 59 = .ok (.invokevirtual 125, 3) := by decide +kernel
theorem dX7_clear_62 : decode cX7_clear 62 = .ok (.invokestatic 191, 3) := by decide +kernel
theorem dX7_clear_65 : decode cX7_clear 65 = .ok (.dstore 5, 2) := by decide +kernel
theorem dX7_clear_67 : decode cX7_clear 67 = .ok (.iinc 7 1, 3) := by decide +kernel
theorem dX7_clear_70 : decode cX7_clear 70 = .ok (.goto (-36), 3) := by decide +kernel
theorem dX7_clear_73 : decode cX7_clear 73 = .ok (.dconst 0, 1) := by decide +kernel
theorem dX7_clear_74 : decode cX7_clear 74 = .ok (.dload_n 3, 1) := by decide +kernel
theorem dX7_clear_75 : decode cX7_clear 75 = .ok (.invokestatic 187, 3) := by decide +kernel
theorem dX7_clear_78 : decode cX7_clear 78 = .ok (.dstore_n 3, 1) := by decide +kernel
theorem dX7_clear_79 : decode cX7_clear 79 = .ok (.dconst 0, 1) := by decide +kernel
theorem dX7_clear_80 : decode cX7_clear 80 = .ok (.dload 5, 2) := by decide +kernel
theorem dX7_clear_82 : decode cX7_clear 82 = .ok (.invokestatic 187, 3) := by decide +kernel
theorem dX7_clear_85 : decode cX7_clear 85 = .ok (.dstore 5, 2) := by decide +kernel
theorem dX7_clear_87 : decode cX7_clear 87 = .ok (.dload_n 3, 1) := by decide +kernel
theorem dX7_clear_88 : decode cX7_clear 88 = .ok (.dload 5, 2) := by decide +kernel
theorem dX7_clear_90 : decode cX7_clear 90 = .ok (.dadd, 1) := by decide +kernel
theorem dX7_clear_91 : decode cX7_clear 91 = .ok (.dconst 0, 1) := by decide +kernel
theorem dX7_clear_92 : decode cX7_clear 92 = .ok (.dcmp .l, 1) := by decide +kernel
theorem dX7_clear_93 : decode cX7_clear 93 = .ok (.ifCond .le 15, 3) := by decide +kernel
theorem dX7_clear_108 : decode cX7_clear 108 = .ok (.dconst 0, 1) := by decide +kernel
theorem dX7_clear_109 : decode cX7_clear 109 = .ok (.dreturn, 1) := by decide +kernel
set_option maxRecDepth 20000 in
theorem ggX7_tenths_X7_isNowhere : GoodIn wsX7_tenths wsX7_isNowhere := goodIn_r _ [6, 7, 8, 9, 5, 10, 11, 12, 13, 14, 15, 16, 17, 18, 19, 20, 141, 142, 143, 144, 145, 146, 147] (by decide +kernel) (by decide +kernel)
set_option maxRecDepth 20000 in
theorem gX7_tenths_X7_isNowhere : GoodIn wsX7_tenths (wsV RX7 170 RX7 yX7_isNowhere wsX7_isNowhere) := goodIn_app (goodIn_of _ (by decide +kernel)) ggX7_tenths_X7_isNowhere
set_option maxRecDepth 20000 in
theorem ggX7_tenths_X7_isNoPlace : GoodIn wsX7_tenths wsX7_isNoPlace := goodIn_r _ [23, 18, 19, 5, 20] (by decide +kernel) (by decide +kernel)
set_option maxRecDepth 20000 in
theorem gX7_tenths_X7_isNoPlace : GoodIn wsX7_tenths (va_wsS RX7 129 yX7_isNoPlace wsX7_isNoPlace) := goodIn_app (goodIn_of _ (by decide +kernel)) ggX7_tenths_X7_isNoPlace
set_option maxRecDepth 20000 in
theorem ggX7_tenths_X7_start : GoodIn wsX7_tenths wsX7_start := goodIn_r _ [27, 28, 29, 30, 31, 5, 32, 141, 142, 143, 144] (by decide +kernel) (by decide +kernel)
set_option maxRecDepth 20000 in
theorem gX7_tenths_X7_start : GoodIn wsX7_tenths (wsV RX7 135 RX7 yX7_start wsX7_start) := goodIn_app (goodIn_of _ (by decide +kernel)) ggX7_tenths_X7_start
set_option maxRecDepth 20000 in
theorem ggX7_tenths_X7_behind_ : GoodIn wsX7_tenths wsX7_behind_ := goodIn_ca (goodIn_r _ [36, 37, 38, 39, 5, 40, 11, 41, 42, 43, 44, 45, 46, 47, 48, 49, 50, 51, 12, 13, 14, 15, 16, 17, 52, 53, 54, 55, 56, 57, 58, 59, 60, 61, 62, 63, 64, 65, 66, 67, 68, 69, 70, 71, 72, 73, 74, 75, 76, 77, 78, 79, 80, 81, 82, 83, 84, 85, 86, 87, 88, 89, 90, 91, 92, 93, 141, 142, 143, 144, 148, 149, 150, 145, 146, 147, 151, 152, 153, 154, 155, 156] (by decide +kernel) (by decide +kernel)) (goodIn_sub (fun _ h => List.mem_cons_of_mem _ (List.mem_append_right _ h)) (by decide +kernel))
set_option maxRecDepth 20000 in
theorem gX7_tenths_X7_behind_ : GoodIn wsX7_tenths (wsV RX7 153 RX7 yX7_behind_ wsX7_behind_) := goodIn_app (goodIn_of _ (by decide +kernel)) ggX7_tenths_X7_behind_
set_option maxRecDepth 20000 in
theorem ggX7_tenths_X7_brightest : GoodIn wsX7_tenths wsX7_brightest := goodIn_ca (goodIn_r _ [97, 98, 99, 100, 5, 101, 102, 103, 104, 105, 106, 46, 12, 13, 14, 15, 16, 17, 69, 70, 71, 107, 108, 109, 110, 111, 112, 113, 114, 115, 116, 141, 142, 143, 144, 145, 146, 147] (by decide +kernel) (by decide +kernel)) (goodIn_sub (fun _ h => List.mem_cons_of_mem _ (List.mem_append_right _ h)) (by decide +kernel))
set_option maxRecDepth 20000 in
theorem gX7_tenths_X7_brightest : GoodIn wsX7_tenths (wsV RX7 177 RX7 yX7_brightest wsX7_brightest) := goodIn_app (goodIn_of _ (by decide +kernel)) ggX7_tenths_X7_brightest
set_option maxRecDepth 20000 in
theorem ggX7_tenths_X7_value : GoodIn wsX7_tenths wsX7_value := goodIn_ca (goodIn_r _ [101, 102, 103, 104, 105, 5, 106, 46, 12, 13, 14, 15, 16, 17, 69, 70, 71, 107, 108, 109, 110, 111, 112, 113, 114, 115, 116, 141, 142, 143, 144, 145, 146, 147] (by decide +kernel) (by decide +kernel)) (goodIn_sub (fun _ h => List.mem_cons_of_mem _ (List.mem_append_right _ h)) (by decide +kernel))
set_option maxRecDepth 20000 in
theorem gX7_tenths_X7_value : GoodIn wsX7_tenths (wsV RX7 125 RX7 yX7_value wsX7_value) := goodIn_app (goodIn_of _ (by decide +kernel)) ggX7_tenths_X7_value
theorem dX7_tenths_0 : decode cX7_tenths 0 = .ok (.aload_n 0, 1) := by decide +kernel
theorem dX7_tenths_1 : decode cX7_tenths 1 = .ok (.aload_n 0, 1) := by decide +kernel
theorem dX7_tenths_2 : decode cX7_tenths 2 = .ok (.iload_n 1, 1) := by decide +kernel
theorem dX7_tenths_3 : decode cX7_tenths 3 = .ok (.invokevirtual 170, 3) := by decide +kernel
theorem dX7_tenths_6 : decode cX7_tenths 6 = .ok (.ifCond .ne 10, 3) := by decide +kernel
theorem dX7_tenths_9 : decode cX7_tenths 9 = .ok (.iload_n 2, 1) := by decide +kernel
theorem dX7_tenths_10 : decode cX7_tenths 10 = .ok (.invokestatic 129, 3) := by decide +kernel
theorem dX7_tenths_13 : decode cX7_tenths 13 = .ok (.ifCond .eq 7, 3) := by decide +kernel
theorem dX7_tenths_16 : decode cX7_tenths 16 = .ok (.iconst 1, 1) := by decide +kernel
theorem dX7_tenths_17 : decode cX7_tenths 17 = .ok (.goto 4, 3) := by decide +kernel
theorem dX7_tenths_20 : decode cX7_tenths 20 = .ok (.iconst 0, 1) := by decide +kernel
theorem dX7_tenths_21 : decode cX7_tenths 21 = .ok (.iconst 1, 1) := by decide +kernel
theorem dX7_tenths_22 : decode cX7_tenths 22 = .ok (.invokevirtual 135, 3) := by decide +kernel
theorem dX7_tenths_25 : decode cX7_tenths 25 = .ok (.ifCond .eq 5, 3) := by decide +kernel
theorem dX7_tenths_28 : decode cX7_tenths 28 = .ok (.dconst 0, 1) := by decide +kernel
theorem dX7_tenths_29 : decode cX7_tenths 29 = .ok (.dreturn, 1) := by decide +kernel
theorem dX7_tenths_30 : decode cX7_tenths 30 = .ok (.aload_n 0, 1) := by decide +kernel
theorem dX7_tenths_31 : decode cX7_tenths 31 = .ok (.iload_n 1, 1) := by decide +kernel
theorem dX7_tenths_32 : decode cX7_tenths 32 = .ok (.invokevirtual 153, 3) := by decide +kernel
theorem dX7_tenths_35 : decode cX7_tenths 35 = .ok (.astore_n 3, 1) := by decide +kernel
theorem dX7_tenths_36 : decode cX7_tenths 36 = .ok (.aload_n 0, 1) := by decide +kernel
theorem dX7_tenths_37 : decode cX7_tenths 37 = .ok (.aload_n 0, 1) := by decide +kernel
theorem dX7_tenths_38 : decode cX7_tenths 38 = .ok (.aload_n 3, 1) := by decide +kernel
theorem dX7_tenths_39 : decode cX7_tenths 39 = .ok (.invokevirtual 177, 3) := by decide +kernel
theorem dX7_tenths_42 : decode cX7_tenths 42 = .ok (.aload_n 3, 1) := by decide +kernel
theorem dX7_tenths_43 : decode cX7_tenths 43 = .ok (.invokevirtual 125, 3) := by decide +kernel
theorem dX7_tenths_46 : decode cX7_tenths 46 = .ok (.dstore 4, 2) := by decide +kernel
theorem dX7_tenths_48 : decode cX7_tenths 48 = .ok (.dload 4, 2) := by decide +kernel
theorem dX7_tenths_50 : decode cX7_tenths 50 = .ok (.dconst 0, 1) := by decide +kernel
theorem dX7_tenths_51 : decode cX7_tenths 51 = .ok (.dcmp .l, 1) := by decide +kernel
theorem dX7_tenths_52 : decode cX7_tenths 52 = .ok (.ifCond .le 22, 3) := by decide +kernel
theorem dX7_tenths_74 : decode cX7_tenths 74 = .ok (.dconst 0, 1) := by decide +kernel
theorem dX7_tenths_75 : decode cX7_tenths 75 = .ok (.dreturn, 1) := by decide +kernel
set_option maxRecDepth 20000 in
theorem ggX7_loses_X7_isNoPart : GoodIn wsX7_loses wsX7_isNoPart := goodIn_r _ [5, 6, 7, 8, 9, 10, 11, 12, 13, 14, 4, 15, 115, 116, 117, 118, 119, 120, 121] (by decide +kernel) (by decide +kernel)
set_option maxRecDepth 20000 in
theorem gX7_loses_X7_isNoPart : GoodIn wsX7_loses (wsV RX7 35 RX7 yX7_isNoPart wsX7_isNoPart) := goodIn_app (goodIn_of _ (by decide +kernel)) ggX7_loses_X7_isNoPart
set_option maxRecDepth 20000 in
theorem ggX7_loses_X7_start : GoodIn wsX7_loses wsX7_start := goodIn_r _ [19, 20, 21, 22, 23, 4, 24, 115, 116, 117, 118] (by decide +kernel) (by decide +kernel)
set_option maxRecDepth 20000 in
theorem gX7_loses_X7_start : GoodIn wsX7_loses (wsV RX7 135 RX7 yX7_start wsX7_start) := goodIn_app (goodIn_of _ (by decide +kernel)) ggX7_loses_X7_start
theorem dX7_loses_0 : decode cX7_loses 0 = .ok (.aload_n 0, 1) := by decide +kernel
theorem dX7_loses_1 : decode cX7_loses 1 = .ok (.aload_n 0, 1) := by decide +kernel
theorem dX7_loses_2 : decode cX7_loses 2 = .ok (.iload_n 1, 1) := by decide +kernel
theorem dX7_loses_3 : decode cX7_loses 3 = .ok (.invokevirtual 35, 3) := by decide +kernel
theorem dX7_loses_6 : decode cX7_loses 6 = .ok (.iconst 1, 1) := by decide +kernel
theorem dX7_loses_7 : decode cX7_loses 7 = .ok (.invokevirtual 135, 3) := by decide +kernel
theorem dX7_loses_10 : decode cX7_loses 10 = .ok (.ifCond .eq 7, 3) := by decide +kernel
theorem dX7_loses_13 : decode cX7_loses 13 = .ok (.lconst 0, 1) := by decide +kernel
theorem dX7_loses_14 : decode cX7_loses 14 = .ok (.goto 8, 3) := by decide +kernel
theorem dX7_loses_22 : decode cX7_loses 22 = .ok (.lreturn, 1) := by decide +kernel
set_option maxRecDepth 20000 in
theorem ggX7_ofPart_X7_isNoPart : GoodIn wsX7_ofPart wsX7_isNoPart := goodIn_r _ [7, 1, 8, 9, 10, 11, 12, 13, 14, 15, 6, 16, 57, 58, 59, 60, 61, 62, 63] (by decide +kernel) (by decide +kernel)
set_option maxRecDepth 20000 in
theorem gX7_ofPart_X7_isNoPart : GoodIn wsX7_ofPart (wsV RX7 35 RX7 yX7_isNoPart wsX7_isNoPart) := goodIn_app (goodIn_of _ (by decide +kernel)) ggX7_ofPart_X7_isNoPart
set_option maxRecDepth 20000 in
theorem ggX7_ofPart_X7_start : GoodIn wsX7_ofPart wsX7_start := goodIn_r _ [20, 21, 22, 23, 24, 6, 25, 57, 58, 59, 60] (by decide +kernel) (by decide +kernel)
set_option maxRecDepth 20000 in
theorem gX7_ofPart_X7_start : GoodIn wsX7_ofPart (wsV RX7 135 RX7 yX7_start wsX7_start) := goodIn_app (goodIn_of _ (by decide +kernel)) ggX7_ofPart_X7_start
theorem dX7_ofPart_0 : decode cX7_ofPart 0 = .ok (.aload_n 0, 1) := by decide +kernel
theorem dX7_ofPart_1 : decode cX7_ofPart 1 = .ok (.aload_n 0, 1) := by decide +kernel
theorem dX7_ofPart_2 : decode cX7_ofPart 2 = .ok (.iload_n 1, 1) := by decide +kernel
theorem dX7_ofPart_3 : decode cX7_ofPart 3 = .ok (.invokevirtual 35, 3) := by decide +kernel
theorem dX7_ofPart_6 : decode cX7_ofPart 6 = .ok (.iconst 1, 1) := by decide +kernel
theorem dX7_ofPart_7 : decode cX7_ofPart 7 = .ok (.invokevirtual 135, 3) := by decide +kernel
theorem dX7_ofPart_10 : decode cX7_ofPart 10 = .ok (.ifCond .ne 25, 3) := by decide +kernel
theorem dX7_ofPart_35 : decode cX7_ofPart 35 = .ok (.iconst 0, 1) := by decide +kernel
theorem dX7_ofPart_36 : decode cX7_ofPart 36 = .ok (.goto 18, 3) := by decide +kernel
theorem dX7_ofPart_54 : decode cX7_ofPart 54 = .ok (.ireturn, 1) := by decide +kernel
set_option maxRecDepth 20000 in
theorem ggX7_exposure_X7_isNoPart : GoodIn wsX7_exposure wsX7_isNoPart := goodIn_r _ [8, 1, 9, 10, 11, 12, 13, 14, 15, 16, 7, 17, 47, 48, 49, 50, 57, 58, 59] (by decide +kernel) (by decide +kernel)
set_option maxRecDepth 20000 in
theorem gX7_exposure_X7_isNoPart : GoodIn wsX7_exposure (wsV RX7 35 RX7 yX7_isNoPart wsX7_isNoPart) := goodIn_app (goodIn_of _ (by decide +kernel)) ggX7_exposure_X7_isNoPart
set_option maxRecDepth 20000 in
theorem ggX7_exposure_X7_start : GoodIn wsX7_exposure wsX7_start := goodIn_r _ [24, 25, 26, 27, 28, 7, 29, 47, 48, 49, 50] (by decide +kernel) (by decide +kernel)
set_option maxRecDepth 20000 in
theorem gX7_exposure_X7_start : GoodIn wsX7_exposure (wsV RX7 135 RX7 yX7_start wsX7_start) := goodIn_app (goodIn_of _ (by decide +kernel)) ggX7_exposure_X7_start
theorem dX7_exposure_0 : decode cX7_exposure 0 = .ok (.aload_n 0, 1) := by decide +kernel
theorem dX7_exposure_1 : decode cX7_exposure 1 = .ok (.aload_n 0, 1) := by decide +kernel
theorem dX7_exposure_2 : decode cX7_exposure 2 = .ok (.iload_n 1, 1) := by decide +kernel
theorem dX7_exposure_3 : decode cX7_exposure 3 = .ok (.invokevirtual 35, 3) := by decide +kernel
theorem dX7_exposure_6 : decode cX7_exposure 6 = .ok (.ifCond .ne 10, 3) := by decide +kernel
theorem dX7_exposure_16 : decode cX7_exposure 16 = .ok (.iconst 1, 1) := by decide +kernel
theorem dX7_exposure_17 : decode cX7_exposure 17 = .ok (.goto 4, 3) := by decide +kernel
theorem dX7_exposure_21 : decode cX7_exposure 21 = .ok (.iconst 1, 1) := by decide +kernel
theorem dX7_exposure_22 : decode cX7_exposure 22 = .ok (.invokevirtual 135, 3) := by decide +kernel
theorem dX7_exposure_25 : decode cX7_exposure 25 = .ok (.ifCond .eq 7, 3) := by decide +kernel
theorem dX7_exposure_28 : decode cX7_exposure 28 = .ok (.iconst 0, 1) := by decide +kernel
theorem dX7_exposure_29 : decode cX7_exposure 29 = .ok (.goto 19, 3) := by decide +kernel
theorem dX7_exposure_48 : decode cX7_exposure 48 = .ok (.ireturn, 1) := by decide +kernel
set_option maxRecDepth 20000 in
theorem ggX7_ofSource_Jx4a65c_size_8abf5 : GoodIn wsX7_ofSource wsJx4a65c_size_8abf5 := goodIn_r _ [7, 8, 49, 50, 51] (by decide +kernel) (by decide +kernel)
set_option maxRecDepth 20000 in
theorem gX7_ofSource_Jx4a65c_size_8abf5 : GoodIn wsX7_ofSource (wsV RX7 27 RJx4a65c yJx4a65c_size_8abf5 wsJx4a65c_size_8abf5) := goodIn_app (goodIn_of _ (by decide +kernel)) ggX7_ofSource_Jx4a65c_size_8abf5
set_option maxRecDepth 20000 in
theorem ggX7_ofSource_X7_isIn : GoodIn wsX7_ofSource wsX7_isIn := goodIn_r _ [12] (by decide +kernel) (by decide +kernel)
set_option maxRecDepth 20000 in
theorem gX7_ofSource_X7_isIn : GoodIn wsX7_ofSource (va_wsS RX7 31 yX7_isIn wsX7_isIn) := goodIn_app (goodIn_of _ (by decide +kernel)) ggX7_ofSource_X7_isIn
set_option maxRecDepth 20000 in
theorem ggX7_ofSource_X7_start : GoodIn wsX7_ofSource wsX7_start := goodIn_r _ [16, 17, 18, 19, 20, 11, 21, 45, 46, 47, 48] (by decide +kernel) (by decide +kernel)
set_option maxRecDepth 20000 in
theorem gX7_ofSource_X7_start : GoodIn wsX7_ofSource (wsV RX7 135 RX7 yX7_start wsX7_start) := goodIn_app (goodIn_of _ (by decide +kernel)) ggX7_ofSource_X7_start
theorem dX7_ofSource_0 : decode cX7_ofSource 0 = .ok (.aload_n 0, 1) := by decide +kernel
theorem dX7_ofSource_1 : decode cX7_ofSource 1 = .ok (.iload_n 1, 1) := by decide +kernel
theorem dX7_ofSource_2 : decode cX7_ofSource 2 = .ok (.iconst 0, 1) := by decide +kernel
theorem dX7_ofSource_3 : decode cX7_ofSource 3 = .ok (.aload_n 0, 1) := by decide +kernel
theorem dX7_ofSource_4 : decode cX7_ofSource 4 = .ok (.getfield 10, 3) := by decide +kernel
theorem dX7_ofSource_7 : decode cX7_ofSource 7 = .ok (.invokevirtual 27, 3) := by decide +kernel
theorem dX7_ofSource_10 : decode cX7_ofSource 10 = .ok (.iconst 1, 1) := by decide +kernel
theorem dX7_ofSource_11 : decode cX7_ofSource 11 = .ok (.isub, 1) := by decide +kernel
theorem dX7_ofSource_12 : decode cX7_ofSource 12 = .ok (.invokestatic 31, 3) := by decide +kernel
theorem dX7_ofSource_15 : decode cX7_ofSource 15 = .ok (.ifCond .ne 7, 3) := by decide +kernel
theorem dX7_ofSource_18 : decode cX7_ofSource 18 = .ok (.iconst 1, 1) := by decide +kernel
theorem dX7_ofSource_19 : decode cX7_ofSource 19 = .ok (.goto 4, 3) := by decide +kernel
theorem dX7_ofSource_23 : decode cX7_ofSource 23 = .ok (.iconst 1, 1) := by decide +kernel
theorem dX7_ofSource_24 : decode cX7_ofSource 24 = .ok (.invokevirtual 135, 3) := by decide +kernel
theorem dX7_ofSource_27 : decode cX7_ofSource 27 = .ok (.ifCond .ne 25, 3) := by decide +kernel
theorem dX7_ofSource_52 : decode cX7_ofSource 52 = .ok (.iconst 0, 1) := by decide +kernel
theorem dX7_ofSource_53 : decode cX7_ofSource 53 = .ok (.goto 18, 3) := by decide +kernel
theorem dX7_ofSource_71 : decode cX7_ofSource 71 = .ok (.ireturn, 1) := by decide +kernel
set_option maxRecDepth 20000 in
theorem ggX7_manyNow_Jx4a65c_size_8abf5 : GoodIn wsX7_manyNow wsJx4a65c_size_8abf5 := goodIn_r _ [10, 11, 48, 49, 50] (by decide +kernel) (by decide +kernel)
set_option maxRecDepth 20000 in
theorem gX7_manyNow_Jx4a65c_size_8abf5 : GoodIn wsX7_manyNow (wsV RX7 27 RJx4a65c yJx4a65c_size_8abf5 wsJx4a65c_size_8abf5) := goodIn_app (goodIn_of _ (by decide +kernel)) ggX7_manyNow_Jx4a65c_size_8abf5
theorem dX7_manyNow_0 : decode cX7_manyNow 0 = .ok (.iconst 0, 1) := by decide +kernel
theorem dX7_manyNow_1 : decode cX7_manyNow 1 = .ok (.istore_n 2, 1) := by decide +kernel
theorem dX7_manyNow_2 : decode cX7_manyNow 2 = .ok (.iconst (-1), 1) := by decide +kernel
theorem dX7_manyNow_3 : decode cX7_manyNow 3 = .ok (.istore_n 3, 1) := by decide +kernel
theorem dX7_manyNow_4 : decode cX7_manyNow 4 = .ok (.aload_n 0, 1) := by decide +kernel
theorem dX7_manyNow_5 : decode cX7_manyNow 5 = .ok (.getfield 16, 3) := by decide +kernel
theorem dX7_manyNow_8 : decode cX7_manyNow 8 = .ok (.invokevirtual 27, 3) := by decide +kernel
theorem dX7_manyNow_11 : decode cX7_manyNow 11 = .ok (.iconst 1, 1) := by decide +kernel
theorem dX7_manyNow_12 : decode cX7_manyNow 12 = .ok (.isub, 1) := by decide +kernel
theorem dX7_manyNow_13 : decode cX7_manyNow 13 = .ok (.istore 4, 2) := by decide +kernel
theorem dX7_manyNow_15 : decode cX7_manyNow 15 = .ok (.iload 4, 2) := by decide +kernel
theorem dX7_manyNow_17 : decode cX7_manyNow 17 = .ok (.ifCond .lt 58, 3) := by decide +kernel
theorem dX7_manyNow_75 : decode cX7_manyNow 75 = .ok (.iload_n 1, 1) := by decide +kernel
theorem dX7_manyNow_76 : decode cX7_manyNow 76 = .ok (.ifCond .ne 13, 3) := by decide +kernel
theorem dX7_manyNow_79 : decode cX7_manyNow 79 = .ok (.aload_n 0, 1) := by decide +kernel
theorem dX7_manyNow_80 : decode cX7_manyNow 80 = .ok (.getfield 10, 3) := by decide +kernel
theorem dX7_manyNow_83 : decode cX7_manyNow 83 = .ok (.invokevirtual 27, 3) := by decide +kernel
theorem dX7_manyNow_86 : decode cX7_manyNow 86 = .ok (.goto 40, 3) := by decide +kernel
theorem dX7_manyNow_89 : decode cX7_manyNow 89 = .ok (.iload_n 1, 1) := by decide +kernel
theorem dX7_manyNow_90 : decode cX7_manyNow 90 = .ok (.iconst 1, 1) := by decide +kernel
theorem dX7_manyNow_91 : decode cX7_manyNow 91 = .ok (.if_icmp .ne 13, 3) := by decide +kernel
theorem dX7_manyNow_94 : decode cX7_manyNow 94 = .ok (.aload_n 0, 1) := by decide +kernel
theorem dX7_manyNow_95 : decode cX7_manyNow 95 = .ok (.getfield 16, 3) := by decide +kernel
theorem dX7_manyNow_98 : decode cX7_manyNow 98 = .ok (.invokevirtual 27, 3) := by decide +kernel
theorem dX7_manyNow_101 : decode cX7_manyNow 101 = .ok (.goto 25, 3) := by decide +kernel
theorem dX7_manyNow_104 : decode cX7_manyNow 104 = .ok (.iload_n 1, 1) := by decide +kernel
theorem dX7_manyNow_105 : decode cX7_manyNow 105 = .ok (.iconst 2, 1) := by decide +kernel
theorem dX7_manyNow_106 : decode cX7_manyNow 106 = .ok (.if_icmp .ne 7, 3) := by decide +kernel
theorem dX7_manyNow_109 : decode cX7_manyNow 109 = .ok (.iload_n 2, 1) := by decide +kernel
theorem dX7_manyNow_110 : decode cX7_manyNow 110 = .ok (.goto 16, 3) := by decide +kernel
theorem dX7_manyNow_113 : decode cX7_manyNow 113 = .ok (.iload_n 1, 1) := by decide +kernel
theorem dX7_manyNow_114 : decode cX7_manyNow 114 = .ok (.iconst 3, 1) := by decide +kernel
theorem dX7_manyNow_115 : decode cX7_manyNow 115 = .ok (.if_icmp .ne 7, 3) := by decide +kernel
theorem dX7_manyNow_118 : decode cX7_manyNow 118 = .ok (.iload_n 3, 1) := by decide +kernel
theorem dX7_manyNow_119 : decode cX7_manyNow 119 = .ok (.goto 7, 3) := by decide +kernel
theorem dX7_manyNow_122 : decode cX7_manyNow 122 = .ok (.aload_n 0, 1) := by decide +kernel
theorem dX7_manyNow_123 : decode cX7_manyNow 123 = .ok (.getfield 166, 3) := by decide +kernel
theorem dX7_manyNow_126 : decode cX7_manyNow 126 = .ok (.ireturn, 1) := by decide +kernel
set_option maxRecDepth 20000 in
theorem ggX7_many_X7_isIn : GoodIn wsX7_many wsX7_isIn := goodIn_r _ [4] (by decide +kernel) (by decide +kernel)
set_option maxRecDepth 20000 in
theorem gX7_many_X7_isIn : GoodIn wsX7_many (va_wsS RX7 31 yX7_isIn wsX7_isIn) := goodIn_app (goodIn_of _ (by decide +kernel)) ggX7_many_X7_isIn
set_option maxRecDepth 20000 in
theorem ggX7_many_X7_start : GoodIn wsX7_many wsX7_start := goodIn_r _ [8, 9, 10, 11, 12, 3, 13, 55, 56, 57, 58] (by decide +kernel) (by decide +kernel)
set_option maxRecDepth 20000 in
theorem gX7_many_X7_start : GoodIn wsX7_many (wsV RX7 135 RX7 yX7_start wsX7_start) := goodIn_app (goodIn_of _ (by decide +kernel)) ggX7_many_X7_start
set_option maxRecDepth 20000 in
theorem ggX7_many_X7_manyNow : GoodIn wsX7_many wsX7_manyNow := goodIn_ca (goodIn_r _ [17, 18, 19, 20, 21, 22, 23, 24, 25, 26, 27, 28, 29, 30, 31, 32, 33, 34, 35, 36, 37, 38, 39, 40, 41, 42, 43, 44, 45, 46, 47, 48, 49, 50, 51, 52, 53, 54, 55, 56, 57, 58, 59, 60, 61, 62, 63, 64, 65, 66, 67] (by decide +kernel) (by decide +kernel)) (goodIn_sub (fun _ h => List.mem_cons_of_mem _ (List.mem_append_right _ h)) (by decide +kernel))
set_option maxRecDepth 20000 in
theorem gX7_many_X7_manyNow : GoodIn wsX7_many (wsV RX7 218 RX7 yX7_manyNow wsX7_manyNow) := goodIn_app (goodIn_of _ (by decide +kernel)) ggX7_many_X7_manyNow
theorem dX7_many_0 : decode cX7_many 0 = .ok (.aload_n 0, 1) := by decide +kernel
theorem dX7_many_1 : decode cX7_many 1 = .ok (.iload_n 1, 1) := by decide +kernel
theorem dX7_many_2 : decode cX7_many 2 = .ok (.iconst 0, 1) := by decide +kernel
theorem dX7_many_3 : decode cX7_many 3 = .ok (.iconst 4, 1) := by decide +kernel
theorem dX7_many_4 : decode cX7_many 4 = .ok (.invokestatic 31, 3) := by decide +kernel
theorem dX7_many_7 : decode cX7_many 7 = .ok (.ifCond .ne 7, 3) := by decide +kernel
theorem dX7_many_10 : decode cX7_many 10 = .ok (.iconst 1, 1) := by decide +kernel
theorem dX7_many_11 : decode cX7_many 11 = .ok (.goto 4, 3) := by decide +kernel
theorem dX7_many_14 : decode cX7_many 14 = .ok (.iconst 0, 1) := by decide +kernel
theorem dX7_many_15 : decode cX7_many 15 = .ok (.iconst 1, 1) := by decide +kernel
theorem dX7_many_16 : decode cX7_many 16 = .ok (.invokevirtual 135, 3) := by decide +kernel
theorem dX7_many_19 : decode cX7_many 19 = .ok (.ifCond .eq 7, 3) := by decide +kernel
theorem dX7_many_22 : decode cX7_many 22 = .ok (.iconst 0, 1) := by decide +kernel
theorem dX7_many_23 : decode cX7_many 23 = .ok (.goto 8, 3) := by decide +kernel
theorem dX7_many_26 : decode cX7_many 26 = .ok (.aload_n 0, 1) := by decide +kernel
theorem dX7_many_27 : decode cX7_many 27 = .ok (.iload_n 1, 1) := by decide +kernel
theorem dX7_many_28 : decode cX7_many 28 = .ok (.invokevirtual 218, 3) := by decide +kernel
theorem dX7_many_31 : decode cX7_many 31 = .ok (.ireturn, 1) := by decide +kernel
set_option maxRecDepth 20000 in
theorem ggX7_without_X7_isNoPart : GoodIn wsX7_without wsX7_isNoPart := goodIn_r _ [5, 6, 7, 8, 9, 10, 11, 12, 13, 14, 4, 15, 104, 105, 106, 107, 108, 109, 110] (by decide +kernel) (by decide +kernel)
set_option maxRecDepth 20000 in
theorem gX7_without_X7_isNoPart : GoodIn wsX7_without (wsV RX7 35 RX7 yX7_isNoPart wsX7_isNoPart) := goodIn_app (goodIn_of _ (by decide +kernel)) ggX7_without_X7_isNoPart
set_option maxRecDepth 20000 in
theorem ggX7_without_X7_start : GoodIn wsX7_without wsX7_start := goodIn_r _ [22, 23, 24, 25, 26, 4, 27, 104, 105, 106, 107] (by decide +kernel) (by decide +kernel)
set_option maxRecDepth 20000 in
theorem gX7_without_X7_start : GoodIn wsX7_without (wsV RX7 135 RX7 yX7_start wsX7_start) := goodIn_app (goodIn_of _ (by decide +kernel)) ggX7_without_X7_start
theorem dX7_without_0 : decode cX7_without 0 = .ok (.aload_n 0, 1) := by decide +kernel
theorem dX7_without_1 : decode cX7_without 1 = .ok (.aload_n 0, 1) := by decide +kernel
theorem dX7_without_2 : decode cX7_without 2 = .ok (.iload_n 1, 1) := by decide +kernel
theorem dX7_without_3 : decode cX7_without 3 = .ok (.invokevirtual 35, 3) := by decide +kernel
theorem dX7_without_6 : decode cX7_without 6 = .ok (.ifCond .ne 10, 3) := by decide +kernel
theorem dX7_without_16 : decode cX7_without 16 = .ok (.iconst 1, 1) := by decide +kernel
theorem dX7_without_17 : decode cX7_without 17 = .ok (.goto 4, 3) := by decide +kernel
theorem dX7_without_21 : decode cX7_without 21 = .ok (.iconst 1, 1) := by decide +kernel
theorem dX7_without_22 : decode cX7_without 22 = .ok (.invokevirtual 135, 3) := by decide +kernel
theorem dX7_without_25 : decode cX7_without 25 = .ok (.ifCond .eq 7, 3) := by decide +kernel
theorem dX7_without_28 : decode cX7_without 28 = .ok (.lconst 0, 1) := by decide +kernel
theorem dX7_without_29 : decode cX7_without 29 = .ok (.goto 9, 3) := by decide +kernel
theorem dX7_without_38 : decode cX7_without 38 = .ok (.lreturn, 1) := by decide +kernel
set_option maxRecDepth 20000 in
theorem ggX7_best_X7_isNoPart : GoodIn wsX7_best wsX7_isNoPart := goodIn_r _ [5, 6, 7, 8, 9, 10, 11, 12, 13, 14, 4, 15, 118, 119, 120, 121, 122, 123, 124] (by decide +kernel) (by decide +kernel)
set_option maxRecDepth 20000 in
theorem gX7_best_X7_isNoPart : GoodIn wsX7_best (wsV RX7 35 RX7 yX7_isNoPart wsX7_isNoPart) := goodIn_app (goodIn_of _ (by decide +kernel)) ggX7_best_X7_isNoPart
set_option maxRecDepth 20000 in
theorem ggX7_best_X7_start : GoodIn wsX7_best wsX7_start := goodIn_r _ [22, 23, 24, 25, 26, 4, 27, 118, 119, 120, 121] (by decide +kernel) (by decide +kernel)
set_option maxRecDepth 20000 in
theorem gX7_best_X7_start : GoodIn wsX7_best (wsV RX7 135 RX7 yX7_start wsX7_start) := goodIn_app (goodIn_of _ (by decide +kernel)) ggX7_best_X7_start
theorem dX7_best_0 : decode cX7_best 0 = .ok (.aload_n 0, 1) := by decide +kernel
theorem dX7_best_1 : decode cX7_best 1 = .ok (.aload_n 0, 1) := by decide +kernel
theorem dX7_best_2 : decode cX7_best 2 = .ok (.iload_n 1, 1) := by decide +kernel
theorem dX7_best_3 : decode cX7_best 3 = .ok (.invokevirtual 35, 3) := by decide +kernel
theorem dX7_best_6 : decode cX7_best 6 = .ok (.ifCond .ne 10, 3) := by decide +kernel
theorem dX7_best_16 : decode cX7_best 16 = .ok (.iconst 1, 1) := by decide +kernel
theorem dX7_best_17 : decode cX7_best 17 = .ok (.goto 4, 3) := by decide +kernel
theorem dX7_best_21 : decode cX7_best 21 = .ok (.iconst 1, 1) := by decide +kernel
theorem dX7_best_22 : decode cX7_best 22 = .ok (.invokevirtual 135, 3) := by decide +kernel
theorem dX7_best_25 : decode cX7_best 25 = .ok (.ifCond .eq 7, 3) := by decide +kernel
theorem dX7_best_28 : decode cX7_best 28 = .ok (.iconst 0, 1) := by decide +kernel
theorem dX7_best_29 : decode cX7_best 29 = .ok (.goto 9, 3) := by decide +kernel
theorem dX7_best_38 : decode cX7_best 38 = .ok (.ireturn, 1) := by decide +kernel
set_option maxRecDepth 20000 in
theorem ggX7_alone_Jx4a65c_size_8abf5 : GoodIn wsX7_alone wsJx4a65c_size_8abf5 := goodIn_r _ [6, 7, 113, 114, 115] (by decide +kernel) (by decide +kernel)
set_option maxRecDepth 20000 in
theorem gX7_alone_Jx4a65c_size_8abf5 : GoodIn wsX7_alone (wsV RX7 27 RJx4a65c yJx4a65c_size_8abf5 wsJx4a65c_size_8abf5) := goodIn_app (goodIn_of _ (by decide +kernel)) ggX7_alone_Jx4a65c_size_8abf5
set_option maxRecDepth 20000 in
theorem ggX7_alone_X7_isIn : GoodIn wsX7_alone wsX7_isIn := goodIn_r _ [11] (by decide +kernel) (by decide +kernel)
set_option maxRecDepth 20000 in
theorem gX7_alone_X7_isIn : GoodIn wsX7_alone (va_wsS RX7 31 yX7_isIn wsX7_isIn) := goodIn_app (goodIn_of _ (by decide +kernel)) ggX7_alone_X7_isIn
set_option maxRecDepth 20000 in
theorem ggX7_alone_X7_start : GoodIn wsX7_alone wsX7_start := goodIn_r _ [15, 16, 17, 18, 19, 10, 20, 109, 110, 111, 112] (by decide +kernel) (by decide +kernel)
set_option maxRecDepth 20000 in
theorem gX7_alone_X7_start : GoodIn wsX7_alone (wsV RX7 135 RX7 yX7_start wsX7_start) := goodIn_app (goodIn_of _ (by decide +kernel)) ggX7_alone_X7_start
theorem dX7_alone_0 : decode cX7_alone 0 = .ok (.aload_n 0, 1) := by decide +kernel
theorem dX7_alone_1 : decode cX7_alone 1 = .ok (.iload_n 1, 1) := by decide +kernel
theorem dX7_alone_2 : decode cX7_alone 2 = .ok (.iconst 0, 1) := by decide +kernel
theorem dX7_alone_3 : decode cX7_alone 3 = .ok (.aload_n 0, 1) := by decide +kernel
theorem dX7_alone_4 : decode cX7_alone 4 = .ok (.getfield 10, 3) := by decide +kernel
theorem dX7_alone_7 : decode cX7_alone 7 = .ok (.invokevirtual 27, 3) := by decide +kernel
theorem dX7_alone_10 : decode cX7_alone 10 = .ok (.iconst 1, 1) := by decide +kernel
theorem dX7_alone_11 : decode cX7_alone 11 = .ok (.isub, 1) := by decide +kernel
theorem dX7_alone_12 : decode cX7_alone 12 = .ok (.invokestatic 31, 3) := by decide +kernel
theorem dX7_alone_15 : decode cX7_alone 15 = .ok (.ifCond .ne 7, 3) := by decide +kernel
theorem dX7_alone_18 : decode cX7_alone 18 = .ok (.iconst 1, 1) := by decide +kernel
theorem dX7_alone_19 : decode cX7_alone 19 = .ok (.goto 4, 3) := by decide +kernel
theorem dX7_alone_23 : decode cX7_alone 23 = .ok (.iconst 1, 1) := by decide +kernel
theorem dX7_alone_24 : decode cX7_alone 24 = .ok (.invokevirtual 135, 3) := by decide +kernel
theorem dX7_alone_27 : decode cX7_alone 27 = .ok (.ifCond .eq 7, 3) := by decide +kernel
theorem dX7_alone_30 : decode cX7_alone 30 = .ok (.iconst 0, 1) := by decide +kernel
theorem dX7_alone_31 : decode cX7_alone 31 = .ok (.goto 8, 3) := by decide +kernel
theorem dX7_alone_39 : decode cX7_alone 39 = .ok (.ireturn, 1) := by decide +kernel
theorem dX7_add__0 : decode cX7_add_ 0 = .ok (.lload_n 0, 1) := by decide +kernel
theorem dX7_add__1 : decode cX7_add_ 1 = .ok (.ldc2_w 235, 3) := by decide +kernel
theorem dX7_add__4 : decode cX7_add_ 4 = .ok (.lmul, 1) := by decide +kernel
theorem dX7_add__5 : decode cX7_add_ 5 = .ok (.lload_n 2, 1) := by decide +kernel
theorem dX7_add__6 : decode cX7_add_ 6 = .ok (.ladd, 1) := by decide +kernel
theorem dX7_add__7 : decode cX7_add_ 7 = .ok (.lreturn, 1) := by decide +kernel
set_option maxRecDepth 20000 in
theorem ggX7_digest_X7_manyNow : GoodIn wsX7_digest wsX7_manyNow := goodIn_ca (goodIn_r _ [11, 5, 6, 12, 3, 13, 14, 15, 16, 17, 18, 19, 20, 21, 22, 23, 24, 25, 26, 27, 28, 29, 30, 31, 32, 33, 34, 35, 36, 37, 38, 39, 40, 41, 42, 43, 44, 45, 162, 163, 164, 165, 166, 167, 168, 169, 170, 171, 172, 173, 174] (by decide +kernel) (by decide +kernel)) (goodIn_sub (fun _ h => List.mem_cons_of_mem _ (List.mem_append_right _ h)) (by decide +kernel))
set_option maxRecDepth 20000 in
theorem gX7_digest_X7_manyNow : GoodIn wsX7_digest (wsV RX7 218 RX7 yX7_manyNow wsX7_manyNow) := goodIn_app (goodIn_of _ (by decide +kernel)) ggX7_digest_X7_manyNow
set_option maxRecDepth 20000 in
theorem ggX7_digest_X7_add_ : GoodIn wsX7_digest wsX7_add_ := goodIn_r _ [48, 49] (by decide +kernel) (by decide +kernel)
set_option maxRecDepth 20000 in
theorem gX7_digest_X7_add_ : GoodIn wsX7_digest (va_wsS RX7 239 yX7_add_ wsX7_add_) := goodIn_app (goodIn_of _ (by decide +kernel)) ggX7_digest_X7_add_
set_option maxRecDepth 20000 in
theorem ggX7_digest_Jx4a65c_size_8abf5 : GoodIn wsX7_digest wsJx4a65c_size_8abf5 := goodIn_r _ [18, 19, 172, 173, 174] (by decide +kernel) (by decide +kernel)
set_option maxRecDepth 20000 in
theorem gX7_digest_Jx4a65c_size_8abf5 : GoodIn wsX7_digest (wsV RX7 27 RJx4a65c yJx4a65c_size_8abf5 wsJx4a65c_size_8abf5) := goodIn_app (goodIn_of _ (by decide +kernel)) ggX7_digest_Jx4a65c_size_8abf5
set_option maxRecDepth 20000 in
theorem ggX7_digest_X7_first : GoodIn wsX7_digest wsX7_first := goodIn_ca (goodIn_r _ [71, 3, 72, 4, 53, 54, 55, 14, 15, 16, 17, 18, 19, 20, 21, 22, 23, 24, 25, 26, 27, 28, 29, 30, 31, 32, 33, 34, 35, 36, 73, 74, 10, 75, 76, 77, 78, 162, 163, 164, 165, 175, 176, 177, 172, 173, 174] (by decide +kernel) (by decide +kernel)) (goodIn_sub (fun _ h => List.mem_cons_of_mem _ (List.mem_append_right _ h)) (by decide +kernel))
set_option maxRecDepth 20000 in
theorem gX7_digest_X7_first : GoodIn wsX7_digest (wsV RX7 99 RX7 yX7_first wsX7_first) := goodIn_app (goodIn_of _ (by decide +kernel)) ggX7_digest_X7_first
set_option maxRecDepth 20000 in
theorem ggX7_digest_X7_whole_ : GoodIn wsX7_digest wsX7_whole_ := goodIn_ca (goodIn_r _ [109, 3, 14, 15, 16, 17, 18, 19, 73, 74, 10, 75, 110, 111, 112, 162, 163, 164, 165, 172, 173, 174] (by decide +kernel) (by decide +kernel)) (goodIn_sub (fun _ h => List.mem_cons_of_mem _ (List.mem_append_right _ h)) (by decide +kernel))
set_option maxRecDepth 20000 in
theorem gX7_digest_X7_whole_ : GoodIn wsX7_digest (wsV RX7 118 RX7 yX7_whole_ wsX7_whole_) := goodIn_app (goodIn_of _ (by decide +kernel)) ggX7_digest_X7_whole_
set_option maxRecDepth 20000 in
theorem ggX7_digest_X7_root_ : GoodIn wsX7_digest wsX7_root_ := goodIn_ca (goodIn_r _ [116, 3, 14, 15, 16, 17, 18, 19, 73, 74, 10, 75, 117, 118, 119, 162, 163, 164, 165, 172, 173, 174] (by decide +kernel) (by decide +kernel)) (goodIn_sub (fun _ h => List.mem_cons_of_mem _ (List.mem_append_right _ h)) (by decide +kernel))
set_option maxRecDepth 20000 in
theorem gX7_digest_X7_root_ : GoodIn wsX7_digest (wsV RX7 123 RX7 yX7_root_ wsX7_root_) := goodIn_app (goodIn_of _ (by decide +kernel)) ggX7_digest_X7_root_
set_option maxRecDepth 20000 in
theorem ggX7_digest_X7_brightest : GoodIn wsX7_digest wsX7_brightest := goodIn_ca (goodIn_r _ [100, 101, 102, 103, 10, 104, 105, 106, 107, 108, 109, 3, 14, 15, 16, 17, 18, 19, 73, 74, 75, 110, 111, 112, 113, 114, 115, 116, 117, 118, 119, 162, 163, 164, 165, 172, 173, 174] (by decide +kernel) (by decide +kernel)) (goodIn_sub (fun _ h => List.mem_cons_of_mem _ (List.mem_append_right _ h)) (by decide +kernel))
set_option maxRecDepth 20000 in
theorem gX7_digest_X7_brightest : GoodIn wsX7_digest (wsV RX7 177 RX7 yX7_brightest wsX7_brightest) := goodIn_app (goodIn_of _ (by decide +kernel)) ggX7_digest_X7_brightest
set_option maxRecDepth 20000 in
theorem ggX7_digest_X7_dark : GoodIn wsX7_digest wsX7_dark := goodIn_ca (goodIn_r _ [123, 106, 107, 108, 10, 109, 3, 14, 15, 16, 17, 18, 19, 73, 74, 75, 110, 111, 112, 113, 114, 115, 116, 117, 118, 119, 162, 163, 164, 165, 172, 173, 174] (by decide +kernel) (by decide +kernel)) (goodIn_sub (fun _ h => List.mem_cons_of_mem _ (List.mem_append_right _ h)) (by decide +kernel))
set_option maxRecDepth 20000 in
theorem gX7_digest_X7_dark : GoodIn wsX7_digest (wsV RX7 181 RX7 yX7_dark wsX7_dark) := goodIn_app (goodIn_of _ (by decide +kernel)) ggX7_digest_X7_dark
set_option maxRecDepth 20000 in
theorem ggX7_digest_X7_period : GoodIn wsX7_digest wsX7_period := goodIn_ca (goodIn_r _ [127, 106, 107, 108, 10, 109, 3, 14, 15, 16, 17, 18, 19, 73, 74, 75, 110, 111, 112, 113, 114, 115, 116, 117, 118, 119, 162, 163, 164, 165, 172, 173, 174] (by decide +kernel) (by decide +kernel)) (goodIn_sub (fun _ h => List.mem_cons_of_mem _ (List.mem_append_right _ h)) (by decide +kernel))
set_option maxRecDepth 20000 in
theorem gX7_digest_X7_period : GoodIn wsX7_digest (wsV RX7 184 RX7 yX7_period wsX7_period) := goodIn_app (goodIn_of _ (by decide +kernel)) ggX7_digest_X7_period
theorem dX7_digest_0 : decode cX7_digest 0 = .ok (.aload_n 0, 1) := by decide +kernel
theorem dX7_digest_1 : decode cX7_digest 1 = .ok (.iconst 0, 1) := by decide +kernel
theorem dX7_digest_2 : decode cX7_digest 2 = .ok (.putfield 19, 3) := by decide +kernel
theorem dX7_digest_5 : decode cX7_digest 5 = .ok (.ldc2_w 237, 3) := by decide +kernel
theorem dX7_digest_8 : decode cX7_digest 8 = .ok (.lstore_n 1, 1) := by decide +kernel
theorem dX7_digest_9 : decode cX7_digest 9 = .ok (.iconst 0, 1) := by decide +kernel
theorem dX7_digest_10 : decode cX7_digest 10 = .ok (.istore_n 3, 1) := by decide +kernel
theorem dX7_digest_11 : decode cX7_digest 11 = .ok (.iload_n 3, 1) := by decide +kernel
theorem dX7_digest_12 : decode cX7_digest 12 = .ok (.iconst 5, 1) := by decide +kernel
theorem dX7_digest_13 : decode cX7_digest 13 = .ok (.if_icmp .ge 20, 3) := by decide +kernel
theorem dX7_digest_16 : decode cX7_digest 16 = .ok (.lload_n 1, 1) := by decide +kernel
theorem dX7_digest_17 : decode cX7_digest 17 = .ok (.aload_n 0, 1) := by decide +kernel
theorem dX7_digest_18 : decode cX7_digest 18 = .ok (.iload_n 3, 1) := by decide +kernel
theorem dX7_digest_19 : decode cX7_digest 19 = .ok (.invokevirtual 218, 3) := by decide +kernel
theorem dX7_digest_22 : decode cX7_digest 22 = .ok (.i2l, 1) := by decide +kernel
theorem dX7_digest_23 : decode cX7_digest 23 = .ok (.invokestatic 239, 3) := by decide +kernel
theorem dX7_digest_26 : decode cX7_digest 26 = .ok (.lstore_n 1, 1) := by decide +kernel
theorem dX7_digest_27 : decode cX7_digest 27 = .ok (.iinc 3 1, 3) := by decide +kernel
theorem dX7_digest_30 : decode cX7_digest 30 = .ok (.goto (-19), 3) := by decide +kernel
theorem dX7_digest_33 : decode cX7_digest 33 = .ok (.iconst 0, 1) := by decide +kernel
theorem dX7_digest_34 : decode cX7_digest 34 = .ok (.istore_n 3, 1) := by decide +kernel
theorem dX7_digest_35 : decode cX7_digest 35 = .ok (.iload_n 3, 1) := by decide +kernel
theorem dX7_digest_36 : decode cX7_digest 36 = .ok (.aload_n 0, 1) := by decide +kernel
theorem dX7_digest_37 : decode cX7_digest 37 = .ok (.getfield 10, 3) := by decide +kernel
theorem dX7_digest_40 : decode cX7_digest 40 = .ok (.invokevirtual 27, 3) := by decide +kernel
theorem dX7_digest_43 : decode cX7_digest 43 = .ok (.if_icmp .ge 57, 3) := by decide +kernel
theorem dX7_digest_100 : decode cX7_digest 100 = .ok (.aload_n 0, 1) := by decide +kernel
theorem dX7_digest_101 : decode cX7_digest 101 = .ok (.iconst (-1), 1) := by decide +kernel
theorem dX7_digest_102 : decode cX7_digest 102 = .ok (.invokevirtual 99, 3) := by decide +kernel
theorem dX7_digest_105 : decode cX7_digest 105 = .ok (.astore_n 3, 1) := by decide +kernel
theorem dX7_digest_106 : decode cX7_digest 106 = .ok (.iconst (-1), 1) := by decide +kernel
theorem dX7_digest_107 : decode cX7_digest 107 = .ok (.istore 4, 2) := by decide +kernel
theorem dX7_digest_109 : decode cX7_digest 109 = .ok (.iload 4, 2) := by decide +kernel
theorem dX7_digest_111 : decode cX7_digest 111 = .ok (.aload_n 0, 1) := by decide +kernel
theorem dX7_digest_112 : decode cX7_digest 112 = .ok (.getfield 16, 3) := by decide +kernel
theorem dX7_digest_115 : decode cX7_digest 115 = .ok (.invokevirtual 27, 3) := by decide +kernel
theorem dX7_digest_118 : decode cX7_digest 118 = .ok (.if_icmp .ge 100, 3) := by decide +kernel
theorem dX7_digest_121 : decode cX7_digest 121 = .ok (.iload 4, 2) := by decide +kernel
theorem dX7_digest_123 : decode cX7_digest 123 = .ok (.iconst (-1), 1) := by decide +kernel
theorem dX7_digest_124 : decode cX7_digest 124 = .ok (.if_icmp .eq 21, 3) := by decide +kernel
theorem dX7_digest_145 : decode cX7_digest 145 = .ok (.iconst 0, 1) := by decide +kernel
theorem dX7_digest_146 : decode cX7_digest 146 = .ok (.istore 5, 2) := by decide +kernel
theorem dX7_digest_148 : decode cX7_digest 148 = .ok (.iload 5, 2) := by decide +kernel
theorem dX7_digest_150 : decode cX7_digest 150 = .ok (.bipush 8, 2) := by decide +kernel
theorem dX7_digest_152 : decode cX7_digest 152 = .ok (.if_icmp .ge 31, 3) := by decide +kernel
theorem dX7_digest_155 : decode cX7_digest 155 = .ok (.lload_n 1, 1) := by decide +kernel
theorem dX7_digest_156 : decode cX7_digest 156 = .ok (.aload_n 0, 1) := by decide +kernel
theorem dX7_digest_157 : decode cX7_digest 157 = .ok (.iload 5, 2) := by decide +kernel
theorem dX7_digest_159 : decode cX7_digest 159 = .ok (.aload_n 3, 1) := by decide +kernel
theorem dX7_digest_160 : decode cX7_digest 160 = .ok (.invokevirtual 118, 3) := by decide +kernel
theorem dX7_digest_163 : decode cX7_digest 163 = .ok (.invokestatic 239, 3) := by decide +kernel
theorem dX7_digest_166 : decode cX7_digest 166 = .ok (.aload_n 0, 1) := by decide +kernel
theorem dX7_digest_167 : decode cX7_digest 167 = .ok (.iload 5, 2) := by decide +kernel
theorem dX7_digest_169 : decode cX7_digest 169 = .ok (.aload_n 3, 1) := by decide +kernel
theorem dX7_digest_170 : decode cX7_digest 170 = .ok (.invokevirtual 123, 3) := by decide +kernel
theorem dX7_digest_173 : decode cX7_digest 173 = .ok (.invokestatic 239, 3) := by decide +kernel
theorem dX7_digest_176 : decode cX7_digest 176 = .ok (.lstore_n 1, 1) := by decide +kernel
theorem dX7_digest_177 : decode cX7_digest 177 = .ok (.iinc 5 1, 3) := by decide +kernel
theorem dX7_digest_180 : decode cX7_digest 180 = .ok (.goto (-32), 3) := by decide +kernel
theorem dX7_digest_183 : decode cX7_digest 183 = .ok (.lload_n 1, 1) := by decide +kernel
theorem dX7_digest_184 : decode cX7_digest 184 = .ok (.aload_n 0, 1) := by decide +kernel
theorem dX7_digest_185 : decode cX7_digest 185 = .ok (.aload_n 3, 1) := by decide +kernel
theorem dX7_digest_186 : decode cX7_digest 186 = .ok (.invokevirtual 177, 3) := by decide +kernel
theorem dX7_digest_189 : decode cX7_digest 189 = .ok (.i2l, 1) := by decide +kernel
theorem dX7_digest_190 : decode cX7_digest 190 = .ok (.invokestatic 239, 3) := by decide +kernel
theorem dX7_digest_193 : decode cX7_digest 193 = .ok (.aload_n 0, 1) := by decide +kernel
theorem dX7_digest_194 : decode cX7_digest 194 = .ok (.aload_n 3, 1) := by decide +kernel
theorem dX7_digest_195 : decode cX7_digest 195 = .ok (.invokevirtual 181, 3) := by decide +kernel
theorem dX7_digest_198 : decode cX7_digest 198 = .ok (.i2l, 1) := by decide +kernel
theorem dX7_digest_199 : decode cX7_digest 199 = .ok (.invokestatic 239, 3) := by decide +kernel
theorem dX7_digest_202 : decode cX7_digest 202 = .ok (.aload_n 0, 1) := by decide +kernel
theorem dX7_digest_203 : decode cX7_digest 203 = .ok (.aload_n 3, 1) := by decide +kernel
theorem dX7_digest_204 : decode cX7_digest 204 = .ok (.invokevirtual 184, 3) := by decide +kernel
theorem dX7_digest_207 : decode cX7_digest 207 = .ok (.i2l, 1) := by decide +kernel
theorem dX7_digest_208 : decode cX7_digest 208 = .ok (.invokestatic 239, 3) := by decide +kernel
theorem dX7_digest_211 : decode cX7_digest 211 = .ok (.lstore_n 1, 1) := by decide +kernel
theorem dX7_digest_212 : decode cX7_digest 212 = .ok (.iinc 4 1, 3) := by decide +kernel
theorem dX7_digest_215 : decode cX7_digest 215 = .ok (.goto (-106), 3) := by decide +kernel
theorem dX7_digest_218 : decode cX7_digest 218 = .ok (.iconst 0, 1) := by decide +kernel
theorem dX7_digest_219 : decode cX7_digest 219 = .ok (.istore 4, 2) := by decide +kernel
theorem dX7_digest_221 : decode cX7_digest 221 = .ok (.iload 4, 2) := by decide +kernel
theorem dX7_digest_223 : decode cX7_digest 223 = .ok (.aload_n 0, 1) := by decide +kernel
theorem dX7_digest_224 : decode cX7_digest 224 = .ok (.getfield 16, 3) := by decide +kernel
theorem dX7_digest_227 : decode cX7_digest 227 = .ok (.invokevirtual 27, 3) := by decide +kernel
theorem dX7_digest_230 : decode cX7_digest 230 = .ok (.if_icmp .ge 80, 3) := by decide +kernel
theorem dX7_digest_310 : decode cX7_digest 310 = .ok (.lload_n 1, 1) := by decide +kernel
theorem dX7_digest_311 : decode cX7_digest 311 = .ok (.lreturn, 1) := by decide +kernel
theorem dJ9_max_eb370_0 : decode cJ9_max_eb370 0 = .ok (.dload_n 0, 1) := by decide +kernel
theorem dJ9_max_eb370_1 : decode cJ9_max_eb370 1 = .ok (.dload_n 0, 1) := by decide +kernel
theorem dJ9_max_eb370_2 : decode cJ9_max_eb370 2 = .ok (.dcmp .l, 1) := by decide +kernel
theorem dJ9_max_eb370_3 : decode cJ9_max_eb370 3 = .ok (.ifCond .eq 5, 3) := by decide +kernel
theorem dJ9_max_eb370_8 : decode cJ9_max_eb370 8 = .ok (.dload_n 0, 1) := by decide +kernel
theorem dJ9_max_eb370_9 : decode cJ9_max_eb370 9 = .ok (.dconst 0, 1) := by decide +kernel
theorem dJ9_max_eb370_10 : decode cJ9_max_eb370 10 = .ok (.dcmp .l, 1) := by decide +kernel
theorem dJ9_max_eb370_11 : decode cJ9_max_eb370 11 = .ok (.ifCond .ne 22, 3) := by decide +kernel
theorem dJ9_max_eb370_14 : decode cJ9_max_eb370 14 = .ok (.dload_n 2, 1) := by decide +kernel
theorem dJ9_max_eb370_15 : decode cJ9_max_eb370 15 = .ok (.dconst 0, 1) := by decide +kernel
theorem dJ9_max_eb370_16 : decode cJ9_max_eb370 16 = .ok (.dcmp .l, 1) := by decide +kernel
theorem dJ9_max_eb370_17 : decode cJ9_max_eb370 17 = .ok (.ifCond .ne 16, 3) := by decide +kernel
theorem dJ9_max_eb370_20 : decode cJ9_max_eb370 20 = .ok (.dload_n 0, 1) := by decide +kernel
theorem dJ9_max_eb370_21 : decode cJ9_max_eb370 21 = .ok (.invokestatic 79, 3) := by decide +kernel
theorem dJ9_max_eb370_24 : decode cJ9_max_eb370 24 = .ok (.getstatic 174, 3) := by decide +kernel
theorem dJ9_max_eb370_27 : decode cJ9_max_eb370 27 = .ok (.lcmp, 1) := by decide +kernel
theorem dJ9_max_eb370_28 : decode cJ9_max_eb370 28 = .ok (.ifCond .ne 5, 3) := by decide +kernel
theorem dJ9_max_eb370_33 : decode cJ9_max_eb370 33 = .ok (.dload_n 0, 1) := by decide +kernel
theorem dJ9_max_eb370_34 : decode cJ9_max_eb370 34 = .ok (.dload_n 2, 1) := by decide +kernel
theorem dJ9_max_eb370_35 : decode cJ9_max_eb370 35 = .ok (.dcmp .l, 1) := by decide +kernel
theorem dJ9_max_eb370_36 : decode cJ9_max_eb370 36 = .ok (.ifCond .lt 7, 3) := by decide +kernel
theorem dJ9_max_eb370_39 : decode cJ9_max_eb370 39 = .ok (.dload_n 0, 1) := by decide +kernel
theorem dJ9_max_eb370_40 : decode cJ9_max_eb370 40 = .ok (.goto 4, 3) := by decide +kernel
theorem dJ9_max_eb370_44 : decode cJ9_max_eb370 44 = .ok (.dreturn, 1) := by decide +kernel
theorem dJ9_min_eb370_0 : decode cJ9_min_eb370 0 = .ok (.dload_n 0, 1) := by decide +kernel
theorem dJ9_min_eb370_1 : decode cJ9_min_eb370 1 = .ok (.dload_n 0, 1) := by decide +kernel
theorem dJ9_min_eb370_2 : decode cJ9_min_eb370 2 = .ok (.dcmp .l, 1) := by decide +kernel
theorem dJ9_min_eb370_3 : decode cJ9_min_eb370 3 = .ok (.ifCond .eq 5, 3) := by decide +kernel
theorem dJ9_min_eb370_8 : decode cJ9_min_eb370 8 = .ok (.dload_n 0, 1) := by decide +kernel
theorem dJ9_min_eb370_9 : decode cJ9_min_eb370 9 = .ok (.dconst 0, 1) := by decide +kernel
theorem dJ9_min_eb370_10 : decode cJ9_min_eb370 10 = .ok (.dcmp .l, 1) := by decide +kernel
theorem dJ9_min_eb370_11 : decode cJ9_min_eb370 11 = .ok (.ifCond .ne 22, 3) := by decide +kernel
theorem dJ9_min_eb370_14 : decode cJ9_min_eb370 14 = .ok (.dload_n 2, 1) := by decide +kernel
theorem dJ9_min_eb370_15 : decode cJ9_min_eb370 15 = .ok (.dconst 0, 1) := by decide +kernel
theorem dJ9_min_eb370_16 : decode cJ9_min_eb370 16 = .ok (.dcmp .l, 1) := by decide +kernel
theorem dJ9_min_eb370_17 : decode cJ9_min_eb370 17 = .ok (.ifCond .ne 16, 3) := by decide +kernel
theorem dJ9_min_eb370_20 : decode cJ9_min_eb370 20 = .ok (.dload_n 2, 1) := by decide +kernel
theorem dJ9_min_eb370_21 : decode cJ9_min_eb370 21 = .ok (.invokestatic 79, 3) := by decide +kernel
theorem dJ9_min_eb370_24 : decode cJ9_min_eb370 24 = .ok (.getstatic 174, 3) := by decide +kernel
theorem dJ9_min_eb370_27 : decode cJ9_min_eb370 27 = .ok (.lcmp, 1) := by decide +kernel
theorem dJ9_min_eb370_28 : decode cJ9_min_eb370 28 = .ok (.ifCond .ne 5, 3) := by decide +kernel
theorem dJ9_min_eb370_33 : decode cJ9_min_eb370 33 = .ok (.dload_n 0, 1) := by decide +kernel
theorem dJ9_min_eb370_34 : decode cJ9_min_eb370 34 = .ok (.dload_n 2, 1) := by decide +kernel
theorem dJ9_min_eb370_35 : decode cJ9_min_eb370 35 = .ok (.dcmp .g, 1) := by decide +kernel
theorem dJ9_min_eb370_36 : decode cJ9_min_eb370 36 = .ok (.ifCond .gt 7, 3) := by decide +kernel
theorem dJ9_min_eb370_39 : decode cJ9_min_eb370 39 = .ok (.dload_n 0, 1) := by decide +kernel
theorem dJ9_min_eb370_40 : decode cJ9_min_eb370 40 = .ok (.goto 4, 3) := by decide +kernel
theorem dJ9_min_eb370_44 : decode cJ9_min_eb370 44 = .ok (.dreturn, 1) := by decide +kernel
theorem dJxa1e45_init_da8c8_0 : decode cJxa1e45_init_da8c8 0 = .ok (.aload_n 0, 1) := by decide +kernel
theorem dJxa1e45_init_da8c8_1 : decode cJxa1e45_init_da8c8 1 = .ok (.invokespecial 1, 3) := by decide +kernel
theorem dJxa1e45_init_da8c8_4 : decode cJxa1e45_init_da8c8 4 = .ok (.return_, 1) := by decide +kernel
set_option maxRecDepth 20000 in
theorem ggJxc12de_init_da8c8_Jxa1e45_init_da8c8 : GoodIn wsJxc12de_init_da8c8 wsJxa1e45_init_da8c8 := goodIn_r _ [5, 6, 7, 8] (by decide +kernel) (by decide +kernel)
set_option maxRecDepth 20000 in
theorem gJxc12de_init_da8c8_Jxa1e45_init_da8c8 : GoodIn wsJxc12de_init_da8c8 (wsJxa1e45_init_da8c8) := ggJxc12de_init_da8c8_Jxa1e45_init_da8c8
theorem dJxc12de_init_da8c8_0 : decode cJxc12de_init_da8c8 0 = .ok (.aload_n 0, 1) := by decide +kernel
theorem dJxc12de_init_da8c8_1 : decode cJxc12de_init_da8c8 1 = .ok (.invokespecial 1, 3) := by decide +kernel
theorem dJxc12de_init_da8c8_4 : decode cJxc12de_init_da8c8 4 = .ok (.aload_n 0, 1) := by decide +kernel
theorem dJxc12de_init_da8c8_5 : decode cJxc12de_init_da8c8 5 = .ok (.iconst 0, 1) := by decide +kernel
theorem dJxc12de_init_da8c8_6 : decode cJxc12de_init_da8c8 6 = .ok (.putfield 7, 3) := by decide +kernel
theorem dJxc12de_init_da8c8_9 : decode cJxc12de_init_da8c8 9 = .ok (.return_, 1) := by decide +kernel
set_option maxRecDepth 20000 in
theorem ggJx4a65c_init_da8c8_Jxc12de_init_da8c8 : GoodIn wsJx4a65c_init_da8c8 wsJxc12de_init_da8c8 := goodIn_r _ [6, 7, 8, 9, 10, 11, 12, 13, 14, 15, 16, 17] (by decide +kernel) (by decide +kernel)
set_option maxRecDepth 20000 in
theorem gJx4a65c_init_da8c8_Jxc12de_init_da8c8 : GoodIn wsJx4a65c_init_da8c8 (wsJxc12de_init_da8c8) := ggJx4a65c_init_da8c8_Jxc12de_init_da8c8
theorem dJx4a65c_init_da8c8_0 : decode cJx4a65c_init_da8c8 0 = .ok (.aload_n 0, 1) := by decide +kernel
theorem dJx4a65c_init_da8c8_1 : decode cJx4a65c_init_da8c8 1 = .ok (.invokespecial 1, 3) := by decide +kernel
theorem dJx4a65c_init_da8c8_4 : decode cJx4a65c_init_da8c8 4 = .ok (.aload_n 0, 1) := by decide +kernel
theorem dJx4a65c_init_da8c8_5 : decode cJx4a65c_init_da8c8 5 = .ok (.getstatic 39, 3) := by decide +kernel
theorem dJx4a65c_init_da8c8_8 : decode cJx4a65c_init_da8c8 8 = .ok (.putfield 9, 3) := by decide +kernel
theorem dJx4a65c_init_da8c8_11 : decode cJx4a65c_init_da8c8 11 = .ok (.return_, 1) := by decide +kernel
theorem dJx4a65c_grow_92f84_0 : decode cJx4a65c_grow_92f84 0 = .ok (.aload_n 0, 1) := by decide +kernel
theorem dJx4a65c_grow_92f84_1 : decode cJx4a65c_grow_92f84 1 = .ok (.getfield 9, 3) := by decide +kernel
theorem dJx4a65c_grow_92f84_4 : decode cJx4a65c_grow_92f84 4 = .ok (.arraylength, 1) := by decide +kernel
theorem dJx4a65c_grow_92f84_5 : decode cJx4a65c_grow_92f84 5 = .ok (.istore_n 2, 1) := by decide +kernel
theorem dJx4a65c_grow_92f84_6 : decode cJx4a65c_grow_92f84 6 = .ok (.iload_n 2, 1) := by decide +kernel
theorem dJx4a65c_grow_92f84_7 : decode cJx4a65c_grow_92f84 7 = .ok (.ifCond .gt 13, 3) := by decide +kernel
theorem dJx4a65c_grow_92f84_10 : decode cJx4a65c_grow_92f84 10 = .ok (.aload_n 0, 1) := by decide +kernel
theorem dJx4a65c_grow_92f84_11 : decode cJx4a65c_grow_92f84 11 = .ok (.getfield 9, 3) := by decide +kernel
theorem dJx4a65c_grow_92f84_14 : decode cJx4a65c_grow_92f84 14 = .ok (.getstatic 39, 3) := by decide +kernel
theorem dJx4a65c_grow_92f84_17 : decode cJx4a65c_grow_92f84 17 = .ok (.if_acmp .eq 28, 3) := by decide +kernel
theorem dJx4a65c_grow_92f84_45 : decode cJx4a65c_grow_92f84 45 = .ok (.aload_n 0, 1) := by decide +kernel
theorem dJx4a65c_grow_92f84_46 : decode cJx4a65c_grow_92f84 46 = .ok (.bipush 10, 2) := by decide +kernel
theorem dJx4a65c_grow_92f84_48 : decode cJx4a65c_grow_92f84 48 = .ok (.iload_n 1, 1) := by decide +kernel
theorem dJx4a65c_grow_92f84_49 : decode cJx4a65c_grow_92f84 49 = .ok (.invokestatic 79, 3) := by decide +kernel
theorem dJx4a65c_grow_92f84_52 : decode cJx4a65c_grow_92f84 52 = .ok (.anewarray 7, 3) := by decide +kernel
theorem dJx4a65c_grow_92f84_55 : decode cJx4a65c_grow_92f84 55 = .ok (.dup_x1, 1) := by decide +kernel
theorem dJx4a65c_grow_92f84_56 : decode cJx4a65c_grow_92f84 56 = .ok (.putfield 9, 3) := by decide +kernel
theorem dJx4a65c_grow_92f84_59 : decode cJx4a65c_grow_92f84 59 = .ok (.areturn, 1) := by decide +kernel
set_option maxRecDepth 20000 in
theorem ggJx4a65c_grow_d5877_Jx4a65c_grow_92f84 : GoodIn wsJx4a65c_grow_d5877 wsJx4a65c_grow_92f84 := goodIn_r _ [6, 7, 8, 9, 10, 11, 12, 13, 14, 15, 16, 17, 18, 19, 20, 21, 22, 23, 24, 25, 26, 27, 28, 29, 30, 31, 32, 33, 34, 35, 36, 37, 38, 39, 40, 41, 42, 43, 44, 45] (by decide +kernel) (by decide +kernel)
set_option maxRecDepth 20000 in
theorem gJx4a65c_grow_d5877_Jx4a65c_grow_92f84 : GoodIn wsJx4a65c_grow_d5877 (wsV RJx4a65c 69 RJx4a65c yJx4a65c_grow_92f84 wsJx4a65c_grow_92f84) := goodIn_app (goodIn_of _ (by decide +kernel)) ggJx4a65c_grow_d5877_Jx4a65c_grow_92f84
theorem dJx4a65c_grow_d5877_0 : decode cJx4a65c_grow_d5877 0 = .ok (.aload_n 0, 1) := by decide +kernel
theorem dJx4a65c_grow_d5877_1 : decode cJx4a65c_grow_d5877 1 = .ok (.aload_n 0, 1) := by decide +kernel
theorem dJx4a65c_grow_d5877_2 : decode cJx4a65c_grow_d5877 2 = .ok (.getfield 48, 3) := by decide +kernel
theorem dJx4a65c_grow_d5877_5 : decode cJx4a65c_grow_d5877 5 = .ok (.iconst 1, 1) := by decide +kernel
theorem dJx4a65c_grow_d5877_6 : decode cJx4a65c_grow_d5877 6 = .ok (.iadd, 1) := by decide +kernel
theorem dJx4a65c_grow_d5877_7 : decode cJx4a65c_grow_d5877 7 = .ok (.invokevirtual 69, 3) := by decide +kernel
theorem dJx4a65c_grow_d5877_10 : decode cJx4a65c_grow_d5877 10 = .ok (.areturn, 1) := by decide +kernel
theorem dJx4a65c_size_8abf5_0 : decode cJx4a65c_size_8abf5 0 = .ok (.aload_n 0, 1) := by decide +kernel
theorem dJx4a65c_size_8abf5_1 : decode cJx4a65c_size_8abf5 1 = .ok (.getfield 48, 3) := by decide +kernel
theorem dJx4a65c_size_8abf5_4 : decode cJx4a65c_size_8abf5 4 = .ok (.ireturn, 1) := by decide +kernel
set_option maxRecDepth 20000 in
theorem ggJx4a65c_add_72be8_Jx4a65c_grow_d5877 : GoodIn wsJx4a65c_add_72be8 wsJx4a65c_grow_d5877 := goodIn_r _ [6, 1, 7, 8, 9, 5, 10, 11, 12, 13, 14, 15, 16, 17, 18, 19, 20, 21, 22, 23, 24, 25, 26, 27, 28, 29, 30, 31, 32, 33, 34, 35, 36, 37, 38, 39, 40, 41, 42, 43, 44, 45, 46, 47, 48, 49] (by decide +kernel) (by decide +kernel)
set_option maxRecDepth 20000 in
theorem gJx4a65c_add_72be8_Jx4a65c_grow_d5877 : GoodIn wsJx4a65c_add_72be8 (wsV RJx4a65c 129 RJx4a65c yJx4a65c_grow_d5877 wsJx4a65c_grow_d5877) := goodIn_app (goodIn_of _ (by decide +kernel)) ggJx4a65c_add_72be8_Jx4a65c_grow_d5877
theorem dJx4a65c_add_72be8_0 : decode cJx4a65c_add_72be8 0 = .ok (.iload_n 3, 1) := by decide +kernel
theorem dJx4a65c_add_72be8_1 : decode cJx4a65c_add_72be8 1 = .ok (.aload_n 2, 1) := by decide +kernel
theorem dJx4a65c_add_72be8_2 : decode cJx4a65c_add_72be8 2 = .ok (.arraylength, 1) := by decide +kernel
theorem dJx4a65c_add_72be8_3 : decode cJx4a65c_add_72be8 3 = .ok (.if_icmp .ne 8, 3) := by decide +kernel
theorem dJx4a65c_add_72be8_6 : decode cJx4a65c_add_72be8 6 = .ok (.aload_n 0, 1) := by decide +kernel
theorem dJx4a65c_add_72be8_7 : decode cJx4a65c_add_72be8 7 = .ok (.invokevirtual 129, 3) := by decide +kernel
theorem dJx4a65c_add_72be8_10 : decode cJx4a65c_add_72be8 10 = .ok (.astore_n 2, 1) := by decide +kernel
theorem dJx4a65c_add_72be8_11 : decode cJx4a65c_add_72be8 11 = .ok (.aload_n 2, 1) := by decide +kernel
theorem dJx4a65c_add_72be8_12 : decode cJx4a65c_add_72be8 12 = .ok (.iload_n 3, 1) := by decide +kernel
theorem dJx4a65c_add_72be8_13 : decode cJx4a65c_add_72be8 13 = .ok (.aload_n 1, 1) := by decide +kernel
theorem dJx4a65c_add_72be8_14 : decode cJx4a65c_add_72be8 14 = .ok (.aastore, 1) := by decide +kernel
theorem dJx4a65c_add_72be8_15 : decode cJx4a65c_add_72be8 15 = .ok (.aload_n 0, 1) := by decide +kernel
theorem dJx4a65c_add_72be8_16 : decode cJx4a65c_add_72be8 16 = .ok (.iload_n 3, 1) := by decide +kernel
theorem dJx4a65c_add_72be8_17 : decode cJx4a65c_add_72be8 17 = .ok (.iconst 1, 1) := by decide +kernel
theorem dJx4a65c_add_72be8_18 : decode cJx4a65c_add_72be8 18 = .ok (.iadd, 1) := by decide +kernel
theorem dJx4a65c_add_72be8_19 : decode cJx4a65c_add_72be8 19 = .ok (.putfield 48, 3) := by decide +kernel
theorem dJx4a65c_add_72be8_22 : decode cJx4a65c_add_72be8 22 = .ok (.return_, 1) := by decide +kernel
set_option maxRecDepth 20000 in
theorem ggJx4a65c_add_9ea2d_Jx4a65c_add_72be8 : GoodIn wsJx4a65c_add_9ea2d wsJx4a65c_add_72be8 := goodIn_r _ [9, 4, 10, 11, 12, 8, 13, 14, 15, 16, 17, 3, 18, 19, 20, 21, 22, 23, 24, 25, 26, 27, 28, 29, 30, 31, 32, 33, 34, 35, 36, 37, 38, 39, 40, 41, 42, 43, 44, 45, 46, 47, 48, 49, 50, 51, 52, 53, 54, 55] (by decide +kernel) (by decide +kernel)
set_option maxRecDepth 20000 in
theorem gJx4a65c_add_9ea2d_Jx4a65c_add_72be8 : GoodIn wsJx4a65c_add_9ea2d (wsV RJx4a65c 131 RJx4a65c yJx4a65c_add_72be8 wsJx4a65c_add_72be8) := goodIn_app (goodIn_of _ (by decide +kernel)) ggJx4a65c_add_9ea2d_Jx4a65c_add_72be8
theorem dJx4a65c_add_9ea2d_0 : decode cJx4a65c_add_9ea2d 0 = .ok (.aload_n 0, 1) := by decide +kernel
theorem dJx4a65c_add_9ea2d_1 : decode cJx4a65c_add_9ea2d 1 = .ok (.dup, 1) := by decide +kernel
theorem dJx4a65c_add_9ea2d_2 : decode cJx4a65c_add_9ea2d 2 = .ok (.getfield 63, 3) := by decide +kernel
theorem dJx4a65c_add_9ea2d_5 : decode cJx4a65c_add_9ea2d 5 = .ok (.iconst 1, 1) := by decide +kernel
theorem dJx4a65c_add_9ea2d_6 : decode cJx4a65c_add_9ea2d 6 = .ok (.iadd, 1) := by decide +kernel
theorem dJx4a65c_add_9ea2d_7 : decode cJx4a65c_add_9ea2d 7 = .ok (.putfield 63, 3) := by decide +kernel
theorem dJx4a65c_add_9ea2d_10 : decode cJx4a65c_add_9ea2d 10 = .ok (.aload_n 0, 1) := by decide +kernel
theorem dJx4a65c_add_9ea2d_11 : decode cJx4a65c_add_9ea2d 11 = .ok (.aload_n 1, 1) := by decide +kernel
theorem dJx4a65c_add_9ea2d_12 : decode cJx4a65c_add_9ea2d 12 = .ok (.aload_n 0, 1) := by decide +kernel
theorem dJx4a65c_add_9ea2d_13 : decode cJx4a65c_add_9ea2d 13 = .ok (.getfield 9, 3) := by decide +kernel
theorem dJx4a65c_add_9ea2d_16 : decode cJx4a65c_add_9ea2d 16 = .ok (.aload_n 0, 1) := by decide +kernel
theorem dJx4a65c_add_9ea2d_17 : decode cJx4a65c_add_9ea2d 17 = .ok (.getfield 48, 3) := by decide +kernel
theorem dJx4a65c_add_9ea2d_20 : decode cJx4a65c_add_9ea2d 20 = .ok (.invokevirtual 131, 3) := by decide +kernel
theorem dJx4a65c_add_9ea2d_23 : decode cJx4a65c_add_9ea2d 23 = .ok (.iconst 1, 1) := by decide +kernel
theorem dJx4a65c_add_9ea2d_24 : decode cJx4a65c_add_9ea2d 24 = .ok (.ireturn, 1) := by decide +kernel
