set_option maxRecDepth 20000 in
theorem ggX4_init_X0_init : GoodIn wsX4_init wsX0_init := goodIn_r _ [19, 20, 2, 3, 21, 22, 23, 35, 36] (by decide +kernel) (by decide +kernel)
set_option maxRecDepth 20000 in
theorem gX4_init_X0_init_n23 : GoodIn wsX4_init (wsX0_init) := ggX4_init_X0_init
set_option maxRecDepth 20000 in
theorem ggX4_init_X2_init : GoodIn wsX4_init wsX2_init := goodIn_r _ [25, 26, 2, 3, 21, 27, 28, 37, 38] (by decide +kernel) (by decide +kernel)
set_option maxRecDepth 20000 in
theorem gX4_init_X2_init_n30 : GoodIn wsX4_init (wsX2_init) := ggX4_init_X2_init
theorem dX4_init_0 : decode cX4_init 0 = .ok (.aload_n 0, 1) := by decide +kernel
theorem dX4_init_1 : decode cX4_init 1 = .ok (.invokespecial 1, 3) := by decide +kernel
theorem dX4_init_4 : decode cX4_init 4 = .ok (.aload_n 0, 1) := by decide +kernel
theorem dX4_init_5 : decode cX4_init 5 = .ok (.iconst 3, 1) := by decide +kernel
theorem dX4_init_6 : decode cX4_init 6 = .ok (.anewarray 9, 3) := by decide +kernel
theorem dX4_init_9 : decode cX4_init 9 = .ok (.putfield 11, 3) := by decide +kernel
theorem dX4_init_12 : decode cX4_init 12 = .ok (.aload_n 0, 1) := by decide +kernel
theorem dX4_init_13 : decode cX4_init 13 = .ok (.bipush 8, 2) := by decide +kernel
theorem dX4_init_15 : decode cX4_init 15 = .ok (.anewarray 15, 3) := by decide +kernel
theorem dX4_init_18 : decode cX4_init 18 = .ok (.putfield 17, 3) := by decide +kernel
theorem dX4_init_21 : decode cX4_init 21 = .ok (.aload_n 0, 1) := by decide +kernel
theorem dX4_init_22 : decode cX4_init 22 = .ok (.new 21, 3) := by decide +kernel
theorem dX4_init_25 : decode cX4_init 25 = .ok (.dup, 1) := by decide +kernel
theorem dX4_init_26 : decode cX4_init 26 = .ok (.invokespecial 23, 3) := by decide +kernel
theorem dX4_init_29 : decode cX4_init 29 = .ok (.putfield 24, 3) := by decide +kernel
theorem dX4_init_32 : decode cX4_init 32 = .ok (.aload_n 0, 1) := by decide +kernel
theorem dX4_init_33 : decode cX4_init 33 = .ok (.new 28, 3) := by decide +kernel
theorem dX4_init_36 : decode cX4_init 36 = .ok (.dup, 1) := by decide +kernel
theorem dX4_init_37 : decode cX4_init 37 = .ok (.invokespecial 30, 3) := by decide +kernel
theorem dX4_init_40 : decode cX4_init 40 = .ok (.putfield 31, 3) := by decide +kernel
theorem dX4_init_43 : decode cX4_init 43 = .ok (.aload_n 0, 1) := by decide +kernel
theorem dX4_init_44 : decode cX4_init 44 = .ok (.iconst 0, 1) := by decide +kernel
theorem dX4_init_45 : decode cX4_init 45 = .ok (.putfield 35, 3) := by decide +kernel
theorem dX4_init_48 : decode cX4_init 48 = .ok (.aload_n 0, 1) := by decide +kernel
theorem dX4_init_49 : decode cX4_init 49 = .ok (.iconst 0, 1) := by decide +kernel
theorem dX4_init_50 : decode cX4_init 50 = .ok (.putfield 39, 3) := by decide +kernel
theorem dX4_init_53 : decode cX4_init 53 = .ok (.return_, 1) := by decide +kernel
set_option maxRecDepth 20000 in
theorem ggX4_source_X4_checkSource : GoodIn wsX4_source wsX4_checkSource := goodIn_ca (goodIn_r _ [11, 12, 13, 14, 15, 10, 16] (by decide +kernel) (by decide +kernel)) (goodIn_sub (fun _ h => List.mem_cons_of_mem _ (List.mem_append_right _ h)) (by decide +kernel))
set_option maxRecDepth 20000 in
theorem gX4_source_X4_checkSource : GoodIn wsX4_source (va_wsS RX4 42 yX4_checkSource wsX4_checkSource) := goodIn_app (goodIn_of _ (by decide +kernel)) ggX4_source_X4_checkSource
set_option maxRecDepth 20000 in
theorem ggX4_source_X3_init : GoodIn wsX4_source wsX3_init := goodIn_r _ [19, 20, 21, 22, 23, 24, 25, 32, 33, 34] (by decide +kernel) (by decide +kernel)
set_option maxRecDepth 20000 in
theorem gX4_source_X3_init : GoodIn wsX4_source (wsX3_init) := ggX4_source_X3_init
theorem dX4_source_0 : decode cX4_source 0 = .ok (.iload_n 1, 1) := by decide +kernel
theorem dX4_source_1 : decode cX4_source 1 = .ok (.iload_n 2, 1) := by decide +kernel
theorem dX4_source_2 : decode cX4_source 2 = .ok (.iload_n 3, 1) := by decide +kernel
theorem dX4_source_3 : decode cX4_source 3 = .ok (.invokestatic 42, 3) := by decide +kernel
theorem dX4_source_6 : decode cX4_source 6 = .ok (.aload_n 0, 1) := by decide +kernel
theorem dX4_source_7 : decode cX4_source 7 = .ok (.getfield 35, 3) := by decide +kernel
theorem dX4_source_10 : decode cX4_source 10 = .ok (.ifCond .lt 11, 3) := by decide +kernel
theorem dX4_source_13 : decode cX4_source 13 = .ok (.aload_n 0, 1) := by decide +kernel
theorem dX4_source_14 : decode cX4_source 14 = .ok (.getfield 35, 3) := by decide +kernel
theorem dX4_source_17 : decode cX4_source 17 = .ok (.iconst 3, 1) := by decide +kernel
theorem dX4_source_18 : decode cX4_source 18 = .ok (.if_icmp .lt 13, 3) := by decide +kernel
theorem dX4_source_21 : decode cX4_source 21 = .ok (.new 46, 3) := by decide +kernel
theorem dX4_source_24 : decode cX4_source 24 = .ok (.dup, 1) := by decide +kernel
theorem dX4_source_25 : decode cX4_source 25 = .ok (.ldc 48, 2) := by decide +kernel
theorem dX4_source_27 : decode cX4_source 27 = .ok (.invokespecial 50, 3) := by decide +kernel
theorem dX4_source_30 : decode cX4_source 30 = .ok (.athrow, 1) := by decide +kernel
theorem dX4_source_31 : decode cX4_source 31 = .ok (.aload_n 0, 1) := by decide +kernel
theorem dX4_source_32 : decode cX4_source 32 = .ok (.getfield 11, 3) := by decide +kernel
theorem dX4_source_35 : decode cX4_source 35 = .ok (.aload_n 0, 1) := by decide +kernel
theorem dX4_source_36 : decode cX4_source 36 = .ok (.getfield 35, 3) := by decide +kernel
theorem dX4_source_39 : decode cX4_source 39 = .ok (.new 9, 3) := by decide +kernel
theorem dX4_source_42 : decode cX4_source 42 = .ok (.dup, 1) := by decide +kernel
theorem dX4_source_43 : decode cX4_source 43 = .ok (.iload_n 1, 1) := by decide +kernel
theorem dX4_source_44 : decode cX4_source 44 = .ok (.iload_n 2, 1) := by decide +kernel
theorem dX4_source_45 : decode cX4_source 45 = .ok (.iload_n 3, 1) := by decide +kernel
theorem dX4_source_46 : decode cX4_source 46 = .ok (.invokespecial 53, 3) := by decide +kernel
theorem dX4_source_49 : decode cX4_source 49 = .ok (.aastore, 1) := by decide +kernel
theorem dX4_source_50 : decode cX4_source 50 = .ok (.aload_n 0, 1) := by decide +kernel
theorem dX4_source_51 : decode cX4_source 51 = .ok (.dup, 1) := by decide +kernel
theorem dX4_source_52 : decode cX4_source 52 = .ok (.getfield 35, 3) := by decide +kernel
theorem dX4_source_55 : decode cX4_source 55 = .ok (.iconst 1, 1) := by decide +kernel
theorem dX4_source_56 : decode cX4_source 56 = .ok (.iadd, 1) := by decide +kernel
theorem dX4_source_57 : decode cX4_source 57 = .ok (.putfield 35, 3) := by decide +kernel
theorem dX4_source_60 : decode cX4_source 60 = .ok (.aload_n 0, 1) := by decide +kernel
theorem dX4_source_61 : decode cX4_source 61 = .ok (.getfield 35, 3) := by decide +kernel
theorem dX4_source_64 : decode cX4_source 64 = .ok (.iconst 1, 1) := by decide +kernel
theorem dX4_source_65 : decode cX4_source 65 = .ok (.isub, 1) := by decide +kernel
theorem dX4_source_66 : decode cX4_source 66 = .ok (.ireturn, 1) := by decide +kernel
set_option maxRecDepth 20000 in
theorem ggX4_move_X4_sourceAt : GoodIn wsX4_move wsX4_sourceAt := goodIn_r _ [10, 11, 12, 24, 25, 26, 27, 28, 29] (by decide +kernel) (by decide +kernel)
set_option maxRecDepth 20000 in
theorem gX4_move_X4_sourceAt : GoodIn wsX4_move (wsV RX4 55 RX4 yX4_sourceAt wsX4_sourceAt) := goodIn_app (goodIn_of _ (by decide +kernel)) ggX4_move_X4_sourceAt
set_option maxRecDepth 20000 in
theorem ggX4_move_X4_checkSource : GoodIn wsX4_move wsX4_checkSource := goodIn_ca (goodIn_r _ [15, 16, 17, 18, 19, 9, 20] (by decide +kernel) (by decide +kernel)) (goodIn_sub (fun _ h => List.mem_cons_of_mem _ (List.mem_append_right _ h)) (by decide +kernel))
set_option maxRecDepth 20000 in
theorem gX4_move_X4_checkSource : GoodIn wsX4_move (va_wsS RX4 42 yX4_checkSource wsX4_checkSource) := goodIn_app (goodIn_of _ (by decide +kernel)) ggX4_move_X4_checkSource
theorem dX4_move_0 : decode cX4_move 0 = .ok (.aload_n 0, 1) := by decide +kernel
theorem dX4_move_1 : decode cX4_move 1 = .ok (.iload_n 1, 1) := by decide +kernel
theorem dX4_move_2 : decode cX4_move 2 = .ok (.invokevirtual 55, 3) := by decide +kernel
theorem dX4_move_5 : decode cX4_move 5 = .ok (.astore 5, 2) := by decide +kernel
theorem dX4_move_7 : decode cX4_move 7 = .ok (.aload 5, 2) := by decide +kernel
theorem dX4_move_9 : decode cX4_move 9 = .ok (.ifnonnull 13, 3) := by decide +kernel
theorem dX4_move_12 : decode cX4_move 12 = .ok (.new 59, 3) := by decide +kernel
theorem dX4_move_15 : decode cX4_move 15 = .ok (.dup, 1) := by decide +kernel
theorem dX4_move_16 : decode cX4_move 16 = .ok (.ldc 61, 2) := by decide +kernel
theorem dX4_move_18 : decode cX4_move 18 = .ok (.invokespecial 63, 3) := by decide +kernel
theorem dX4_move_21 : decode cX4_move 21 = .ok (.athrow, 1) := by decide +kernel
theorem dX4_move_22 : decode cX4_move 22 = .ok (.iload_n 2, 1) := by decide +kernel
theorem dX4_move_23 : decode cX4_move 23 = .ok (.iload_n 3, 1) := by decide +kernel
theorem dX4_move_24 : decode cX4_move 24 = .ok (.iload 4, 2) := by decide +kernel
theorem dX4_move_26 : decode cX4_move 26 = .ok (.invokestatic 42, 3) := by decide +kernel
theorem dX4_move_29 : decode cX4_move 29 = .ok (.aload 5, 2) := by decide +kernel
theorem dX4_move_31 : decode cX4_move 31 = .ok (.getfield 64, 3) := by decide +kernel
theorem dX4_move_34 : decode cX4_move 34 = .ok (.istore 6, 2) := by decide +kernel
theorem dX4_move_36 : decode cX4_move 36 = .ok (.aload 5, 2) := by decide +kernel
theorem dX4_move_38 : decode cX4_move 38 = .ok (.iload_n 2, 1) := by decide +kernel
theorem dX4_move_39 : decode cX4_move 39 = .ok (.putfield 67, 3) := by decide +kernel
theorem dX4_move_42 : decode cX4_move 42 = .ok (.aload 5, 2) := by decide +kernel
theorem dX4_move_44 : decode cX4_move 44 = .ok (.iload_n 3, 1) := by decide +kernel
theorem dX4_move_45 : decode cX4_move 45 = .ok (.putfield 70, 3) := by decide +kernel
theorem dX4_move_48 : decode cX4_move 48 = .ok (.aload 5, 2) := by decide +kernel
theorem dX4_move_50 : decode cX4_move 50 = .ok (.iload 4, 2) := by decide +kernel
theorem dX4_move_52 : decode cX4_move 52 = .ok (.putfield 64, 3) := by decide +kernel
theorem dX4_move_55 : decode cX4_move 55 = .ok (.iload 6, 2) := by decide +kernel
theorem dX4_move_57 : decode cX4_move 57 = .ok (.ireturn, 1) := by decide +kernel
set_option maxRecDepth 20000 in
theorem ggX4_part_X4_isNumberOf : GoodIn wsX4_part wsX4_isNumberOf := goodIn_r _ [13, 14, 15, 12, 16, 17, 18, 19, 20, 21] (by decide +kernel) (by decide +kernel)
set_option maxRecDepth 20000 in
theorem gX4_part_X4_isNumberOf : GoodIn wsX4_part (va_wsS RX4 73 yX4_isNumberOf wsX4_isNumberOf) := goodIn_app (goodIn_of _ (by decide +kernel)) ggX4_part_X4_isNumberOf
set_option maxRecDepth 20000 in
theorem ggX4_part_X1_init : GoodIn wsX4_part wsX1_init := goodIn_r _ [24, 25, 26, 27, 28, 29, 30, 31, 32, 33, 34, 41, 42, 43, 44, 45, 46] (by decide +kernel) (by decide +kernel)
set_option maxRecDepth 20000 in
theorem gX4_part_X1_init : GoodIn wsX4_part (wsX1_init) := ggX4_part_X1_init
theorem dX4_part_0 : decode cX4_part 0 = .ok (.iload_n 1, 1) := by decide +kernel
theorem dX4_part_1 : decode cX4_part 1 = .ok (.iload_n 2, 1) := by decide +kernel
theorem dX4_part_2 : decode cX4_part 2 = .ok (.invokestatic 73, 3) := by decide +kernel
theorem dX4_part_5 : decode cX4_part 5 = .ok (.ifCond .ne 13, 3) := by decide +kernel
theorem dX4_part_8 : decode cX4_part 8 = .ok (.new 77, 3) := by decide +kernel
theorem dX4_part_11 : decode cX4_part 11 = .ok (.dup, 1) := by decide +kernel
theorem dX4_part_12 : decode cX4_part 12 = .ok (.ldc 79, 2) := by decide +kernel
theorem dX4_part_14 : decode cX4_part 14 = .ok (.invokespecial 81, 3) := by decide +kernel
theorem dX4_part_17 : decode cX4_part 17 = .ok (.athrow, 1) := by decide +kernel
theorem dX4_part_18 : decode cX4_part 18 = .ok (.aload_n 0, 1) := by decide +kernel
theorem dX4_part_19 : decode cX4_part 19 = .ok (.getfield 39, 3) := by decide +kernel
theorem dX4_part_22 : decode cX4_part 22 = .ok (.ifCond .lt 12, 3) := by decide +kernel
theorem dX4_part_25 : decode cX4_part 25 = .ok (.aload_n 0, 1) := by decide +kernel
theorem dX4_part_26 : decode cX4_part 26 = .ok (.getfield 39, 3) := by decide +kernel
theorem dX4_part_29 : decode cX4_part 29 = .ok (.bipush 8, 2) := by decide +kernel
theorem dX4_part_31 : decode cX4_part 31 = .ok (.if_icmp .lt 13, 3) := by decide +kernel
theorem dX4_part_34 : decode cX4_part 34 = .ok (.new 46, 3) := by decide +kernel
theorem dX4_part_37 : decode cX4_part 37 = .ok (.dup, 1) := by decide +kernel
theorem dX4_part_38 : decode cX4_part 38 = .ok (.ldc 82, 2) := by decide +kernel
theorem dX4_part_40 : decode cX4_part 40 = .ok (.invokespecial 50, 3) := by decide +kernel
theorem dX4_part_43 : decode cX4_part 43 = .ok (.athrow, 1) := by decide +kernel
theorem dX4_part_44 : decode cX4_part 44 = .ok (.aload_n 0, 1) := by decide +kernel
theorem dX4_part_45 : decode cX4_part 45 = .ok (.getfield 17, 3) := by decide +kernel
theorem dX4_part_48 : decode cX4_part 48 = .ok (.aload_n 0, 1) := by decide +kernel
theorem dX4_part_49 : decode cX4_part 49 = .ok (.getfield 39, 3) := by decide +kernel
theorem dX4_part_52 : decode cX4_part 52 = .ok (.new 15, 3) := by decide +kernel
theorem dX4_part_55 : decode cX4_part 55 = .ok (.dup, 1) := by decide +kernel
theorem dX4_part_56 : decode cX4_part 56 = .ok (.iload_n 1, 1) := by decide +kernel
theorem dX4_part_57 : decode cX4_part 57 = .ok (.iload_n 2, 1) := by decide +kernel
theorem dX4_part_58 : decode cX4_part 58 = .ok (.invokespecial 84, 3) := by decide +kernel
theorem dX4_part_61 : decode cX4_part 61 = .ok (.aastore, 1) := by decide +kernel
theorem dX4_part_62 : decode cX4_part 62 = .ok (.aload_n 0, 1) := by decide +kernel
theorem dX4_part_63 : decode cX4_part 63 = .ok (.dup, 1) := by decide +kernel
theorem dX4_part_64 : decode cX4_part 64 = .ok (.getfield 39, 3) := by decide +kernel
theorem dX4_part_67 : decode cX4_part 67 = .ok (.iconst 1, 1) := by decide +kernel
theorem dX4_part_68 : decode cX4_part 68 = .ok (.iadd, 1) := by decide +kernel
theorem dX4_part_69 : decode cX4_part 69 = .ok (.putfield 39, 3) := by decide +kernel
theorem dX4_part_72 : decode cX4_part 72 = .ok (.aload_n 0, 1) := by decide +kernel
theorem dX4_part_73 : decode cX4_part 73 = .ok (.getfield 39, 3) := by decide +kernel
theorem dX4_part_76 : decode cX4_part 76 = .ok (.iconst 1, 1) := by decide +kernel
theorem dX4_part_77 : decode cX4_part 77 = .ok (.isub, 1) := by decide +kernel
theorem dX4_part_78 : decode cX4_part 78 = .ok (.ireturn, 1) := by decide +kernel
set_option maxRecDepth 20000 in
theorem ggX4_set_X4_partAt : GoodIn wsX4_set wsX4_partAt := goodIn_r _ [11, 12, 13, 31, 32, 33, 34, 35, 36] (by decide +kernel) (by decide +kernel)
set_option maxRecDepth 20000 in
theorem gX4_set_X4_partAt : GoodIn wsX4_set (wsV RX4 87 RX4 yX4_partAt wsX4_partAt) := goodIn_app (goodIn_of _ (by decide +kernel)) ggX4_set_X4_partAt
set_option maxRecDepth 20000 in
theorem ggX4_set_X4_isNumberOf : GoodIn wsX4_set wsX4_isNumberOf := goodIn_r _ [16, 17, 18, 10, 19, 20, 21, 22, 23, 24] (by decide +kernel) (by decide +kernel)
set_option maxRecDepth 20000 in
theorem gX4_set_X4_isNumberOf : GoodIn wsX4_set (va_wsS RX4 73 yX4_isNumberOf wsX4_isNumberOf) := goodIn_app (goodIn_of _ (by decide +kernel)) ggX4_set_X4_isNumberOf
theorem dX4_set_0 : decode cX4_set 0 = .ok (.aload_n 0, 1) := by decide +kernel
theorem dX4_set_1 : decode cX4_set 1 = .ok (.iload_n 1, 1) := by decide +kernel
theorem dX4_set_2 : decode cX4_set 2 = .ok (.invokevirtual 87, 3) := by decide +kernel
theorem dX4_set_5 : decode cX4_set 5 = .ok (.astore_n 3, 1) := by decide +kernel
theorem dX4_set_6 : decode cX4_set 6 = .ok (.aload_n 3, 1) := by decide +kernel
theorem dX4_set_7 : decode cX4_set 7 = .ok (.ifnonnull 13, 3) := by decide +kernel
theorem dX4_set_10 : decode cX4_set 10 = .ok (.new 59, 3) := by decide +kernel
theorem dX4_set_13 : decode cX4_set 13 = .ok (.dup, 1) := by decide +kernel
theorem dX4_set_14 : decode cX4_set 14 = .ok (.ldc 91, 2) := by decide +kernel
theorem dX4_set_16 : decode cX4_set 16 = .ok (.invokespecial 63, 3) := by decide +kernel
theorem dX4_set_19 : decode cX4_set 19 = .ok (.athrow, 1) := by decide +kernel
theorem dX4_set_20 : decode cX4_set 20 = .ok (.aload_n 3, 1) := by decide +kernel
theorem dX4_set_21 : decode cX4_set 21 = .ok (.getfield 93, 3) := by decide +kernel
theorem dX4_set_24 : decode cX4_set 24 = .ok (.iload_n 2, 1) := by decide +kernel
theorem dX4_set_25 : decode cX4_set 25 = .ok (.invokestatic 73, 3) := by decide +kernel
theorem dX4_set_28 : decode cX4_set 28 = .ok (.ifCond .ne 13, 3) := by decide +kernel
theorem dX4_set_31 : decode cX4_set 31 = .ok (.new 77, 3) := by decide +kernel
theorem dX4_set_34 : decode cX4_set 34 = .ok (.dup, 1) := by decide +kernel
theorem dX4_set_35 : decode cX4_set 35 = .ok (.ldc 96, 2) := by decide +kernel
theorem dX4_set_37 : decode cX4_set 37 = .ok (.invokespecial 81, 3) := by decide +kernel
theorem dX4_set_40 : decode cX4_set 40 = .ok (.athrow, 1) := by decide +kernel
theorem dX4_set_41 : decode cX4_set 41 = .ok (.aload_n 3, 1) := by decide +kernel
theorem dX4_set_42 : decode cX4_set 42 = .ok (.getfield 98, 3) := by decide +kernel
theorem dX4_set_45 : decode cX4_set 45 = .ok (.istore 4, 2) := by decide +kernel
theorem dX4_set_47 : decode cX4_set 47 = .ok (.aload_n 3, 1) := by decide +kernel
theorem dX4_set_48 : decode cX4_set 48 = .ok (.iload_n 2, 1) := by decide +kernel
theorem dX4_set_49 : decode cX4_set 49 = .ok (.putfield 98, 3) := by decide +kernel
theorem dX4_set_52 : decode cX4_set 52 = .ok (.iload 4, 2) := by decide +kernel
theorem dX4_set_54 : decode cX4_set 54 = .ok (.ireturn, 1) := by decide +kernel
set_option maxRecDepth 20000 in
theorem ggX4_put_X4_partAt : GoodIn wsX4_put wsX4_partAt := goodIn_r _ [8, 9, 10, 17, 18, 19, 20, 21, 22] (by decide +kernel) (by decide +kernel)
set_option maxRecDepth 20000 in
theorem gX4_put_X4_partAt : GoodIn wsX4_put (wsV RX4 87 RX4 yX4_partAt wsX4_partAt) := goodIn_app (goodIn_of _ (by decide +kernel)) ggX4_put_X4_partAt
theorem dX4_put_0 : decode cX4_put 0 = .ok (.aload_n 0, 1) := by decide +kernel
theorem dX4_put_1 : decode cX4_put 1 = .ok (.iload_n 1, 1) := by decide +kernel
theorem dX4_put_2 : decode cX4_put 2 = .ok (.invokevirtual 87, 3) := by decide +kernel
theorem dX4_put_5 : decode cX4_put 5 = .ok (.astore_n 3, 1) := by decide +kernel
theorem dX4_put_6 : decode cX4_put 6 = .ok (.aload_n 3, 1) := by decide +kernel
theorem dX4_put_7 : decode cX4_put 7 = .ok (.ifnonnull 13, 3) := by decide +kernel
theorem dX4_put_10 : decode cX4_put 10 = .ok (.new 59, 3) := by decide +kernel
theorem dX4_put_13 : decode cX4_put 13 = .ok (.dup, 1) := by decide +kernel
theorem dX4_put_14 : decode cX4_put 14 = .ok (.ldc 91, 2) := by decide +kernel
theorem dX4_put_16 : decode cX4_put 16 = .ok (.invokespecial 63, 3) := by decide +kernel
theorem dX4_put_19 : decode cX4_put 19 = .ok (.athrow, 1) := by decide +kernel
theorem dX4_put_20 : decode cX4_put 20 = .ok (.aload_n 3, 1) := by decide +kernel
theorem dX4_put_21 : decode cX4_put 21 = .ok (.getfield 101, 3) := by decide +kernel
theorem dX4_put_24 : decode cX4_put 24 = .ok (.istore 4, 2) := by decide +kernel
theorem dX4_put_26 : decode cX4_put 26 = .ok (.aload_n 3, 1) := by decide +kernel
theorem dX4_put_27 : decode cX4_put 27 = .ok (.iload_n 2, 1) := by decide +kernel
theorem dX4_put_28 : decode cX4_put 28 = .ok (.putfield 101, 3) := by decide +kernel
theorem dX4_put_31 : decode cX4_put 31 = .ok (.iload 4, 2) := by decide +kernel
theorem dX4_put_33 : decode cX4_put 33 = .ok (.ireturn, 1) := by decide +kernel
set_option maxRecDepth 20000 in
theorem ggX4_dirt_X4_partAt : GoodIn wsX4_dirt wsX4_partAt := goodIn_r _ [10, 11, 12, 19, 20, 21, 22, 23, 24] (by decide +kernel) (by decide +kernel)
set_option maxRecDepth 20000 in
theorem gX4_dirt_X4_partAt : GoodIn wsX4_dirt (wsV RX4 87 RX4 yX4_partAt wsX4_partAt) := goodIn_app (goodIn_of _ (by decide +kernel)) ggX4_dirt_X4_partAt
theorem dX4_dirt_0 : decode cX4_dirt 0 = .ok (.aload_n 0, 1) := by decide +kernel
theorem dX4_dirt_1 : decode cX4_dirt 1 = .ok (.iload_n 1, 1) := by decide +kernel
theorem dX4_dirt_2 : decode cX4_dirt 2 = .ok (.invokevirtual 87, 3) := by decide +kernel
theorem dX4_dirt_5 : decode cX4_dirt 5 = .ok (.astore_n 3, 1) := by decide +kernel
theorem dX4_dirt_6 : decode cX4_dirt 6 = .ok (.aload_n 3, 1) := by decide +kernel
theorem dX4_dirt_7 : decode cX4_dirt 7 = .ok (.ifnonnull 13, 3) := by decide +kernel
theorem dX4_dirt_10 : decode cX4_dirt 10 = .ok (.new 59, 3) := by decide +kernel
theorem dX4_dirt_13 : decode cX4_dirt 13 = .ok (.dup, 1) := by decide +kernel
theorem dX4_dirt_14 : decode cX4_dirt 14 = .ok (.ldc 91, 2) := by decide +kernel
theorem dX4_dirt_16 : decode cX4_dirt 16 = .ok (.invokespecial 63, 3) := by decide +kernel
theorem dX4_dirt_19 : decode cX4_dirt 19 = .ok (.athrow, 1) := by decide +kernel
theorem dX4_dirt_20 : decode cX4_dirt 20 = .ok (.iload_n 2, 1) := by decide +kernel
theorem dX4_dirt_21 : decode cX4_dirt 21 = .ok (.ifCond .lt 10, 3) := by decide +kernel
theorem dX4_dirt_24 : decode cX4_dirt 24 = .ok (.iload_n 2, 1) := by decide +kernel
theorem dX4_dirt_25 : decode cX4_dirt 25 = .ok (.sipush 255, 3) := by decide +kernel
theorem dX4_dirt_28 : decode cX4_dirt 28 = .ok (.if_icmp .le 13, 3) := by decide +kernel
theorem dX4_dirt_31 : decode cX4_dirt 31 = .ok (.new 77, 3) := by decide +kernel
theorem dX4_dirt_34 : decode cX4_dirt 34 = .ok (.dup, 1) := by decide +kernel
theorem dX4_dirt_35 : decode cX4_dirt 35 = .ok (.ldc 105, 2) := by decide +kernel
theorem dX4_dirt_37 : decode cX4_dirt 37 = .ok (.invokespecial 81, 3) := by decide +kernel
theorem dX4_dirt_40 : decode cX4_dirt 40 = .ok (.athrow, 1) := by decide +kernel
theorem dX4_dirt_41 : decode cX4_dirt 41 = .ok (.aload_n 3, 1) := by decide +kernel
theorem dX4_dirt_42 : decode cX4_dirt 42 = .ok (.getfield 107, 3) := by decide +kernel
theorem dX4_dirt_45 : decode cX4_dirt 45 = .ok (.istore 4, 2) := by decide +kernel
theorem dX4_dirt_47 : decode cX4_dirt 47 = .ok (.aload_n 3, 1) := by decide +kernel
theorem dX4_dirt_48 : decode cX4_dirt 48 = .ok (.iload_n 2, 1) := by decide +kernel
theorem dX4_dirt_49 : decode cX4_dirt 49 = .ok (.putfield 107, 3) := by decide +kernel
theorem dX4_dirt_52 : decode cX4_dirt 52 = .ok (.iload 4, 2) := by decide +kernel
theorem dX4_dirt_54 : decode cX4_dirt 54 = .ok (.ireturn, 1) := by decide +kernel
set_option maxRecDepth 20000 in
theorem ggX4_expose_X4_partAt : GoodIn wsX4_expose wsX4_partAt := goodIn_r _ [14, 15, 16, 144, 145, 146, 147, 148, 149] (by decide +kernel) (by decide +kernel)
set_option maxRecDepth 20000 in
theorem gX4_expose_X4_partAt : GoodIn wsX4_expose (wsV RX4 87 RX4 yX4_partAt wsX4_partAt) := goodIn_app (goodIn_of _ (by decide +kernel)) ggX4_expose_X4_partAt
set_option maxRecDepth 20000 in
theorem ggX4_expose_X4_shineAll : GoodIn wsX4_expose wsX4_shineAll := goodIn_r _ [20, 9, 21, 22, 23, 24, 25, 26, 27, 28, 29, 30, 31, 32, 33, 34, 35, 36, 13, 37, 38, 39, 40, 41, 42, 15, 8, 43, 44, 45, 46, 47, 48, 49, 50, 51, 52, 53, 54, 55, 10, 11, 12, 14, 16, 56, 57, 58, 59, 60, 61, 62, 63, 64, 65, 66, 67, 68, 69, 70, 71, 72, 73, 74, 75, 76, 77, 78, 79, 80, 81, 82, 83, 84, 85, 86, 87, 88, 89, 90, 91, 92, 93, 94, 95, 96, 97, 98, 99, 100, 101, 102, 103, 104, 105, 106, 107, 108, 109, 110, 111, 112, 113, 114, 115, 116, 117, 118, 119, 120, 121, 122, 144, 145, 146, 147, 148, 149, 150, 151, 138, 139, 140, 141, 142, 143, 152, 153, 154, 155, 156] (by decide +kernel) (by decide +kernel)
set_option maxRecDepth 20000 in
theorem gX4_expose_X4_shineAll : GoodIn wsX4_expose (wsV RX4 114 RX4 yX4_shineAll wsX4_shineAll) := goodIn_app (goodIn_of _ (by decide +kernel)) ggX4_expose_X4_shineAll
set_option maxRecDepth 20000 in
theorem ggX4_expose_X1_darken : GoodIn wsX4_expose wsX1_darken := goodIn_r _ [126, 63, 127, 128, 129, 130, 131, 132, 133, 138, 139, 140, 141, 142, 143, 150, 151] (by decide +kernel) (by decide +kernel)
set_option maxRecDepth 20000 in
theorem gX4_expose_X1_darken : GoodIn wsX4_expose (wsV RX4 118 RX1 yX1_darken wsX1_darken) := goodIn_app (goodIn_of _ (by decide +kernel)) ggX4_expose_X1_darken
set_option maxRecDepth 20000 in
theorem ggX4_expose_X1_sumOfExposures : GoodIn wsX4_expose wsX1_sumOfExposures := goodIn_r _ [137, 63, 138, 139, 140, 141, 142, 143] (by decide +kernel) (by decide +kernel)
set_option maxRecDepth 20000 in
theorem gX4_expose_X1_sumOfExposures : GoodIn wsX4_expose (wsV RX4 122 RX1 yX1_sumOfExposures wsX1_sumOfExposures) := goodIn_app (goodIn_of _ (by decide +kernel)) ggX4_expose_X1_sumOfExposures
theorem dX4_expose_0 : decode cX4_expose 0 = .ok (.aload_n 0, 1) := by decide +kernel
theorem dX4_expose_1 : decode cX4_expose 1 = .ok (.iload_n 1, 1) := by decide +kernel
theorem dX4_expose_2 : decode cX4_expose 2 = .ok (.invokevirtual 87, 3) := by decide +kernel
theorem dX4_expose_5 : decode cX4_expose 5 = .ok (.astore_n 3, 1) := by decide +kernel
theorem dX4_expose_6 : decode cX4_expose 6 = .ok (.aload_n 3, 1) := by decide +kernel
theorem dX4_expose_7 : decode cX4_expose 7 = .ok (.ifnonnull 13, 3) := by decide +kernel
theorem dX4_expose_10 : decode cX4_expose 10 = .ok (.new 59, 3) := by decide +kernel
theorem dX4_expose_13 : decode cX4_expose 13 = .ok (.dup, 1) := by decide +kernel
theorem dX4_expose_14 : decode cX4_expose 14 = .ok (.ldc 91, 2) := by decide +kernel
theorem dX4_expose_16 : decode cX4_expose 16 = .ok (.invokespecial 63, 3) := by decide +kernel
theorem dX4_expose_19 : decode cX4_expose 19 = .ok (.athrow, 1) := by decide +kernel
theorem dX4_expose_20 : decode cX4_expose 20 = .ok (.iload_n 2, 1) := by decide +kernel
theorem dX4_expose_21 : decode cX4_expose 21 = .ok (.iconst 1, 1) := by decide +kernel
theorem dX4_expose_22 : decode cX4_expose 22 = .ok (.if_icmp .lt 9, 3) := by decide +kernel
theorem dX4_expose_25 : decode cX4_expose 25 = .ok (.iload_n 2, 1) := by decide +kernel
theorem dX4_expose_26 : decode cX4_expose 26 = .ok (.bipush 100, 2) := by decide +kernel
theorem dX4_expose_28 : decode cX4_expose 28 = .ok (.if_icmp .le 13, 3) := by decide +kernel
theorem dX4_expose_31 : decode cX4_expose 31 = .ok (.new 77, 3) := by decide +kernel
theorem dX4_expose_34 : decode cX4_expose 34 = .ok (.dup, 1) := by decide +kernel
theorem dX4_expose_35 : decode cX4_expose 35 = .ok (.ldc 110, 2) := by decide +kernel
theorem dX4_expose_37 : decode cX4_expose 37 = .ok (.invokespecial 81, 3) := by decide +kernel
theorem dX4_expose_40 : decode cX4_expose 40 = .ok (.athrow, 1) := by decide +kernel
theorem dX4_expose_41 : decode cX4_expose 41 = .ok (.aload_n 3, 1) := by decide +kernel
theorem dX4_expose_42 : decode cX4_expose 42 = .ok (.getfield 93, 3) := by decide +kernel
theorem dX4_expose_45 : decode cX4_expose 45 = .ok (.bipush 7, 2) := by decide +kernel
theorem dX4_expose_47 : decode cX4_expose 47 = .ok (.if_icmp .ne 10, 3) := by decide +kernel
theorem dX4_expose_50 : decode cX4_expose 50 = .ok (.aload_n 3, 1) := by decide +kernel
theorem dX4_expose_51 : decode cX4_expose 51 = .ok (.getfield 101, 3) := by decide +kernel
theorem dX4_expose_54 : decode cX4_expose 54 = .ok (.ifCond .ne 13, 3) := by decide +kernel
theorem dX4_expose_57 : decode cX4_expose 57 = .ok (.new 46, 3) := by decide +kernel
theorem dX4_expose_60 : decode cX4_expose 60 = .ok (.dup, 1) := by decide +kernel
theorem dX4_expose_61 : decode cX4_expose 61 = .ok (.ldc 112, 2) := by decide +kernel
theorem dX4_expose_63 : decode cX4_expose 63 = .ok (.invokespecial 50, 3) := by decide +kernel
theorem dX4_expose_66 : decode cX4_expose 66 = .ok (.athrow, 1) := by decide +kernel
theorem dX4_expose_67 : decode cX4_expose 67 = .ok (.aload_n 0, 1) := by decide +kernel
theorem dX4_expose_68 : decode cX4_expose 68 = .ok (.iload_n 1, 1) := by decide +kernel
theorem dX4_expose_69 : decode cX4_expose 69 = .ok (.iconst 1, 1) := by decide +kernel
theorem dX4_expose_70 : decode cX4_expose 70 = .ok (.isub, 1) := by decide +kernel
theorem dX4_expose_71 : decode cX4_expose 71 = .ok (.invokevirtual 114, 3) := by decide +kernel
theorem dX4_expose_74 : decode cX4_expose 74 = .ok (.aload_n 3, 1) := by decide +kernel
theorem dX4_expose_75 : decode cX4_expose 75 = .ok (.aload_n 0, 1) := by decide +kernel
theorem dX4_expose_76 : decode cX4_expose 76 = .ok (.getfield 31, 3) := by decide +kernel
theorem dX4_expose_79 : decode cX4_expose 79 = .ok (.iload_n 2, 1) := by decide +kernel
theorem dX4_expose_80 : decode cX4_expose 80 = .ok (.invokevirtual 118, 3) := by decide +kernel
theorem dX4_expose_83 : decode cX4_expose 83 = .ok (.aload_n 3, 1) := by decide +kernel
theorem dX4_expose_84 : decode cX4_expose 84 = .ok (.invokevirtual 122, 3) := by decide +kernel
theorem dX4_expose_87 : decode cX4_expose 87 = .ok (.ireturn, 1) := by decide +kernel
set_option maxRecDepth 20000 in
theorem ggX4_whole_X4_checkBehind : GoodIn wsX4_whole wsX4_checkBehind := goodIn_ca (goodIn_r _ [7, 8, 9, 10, 129, 130, 131, 132, 133, 134] (by decide +kernel) (by decide +kernel)) (goodIn_sub (fun _ h => List.mem_cons_of_mem _ (List.mem_append_right _ h)) (by decide +kernel))
set_option maxRecDepth 20000 in
theorem gX4_whole_X4_checkBehind : GoodIn wsX4_whole (wsV RX4 126 RX4 yX4_checkBehind wsX4_checkBehind) := goodIn_app (goodIn_of _ (by decide +kernel)) ggX4_whole_X4_checkBehind
set_option maxRecDepth 20000 in
theorem ggX4_whole_X4_checkPlace : GoodIn wsX4_whole wsX4_checkPlace := goodIn_ca (goodIn_r _ [13, 8, 9, 14, 15, 6, 16] (by decide +kernel) (by decide +kernel)) (goodIn_sub (fun _ h => List.mem_cons_of_mem _ (List.mem_append_right _ h)) (by decide +kernel))
set_option maxRecDepth 20000 in
theorem gX4_whole_X4_checkPlace : GoodIn wsX4_whole (va_wsS RX4 145 yX4_checkPlace wsX4_checkPlace) := goodIn_app (goodIn_of _ (by decide +kernel)) ggX4_whole_X4_checkPlace
set_option maxRecDepth 20000 in
theorem ggX4_whole_X4_shineAll : GoodIn wsX4_whole wsX4_shineAll := goodIn_r _ [20, 1, 21, 22, 23, 24, 25, 26, 27, 28, 29, 30, 31, 32, 33, 34, 35, 36, 6, 37, 38, 39, 40, 41, 42, 10, 43, 44, 45, 46, 47, 48, 49, 50, 51, 52, 53, 54, 55, 56, 57, 58, 59, 60, 61, 62, 63, 64, 65, 66, 67, 68, 69, 70, 71, 72, 73, 74, 75, 76, 77, 78, 79, 80, 81, 82, 83, 84, 85, 86, 87, 88, 89, 90, 91, 92, 93, 94, 95, 96, 97, 98, 99, 100, 101, 102, 103, 104, 105, 106, 107, 108, 109, 110, 111, 112, 113, 114, 115, 116, 117, 118, 119, 120, 121, 122, 123, 124, 125, 126, 127, 128, 129, 130, 131, 132, 133, 134, 135, 136, 137, 138, 139, 140, 141, 142, 143, 144, 145, 146, 147] (by decide +kernel) (by decide +kernel)
set_option maxRecDepth 20000 in
theorem gX4_whole_X4_shineAll : GoodIn wsX4_whole (wsV RX4 114 RX4 yX4_shineAll wsX4_shineAll) := goodIn_app (goodIn_of _ (by decide +kernel)) ggX4_whole_X4_shineAll
theorem dX4_whole_0 : decode cX4_whole 0 = .ok (.aload_n 0, 1) := by decide +kernel
theorem dX4_whole_1 : decode cX4_whole 1 = .ok (.iload_n 1, 1) := by decide +kernel
theorem dX4_whole_2 : decode cX4_whole 2 = .ok (.invokevirtual 126, 3) := by decide +kernel
theorem dX4_whole_5 : decode cX4_whole 5 = .ok (.iload_n 2, 1) := by decide +kernel
theorem dX4_whole_6 : decode cX4_whole 6 = .ok (.invokestatic 145, 3) := by decide +kernel
theorem dX4_whole_9 : decode cX4_whole 9 = .ok (.aload_n 0, 1) := by decide +kernel
theorem dX4_whole_10 : decode cX4_whole 10 = .ok (.iload_n 1, 1) := by decide +kernel
theorem dX4_whole_11 : decode cX4_whole 11 = .ok (.invokevirtual 114, 3) := by decide +kernel
theorem dX4_whole_14 : decode cX4_whole 14 = .ok (.aload_n 0, 1) := by decide +kernel
theorem dX4_whole_15 : decode cX4_whole 15 = .ok (.getfield 31, 3) := by decide +kernel
theorem dX4_whole_18 : decode cX4_whole 18 = .ok (.getfield 148, 3) := by decide +kernel
theorem dX4_whole_21 : decode cX4_whole 21 = .ok (.iload_n 2, 1) := by decide +kernel
theorem dX4_whole_22 : decode cX4_whole 22 = .ok (.laload, 1) := by decide +kernel
theorem dX4_whole_23 : decode cX4_whole 23 = .ok (.lreturn, 1) := by decide +kernel
set_option maxRecDepth 20000 in
theorem ggX4_root_X4_checkBehind : GoodIn wsX4_root wsX4_checkBehind := goodIn_ca (goodIn_r _ [7, 8, 9, 10, 129, 130, 131, 132, 133, 134] (by decide +kernel) (by decide +kernel)) (goodIn_sub (fun _ h => List.mem_cons_of_mem _ (List.mem_append_right _ h)) (by decide +kernel))
set_option maxRecDepth 20000 in
theorem gX4_root_X4_checkBehind : GoodIn wsX4_root (wsV RX4 126 RX4 yX4_checkBehind wsX4_checkBehind) := goodIn_app (goodIn_of _ (by decide +kernel)) ggX4_root_X4_checkBehind
set_option maxRecDepth 20000 in
theorem ggX4_root_X4_checkPlace : GoodIn wsX4_root wsX4_checkPlace := goodIn_ca (goodIn_r _ [13, 8, 9, 14, 15, 6, 16] (by decide +kernel) (by decide +kernel)) (goodIn_sub (fun _ h => List.mem_cons_of_mem _ (List.mem_append_right _ h)) (by decide +kernel))
set_option maxRecDepth 20000 in
theorem gX4_root_X4_checkPlace : GoodIn wsX4_root (va_wsS RX4 145 yX4_checkPlace wsX4_checkPlace) := goodIn_app (goodIn_of _ (by decide +kernel)) ggX4_root_X4_checkPlace
set_option maxRecDepth 20000 in
theorem ggX4_root_X4_shineAll : GoodIn wsX4_root wsX4_shineAll := goodIn_r _ [20, 1, 21, 22, 23, 24, 25, 26, 27, 28, 29, 30, 31, 32, 33, 34, 35, 36, 6, 37, 38, 39, 40, 41, 42, 10, 43, 44, 45, 46, 47, 48, 49, 50, 51, 52, 53, 54, 55, 56, 57, 58, 59, 60, 61, 62, 63, 64, 65, 66, 67, 68, 69, 70, 71, 72, 73, 74, 75, 76, 77, 78, 79, 80, 81, 82, 83, 84, 85, 86, 87, 88, 89, 90, 91, 92, 93, 94, 95, 96, 97, 98, 99, 100, 101, 102, 103, 104, 105, 106, 107, 108, 109, 110, 111, 112, 113, 114, 115, 116, 117, 118, 119, 120, 121, 122, 123, 124, 125, 126, 127, 128, 129, 130, 131, 132, 133, 134, 135, 136, 137, 138, 139, 140, 141, 142, 143, 144, 145, 146, 147] (by decide +kernel) (by decide +kernel)
set_option maxRecDepth 20000 in
theorem gX4_root_X4_shineAll : GoodIn wsX4_root (wsV RX4 114 RX4 yX4_shineAll wsX4_shineAll) := goodIn_app (goodIn_of _ (by decide +kernel)) ggX4_root_X4_shineAll
theorem dX4_root_0 : decode cX4_root 0 = .ok (.aload_n 0, 1) := by decide +kernel
theorem dX4_root_1 : decode cX4_root 1 = .ok (.iload_n 1, 1) := by decide +kernel
theorem dX4_root_2 : decode cX4_root 2 = .ok (.invokevirtual 126, 3) := by decide +kernel
theorem dX4_root_5 : decode cX4_root 5 = .ok (.iload_n 2, 1) := by decide +kernel
theorem dX4_root_6 : decode cX4_root 6 = .ok (.invokestatic 145, 3) := by decide +kernel
theorem dX4_root_9 : decode cX4_root 9 = .ok (.aload_n 0, 1) := by decide +kernel
theorem dX4_root_10 : decode cX4_root 10 = .ok (.iload_n 1, 1) := by decide +kernel
theorem dX4_root_11 : decode cX4_root 11 = .ok (.invokevirtual 114, 3) := by decide +kernel
theorem dX4_root_14 : decode cX4_root 14 = .ok (.aload_n 0, 1) := by decide +kernel
theorem dX4_root_15 : decode cX4_root 15 = .ok (.getfield 31, 3) := by decide +kernel
theorem dX4_root_18 : decode cX4_root 18 = .ok (.getfield 152, 3) := by decide +kernel
theorem dX4_root_21 : decode cX4_root 21 = .ok (.iload_n 2, 1) := by decide +kernel
theorem dX4_root_22 : decode cX4_root 22 = .ok (.laload, 1) := by decide +kernel
theorem dX4_root_23 : decode cX4_root 23 = .ok (.lreturn, 1) := by decide +kernel
set_option maxRecDepth 20000 in
theorem ggX4_power_X4_checkBehind : GoodIn wsX4_power wsX4_checkBehind := goodIn_ca (goodIn_r _ [6, 7, 8, 9, 133, 134, 135, 136, 137, 138] (by decide +kernel) (by decide +kernel)) (goodIn_sub (fun _ h => List.mem_cons_of_mem _ (List.mem_append_right _ h)) (by decide +kernel))
set_option maxRecDepth 20000 in
theorem gX4_power_X4_checkBehind : GoodIn wsX4_power (wsV RX4 126 RX4 yX4_checkBehind wsX4_checkBehind) := goodIn_app (goodIn_of _ (by decide +kernel)) ggX4_power_X4_checkBehind
set_option maxRecDepth 20000 in
theorem ggX4_power_X4_shineAll : GoodIn wsX4_power wsX4_shineAll := goodIn_r _ [13, 1, 14, 15, 16, 17, 18, 19, 20, 21, 22, 23, 24, 25, 26, 27, 28, 29, 5, 30, 31, 32, 33, 34, 35, 9, 36, 37, 38, 39, 40, 41, 42, 43, 44, 45, 46, 47, 48, 49, 50, 51, 52, 53, 54, 55, 56, 57, 58, 59, 60, 61, 62, 63, 64, 65, 66, 67, 68, 69, 70, 71, 72, 73, 74, 75, 76, 77, 78, 79, 80, 81, 82, 83, 84, 85, 86, 87, 88, 89, 90, 91, 92, 93, 94, 95, 96, 97, 98, 99, 100, 101, 102, 103, 104, 105, 106, 107, 108, 109, 110, 111, 112, 113, 114, 115, 116, 117, 118, 119, 120, 121, 133, 134, 135, 136, 137, 138, 139, 140, 141, 142, 143, 144, 145, 146, 147, 148, 149, 150, 151] (by decide +kernel) (by decide +kernel)
set_option maxRecDepth 20000 in
theorem gX4_power_X4_shineAll : GoodIn wsX4_power (wsV RX4 114 RX4 yX4_shineAll wsX4_shineAll) := goodIn_app (goodIn_of _ (by decide +kernel)) ggX4_power_X4_shineAll
set_option maxRecDepth 20000 in
theorem ggX4_power_X2_sumOfRoots : GoodIn wsX4_power wsX2_sumOfRoots := goodIn_r _ [125, 22, 126, 127, 19, 128, 139, 140] (by decide +kernel) (by decide +kernel)
set_option maxRecDepth 20000 in
theorem gX4_power_X2_sumOfRoots : GoodIn wsX4_power (wsV RX4 155 RX2 yX2_sumOfRoots wsX2_sumOfRoots) := goodIn_app (goodIn_of _ (by decide +kernel)) ggX4_power_X2_sumOfRoots
set_option maxRecDepth 20000 in
theorem ggX4_power_X2_sumOfWholes : GoodIn wsX4_power wsX2_sumOfWholes := goodIn_r _ [132, 21, 126, 127, 19, 128, 139, 140] (by decide +kernel) (by decide +kernel)
set_option maxRecDepth 20000 in
theorem gX4_power_X2_sumOfWholes : GoodIn wsX4_power (wsV RX4 159 RX2 yX2_sumOfWholes wsX2_sumOfWholes) := goodIn_app (goodIn_of _ (by decide +kernel)) ggX4_power_X2_sumOfWholes
theorem dX4_power_0 : decode cX4_power 0 = .ok (.aload_n 0, 1) := by decide +kernel
theorem dX4_power_1 : decode cX4_power 1 = .ok (.iload_n 1, 1) := by decide +kernel
theorem dX4_power_2 : decode cX4_power 2 = .ok (.invokevirtual 126, 3) := by decide +kernel
theorem dX4_power_5 : decode cX4_power 5 = .ok (.aload_n 0, 1) := by decide +kernel
theorem dX4_power_6 : decode cX4_power 6 = .ok (.iload_n 1, 1) := by decide +kernel
theorem dX4_power_7 : decode cX4_power 7 = .ok (.invokevirtual 114, 3) := by decide +kernel
theorem dX4_power_10 : decode cX4_power 10 = .ok (.iload_n 2, 1) := by decide +kernel
theorem dX4_power_11 : decode cX4_power 11 = .ok (.ifCond .eq 13, 3) := by decide +kernel
theorem dX4_power_14 : decode cX4_power 14 = .ok (.aload_n 0, 1) := by decide +kernel
theorem dX4_power_15 : decode cX4_power 15 = .ok (.getfield 31, 3) := by decide +kernel
theorem dX4_power_18 : decode cX4_power 18 = .ok (.invokevirtual 155, 3) := by decide +kernel
theorem dX4_power_21 : decode cX4_power 21 = .ok (.goto 10, 3) := by decide +kernel
theorem dX4_power_24 : decode cX4_power 24 = .ok (.aload_n 0, 1) := by decide +kernel
theorem dX4_power_25 : decode cX4_power 25 = .ok (.getfield 31, 3) := by decide +kernel
theorem dX4_power_28 : decode cX4_power 28 = .ok (.invokevirtual 159, 3) := by decide +kernel
theorem dX4_power_31 : decode cX4_power 31 = .ok (.lreturn, 1) := by decide +kernel
set_option maxRecDepth 20000 in
theorem ggX4_brightest_X4_checkBehind : GoodIn wsX4_brightest wsX4_checkBehind := goodIn_ca (goodIn_r _ [6, 7, 8, 9, 131, 132, 133, 134, 135, 136] (by decide +kernel) (by decide +kernel)) (goodIn_sub (fun _ h => List.mem_cons_of_mem _ (List.mem_append_right _ h)) (by decide +kernel))
set_option maxRecDepth 20000 in
theorem gX4_brightest_X4_checkBehind : GoodIn wsX4_brightest (wsV RX4 126 RX4 yX4_checkBehind wsX4_checkBehind) := goodIn_app (goodIn_of _ (by decide +kernel)) ggX4_brightest_X4_checkBehind
set_option maxRecDepth 20000 in
theorem ggX4_brightest_X4_shineAll : GoodIn wsX4_brightest wsX4_shineAll := goodIn_r _ [13, 1, 14, 15, 16, 17, 18, 19, 20, 21, 22, 23, 24, 25, 26, 27, 28, 29, 5, 30, 31, 32, 33, 34, 35, 9, 36, 37, 38, 39, 40, 41, 42, 43, 44, 45, 46, 47, 48, 49, 50, 51, 52, 53, 54, 55, 56, 57, 58, 59, 60, 61, 62, 63, 64, 65, 66, 67, 68, 69, 70, 71, 72, 73, 74, 75, 76, 77, 78, 79, 80, 81, 82, 83, 84, 85, 86, 87, 88, 89, 90, 91, 92, 93, 94, 95, 96, 97, 98, 99, 100, 101, 102, 103, 104, 105, 106, 107, 108, 109, 110, 111, 112, 113, 114, 115, 116, 117, 118, 119, 120, 121, 131, 132, 133, 134, 135, 136, 137, 138, 139, 140, 141, 142, 143, 144, 145, 146, 147, 148, 149] (by decide +kernel) (by decide +kernel)
set_option maxRecDepth 20000 in
theorem gX4_brightest_X4_shineAll : GoodIn wsX4_brightest (wsV RX4 114 RX4 yX4_shineAll wsX4_shineAll) := goodIn_app (goodIn_of _ (by decide +kernel)) ggX4_brightest_X4_shineAll
set_option maxRecDepth 20000 in
theorem ggX4_brightest_X2_placeOfGreatest : GoodIn wsX4_brightest wsX2_placeOfGreatest := goodIn_r _ [125, 126, 127, 128, 19, 129, 21, 130, 22, 137, 138] (by decide +kernel) (by decide +kernel)
set_option maxRecDepth 20000 in
theorem gX4_brightest_X2_placeOfGreatest : GoodIn wsX4_brightest (wsV RX4 162 RX2 yX2_placeOfGreatest wsX2_placeOfGreatest) := goodIn_app (goodIn_of _ (by decide +kernel)) ggX4_brightest_X2_placeOfGreatest
theorem dX4_brightest_0 : decode cX4_brightest 0 = .ok (.aload_n 0, 1) := by decide +kernel
theorem dX4_brightest_1 : decode cX4_brightest 1 = .ok (.iload_n 1, 1) := by decide +kernel
theorem dX4_brightest_2 : decode cX4_brightest 2 = .ok (.invokevirtual 126, 3) := by decide +kernel
theorem dX4_brightest_5 : decode cX4_brightest 5 = .ok (.aload_n 0, 1) := by decide +kernel
theorem dX4_brightest_6 : decode cX4_brightest 6 = .ok (.iload_n 1, 1) := by decide +kernel
theorem dX4_brightest_7 : decode cX4_brightest 7 = .ok (.invokevirtual 114, 3) := by decide +kernel
theorem dX4_brightest_10 : decode cX4_brightest 10 = .ok (.aload_n 0, 1) := by decide +kernel
theorem dX4_brightest_11 : decode cX4_brightest 11 = .ok (.getfield 31, 3) := by decide +kernel
theorem dX4_brightest_14 : decode cX4_brightest 14 = .ok (.invokevirtual 162, 3) := by decide +kernel
theorem dX4_brightest_17 : decode cX4_brightest 17 = .ok (.ireturn, 1) := by decide +kernel
set_option maxRecDepth 20000 in
theorem ggX4_dark_X4_checkBehind : GoodIn wsX4_dark wsX4_checkBehind := goodIn_ca (goodIn_r _ [6, 7, 8, 9, 126, 127, 128, 129, 130, 131] (by decide +kernel) (by decide +kernel)) (goodIn_sub (fun _ h => List.mem_cons_of_mem _ (List.mem_append_right _ h)) (by decide +kernel))
set_option maxRecDepth 20000 in
theorem gX4_dark_X4_checkBehind : GoodIn wsX4_dark (wsV RX4 126 RX4 yX4_checkBehind wsX4_checkBehind) := goodIn_app (goodIn_of _ (by decide +kernel)) ggX4_dark_X4_checkBehind
set_option maxRecDepth 20000 in
theorem ggX4_dark_X4_shineAll : GoodIn wsX4_dark wsX4_shineAll := goodIn_r _ [13, 1, 14, 15, 16, 17, 18, 19, 20, 21, 22, 23, 24, 25, 26, 27, 28, 29, 5, 30, 31, 32, 33, 34, 35, 9, 36, 37, 38, 39, 40, 41, 42, 43, 44, 45, 46, 47, 48, 49, 50, 51, 52, 53, 54, 55, 56, 57, 58, 59, 60, 61, 62, 63, 64, 65, 66, 67, 68, 69, 70, 71, 72, 73, 74, 75, 76, 77, 78, 79, 80, 81, 82, 83, 84, 85, 86, 87, 88, 89, 90, 91, 92, 93, 94, 95, 96, 97, 98, 99, 100, 101, 102, 103, 104, 105, 106, 107, 108, 109, 110, 111, 112, 113, 114, 115, 116, 117, 118, 119, 120, 121, 126, 127, 128, 129, 130, 131, 132, 133, 134, 135, 136, 137, 138, 139, 140, 141, 142, 143, 144] (by decide +kernel) (by decide +kernel)
set_option maxRecDepth 20000 in
theorem gX4_dark_X4_shineAll : GoodIn wsX4_dark (wsV RX4 114 RX4 yX4_shineAll wsX4_shineAll) := goodIn_app (goodIn_of _ (by decide +kernel)) ggX4_dark_X4_shineAll
set_option maxRecDepth 20000 in
theorem ggX4_dark_X2_darkPlaces : GoodIn wsX4_dark wsX2_darkPlaces := goodIn_r _ [125, 21, 22, 132, 133] (by decide +kernel) (by decide +kernel)
set_option maxRecDepth 20000 in
theorem gX4_dark_X2_darkPlaces : GoodIn wsX4_dark (wsV RX4 165 RX2 yX2_darkPlaces wsX2_darkPlaces) := goodIn_app (goodIn_of _ (by decide +kernel)) ggX4_dark_X2_darkPlaces
theorem dX4_dark_0 : decode cX4_dark 0 = .ok (.aload_n 0, 1) := by decide +kernel
theorem dX4_dark_1 : decode cX4_dark 1 = .ok (.iload_n 1, 1) := by decide +kernel
theorem dX4_dark_2 : decode cX4_dark 2 = .ok (.invokevirtual 126, 3) := by decide +kernel
theorem dX4_dark_5 : decode cX4_dark 5 = .ok (.aload_n 0, 1) := by decide +kernel
theorem dX4_dark_6 : decode cX4_dark 6 = .ok (.iload_n 1, 1) := by decide +kernel
theorem dX4_dark_7 : decode cX4_dark 7 = .ok (.invokevirtual 114, 3) := by decide +kernel
theorem dX4_dark_10 : decode cX4_dark 10 = .ok (.aload_n 0, 1) := by decide +kernel
theorem dX4_dark_11 : decode cX4_dark 11 = .ok (.getfield 31, 3) := by decide +kernel
theorem dX4_dark_14 : decode cX4_dark 14 = .ok (.invokevirtual 165, 3) := by decide +kernel
theorem dX4_dark_17 : decode cX4_dark 17 = .ok (.ireturn, 1) := by decide +kernel
set_option maxRecDepth 20000 in
theorem ggX4_period_X4_checkBehind : GoodIn wsX4_period wsX4_checkBehind := goodIn_ca (goodIn_r _ [6, 7, 8, 9, 130, 131, 132, 133, 134, 135] (by decide +kernel) (by decide +kernel)) (goodIn_sub (fun _ h => List.mem_cons_of_mem _ (List.mem_append_right _ h)) (by decide +kernel))
set_option maxRecDepth 20000 in
theorem gX4_period_X4_checkBehind : GoodIn wsX4_period (wsV RX4 126 RX4 yX4_checkBehind wsX4_checkBehind) := goodIn_app (goodIn_of _ (by decide +kernel)) ggX4_period_X4_checkBehind
set_option maxRecDepth 20000 in
theorem ggX4_period_X4_shineAll : GoodIn wsX4_period wsX4_shineAll := goodIn_r _ [13, 1, 14, 15, 16, 17, 18, 19, 20, 21, 22, 23, 24, 25, 26, 27, 28, 29, 5, 30, 31, 32, 33, 34, 35, 9, 36, 37, 38, 39, 40, 41, 42, 43, 44, 45, 46, 47, 48, 49, 50, 51, 52, 53, 54, 55, 56, 57, 58, 59, 60, 61, 62, 63, 64, 65, 66, 67, 68, 69, 70, 71, 72, 73, 74, 75, 76, 77, 78, 79, 80, 81, 82, 83, 84, 85, 86, 87, 88, 89, 90, 91, 92, 93, 94, 95, 96, 97, 98, 99, 100, 101, 102, 103, 104, 105, 106, 107, 108, 109, 110, 111, 112, 113, 114, 115, 116, 117, 118, 119, 120, 121, 130, 131, 132, 133, 134, 135, 136, 137, 138, 139, 140, 141, 142, 143, 144, 145, 146, 147, 148] (by decide +kernel) (by decide +kernel)
set_option maxRecDepth 20000 in
theorem gX4_period_X4_shineAll : GoodIn wsX4_period (wsV RX4 114 RX4 yX4_shineAll wsX4_shineAll) := goodIn_app (goodIn_of _ (by decide +kernel)) ggX4_period_X4_shineAll
set_option maxRecDepth 20000 in
theorem ggX4_period_X2_shortestRoll : GoodIn wsX4_period wsX2_shortestRoll := goodIn_r _ [125, 126, 127, 128, 19, 129, 21, 22, 136, 137] (by decide +kernel) (by decide +kernel)
set_option maxRecDepth 20000 in
theorem gX4_period_X2_shortestRoll : GoodIn wsX4_period (wsV RX4 168 RX2 yX2_shortestRoll wsX2_shortestRoll) := goodIn_app (goodIn_of _ (by decide +kernel)) ggX4_period_X2_shortestRoll
theorem dX4_period_0 : decode cX4_period 0 = .ok (.aload_n 0, 1) := by decide +kernel
theorem dX4_period_1 : decode cX4_period 1 = .ok (.iload_n 1, 1) := by decide +kernel
theorem dX4_period_2 : decode cX4_period 2 = .ok (.invokevirtual 126, 3) := by decide +kernel
theorem dX4_period_5 : decode cX4_period 5 = .ok (.aload_n 0, 1) := by decide +kernel
theorem dX4_period_6 : decode cX4_period 6 = .ok (.iload_n 1, 1) := by decide +kernel
theorem dX4_period_7 : decode cX4_period 7 = .ok (.invokevirtual 114, 3) := by decide +kernel
theorem dX4_period_10 : decode cX4_period 10 = .ok (.aload_n 0, 1) := by decide +kernel
theorem dX4_period_11 : decode cX4_period 11 = .ok (.getfield 31, 3) := by decide +kernel
theorem dX4_period_14 : decode cX4_period 14 = .ok (.invokevirtual 168, 3) := by decide +kernel
theorem dX4_period_17 : decode cX4_period 17 = .ok (.ireturn, 1) := by decide +kernel
set_option maxRecDepth 20000 in
theorem ggX4_clear_X4_checkBehind : GoodIn wsX4_clear wsX4_checkBehind := goodIn_ca (goodIn_r _ [6, 7, 8, 9, 146, 147, 148, 149, 150, 151] (by decide +kernel) (by decide +kernel)) (goodIn_sub (fun _ h => List.mem_cons_of_mem _ (List.mem_append_right _ h)) (by decide +kernel))
set_option maxRecDepth 20000 in
theorem gX4_clear_X4_checkBehind : GoodIn wsX4_clear (wsV RX4 126 RX4 yX4_checkBehind wsX4_checkBehind) := goodIn_app (goodIn_of _ (by decide +kernel)) ggX4_clear_X4_checkBehind
set_option maxRecDepth 20000 in
theorem ggX4_clear_X4_shineAll : GoodIn wsX4_clear wsX4_shineAll := goodIn_r _ [13, 1, 14, 15, 16, 17, 18, 19, 20, 21, 22, 23, 24, 25, 26, 27, 28, 29, 5, 30, 31, 32, 33, 34, 35, 9, 36, 37, 38, 39, 40, 41, 42, 43, 44, 45, 46, 47, 48, 49, 50, 51, 52, 53, 54, 55, 56, 57, 58, 59, 60, 61, 62, 63, 64, 65, 66, 67, 68, 69, 70, 71, 72, 73, 74, 75, 76, 77, 78, 79, 80, 81, 82, 83, 84, 85, 86, 87, 88, 89, 90, 91, 92, 93, 94, 95, 96, 97, 98, 99, 100, 101, 102, 103, 104, 105, 106, 107, 108, 109, 110, 111, 112, 113, 114, 115, 116, 117, 118, 119, 120, 121, 146, 147, 148, 149, 150, 151, 152, 153, 154, 155, 156, 157, 158, 159, 160, 161, 162, 163, 164] (by decide +kernel) (by decide +kernel)
set_option maxRecDepth 20000 in
theorem gX4_clear_X4_shineAll : GoodIn wsX4_clear (wsV RX4 114 RX4 yX4_shineAll wsX4_shineAll) := goodIn_app (goodIn_of _ (by decide +kernel)) ggX4_clear_X4_shineAll
set_option maxRecDepth 20000 in
theorem ggX4_clear_X2_contrast : GoodIn wsX4_clear wsX2_contrast := goodIn_r _ [125, 126, 127, 128, 19, 129, 130, 131, 132, 133, 134, 135, 136, 137, 21, 138, 22, 139, 140, 141, 142, 143, 144, 145, 152, 153] (by decide +kernel) (by decide +kernel)
set_option maxRecDepth 20000 in
theorem gX4_clear_X2_contrast : GoodIn wsX4_clear (wsV RX4 171 RX2 yX2_contrast wsX2_contrast) := goodIn_app (goodIn_of _ (by decide +kernel)) ggX4_clear_X2_contrast
theorem dX4_clear_0 : decode cX4_clear 0 = .ok (.aload_n 0, 1) := by decide +kernel
theorem dX4_clear_1 : decode cX4_clear 1 = .ok (.iload_n 1, 1) := by decide +kernel
theorem dX4_clear_2 : decode cX4_clear 2 = .ok (.invokevirtual 126, 3) := by decide +kernel
theorem dX4_clear_5 : decode cX4_clear 5 = .ok (.aload_n 0, 1) := by decide +kernel
theorem dX4_clear_6 : decode cX4_clear 6 = .ok (.iload_n 1, 1) := by decide +kernel
theorem dX4_clear_7 : decode cX4_clear 7 = .ok (.invokevirtual 114, 3) := by decide +kernel
theorem dX4_clear_10 : decode cX4_clear 10 = .ok (.aload_n 0, 1) := by decide +kernel
theorem dX4_clear_11 : decode cX4_clear 11 = .ok (.getfield 31, 3) := by decide +kernel
theorem dX4_clear_14 : decode cX4_clear 14 = .ok (.invokevirtual 171, 3) := by decide +kernel
theorem dX4_clear_17 : decode cX4_clear 17 = .ok (.dreturn, 1) := by decide +kernel
set_option maxRecDepth 20000 in
theorem ggX4_tenths_X4_checkBehind : GoodIn wsX4_tenths wsX4_checkBehind := goodIn_ca (goodIn_r _ [6, 7, 8, 9, 153, 154, 155, 156, 157, 158] (by decide +kernel) (by decide +kernel)) (goodIn_sub (fun _ h => List.mem_cons_of_mem _ (List.mem_append_right _ h)) (by decide +kernel))
set_option maxRecDepth 20000 in
theorem gX4_tenths_X4_checkBehind : GoodIn wsX4_tenths (wsV RX4 126 RX4 yX4_checkBehind wsX4_checkBehind) := goodIn_app (goodIn_of _ (by decide +kernel)) ggX4_tenths_X4_checkBehind
set_option maxRecDepth 20000 in
theorem ggX4_tenths_X4_checkPlace : GoodIn wsX4_tenths wsX4_checkPlace := goodIn_ca (goodIn_r _ [12, 7, 8, 13, 14, 5, 15] (by decide +kernel) (by decide +kernel)) (goodIn_sub (fun _ h => List.mem_cons_of_mem _ (List.mem_append_right _ h)) (by decide +kernel))
set_option maxRecDepth 20000 in
theorem gX4_tenths_X4_checkPlace : GoodIn wsX4_tenths (va_wsS RX4 145 yX4_checkPlace wsX4_checkPlace) := goodIn_app (goodIn_of _ (by decide +kernel)) ggX4_tenths_X4_checkPlace
set_option maxRecDepth 20000 in
theorem ggX4_tenths_X4_shineAll : GoodIn wsX4_tenths wsX4_shineAll := goodIn_r _ [19, 1, 20, 21, 22, 23, 24, 25, 26, 27, 28, 29, 30, 31, 32, 33, 34, 35, 5, 36, 37, 38, 39, 40, 41, 9, 42, 43, 44, 45, 46, 47, 48, 49, 50, 51, 52, 53, 54, 55, 56, 57, 58, 59, 60, 61, 62, 63, 64, 65, 66, 67, 68, 69, 70, 71, 72, 73, 74, 75, 76, 77, 78, 79, 80, 81, 82, 83, 84, 85, 86, 87, 88, 89, 90, 91, 92, 93, 94, 95, 96, 97, 98, 99, 100, 101, 102, 103, 104, 105, 106, 107, 108, 109, 110, 111, 112, 113, 114, 115, 116, 117, 118, 119, 120, 121, 122, 123, 124, 125, 126, 127, 153, 154, 155, 156, 157, 158, 159, 160, 161, 162, 163, 164, 165, 166, 167, 168, 169, 170, 171] (by decide +kernel) (by decide +kernel)
set_option maxRecDepth 20000 in
theorem gX4_tenths_X4_shineAll : GoodIn wsX4_tenths (wsV RX4 114 RX4 yX4_shineAll wsX4_shineAll) := goodIn_app (goodIn_of _ (by decide +kernel)) ggX4_tenths_X4_shineAll
set_option maxRecDepth 20000 in
theorem ggX4_tenths_X2_inTenths : GoodIn wsX4_tenths wsX2_inTenths := goodIn_r _ [131, 132, 133, 134, 135, 25, 136, 137, 138, 139, 140, 141, 142, 143, 144, 27, 145, 28, 146, 147, 148, 149, 150, 151, 152, 159, 160] (by decide +kernel) (by decide +kernel)
set_option maxRecDepth 20000 in
theorem gX4_tenths_X2_inTenths : GoodIn wsX4_tenths (wsV RX4 175 RX2 yX2_inTenths wsX2_inTenths) := goodIn_app (goodIn_of _ (by decide +kernel)) ggX4_tenths_X2_inTenths
theorem dX4_tenths_0 : decode cX4_tenths 0 = .ok (.aload_n 0, 1) := by decide +kernel
theorem dX4_tenths_1 : decode cX4_tenths 1 = .ok (.iload_n 1, 1) := by decide +kernel
theorem dX4_tenths_2 : decode cX4_tenths 2 = .ok (.invokevirtual 126, 3) := by decide +kernel
theorem dX4_tenths_5 : decode cX4_tenths 5 = .ok (.iload_n 2, 1) := by decide +kernel
theorem dX4_tenths_6 : decode cX4_tenths 6 = .ok (.invokestatic 145, 3) := by decide +kernel
theorem dX4_tenths_9 : decode cX4_tenths 9 = .ok (.aload_n 0, 1) := by decide +kernel
theorem dX4_tenths_10 : decode cX4_tenths 10 = .ok (.iload_n 1, 1) := by decide +kernel
theorem dX4_tenths_11 : decode cX4_tenths 11 = .ok (.invokevirtual 114, 3) := by decide +kernel
theorem dX4_tenths_14 : decode cX4_tenths 14 = .ok (.aload_n 0, 1) := by decide +kernel
theorem dX4_tenths_15 : decode cX4_tenths 15 = .ok (.getfield 31, 3) := by decide +kernel
theorem dX4_tenths_18 : decode cX4_tenths 18 = .ok (.iload_n 2, 1) := by decide +kernel
theorem dX4_tenths_19 : decode cX4_tenths 19 = .ok (.invokevirtual 175, 3) := by decide +kernel
theorem dX4_tenths_22 : decode cX4_tenths 22 = .ok (.dreturn, 1) := by decide +kernel
set_option maxRecDepth 20000 in
theorem ggX4_loses_X4_partAt : GoodIn wsX4_loses wsX4_partAt := goodIn_r _ [9, 10, 11, 138, 139, 140, 141, 142, 143] (by decide +kernel) (by decide +kernel)
set_option maxRecDepth 20000 in
theorem gX4_loses_X4_partAt : GoodIn wsX4_loses (wsV RX4 87 RX4 yX4_partAt wsX4_partAt) := goodIn_app (goodIn_of _ (by decide +kernel)) ggX4_loses_X4_partAt
set_option maxRecDepth 20000 in
theorem ggX4_loses_X4_shineAll : GoodIn wsX4_loses wsX4_shineAll := goodIn_r _ [15, 4, 16, 17, 18, 19, 20, 21, 22, 23, 24, 25, 26, 27, 28, 29, 30, 31, 8, 32, 33, 34, 35, 36, 37, 10, 3, 38, 39, 40, 41, 42, 43, 44, 45, 46, 47, 48, 49, 50, 5, 6, 7, 9, 11, 51, 52, 53, 54, 55, 56, 57, 58, 59, 60, 61, 62, 63, 64, 65, 66, 67, 68, 69, 70, 71, 72, 73, 74, 75, 76, 77, 78, 79, 80, 81, 82, 83, 84, 85, 86, 87, 88, 89, 90, 91, 92, 93, 94, 95, 96, 97, 98, 99, 100, 101, 102, 103, 104, 105, 106, 107, 108, 109, 110, 111, 112, 113, 114, 115, 116, 117, 138, 139, 140, 141, 142, 143, 144, 145, 132, 133, 134, 135, 136, 137, 146, 147, 148, 149, 150] (by decide +kernel) (by decide +kernel)
set_option maxRecDepth 20000 in
theorem gX4_loses_X4_shineAll : GoodIn wsX4_loses (wsV RX4 114 RX4 yX4_shineAll wsX4_shineAll) := goodIn_app (goodIn_of _ (by decide +kernel)) ggX4_loses_X4_shineAll
set_option maxRecDepth 20000 in
theorem ggX4_loses_X2_sumOfWholes : GoodIn wsX4_loses wsX2_sumOfWholes := goodIn_r _ [121, 23, 122, 123, 21, 124, 144, 145] (by decide +kernel) (by decide +kernel)
set_option maxRecDepth 20000 in
theorem gX4_loses_X2_sumOfWholes : GoodIn wsX4_loses (wsV RX4 159 RX2 yX2_sumOfWholes wsX2_sumOfWholes) := goodIn_app (goodIn_of _ (by decide +kernel)) ggX4_loses_X2_sumOfWholes
set_option maxRecDepth 20000 in
theorem ggX4_loses_X1_lossFactor : GoodIn wsX4_loses wsX1_lossFactor := goodIn_r _ [128, 56, 129, 57, 130, 131, 132, 133, 134, 135, 136, 137] (by decide +kernel) (by decide +kernel)
set_option maxRecDepth 20000 in
theorem gX4_loses_X1_lossFactor : GoodIn wsX4_loses (wsV RX4 179 RX1 yX1_lossFactor wsX1_lossFactor) := goodIn_app (goodIn_of _ (by decide +kernel)) ggX4_loses_X1_lossFactor
theorem dX4_loses_0 : decode cX4_loses 0 = .ok (.aload_n 0, 1) := by decide +kernel
theorem dX4_loses_1 : decode cX4_loses 1 = .ok (.iload_n 1, 1) := by decide +kernel
theorem dX4_loses_2 : decode cX4_loses 2 = .ok (.invokevirtual 87, 3) := by decide +kernel
theorem dX4_loses_5 : decode cX4_loses 5 = .ok (.astore_n 2, 1) := by decide +kernel
theorem dX4_loses_6 : decode cX4_loses 6 = .ok (.aload_n 2, 1) := by decide +kernel
theorem dX4_loses_7 : decode cX4_loses 7 = .ok (.ifnonnull 13, 3) := by decide +kernel
theorem dX4_loses_10 : decode cX4_loses 10 = .ok (.new 59, 3) := by decide +kernel
theorem dX4_loses_13 : decode cX4_loses 13 = .ok (.dup, 1) := by decide +kernel
theorem dX4_loses_14 : decode cX4_loses 14 = .ok (.ldc 91, 2) := by decide +kernel
theorem dX4_loses_16 : decode cX4_loses 16 = .ok (.invokespecial 63, 3) := by decide +kernel
theorem dX4_loses_19 : decode cX4_loses 19 = .ok (.athrow, 1) := by decide +kernel
theorem dX4_loses_20 : decode cX4_loses 20 = .ok (.aload_n 2, 1) := by decide +kernel
theorem dX4_loses_21 : decode cX4_loses 21 = .ok (.getfield 101, 3) := by decide +kernel
theorem dX4_loses_24 : decode cX4_loses 24 = .ok (.ifCond .ne 5, 3) := by decide +kernel
theorem dX4_loses_27 : decode cX4_loses 27 = .ok (.lconst 0, 1) := by decide +kernel
theorem dX4_loses_28 : decode cX4_loses 28 = .ok (.lreturn, 1) := by decide +kernel
theorem dX4_loses_29 : decode cX4_loses 29 = .ok (.aload_n 0, 1) := by decide +kernel
theorem dX4_loses_30 : decode cX4_loses 30 = .ok (.iload_n 1, 1) := by decide +kernel
theorem dX4_loses_31 : decode cX4_loses 31 = .ok (.iconst 1, 1) := by decide +kernel
theorem dX4_loses_32 : decode cX4_loses 32 = .ok (.isub, 1) := by decide +kernel
theorem dX4_loses_33 : decode cX4_loses 33 = .ok (.invokevirtual 114, 3) := by decide +kernel
theorem dX4_loses_36 : decode cX4_loses 36 = .ok (.aload_n 0, 1) := by decide +kernel
theorem dX4_loses_37 : decode cX4_loses 37 = .ok (.getfield 31, 3) := by decide +kernel
theorem dX4_loses_40 : decode cX4_loses 40 = .ok (.invokevirtual 159, 3) := by decide +kernel
theorem dX4_loses_43 : decode cX4_loses 43 = .ok (.lstore_n 3, 1) := by decide +kernel
theorem dX4_loses_44 : decode cX4_loses 44 = .ok (.aload_n 0, 1) := by decide +kernel
theorem dX4_loses_45 : decode cX4_loses 45 = .ok (.iload_n 1, 1) := by decide +kernel
theorem dX4_loses_46 : decode cX4_loses 46 = .ok (.invokevirtual 114, 3) := by decide +kernel
theorem dX4_loses_49 : decode cX4_loses 49 = .ok (.aload_n 2, 1) := by decide +kernel
theorem dX4_loses_50 : decode cX4_loses 50 = .ok (.invokevirtual 179, 3) := by decide +kernel
theorem dX4_loses_53 : decode cX4_loses 53 = .ok (.lload_n 3, 1) := by decide +kernel
theorem dX4_loses_54 : decode cX4_loses 54 = .ok (.lmul, 1) := by decide +kernel
theorem dX4_loses_55 : decode cX4_loses 55 = .ok (.aload_n 0, 1) := by decide +kernel
theorem dX4_loses_56 : decode cX4_loses 56 = .ok (.getfield 31, 3) := by decide +kernel
theorem dX4_loses_59 : decode cX4_loses 59 = .ok (.invokevirtual 159, 3) := by decide +kernel
theorem dX4_loses_62 : decode cX4_loses 62 = .ok (.lsub, 1) := by decide +kernel
theorem dX4_loses_63 : decode cX4_loses 63 = .ok (.lreturn, 1) := by decide +kernel
set_option maxRecDepth 20000 in
theorem ggX4_ofPart_X4_partAt : GoodIn wsX4_ofPart wsX4_partAt := goodIn_r _ [14, 15, 16, 29, 30, 31, 32, 33, 34] (by decide +kernel) (by decide +kernel)
set_option maxRecDepth 20000 in
theorem gX4_ofPart_X4_partAt : GoodIn wsX4_ofPart (wsV RX4 87 RX4 yX4_partAt wsX4_partAt) := goodIn_app (goodIn_of _ (by decide +kernel)) ggX4_ofPart_X4_partAt
set_option maxRecDepth 20000 in
theorem ggX4_ofPart_X1_sumOfExposures : GoodIn wsX4_ofPart wsX1_sumOfExposures := goodIn_r _ [21, 22, 23, 24, 25, 26, 27, 28] (by decide +kernel) (by decide +kernel)
set_option maxRecDepth 20000 in
theorem gX4_ofPart_X1_sumOfExposures : GoodIn wsX4_ofPart (wsV RX4 122 RX1 yX1_sumOfExposures wsX1_sumOfExposures) := goodIn_app (goodIn_of _ (by decide +kernel)) ggX4_ofPart_X1_sumOfExposures
theorem dX4_ofPart_0 : decode cX4_ofPart 0 = .ok (.aload_n 0, 1) := by decide +kernel
theorem dX4_ofPart_1 : decode cX4_ofPart 1 = .ok (.iload_n 1, 1) := by decide +kernel
theorem dX4_ofPart_2 : decode cX4_ofPart 2 = .ok (.invokevirtual 87, 3) := by decide +kernel
theorem dX4_ofPart_5 : decode cX4_ofPart 5 = .ok (.astore_n 3, 1) := by decide +kernel
theorem dX4_ofPart_6 : decode cX4_ofPart 6 = .ok (.aload_n 3, 1) := by decide +kernel
theorem dX4_ofPart_7 : decode cX4_ofPart 7 = .ok (.ifnonnull 13, 3) := by decide +kernel
theorem dX4_ofPart_10 : decode cX4_ofPart 10 = .ok (.new 59, 3) := by decide +kernel
theorem dX4_ofPart_13 : decode cX4_ofPart 13 = .ok (.dup, 1) := by decide +kernel
theorem dX4_ofPart_14 : decode cX4_ofPart 14 = .ok (.ldc 91, 2) := by decide +kernel
theorem dX4_ofPart_16 : decode cX4_ofPart 16 = .ok (.invokespecial 63, 3) := by decide +kernel
theorem dX4_ofPart_19 : decode cX4_ofPart 19 = .ok (.athrow, 1) := by decide +kernel
theorem dX4_ofPart_20 : decode cX4_ofPart 20 = .ok (.iload_n 2, 1) := by decide +kernel
theorem dX4_ofPart_21 : decode cX4_ofPart 21 = .ok (.tableswitch 77 0 5 #[39, 44, 49, 62, 67, 72], 39) := by decide +kernel
theorem dX4_ofPart_60 : decode cX4_ofPart 60 = .ok (.aload_n 3, 1) := by decide +kernel
theorem dX4_ofPart_61 : decode cX4_ofPart 61 = .ok (.getfield 93, 3) := by decide +kernel
theorem dX4_ofPart_64 : decode cX4_ofPart 64 = .ok (.ireturn, 1) := by decide +kernel
theorem dX4_ofPart_65 : decode cX4_ofPart 65 = .ok (.aload_n 3, 1) := by decide +kernel
theorem dX4_ofPart_66 : decode cX4_ofPart 66 = .ok (.getfield 98, 3) := by decide +kernel
theorem dX4_ofPart_69 : decode cX4_ofPart 69 = .ok (.ireturn, 1) := by decide +kernel
theorem dX4_ofPart_70 : decode cX4_ofPart 70 = .ok (.aload_n 3, 1) := by decide +kernel
theorem dX4_ofPart_71 : decode cX4_ofPart 71 = .ok (.getfield 101, 3) := by decide +kernel
theorem dX4_ofPart_74 : decode cX4_ofPart 74 = .ok (.ifCond .eq 7, 3) := by decide +kernel
theorem dX4_ofPart_77 : decode cX4_ofPart 77 = .ok (.iconst 1, 1) := by decide +kernel
theorem dX4_ofPart_78 : decode cX4_ofPart 78 = .ok (.goto 4, 3) := by decide +kernel
theorem dX4_ofPart_81 : decode cX4_ofPart 81 = .ok (.iconst 0, 1) := by decide +kernel
theorem dX4_ofPart_82 : decode cX4_ofPart 82 = .ok (.ireturn, 1) := by decide +kernel
theorem dX4_ofPart_83 : decode cX4_ofPart 83 = .ok (.aload_n 3, 1) := by decide +kernel
theorem dX4_ofPart_84 : decode cX4_ofPart 84 = .ok (.getfield 107, 3) := by decide +kernel
theorem dX4_ofPart_87 : decode cX4_ofPart 87 = .ok (.ireturn, 1) := by decide +kernel
theorem dX4_ofPart_88 : decode cX4_ofPart 88 = .ok (.aload_n 3, 1) := by decide +kernel
theorem dX4_ofPart_89 : decode cX4_ofPart 89 = .ok (.invokevirtual 122, 3) := by decide +kernel
theorem dX4_ofPart_92 : decode cX4_ofPart 92 = .ok (.ireturn, 1) := by decide +kernel
theorem dX4_ofPart_93 : decode cX4_ofPart 93 = .ok (.aload_n 3, 1) := by decide +kernel
theorem dX4_ofPart_94 : decode cX4_ofPart 94 = .ok (.getfield 182, 3) := by decide +kernel
theorem dX4_ofPart_97 : decode cX4_ofPart 97 = .ok (.ireturn, 1) := by decide +kernel
theorem dX4_ofPart_98 : decode cX4_ofPart 98 = .ok (.new 77, 3) := by decide +kernel
theorem dX4_ofPart_101 : decode cX4_ofPart 101 = .ok (.dup, 1) := by decide +kernel
theorem dX4_ofPart_102 : decode cX4_ofPart 102 = .ok (.ldc 185, 2) := by decide +kernel
theorem dX4_ofPart_104 : decode cX4_ofPart 104 = .ok (.invokespecial 81, 3) := by decide +kernel
theorem dX4_ofPart_107 : decode cX4_ofPart 107 = .ok (.athrow, 1) := by decide +kernel
set_option maxRecDepth 20000 in
theorem ggX4_exposure_X4_partAt : GoodIn wsX4_exposure wsX4_partAt := goodIn_r _ [8, 9, 10, 23, 24, 25, 26, 27, 28] (by decide +kernel) (by decide +kernel)
set_option maxRecDepth 20000 in
theorem gX4_exposure_X4_partAt : GoodIn wsX4_exposure (wsV RX4 87 RX4 yX4_partAt wsX4_partAt) := goodIn_app (goodIn_of _ (by decide +kernel)) ggX4_exposure_X4_partAt
set_option maxRecDepth 20000 in
theorem ggX4_exposure_X4_checkPlace : GoodIn wsX4_exposure wsX4_checkPlace := goodIn_ca (goodIn_r _ [13, 1, 2, 14, 15, 7, 16] (by decide +kernel) (by decide +kernel)) (goodIn_sub (fun _ h => List.mem_cons_of_mem _ (List.mem_append_right _ h)) (by decide +kernel))
set_option maxRecDepth 20000 in
theorem gX4_exposure_X4_checkPlace : GoodIn wsX4_exposure (va_wsS RX4 145 yX4_checkPlace wsX4_checkPlace) := goodIn_app (goodIn_of _ (by decide +kernel)) ggX4_exposure_X4_checkPlace
theorem dX4_exposure_0 : decode cX4_exposure 0 = .ok (.aload_n 0, 1) := by decide +kernel
theorem dX4_exposure_1 : decode cX4_exposure 1 = .ok (.iload_n 1, 1) := by decide +kernel
theorem dX4_exposure_2 : decode cX4_exposure 2 = .ok (.invokevirtual 87, 3) := by decide +kernel
theorem dX4_exposure_5 : decode cX4_exposure 5 = .ok (.astore_n 3, 1) := by decide +kernel
theorem dX4_exposure_6 : decode cX4_exposure 6 = .ok (.aload_n 3, 1) := by decide +kernel
theorem dX4_exposure_7 : decode cX4_exposure 7 = .ok (.ifnonnull 13, 3) := by decide +kernel
theorem dX4_exposure_10 : decode cX4_exposure 10 = .ok (.new 59, 3) := by decide +kernel
theorem dX4_exposure_13 : decode cX4_exposure 13 = .ok (.dup, 1) := by decide +kernel
theorem dX4_exposure_14 : decode cX4_exposure 14 = .ok (.ldc 91, 2) := by decide +kernel
theorem dX4_exposure_16 : decode cX4_exposure 16 = .ok (.invokespecial 63, 3) := by decide +kernel
theorem dX4_exposure_19 : decode cX4_exposure 19 = .ok (.athrow, 1) := by decide +kernel
theorem dX4_exposure_20 : decode cX4_exposure 20 = .ok (.iload_n 2, 1) := by decide +kernel
theorem dX4_exposure_21 : decode cX4_exposure 21 = .ok (.invokestatic 145, 3) := by decide +kernel
theorem dX4_exposure_24 : decode cX4_exposure 24 = .ok (.aload_n 3, 1) := by decide +kernel
theorem dX4_exposure_25 : decode cX4_exposure 25 = .ok (.getfield 187, 3) := by decide +kernel
theorem dX4_exposure_28 : decode cX4_exposure 28 = .ok (.iload_n 2, 1) := by decide +kernel
theorem dX4_exposure_29 : decode cX4_exposure 29 = .ok (.iaload, 1) := by decide +kernel
theorem dX4_exposure_30 : decode cX4_exposure 30 = .ok (.ireturn, 1) := by decide +kernel
set_option maxRecDepth 20000 in
theorem ggX4_ofSource_X4_sourceAt : GoodIn wsX4_ofSource wsX4_sourceAt := goodIn_r _ [12, 13, 14, 18, 19, 20, 21, 22, 23] (by decide +kernel) (by decide +kernel)
set_option maxRecDepth 20000 in
theorem gX4_ofSource_X4_sourceAt : GoodIn wsX4_ofSource (wsV RX4 55 RX4 yX4_sourceAt wsX4_sourceAt) := goodIn_app (goodIn_of _ (by decide +kernel)) ggX4_ofSource_X4_sourceAt
theorem dX4_ofSource_0 : decode cX4_ofSource 0 = .ok (.aload_n 0, 1) := by decide +kernel
theorem dX4_ofSource_1 : decode cX4_ofSource 1 = .ok (.iload_n 1, 1) := by decide +kernel
theorem dX4_ofSource_2 : decode cX4_ofSource 2 = .ok (.invokevirtual 55, 3) := by decide +kernel
theorem dX4_ofSource_5 : decode cX4_ofSource 5 = .ok (.astore_n 3, 1) := by decide +kernel
theorem dX4_ofSource_6 : decode cX4_ofSource 6 = .ok (.aload_n 3, 1) := by decide +kernel
theorem dX4_ofSource_7 : decode cX4_ofSource 7 = .ok (.ifnonnull 13, 3) := by decide +kernel
theorem dX4_ofSource_10 : decode cX4_ofSource 10 = .ok (.new 59, 3) := by decide +kernel
theorem dX4_ofSource_13 : decode cX4_ofSource 13 = .ok (.dup, 1) := by decide +kernel
theorem dX4_ofSource_14 : decode cX4_ofSource 14 = .ok (.ldc 61, 2) := by decide +kernel
theorem dX4_ofSource_16 : decode cX4_ofSource 16 = .ok (.invokespecial 63, 3) := by decide +kernel
theorem dX4_ofSource_19 : decode cX4_ofSource 19 = .ok (.athrow, 1) := by decide +kernel
theorem dX4_ofSource_20 : decode cX4_ofSource 20 = .ok (.iload_n 2, 1) := by decide +kernel
theorem dX4_ofSource_21 : decode cX4_ofSource 21 = .ok (.tableswitch 42 0 2 #[27, 32, 37], 27) := by decide +kernel
theorem dX4_ofSource_48 : decode cX4_ofSource 48 = .ok (.aload_n 3, 1) := by decide +kernel
theorem dX4_ofSource_49 : decode cX4_ofSource 49 = .ok (.getfield 67, 3) := by decide +kernel
theorem dX4_ofSource_52 : decode cX4_ofSource 52 = .ok (.ireturn, 1) := by decide +kernel
theorem dX4_ofSource_53 : decode cX4_ofSource 53 = .ok (.aload_n 3, 1) := by decide +kernel
theorem dX4_ofSource_54 : decode cX4_ofSource 54 = .ok (.getfield 70, 3) := by decide +kernel
theorem dX4_ofSource_57 : decode cX4_ofSource 57 = .ok (.ireturn, 1) := by decide +kernel
theorem dX4_ofSource_58 : decode cX4_ofSource 58 = .ok (.aload_n 3, 1) := by decide +kernel
theorem dX4_ofSource_59 : decode cX4_ofSource 59 = .ok (.getfield 64, 3) := by decide +kernel
theorem dX4_ofSource_62 : decode cX4_ofSource 62 = .ok (.ireturn, 1) := by decide +kernel
theorem dX4_ofSource_63 : decode cX4_ofSource 63 = .ok (.new 77, 3) := by decide +kernel
theorem dX4_ofSource_66 : decode cX4_ofSource 66 = .ok (.dup, 1) := by decide +kernel
theorem dX4_ofSource_67 : decode cX4_ofSource 67 = .ok (.ldc 191, 2) := by decide +kernel
theorem dX4_ofSource_69 : decode cX4_ofSource 69 = .ok (.invokespecial 81, 3) := by decide +kernel
theorem dX4_ofSource_72 : decode cX4_ofSource 72 = .ok (.athrow, 1) := by decide +kernel
set_option maxRecDepth 20000 in
theorem ggX4_many_X4_countPartsIn : GoodIn wsX4_many wsX4_countPartsIn := goodIn_r _ [9, 4, 10, 11, 12, 13, 8, 14, 15, 34, 35, 36, 37, 38, 39, 40, 41, 42, 43, 44, 45] (by decide +kernel) (by decide +kernel)
set_option maxRecDepth 20000 in
theorem gX4_many_X4_countPartsIn : GoodIn wsX4_many (wsV RX4 193 RX4 yX4_countPartsIn wsX4_countPartsIn) := goodIn_app (goodIn_of _ (by decide +kernel)) ggX4_many_X4_countPartsIn
set_option maxRecDepth 20000 in
theorem ggX4_many_X4_firstThatCannotBeUndone : GoodIn wsX4_many wsX4_firstThatCannotBeUndone := goodIn_r _ [19, 4, 10, 11, 12, 13, 8, 14, 15, 20, 21, 22, 23, 24, 25, 26, 27, 28, 34, 35, 36, 37, 38, 39, 40, 41, 42, 43, 44, 45] (by decide +kernel) (by decide +kernel)
set_option maxRecDepth 20000 in
theorem gX4_many_X4_firstThatCannotBeUndone : GoodIn wsX4_many (wsV RX4 196 RX4 yX4_firstThatCannotBeUndone wsX4_firstThatCannotBeUndone) := goodIn_app (goodIn_of _ (by decide +kernel)) ggX4_many_X4_firstThatCannotBeUndone
set_option maxRecDepth 20000 in
theorem ggX4_many_X4_countExposuresEver : GoodIn wsX4_many wsX4_countExposuresEver := goodIn_r _ [32, 4, 33, 11, 12, 13, 8, 14, 15, 34, 35, 36, 37, 38, 39, 40, 41, 42, 43, 44, 45] (by decide +kernel) (by decide +kernel)
set_option maxRecDepth 20000 in
theorem gX4_many_X4_countExposuresEver : GoodIn wsX4_many (wsV RX4 199 RX4 yX4_countExposuresEver wsX4_countExposuresEver) := goodIn_app (goodIn_of _ (by decide +kernel)) ggX4_many_X4_countExposuresEver
theorem dX4_many_0 : decode cX4_many 0 = .ok (.iload_n 1, 1) := by decide +kernel
theorem dX4_many_1 : decode cX4_many 1 = .ok (.tableswitch 60 0 4 #[35, 40, 45, 50, 55], 35) := by decide +kernel
theorem dX4_many_36 : decode cX4_many 36 = .ok (.aload_n 0, 1) := by decide +kernel
theorem dX4_many_37 : decode cX4_many 37 = .ok (.getfield 35, 3) := by decide +kernel
theorem dX4_many_40 : decode cX4_many 40 = .ok (.ireturn, 1) := by decide +kernel
theorem dX4_many_41 : decode cX4_many 41 = .ok (.aload_n 0, 1) := by decide +kernel
theorem dX4_many_42 : decode cX4_many 42 = .ok (.getfield 39, 3) := by decide +kernel
theorem dX4_many_45 : decode cX4_many 45 = .ok (.ireturn, 1) := by decide +kernel
theorem dX4_many_46 : decode cX4_many 46 = .ok (.aload_n 0, 1) := by decide +kernel
theorem dX4_many_47 : decode cX4_many 47 = .ok (.invokevirtual 193, 3) := by decide +kernel
theorem dX4_many_50 : decode cX4_many 50 = .ok (.ireturn, 1) := by decide +kernel
theorem dX4_many_51 : decode cX4_many 51 = .ok (.aload_n 0, 1) := by decide +kernel
theorem dX4_many_52 : decode cX4_many 52 = .ok (.invokevirtual 196, 3) := by decide +kernel
theorem dX4_many_55 : decode cX4_many 55 = .ok (.ireturn, 1) := by decide +kernel
theorem dX4_many_56 : decode cX4_many 56 = .ok (.aload_n 0, 1) := by decide +kernel
theorem dX4_many_57 : decode cX4_many 57 = .ok (.invokevirtual 199, 3) := by decide +kernel
theorem dX4_many_60 : decode cX4_many 60 = .ok (.ireturn, 1) := by decide +kernel
theorem dX4_many_61 : decode cX4_many 61 = .ok (.new 77, 3) := by decide +kernel
theorem dX4_many_64 : decode cX4_many 64 = .ok (.dup, 1) := by decide +kernel
theorem dX4_many_65 : decode cX4_many 65 = .ok (.ldc 202, 2) := by decide +kernel
theorem dX4_many_67 : decode cX4_many 67 = .ok (.invokespecial 81, 3) := by decide +kernel
theorem dX4_many_70 : decode cX4_many 70 = .ok (.athrow, 1) := by decide +kernel
set_option maxRecDepth 20000 in
theorem ggX4_without_X4_partAt : GoodIn wsX4_without wsX4_partAt := goodIn_r _ [11, 4, 12, 131, 132, 133, 134, 135, 136] (by decide +kernel) (by decide +kernel)
set_option maxRecDepth 20000 in
theorem gX4_without_X4_partAt : GoodIn wsX4_without (wsV RX4 87 RX4 yX4_partAt wsX4_partAt) := goodIn_app (goodIn_of _ (by decide +kernel)) ggX4_without_X4_partAt
set_option maxRecDepth 20000 in
theorem ggX4_without_X4_checkPlace : GoodIn wsX4_without wsX4_checkPlace := goodIn_ca (goodIn_r _ [15, 1, 2, 16, 17, 10, 18] (by decide +kernel) (by decide +kernel)) (goodIn_sub (fun _ h => List.mem_cons_of_mem _ (List.mem_append_right _ h)) (by decide +kernel))
set_option maxRecDepth 20000 in
theorem gX4_without_X4_checkPlace : GoodIn wsX4_without (va_wsS RX4 145 yX4_checkPlace wsX4_checkPlace) := goodIn_app (goodIn_of _ (by decide +kernel)) ggX4_without_X4_checkPlace
set_option maxRecDepth 20000 in
theorem ggX4_without_X4_shineAll : GoodIn wsX4_without wsX4_shineAll := goodIn_r _ [22, 5, 23, 24, 25, 26, 27, 28, 29, 30, 31, 32, 33, 34, 35, 36, 37, 38, 10, 39, 40, 41, 42, 43, 44, 4, 3, 45, 46, 47, 48, 49, 50, 51, 52, 53, 54, 55, 56, 57, 7, 8, 9, 11, 12, 58, 59, 60, 61, 62, 63, 64, 65, 66, 67, 68, 69, 70, 71, 72, 73, 74, 75, 76, 77, 78, 79, 80, 81, 82, 83, 84, 85, 86, 87, 88, 89, 90, 91, 92, 93, 94, 95, 96, 97, 98, 99, 100, 101, 102, 103, 104, 105, 106, 107, 108, 109, 110, 111, 112, 113, 114, 115, 116, 117, 118, 119, 120, 121, 122, 123, 124, 131, 132, 133, 134, 135, 136, 137, 138, 125, 126, 127, 128, 129, 130, 139, 140, 141, 142, 143] (by decide +kernel) (by decide +kernel)
set_option maxRecDepth 20000 in
theorem gX4_without_X4_shineAll : GoodIn wsX4_without (wsV RX4 114 RX4 yX4_shineAll wsX4_shineAll) := goodIn_app (goodIn_of _ (by decide +kernel)) ggX4_without_X4_shineAll
theorem dX4_without_0 : decode cX4_without 0 = .ok (.aload_n 0, 1) := by decide +kernel
theorem dX4_without_1 : decode cX4_without 1 = .ok (.iload_n 1, 1) := by decide +kernel
theorem dX4_without_2 : decode cX4_without 2 = .ok (.invokevirtual 87, 3) := by decide +kernel
theorem dX4_without_5 : decode cX4_without 5 = .ok (.astore_n 3, 1) := by decide +kernel
theorem dX4_without_6 : decode cX4_without 6 = .ok (.aload_n 3, 1) := by decide +kernel
theorem dX4_without_7 : decode cX4_without 7 = .ok (.ifnonnull 13, 3) := by decide +kernel
theorem dX4_without_10 : decode cX4_without 10 = .ok (.new 59, 3) := by decide +kernel
theorem dX4_without_13 : decode cX4_without 13 = .ok (.dup, 1) := by decide +kernel
theorem dX4_without_14 : decode cX4_without 14 = .ok (.ldc 91, 2) := by decide +kernel
theorem dX4_without_16 : decode cX4_without 16 = .ok (.invokespecial 63, 3) := by decide +kernel
theorem dX4_without_19 : decode cX4_without 19 = .ok (.athrow, 1) := by decide +kernel
theorem dX4_without_20 : decode cX4_without 20 = .ok (.iload_n 2, 1) := by decide +kernel
theorem dX4_without_21 : decode cX4_without 21 = .ok (.invokestatic 145, 3) := by decide +kernel
theorem dX4_without_24 : decode cX4_without 24 = .ok (.aload_n 3, 1) := by decide +kernel
theorem dX4_without_25 : decode cX4_without 25 = .ok (.getfield 101, 3) := by decide +kernel
theorem dX4_without_28 : decode cX4_without 28 = .ok (.istore 4, 2) := by decide +kernel
theorem dX4_without_30 : decode cX4_without 30 = .ok (.aload_n 3, 1) := by decide +kernel
theorem dX4_without_31 : decode cX4_without 31 = .ok (.iload 4, 2) := by decide +kernel
theorem dX4_without_33 : decode cX4_without 33 = .ok (.ifCond .ne 7, 3) := by decide +kernel
theorem dX4_without_36 : decode cX4_without 36 = .ok (.iconst 1, 1) := by decide +kernel
theorem dX4_without_37 : decode cX4_without 37 = .ok (.goto 4, 3) := by decide +kernel
theorem dX4_without_40 : decode cX4_without 40 = .ok (.iconst 0, 1) := by decide +kernel
theorem dX4_without_41 : decode cX4_without 41 = .ok (.putfield 101, 3) := by decide +kernel
theorem dX4_without_44 : decode cX4_without 44 = .ok (.aload_n 0, 1) := by decide +kernel
theorem dX4_without_45 : decode cX4_without 45 = .ok (.aload_n 0, 1) := by decide +kernel
theorem dX4_without_46 : decode cX4_without 46 = .ok (.getfield 39, 3) := by decide +kernel
theorem dX4_without_49 : decode cX4_without 49 = .ok (.iconst 1, 1) := by decide +kernel
theorem dX4_without_50 : decode cX4_without 50 = .ok (.isub, 1) := by decide +kernel
theorem dX4_without_51 : decode cX4_without 51 = .ok (.invokevirtual 114, 3) := by decide +kernel
theorem dX4_without_54 : decode cX4_without 54 = .ok (.aload_n 3, 1) := by decide +kernel
theorem dX4_without_55 : decode cX4_without 55 = .ok (.iload 4, 2) := by decide +kernel
theorem dX4_without_57 : decode cX4_without 57 = .ok (.putfield 101, 3) := by decide +kernel
theorem dX4_without_60 : decode cX4_without 60 = .ok (.aload_n 0, 1) := by decide +kernel
theorem dX4_without_61 : decode cX4_without 61 = .ok (.getfield 31, 3) := by decide +kernel
theorem dX4_without_64 : decode cX4_without 64 = .ok (.getfield 148, 3) := by decide +kernel
theorem dX4_without_67 : decode cX4_without 67 = .ok (.iload_n 2, 1) := by decide +kernel
theorem dX4_without_68 : decode cX4_without 68 = .ok (.laload, 1) := by decide +kernel
theorem dX4_without_69 : decode cX4_without 69 = .ok (.lreturn, 1) := by decide +kernel
set_option maxRecDepth 20000 in
theorem ggX4_best_X4_partAt : GoodIn wsX4_best wsX4_partAt := goodIn_r _ [11, 5, 12, 149, 150, 151, 152, 153, 154] (by decide +kernel) (by decide +kernel)
set_option maxRecDepth 20000 in
theorem gX4_best_X4_partAt : GoodIn wsX4_best (wsV RX4 87 RX4 yX4_partAt wsX4_partAt) := goodIn_app (goodIn_of _ (by decide +kernel)) ggX4_best_X4_partAt
set_option maxRecDepth 20000 in
theorem ggX4_best_X4_checkPlace : GoodIn wsX4_best wsX4_checkPlace := goodIn_ca (goodIn_r _ [15, 1, 2, 16, 17, 10, 18] (by decide +kernel) (by decide +kernel)) (goodIn_sub (fun _ h => List.mem_cons_of_mem _ (List.mem_append_right _ h)) (by decide +kernel))
set_option maxRecDepth 20000 in
theorem gX4_best_X4_checkPlace : GoodIn wsX4_best (va_wsS RX4 145 yX4_checkPlace wsX4_checkPlace) := goodIn_app (goodIn_of _ (by decide +kernel)) ggX4_best_X4_checkPlace
set_option maxRecDepth 20000 in
theorem ggX4_best_X1_canBeTuned : GoodIn wsX4_best wsX1_canBeTuned := goodIn_r _ [23, 24, 143, 144, 145, 146, 147, 148] (by decide +kernel) (by decide +kernel)
set_option maxRecDepth 20000 in
theorem gX4_best_X1_canBeTuned : GoodIn wsX4_best (wsV RX4 204 RX1 yX1_canBeTuned wsX1_canBeTuned) := goodIn_app (goodIn_of _ (by decide +kernel)) ggX4_best_X1_canBeTuned
set_option maxRecDepth 20000 in
theorem ggX4_best_X4_mostNumber : GoodIn wsX4_best wsX4_mostNumber := goodIn_r _ [27, 28] (by decide +kernel) (by decide +kernel)
set_option maxRecDepth 20000 in
theorem gX4_best_X4_mostNumber : GoodIn wsX4_best (va_wsS RX4 208 yX4_mostNumber wsX4_mostNumber) := goodIn_app (goodIn_of _ (by decide +kernel)) ggX4_best_X4_mostNumber
set_option maxRecDepth 20000 in
theorem ggX4_best_X4_leastNumber : GoodIn wsX4_best wsX4_leastNumber := goodIn_r _ [31, 32] (by decide +kernel) (by decide +kernel)
set_option maxRecDepth 20000 in
theorem gX4_best_X4_leastNumber : GoodIn wsX4_best (va_wsS RX4 212 yX4_leastNumber wsX4_leastNumber) := goodIn_app (goodIn_of _ (by decide +kernel)) ggX4_best_X4_leastNumber
set_option maxRecDepth 20000 in
theorem ggX4_best_X4_shineAll : GoodIn wsX4_best wsX4_shineAll := goodIn_r _ [36, 6, 37, 38, 39, 40, 41, 42, 43, 44, 45, 46, 47, 48, 49, 50, 51, 52, 10, 53, 54, 55, 56, 57, 58, 5, 59, 60, 61, 62, 63, 64, 65, 66, 67, 68, 69, 70, 71, 72, 7, 8, 9, 11, 12, 73, 74, 75, 22, 76, 24, 77, 78, 79, 80, 81, 82, 83, 84, 85, 86, 87, 88, 89, 90, 91, 92, 93, 94, 95, 96, 97, 98, 99, 100, 101, 102, 103, 104, 105, 106, 107, 108, 109, 110, 111, 112, 113, 114, 115, 116, 117, 118, 119, 120, 121, 122, 123, 124, 125, 126, 127, 128, 129, 130, 131, 132, 133, 134, 135, 136, 137, 149, 150, 151, 152, 153, 154, 155, 156, 143, 144, 145, 146, 147, 148, 157, 158, 159, 160, 161] (by decide +kernel) (by decide +kernel)
set_option maxRecDepth 20000 in
theorem gX4_best_X4_shineAll : GoodIn wsX4_best (wsV RX4 114 RX4 yX4_shineAll wsX4_shineAll) := goodIn_app (goodIn_of _ (by decide +kernel)) ggX4_best_X4_shineAll
set_option maxRecDepth 20000 in
theorem ggX4_best_X2_valueAt : GoodIn wsX4_best wsX2_valueAt := goodIn_r _ [141, 44, 142, 45, 155, 156] (by decide +kernel) (by decide +kernel)
set_option maxRecDepth 20000 in
theorem gX4_best_X2_valueAt : GoodIn wsX4_best (wsV RX4 215 RX2 yX2_valueAt wsX2_valueAt) := goodIn_app (goodIn_of _ (by decide +kernel)) ggX4_best_X2_valueAt
theorem dX4_best_0 : decode cX4_best 0 = .ok (.aload_n 0, 1) := by decide +kernel
theorem dX4_best_1 : decode cX4_best 1 = .ok (.iload_n 1, 1) := by decide +kernel
theorem dX4_best_2 : decode cX4_best 2 = .ok (.invokevirtual 87, 3) := by decide +kernel
theorem dX4_best_5 : decode cX4_best 5 = .ok (.astore_n 3, 1) := by decide +kernel
theorem dX4_best_6 : decode cX4_best 6 = .ok (.aload_n 3, 1) := by decide +kernel
theorem dX4_best_7 : decode cX4_best 7 = .ok (.ifnonnull 13, 3) := by decide +kernel
theorem dX4_best_10 : decode cX4_best 10 = .ok (.new 59, 3) := by decide +kernel
theorem dX4_best_13 : decode cX4_best 13 = .ok (.dup, 1) := by decide +kernel
theorem dX4_best_14 : decode cX4_best 14 = .ok (.ldc 91, 2) := by decide +kernel
theorem dX4_best_16 : decode cX4_best 16 = .ok (.invokespecial 63, 3) := by decide +kernel
theorem dX4_best_19 : decode cX4_best 19 = .ok (.athrow, 1) := by decide +kernel
theorem dX4_best_20 : decode cX4_best 20 = .ok (.iload_n 2, 1) := by decide +kernel
theorem dX4_best_21 : decode cX4_best 21 = .ok (.invokestatic 145, 3) := by decide +kernel
theorem dX4_best_24 : decode cX4_best 24 = .ok (.aload_n 3, 1) := by decide +kernel
theorem dX4_best_25 : decode cX4_best 25 = .ok (.invokevirtual 204, 3) := by decide +kernel
theorem dX4_best_28 : decode cX4_best 28 = .ok (.ifCond .ne 5, 3) := by decide +kernel
theorem dX4_best_31 : decode cX4_best 31 = .ok (.iconst (-1), 1) := by decide +kernel
theorem dX4_best_32 : decode cX4_best 32 = .ok (.ireturn, 1) := by decide +kernel
theorem dX4_best_33 : decode cX4_best 33 = .ok (.aload_n 3, 1) := by decide +kernel
theorem dX4_best_34 : decode cX4_best 34 = .ok (.getfield 98, 3) := by decide +kernel
theorem dX4_best_37 : decode cX4_best 37 = .ok (.istore 4, 2) := by decide +kernel
theorem dX4_best_39 : decode cX4_best 39 = .ok (.iconst (-1), 1) := by decide +kernel
theorem dX4_best_40 : decode cX4_best 40 = .ok (.istore 5, 2) := by decide +kernel
theorem dX4_best_42 : decode cX4_best 42 = .ok (.dconst 0, 1) := by decide +kernel
theorem dX4_best_43 : decode cX4_best 43 = .ok (.dstore 6, 2) := by decide +kernel
theorem dX4_best_45 : decode cX4_best 45 = .ok (.aload_n 3, 1) := by decide +kernel
theorem dX4_best_46 : decode cX4_best 46 = .ok (.getfield 93, 3) := by decide +kernel
theorem dX4_best_49 : decode cX4_best 49 = .ok (.invokestatic 208, 3) := by decide +kernel
theorem dX4_best_52 : decode cX4_best 52 = .ok (.istore 8, 2) := by decide +kernel
theorem dX4_best_54 : decode cX4_best 54 = .ok (.aload_n 3, 1) := by decide +kernel
theorem dX4_best_55 : decode cX4_best 55 = .ok (.getfield 93, 3) := by decide +kernel
theorem dX4_best_58 : decode cX4_best 58 = .ok (.invokestatic 212, 3) := by decide +kernel
theorem dX4_best_61 : decode cX4_best 61 = .ok (.istore 9, 2) := by decide +kernel
theorem dX4_best_63 : decode cX4_best 63 = .ok (.iload 9, 2) := by decide +kernel
theorem dX4_best_65 : decode cX4_best 65 = .ok (.iload 8, 2) := by decide +kernel
theorem dX4_best_67 : decode cX4_best 67 = .ok (.if_icmp .gt 57, 3) := by decide +kernel
theorem dX4_best_70 : decode cX4_best 70 = .ok (.aload_n 3, 1) := by decide +kernel
theorem dX4_best_71 : decode cX4_best 71 = .ok (.iload 9, 2) := by decide +kernel
theorem dX4_best_73 : decode cX4_best 73 = .ok (.putfield 98, 3) := by decide +kernel
theorem dX4_best_76 : decode cX4_best 76 = .ok (.aload_n 0, 1) := by decide +kernel
theorem dX4_best_77 : decode cX4_best 77 = .ok (.aload_n 0, 1) := by decide +kernel
theorem dX4_best_78 : decode cX4_best 78 = .ok (.getfield 39, 3) := by decide +kernel
theorem dX4_best_81 : decode cX4_best 81 = .ok (.iconst 1, 1) := by decide +kernel
theorem dX4_best_82 : decode cX4_best 82 = .ok (.isub, 1) := by decide +kernel
theorem dX4_best_83 : decode cX4_best 83 = .ok (.invokevirtual 114, 3) := by decide +kernel
theorem dX4_best_86 : decode cX4_best 86 = .ok (.aload_n 0, 1) := by decide +kernel
theorem dX4_best_87 : decode cX4_best 87 = .ok (.getfield 31, 3) := by decide +kernel
theorem dX4_best_90 : decode cX4_best 90 = .ok (.iload_n 2, 1) := by decide +kernel
theorem dX4_best_91 : decode cX4_best 91 = .ok (.invokevirtual 215, 3) := by decide +kernel
theorem dX4_best_94 : decode cX4_best 94 = .ok (.dstore 10, 2) := by decide +kernel
theorem dX4_best_96 : decode cX4_best 96 = .ok (.iload 5, 2) := by decide +kernel
theorem dX4_best_98 : decode cX4_best 98 = .ok (.iconst (-1), 1) := by decide +kernel
theorem dX4_best_99 : decode cX4_best 99 = .ok (.if_icmp .eq 11, 3) := by decide +kernel
theorem dX4_best_102 : decode cX4_best 102 = .ok (.dload 10, 2) := by decide +kernel
theorem dX4_best_104 : decode cX4_best 104 = .ok (.dload 6, 2) := by decide +kernel
theorem dX4_best_106 : decode cX4_best 106 = .ok (.dcmp .l, 1) := by decide +kernel
theorem dX4_best_107 : decode cX4_best 107 = .ok (.ifCond .le 11, 3) := by decide +kernel
theorem dX4_best_110 : decode cX4_best 110 = .ok (.iload 9, 2) := by decide +kernel
theorem dX4_best_112 : decode cX4_best 112 = .ok (.istore 5, 2) := by decide +kernel
theorem dX4_best_114 : decode cX4_best 114 = .ok (.dload 10, 2) := by decide +kernel
theorem dX4_best_116 : decode cX4_best 116 = .ok (.dstore 6, 2) := by decide +kernel
theorem dX4_best_118 : decode cX4_best 118 = .ok (.iinc 9 1, 3) := by decide +kernel
theorem dX4_best_121 : decode cX4_best 121 = .ok (.goto (-58), 3) := by decide +kernel
theorem dX4_best_124 : decode cX4_best 124 = .ok (.aload_n 3, 1) := by decide +kernel
theorem dX4_best_125 : decode cX4_best 125 = .ok (.iload 4, 2) := by decide +kernel
theorem dX4_best_127 : decode cX4_best 127 = .ok (.putfield 98, 3) := by decide +kernel
theorem dX4_best_130 : decode cX4_best 130 = .ok (.iload 5, 2) := by decide +kernel
theorem dX4_best_132 : decode cX4_best 132 = .ok (.ireturn, 1) := by decide +kernel
set_option maxRecDepth 20000 in
theorem ggX4_alone_X4_sourceAt : GoodIn wsX4_alone wsX4_sourceAt := goodIn_r _ [10, 11, 12, 123, 124, 125, 126, 127, 128] (by decide +kernel) (by decide +kernel)
set_option maxRecDepth 20000 in
theorem gX4_alone_X4_sourceAt : GoodIn wsX4_alone (wsV RX4 55 RX4 yX4_sourceAt wsX4_sourceAt) := goodIn_app (goodIn_of _ (by decide +kernel)) ggX4_alone_X4_sourceAt
set_option maxRecDepth 20000 in
theorem ggX4_alone_X4_shineOne : GoodIn wsX4_alone wsX4_shineOne := goodIn_r _ [16, 5, 3, 17, 18, 19, 20, 21, 22, 23, 24, 25, 26, 27, 28, 29, 30, 31, 32, 33, 34, 35, 36, 9, 37, 38, 39, 40, 41, 42, 43, 44, 45, 46, 47, 48, 49, 50, 51, 52, 53, 54, 55, 56, 57, 58, 59, 60, 61, 62, 63, 64, 65, 66, 67, 68, 69, 70, 71, 72, 73, 74, 75, 76, 77, 78, 79, 80, 81, 82, 83, 84, 85, 123, 124, 125, 126, 127, 128, 129, 130, 131, 132, 133, 134, 135, 136, 137, 138, 139] (by decide +kernel) (by decide +kernel)
set_option maxRecDepth 20000 in
theorem gX4_alone_X4_shineOne : GoodIn wsX4_alone (wsV RX4 137 RX4 yX4_shineOne wsX4_shineOne) := goodIn_app (goodIn_of _ (by decide +kernel)) ggX4_alone_X4_shineOne
set_option maxRecDepth 20000 in
theorem ggX4_alone_X2_wipe : GoodIn wsX4_alone wsX2_wipe := goodIn_r _ [90, 91, 92, 93, 28, 29, 30, 140, 141] (by decide +kernel) (by decide +kernel)
set_option maxRecDepth 20000 in
theorem gX4_alone_X2_wipe : GoodIn wsX4_alone (wsV RX4 218 RX2 yX2_wipe wsX2_wipe) := goodIn_app (goodIn_of _ (by decide +kernel)) ggX4_alone_X2_wipe
set_option maxRecDepth 20000 in
theorem ggX4_alone_X2_add : GoodIn wsX4_alone wsX2_add := goodIn_r _ [97, 91, 92, 98, 99, 100, 21, 101, 102, 103, 104, 105, 23, 31, 32, 33, 106, 107, 108, 109, 110, 111, 112, 113, 57, 58, 59, 140, 141, 135, 136] (by decide +kernel) (by decide +kernel)
set_option maxRecDepth 20000 in
theorem gX4_alone_X2_add : GoodIn wsX4_alone (wsV RX4 221 RX2 yX2_add wsX2_add) := goodIn_app (goodIn_of _ (by decide +kernel)) ggX4_alone_X2_add
set_option maxRecDepth 20000 in
theorem ggX4_alone_X2_placeOfGreatest : GoodIn wsX4_alone wsX2_placeOfGreatest := goodIn_r _ [117, 118, 119, 120, 89, 121, 91, 122, 92, 140, 141] (by decide +kernel) (by decide +kernel)
set_option maxRecDepth 20000 in
theorem gX4_alone_X2_placeOfGreatest : GoodIn wsX4_alone (wsV RX4 162 RX2 yX2_placeOfGreatest wsX2_placeOfGreatest) := goodIn_app (goodIn_of _ (by decide +kernel)) ggX4_alone_X2_placeOfGreatest
theorem dX4_alone_0 : decode cX4_alone 0 = .ok (.aload_n 0, 1) := by decide +kernel
theorem dX4_alone_1 : decode cX4_alone 1 = .ok (.iload_n 1, 1) := by decide +kernel
theorem dX4_alone_2 : decode cX4_alone 2 = .ok (.invokevirtual 55, 3) := by decide +kernel
theorem dX4_alone_5 : decode cX4_alone 5 = .ok (.astore_n 2, 1) := by decide +kernel
theorem dX4_alone_6 : decode cX4_alone 6 = .ok (.aload_n 2, 1) := by decide +kernel
theorem dX4_alone_7 : decode cX4_alone 7 = .ok (.ifnonnull 13, 3) := by decide +kernel
theorem dX4_alone_10 : decode cX4_alone 10 = .ok (.new 59, 3) := by decide +kernel
theorem dX4_alone_13 : decode cX4_alone 13 = .ok (.dup, 1) := by decide +kernel
theorem dX4_alone_14 : decode cX4_alone 14 = .ok (.ldc 61, 2) := by decide +kernel
theorem dX4_alone_16 : decode cX4_alone 16 = .ok (.invokespecial 63, 3) := by decide +kernel
theorem dX4_alone_19 : decode cX4_alone 19 = .ok (.athrow, 1) := by decide +kernel
theorem dX4_alone_20 : decode cX4_alone 20 = .ok (.aload_n 0, 1) := by decide +kernel
theorem dX4_alone_21 : decode cX4_alone 21 = .ok (.aload_n 2, 1) := by decide +kernel
theorem dX4_alone_22 : decode cX4_alone 22 = .ok (.aload_n 0, 1) := by decide +kernel
theorem dX4_alone_23 : decode cX4_alone 23 = .ok (.getfield 39, 3) := by decide +kernel
theorem dX4_alone_26 : decode cX4_alone 26 = .ok (.iconst 1, 1) := by decide +kernel
theorem dX4_alone_27 : decode cX4_alone 27 = .ok (.isub, 1) := by decide +kernel
theorem dX4_alone_28 : decode cX4_alone 28 = .ok (.invokevirtual 137, 3) := by decide +kernel
theorem dX4_alone_31 : decode cX4_alone 31 = .ok (.aload_n 0, 1) := by decide +kernel
theorem dX4_alone_32 : decode cX4_alone 32 = .ok (.getfield 31, 3) := by decide +kernel
theorem dX4_alone_35 : decode cX4_alone 35 = .ok (.invokevirtual 218, 3) := by decide +kernel
theorem dX4_alone_38 : decode cX4_alone 38 = .ok (.aload_n 0, 1) := by decide +kernel
theorem dX4_alone_39 : decode cX4_alone 39 = .ok (.getfield 31, 3) := by decide +kernel
theorem dX4_alone_42 : decode cX4_alone 42 = .ok (.aload_n 0, 1) := by decide +kernel
theorem dX4_alone_43 : decode cX4_alone 43 = .ok (.getfield 24, 3) := by decide +kernel
theorem dX4_alone_46 : decode cX4_alone 46 = .ok (.invokevirtual 221, 3) := by decide +kernel
theorem dX4_alone_49 : decode cX4_alone 49 = .ok (.aload_n 0, 1) := by decide +kernel
theorem dX4_alone_50 : decode cX4_alone 50 = .ok (.getfield 31, 3) := by decide +kernel
theorem dX4_alone_53 : decode cX4_alone 53 = .ok (.invokevirtual 162, 3) := by decide +kernel
theorem dX4_alone_56 : decode cX4_alone 56 = .ok (.ireturn, 1) := by decide +kernel
set_option maxRecDepth 20000 in
theorem ggX4_digest_X4_many : GoodIn wsX4_digest wsX4_many := goodIn_ca (goodIn_r _ [10, 11, 12, 3, 4, 13, 14, 15, 9, 16, 17, 18, 19, 20, 21, 22, 23, 24, 25, 26, 27, 28, 29, 30, 31, 32, 33, 34, 35, 36, 37, 38, 39, 40, 238, 239, 240, 241, 242, 243, 244, 245, 246, 247, 248, 249] (by decide +kernel) (by decide +kernel)) (goodIn_sub (fun _ h => List.mem_cons_of_mem _ (List.mem_append_left _ (List.mem_append_right _ h))) (by decide +kernel))
set_option maxRecDepth 20000 in
theorem gX4_digest_X4_many : GoodIn wsX4_digest (wsV RX4 229 RX4 yX4_many wsX4_many) := goodIn_app (goodIn_of _ (by decide +kernel)) ggX4_digest_X4_many
set_option maxRecDepth 20000 in
theorem ggX4_digest_X4_ofSource : GoodIn wsX4_digest wsX4_ofSource := goodIn_ca (goodIn_ca (goodIn_r _ [44, 45, 46, 11, 12, 47, 48, 49, 50, 51, 52, 9, 53, 3, 54, 250, 251, 252, 238, 239, 240, 241, 242, 243] (by decide +kernel) (by decide +kernel)) (goodIn_sub (fun _ h => List.mem_cons_of_mem _ (List.mem_append_right _ h)) (by decide +kernel))) (goodIn_sub (fun _ h => List.mem_cons_of_mem _ (List.mem_append_left _ (List.mem_append_right _ h))) (by decide +kernel))
set_option maxRecDepth 20000 in
theorem gX4_digest_X4_ofSource : GoodIn wsX4_digest (wsV RX4 232 RX4 yX4_ofSource wsX4_ofSource) := goodIn_app (goodIn_of _ (by decide +kernel)) ggX4_digest_X4_ofSource
set_option maxRecDepth 20000 in
theorem ggX4_digest_X4_alone : GoodIn wsX4_digest wsX4_alone := goodIn_ca (goodIn_r _ [58, 45, 46, 4, 5, 59, 50, 51, 52, 9, 53, 3, 54, 60, 61, 62, 63, 17, 64, 65, 66, 67, 68, 69, 70, 71, 72, 73, 74, 75, 76, 77, 78, 79, 18, 19, 20, 21, 22, 80, 81, 82, 30, 83, 33, 34, 35, 32, 84, 85, 86, 87, 88, 89, 90, 91, 92, 93, 94, 95, 96, 97, 98, 99, 100, 101, 102, 103, 104, 105, 106, 107, 108, 109, 110, 111, 112, 113, 114, 115, 116, 117, 118, 119, 120, 121, 122, 123, 124, 125, 126, 127, 128, 129, 130, 131, 132, 133, 134, 135, 136, 137, 138, 139, 140, 141, 142, 143, 144, 145, 146, 147, 148, 149, 150, 151, 152, 153, 154, 155, 156, 157, 158, 238, 239, 240, 241, 242, 243, 244, 245, 246, 247, 248, 249, 253, 254, 250, 251, 252, 255, 256] (by decide +kernel) (by decide +kernel)) (goodIn_sub (fun _ h => List.mem_cons_of_mem _ (List.mem_append_right _ h)) (by decide +kernel))
set_option maxRecDepth 20000 in
theorem gX4_digest_X4_alone : GoodIn wsX4_digest (wsV RX4 236 RX4 yX4_alone wsX4_alone) := goodIn_app (goodIn_of _ (by decide +kernel)) ggX4_digest_X4_alone
set_option maxRecDepth 20000 in
theorem ggX4_digest_X4_shineAll : GoodIn wsX4_digest wsX4_shineAll := goodIn_r _ [162, 5, 3, 59, 122, 123, 124, 125, 126, 127, 128, 129, 74, 75, 76, 50, 51, 52, 9, 53, 54, 60, 61, 62, 63, 4, 17, 64, 65, 66, 67, 68, 69, 70, 71, 72, 73, 77, 78, 79, 18, 19, 20, 21, 22, 80, 81, 82, 30, 83, 33, 34, 35, 32, 84, 85, 86, 87, 88, 89, 90, 91, 92, 93, 94, 95, 96, 97, 98, 99, 100, 101, 102, 103, 104, 105, 106, 107, 108, 109, 110, 111, 112, 113, 114, 115, 116, 117, 118, 119, 120, 121, 130, 131, 132, 133, 134, 135, 136, 137, 138, 139, 140, 141, 142, 143, 144, 145, 146, 147, 148, 149, 238, 239, 240, 241, 242, 243, 255, 256, 244, 245, 246, 247, 248, 249, 253, 254, 250, 251, 252] (by decide +kernel) (by decide +kernel)
set_option maxRecDepth 20000 in
theorem gX4_digest_X4_shineAll : GoodIn wsX4_digest (wsV RX4 114 RX4 yX4_shineAll wsX4_shineAll) := goodIn_app (goodIn_of _ (by decide +kernel)) ggX4_digest_X4_shineAll
set_option maxRecDepth 20000 in
theorem ggX4_digest_X2_addToDigest : GoodIn wsX4_digest wsX2_addToDigest := goodIn_r _ [166, 167, 127, 128, 168, 151, 152, 125, 153, 154, 155, 156, 157, 158, 169, 170, 171, 172, 173, 174, 175, 176, 177, 178, 179, 180, 255, 256] (by decide +kernel) (by decide +kernel)
set_option maxRecDepth 20000 in
theorem gX4_digest_X2_addToDigest : GoodIn wsX4_digest (wsV RX4 239 RX2 yX2_addToDigest wsX2_addToDigest) := goodIn_app (goodIn_of _ (by decide +kernel)) ggX4_digest_X2_addToDigest
set_option maxRecDepth 20000 in
theorem ggX4_digest_X4_ofPart : GoodIn wsX4_digest wsX4_ofPart := goodIn_ca (goodIn_ca (goodIn_r _ [184, 45, 46, 11, 12, 185, 186, 17, 187, 40, 18, 19, 20, 9, 21, 4, 22, 188, 189, 190, 30, 191, 35, 244, 245, 246, 247, 248, 249, 238, 239, 240, 241, 242, 243] (by decide +kernel) (by decide +kernel)) (goodIn_sub (fun _ h => List.mem_cons_of_mem _ (List.mem_append_right _ h)) (by decide +kernel))) (goodIn_sub (fun _ h => List.mem_cons_of_mem _ (List.mem_append_left _ (List.mem_append_right _ h))) (by decide +kernel))
set_option maxRecDepth 20000 in
theorem gX4_digest_X4_ofPart : GoodIn wsX4_digest (wsV RX4 243 RX4 yX4_ofPart wsX4_ofPart) := goodIn_app (goodIn_of _ (by decide +kernel)) ggX4_digest_X4_ofPart
set_option maxRecDepth 20000 in
theorem ggX4_digest_X4_loses : GoodIn wsX4_digest wsX4_loses := goodIn_ca (goodIn_r _ [195, 45, 46, 17, 5, 18, 19, 20, 9, 21, 4, 22, 159, 160, 161, 162, 3, 59, 122, 123, 124, 125, 126, 127, 128, 129, 74, 75, 76, 50, 51, 52, 53, 54, 60, 61, 62, 63, 64, 65, 66, 67, 68, 69, 70, 71, 72, 73, 77, 78, 79, 80, 81, 82, 30, 83, 33, 34, 35, 32, 84, 85, 86, 87, 88, 89, 90, 91, 92, 93, 94, 95, 96, 97, 98, 99, 100, 101, 102, 103, 104, 105, 106, 107, 108, 109, 110, 111, 112, 113, 114, 115, 116, 117, 118, 119, 120, 121, 130, 131, 132, 133, 134, 135, 136, 137, 138, 139, 140, 141, 142, 143, 144, 145, 146, 147, 148, 149, 196, 197, 198, 199, 200, 201, 202, 203, 204, 205, 206, 207, 208, 209, 244, 245, 246, 247, 248, 249, 238, 239, 240, 241, 242, 243, 255, 256, 253, 254, 250, 251, 252] (by decide +kernel) (by decide +kernel)) (goodIn_sub (fun _ h => List.mem_cons_of_mem _ (List.mem_append_right _ h)) (by decide +kernel))
set_option maxRecDepth 20000 in
theorem gX4_digest_X4_loses : GoodIn wsX4_digest (wsV RX4 246 RX4 yX4_loses wsX4_loses) := goodIn_app (goodIn_of _ (by decide +kernel)) ggX4_digest_X4_loses
set_option maxRecDepth 20000 in
theorem ggX4_digest_X4_without : GoodIn wsX4_digest wsX4_without := goodIn_ca (goodIn_r _ [213, 45, 46, 17, 4, 5, 214, 18, 19, 20, 9, 21, 22, 215, 216, 217, 218, 219, 220, 159, 160, 161, 162, 3, 59, 122, 123, 124, 125, 126, 127, 128, 129, 74, 75, 76, 50, 51, 52, 53, 54, 60, 61, 62, 63, 64, 65, 66, 67, 68, 69, 70, 71, 72, 73, 77, 78, 79, 80, 81, 82, 30, 83, 33, 34, 35, 32, 84, 85, 86, 87, 88, 89, 90, 91, 92, 93, 94, 95, 96, 97, 98, 99, 100, 101, 102, 103, 104, 105, 106, 107, 108, 109, 110, 111, 112, 113, 114, 115, 116, 117, 118, 119, 120, 121, 130, 131, 132, 133, 134, 135, 136, 137, 138, 139, 140, 141, 142, 143, 144, 145, 146, 147, 148, 149, 244, 245, 246, 247, 248, 249, 238, 239, 240, 241, 242, 243, 255, 256, 253, 254, 250, 251, 252] (by decide +kernel) (by decide +kernel)) (goodIn_sub (fun _ h => List.mem_cons_of_mem _ (List.mem_append_right _ h)) (by decide +kernel))
set_option maxRecDepth 20000 in
theorem gX4_digest_X4_without : GoodIn wsX4_digest (wsV RX4 250 RX4 yX4_without wsX4_without) := goodIn_app (goodIn_of _ (by decide +kernel)) ggX4_digest_X4_without
set_option maxRecDepth 20000 in
theorem ggX4_digest_X4_best : GoodIn wsX4_digest wsX4_best := goodIn_ca (goodIn_r _ [224, 45, 46, 186, 185, 4, 5, 18, 19, 20, 9, 21, 22, 215, 216, 217, 218, 219, 220, 225, 226, 227, 30, 228, 33, 229, 230, 231, 232, 233, 234, 235, 236, 159, 160, 161, 162, 3, 59, 122, 123, 124, 125, 126, 127, 128, 129, 74, 75, 76, 50, 51, 52, 53, 54, 60, 61, 62, 63, 17, 64, 65, 66, 67, 68, 69, 70, 71, 72, 73, 77, 78, 79, 80, 81, 82, 83, 34, 35, 32, 84, 85, 86, 87, 88, 89, 90, 91, 92, 93, 94, 95, 96, 97, 98, 99, 100, 101, 102, 103, 104, 105, 106, 107, 108, 109, 110, 111, 112, 113, 114, 115, 116, 117, 118, 119, 120, 121, 130, 131, 132, 133, 134, 135, 136, 137, 138, 139, 140, 141, 142, 143, 144, 145, 146, 147, 148, 149, 237, 155, 156, 157, 158, 244, 245, 246, 247, 248, 249, 238, 239, 240, 241, 242, 243, 255, 256, 253, 254, 250, 251, 252] (by decide +kernel) (by decide +kernel)) (goodIn_sub (fun _ h => List.mem_cons_of_mem _ (List.mem_append_right _ h)) (by decide +kernel))
set_option maxRecDepth 20000 in
theorem gX4_digest_X4_best : GoodIn wsX4_digest (wsV RX4 253 RX4 yX4_best wsX4_best) := goodIn_app (goodIn_of _ (by decide +kernel)) ggX4_digest_X4_best
theorem dX4_digest_0 : decode cX4_digest 0 = .ok (.ldc2_w 225, 3) := by decide +kernel
theorem dX4_digest_3 : decode cX4_digest 3 = .ok (.lstore_n 1, 1) := by decide +kernel
theorem dX4_digest_4 : decode cX4_digest 4 = .ok (.iconst 0, 1) := by decide +kernel
theorem dX4_digest_5 : decode cX4_digest 5 = .ok (.istore_n 3, 1) := by decide +kernel
theorem dX4_digest_6 : decode cX4_digest 6 = .ok (.iload_n 3, 1) := by decide +kernel
theorem dX4_digest_7 : decode cX4_digest 7 = .ok (.iconst 4, 1) := by decide +kernel
theorem dX4_digest_8 : decode cX4_digest 8 = .ok (.if_icmp .gt 22, 3) := by decide +kernel
theorem dX4_digest_11 : decode cX4_digest 11 = .ok (.lload_n 1, 1) := by decide +kernel
theorem dX4_digest_12 : decode cX4_digest 12 = .ok (.ldc2_w 227, 3) := by decide +kernel
theorem dX4_digest_15 : decode cX4_digest 15 = .ok (.lmul, 1) := by decide +kernel
theorem dX4_digest_16 : decode cX4_digest 16 = .ok (.aload_n 0, 1) := by decide +kernel
theorem dX4_digest_17 : decode cX4_digest 17 = .ok (.iload_n 3, 1) := by decide +kernel
theorem dX4_digest_18 : decode cX4_digest 18 = .ok (.invokevirtual 229, 3) := by decide +kernel
theorem dX4_digest_21 : decode cX4_digest 21 = .ok (.i2l, 1) := by decide +kernel
theorem dX4_digest_22 : decode cX4_digest 22 = .ok (.ladd, 1) := by decide +kernel
theorem dX4_digest_23 : decode cX4_digest 23 = .ok (.lstore_n 1, 1) := by decide +kernel
theorem dX4_digest_24 : decode cX4_digest 24 = .ok (.iinc 3 1, 3) := by decide +kernel
theorem dX4_digest_27 : decode cX4_digest 27 = .ok (.goto (-21), 3) := by decide +kernel
theorem dX4_digest_30 : decode cX4_digest 30 = .ok (.iconst 0, 1) := by decide +kernel
theorem dX4_digest_31 : decode cX4_digest 31 = .ok (.istore_n 3, 1) := by decide +kernel
theorem dX4_digest_32 : decode cX4_digest 32 = .ok (.iload_n 3, 1) := by decide +kernel
theorem dX4_digest_33 : decode cX4_digest 33 = .ok (.aload_n 0, 1) := by decide +kernel
theorem dX4_digest_34 : decode cX4_digest 34 = .ok (.getfield 35, 3) := by decide +kernel
theorem dX4_digest_37 : decode cX4_digest 37 = .ok (.if_icmp .ge 52, 3) := by decide +kernel
theorem dX4_digest_40 : decode cX4_digest 40 = .ok (.iconst 0, 1) := by decide +kernel
theorem dX4_digest_41 : decode cX4_digest 41 = .ok (.istore 4, 2) := by decide +kernel
theorem dX4_digest_43 : decode cX4_digest 43 = .ok (.iload 4, 2) := by decide +kernel
theorem dX4_digest_45 : decode cX4_digest 45 = .ok (.iconst 2, 1) := by decide +kernel
theorem dX4_digest_46 : decode cX4_digest 46 = .ok (.if_icmp .gt 24, 3) := by decide +kernel
theorem dX4_digest_49 : decode cX4_digest 49 = .ok (.lload_n 1, 1) := by decide +kernel
theorem dX4_digest_50 : decode cX4_digest 50 = .ok (.ldc2_w 227, 3) := by decide +kernel
theorem dX4_digest_53 : decode cX4_digest 53 = .ok (.lmul, 1) := by decide +kernel
theorem dX4_digest_54 : decode cX4_digest 54 = .ok (.aload_n 0, 1) := by decide +kernel
theorem dX4_digest_55 : decode cX4_digest 55 = .ok (.iload_n 3, 1) := by decide +kernel
theorem dX4_digest_56 : decode cX4_digest 56 = .ok (.iload 4, 2) := by decide +kernel
theorem dX4_digest_58 : decode cX4_digest 58 = .ok (.invokevirtual 232, 3) := by decide +kernel
theorem dX4_digest_61 : decode cX4_digest 61 = .ok (.i2l, 1) := by decide +kernel
theorem dX4_digest_62 : decode cX4_digest 62 = .ok (.ladd, 1) := by decide +kernel
theorem dX4_digest_63 : decode cX4_digest 63 = .ok (.lstore_n 1, 1) := by decide +kernel
theorem dX4_digest_64 : decode cX4_digest 64 = .ok (.iinc 4 1, 3) := by decide +kernel
theorem dX4_digest_67 : decode cX4_digest 67 = .ok (.goto (-24), 3) := by decide +kernel
theorem dX4_digest_70 : decode cX4_digest 70 = .ok (.lload_n 1, 1) := by decide +kernel
theorem dX4_digest_71 : decode cX4_digest 71 = .ok (.ldc2_w 227, 3) := by decide +kernel
theorem dX4_digest_74 : decode cX4_digest 74 = .ok (.lmul, 1) := by decide +kernel
theorem dX4_digest_75 : decode cX4_digest 75 = .ok (.aload_n 0, 1) := by decide +kernel
theorem dX4_digest_76 : decode cX4_digest 76 = .ok (.iload_n 3, 1) := by decide +kernel
theorem dX4_digest_77 : decode cX4_digest 77 = .ok (.invokevirtual 236, 3) := by decide +kernel
theorem dX4_digest_80 : decode cX4_digest 80 = .ok (.i2l, 1) := by decide +kernel
theorem dX4_digest_81 : decode cX4_digest 81 = .ok (.ladd, 1) := by decide +kernel
theorem dX4_digest_82 : decode cX4_digest 82 = .ok (.lstore_n 1, 1) := by decide +kernel
theorem dX4_digest_83 : decode cX4_digest 83 = .ok (.iinc 3 1, 3) := by decide +kernel
theorem dX4_digest_86 : decode cX4_digest 86 = .ok (.goto (-54), 3) := by decide +kernel
theorem dX4_digest_89 : decode cX4_digest 89 = .ok (.iconst (-1), 1) := by decide +kernel
theorem dX4_digest_90 : decode cX4_digest 90 = .ok (.istore_n 3, 1) := by decide +kernel
theorem dX4_digest_91 : decode cX4_digest 91 = .ok (.iload_n 3, 1) := by decide +kernel
theorem dX4_digest_92 : decode cX4_digest 92 = .ok (.aload_n 0, 1) := by decide +kernel
theorem dX4_digest_93 : decode cX4_digest 93 = .ok (.getfield 39, 3) := by decide +kernel
theorem dX4_digest_96 : decode cX4_digest 96 = .ok (.if_icmp .ge 23, 3) := by decide +kernel
theorem dX4_digest_99 : decode cX4_digest 99 = .ok (.aload_n 0, 1) := by decide +kernel
theorem dX4_digest_100 : decode cX4_digest 100 = .ok (.iload_n 3, 1) := by decide +kernel
theorem dX4_digest_101 : decode cX4_digest 101 = .ok (.invokevirtual 114, 3) := by decide +kernel
theorem dX4_digest_104 : decode cX4_digest 104 = .ok (.aload_n 0, 1) := by decide +kernel
theorem dX4_digest_105 : decode cX4_digest 105 = .ok (.getfield 31, 3) := by decide +kernel
theorem dX4_digest_108 : decode cX4_digest 108 = .ok (.lload_n 1, 1) := by decide +kernel
theorem dX4_digest_109 : decode cX4_digest 109 = .ok (.invokevirtual 239, 3) := by decide +kernel
theorem dX4_digest_112 : decode cX4_digest 112 = .ok (.lstore_n 1, 1) := by decide +kernel
theorem dX4_digest_113 : decode cX4_digest 113 = .ok (.iinc 3 1, 3) := by decide +kernel
theorem dX4_digest_116 : decode cX4_digest 116 = .ok (.goto (-25), 3) := by decide +kernel
theorem dX4_digest_119 : decode cX4_digest 119 = .ok (.iconst 0, 1) := by decide +kernel
theorem dX4_digest_120 : decode cX4_digest 120 = .ok (.istore_n 3, 1) := by decide +kernel
theorem dX4_digest_121 : decode cX4_digest 121 = .ok (.iload_n 3, 1) := by decide +kernel
theorem dX4_digest_122 : decode cX4_digest 122 = .ok (.aload_n 0, 1) := by decide +kernel
theorem dX4_digest_123 : decode cX4_digest 123 = .ok (.getfield 39, 3) := by decide +kernel
theorem dX4_digest_126 : decode cX4_digest 126 = .ok (.if_icmp .ge 78, 3) := by decide +kernel
theorem dX4_digest_129 : decode cX4_digest 129 = .ok (.iconst 0, 1) := by decide +kernel
theorem dX4_digest_130 : decode cX4_digest 130 = .ok (.istore 4, 2) := by decide +kernel
theorem dX4_digest_132 : decode cX4_digest 132 = .ok (.iload 4, 2) := by decide +kernel
theorem dX4_digest_134 : decode cX4_digest 134 = .ok (.iconst 5, 1) := by decide +kernel
theorem dX4_digest_135 : decode cX4_digest 135 = .ok (.if_icmp .gt 24, 3) := by decide +kernel
theorem dX4_digest_138 : decode cX4_digest 138 = .ok (.lload_n 1, 1) := by decide +kernel
theorem dX4_digest_139 : decode cX4_digest 139 = .ok (.ldc2_w 227, 3) := by decide +kernel
theorem dX4_digest_142 : decode cX4_digest 142 = .ok (.lmul, 1) := by decide +kernel
theorem dX4_digest_143 : decode cX4_digest 143 = .ok (.aload_n 0, 1) := by decide +kernel
theorem dX4_digest_144 : decode cX4_digest 144 = .ok (.iload_n 3, 1) := by decide +kernel
theorem dX4_digest_145 : decode cX4_digest 145 = .ok (.iload 4, 2) := by decide +kernel
theorem dX4_digest_147 : decode cX4_digest 147 = .ok (.invokevirtual 243, 3) := by decide +kernel
theorem dX4_digest_150 : decode cX4_digest 150 = .ok (.i2l, 1) := by decide +kernel
theorem dX4_digest_151 : decode cX4_digest 151 = .ok (.ladd, 1) := by decide +kernel
theorem dX4_digest_152 : decode cX4_digest 152 = .ok (.lstore_n 1, 1) := by decide +kernel
theorem dX4_digest_153 : decode cX4_digest 153 = .ok (.iinc 4 1, 3) := by decide +kernel
theorem dX4_digest_156 : decode cX4_digest 156 = .ok (.goto (-24), 3) := by decide +kernel
theorem dX4_digest_159 : decode cX4_digest 159 = .ok (.lload_n 1, 1) := by decide +kernel
theorem dX4_digest_160 : decode cX4_digest 160 = .ok (.ldc2_w 227, 3) := by decide +kernel
theorem dX4_digest_163 : decode cX4_digest 163 = .ok (.lmul, 1) := by decide +kernel
theorem dX4_digest_164 : decode cX4_digest 164 = .ok (.aload_n 0, 1) := by decide +kernel
theorem dX4_digest_165 : decode cX4_digest 165 = .ok (.iload_n 3, 1) := by decide +kernel
theorem dX4_digest_166 : decode cX4_digest 166 = .ok (.invokevirtual 246, 3) := by decide +kernel
theorem dX4_digest_169 : decode cX4_digest 169 = .ok (.ladd, 1) := by decide +kernel
theorem dX4_digest_170 : decode cX4_digest 170 = .ok (.lstore_n 1, 1) := by decide +kernel
theorem dX4_digest_171 : decode cX4_digest 171 = .ok (.lload_n 1, 1) := by decide +kernel
theorem dX4_digest_172 : decode cX4_digest 172 = .ok (.ldc2_w 227, 3) := by decide +kernel
theorem dX4_digest_175 : decode cX4_digest 175 = .ok (.lmul, 1) := by decide +kernel
theorem dX4_digest_176 : decode cX4_digest 176 = .ok (.aload_n 0, 1) := by decide +kernel
theorem dX4_digest_177 : decode cX4_digest 177 = .ok (.iload_n 3, 1) := by decide +kernel
theorem dX4_digest_178 : decode cX4_digest 178 = .ok (.iconst 3, 1) := by decide +kernel
theorem dX4_digest_179 : decode cX4_digest 179 = .ok (.invokevirtual 250, 3) := by decide +kernel
theorem dX4_digest_182 : decode cX4_digest 182 = .ok (.ladd, 1) := by decide +kernel
theorem dX4_digest_183 : decode cX4_digest 183 = .ok (.lstore_n 1, 1) := by decide +kernel
theorem dX4_digest_184 : decode cX4_digest 184 = .ok (.lload_n 1, 1) := by decide +kernel
theorem dX4_digest_185 : decode cX4_digest 185 = .ok (.ldc2_w 227, 3) := by decide +kernel
theorem dX4_digest_188 : decode cX4_digest 188 = .ok (.lmul, 1) := by decide +kernel
theorem dX4_digest_189 : decode cX4_digest 189 = .ok (.aload_n 0, 1) := by decide +kernel
theorem dX4_digest_190 : decode cX4_digest 190 = .ok (.iload_n 3, 1) := by decide +kernel
theorem dX4_digest_191 : decode cX4_digest 191 = .ok (.iconst 3, 1) := by decide +kernel
theorem dX4_digest_192 : decode cX4_digest 192 = .ok (.invokevirtual 253, 3) := by decide +kernel
theorem dX4_digest_195 : decode cX4_digest 195 = .ok (.i2l, 1) := by decide +kernel
theorem dX4_digest_196 : decode cX4_digest 196 = .ok (.ladd, 1) := by decide +kernel
theorem dX4_digest_197 : decode cX4_digest 197 = .ok (.lstore_n 1, 1) := by decide +kernel
theorem dX4_digest_198 : decode cX4_digest 198 = .ok (.iinc 3 1, 3) := by decide +kernel
theorem dX4_digest_201 : decode cX4_digest 201 = .ok (.goto (-80), 3) := by decide +kernel
theorem dX4_digest_204 : decode cX4_digest 204 = .ok (.lload_n 1, 1) := by decide +kernel
theorem dX4_digest_205 : decode cX4_digest 205 = .ok (.lreturn, 1) := by decide +kernel
theorem dX4_isPlace_0 : decode cX4_isPlace 0 = .ok (.iload_n 0, 1) := by decide +kernel
theorem dX4_isPlace_1 : decode cX4_isPlace 1 = .ok (.ifCond .lt 13, 3) := by decide +kernel
theorem dX4_isPlace_4 : decode cX4_isPlace 4 = .ok (.iload_n 0, 1) := by decide +kernel
theorem dX4_isPlace_5 : decode cX4_isPlace 5 = .ok (.bipush 8, 2) := by decide +kernel
theorem dX4_isPlace_7 : decode cX4_isPlace 7 = .ok (.if_icmp .ge 7, 3) := by decide +kernel
theorem dX4_isPlace_10 : decode cX4_isPlace 10 = .ok (.iconst 1, 1) := by decide +kernel
theorem dX4_isPlace_11 : decode cX4_isPlace 11 = .ok (.goto 4, 3) := by decide +kernel
theorem dX4_isPlace_14 : decode cX4_isPlace 14 = .ok (.iconst 0, 1) := by decide +kernel
theorem dX4_isPlace_15 : decode cX4_isPlace 15 = .ok (.ireturn, 1) := by decide +kernel
set_option maxRecDepth 20000 in
theorem ggX4_isNumberOf_X4_leastNumber : GoodIn wsX4_isNumberOf wsX4_leastNumber := goodIn_r _ [4, 5] (by decide +kernel) (by decide +kernel)
set_option maxRecDepth 20000 in
theorem gX4_isNumberOf_X4_leastNumber : GoodIn wsX4_isNumberOf (va_wsS RX4 212 yX4_leastNumber wsX4_leastNumber) := goodIn_app (goodIn_of _ (by decide +kernel)) ggX4_isNumberOf_X4_leastNumber
set_option maxRecDepth 20000 in
theorem ggX4_isNumberOf_X4_mostNumber : GoodIn wsX4_isNumberOf wsX4_mostNumber := goodIn_r _ [8, 9] (by decide +kernel) (by decide +kernel)
set_option maxRecDepth 20000 in
theorem gX4_isNumberOf_X4_mostNumber : GoodIn wsX4_isNumberOf (va_wsS RX4 208 yX4_mostNumber wsX4_mostNumber) := goodIn_app (goodIn_of _ (by decide +kernel)) ggX4_isNumberOf_X4_mostNumber
theorem dX4_isNumberOf_0 : decode cX4_isNumberOf 0 = .ok (.iload_n 0, 1) := by decide +kernel
theorem dX4_isNumberOf_1 : decode cX4_isNumberOf 1 = .ok (.ifCond .lt 29, 3) := by decide +kernel
theorem dX4_isNumberOf_4 : decode cX4_isNumberOf 4 = .ok (.iload_n 0, 1) := by decide +kernel
theorem dX4_isNumberOf_5 : decode cX4_isNumberOf 5 = .ok (.bipush 10, 2) := by decide +kernel
theorem dX4_isNumberOf_7 : decode cX4_isNumberOf 7 = .ok (.if_icmp .gt 23, 3) := by decide +kernel
theorem dX4_isNumberOf_10 : decode cX4_isNumberOf 10 = .ok (.iload_n 1, 1) := by decide +kernel
theorem dX4_isNumberOf_11 : decode cX4_isNumberOf 11 = .ok (.iload_n 0, 1) := by decide +kernel
theorem dX4_isNumberOf_12 : decode cX4_isNumberOf 12 = .ok (.invokestatic 212, 3) := by decide +kernel
theorem dX4_isNumberOf_15 : decode cX4_isNumberOf 15 = .ok (.if_icmp .lt 15, 3) := by decide +kernel
theorem dX4_isNumberOf_18 : decode cX4_isNumberOf 18 = .ok (.iload_n 1, 1) := by decide +kernel
theorem dX4_isNumberOf_19 : decode cX4_isNumberOf 19 = .ok (.iload_n 0, 1) := by decide +kernel
theorem dX4_isNumberOf_20 : decode cX4_isNumberOf 20 = .ok (.invokestatic 208, 3) := by decide +kernel
theorem dX4_isNumberOf_23 : decode cX4_isNumberOf 23 = .ok (.if_icmp .gt 7, 3) := by decide +kernel
theorem dX4_isNumberOf_26 : decode cX4_isNumberOf 26 = .ok (.iconst 1, 1) := by decide +kernel
theorem dX4_isNumberOf_27 : decode cX4_isNumberOf 27 = .ok (.goto 4, 3) := by decide +kernel
theorem dX4_isNumberOf_30 : decode cX4_isNumberOf 30 = .ok (.iconst 0, 1) := by decide +kernel
theorem dX4_isNumberOf_31 : decode cX4_isNumberOf 31 = .ok (.ireturn, 1) := by decide +kernel
theorem dX4_leastNumber_0 : decode cX4_leastNumber 0 = .ok (.iload_n 0, 1) := by decide +kernel
theorem dX4_leastNumber_1 : decode cX4_leastNumber 1 = .ok (.ifCond .lt 19, 3) := by decide +kernel
theorem dX4_leastNumber_4 : decode cX4_leastNumber 4 = .ok (.iload_n 0, 1) := by decide +kernel
theorem dX4_leastNumber_5 : decode cX4_leastNumber 5 = .ok (.getstatic 256, 3) := by decide +kernel
theorem dX4_leastNumber_8 : decode cX4_leastNumber 8 = .ok (.arraylength, 1) := by decide +kernel
theorem dX4_leastNumber_9 : decode cX4_leastNumber 9 = .ok (.if_icmp .ge 11, 3) := by decide +kernel
theorem dX4_leastNumber_12 : decode cX4_leastNumber 12 = .ok (.getstatic 256, 3) := by decide +kernel
theorem dX4_leastNumber_15 : decode cX4_leastNumber 15 = .ok (.iload_n 0, 1) := by decide +kernel
theorem dX4_leastNumber_16 : decode cX4_leastNumber 16 = .ok (.iaload, 1) := by decide +kernel
theorem dX4_leastNumber_17 : decode cX4_leastNumber 17 = .ok (.goto 4, 3) := by decide +kernel
theorem dX4_leastNumber_20 : decode cX4_leastNumber 20 = .ok (.iconst 0, 1) := by decide +kernel
theorem dX4_leastNumber_21 : decode cX4_leastNumber 21 = .ok (.ireturn, 1) := by decide +kernel
theorem dX4_mostNumber_0 : decode cX4_mostNumber 0 = .ok (.iload_n 0, 1) := by decide +kernel
theorem dX4_mostNumber_1 : decode cX4_mostNumber 1 = .ok (.ifCond .lt 19, 3) := by decide +kernel
theorem dX4_mostNumber_4 : decode cX4_mostNumber 4 = .ok (.iload_n 0, 1) := by decide +kernel
theorem dX4_mostNumber_5 : decode cX4_mostNumber 5 = .ok (.getstatic 259, 3) := by decide +kernel
theorem dX4_mostNumber_8 : decode cX4_mostNumber 8 = .ok (.arraylength, 1) := by decide +kernel
theorem dX4_mostNumber_9 : decode cX4_mostNumber 9 = .ok (.if_icmp .ge 11, 3) := by decide +kernel
theorem dX4_mostNumber_12 : decode cX4_mostNumber 12 = .ok (.getstatic 259, 3) := by decide +kernel
theorem dX4_mostNumber_15 : decode cX4_mostNumber 15 = .ok (.iload_n 0, 1) := by decide +kernel
theorem dX4_mostNumber_16 : decode cX4_mostNumber 16 = .ok (.iaload, 1) := by decide +kernel
theorem dX4_mostNumber_17 : decode cX4_mostNumber 17 = .ok (.goto 4, 3) := by decide +kernel
theorem dX4_mostNumber_20 : decode cX4_mostNumber 20 = .ok (.iconst 0, 1) := by decide +kernel
theorem dX4_mostNumber_21 : decode cX4_mostNumber 21 = .ok (.ireturn, 1) := by decide +kernel
set_option maxRecDepth 20000 in
theorem ggX4_checkPlace_X4_isPlace : GoodIn wsX4_checkPlace wsX4_isPlace := goodIn_r _ [6] (by decide +kernel) (by decide +kernel)
set_option maxRecDepth 20000 in
theorem gX4_checkPlace_X4_isPlace : GoodIn wsX4_checkPlace (va_wsS RX4 129 yX4_isPlace wsX4_isPlace) := goodIn_app (goodIn_of _ (by decide +kernel)) ggX4_checkPlace_X4_isPlace
theorem dX4_checkPlace_0 : decode cX4_checkPlace 0 = .ok (.iload_n 0, 1) := by decide +kernel
theorem dX4_checkPlace_1 : decode cX4_checkPlace 1 = .ok (.invokestatic 129, 3) := by decide +kernel
theorem dX4_checkPlace_4 : decode cX4_checkPlace 4 = .ok (.ifCond .ne 14, 3) := by decide +kernel
theorem dX4_checkPlace_7 : decode cX4_checkPlace 7 = .ok (.new 59, 3) := by decide +kernel
theorem dX4_checkPlace_10 : decode cX4_checkPlace 10 = .ok (.dup, 1) := by decide +kernel
theorem dX4_checkPlace_11 : decode cX4_checkPlace 11 = .ok (.ldc_w 262, 3) := by decide +kernel
theorem dX4_checkPlace_14 : decode cX4_checkPlace 14 = .ok (.invokespecial 63, 3) := by decide +kernel
theorem dX4_checkPlace_17 : decode cX4_checkPlace 17 = .ok (.athrow, 1) := by decide +kernel
theorem dX4_checkPlace_18 : decode cX4_checkPlace 18 = .ok (.return_, 1) := by decide +kernel
set_option maxRecDepth 20000 in
theorem ggX4_checkSource_X4_isPlace : GoodIn wsX4_checkSource wsX4_isPlace := goodIn_r _ [6] (by decide +kernel) (by decide +kernel)
set_option maxRecDepth 20000 in
theorem gX4_checkSource_X4_isPlace : GoodIn wsX4_checkSource (va_wsS RX4 129 yX4_isPlace wsX4_isPlace) := goodIn_app (goodIn_of _ (by decide +kernel)) ggX4_checkSource_X4_isPlace
theorem dX4_checkSource_0 : decode cX4_checkSource 0 = .ok (.iload_n 0, 1) := by decide +kernel
theorem dX4_checkSource_1 : decode cX4_checkSource 1 = .ok (.invokestatic 129, 3) := by decide +kernel
theorem dX4_checkSource_4 : decode cX4_checkSource 4 = .ok (.ifCond .eq 24, 3) := by decide +kernel
theorem dX4_checkSource_7 : decode cX4_checkSource 7 = .ok (.iload_n 1, 1) := by decide +kernel
theorem dX4_checkSource_8 : decode cX4_checkSource 8 = .ok (.ifCond .lt 20, 3) := by decide +kernel
theorem dX4_checkSource_11 : decode cX4_checkSource 11 = .ok (.iload_n 1, 1) := by decide +kernel
theorem dX4_checkSource_12 : decode cX4_checkSource 12 = .ok (.bipush 7, 2) := by decide +kernel
theorem dX4_checkSource_14 : decode cX4_checkSource 14 = .ok (.if_icmp .gt 14, 3) := by decide +kernel
theorem dX4_checkSource_17 : decode cX4_checkSource 17 = .ok (.iload_n 2, 1) := by decide +kernel
theorem dX4_checkSource_18 : decode cX4_checkSource 18 = .ok (.iconst 1, 1) := by decide +kernel
theorem dX4_checkSource_19 : decode cX4_checkSource 19 = .ok (.if_icmp .lt 9, 3) := by decide +kernel
theorem dX4_checkSource_22 : decode cX4_checkSource 22 = .ok (.iload_n 2, 1) := by decide +kernel
theorem dX4_checkSource_23 : decode cX4_checkSource 23 = .ok (.bipush 9, 2) := by decide +kernel
theorem dX4_checkSource_25 : decode cX4_checkSource 25 = .ok (.if_icmp .le 14, 3) := by decide +kernel
theorem dX4_checkSource_28 : decode cX4_checkSource 28 = .ok (.new 77, 3) := by decide +kernel
theorem dX4_checkSource_31 : decode cX4_checkSource 31 = .ok (.dup, 1) := by decide +kernel
theorem dX4_checkSource_32 : decode cX4_checkSource 32 = .ok (.ldc_w 264, 3) := by decide +kernel
theorem dX4_checkSource_35 : decode cX4_checkSource 35 = .ok (.invokespecial 81, 3) := by decide +kernel
theorem dX4_checkSource_38 : decode cX4_checkSource 38 = .ok (.athrow, 1) := by decide +kernel
theorem dX4_checkSource_39 : decode cX4_checkSource 39 = .ok (.return_, 1) := by decide +kernel
theorem dX4_checkBehind_0 : decode cX4_checkBehind 0 = .ok (.iload_n 1, 1) := by decide +kernel
theorem dX4_checkBehind_1 : decode cX4_checkBehind 1 = .ok (.iconst (-1), 1) := by decide +kernel
theorem dX4_checkBehind_2 : decode cX4_checkBehind 2 = .ok (.if_icmp .lt 11, 3) := by decide +kernel
theorem dX4_checkBehind_5 : decode cX4_checkBehind 5 = .ok (.iload_n 1, 1) := by decide +kernel
theorem dX4_checkBehind_6 : decode cX4_checkBehind 6 = .ok (.aload_n 0, 1) := by decide +kernel
theorem dX4_checkBehind_7 : decode cX4_checkBehind 7 = .ok (.getfield 39, 3) := by decide +kernel
theorem dX4_checkBehind_10 : decode cX4_checkBehind 10 = .ok (.if_icmp .lt 13, 3) := by decide +kernel
theorem dX4_checkBehind_13 : decode cX4_checkBehind 13 = .ok (.new 59, 3) := by decide +kernel
theorem dX4_checkBehind_16 : decode cX4_checkBehind 16 = .ok (.dup, 1) := by decide +kernel
theorem dX4_checkBehind_17 : decode cX4_checkBehind 17 = .ok (.ldc 91, 2) := by decide +kernel
theorem dX4_checkBehind_19 : decode cX4_checkBehind 19 = .ok (.invokespecial 63, 3) := by decide +kernel
theorem dX4_checkBehind_22 : decode cX4_checkBehind 22 = .ok (.athrow, 1) := by decide +kernel
theorem dX4_checkBehind_23 : decode cX4_checkBehind 23 = .ok (.return_, 1) := by decide +kernel
theorem dX4_sourceAt_0 : decode cX4_sourceAt 0 = .ok (.iload_n 1, 1) := by decide +kernel
theorem dX4_sourceAt_1 : decode cX4_sourceAt 1 = .ok (.ifCond .lt 25, 3) := by decide +kernel
theorem dX4_sourceAt_4 : decode cX4_sourceAt 4 = .ok (.iload_n 1, 1) := by decide +kernel
theorem dX4_sourceAt_5 : decode cX4_sourceAt 5 = .ok (.aload_n 0, 1) := by decide +kernel
theorem dX4_sourceAt_6 : decode cX4_sourceAt 6 = .ok (.getfield 35, 3) := by decide +kernel
theorem dX4_sourceAt_9 : decode cX4_sourceAt 9 = .ok (.if_icmp .ge 17, 3) := by decide +kernel
theorem dX4_sourceAt_12 : decode cX4_sourceAt 12 = .ok (.iload_n 1, 1) := by decide +kernel
theorem dX4_sourceAt_13 : decode cX4_sourceAt 13 = .ok (.iconst 3, 1) := by decide +kernel
theorem dX4_sourceAt_14 : decode cX4_sourceAt 14 = .ok (.if_icmp .ge 12, 3) := by decide +kernel
theorem dX4_sourceAt_17 : decode cX4_sourceAt 17 = .ok (.aload_n 0, 1) := by decide +kernel
theorem dX4_sourceAt_18 : decode cX4_sourceAt 18 = .ok (.getfield 11, 3) := by decide +kernel
theorem dX4_sourceAt_21 : decode cX4_sourceAt 21 = .ok (.iload_n 1, 1) := by decide +kernel
theorem dX4_sourceAt_22 : decode cX4_sourceAt 22 = .ok (.aaload, 1) := by decide +kernel
theorem dX4_sourceAt_23 : decode cX4_sourceAt 23 = .ok (.goto 4, 3) := by decide +kernel
theorem dX4_sourceAt_26 : decode cX4_sourceAt 26 = .ok (.aconst_null, 1) := by decide +kernel
theorem dX4_sourceAt_27 : decode cX4_sourceAt 27 = .ok (.areturn, 1) := by decide +kernel
theorem dX4_partAt_0 : decode cX4_partAt 0 = .ok (.iload_n 1, 1) := by decide +kernel
theorem dX4_partAt_1 : decode cX4_partAt 1 = .ok (.ifCond .lt 26, 3) := by decide +kernel
theorem dX4_partAt_4 : decode cX4_partAt 4 = .ok (.iload_n 1, 1) := by decide +kernel
theorem dX4_partAt_5 : decode cX4_partAt 5 = .ok (.aload_n 0, 1) := by decide +kernel
theorem dX4_partAt_6 : decode cX4_partAt 6 = .ok (.getfield 39, 3) := by decide +kernel
theorem dX4_partAt_9 : decode cX4_partAt 9 = .ok (.if_icmp .ge 18, 3) := by decide +kernel
theorem dX4_partAt_12 : decode cX4_partAt 12 = .ok (.iload_n 1, 1) := by decide +kernel
theorem dX4_partAt_13 : decode cX4_partAt 13 = .ok (.bipush 8, 2) := by decide +kernel
theorem dX4_partAt_15 : decode cX4_partAt 15 = .ok (.if_icmp .ge 12, 3) := by decide +kernel
theorem dX4_partAt_18 : decode cX4_partAt 18 = .ok (.aload_n 0, 1) := by decide +kernel
theorem dX4_partAt_19 : decode cX4_partAt 19 = .ok (.getfield 17, 3) := by decide +kernel
theorem dX4_partAt_22 : decode cX4_partAt 22 = .ok (.iload_n 1, 1) := by decide +kernel
theorem dX4_partAt_23 : decode cX4_partAt 23 = .ok (.aaload, 1) := by decide +kernel
theorem dX4_partAt_24 : decode cX4_partAt 24 = .ok (.goto 4, 3) := by decide +kernel
theorem dX4_partAt_27 : decode cX4_partAt 27 = .ok (.aconst_null, 1) := by decide +kernel
theorem dX4_partAt_28 : decode cX4_partAt 28 = .ok (.areturn, 1) := by decide +kernel
set_option maxRecDepth 20000 in
theorem ggX4_countPartsIn_X4_partAt : GoodIn wsX4_countPartsIn wsX4_partAt := goodIn_r _ [7, 1, 8, 9, 10, 11, 12, 13, 14] (by decide +kernel) (by decide +kernel)
set_option maxRecDepth 20000 in
theorem gX4_countPartsIn_X4_partAt : GoodIn wsX4_countPartsIn (wsV RX4 87 RX4 yX4_partAt wsX4_partAt) := goodIn_app (goodIn_of _ (by decide +kernel)) ggX4_countPartsIn_X4_partAt
theorem dX4_countPartsIn_0 : decode cX4_countPartsIn 0 = .ok (.iconst 0, 1) := by decide +kernel
theorem dX4_countPartsIn_1 : decode cX4_countPartsIn 1 = .ok (.istore_n 1, 1) := by decide +kernel
theorem dX4_countPartsIn_2 : decode cX4_countPartsIn 2 = .ok (.iconst 0, 1) := by decide +kernel
theorem dX4_countPartsIn_3 : decode cX4_countPartsIn 3 = .ok (.istore_n 2, 1) := by decide +kernel
theorem dX4_countPartsIn_4 : decode cX4_countPartsIn 4 = .ok (.iload_n 2, 1) := by decide +kernel
theorem dX4_countPartsIn_5 : decode cX4_countPartsIn 5 = .ok (.aload_n 0, 1) := by decide +kernel
theorem dX4_countPartsIn_6 : decode cX4_countPartsIn 6 = .ok (.getfield 39, 3) := by decide +kernel
theorem dX4_countPartsIn_9 : decode cX4_countPartsIn 9 = .ok (.if_icmp .ge 29, 3) := by decide +kernel
theorem dX4_countPartsIn_12 : decode cX4_countPartsIn 12 = .ok (.aload_n 0, 1) := by decide +kernel
theorem dX4_countPartsIn_13 : decode cX4_countPartsIn 13 = .ok (.iload_n 2, 1) := by decide +kernel
theorem dX4_countPartsIn_14 : decode cX4_countPartsIn 14 = .ok (.invokevirtual 87, 3) := by decide +kernel
theorem dX4_countPartsIn_17 : decode cX4_countPartsIn 17 = .ok (.astore_n 3, 1) := by decide +kernel
theorem dX4_countPartsIn_18 : decode cX4_countPartsIn 18 = .ok (.aload_n 3, 1) := by decide +kernel
theorem dX4_countPartsIn_19 : decode cX4_countPartsIn 19 = .ok (.ifnull 13, 3) := by decide +kernel
theorem dX4_countPartsIn_22 : decode cX4_countPartsIn 22 = .ok (.aload_n 3, 1) := by decide +kernel
theorem dX4_countPartsIn_23 : decode cX4_countPartsIn 23 = .ok (.getfield 101, 3) := by decide +kernel
theorem dX4_countPartsIn_26 : decode cX4_countPartsIn 26 = .ok (.ifCond .eq 6, 3) := by decide +kernel
theorem dX4_countPartsIn_29 : decode cX4_countPartsIn 29 = .ok (.iinc 1 1, 3) := by decide +kernel
theorem dX4_countPartsIn_32 : decode cX4_countPartsIn 32 = .ok (.iinc 2 1, 3) := by decide +kernel
theorem dX4_countPartsIn_35 : decode cX4_countPartsIn 35 = .ok (.goto (-31), 3) := by decide +kernel
theorem dX4_countPartsIn_38 : decode cX4_countPartsIn 38 = .ok (.iload_n 1, 1) := by decide +kernel
theorem dX4_countPartsIn_39 : decode cX4_countPartsIn 39 = .ok (.ireturn, 1) := by decide +kernel
set_option maxRecDepth 20000 in
theorem ggX4_firstThatCannotBeUndone_X4_partAt : GoodIn wsX4_firstThatCannotBeUndone wsX4_partAt := goodIn_r _ [7, 1, 8, 18, 19, 20, 21, 22, 23] (by decide +kernel) (by decide +kernel)
set_option maxRecDepth 20000 in
theorem gX4_firstThatCannotBeUndone_X4_partAt : GoodIn wsX4_firstThatCannotBeUndone (wsV RX4 87 RX4 yX4_partAt wsX4_partAt) := goodIn_app (goodIn_of _ (by decide +kernel)) ggX4_firstThatCannotBeUndone_X4_partAt
set_option maxRecDepth 20000 in
theorem ggX4_firstThatCannotBeUndone_X1_canBeUndone : GoodIn wsX4_firstThatCannotBeUndone wsX1_canBeUndone := goodIn_r _ [13, 14, 15, 16, 17, 24, 25, 26, 27, 28, 29] (by decide +kernel) (by decide +kernel)
set_option maxRecDepth 20000 in
theorem gX4_firstThatCannotBeUndone_X1_canBeUndone : GoodIn wsX4_firstThatCannotBeUndone (wsV RX4 266 RX1 yX1_canBeUndone wsX1_canBeUndone) := goodIn_app (goodIn_of _ (by decide +kernel)) ggX4_firstThatCannotBeUndone_X1_canBeUndone
theorem dX4_firstThatCannotBeUndone_0 : decode cX4_firstThatCannotBeUndone 0 = .ok (.iconst 0, 1) := by decide +kernel
theorem dX4_firstThatCannotBeUndone_1 : decode cX4_firstThatCannotBeUndone 1 = .ok (.istore_n 1, 1) := by decide +kernel
theorem dX4_firstThatCannotBeUndone_2 : decode cX4_firstThatCannotBeUndone 2 = .ok (.iload_n 1, 1) := by decide +kernel
theorem dX4_firstThatCannotBeUndone_3 : decode cX4_firstThatCannotBeUndone 3 = .ok (.aload_n 0, 1) := by decide +kernel
theorem dX4_firstThatCannotBeUndone_4 : decode cX4_firstThatCannotBeUndone 4 = .ok (.getfield 39, 3) := by decide +kernel
theorem dX4_firstThatCannotBeUndone_7 : decode cX4_firstThatCannotBeUndone 7 = .ok (.if_icmp .ge 35, 3) := by decide +kernel
theorem dX4_firstThatCannotBeUndone_10 : decode cX4_firstThatCannotBeUndone 10 = .ok (.aload_n 0, 1) := by decide +kernel
theorem dX4_firstThatCannotBeUndone_11 : decode cX4_firstThatCannotBeUndone 11 = .ok (.iload_n 1, 1) := by decide +kernel
theorem dX4_firstThatCannotBeUndone_12 : decode cX4_firstThatCannotBeUndone 12 = .ok (.invokevirtual 87, 3) := by decide +kernel
theorem dX4_firstThatCannotBeUndone_15 : decode cX4_firstThatCannotBeUndone 15 = .ok (.astore_n 2, 1) := by decide +kernel
theorem dX4_firstThatCannotBeUndone_16 : decode cX4_firstThatCannotBeUndone 16 = .ok (.aload_n 2, 1) := by decide +kernel
theorem dX4_firstThatCannotBeUndone_17 : decode cX4_firstThatCannotBeUndone 17 = .ok (.ifnull 19, 3) := by decide +kernel
theorem dX4_firstThatCannotBeUndone_20 : decode cX4_firstThatCannotBeUndone 20 = .ok (.aload_n 2, 1) := by decide +kernel
theorem dX4_firstThatCannotBeUndone_21 : decode cX4_firstThatCannotBeUndone 21 = .ok (.getfield 101, 3) := by decide +kernel
theorem dX4_firstThatCannotBeUndone_24 : decode cX4_firstThatCannotBeUndone 24 = .ok (.ifCond .eq 12, 3) := by decide +kernel
theorem dX4_firstThatCannotBeUndone_27 : decode cX4_firstThatCannotBeUndone 27 = .ok (.aload_n 2, 1) := by decide +kernel
theorem dX4_firstThatCannotBeUndone_28 : decode cX4_firstThatCannotBeUndone 28 = .ok (.invokevirtual 266, 3) := by decide +kernel
theorem dX4_firstThatCannotBeUndone_31 : decode cX4_firstThatCannotBeUndone 31 = .ok (.ifCond .ne 5, 3) := by decide +kernel
theorem dX4_firstThatCannotBeUndone_34 : decode cX4_firstThatCannotBeUndone 34 = .ok (.iload_n 1, 1) := by decide +kernel
theorem dX4_firstThatCannotBeUndone_35 : decode cX4_firstThatCannotBeUndone 35 = .ok (.ireturn, 1) := by decide +kernel
theorem dX4_firstThatCannotBeUndone_36 : decode cX4_firstThatCannotBeUndone 36 = .ok (.iinc 1 1, 3) := by decide +kernel
theorem dX4_firstThatCannotBeUndone_39 : decode cX4_firstThatCannotBeUndone 39 = .ok (.goto (-37), 3) := by decide +kernel
theorem dX4_firstThatCannotBeUndone_42 : decode cX4_firstThatCannotBeUndone 42 = .ok (.iconst (-1), 1) := by decide +kernel
theorem dX4_firstThatCannotBeUndone_43 : decode cX4_firstThatCannotBeUndone 43 = .ok (.ireturn, 1) := by decide +kernel
set_option maxRecDepth 20000 in
theorem ggX4_countExposuresEver_X4_partAt : GoodIn wsX4_countExposuresEver wsX4_partAt := goodIn_r _ [7, 1, 8, 9, 10, 11, 12, 13, 14] (by decide +kernel) (by decide +kernel)
set_option maxRecDepth 20000 in
theorem gX4_countExposuresEver_X4_partAt : GoodIn wsX4_countExposuresEver (wsV RX4 87 RX4 yX4_partAt wsX4_partAt) := goodIn_app (goodIn_of _ (by decide +kernel)) ggX4_countExposuresEver_X4_partAt
theorem dX4_countExposuresEver_0 : decode cX4_countExposuresEver 0 = .ok (.iconst 0, 1) := by decide +kernel
theorem dX4_countExposuresEver_1 : decode cX4_countExposuresEver 1 = .ok (.istore_n 1, 1) := by decide +kernel
theorem dX4_countExposuresEver_2 : decode cX4_countExposuresEver 2 = .ok (.iconst 0, 1) := by decide +kernel
theorem dX4_countExposuresEver_3 : decode cX4_countExposuresEver 3 = .ok (.istore_n 2, 1) := by decide +kernel
theorem dX4_countExposuresEver_4 : decode cX4_countExposuresEver 4 = .ok (.iload_n 2, 1) := by decide +kernel
theorem dX4_countExposuresEver_5 : decode cX4_countExposuresEver 5 = .ok (.aload_n 0, 1) := by decide +kernel
theorem dX4_countExposuresEver_6 : decode cX4_countExposuresEver 6 = .ok (.getfield 39, 3) := by decide +kernel
theorem dX4_countExposuresEver_9 : decode cX4_countExposuresEver 9 = .ok (.if_icmp .ge 26, 3) := by decide +kernel
theorem dX4_countExposuresEver_12 : decode cX4_countExposuresEver 12 = .ok (.aload_n 0, 1) := by decide +kernel
theorem dX4_countExposuresEver_13 : decode cX4_countExposuresEver 13 = .ok (.iload_n 2, 1) := by decide +kernel
theorem dX4_countExposuresEver_14 : decode cX4_countExposuresEver 14 = .ok (.invokevirtual 87, 3) := by decide +kernel
theorem dX4_countExposuresEver_17 : decode cX4_countExposuresEver 17 = .ok (.astore_n 3, 1) := by decide +kernel
theorem dX4_countExposuresEver_18 : decode cX4_countExposuresEver 18 = .ok (.aload_n 3, 1) := by decide +kernel
theorem dX4_countExposuresEver_19 : decode cX4_countExposuresEver 19 = .ok (.ifnull 10, 3) := by decide +kernel
theorem dX4_countExposuresEver_22 : decode cX4_countExposuresEver 22 = .ok (.iload_n 1, 1) := by decide +kernel
theorem dX4_countExposuresEver_23 : decode cX4_countExposuresEver 23 = .ok (.aload_n 3, 1) := by decide +kernel
theorem dX4_countExposuresEver_24 : decode cX4_countExposuresEver 24 = .ok (.getfield 182, 3) := by decide +kernel
theorem dX4_countExposuresEver_27 : decode cX4_countExposuresEver 27 = .ok (.iadd, 1) := by decide +kernel
theorem dX4_countExposuresEver_28 : decode cX4_countExposuresEver 28 = .ok (.istore_n 1, 1) := by decide +kernel
theorem dX4_countExposuresEver_29 : decode cX4_countExposuresEver 29 = .ok (.iinc 2 1, 3) := by decide +kernel
theorem dX4_countExposuresEver_32 : decode cX4_countExposuresEver 32 = .ok (.goto (-28), 3) := by decide +kernel
theorem dX4_countExposuresEver_35 : decode cX4_countExposuresEver 35 = .ok (.iload_n 1, 1) := by decide +kernel
theorem dX4_countExposuresEver_36 : decode cX4_countExposuresEver 36 = .ok (.ireturn, 1) := by decide +kernel
set_option maxRecDepth 20000 in
theorem ggX4_shineOne_X0_start : GoodIn wsX4_shineOne wsX0_start := goodIn_r _ [8, 9, 10, 11, 12, 13, 14, 15, 16, 17, 18, 7, 19, 85, 86, 87, 88, 89] (by decide +kernel) (by decide +kernel)
set_option maxRecDepth 20000 in
theorem gX4_shineOne_X0_start : GoodIn wsX4_shineOne (wsV RX4 269 RX0 yX0_start wsX0_start) := goodIn_app (goodIn_of _ (by decide +kernel)) ggX4_shineOne_X0_start
set_option maxRecDepth 20000 in
theorem ggX4_shineOne_X4_partAt : GoodIn wsX4_shineOne wsX4_partAt := goodIn_r _ [24, 2, 25, 73, 74, 75, 76, 77, 78] (by decide +kernel) (by decide +kernel)
set_option maxRecDepth 20000 in
theorem gX4_shineOne_X4_partAt : GoodIn wsX4_shineOne (wsV RX4 87 RX4 yX4_partAt wsX4_partAt) := goodIn_app (goodIn_of _ (by decide +kernel)) ggX4_shineOne_X4_partAt
set_option maxRecDepth 20000 in
theorem ggX4_shineOne_X1_pass : GoodIn wsX4_shineOne wsX1_pass := goodIn_r _ [30, 31, 32, 33, 34, 35, 36, 37, 7, 38, 17, 18, 19, 39, 40, 41, 42, 9, 43, 44, 45, 46, 47, 48, 49, 50, 51, 52, 53, 54, 55, 56, 57, 58, 59, 60, 61, 62, 63, 64, 65, 66, 67, 68, 15, 69, 70, 71, 72, 13, 14, 16, 79, 80, 81, 82, 83, 84, 85, 86] (by decide +kernel) (by decide +kernel)
set_option maxRecDepth 20000 in
theorem gX4_shineOne_X1_pass : GoodIn wsX4_shineOne (wsV RX4 273 RX1 yX1_pass wsX1_pass) := goodIn_app (goodIn_of _ (by decide +kernel)) ggX4_shineOne_X1_pass
theorem dX4_shineOne_0 : decode cX4_shineOne 0 = .ok (.aload_n 0, 1) := by decide +kernel
theorem dX4_shineOne_1 : decode cX4_shineOne 1 = .ok (.getfield 24, 3) := by decide +kernel
theorem dX4_shineOne_4 : decode cX4_shineOne 4 = .ok (.aload_n 1, 1) := by decide +kernel
theorem dX4_shineOne_5 : decode cX4_shineOne 5 = .ok (.invokevirtual 269, 3) := by decide +kernel
theorem dX4_shineOne_8 : decode cX4_shineOne 8 = .ok (.iconst 0, 1) := by decide +kernel
theorem dX4_shineOne_9 : decode cX4_shineOne 9 = .ok (.istore_n 3, 1) := by decide +kernel
theorem dX4_shineOne_10 : decode cX4_shineOne 10 = .ok (.iload_n 3, 1) := by decide +kernel
theorem dX4_shineOne_11 : decode cX4_shineOne 11 = .ok (.iload_n 2, 1) := by decide +kernel
theorem dX4_shineOne_12 : decode cX4_shineOne 12 = .ok (.if_icmp .gt 46, 3) := by decide +kernel
theorem dX4_shineOne_15 : decode cX4_shineOne 15 = .ok (.iload_n 3, 1) := by decide +kernel
theorem dX4_shineOne_16 : decode cX4_shineOne 16 = .ok (.aload_n 0, 1) := by decide +kernel
theorem dX4_shineOne_17 : decode cX4_shineOne 17 = .ok (.getfield 39, 3) := by decide +kernel
theorem dX4_shineOne_20 : decode cX4_shineOne 20 = .ok (.if_icmp .ge 38, 3) := by decide +kernel
theorem dX4_shineOne_23 : decode cX4_shineOne 23 = .ok (.aload_n 0, 1) := by decide +kernel
theorem dX4_shineOne_24 : decode cX4_shineOne 24 = .ok (.iload_n 3, 1) := by decide +kernel
theorem dX4_shineOne_25 : decode cX4_shineOne 25 = .ok (.invokevirtual 87, 3) := by decide +kernel
theorem dX4_shineOne_28 : decode cX4_shineOne 28 = .ok (.astore 4, 2) := by decide +kernel
theorem dX4_shineOne_30 : decode cX4_shineOne 30 = .ok (.aload 4, 2) := by decide +kernel
theorem dX4_shineOne_32 : decode cX4_shineOne 32 = .ok (.ifnull 20, 3) := by decide +kernel
theorem dX4_shineOne_35 : decode cX4_shineOne 35 = .ok (.aload 4, 2) := by decide +kernel
theorem dX4_shineOne_37 : decode cX4_shineOne 37 = .ok (.getfield 101, 3) := by decide +kernel
theorem dX4_shineOne_40 : decode cX4_shineOne 40 = .ok (.ifCond .eq 12, 3) := by decide +kernel
theorem dX4_shineOne_43 : decode cX4_shineOne 43 = .ok (.aload 4, 2) := by decide +kernel
theorem dX4_shineOne_45 : decode cX4_shineOne 45 = .ok (.aload_n 0, 1) := by decide +kernel
theorem dX4_shineOne_46 : decode cX4_shineOne 46 = .ok (.getfield 24, 3) := by decide +kernel
theorem dX4_shineOne_49 : decode cX4_shineOne 49 = .ok (.invokevirtual 273, 3) := by decide +kernel
theorem dX4_shineOne_52 : decode cX4_shineOne 52 = .ok (.iinc 3 1, 3) := by decide +kernel
theorem dX4_shineOne_55 : decode cX4_shineOne 55 = .ok (.goto (-45), 3) := by decide +kernel
theorem dX4_shineOne_58 : decode cX4_shineOne 58 = .ok (.return_, 1) := by decide +kernel
set_option maxRecDepth 20000 in
theorem ggX4_shineAll_X2_wipe : GoodIn wsX4_shineAll wsX2_wipe := goodIn_r _ [8, 9, 10, 11, 12, 13, 14, 118, 119] (by decide +kernel) (by decide +kernel)
set_option maxRecDepth 20000 in
theorem gX4_shineAll_X2_wipe : GoodIn wsX4_shineAll (wsV RX4 218 RX2 yX2_wipe wsX2_wipe) := goodIn_app (goodIn_of _ (by decide +kernel)) ggX4_shineAll_X2_wipe
set_option maxRecDepth 20000 in
theorem ggX4_shineAll_X4_sourceAt : GoodIn wsX4_shineAll wsX4_sourceAt := goodIn_r _ [19, 2, 20, 112, 113, 114, 115, 116, 117] (by decide +kernel) (by decide +kernel)
set_option maxRecDepth 20000 in
theorem gX4_shineAll_X4_sourceAt : GoodIn wsX4_shineAll (wsV RX4 55 RX4 yX4_sourceAt wsX4_sourceAt) := goodIn_app (goodIn_of _ (by decide +kernel)) ggX4_shineAll_X4_sourceAt
set_option maxRecDepth 20000 in
theorem ggX4_shineAll_X4_shineOne : GoodIn wsX4_shineAll wsX4_shineOne := goodIn_r _ [24, 3, 25, 26, 27, 28, 29, 30, 31, 32, 33, 34, 35, 36, 12, 13, 14, 37, 38, 39, 40, 41, 42, 18, 43, 44, 45, 46, 47, 48, 49, 50, 51, 52, 53, 54, 55, 56, 57, 58, 59, 60, 61, 62, 63, 64, 65, 66, 67, 68, 69, 70, 71, 72, 73, 74, 75, 76, 77, 78, 79, 80, 81, 82, 83, 84, 85, 86, 87, 88, 89, 90, 91, 112, 113, 114, 115, 116, 117, 120, 121, 122, 123, 124, 125, 126, 127, 128, 129, 130] (by decide +kernel) (by decide +kernel)
set_option maxRecDepth 20000 in
theorem gX4_shineAll_X4_shineOne : GoodIn wsX4_shineAll (wsV RX4 137 RX4 yX4_shineOne wsX4_shineOne) := goodIn_app (goodIn_of _ (by decide +kernel)) ggX4_shineAll_X4_shineOne
set_option maxRecDepth 20000 in
theorem ggX4_shineAll_X2_add : GoodIn wsX4_shineAll wsX2_add := goodIn_r _ [95, 9, 10, 96, 97, 98, 30, 99, 100, 101, 102, 103, 32, 37, 38, 39, 104, 105, 106, 107, 108, 109, 110, 111, 63, 64, 65, 118, 119, 126, 127] (by decide +kernel) (by decide +kernel)
set_option maxRecDepth 20000 in
theorem gX4_shineAll_X2_add : GoodIn wsX4_shineAll (wsV RX4 221 RX2 yX2_add wsX2_add) := goodIn_app (goodIn_of _ (by decide +kernel)) ggX4_shineAll_X2_add
theorem dX4_shineAll_0 : decode cX4_shineAll 0 = .ok (.aload_n 0, 1) := by decide +kernel
theorem dX4_shineAll_1 : decode cX4_shineAll 1 = .ok (.getfield 31, 3) := by decide +kernel
theorem dX4_shineAll_4 : decode cX4_shineAll 4 = .ok (.invokevirtual 218, 3) := by decide +kernel
theorem dX4_shineAll_7 : decode cX4_shineAll 7 = .ok (.iconst 0, 1) := by decide +kernel
theorem dX4_shineAll_8 : decode cX4_shineAll 8 = .ok (.istore_n 2, 1) := by decide +kernel
theorem dX4_shineAll_9 : decode cX4_shineAll 9 = .ok (.iload_n 2, 1) := by decide +kernel
theorem dX4_shineAll_10 : decode cX4_shineAll 10 = .ok (.aload_n 0, 1) := by decide +kernel
theorem dX4_shineAll_11 : decode cX4_shineAll 11 = .ok (.getfield 35, 3) := by decide +kernel
theorem dX4_shineAll_14 : decode cX4_shineAll 14 = .ok (.if_icmp .ge 36, 3) := by decide +kernel
theorem dX4_shineAll_17 : decode cX4_shineAll 17 = .ok (.aload_n 0, 1) := by decide +kernel
theorem dX4_shineAll_18 : decode cX4_shineAll 18 = .ok (.iload_n 2, 1) := by decide +kernel
theorem dX4_shineAll_19 : decode cX4_shineAll 19 = .ok (.invokevirtual 55, 3) := by decide +kernel
theorem dX4_shineAll_22 : decode cX4_shineAll 22 = .ok (.astore_n 3, 1) := by decide +kernel
theorem dX4_shineAll_23 : decode cX4_shineAll 23 = .ok (.aload_n 3, 1) := by decide +kernel
theorem dX4_shineAll_24 : decode cX4_shineAll 24 = .ok (.ifnull 20, 3) := by decide +kernel
theorem dX4_shineAll_27 : decode cX4_shineAll 27 = .ok (.aload_n 0, 1) := by decide +kernel
theorem dX4_shineAll_28 : decode cX4_shineAll 28 = .ok (.aload_n 3, 1) := by decide +kernel
theorem dX4_shineAll_29 : decode cX4_shineAll 29 = .ok (.iload_n 1, 1) := by decide +kernel
theorem dX4_shineAll_30 : decode cX4_shineAll 30 = .ok (.invokevirtual 137, 3) := by decide +kernel
theorem dX4_shineAll_33 : decode cX4_shineAll 33 = .ok (.aload_n 0, 1) := by decide +kernel
theorem dX4_shineAll_34 : decode cX4_shineAll 34 = .ok (.getfield 31, 3) := by decide +kernel
theorem dX4_shineAll_37 : decode cX4_shineAll 37 = .ok (.aload_n 0, 1) := by decide +kernel
theorem dX4_shineAll_38 : decode cX4_shineAll 38 = .ok (.getfield 24, 3) := by decide +kernel
theorem dX4_shineAll_41 : decode cX4_shineAll 41 = .ok (.invokevirtual 221, 3) := by decide +kernel
theorem dX4_shineAll_44 : decode cX4_shineAll 44 = .ok (.iinc 2 1, 3) := by decide +kernel
theorem dX4_shineAll_47 : decode cX4_shineAll 47 = .ok (.goto (-38), 3) := by decide +kernel
theorem dX4_shineAll_50 : decode cX4_shineAll 50 = .ok (.return_, 1) := by decide +kernel
