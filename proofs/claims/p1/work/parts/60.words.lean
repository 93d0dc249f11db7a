theorem ax_gc {big l : List Cond} {w : Cond} (h1 : GoodIn big [w]) (h2 : GoodIn big l) : GoodIn big (w :: l) := fun x h => (List.mem_cons.mp h).elim (fun e => h1 x (by rw [e]; exact List.mem_cons_self)) (h2 x)
theorem ax_gn {big : List Cond} : GoodIn big ([] : List Cond) := fun _ h => absurd h List.not_mem_nil
set_option maxRecDepth 100000 in
theorem in_J0 : ∀ w ∈ wsJ00, w ∈ lw_tbl := by decide +kernel
set_option maxRecDepth 100000 in
theorem gs_J00 : GoodIn lw_tbl wsJ00 := goodIn_sub in_J0 (by decide +kernel)
set_option maxRecDepth 100000 in
theorem in_J4 : ∀ w ∈ wsJ40, w ∈ lw_tbl := by decide +kernel
set_option maxRecDepth 100000 in
theorem gs_J40 : GoodIn lw_tbl wsJ40 := goodIn_sub in_J4 (by decide +kernel)
set_option maxRecDepth 100000 in
theorem in_Jx00060 : ∀ w ∈ wsJx000600, w ∈ lw_tbl := by decide +kernel
set_option maxRecDepth 100000 in
theorem gs_Jx000600 : GoodIn lw_tbl wsJx000600 := goodIn_sub in_Jx00060 (by decide +kernel)
set_option maxRecDepth 100000 in
theorem in_Jx4a65c : ∀ w ∈ wsJx4a65c0, w ∈ lw_tbl := by decide +kernel
set_option maxRecDepth 100000 in
theorem gs_Jx4a65c0 : GoodIn lw_tbl wsJx4a65c0 := goodIn_sub in_Jx4a65c (by decide +kernel)
set_option maxRecDepth 100000 in
theorem in_X0 : ∀ w ∈ wsX00, w ∈ lw_tbl := by decide +kernel
set_option maxRecDepth 100000 in
theorem gs_X00 : GoodIn lw_tbl wsX00 := goodIn_sub in_X0 (by decide +kernel)
set_option maxRecDepth 100000 in
theorem in_X1 : ∀ w ∈ wsX10, w ∈ lw_tbl := by decide +kernel
set_option maxRecDepth 100000 in
theorem gs_X10 : GoodIn lw_tbl wsX10 := goodIn_sub in_X1 (by decide +kernel)
set_option maxRecDepth 100000 in
theorem in_X2 : ∀ w ∈ wsX20, w ∈ lw_tbl := by decide +kernel
set_option maxRecDepth 100000 in
theorem gs_X20 : GoodIn lw_tbl wsX20 := goodIn_sub in_X2 (by decide +kernel)
set_option maxRecDepth 100000 in
theorem in_X3 : ∀ w ∈ wsX30, w ∈ lw_tbl := by decide +kernel
set_option maxRecDepth 100000 in
theorem gs_X30 : GoodIn lw_tbl wsX30 := goodIn_sub in_X3 (by decide +kernel)
set_option maxRecDepth 100000 in
theorem in_X4 : ∀ w ∈ wsX40, w ∈ lw_tbl := by decide +kernel
set_option maxRecDepth 100000 in
theorem gs_X40 : GoodIn lw_tbl wsX40 := goodIn_sub in_X4 (by decide +kernel)
set_option maxRecDepth 100000 in
theorem in_X5 : ∀ w ∈ wsX50, w ∈ lw_tbl := by decide +kernel
set_option maxRecDepth 100000 in
theorem gs_X50 : GoodIn lw_tbl wsX50 := goodIn_sub in_X5 (by decide +kernel)
set_option maxRecDepth 100000 in
theorem in_X6 : ∀ w ∈ wsX60, w ∈ lw_tbl := by decide +kernel
set_option maxRecDepth 100000 in
theorem gs_X60 : GoodIn lw_tbl wsX60 := goodIn_sub in_X6 (by decide +kernel)
set_option maxRecDepth 100000 in
theorem in_X7 : ∀ w ∈ wsX70, w ∈ lw_tbl := by decide +kernel
set_option maxRecDepth 100000 in
theorem gs_X70 : GoodIn lw_tbl wsX70 := goodIn_sub in_X7 (by decide +kernel)
set_option maxRecDepth 100000 in
theorem gs_at63 : GoodIn lw_tbl ((vx_atS RX4 63 "java/lang/IndexOutOfBoundsException" ["java/lang/RuntimeException", "java/lang/Exception"]).filter goodWord) := goodIn_sub (by decide +kernel) (by decide +kernel)
set_option maxRecDepth 100000 in
theorem gs_at81 : GoodIn lw_tbl ((vx_atS RX4 81 "java/lang/IllegalArgumentException" ["java/lang/RuntimeException", "java/lang/Exception"]).filter goodWord) := goodIn_sub (by decide +kernel) (by decide +kernel)
set_option maxRecDepth 100000 in
theorem gs_at50 : GoodIn lw_tbl ((vx_atS RX4 50 "java/lang/IllegalStateException" ["java/lang/RuntimeException", "java/lang/Exception"]).filter goodWord) := goodIn_sub (by decide +kernel) (by decide +kernel)
set_option maxRecDepth 100000 in
theorem gs_wsX4_init_r1 : GoodIn lw_tbl wsX4_init_r1 := goodIn_r _ [77, 78, 79, 80, 114, 82, 115, 84, 85, 40, 118, 98, 99, 41, 119, 116, 117, 87, 88, 89, 97, 90, 91, 101] (by decide +kernel) (by decide +kernel)
set_option maxRecDepth 100000 in
theorem gs_wsX4_init_r2 : GoodIn lw_tbl wsX4_init_r2 := goodIn_r _ [102, 103, 104, 107] (by decide +kernel) (by decide +kernel)
set_option maxRecDepth 100000 in
theorem gs_wsX4_init : GoodIn lw_tbl wsX4_init := (ax_gc (goodIn_r _ [76] (by decide +kernel) (by decide +kernel)) (goodIn_app (goodIn_app (goodIn_app (goodIn_app gs_wsX4_init_r1 gs_wsX4_init_r2) gs_X40) gs_X00) gs_X20))
set_option maxRecDepth 100000 in
theorem gl_X4_init : GoodIn lw_tbl wsX4_init := gs_wsX4_init
set_option maxRecDepth 100000 in
theorem gs_wsX7_init : GoodIn lw_tbl wsX7_init := (ax_gc (goodIn_r _ [978] (by decide +kernel) (by decide +kernel)) (goodIn_app (goodIn_app (goodIn_r _ [979, 78, 79, 980, 981, 45, 1007, 1008, 982, 983, 984, 992, 994, 985, 986, 44, 987, 996, 988, 989, 43, 990, 991] (by decide +kernel) (by decide +kernel)) gs_Jx4a65c0) gs_X70))
set_option maxRecDepth 100000 in
theorem gl_X7_init : GoodIn lw_tbl wsX7_init := gs_wsX7_init
set_option maxRecDepth 100000 in
theorem gs_wsX4_source_r1 : GoodIn lw_tbl wsX4_source_r1 := goodIn_r _ [708, 50, 116, 114, 80, 724, 51, 704, 705, 39, 706, 163, 49, 672, 673, 674, 725, 726, 727, 728, 78, 79, 729, 732] (by decide +kernel) (by decide +kernel)
set_option maxRecDepth 100000 in
theorem gs_wsX4_source_r2 : GoodIn lw_tbl wsX4_source_r2 := goodIn_r _ [735] (by decide +kernel) (by decide +kernel)
set_option maxRecDepth 100000 in
theorem gs_wsX4_source : GoodIn lw_tbl wsX4_source := (ax_gc (goodIn_r _ [703] (by decide +kernel) (by decide +kernel)) (goodIn_app (goodIn_app (goodIn_app (goodIn_app (goodIn_app gs_wsX4_source_r1 gs_wsX4_source_r2) gs_X40) gs_X30) gs_at50) gs_at81))
set_option maxRecDepth 100000 in
theorem gl_L_source : GoodIn lw_tbl (va_wsS RL 102 yL_source wl_source) := goodIn_app (goodIn_r _ [695, 696, 38] (by decide +kernel) (by decide +kernel)) (ax_gc (goodIn_r _ [697] (by decide +kernel) (by decide +kernel)) (goodIn_app (goodIn_r _ [700, 701, 702, 39, 698, 699] (by decide +kernel) (by decide +kernel)) gs_wsX4_source))
set_option maxRecDepth 100000 in
theorem gs_wsX7_source_r1 : GoodIn lw_tbl wsX7_source_r1 := goodIn_r _ [1007, 1048, 1049, 52, 1027, 1028, 42, 1029, 1030, 1031, 1032, 1033, 1034, 1035, 1036, 1038, 14, 1039, 1006, 1040, 1042, 15, 1043, 1044] (by decide +kernel) (by decide +kernel)
set_option maxRecDepth 100000 in
theorem gs_wsX7_source_r2 : GoodIn lw_tbl wsX7_source_r2 := goodIn_r _ [1045, 1046, 45, 1047, 995, 1051, 1052, 1053, 78, 79, 1067, 1068, 1069, 1070, 1054, 1056, 1058, 1071, 1072, 1073, 1074, 997, 998, 994] (by decide +kernel) (by decide +kernel)
set_option maxRecDepth 100000 in
theorem gs_wsX7_source_r3 : GoodIn lw_tbl wsX7_source_r3 := goodIn_r _ [1075, 1077, 16, 1078, 1079, 1081, 17, 1082, 1083, 1085, 18, 1086, 992, 1116, 372, 54, 373, 1117, 1087, 369, 53, 370, 371, 374] (by decide +kernel) (by decide +kernel)
set_option maxRecDepth 100000 in
theorem gs_wsX7_source_r4 : GoodIn lw_tbl wsX7_source_r4 := goodIn_r _ [375, 376, 377, 1088, 1089, 55, 1090, 1091, 1447, 1092, 1109, 1110, 1111, 1112, 1113, 1115, 389, 390, 391, 392, 394, 393, 56] (by decide +kernel) (by decide +kernel)
set_option maxRecDepth 100000 in
theorem gs_wsX7_source : GoodIn lw_tbl wsX7_source := (ax_gc (goodIn_r _ [1026] (by decide +kernel) (by decide +kernel)) (goodIn_app (goodIn_app (goodIn_app (goodIn_app gs_wsX7_source_r1 (goodIn_app gs_wsX7_source_r2 (goodIn_app gs_wsX7_source_r3 gs_wsX7_source_r4))) gs_X70) gs_X60) gs_Jx4a65c0))
set_option maxRecDepth 100000 in
theorem gl_X7_source : GoodIn lw_tbl (wsV RL 107 RX7 yX7_source wsX7_source) := goodIn_app (goodIn_r _ [1023, 1024, 1025, 42] (by decide +kernel) (by decide +kernel)) gs_wsX7_source
set_option maxRecDepth 100000 in
theorem gs_wsX7_thrown : GoodIn lw_tbl wsX7_thrown := (ax_gc (goodIn_r _ [1022] (by decide +kernel) (by decide +kernel)) (goodIn_app (goodIn_r _ [1006] (by decide +kernel) (by decide +kernel)) gs_X70))
set_option maxRecDepth 100000 in
theorem gl_X7_thrown : GoodIn lw_tbl (wsV RL 108 RX7 yX7_thrown wsX7_thrown) := goodIn_app (goodIn_r _ [1019, 1020, 1021, 42] (by decide +kernel) (by decide +kernel)) gs_wsX7_thrown
set_option maxRecDepth 100000 in
theorem gs_wsX4_move : GoodIn lw_tbl wsX4_move := (ax_gc (goodIn_r _ [752] (by decide +kernel) (by decide +kernel)) (goodIn_app (goodIn_app (goodIn_app (goodIn_app (goodIn_r _ [240, 57, 737, 731, 734, 236, 238, 5, 39, 239, 116, 114, 704, 705, 706, 163, 49, 672, 673, 674] (by decide +kernel) (by decide +kernel)) gs_X30) gs_X40) gs_at63) gs_at81))
set_option maxRecDepth 100000 in
theorem gl_L_move : GoodIn lw_tbl (va_wsS RL 112 yL_move wl_move) := goodIn_app (goodIn_r _ [745, 746, 38] (by decide +kernel) (by decide +kernel)) (ax_gc (goodIn_r _ [747] (by decide +kernel) (by decide +kernel)) (goodIn_app (goodIn_r _ [749, 750, 751, 39, 748, 698] (by decide +kernel) (by decide +kernel)) gs_wsX4_move))
set_option maxRecDepth 100000 in
theorem gs_wsX7_move_r1 : GoodIn lw_tbl wsX7_move_r1 := goodIn_r _ [1007, 1048, 1059, 1044, 1045, 1046, 45, 1047, 995, 1033, 1034, 42, 1035, 1036, 1038, 14, 1039, 1006, 1040, 1042, 15, 1043, 1027, 1028] (by decide +kernel) (by decide +kernel)
set_option maxRecDepth 100000 in
theorem gs_wsX7_move_r2 : GoodIn lw_tbl wsX7_move_r2 := goodIn_r _ [1029, 1030, 1031, 1032, 1122, 1123, 1124, 1125, 1126, 1127, 58, 1128, 1129, 1130, 59, 1131, 1132, 1133, 1134, 1135, 994, 1067, 1068, 1069] (by decide +kernel) (by decide +kernel)
set_option maxRecDepth 100000 in
theorem gs_wsX7_move_r3 : GoodIn lw_tbl wsX7_move_r3 := goodIn_r _ [52, 1070, 1054, 1056, 1058] (by decide +kernel) (by decide +kernel)
set_option maxRecDepth 100000 in
theorem gs_wsX7_move : GoodIn lw_tbl wsX7_move := (ax_gc (goodIn_r _ [1121] (by decide +kernel) (by decide +kernel)) (goodIn_app (goodIn_app (goodIn_app (goodIn_app gs_wsX7_move_r1 (goodIn_app gs_wsX7_move_r2 gs_wsX7_move_r3)) gs_X70) gs_X60) gs_Jx4a65c0))
set_option maxRecDepth 100000 in
theorem gl_X7_move : GoodIn lw_tbl (wsV RL 115 RX7 yX7_move wsX7_move) := goodIn_app (goodIn_r _ [1118, 1119, 1120, 42] (by decide +kernel) (by decide +kernel)) gs_wsX7_move
set_option maxRecDepth 100000 in
theorem gs_wsX4_part_r1 : GoodIn lw_tbl wsX4_part_r1 := goodIn_r _ [163, 49, 708, 50, 117, 115, 82, 765, 60, 760, 761, 39, 762, 689, 690, 691, 692, 684, 685, 686, 687, 766, 767, 768] (by decide +kernel) (by decide +kernel)
set_option maxRecDepth 100000 in
theorem gs_wsX4_part_r2 : GoodIn lw_tbl wsX4_part_r2 := goodIn_r _ [769, 78, 79, 774, 776, 778, 795, 780, 770, 772] (by decide +kernel) (by decide +kernel)
set_option maxRecDepth 100000 in
theorem gs_wsX4_part : GoodIn lw_tbl wsX4_part := (ax_gc (goodIn_r _ [759] (by decide +kernel) (by decide +kernel)) (goodIn_app (goodIn_app (goodIn_app (goodIn_app (goodIn_app (goodIn_app gs_wsX4_part_r1 gs_wsX4_part_r2) gs_X40) gs_X10) gs_at81) gs_at50) ax_gn))
set_option maxRecDepth 100000 in
theorem gl_L_part : GoodIn lw_tbl (va_wsS RL 116 yL_part wl_part) := goodIn_app (goodIn_r _ [753, 754, 38] (by decide +kernel) (by decide +kernel)) (ax_gc (goodIn_r _ [755] (by decide +kernel) (by decide +kernel)) (goodIn_app (goodIn_r _ [756, 757, 758, 39, 698, 699] (by decide +kernel) (by decide +kernel)) gs_wsX4_part))
set_option maxRecDepth 100000 in
theorem gs_wsX7_part_r1 : GoodIn lw_tbl wsX7_part_r1 := goodIn_r _ [1008, 1147, 1148, 61, 1033, 1034, 42, 1035, 1140, 1141, 1142, 1143, 1145, 1036, 1038, 14, 1039, 1006, 1040, 1042, 15, 1043, 1044, 1045] (by decide +kernel) (by decide +kernel)
set_option maxRecDepth 100000 in
theorem gs_wsX7_part_r2 : GoodIn lw_tbl wsX7_part_r2 := goodIn_r _ [1046, 45, 1047, 995, 1149, 1150, 1151, 1152, 78, 79, 1157, 795, 1162, 1153, 1155, 1071, 1072, 1073, 1074, 997, 998, 994, 1075, 1077] (by decide +kernel) (by decide +kernel)
set_option maxRecDepth 100000 in
theorem gs_wsX7_part_r3 : GoodIn lw_tbl wsX7_part_r3 := goodIn_r _ [16, 1078, 1079, 1081, 17, 1082, 1083, 1085, 18, 1086, 992, 1116, 372, 54, 373, 1117, 1087, 369, 53, 370, 371, 374, 375, 376] (by decide +kernel) (by decide +kernel)
set_option maxRecDepth 100000 in
theorem gs_wsX7_part_r4 : GoodIn lw_tbl wsX7_part_r4 := goodIn_r _ [377, 1088, 1089, 55, 1090, 1091, 1447, 1092, 1109, 1110, 1111, 1112, 1113, 1115, 389, 390, 391, 392, 394, 393, 56] (by decide +kernel) (by decide +kernel)
set_option maxRecDepth 100000 in
theorem gs_wsX7_part : GoodIn lw_tbl wsX7_part := (ax_gc (goodIn_r _ [1139] (by decide +kernel) (by decide +kernel)) (goodIn_app (goodIn_app (goodIn_app (goodIn_app (goodIn_app gs_wsX7_part_r1 (goodIn_app gs_wsX7_part_r2 (goodIn_app gs_wsX7_part_r3 gs_wsX7_part_r4))) gs_X70) gs_X50) gs_Jx4a65c0) ax_gn))
set_option maxRecDepth 100000 in
theorem gl_X7_part : GoodIn lw_tbl (wsV RL 119 RX7 yX7_part wsX7_part) := goodIn_app (goodIn_r _ [1136, 1137, 1138, 42] (by decide +kernel) (by decide +kernel)) gs_wsX7_part
set_option maxRecDepth 100000 in
theorem gs_wsX4_set : GoodIn lw_tbl wsX4_set := (ax_gc (goodIn_r _ [802] (by decide +kernel) (by decide +kernel)) (goodIn_app (goodIn_app (goodIn_app (goodIn_app (goodIn_app (goodIn_r _ [240, 57, 163, 49, 771, 773, 147, 149, 1, 39, 150, 117, 115, 760, 761, 762, 689, 690, 691, 692, 684, 685, 686, 687] (by decide +kernel) (by decide +kernel)) gs_X10) gs_X40) gs_at63) gs_at81) ax_gn))
set_option maxRecDepth 100000 in
theorem gl_L_set : GoodIn lw_tbl (va_wsS RL 120 yL_set wl_set) := goodIn_app (goodIn_r _ [796, 797, 38] (by decide +kernel) (by decide +kernel)) (ax_gc (goodIn_r _ [798] (by decide +kernel) (by decide +kernel)) (goodIn_app (goodIn_r _ [799, 800, 801, 39, 748, 698] (by decide +kernel) (by decide +kernel)) gs_wsX4_set))
set_option maxRecDepth 100000 in
theorem gs_wsX7_set_r1 : GoodIn lw_tbl wsX7_set_r1 := goodIn_r _ [1008, 1147, 1154, 1156, 1181, 1183, 19, 42, 1184, 1044, 1045, 1046, 45, 1047, 995, 1033, 1034, 1035, 1036, 1038, 14, 1039, 1006, 1040] (by decide +kernel) (by decide +kernel)
set_option maxRecDepth 100000 in
theorem gs_wsX7_set_r2 : GoodIn lw_tbl wsX7_set_r2 := goodIn_r _ [1042, 15, 1043, 1122, 1123, 1124, 1125, 1126, 1127, 58, 1128, 1129, 1130, 59, 1131, 1132, 1133, 1134, 1135, 994, 1140, 1141, 1142, 1143] (by decide +kernel) (by decide +kernel)
set_option maxRecDepth 100000 in
theorem gs_wsX7_set_r3 : GoodIn lw_tbl wsX7_set_r3 := goodIn_r _ [1145] (by decide +kernel) (by decide +kernel)
set_option maxRecDepth 100000 in
theorem gs_wsX7_set : GoodIn lw_tbl wsX7_set := (ax_gc (goodIn_r _ [1180] (by decide +kernel) (by decide +kernel)) (goodIn_app (goodIn_app (goodIn_app (goodIn_app (goodIn_app gs_wsX7_set_r1 (goodIn_app gs_wsX7_set_r2 gs_wsX7_set_r3)) gs_X70) gs_X50) gs_Jx4a65c0) ax_gn))
set_option maxRecDepth 100000 in
theorem gl_X7_set : GoodIn lw_tbl (wsV RL 122 RX7 yX7_set wsX7_set) := goodIn_app (goodIn_r _ [1177, 1178, 1179, 42] (by decide +kernel) (by decide +kernel)) gs_wsX7_set
set_option maxRecDepth 100000 in
theorem gs_wsX4_put : GoodIn lw_tbl wsX4_put := (ax_gc (goodIn_r _ [810] (by decide +kernel) (by decide +kernel)) (goodIn_app (goodIn_app (goodIn_app (goodIn_r _ [240, 57, 775, 147, 149, 1, 39, 150, 117, 115] (by decide +kernel) (by decide +kernel)) gs_X10) gs_X40) gs_at63))
set_option maxRecDepth 100000 in
theorem gl_L_put : GoodIn lw_tbl (va_wsS RL 123 yL_put wl_put) := goodIn_app (goodIn_r _ [804, 805, 38] (by decide +kernel) (by decide +kernel)) (ax_gc (goodIn_r _ [806] (by decide +kernel) (by decide +kernel)) (goodIn_app (goodIn_r _ [807, 808, 809, 39, 748] (by decide +kernel) (by decide +kernel)) gs_wsX4_put))
set_option maxRecDepth 100000 in
theorem gs_wsX7_put_r1 : GoodIn lw_tbl wsX7_put_r1 := goodIn_r _ [1008, 1147, 1158, 1181, 1183, 19, 42, 1184, 1044, 1045, 1046, 45, 1047, 995, 1033, 1034, 1035, 1036, 1038, 14, 1039, 1006, 1040, 1042] (by decide +kernel) (by decide +kernel)
set_option maxRecDepth 100000 in
theorem gs_wsX7_put_r2 : GoodIn lw_tbl wsX7_put_r2 := goodIn_r _ [15, 1043, 1122, 1123, 1124, 1125, 1126, 1127, 58, 1128, 1129, 1130, 59, 1131, 1132, 1133, 1134, 1135, 994] (by decide +kernel) (by decide +kernel)
set_option maxRecDepth 100000 in
theorem gs_wsX7_put : GoodIn lw_tbl wsX7_put := (ax_gc (goodIn_r _ [1188] (by decide +kernel) (by decide +kernel)) (goodIn_app (goodIn_app (goodIn_app (goodIn_app gs_wsX7_put_r1 gs_wsX7_put_r2) gs_X70) gs_X50) gs_Jx4a65c0))
set_option maxRecDepth 100000 in
theorem gl_X7_put : GoodIn lw_tbl (wsV RL 126 RX7 yX7_put wsX7_put) := goodIn_app (goodIn_r _ [1185, 1186, 1187, 42] (by decide +kernel) (by decide +kernel)) gs_wsX7_put
set_option maxRecDepth 100000 in
theorem gs_wsX4_dirt : GoodIn lw_tbl wsX4_dirt := (ax_gc (goodIn_r _ [817] (by decide +kernel) (by decide +kernel)) (goodIn_app (goodIn_app (goodIn_app (goodIn_app (goodIn_r _ [240, 57, 163, 49, 777, 147, 149, 1, 39, 150, 117, 115] (by decide +kernel) (by decide +kernel)) gs_X10) gs_X40) gs_at63) gs_at81))
set_option maxRecDepth 100000 in
theorem gl_L_dirt : GoodIn lw_tbl (va_wsS RL 127 yL_dirt wl_dirt) := goodIn_app (goodIn_r _ [811, 812, 38] (by decide +kernel) (by decide +kernel)) (ax_gc (goodIn_r _ [813] (by decide +kernel) (by decide +kernel)) (goodIn_app (goodIn_r _ [814, 815, 816, 39, 748, 698] (by decide +kernel) (by decide +kernel)) gs_wsX4_dirt))
set_option maxRecDepth 100000 in
theorem gs_wsX7_dirt_r1 : GoodIn lw_tbl wsX7_dirt_r1 := goodIn_r _ [1008, 1147, 1160, 1181, 1183, 19, 42, 1184, 1044, 1045, 1046, 45, 1047, 995, 1033, 1034, 1035, 1036, 1038, 14, 1039, 1006, 1040, 1042] (by decide +kernel) (by decide +kernel)
set_option maxRecDepth 100000 in
theorem gs_wsX7_dirt_r2 : GoodIn lw_tbl wsX7_dirt_r2 := goodIn_r _ [15, 1043, 1122, 1123, 1124, 1125, 1126, 1127, 58, 1128, 1129, 1130, 59, 1131, 1132, 1133, 1134, 1135, 994] (by decide +kernel) (by decide +kernel)
set_option maxRecDepth 100000 in
theorem gs_wsX7_dirt : GoodIn lw_tbl wsX7_dirt := (ax_gc (goodIn_r _ [1192] (by decide +kernel) (by decide +kernel)) (goodIn_app (goodIn_app (goodIn_app (goodIn_app gs_wsX7_dirt_r1 gs_wsX7_dirt_r2) gs_X70) gs_X50) gs_Jx4a65c0))
set_option maxRecDepth 100000 in
theorem gl_X7_dirt : GoodIn lw_tbl (wsV RL 129 RX7 yX7_dirt wsX7_dirt) := goodIn_app (goodIn_r _ [1189, 1190, 1191, 42] (by decide +kernel) (by decide +kernel)) gs_wsX7_dirt
set_option maxRecDepth 100000 in
theorem gs_wsX4_expose_r1 : GoodIn lw_tbl wsX4_expose_r1 := goodIn_r _ [240, 57, 163, 49, 708, 50, 771, 775, 119, 147, 149, 1, 39, 150, 117, 115, 615, 617, 9, 618, 116, 118, 581, 582] (by decide +kernel) (by decide +kernel)
set_option maxRecDepth 100000 in
theorem gs_wsX4_expose_r2 : GoodIn lw_tbl wsX4_expose_r2 := goodIn_r _ [583, 41, 584, 104, 107, 585, 270, 55, 271, 236, 238, 5, 239, 114, 261, 263, 6, 264, 265, 266, 267, 40, 268, 90] (by decide +kernel) (by decide +kernel)
set_option maxRecDepth 100000 in
theorem gs_wsX4_expose_r3 : GoodIn lw_tbl wsX4_expose_r3 := goodIn_r _ [733, 730, 736, 269, 272, 273, 274, 275, 276, 277, 60, 278, 770, 772, 780, 776, 279, 280, 281, 282, 283, 285, 7, 286] (by decide +kernel) (by decide +kernel)
set_option maxRecDepth 100000 in
theorem gs_wsX4_expose_r4 : GoodIn lw_tbl wsX4_expose_r4 := goodIn_r _ [91, 287, 288, 289, 290, 291, 292, 293, 294, 295, 296, 297, 298, 299, 300, 301, 302, 303, 304, 305, 306, 307, 308, 309] (by decide +kernel) (by decide +kernel)
set_option maxRecDepth 100000 in
theorem gs_wsX4_expose_r5 : GoodIn lw_tbl wsX4_expose_r5 := goodIn_r _ [310, 311, 312, 313, 314, 315, 317, 318, 63, 558, 559, 69, 586, 587, 588, 589, 590, 591, 592, 593, 594, 595, 596, 597] (by decide +kernel) (by decide +kernel)
set_option maxRecDepth 100000 in
theorem gs_wsX4_expose_r6 : GoodIn lw_tbl wsX4_expose_r6 := goodIn_r _ [598, 599, 600, 601, 602, 604, 8, 605, 828, 829, 830, 831, 105, 832, 833, 834, 54, 835, 778, 642, 643, 644, 645] (by decide +kernel) (by decide +kernel)
set_option maxRecDepth 100000 in
theorem gs_wsX4_expose : GoodIn lw_tbl wsX4_expose := (ax_gc (goodIn_r _ [825] (by decide +kernel) (by decide +kernel)) (goodIn_app (goodIn_app (goodIn_app (goodIn_app (goodIn_app (goodIn_app (goodIn_app (goodIn_app (goodIn_app (goodIn_app (goodIn_app (goodIn_app gs_wsX4_expose_r1 (goodIn_app gs_wsX4_expose_r2 (goodIn_app gs_wsX4_expose_r3 (goodIn_app gs_wsX4_expose_r4 (goodIn_app gs_wsX4_expose_r5 gs_wsX4_expose_r6))))) gs_X10) gs_X40) gs_X20) gs_X00) gs_X30) gs_J40) gs_Jx000600) gs_at63) gs_at81) gs_at50) ax_gn))
set_option maxRecDepth 100000 in
theorem gl_L_expose : GoodIn lw_tbl (va_wsS RL 130 yL_expose wl_expose) := goodIn_app (goodIn_r _ [819, 820, 38] (by decide +kernel) (by decide +kernel)) (ax_gc (goodIn_r _ [821] (by decide +kernel) (by decide +kernel)) (goodIn_app (goodIn_r _ [822, 823, 824, 39, 748, 698, 699] (by decide +kernel) (by decide +kernel)) gs_wsX4_expose))
set_option maxRecDepth 100000 in
theorem gs_wsX7_expose_r1 : GoodIn lw_tbl wsX7_expose_r1 := goodIn_r _ [1008, 1147, 1154, 1158, 1163, 1229, 1237, 834, 54, 835, 1161, 1009, 1181, 1183, 19, 42, 1184, 1044, 1045, 1046, 45, 1047, 995, 1033] (by decide +kernel) (by decide +kernel)
set_option maxRecDepth 100000 in
theorem gs_wsX7_expose_r2 : GoodIn lw_tbl wsX7_expose_r2 := goodIn_r _ [1034, 1035, 1036, 1038, 14, 1039, 1006, 1040, 1042, 15, 1043, 1122, 1123, 1124, 1125, 1126, 1127, 58, 1128, 1129, 1130, 59, 1131, 1132] (by decide +kernel) (by decide +kernel)
set_option maxRecDepth 100000 in
theorem gs_wsX7_expose_r3 : GoodIn lw_tbl wsX7_expose_r3 := goodIn_r _ [1133, 1134, 1135, 994, 1197, 1199, 20, 1200, 1201, 1203, 21, 1204, 1205, 1207, 22, 1208, 1007, 97, 1048, 1055, 1057, 1059, 1209, 1210] (by decide +kernel) (by decide +kernel)
set_option maxRecDepth 100000 in
theorem gs_wsX7_expose_r4 : GoodIn lw_tbl wsX7_expose_r4 := goodIn_r _ [1211, 1212, 1213, 1214, 1215, 1217, 23, 1218, 1160, 1219, 1220, 1221, 1156, 1222, 1223, 1224, 1225, 1226, 1227, 1228, 1230, 1232, 24, 1233] (by decide +kernel) (by decide +kernel)
set_option maxRecDepth 100000 in
theorem gs_wsX7_expose_r5 : GoodIn lw_tbl wsX7_expose_r5 := goodIn_r _ [1234, 1235, 1236, 1238, 1239, 1240, 61, 1241, 1162] (by decide +kernel) (by decide +kernel)
set_option maxRecDepth 100000 in
theorem gs_wsX7_expose : GoodIn lw_tbl wsX7_expose := (ax_gc (goodIn_r _ [1196] (by decide +kernel) (by decide +kernel)) (goodIn_app (goodIn_app (goodIn_app (goodIn_app (goodIn_app (goodIn_app gs_wsX7_expose_r1 (goodIn_app gs_wsX7_expose_r2 (goodIn_app gs_wsX7_expose_r3 (goodIn_app gs_wsX7_expose_r4 gs_wsX7_expose_r5)))) gs_X70) gs_X50) gs_Jx4a65c0) gs_X60) ax_gn))
set_option maxRecDepth 100000 in
theorem gl_X7_expose : GoodIn lw_tbl (wsV RL 132 RX7 yX7_expose wsX7_expose) := goodIn_app (goodIn_r _ [1193, 1194, 1195, 42] (by decide +kernel) (by decide +kernel)) gs_wsX7_expose
set_option maxRecDepth 100000 in
theorem gs_wsX4_amplitude_r1 : GoodIn lw_tbl wsX4_amplitude_r1 := goodIn_r _ [240, 57, 163, 49, 118, 843, 845, 11, 39, 846, 117, 236, 238, 5, 239, 116, 114, 672, 673, 674, 261, 263, 6, 264] (by decide +kernel) (by decide +kernel)
set_option maxRecDepth 100000 in
theorem gs_wsX4_amplitude_r2 : GoodIn lw_tbl wsX4_amplitude_r2 := goodIn_r _ [775, 265, 266, 267, 40, 268, 90, 733, 730, 736, 269, 270, 55, 271, 272, 273, 274, 147, 149, 1, 150, 115, 275, 276] (by decide +kernel) (by decide +kernel)
set_option maxRecDepth 100000 in
theorem gs_wsX4_amplitude_r3 : GoodIn lw_tbl wsX4_amplitude_r3 := goodIn_r _ [277, 60, 278, 770, 772, 780, 776, 279, 280, 281, 282, 283, 285, 7, 286, 91, 287, 288, 289, 290, 291, 292, 293, 294] (by decide +kernel) (by decide +kernel)
set_option maxRecDepth 100000 in
theorem gs_wsX4_amplitude_r4 : GoodIn lw_tbl wsX4_amplitude_r4 := goodIn_r _ [295, 296, 297, 298, 299, 300, 301, 302, 303, 304, 305, 306, 307, 308, 309, 310, 311, 312, 313, 314, 315, 317, 318, 63] (by decide +kernel) (by decide +kernel)
set_option maxRecDepth 100000 in
theorem gs_wsX4_amplitude_r5 : GoodIn lw_tbl wsX4_amplitude_r5 := goodIn_r _ [558, 559, 69, 849, 595, 596, 597] (by decide +kernel) (by decide +kernel)
set_option maxRecDepth 100000 in
theorem gs_wsX4_amplitude : GoodIn lw_tbl wsX4_amplitude := (ax_gc (goodIn_r _ [842] (by decide +kernel) (by decide +kernel)) (goodIn_app (goodIn_app (goodIn_app (goodIn_app (goodIn_app (goodIn_app (goodIn_app (goodIn_app (goodIn_app (goodIn_app gs_wsX4_amplitude_r1 (goodIn_app gs_wsX4_amplitude_r2 (goodIn_app gs_wsX4_amplitude_r3 (goodIn_app gs_wsX4_amplitude_r4 gs_wsX4_amplitude_r5)))) gs_X40) gs_X10) gs_X00) gs_X30) gs_J40) gs_Jx000600) gs_at63) gs_at81) ax_gn))
set_option maxRecDepth 100000 in
theorem gl_L_amplitude : GoodIn lw_tbl (va_wsS RL 133 yL_amplitude wl_amplitude) := goodIn_app (goodIn_r _ [836, 837, 38] (by decide +kernel) (by decide +kernel)) (ax_gc (goodIn_r _ [838] (by decide +kernel) (by decide +kernel)) (goodIn_app (goodIn_r _ [839, 840, 841, 39, 748, 698] (by decide +kernel) (by decide +kernel)) gs_wsX4_amplitude))
set_option maxRecDepth 100000 in
theorem gs_wsX7_amplitude_r1 : GoodIn lw_tbl wsX7_amplitude_r1 := goodIn_r _ [1007, 1246, 1248, 25, 42, 1249, 1181, 1183, 19, 1184, 1008, 1044, 1045, 1046, 45, 1047, 995, 1033, 1034, 1035, 1030, 1031, 1032, 1036] (by decide +kernel) (by decide +kernel)
set_option maxRecDepth 100000 in
theorem gs_wsX7_amplitude_r2 : GoodIn lw_tbl wsX7_amplitude_r2 := goodIn_r _ [1038, 14, 1039, 1006, 1040, 1042, 15, 1043, 1197, 1199, 20, 1200, 1201, 1203, 21, 1204, 1147, 1205, 1207, 22, 1208, 97, 1048, 1055] (by decide +kernel) (by decide +kernel)
set_option maxRecDepth 100000 in
theorem gs_wsX7_amplitude_r3 : GoodIn lw_tbl wsX7_amplitude_r3 := goodIn_r _ [1057, 1059, 1122, 1123, 1124, 1125, 1126, 1127, 58, 1128, 1129, 1130, 59, 1131, 1132, 1133, 1134, 1135, 994, 1209, 1210, 1211, 1212, 1213] (by decide +kernel) (by decide +kernel)
set_option maxRecDepth 100000 in
theorem gs_wsX7_amplitude_r4 : GoodIn lw_tbl wsX7_amplitude_r4 := goodIn_r _ [1214, 1215, 1217, 23, 1218, 1158, 1160, 1219, 1220, 1221, 1154, 1156, 1163, 1222, 1223, 1224, 1225, 1226, 1227, 1228] (by decide +kernel) (by decide +kernel)
set_option maxRecDepth 100000 in
theorem gs_wsX7_amplitude : GoodIn lw_tbl wsX7_amplitude := (ax_gc (goodIn_r _ [1245] (by decide +kernel) (by decide +kernel)) (goodIn_app (goodIn_app (goodIn_app (goodIn_app (goodIn_app (goodIn_app gs_wsX7_amplitude_r1 (goodIn_app gs_wsX7_amplitude_r2 (goodIn_app gs_wsX7_amplitude_r3 gs_wsX7_amplitude_r4))) gs_X70) gs_Jx4a65c0) gs_X60) gs_X50) ax_gn))
set_option maxRecDepth 100000 in
theorem gl_X7_amplitude : GoodIn lw_tbl (wsV RL 135 RX7 yX7_amplitude wsX7_amplitude) := goodIn_app (goodIn_r _ [1242, 1243, 1244, 42] (by decide +kernel) (by decide +kernel)) gs_wsX7_amplitude
set_option maxRecDepth 100000 in
theorem gs_wsX4_whole_r1 : GoodIn lw_tbl wsX4_whole_r1 := goodIn_r _ [119, 106, 843, 845, 11, 39, 846, 240, 57, 117, 669, 670, 671, 672, 673, 674, 615, 617, 9, 618, 116, 118, 581, 582] (by decide +kernel) (by decide +kernel)
set_option maxRecDepth 100000 in
theorem gs_wsX4_whole_r2 : GoodIn lw_tbl wsX4_whole_r2 := goodIn_r _ [583, 41, 584, 104, 107, 585, 270, 55, 271, 236, 238, 5, 239, 114, 261, 263, 6, 264, 775, 265, 266, 267, 40, 268] (by decide +kernel) (by decide +kernel)
set_option maxRecDepth 100000 in
theorem gs_wsX4_whole_r3 : GoodIn lw_tbl wsX4_whole_r3 := goodIn_r _ [90, 733, 730, 736, 269, 272, 273, 274, 147, 149, 1, 150, 115, 275, 276, 277, 60, 278, 770, 772, 780, 776, 279, 280] (by decide +kernel) (by decide +kernel)
set_option maxRecDepth 100000 in
theorem gs_wsX4_whole_r4 : GoodIn lw_tbl wsX4_whole_r4 := goodIn_r _ [281, 282, 283, 285, 7, 286, 91, 287, 288, 289, 290, 291, 292, 293, 294, 295, 296, 297, 298, 299, 300, 301, 302, 303] (by decide +kernel) (by decide +kernel)
set_option maxRecDepth 100000 in
theorem gs_wsX4_whole_r5 : GoodIn lw_tbl wsX4_whole_r5 := goodIn_r _ [304, 305, 306, 307, 308, 309, 310, 311, 312, 313, 314, 315, 317, 318, 63, 558, 559, 69, 586, 587, 588, 589, 590, 591] (by decide +kernel) (by decide +kernel)
set_option maxRecDepth 100000 in
theorem gs_wsX4_whole_r6 : GoodIn lw_tbl wsX4_whole_r6 := goodIn_r _ [592, 593, 594, 595, 596, 597, 598, 599, 600, 601, 602, 604, 8, 605] (by decide +kernel) (by decide +kernel)
set_option maxRecDepth 100000 in
theorem gs_wsX4_whole : GoodIn lw_tbl wsX4_whole := (ax_gc (goodIn_r _ [856] (by decide +kernel) (by decide +kernel)) (goodIn_app (goodIn_app (goodIn_app (goodIn_app (goodIn_app (goodIn_app (goodIn_app (goodIn_app (goodIn_app (goodIn_app gs_wsX4_whole_r1 (goodIn_app gs_wsX4_whole_r2 (goodIn_app gs_wsX4_whole_r3 (goodIn_app gs_wsX4_whole_r4 (goodIn_app gs_wsX4_whole_r5 gs_wsX4_whole_r6))))) gs_X40) gs_X20) gs_X10) gs_X00) gs_X30) gs_J40) gs_Jx000600) ax_gn) gs_at63))
set_option maxRecDepth 100000 in
theorem gl_L_whole : GoodIn lw_tbl (va_wsS RL 136 yL_whole wl_whole) := goodIn_app (goodIn_r _ [850, 851, 38] (by decide +kernel) (by decide +kernel)) (ax_gc (goodIn_r _ [852] (by decide +kernel) (by decide +kernel)) (goodIn_app (goodIn_r _ [853, 854, 855, 39, 748] (by decide +kernel) (by decide +kernel)) gs_wsX4_whole))
set_option maxRecDepth 100000 in
theorem gs_wsX7_whole___r1 : GoodIn lw_tbl wsX7_whole___r1 := goodIn_r _ [1246, 1248, 25, 42, 1249, 1181, 1183, 19, 1184, 1008, 1044, 1045, 1046, 45, 1047, 995, 1033, 1034, 1035, 1030, 1031, 1032, 1036, 1038] (by decide +kernel) (by decide +kernel)
set_option maxRecDepth 100000 in
theorem gs_wsX7_whole___r2 : GoodIn lw_tbl wsX7_whole___r2 := goodIn_r _ [14, 1039, 1006, 1040, 1042, 15, 1043, 1197, 1199, 20, 1200, 1201, 1203, 21, 1204, 1147, 1205, 1207, 22, 1208, 1007, 97, 1048, 1055] (by decide +kernel) (by decide +kernel)
set_option maxRecDepth 100000 in
theorem gs_wsX7_whole___r3 : GoodIn lw_tbl wsX7_whole___r3 := goodIn_r _ [1057, 1059, 1122, 1123, 1124, 1125, 1126, 1127, 58, 1128, 1129, 1130, 59, 1131, 1132, 1133, 1134, 1135, 994, 1209, 1210, 1211, 1212, 1213] (by decide +kernel) (by decide +kernel)
set_option maxRecDepth 100000 in
theorem gs_wsX7_whole___r4 : GoodIn lw_tbl wsX7_whole___r4 := goodIn_r _ [1214, 1215, 1217, 23, 1218, 1158, 1160, 1219, 1220, 1221, 1154, 1156, 1163, 1222, 1223, 1224, 1225, 1226, 1227, 1228, 1230, 1232, 24, 1233] (by decide +kernel) (by decide +kernel)
set_option maxRecDepth 100000 in
theorem gs_wsX7_whole___r5 : GoodIn lw_tbl wsX7_whole___r5 := goodIn_r _ [1234, 1235, 1236] (by decide +kernel) (by decide +kernel)
set_option maxRecDepth 100000 in
theorem gs_wsX7_whole__ : GoodIn lw_tbl wsX7_whole__ := (ax_gc (goodIn_r _ [1253] (by decide +kernel) (by decide +kernel)) (goodIn_app (goodIn_app (goodIn_app (goodIn_app (goodIn_app (goodIn_app gs_wsX7_whole___r1 (goodIn_app gs_wsX7_whole___r2 (goodIn_app gs_wsX7_whole___r3 (goodIn_app gs_wsX7_whole___r4 gs_wsX7_whole___r5)))) gs_X70) gs_Jx4a65c0) gs_X60) gs_X50) ax_gn))
set_option maxRecDepth 100000 in
theorem gl_X7_whole__ : GoodIn lw_tbl (wsV RL 138 RX7 yX7_whole__ wsX7_whole__) := goodIn_app (goodIn_r _ [1250, 1251, 1252, 42] (by decide +kernel) (by decide +kernel)) gs_wsX7_whole__
set_option maxRecDepth 100000 in
theorem gs_wsX4_root_r1 : GoodIn lw_tbl wsX4_root_r1 := goodIn_r _ [119, 108, 843, 845, 11, 39, 846, 240, 57, 117, 669, 670, 671, 672, 673, 674, 615, 617, 9, 618, 116, 118, 581, 582] (by decide +kernel) (by decide +kernel)
set_option maxRecDepth 100000 in
theorem gs_wsX4_root_r2 : GoodIn lw_tbl wsX4_root_r2 := goodIn_r _ [583, 41, 584, 104, 107, 585, 270, 55, 271, 236, 238, 5, 239, 114, 261, 263, 6, 264, 775, 265, 266, 267, 40, 268] (by decide +kernel) (by decide +kernel)
set_option maxRecDepth 100000 in
theorem gs_wsX4_root_r3 : GoodIn lw_tbl wsX4_root_r3 := goodIn_r _ [90, 733, 730, 736, 269, 272, 273, 274, 147, 149, 1, 150, 115, 275, 276, 277, 60, 278, 770, 772, 780, 776, 279, 280] (by decide +kernel) (by decide +kernel)
set_option maxRecDepth 100000 in
theorem gs_wsX4_root_r4 : GoodIn lw_tbl wsX4_root_r4 := goodIn_r _ [281, 282, 283, 285, 7, 286, 91, 287, 288, 289, 290, 291, 292, 293, 294, 295, 296, 297, 298, 299, 300, 301, 302, 303] (by decide +kernel) (by decide +kernel)
set_option maxRecDepth 100000 in
theorem gs_wsX4_root_r5 : GoodIn lw_tbl wsX4_root_r5 := goodIn_r _ [304, 305, 306, 307, 308, 309, 310, 311, 312, 313, 314, 315, 317, 318, 63, 558, 559, 69, 586, 587, 588, 589, 590, 591] (by decide +kernel) (by decide +kernel)
set_option maxRecDepth 100000 in
theorem gs_wsX4_root_r6 : GoodIn lw_tbl wsX4_root_r6 := goodIn_r _ [592, 593, 594, 595, 596, 597, 598, 599, 600, 601, 602, 604, 8, 605] (by decide +kernel) (by decide +kernel)
set_option maxRecDepth 100000 in
theorem gs_wsX4_root : GoodIn lw_tbl wsX4_root := (ax_gc (goodIn_r _ [863] (by decide +kernel) (by decide +kernel)) (goodIn_app (goodIn_app (goodIn_app (goodIn_app (goodIn_app (goodIn_app (goodIn_app (goodIn_app (goodIn_app (goodIn_app gs_wsX4_root_r1 (goodIn_app gs_wsX4_root_r2 (goodIn_app gs_wsX4_root_r3 (goodIn_app gs_wsX4_root_r4 (goodIn_app gs_wsX4_root_r5 gs_wsX4_root_r6))))) gs_X40) gs_X20) gs_X10) gs_X00) gs_X30) gs_J40) gs_Jx000600) ax_gn) gs_at63))
set_option maxRecDepth 100000 in
theorem gl_L_root : GoodIn lw_tbl (va_wsS RL 139 yL_root wl_root) := goodIn_app (goodIn_r _ [857, 858, 38] (by decide +kernel) (by decide +kernel)) (ax_gc (goodIn_r _ [859] (by decide +kernel) (by decide +kernel)) (goodIn_app (goodIn_r _ [860, 861, 862, 39, 748] (by decide +kernel) (by decide +kernel)) gs_wsX4_root))
set_option maxRecDepth 100000 in
theorem gs_wsX7_root___r1 : GoodIn lw_tbl wsX7_root___r1 := goodIn_r _ [1246, 1248, 25, 42, 1249, 1181, 1183, 19, 1184, 1008, 1044, 1045, 1046, 45, 1047, 995, 1033, 1034, 1035, 1030, 1031, 1032, 1036, 1038] (by decide +kernel) (by decide +kernel)
set_option maxRecDepth 100000 in
theorem gs_wsX7_root___r2 : GoodIn lw_tbl wsX7_root___r2 := goodIn_r _ [14, 1039, 1006, 1040, 1042, 15, 1043, 1197, 1199, 20, 1200, 1201, 1203, 21, 1204, 1147, 1205, 1207, 22, 1208, 1007, 97, 1048, 1055] (by decide +kernel) (by decide +kernel)
set_option maxRecDepth 100000 in
theorem gs_wsX7_root___r3 : GoodIn lw_tbl wsX7_root___r3 := goodIn_r _ [1057, 1059, 1122, 1123, 1124, 1125, 1126, 1127, 58, 1128, 1129, 1130, 59, 1131, 1132, 1133, 1134, 1135, 994, 1209, 1210, 1211, 1212, 1213] (by decide +kernel) (by decide +kernel)
set_option maxRecDepth 100000 in
theorem gs_wsX7_root___r4 : GoodIn lw_tbl wsX7_root___r4 := goodIn_r _ [1214, 1215, 1217, 23, 1218, 1158, 1160, 1219, 1220, 1221, 1154, 1156, 1163, 1222, 1223, 1224, 1225, 1226, 1227, 1228, 1258, 1260, 26, 1261] (by decide +kernel) (by decide +kernel)
set_option maxRecDepth 100000 in
theorem gs_wsX7_root___r5 : GoodIn lw_tbl wsX7_root___r5 := goodIn_r _ [1262, 1263, 1264] (by decide +kernel) (by decide +kernel)
set_option maxRecDepth 100000 in
theorem gs_wsX7_root__ : GoodIn lw_tbl wsX7_root__ := (ax_gc (goodIn_r _ [1257] (by decide +kernel) (by decide +kernel)) (goodIn_app (goodIn_app (goodIn_app (goodIn_app (goodIn_app (goodIn_app gs_wsX7_root___r1 (goodIn_app gs_wsX7_root___r2 (goodIn_app gs_wsX7_root___r3 (goodIn_app gs_wsX7_root___r4 gs_wsX7_root___r5)))) gs_X70) gs_Jx4a65c0) gs_X60) gs_X50) ax_gn))
set_option maxRecDepth 100000 in
theorem gl_X7_root__ : GoodIn lw_tbl (wsV RL 141 RX7 yX7_root__ wsX7_root__) := goodIn_app (goodIn_r _ [1254, 1255, 1256, 42] (by decide +kernel) (by decide +kernel)) gs_wsX7_root__
set_option maxRecDepth 100000 in
theorem gs_wsX4_power_r1 : GoodIn lw_tbl wsX4_power_r1 := goodIn_r _ [119, 843, 845, 11, 39, 846, 240, 57, 117, 615, 617, 9, 618, 116, 118, 581, 582, 583, 41, 584, 104, 107, 585, 270] (by decide +kernel) (by decide +kernel)
set_option maxRecDepth 100000 in
theorem gs_wsX4_power_r2 : GoodIn lw_tbl wsX4_power_r2 := goodIn_r _ [55, 271, 236, 238, 5, 239, 114, 261, 263, 6, 264, 775, 265, 266, 267, 40, 268, 90, 733, 730, 736, 269, 272, 273] (by decide +kernel) (by decide +kernel)
set_option maxRecDepth 100000 in
theorem gs_wsX4_power_r3 : GoodIn lw_tbl wsX4_power_r3 := goodIn_r _ [274, 147, 149, 1, 150, 115, 275, 276, 277, 60, 278, 770, 772, 780, 776, 279, 280, 281, 282, 283, 285, 7, 286, 91] (by decide +kernel) (by decide +kernel)
set_option maxRecDepth 100000 in
theorem gs_wsX4_power_r4 : GoodIn lw_tbl wsX4_power_r4 := goodIn_r _ [287, 288, 289, 290, 291, 292, 293, 294, 295, 296, 297, 298, 299, 300, 301, 302, 303, 304, 305, 306, 307, 308, 309, 310] (by decide +kernel) (by decide +kernel)
set_option maxRecDepth 100000 in
theorem gs_wsX4_power_r5 : GoodIn lw_tbl wsX4_power_r5 := goodIn_r _ [311, 312, 313, 314, 315, 317, 318, 63, 558, 559, 69, 586, 587, 588, 589, 590, 591, 592, 593, 594, 595, 596, 597, 598] (by decide +kernel) (by decide +kernel)
set_option maxRecDepth 100000 in
theorem gs_wsX4_power_r6 : GoodIn lw_tbl wsX4_power_r6 := goodIn_r _ [599, 600, 601, 602, 604, 8, 605, 871, 872, 873, 874, 655, 656, 657, 651, 652, 653, 654] (by decide +kernel) (by decide +kernel)
set_option maxRecDepth 100000 in
theorem gs_wsX4_power : GoodIn lw_tbl wsX4_power := (ax_gc (goodIn_r _ [870] (by decide +kernel) (by decide +kernel)) (goodIn_app (goodIn_app (goodIn_app (goodIn_app (goodIn_app (goodIn_app (goodIn_app (goodIn_app (goodIn_app (goodIn_app gs_wsX4_power_r1 (goodIn_app gs_wsX4_power_r2 (goodIn_app gs_wsX4_power_r3 (goodIn_app gs_wsX4_power_r4 (goodIn_app gs_wsX4_power_r5 gs_wsX4_power_r6))))) gs_X40) gs_X20) gs_X10) gs_X00) gs_X30) gs_J40) gs_Jx000600) gs_at63) ax_gn))
set_option maxRecDepth 100000 in
theorem gl_L_power : GoodIn lw_tbl (va_wsS RL 142 yL_power wl_power) := goodIn_app (goodIn_r _ [864, 865, 38] (by decide +kernel) (by decide +kernel)) (ax_gc (goodIn_r _ [866] (by decide +kernel) (by decide +kernel)) (goodIn_app (goodIn_r _ [867, 868, 869, 39, 748] (by decide +kernel) (by decide +kernel)) gs_wsX4_power))
set_option maxRecDepth 100000 in
theorem gs_wsX7_power__r1 : GoodIn lw_tbl wsX7_power__r1 := goodIn_r _ [1246, 1248, 25, 42, 1249, 1181, 1183, 19, 1184, 1008, 1044, 1045, 1046, 45, 1047, 995, 1033, 1034, 1035, 1036, 1038, 14, 1039, 1006] (by decide +kernel) (by decide +kernel)
set_option maxRecDepth 100000 in
theorem gs_wsX7_power__r2 : GoodIn lw_tbl wsX7_power__r2 := goodIn_r _ [1040, 1042, 15, 1043, 1197, 1199, 20, 1200, 1201, 1203, 21, 1204, 1147, 1205, 1207, 22, 1208, 1007, 97, 1048, 1055, 1057, 1059, 1122] (by decide +kernel) (by decide +kernel)
set_option maxRecDepth 100000 in
theorem gs_wsX7_power__r3 : GoodIn lw_tbl wsX7_power__r3 := goodIn_r _ [1123, 1124, 1125, 1126, 1127, 58, 1128, 1129, 1130, 59, 1131, 1132, 1133, 1134, 1135, 994, 1209, 1210, 1211, 1212, 1213, 1214, 1215, 1217] (by decide +kernel) (by decide +kernel)
set_option maxRecDepth 100000 in
theorem gs_wsX7_power__r4 : GoodIn lw_tbl wsX7_power__r4 := goodIn_r _ [23, 1218, 1158, 1160, 1219, 1220, 1221, 1154, 1156, 1163, 1222, 1223, 1224, 1225, 1226, 1227, 1228, 1269, 1271, 27, 1272, 1258, 1260, 26] (by decide +kernel) (by decide +kernel)
set_option maxRecDepth 100000 in
theorem gs_wsX7_power__r5 : GoodIn lw_tbl wsX7_power__r5 := goodIn_r _ [1261, 1262, 1263, 1264, 1230, 1232, 24, 1233, 1234, 1235, 1236] (by decide +kernel) (by decide +kernel)
set_option maxRecDepth 100000 in
theorem gs_wsX7_power_ : GoodIn lw_tbl wsX7_power_ := (ax_gc (goodIn_r _ [1268] (by decide +kernel) (by decide +kernel)) (goodIn_app (goodIn_app (goodIn_app (goodIn_app (goodIn_app (goodIn_app gs_wsX7_power__r1 (goodIn_app gs_wsX7_power__r2 (goodIn_app gs_wsX7_power__r3 (goodIn_app gs_wsX7_power__r4 gs_wsX7_power__r5)))) gs_X70) gs_Jx4a65c0) gs_X60) gs_X50) ax_gn))
set_option maxRecDepth 100000 in
theorem gl_X7_power_ : GoodIn lw_tbl (wsV RL 144 RX7 yX7_power_ wsX7_power_) := goodIn_app (goodIn_r _ [1265, 1266, 1267, 42] (by decide +kernel) (by decide +kernel)) gs_wsX7_power_
set_option maxRecDepth 100000 in
theorem gs_wsX4_brightest_r1 : GoodIn lw_tbl wsX4_brightest_r1 := goodIn_r _ [119, 843, 845, 11, 39, 846, 240, 57, 117, 615, 617, 9, 618, 116, 118, 581, 582, 583, 41, 584, 104, 107, 585, 270] (by decide +kernel) (by decide +kernel)
set_option maxRecDepth 100000 in
theorem gs_wsX4_brightest_r2 : GoodIn lw_tbl wsX4_brightest_r2 := goodIn_r _ [55, 271, 236, 238, 5, 239, 114, 261, 263, 6, 264, 775, 265, 266, 267, 40, 268, 90, 733, 730, 736, 269, 272, 273] (by decide +kernel) (by decide +kernel)
set_option maxRecDepth 100000 in
theorem gs_wsX4_brightest_r3 : GoodIn lw_tbl wsX4_brightest_r3 := goodIn_r _ [274, 147, 149, 1, 150, 115, 275, 276, 277, 60, 278, 770, 772, 780, 776, 279, 280, 281, 282, 283, 285, 7, 286, 91] (by decide +kernel) (by decide +kernel)
set_option maxRecDepth 100000 in
theorem gs_wsX4_brightest_r4 : GoodIn lw_tbl wsX4_brightest_r4 := goodIn_r _ [287, 288, 289, 290, 291, 292, 293, 294, 295, 296, 297, 298, 299, 300, 301, 302, 303, 304, 305, 306, 307, 308, 309, 310] (by decide +kernel) (by decide +kernel)
set_option maxRecDepth 100000 in
theorem gs_wsX4_brightest_r5 : GoodIn lw_tbl wsX4_brightest_r5 := goodIn_r _ [311, 312, 313, 314, 315, 317, 318, 63, 558, 559, 69, 586, 587, 588, 589, 590, 591, 592, 593, 594, 595, 596, 597, 598] (by decide +kernel) (by decide +kernel)
set_option maxRecDepth 100000 in
theorem gs_wsX4_brightest_r6 : GoodIn lw_tbl wsX4_brightest_r6 := goodIn_r _ [599, 600, 601, 602, 604, 8, 605, 606, 607, 608, 609, 610, 611, 612, 613, 614] (by decide +kernel) (by decide +kernel)
set_option maxRecDepth 100000 in
theorem gs_wsX4_brightest : GoodIn lw_tbl wsX4_brightest := (ax_gc (goodIn_r _ [881] (by decide +kernel) (by decide +kernel)) (goodIn_app (goodIn_app (goodIn_app (goodIn_app (goodIn_app (goodIn_app (goodIn_app (goodIn_app (goodIn_app (goodIn_app gs_wsX4_brightest_r1 (goodIn_app gs_wsX4_brightest_r2 (goodIn_app gs_wsX4_brightest_r3 (goodIn_app gs_wsX4_brightest_r4 (goodIn_app gs_wsX4_brightest_r5 gs_wsX4_brightest_r6))))) gs_X40) gs_X20) gs_X10) gs_X00) gs_X30) gs_J40) gs_Jx000600) gs_at63) ax_gn))
set_option maxRecDepth 100000 in
theorem gl_L_brightest : GoodIn lw_tbl (va_wsS RL 145 yL_brightest wl_brightest) := goodIn_app (goodIn_r _ [875, 876, 38] (by decide +kernel) (by decide +kernel)) (ax_gc (goodIn_r _ [877] (by decide +kernel) (by decide +kernel)) (goodIn_app (goodIn_r _ [878, 879, 880, 39, 748] (by decide +kernel) (by decide +kernel)) gs_wsX4_brightest))
set_option maxRecDepth 100000 in
theorem gs_wsX7_brightest__r1 : GoodIn lw_tbl wsX7_brightest__r1 := goodIn_r _ [1246, 1248, 25, 42, 1249, 1181, 1183, 19, 1184, 1008, 1044, 1045, 1046, 45, 1047, 995, 1033, 1034, 1035, 1036, 1038, 14, 1039, 1006] (by decide +kernel) (by decide +kernel)
set_option maxRecDepth 100000 in
theorem gs_wsX7_brightest__r2 : GoodIn lw_tbl wsX7_brightest__r2 := goodIn_r _ [1040, 1042, 15, 1043, 1197, 1199, 20, 1200, 1201, 1203, 21, 1204, 1147, 1205, 1207, 22, 1208, 1007, 97, 1048, 1055, 1057, 1059, 1122] (by decide +kernel) (by decide +kernel)
set_option maxRecDepth 100000 in
theorem gs_wsX7_brightest__r3 : GoodIn lw_tbl wsX7_brightest__r3 := goodIn_r _ [1123, 1124, 1125, 1126, 1127, 58, 1128, 1129, 1130, 59, 1131, 1132, 1133, 1134, 1135, 994, 1209, 1210, 1211, 1212, 1213, 1214, 1215, 1217] (by decide +kernel) (by decide +kernel)
set_option maxRecDepth 100000 in
theorem gs_wsX7_brightest__r4 : GoodIn lw_tbl wsX7_brightest__r4 := goodIn_r _ [23, 1218, 1158, 1160, 1219, 1220, 1221, 1154, 1156, 1163, 1222, 1223, 1224, 1225, 1226, 1227, 1228, 1277, 1279, 28, 1280, 1281, 1283, 29] (by decide +kernel) (by decide +kernel)
set_option maxRecDepth 100000 in
theorem gs_wsX7_brightest__r5 : GoodIn lw_tbl wsX7_brightest__r5 := goodIn_r _ [1284, 1285, 1230, 1232, 24, 1233, 1234, 1235, 1236, 1258, 1260, 26, 1261, 1262, 1263, 1264] (by decide +kernel) (by decide +kernel)
set_option maxRecDepth 100000 in
theorem gs_wsX7_brightest_ : GoodIn lw_tbl wsX7_brightest_ := (ax_gc (goodIn_r _ [1276] (by decide +kernel) (by decide +kernel)) (goodIn_app (goodIn_app (goodIn_app (goodIn_app (goodIn_app (goodIn_app gs_wsX7_brightest__r1 (goodIn_app gs_wsX7_brightest__r2 (goodIn_app gs_wsX7_brightest__r3 (goodIn_app gs_wsX7_brightest__r4 gs_wsX7_brightest__r5)))) gs_X70) gs_Jx4a65c0) gs_X60) gs_X50) ax_gn))
set_option maxRecDepth 100000 in
theorem gl_X7_brightest_ : GoodIn lw_tbl (wsV RL 148 RX7 yX7_brightest_ wsX7_brightest_) := goodIn_app (goodIn_r _ [1273, 1274, 1275, 42] (by decide +kernel) (by decide +kernel)) gs_wsX7_brightest_
set_option maxRecDepth 100000 in
theorem gs_wsX4_dark_r1 : GoodIn lw_tbl wsX4_dark_r1 := goodIn_r _ [119, 843, 845, 11, 39, 846, 240, 57, 117, 615, 617, 9, 618, 116, 118, 581, 582, 583, 41, 584, 104, 107, 585, 270] (by decide +kernel) (by decide +kernel)
set_option maxRecDepth 100000 in
theorem gs_wsX4_dark_r2 : GoodIn lw_tbl wsX4_dark_r2 := goodIn_r _ [55, 271, 236, 238, 5, 239, 114, 261, 263, 6, 264, 775, 265, 266, 267, 40, 268, 90, 733, 730, 736, 269, 272, 273] (by decide +kernel) (by decide +kernel)
set_option maxRecDepth 100000 in
theorem gs_wsX4_dark_r3 : GoodIn lw_tbl wsX4_dark_r3 := goodIn_r _ [274, 147, 149, 1, 150, 115, 275, 276, 277, 60, 278, 770, 772, 780, 776, 279, 280, 281, 282, 283, 285, 7, 286, 91] (by decide +kernel) (by decide +kernel)
set_option maxRecDepth 100000 in
theorem gs_wsX4_dark_r4 : GoodIn lw_tbl wsX4_dark_r4 := goodIn_r _ [287, 288, 289, 290, 291, 292, 293, 294, 295, 296, 297, 298, 299, 300, 301, 302, 303, 304, 305, 306, 307, 308, 309, 310] (by decide +kernel) (by decide +kernel)
set_option maxRecDepth 100000 in
theorem gs_wsX4_dark_r5 : GoodIn lw_tbl wsX4_dark_r5 := goodIn_r _ [311, 312, 313, 314, 315, 317, 318, 63, 558, 559, 69, 586, 587, 588, 589, 590, 591, 592, 593, 594, 595, 596, 597, 598] (by decide +kernel) (by decide +kernel)
set_option maxRecDepth 100000 in
theorem gs_wsX4_dark_r6 : GoodIn lw_tbl wsX4_dark_r6 := goodIn_r _ [599, 600, 601, 602, 604, 8, 605, 889, 626, 627, 628] (by decide +kernel) (by decide +kernel)
set_option maxRecDepth 100000 in
theorem gs_wsX4_dark : GoodIn lw_tbl wsX4_dark := (ax_gc (goodIn_r _ [888] (by decide +kernel) (by decide +kernel)) (goodIn_app (goodIn_app (goodIn_app (goodIn_app (goodIn_app (goodIn_app (goodIn_app (goodIn_app (goodIn_app (goodIn_app gs_wsX4_dark_r1 (goodIn_app gs_wsX4_dark_r2 (goodIn_app gs_wsX4_dark_r3 (goodIn_app gs_wsX4_dark_r4 (goodIn_app gs_wsX4_dark_r5 gs_wsX4_dark_r6))))) gs_X40) gs_X20) gs_X10) gs_X00) gs_X30) gs_J40) gs_Jx000600) gs_at63) ax_gn))
set_option maxRecDepth 100000 in
theorem gl_L_dark : GoodIn lw_tbl (va_wsS RL 149 yL_dark wl_dark) := goodIn_app (goodIn_r _ [882, 883, 38] (by decide +kernel) (by decide +kernel)) (ax_gc (goodIn_r _ [884] (by decide +kernel) (by decide +kernel)) (goodIn_app (goodIn_r _ [885, 886, 887, 39, 748] (by decide +kernel) (by decide +kernel)) gs_wsX4_dark))
set_option maxRecDepth 100000 in
theorem gs_wsX7_dark__r1 : GoodIn lw_tbl wsX7_dark__r1 := goodIn_r _ [1246, 1248, 25, 42, 1249, 1181, 1183, 19, 1184, 1008, 1044, 1045, 1046, 45, 1047, 995, 1033, 1034, 1035, 1036, 1038, 14, 1039, 1006] (by decide +kernel) (by decide +kernel)
set_option maxRecDepth 100000 in
theorem gs_wsX7_dark__r2 : GoodIn lw_tbl wsX7_dark__r2 := goodIn_r _ [1040, 1042, 15, 1043, 1197, 1199, 20, 1200, 1201, 1203, 21, 1204, 1147, 1205, 1207, 22, 1208, 1007, 97, 1048, 1055, 1057, 1059, 1122] (by decide +kernel) (by decide +kernel)
set_option maxRecDepth 100000 in
theorem gs_wsX7_dark__r3 : GoodIn lw_tbl wsX7_dark__r3 := goodIn_r _ [1123, 1124, 1125, 1126, 1127, 58, 1128, 1129, 1130, 59, 1131, 1132, 1133, 1134, 1135, 994, 1209, 1210, 1211, 1212, 1213, 1214, 1215, 1217] (by decide +kernel) (by decide +kernel)
set_option maxRecDepth 100000 in
theorem gs_wsX7_dark__r4 : GoodIn lw_tbl wsX7_dark__r4 := goodIn_r _ [23, 1218, 1158, 1160, 1219, 1220, 1221, 1154, 1156, 1163, 1222, 1223, 1224, 1225, 1226, 1227, 1228, 1290, 1292, 30, 1293, 1230, 1232, 24] (by decide +kernel) (by decide +kernel)
set_option maxRecDepth 100000 in
theorem gs_wsX7_dark__r5 : GoodIn lw_tbl wsX7_dark__r5 := goodIn_r _ [1233, 1234, 1235, 1236, 1258, 1260, 26, 1261, 1262, 1263, 1264] (by decide +kernel) (by decide +kernel)
set_option maxRecDepth 100000 in
theorem gs_wsX7_dark_ : GoodIn lw_tbl wsX7_dark_ := (ax_gc (goodIn_r _ [1289] (by decide +kernel) (by decide +kernel)) (goodIn_app (goodIn_app (goodIn_app (goodIn_app (goodIn_app (goodIn_app gs_wsX7_dark__r1 (goodIn_app gs_wsX7_dark__r2 (goodIn_app gs_wsX7_dark__r3 (goodIn_app gs_wsX7_dark__r4 gs_wsX7_dark__r5)))) gs_X70) gs_Jx4a65c0) gs_X60) gs_X50) ax_gn))
set_option maxRecDepth 100000 in
theorem gl_X7_dark_ : GoodIn lw_tbl (wsV RL 151 RX7 yX7_dark_ wsX7_dark_) := goodIn_app (goodIn_r _ [1286, 1287, 1288, 42] (by decide +kernel) (by decide +kernel)) gs_wsX7_dark_
set_option maxRecDepth 100000 in
theorem gs_wsX4_period_r1 : GoodIn lw_tbl wsX4_period_r1 := goodIn_r _ [119, 843, 845, 11, 39, 846, 240, 57, 117, 615, 617, 9, 618, 116, 118, 581, 582, 583, 41, 584, 104, 107, 585, 270] (by decide +kernel) (by decide +kernel)
set_option maxRecDepth 100000 in
theorem gs_wsX4_period_r2 : GoodIn lw_tbl wsX4_period_r2 := goodIn_r _ [55, 271, 236, 238, 5, 239, 114, 261, 263, 6, 264, 775, 265, 266, 267, 40, 268, 90, 733, 730, 736, 269, 272, 273] (by decide +kernel) (by decide +kernel)
set_option maxRecDepth 100000 in
theorem gs_wsX4_period_r3 : GoodIn lw_tbl wsX4_period_r3 := goodIn_r _ [274, 147, 149, 1, 150, 115, 275, 276, 277, 60, 278, 770, 772, 780, 776, 279, 280, 281, 282, 283, 285, 7, 286, 91] (by decide +kernel) (by decide +kernel)
set_option maxRecDepth 100000 in
theorem gs_wsX4_period_r4 : GoodIn lw_tbl wsX4_period_r4 := goodIn_r _ [287, 288, 289, 290, 291, 292, 293, 294, 295, 296, 297, 298, 299, 300, 301, 302, 303, 304, 305, 306, 307, 308, 309, 310] (by decide +kernel) (by decide +kernel)
set_option maxRecDepth 100000 in
theorem gs_wsX4_period_r5 : GoodIn lw_tbl wsX4_period_r5 := goodIn_r _ [311, 312, 313, 314, 315, 317, 318, 63, 558, 559, 69, 586, 587, 588, 589, 590, 591, 592, 593, 594, 595, 596, 597, 598] (by decide +kernel) (by decide +kernel)
set_option maxRecDepth 100000 in
theorem gs_wsX4_period_r6 : GoodIn lw_tbl wsX4_period_r6 := goodIn_r _ [599, 600, 601, 602, 604, 8, 605, 897, 630, 631, 632, 633, 635, 10, 636] (by decide +kernel) (by decide +kernel)
set_option maxRecDepth 100000 in
theorem gs_wsX4_period : GoodIn lw_tbl wsX4_period := (ax_gc (goodIn_r _ [896] (by decide +kernel) (by decide +kernel)) (goodIn_app (goodIn_app (goodIn_app (goodIn_app (goodIn_app (goodIn_app (goodIn_app (goodIn_app (goodIn_app (goodIn_app gs_wsX4_period_r1 (goodIn_app gs_wsX4_period_r2 (goodIn_app gs_wsX4_period_r3 (goodIn_app gs_wsX4_period_r4 (goodIn_app gs_wsX4_period_r5 gs_wsX4_period_r6))))) gs_X40) gs_X20) gs_X10) gs_X00) gs_X30) gs_J40) gs_Jx000600) gs_at63) ax_gn))
set_option maxRecDepth 100000 in
theorem gl_L_period : GoodIn lw_tbl (va_wsS RL 152 yL_period wl_period) := goodIn_app (goodIn_r _ [890, 891, 38] (by decide +kernel) (by decide +kernel)) (ax_gc (goodIn_r _ [892] (by decide +kernel) (by decide +kernel)) (goodIn_app (goodIn_r _ [893, 894, 895, 39, 748] (by decide +kernel) (by decide +kernel)) gs_wsX4_period))
set_option maxRecDepth 100000 in
theorem gs_wsX7_period__r1 : GoodIn lw_tbl wsX7_period__r1 := goodIn_r _ [1246, 1248, 25, 42, 1249, 1181, 1183, 19, 1184, 1008, 1044, 1045, 1046, 45, 1047, 995, 1033, 1034, 1035, 1036, 1038, 14, 1039, 1006] (by decide +kernel) (by decide +kernel)
set_option maxRecDepth 100000 in
theorem gs_wsX7_period__r2 : GoodIn lw_tbl wsX7_period__r2 := goodIn_r _ [1040, 1042, 15, 1043, 1197, 1199, 20, 1200, 1201, 1203, 21, 1204, 1147, 1205, 1207, 22, 1208, 1007, 97, 1048, 1055, 1057, 1059, 1122] (by decide +kernel) (by decide +kernel)
set_option maxRecDepth 100000 in
theorem gs_wsX7_period__r3 : GoodIn lw_tbl wsX7_period__r3 := goodIn_r _ [1123, 1124, 1125, 1126, 1127, 58, 1128, 1129, 1130, 59, 1131, 1132, 1133, 1134, 1135, 994, 1209, 1210, 1211, 1212, 1213, 1214, 1215, 1217] (by decide +kernel) (by decide +kernel)
set_option maxRecDepth 100000 in
theorem gs_wsX7_period__r4 : GoodIn lw_tbl wsX7_period__r4 := goodIn_r _ [23, 1218, 1158, 1160, 1219, 1220, 1221, 1154, 1156, 1163, 1222, 1223, 1224, 1225, 1226, 1227, 1228, 1298, 1300, 31, 1301, 1230, 1232, 24] (by decide +kernel) (by decide +kernel)
set_option maxRecDepth 100000 in
theorem gs_wsX7_period__r5 : GoodIn lw_tbl wsX7_period__r5 := goodIn_r _ [1233, 1234, 1235, 1236, 1258, 1260, 26, 1261, 1262, 1263, 1264] (by decide +kernel) (by decide +kernel)
set_option maxRecDepth 100000 in
theorem gs_wsX7_period_ : GoodIn lw_tbl wsX7_period_ := (ax_gc (goodIn_r _ [1297] (by decide +kernel) (by decide +kernel)) (goodIn_app (goodIn_app (goodIn_app (goodIn_app (goodIn_app (goodIn_app gs_wsX7_period__r1 (goodIn_app gs_wsX7_period__r2 (goodIn_app gs_wsX7_period__r3 (goodIn_app gs_wsX7_period__r4 gs_wsX7_period__r5)))) gs_X70) gs_Jx4a65c0) gs_X60) gs_X50) ax_gn))
set_option maxRecDepth 100000 in
theorem gl_X7_period_ : GoodIn lw_tbl (wsV RL 154 RX7 yX7_period_ wsX7_period_) := goodIn_app (goodIn_r _ [1294, 1295, 1296, 42] (by decide +kernel) (by decide +kernel)) gs_wsX7_period_
set_option maxRecDepth 100000 in
theorem gs_wsX4_clear_r1 : GoodIn lw_tbl wsX4_clear_r1 := goodIn_r _ [119, 843, 845, 11, 39, 846, 240, 57, 117, 615, 617, 9, 618, 116, 118, 581, 582, 583, 41, 584, 104, 107, 585, 270] (by decide +kernel) (by decide +kernel)
set_option maxRecDepth 100000 in
theorem gs_wsX4_clear_r2 : GoodIn lw_tbl wsX4_clear_r2 := goodIn_r _ [55, 271, 236, 238, 5, 239, 114, 261, 263, 6, 264, 775, 265, 266, 267, 40, 268, 90, 733, 730, 736, 269, 272, 273] (by decide +kernel) (by decide +kernel)
set_option maxRecDepth 100000 in
theorem gs_wsX4_clear_r3 : GoodIn lw_tbl wsX4_clear_r3 := goodIn_r _ [274, 147, 149, 1, 150, 115, 275, 276, 277, 60, 278, 770, 772, 780, 776, 279, 280, 281, 282, 283, 285, 7, 286, 91] (by decide +kernel) (by decide +kernel)
set_option maxRecDepth 100000 in
theorem gs_wsX4_clear_r4 : GoodIn lw_tbl wsX4_clear_r4 := goodIn_r _ [287, 288, 289, 290, 291, 292, 293, 294, 295, 296, 297, 298, 299, 300, 301, 302, 303, 304, 305, 306, 307, 308, 309, 310] (by decide +kernel) (by decide +kernel)
set_option maxRecDepth 100000 in
theorem gs_wsX4_clear_r5 : GoodIn lw_tbl wsX4_clear_r5 := goodIn_r _ [311, 312, 313, 314, 315, 317, 318, 63, 558, 559, 69, 586, 587, 588, 589, 590, 591, 592, 593, 594, 595, 596, 597, 598] (by decide +kernel) (by decide +kernel)
set_option maxRecDepth 100000 in
theorem gs_wsX4_clear_r6 : GoodIn lw_tbl wsX4_clear_r6 := goodIn_r _ [599, 600, 601, 602, 604, 8, 605, 905, 906, 907, 908, 909, 911, 12, 912, 624, 607, 608, 609, 610, 611, 612, 613, 614] (by decide +kernel) (by decide +kernel)
set_option maxRecDepth 100000 in
theorem gs_wsX4_clear_r7 : GoodIn lw_tbl wsX4_clear_r7 := goodIn_r _ [913, 914, 915, 916, 918, 13, 919] (by decide +kernel) (by decide +kernel)
set_option maxRecDepth 100000 in
theorem gs_wsX4_clear : GoodIn lw_tbl wsX4_clear := (ax_gc (goodIn_r _ [904] (by decide +kernel) (by decide +kernel)) (goodIn_app (goodIn_app (goodIn_app (goodIn_app (goodIn_app (goodIn_app (goodIn_app (goodIn_app (goodIn_app (goodIn_app gs_wsX4_clear_r1 (goodIn_app gs_wsX4_clear_r2 (goodIn_app gs_wsX4_clear_r3 (goodIn_app gs_wsX4_clear_r4 (goodIn_app gs_wsX4_clear_r5 (goodIn_app gs_wsX4_clear_r6 gs_wsX4_clear_r7)))))) gs_X40) gs_X20) gs_X10) gs_X00) gs_X30) gs_J40) gs_Jx000600) gs_at63) ax_gn))
set_option maxRecDepth 100000 in
theorem gl_L_clear : GoodIn lw_tbl (va_wsS RL 155 yL_clear wl_clear) := goodIn_app (goodIn_r _ [898, 899, 38] (by decide +kernel) (by decide +kernel)) (ax_gc (goodIn_r _ [900] (by decide +kernel) (by decide +kernel)) (goodIn_app (goodIn_r _ [901, 902, 903, 39, 748] (by decide +kernel) (by decide +kernel)) gs_wsX4_clear))
set_option maxRecDepth 100000 in
theorem gs_wsX7_clear_r1 : GoodIn lw_tbl wsX7_clear_r1 := goodIn_r _ [1246, 1248, 25, 42, 1249, 1181, 1183, 19, 1184, 1008, 1044, 1045, 1046, 45, 1047, 995, 1033, 1034, 1035, 1036, 1038, 14, 1039, 1006] (by decide +kernel) (by decide +kernel)
set_option maxRecDepth 100000 in
theorem gs_wsX7_clear_r2 : GoodIn lw_tbl wsX7_clear_r2 := goodIn_r _ [1040, 1042, 15, 1043, 1197, 1199, 20, 1200, 1201, 1203, 21, 1204, 1147, 1205, 1207, 22, 1208, 1007, 97, 1048, 1055, 1057, 1059, 1122] (by decide +kernel) (by decide +kernel)
set_option maxRecDepth 100000 in
theorem gs_wsX7_clear_r3 : GoodIn lw_tbl wsX7_clear_r3 := goodIn_r _ [1123, 1124, 1125, 1126, 1127, 58, 1128, 1129, 1130, 59, 1131, 1132, 1133, 1134, 1135, 994, 1209, 1210, 1211, 1212, 1213, 1214, 1215, 1217] (by decide +kernel) (by decide +kernel)
set_option maxRecDepth 100000 in
theorem gs_wsX7_clear_r4 : GoodIn lw_tbl wsX7_clear_r4 := goodIn_r _ [23, 1218, 1158, 1160, 1219, 1220, 1221, 1154, 1156, 1163, 1222, 1223, 1224, 1225, 1226, 1227, 1228, 1281, 1283, 29, 1284, 1285, 1230, 1232] (by decide +kernel) (by decide +kernel)
set_option maxRecDepth 100000 in
theorem gs_wsX7_clear_r5 : GoodIn lw_tbl wsX7_clear_r5 := goodIn_r _ [24, 1233, 1234, 1235, 1236, 1258, 1260, 26, 1261, 1262, 1263, 1264, 1306, 1307, 54, 1308, 1309, 1311, 1310, 70, 1312, 1314, 1315, 1316] (by decide +kernel) (by decide +kernel)
set_option maxRecDepth 100000 in
theorem gs_wsX7_clear : GoodIn lw_tbl wsX7_clear := (ax_gc (goodIn_r _ [1305] (by decide +kernel) (by decide +kernel)) (goodIn_app (goodIn_app (goodIn_app (goodIn_app (goodIn_app (goodIn_app gs_wsX7_clear_r1 (goodIn_app gs_wsX7_clear_r2 (goodIn_app gs_wsX7_clear_r3 (goodIn_app gs_wsX7_clear_r4 gs_wsX7_clear_r5)))) gs_X70) gs_Jx4a65c0) gs_X60) gs_X50) ax_gn))
set_option maxRecDepth 100000 in
theorem gl_X7_clear : GoodIn lw_tbl (wsV RL 158 RX7 yX7_clear wsX7_clear) := goodIn_app (goodIn_r _ [1302, 1303, 1304, 42] (by decide +kernel) (by decide +kernel)) gs_wsX7_clear
set_option maxRecDepth 100000 in
theorem gs_wsX4_tenths_r1 : GoodIn lw_tbl wsX4_tenths_r1 := goodIn_r _ [119, 843, 845, 11, 39, 846, 240, 57, 117, 669, 670, 671, 672, 673, 674, 615, 617, 9, 618, 116, 118, 581, 582, 583] (by decide +kernel) (by decide +kernel)
set_option maxRecDepth 100000 in
theorem gs_wsX4_tenths_r2 : GoodIn lw_tbl wsX4_tenths_r2 := goodIn_r _ [41, 584, 104, 107, 585, 270, 55, 271, 236, 238, 5, 239, 114, 261, 263, 6, 264, 775, 265, 266, 267, 40, 268, 90] (by decide +kernel) (by decide +kernel)
set_option maxRecDepth 100000 in
theorem gs_wsX4_tenths_r3 : GoodIn lw_tbl wsX4_tenths_r3 := goodIn_r _ [733, 730, 736, 269, 272, 273, 274, 147, 149, 1, 150, 115, 275, 276, 277, 60, 278, 770, 772, 780, 776, 279, 280, 281] (by decide +kernel) (by decide +kernel)
set_option maxRecDepth 100000 in
theorem gs_wsX4_tenths_r4 : GoodIn lw_tbl wsX4_tenths_r4 := goodIn_r _ [282, 283, 285, 7, 286, 91, 287, 288, 289, 290, 291, 292, 293, 294, 295, 296, 297, 298, 299, 300, 301, 302, 303, 304] (by decide +kernel) (by decide +kernel)
set_option maxRecDepth 100000 in
theorem gs_wsX4_tenths_r5 : GoodIn lw_tbl wsX4_tenths_r5 := goodIn_r _ [305, 306, 307, 308, 309, 310, 311, 312, 313, 314, 315, 317, 318, 63, 558, 559, 69, 586, 587, 588, 589, 590, 591, 592] (by decide +kernel) (by decide +kernel)
set_option maxRecDepth 100000 in
theorem gs_wsX4_tenths_r6 : GoodIn lw_tbl wsX4_tenths_r6 := goodIn_r _ [593, 594, 595, 596, 597, 598, 599, 600, 601, 602, 604, 8, 605, 927, 928, 929, 930, 931, 909, 911, 12, 912, 624, 607] (by decide +kernel) (by decide +kernel)
set_option maxRecDepth 100000 in
theorem gs_wsX4_tenths_r7 : GoodIn lw_tbl wsX4_tenths_r7 := goodIn_r _ [608, 609, 610, 611, 612, 613, 614, 932, 933, 934, 935, 936, 937, 938] (by decide +kernel) (by decide +kernel)
set_option maxRecDepth 100000 in
theorem gs_wsX4_tenths : GoodIn lw_tbl wsX4_tenths := (ax_gc (goodIn_r _ [926] (by decide +kernel) (by decide +kernel)) (goodIn_app (goodIn_app (goodIn_app (goodIn_app (goodIn_app (goodIn_app (goodIn_app (goodIn_app (goodIn_app (goodIn_app gs_wsX4_tenths_r1 (goodIn_app gs_wsX4_tenths_r2 (goodIn_app gs_wsX4_tenths_r3 (goodIn_app gs_wsX4_tenths_r4 (goodIn_app gs_wsX4_tenths_r5 (goodIn_app gs_wsX4_tenths_r6 gs_wsX4_tenths_r7)))))) gs_X40) gs_X20) gs_X10) gs_X00) gs_X30) gs_J40) gs_Jx000600) gs_at63) ax_gn))
set_option maxRecDepth 100000 in
theorem gl_L_tenths : GoodIn lw_tbl (va_wsS RL 159 yL_tenths wl_tenths) := goodIn_app (goodIn_r _ [920, 921, 38] (by decide +kernel) (by decide +kernel)) (ax_gc (goodIn_r _ [922] (by decide +kernel) (by decide +kernel)) (goodIn_app (goodIn_r _ [923, 924, 925, 39, 748] (by decide +kernel) (by decide +kernel)) gs_wsX4_tenths))
set_option maxRecDepth 100000 in
theorem gs_wsX7_tenths_r1 : GoodIn lw_tbl wsX7_tenths_r1 := goodIn_r _ [1321, 1246, 1248, 25, 42, 1249, 1181, 1183, 19, 1184, 1008, 1044, 1045, 1046, 45, 1047, 995, 1033, 1034, 1035, 1030, 1031, 1032, 1036] (by decide +kernel) (by decide +kernel)
set_option maxRecDepth 100000 in
theorem gs_wsX7_tenths_r2 : GoodIn lw_tbl wsX7_tenths_r2 := goodIn_r _ [1038, 14, 1039, 1006, 1040, 1042, 15, 1043, 1197, 1199, 20, 1200, 1201, 1203, 21, 1204, 1147, 1205, 1207, 22, 1208, 1007, 97, 1048] (by decide +kernel) (by decide +kernel)
set_option maxRecDepth 100000 in
theorem gs_wsX7_tenths_r3 : GoodIn lw_tbl wsX7_tenths_r3 := goodIn_r _ [1055, 1057, 1059, 1122, 1123, 1124, 1125, 1126, 1127, 58, 1128, 1129, 1130, 59, 1131, 1132, 1133, 1134, 1135, 994, 1209, 1210, 1211, 1212] (by decide +kernel) (by decide +kernel)
set_option maxRecDepth 100000 in
theorem gs_wsX7_tenths_r4 : GoodIn lw_tbl wsX7_tenths_r4 := goodIn_r _ [1213, 1214, 1215, 1217, 23, 1218, 1158, 1160, 1219, 1220, 1221, 1154, 1156, 1163, 1222, 1223, 1224, 1225, 1226, 1227, 1228, 1277, 1279, 28] (by decide +kernel) (by decide +kernel)
set_option maxRecDepth 100000 in
theorem gs_wsX7_tenths_r5 : GoodIn lw_tbl wsX7_tenths_r5 := goodIn_r _ [1280, 1281, 1283, 29, 1284, 1285, 1230, 1232, 24, 1233, 1234, 1235, 1236, 1258, 1260, 26, 1261, 1262, 1263, 1264, 1322, 1323, 54, 1324] (by decide +kernel) (by decide +kernel)
set_option maxRecDepth 100000 in
theorem gs_wsX7_tenths_r6 : GoodIn lw_tbl wsX7_tenths_r6 := goodIn_r _ [1325, 1326, 71, 1327, 1328, 1329, 1330, 1331, 1309, 1311, 1310, 70, 1332, 1333, 1334, 1336, 1335, 1337, 1338, 1339] (by decide +kernel) (by decide +kernel)
set_option maxRecDepth 100000 in
theorem gs_wsX7_tenths : GoodIn lw_tbl wsX7_tenths := (ax_gc (goodIn_r _ [1320] (by decide +kernel) (by decide +kernel)) (goodIn_app (goodIn_app (goodIn_app (goodIn_app (goodIn_app (goodIn_app gs_wsX7_tenths_r1 (goodIn_app gs_wsX7_tenths_r2 (goodIn_app gs_wsX7_tenths_r3 (goodIn_app gs_wsX7_tenths_r4 (goodIn_app gs_wsX7_tenths_r5 gs_wsX7_tenths_r6))))) gs_X70) gs_Jx4a65c0) gs_X60) gs_X50) ax_gn))
set_option maxRecDepth 100000 in
theorem gl_X7_tenths : GoodIn lw_tbl (wsV RL 162 RX7 yX7_tenths wsX7_tenths) := goodIn_app (goodIn_r _ [1317, 1318, 1319, 42] (by decide +kernel) (by decide +kernel)) gs_wsX7_tenths
set_option maxRecDepth 100000 in
theorem gs_wsX4_loses_r1 : GoodIn lw_tbl wsX4_loses_r1 := goodIn_r _ [240, 57, 775, 119, 147, 149, 1, 39, 150, 117, 115, 615, 617, 9, 618, 116, 118, 581, 582, 583, 41, 584, 104, 107] (by decide +kernel) (by decide +kernel)
set_option maxRecDepth 100000 in
theorem gs_wsX4_loses_r2 : GoodIn lw_tbl wsX4_loses_r2 := goodIn_r _ [585, 270, 55, 271, 236, 238, 5, 239, 114, 261, 263, 6, 264, 265, 266, 267, 40, 268, 90, 733, 730, 736, 269, 272] (by decide +kernel) (by decide +kernel)
set_option maxRecDepth 100000 in
theorem gs_wsX4_loses_r3 : GoodIn lw_tbl wsX4_loses_r3 := goodIn_r _ [273, 274, 275, 276, 277, 60, 278, 770, 772, 780, 776, 279, 280, 281, 282, 283, 285, 7, 286, 91, 287, 288, 289, 290] (by decide +kernel) (by decide +kernel)
set_option maxRecDepth 100000 in
theorem gs_wsX4_loses_r4 : GoodIn lw_tbl wsX4_loses_r4 := goodIn_r _ [291, 292, 293, 294, 295, 296, 297, 298, 299, 300, 301, 302, 303, 304, 305, 306, 307, 308, 309, 310, 311, 312, 313, 314] (by decide +kernel) (by decide +kernel)
set_option maxRecDepth 100000 in
theorem gs_wsX4_loses_r5 : GoodIn lw_tbl wsX4_loses_r5 := goodIn_r _ [315, 317, 318, 63, 558, 559, 69, 586, 587, 588, 589, 590, 591, 592, 593, 594, 595, 596, 597, 598, 599, 600, 601, 602] (by decide +kernel) (by decide +kernel)
set_option maxRecDepth 100000 in
theorem gs_wsX4_loses_r6 : GoodIn lw_tbl wsX4_loses_r6 := goodIn_r _ [604, 8, 605, 651, 652, 653, 654, 655, 656, 657, 658, 659, 660, 661, 662, 663, 664] (by decide +kernel) (by decide +kernel)
set_option maxRecDepth 100000 in
theorem gs_wsX4_loses : GoodIn lw_tbl wsX4_loses := (ax_gc (goodIn_r _ [650] (by decide +kernel) (by decide +kernel)) (goodIn_app (goodIn_app (goodIn_app (goodIn_app (goodIn_app (goodIn_app (goodIn_app (goodIn_app (goodIn_app (goodIn_app gs_wsX4_loses_r1 (goodIn_app gs_wsX4_loses_r2 (goodIn_app gs_wsX4_loses_r3 (goodIn_app gs_wsX4_loses_r4 (goodIn_app gs_wsX4_loses_r5 gs_wsX4_loses_r6))))) gs_X10) gs_X40) gs_X20) gs_X00) gs_X30) gs_J40) gs_Jx000600) gs_at63) ax_gn))
set_option maxRecDepth 100000 in
theorem gl_L_loses : GoodIn lw_tbl (va_wsS RL 163 yL_loses wl_loses) := goodIn_app (goodIn_r _ [939, 940, 38] (by decide +kernel) (by decide +kernel)) (ax_gc (goodIn_r _ [941] (by decide +kernel) (by decide +kernel)) (goodIn_app (goodIn_r _ [942, 648, 649, 39, 748] (by decide +kernel) (by decide +kernel)) gs_wsX4_loses))
set_option maxRecDepth 100000 in
theorem gs_wsX7_loses_r1 : GoodIn lw_tbl wsX7_loses_r1 := goodIn_r _ [1181, 1183, 19, 42, 1184, 1008, 1044, 1045, 1046, 45, 1047, 995, 1033, 1034, 1035, 1036, 1038, 14, 1039, 1006, 1040, 1042, 15, 1043] (by decide +kernel) (by decide +kernel)
set_option maxRecDepth 100000 in
theorem gs_wsX7_loses_r2 : GoodIn lw_tbl wsX7_loses_r2 := goodIn_r _ [1344, 1346, 32, 1347, 1147, 1158, 1122, 1123, 1124, 1125, 1126, 1127, 58, 1128, 1129, 1130, 59, 1131, 1132, 1133, 1134, 1135, 994, 1197] (by decide +kernel) (by decide +kernel)
set_option maxRecDepth 100000 in
theorem gs_wsX7_loses_r3 : GoodIn lw_tbl wsX7_loses_r3 := goodIn_r _ [1199, 20, 1200, 1201, 1203, 21, 1204, 1205, 1207, 22, 1208, 1007, 97, 1048, 1055, 1057, 1059, 1209, 1210, 1211, 1212, 1213, 1214, 1215] (by decide +kernel) (by decide +kernel)
set_option maxRecDepth 100000 in
theorem gs_wsX7_loses_r4 : GoodIn lw_tbl wsX7_loses_r4 := goodIn_r _ [1217, 23, 1218, 1160, 1219, 1220, 1221, 1154, 1156, 1163, 1222, 1223, 1224, 1225, 1226, 1227, 1228, 1348, 1349, 1350, 61, 1351, 1153, 1155] (by decide +kernel) (by decide +kernel)
set_option maxRecDepth 100000 in
theorem gs_wsX7_loses_r5 : GoodIn lw_tbl wsX7_loses_r5 := goodIn_r _ [1269, 1271, 27, 1272, 1258, 1260, 26, 1261, 1262, 1263, 1264, 1230, 1232, 24, 1233, 1234, 1235, 1236] (by decide +kernel) (by decide +kernel)
set_option maxRecDepth 100000 in
theorem gs_wsX7_loses : GoodIn lw_tbl wsX7_loses := (ax_gc (goodIn_r _ [1343] (by decide +kernel) (by decide +kernel)) (goodIn_app (goodIn_app (goodIn_app (goodIn_app (goodIn_app (goodIn_app gs_wsX7_loses_r1 (goodIn_app gs_wsX7_loses_r2 (goodIn_app gs_wsX7_loses_r3 (goodIn_app gs_wsX7_loses_r4 gs_wsX7_loses_r5)))) gs_X70) gs_Jx4a65c0) gs_X50) gs_X60) ax_gn))
set_option maxRecDepth 100000 in
theorem gl_X7_loses : GoodIn lw_tbl (wsV RL 165 RX7 yX7_loses wsX7_loses) := goodIn_app (goodIn_r _ [1340, 1341, 1342, 42] (by decide +kernel) (by decide +kernel)) gs_wsX7_loses
set_option maxRecDepth 100000 in
theorem gs_wsX4_ofPart : GoodIn lw_tbl wsX4_ofPart := (ax_gc (goodIn_r _ [640] (by decide +kernel) (by decide +kernel)) (goodIn_app (goodIn_app (goodIn_app (goodIn_app (goodIn_app (goodIn_r _ [240, 57, 163, 49, 771, 773, 775, 777, 779, 147, 149, 1, 39, 150, 117, 115, 642, 643, 644, 60, 645, 780] (by decide +kernel) (by decide +kernel)) gs_X10) gs_X40) gs_at63) gs_at81) ax_gn))
set_option maxRecDepth 100000 in
theorem gl_L_ofPart : GoodIn lw_tbl (va_wsS RL 166 yL_ofPart wl_ofPart) := goodIn_app (goodIn_r _ [943, 944, 38] (by decide +kernel) (by decide +kernel)) (ax_gc (goodIn_r _ [945] (by decide +kernel) (by decide +kernel)) (goodIn_app (goodIn_r _ [946, 638, 639, 39, 748, 698] (by decide +kernel) (by decide +kernel)) gs_wsX4_ofPart))
set_option maxRecDepth 100000 in
theorem gs_wsX7_ofPart_r1 : GoodIn lw_tbl wsX7_ofPart_r1 := goodIn_r _ [1008, 1147, 1181, 1183, 19, 42, 1184, 1044, 1045, 1046, 45, 1047, 995, 1033, 1034, 1035, 1036, 1038, 14, 1039, 1006, 1040, 1042, 15] (by decide +kernel) (by decide +kernel)
set_option maxRecDepth 100000 in
theorem gs_wsX7_ofPart_r2 : GoodIn lw_tbl wsX7_ofPart_r2 := goodIn_r _ [1043, 1122, 1123, 1124, 1125, 1126, 1127, 58, 1128, 1129, 1130, 59, 1131, 1132, 1133, 1134, 1135, 994, 1356, 1357, 1358, 1154, 1156, 1158] (by decide +kernel) (by decide +kernel)
set_option maxRecDepth 100000 in
theorem gs_wsX7_ofPart_r3 : GoodIn lw_tbl wsX7_ofPart_r3 := goodIn_r _ [1160, 1161, 1238, 1239, 1240, 61, 1241, 1162] (by decide +kernel) (by decide +kernel)
set_option maxRecDepth 100000 in
theorem gs_wsX7_ofPart : GoodIn lw_tbl wsX7_ofPart := (ax_gc (goodIn_r _ [1355] (by decide +kernel) (by decide +kernel)) (goodIn_app (goodIn_app (goodIn_app (goodIn_app (goodIn_app gs_wsX7_ofPart_r1 (goodIn_app gs_wsX7_ofPart_r2 gs_wsX7_ofPart_r3)) gs_X70) gs_Jx4a65c0) gs_X50) ax_gn))
set_option maxRecDepth 100000 in
theorem gl_X7_ofPart : GoodIn lw_tbl (wsV RL 168 RX7 yX7_ofPart wsX7_ofPart) := goodIn_app (goodIn_r _ [1352, 1353, 1354, 42] (by decide +kernel) (by decide +kernel)) gs_wsX7_ofPart
set_option maxRecDepth 100000 in
theorem gs_wsX4_exposure : GoodIn lw_tbl wsX4_exposure := (ax_gc (goodIn_r _ [953] (by decide +kernel) (by decide +kernel)) (goodIn_app (goodIn_app (goodIn_app (goodIn_app (goodIn_r _ [240, 57, 781, 147, 149, 1, 39, 150, 117, 115, 669, 670, 671, 672, 673, 674] (by decide +kernel) (by decide +kernel)) gs_X10) gs_X40) gs_at63) ax_gn))
set_option maxRecDepth 100000 in
theorem gl_L_exposure : GoodIn lw_tbl (va_wsS RL 169 yL_exposure wl_exposure) := goodIn_app (goodIn_r _ [947, 948, 38] (by decide +kernel) (by decide +kernel)) (ax_gc (goodIn_r _ [949] (by decide +kernel) (by decide +kernel)) (goodIn_app (goodIn_r _ [950, 951, 952, 39, 748] (by decide +kernel) (by decide +kernel)) gs_wsX4_exposure))
set_option maxRecDepth 100000 in
theorem gs_wsX7_exposure_r1 : GoodIn lw_tbl wsX7_exposure_r1 := goodIn_r _ [1008, 1147, 1163, 1181, 1183, 19, 42, 1184, 1044, 1045, 1046, 45, 1047, 995, 1033, 1034, 1035, 1030, 1031, 1032, 1036, 1038, 14, 1039] (by decide +kernel) (by decide +kernel)
set_option maxRecDepth 100000 in
theorem gs_wsX7_exposure_r2 : GoodIn lw_tbl wsX7_exposure_r2 := goodIn_r _ [1006, 1040, 1042, 15, 1043, 1122, 1123, 1124, 1125, 1126, 1127, 58, 1128, 1129, 1130, 59, 1131, 1132, 1133, 1134, 1135, 994] (by decide +kernel) (by decide +kernel)
set_option maxRecDepth 100000 in
theorem gs_wsX7_exposure : GoodIn lw_tbl wsX7_exposure := (ax_gc (goodIn_r _ [1362] (by decide +kernel) (by decide +kernel)) (goodIn_app (goodIn_app (goodIn_app (goodIn_app (goodIn_app gs_wsX7_exposure_r1 gs_wsX7_exposure_r2) gs_X70) gs_X50) gs_Jx4a65c0) ax_gn))
set_option maxRecDepth 100000 in
theorem gl_X7_exposure : GoodIn lw_tbl (wsV RL 171 RX7 yX7_exposure wsX7_exposure) := goodIn_app (goodIn_r _ [1359, 1360, 1361, 42] (by decide +kernel) (by decide +kernel)) gs_wsX7_exposure
set_option maxRecDepth 100000 in
theorem gs_wsX4_ofSource : GoodIn lw_tbl wsX4_ofSource := (ax_gc (goodIn_r _ [235] (by decide +kernel) (by decide +kernel)) (goodIn_app (goodIn_app (goodIn_app (goodIn_app (goodIn_r _ [240, 57, 163, 49, 731, 734, 737, 236, 238, 5, 39, 239, 116, 114] (by decide +kernel) (by decide +kernel)) gs_X30) gs_X40) gs_at63) gs_at81))
set_option maxRecDepth 100000 in
theorem gl_L_ofSource : GoodIn lw_tbl (va_wsS RL 172 yL_ofSource wl_ofSource) := goodIn_app (goodIn_r _ [954, 955, 38] (by decide +kernel) (by decide +kernel)) (ax_gc (goodIn_r _ [956] (by decide +kernel) (by decide +kernel)) (goodIn_app (goodIn_r _ [957, 233, 234, 39, 748, 698] (by decide +kernel) (by decide +kernel)) gs_wsX4_ofSource))
set_option maxRecDepth 100000 in
theorem gs_wsX7_ofSource_r1 : GoodIn lw_tbl wsX7_ofSource_r1 := goodIn_r _ [1007, 1048, 1044, 1045, 1046, 45, 1047, 995, 1033, 1034, 42, 1035, 1036, 1038, 14, 1039, 1006, 1040, 1042, 15, 1043, 1122, 1123, 1124] (by decide +kernel) (by decide +kernel)
set_option maxRecDepth 100000 in
theorem gs_wsX7_ofSource_r2 : GoodIn lw_tbl wsX7_ofSource_r2 := goodIn_r _ [1125, 1126, 1127, 58, 1128, 1129, 1130, 59, 1131, 1132, 1133, 1134, 1135, 994, 1367, 1368, 1369, 1055, 1057, 1059] (by decide +kernel) (by decide +kernel)
set_option maxRecDepth 100000 in
theorem gs_wsX7_ofSource : GoodIn lw_tbl wsX7_ofSource := (ax_gc (goodIn_r _ [1366] (by decide +kernel) (by decide +kernel)) (goodIn_app (goodIn_app (goodIn_app (goodIn_app gs_wsX7_ofSource_r1 gs_wsX7_ofSource_r2) gs_X70) gs_Jx4a65c0) gs_X60))
set_option maxRecDepth 100000 in
theorem gl_X7_ofSource : GoodIn lw_tbl (wsV RL 174 RX7 yX7_ofSource wsX7_ofSource) := goodIn_app (goodIn_r _ [1363, 1364, 1365, 42] (by decide +kernel) (by decide +kernel)) gs_wsX7_ofSource
set_option maxRecDepth 100000 in
theorem gs_wsX4_many_r1 : GoodIn lw_tbl wsX4_many_r1 := goodIn_r _ [163, 49, 116, 117, 143, 145, 0, 39, 146, 775, 147, 149, 1, 150, 115, 151, 153, 2, 154, 155, 156, 157, 60, 158] (by decide +kernel) (by decide +kernel)
set_option maxRecDepth 100000 in
theorem gs_wsX4_many_r2 : GoodIn lw_tbl wsX4_many_r2 := goodIn_r _ [776, 770, 772, 780, 159, 161, 3, 162, 779] (by decide +kernel) (by decide +kernel)
set_option maxRecDepth 100000 in
theorem gs_wsX4_many : GoodIn lw_tbl wsX4_many := (ax_gc (goodIn_r _ [142] (by decide +kernel) (by decide +kernel)) (goodIn_app (goodIn_app (goodIn_app (goodIn_app (goodIn_app gs_wsX4_many_r1 gs_wsX4_many_r2) gs_X40) gs_X10) gs_at81) ax_gn))
set_option maxRecDepth 100000 in
theorem gl_L_many : GoodIn lw_tbl (va_wsS RL 175 yL_many wl_many) := goodIn_app (goodIn_r _ [958, 959, 38] (by decide +kernel) (by decide +kernel)) (ax_gc (goodIn_r _ [960] (by decide +kernel) (by decide +kernel)) (goodIn_app (goodIn_r _ [961, 140, 141, 39, 698] (by decide +kernel) (by decide +kernel)) gs_wsX4_many))
set_option maxRecDepth 100000 in
theorem gs_wsX7_many_r1 : GoodIn lw_tbl wsX7_many_r1 := goodIn_r _ [1033, 1034, 42, 1035, 1036, 1038, 14, 1039, 1006, 1040, 1042, 15, 1043, 1374, 1376, 33, 1377, 1008, 1147, 1158, 1007, 1009, 1044, 1045] (by decide +kernel) (by decide +kernel)
set_option maxRecDepth 100000 in
theorem gs_wsX7_many_r2 : GoodIn lw_tbl wsX7_many_r2 := goodIn_r _ [1046, 45, 1047, 995, 1122, 1123, 1124, 1125, 1126, 1127, 58, 1128, 1129, 1130, 59, 1131, 1132, 1133, 1134, 1135, 994, 1378, 1379, 1380] (by decide +kernel) (by decide +kernel)
set_option maxRecDepth 100000 in
theorem gs_wsX7_many_r3 : GoodIn lw_tbl wsX7_many_r3 := goodIn_r _ [61, 1381, 1162, 1159, 1153, 1155] (by decide +kernel) (by decide +kernel)
set_option maxRecDepth 100000 in
theorem gs_wsX7_many : GoodIn lw_tbl wsX7_many := (ax_gc (goodIn_r _ [1373] (by decide +kernel) (by decide +kernel)) (goodIn_app (goodIn_app (goodIn_app (goodIn_app (goodIn_app gs_wsX7_many_r1 (goodIn_app gs_wsX7_many_r2 gs_wsX7_many_r3)) gs_X70) gs_X50) gs_Jx4a65c0) ax_gn))
set_option maxRecDepth 100000 in
theorem gl_X7_many : GoodIn lw_tbl (wsV RL 177 RX7 yX7_many wsX7_many) := goodIn_app (goodIn_r _ [1370, 1371, 1372, 42] (by decide +kernel) (by decide +kernel)) gs_wsX7_many
set_option maxRecDepth 100000 in
theorem gs_wsX4_without_r1 : GoodIn lw_tbl wsX4_without_r1 := goodIn_r _ [240, 57, 775, 117, 119, 106, 147, 149, 1, 39, 150, 115, 669, 670, 671, 672, 673, 674, 615, 617, 9, 618, 116, 118] (by decide +kernel) (by decide +kernel)
set_option maxRecDepth 100000 in
theorem gs_wsX4_without_r2 : GoodIn lw_tbl wsX4_without_r2 := goodIn_r _ [581, 582, 583, 41, 584, 104, 107, 585, 270, 55, 271, 236, 238, 5, 239, 114, 261, 263, 6, 264, 265, 266, 267, 40] (by decide +kernel) (by decide +kernel)
set_option maxRecDepth 100000 in
theorem gs_wsX4_without_r3 : GoodIn lw_tbl wsX4_without_r3 := goodIn_r _ [268, 90, 733, 730, 736, 269, 272, 273, 274, 275, 276, 277, 60, 278, 770, 772, 780, 776, 279, 280, 281, 282, 283, 285] (by decide +kernel) (by decide +kernel)
set_option maxRecDepth 100000 in
theorem gs_wsX4_without_r4 : GoodIn lw_tbl wsX4_without_r4 := goodIn_r _ [7, 286, 91, 287, 288, 289, 290, 291, 292, 293, 294, 295, 296, 297, 298, 299, 300, 301, 302, 303, 304, 305, 306, 307] (by decide +kernel) (by decide +kernel)
set_option maxRecDepth 100000 in
theorem gs_wsX4_without_r5 : GoodIn lw_tbl wsX4_without_r5 := goodIn_r _ [308, 309, 310, 311, 312, 313, 314, 315, 317, 318, 63, 558, 559, 69, 586, 587, 588, 589, 590, 591, 592, 593, 594, 595] (by decide +kernel) (by decide +kernel)
set_option maxRecDepth 100000 in
theorem gs_wsX4_without_r6 : GoodIn lw_tbl wsX4_without_r6 := goodIn_r _ [596, 597, 598, 599, 600, 601, 602, 604, 8, 605] (by decide +kernel) (by decide +kernel)
set_option maxRecDepth 100000 in
theorem gs_wsX4_without : GoodIn lw_tbl wsX4_without := (ax_gc (goodIn_r _ [668] (by decide +kernel) (by decide +kernel)) (goodIn_app (goodIn_app (goodIn_app (goodIn_app (goodIn_app (goodIn_app (goodIn_app (goodIn_app (goodIn_app (goodIn_app gs_wsX4_without_r1 (goodIn_app gs_wsX4_without_r2 (goodIn_app gs_wsX4_without_r3 (goodIn_app gs_wsX4_without_r4 (goodIn_app gs_wsX4_without_r5 gs_wsX4_without_r6))))) gs_X10) gs_X40) gs_X20) gs_X00) gs_X30) gs_J40) gs_Jx000600) gs_at63) ax_gn))
set_option maxRecDepth 100000 in
theorem gl_L_without : GoodIn lw_tbl (va_wsS RL 178 yL_without wl_without) := goodIn_app (goodIn_r _ [962, 963, 38] (by decide +kernel) (by decide +kernel)) (ax_gc (goodIn_r _ [964] (by decide +kernel) (by decide +kernel)) (goodIn_app (goodIn_r _ [965, 666, 667, 39, 748] (by decide +kernel) (by decide +kernel)) gs_wsX4_without))
set_option maxRecDepth 100000 in
theorem gs_wsX7_without_r1 : GoodIn lw_tbl wsX7_without_r1 := goodIn_r _ [1181, 1183, 19, 42, 1184, 1008, 1044, 1045, 1046, 45, 1047, 995, 1033, 1034, 1035, 1030, 1031, 1032, 1036, 1038, 14, 1039, 1006, 1040] (by decide +kernel) (by decide +kernel)
set_option maxRecDepth 100000 in
theorem gs_wsX7_without_r2 : GoodIn lw_tbl wsX7_without_r2 := goodIn_r _ [1042, 15, 1043, 1386, 1388, 34, 1389, 1147, 1158, 1122, 1123, 1124, 1125, 1126, 1127, 58, 1128, 1129, 1130, 59, 1131, 1132, 1133, 1134] (by decide +kernel) (by decide +kernel)
set_option maxRecDepth 100000 in
theorem gs_wsX7_without_r3 : GoodIn lw_tbl wsX7_without_r3 := goodIn_r _ [1135, 994, 1390, 1392, 35, 1393, 1197, 1199, 20, 1200, 1201, 1203, 21, 1204, 1205, 1207, 22, 1208, 1007, 97, 1048, 1055, 1057, 1059] (by decide +kernel) (by decide +kernel)
set_option maxRecDepth 100000 in
theorem gs_wsX7_without_r4 : GoodIn lw_tbl wsX7_without_r4 := goodIn_r _ [1209, 1210, 1211, 1212, 1213, 1214, 1215, 1217, 23, 1218, 1160, 1219, 1220, 1221, 1154, 1156, 1163, 1222, 1223, 1224, 1225, 1226, 1227, 1228] (by decide +kernel) (by decide +kernel)
set_option maxRecDepth 100000 in
theorem gs_wsX7_without_r5 : GoodIn lw_tbl wsX7_without_r5 := goodIn_r _ [1230, 1232, 24, 1233, 1234, 1235, 1236] (by decide +kernel) (by decide +kernel)
set_option maxRecDepth 100000 in
theorem gs_wsX7_without : GoodIn lw_tbl wsX7_without := (ax_gc (goodIn_r _ [1385] (by decide +kernel) (by decide +kernel)) (goodIn_app (goodIn_app (goodIn_app (goodIn_app (goodIn_app (goodIn_app gs_wsX7_without_r1 (goodIn_app gs_wsX7_without_r2 (goodIn_app gs_wsX7_without_r3 (goodIn_app gs_wsX7_without_r4 gs_wsX7_without_r5)))) gs_X70) gs_Jx4a65c0) gs_X50) gs_X60) ax_gn))
set_option maxRecDepth 100000 in
theorem gl_X7_without : GoodIn lw_tbl (wsV RL 180 RX7 yX7_without wsX7_without) := goodIn_app (goodIn_r _ [1382, 1383, 1384, 42] (by decide +kernel) (by decide +kernel)) gs_wsX7_without
set_option maxRecDepth 100000 in
theorem gs_wsX4_best_r1 : GoodIn lw_tbl wsX4_best_r1 := goodIn_r _ [240, 57, 773, 771, 117, 119, 147, 149, 1, 39, 150, 115, 669, 670, 671, 672, 673, 674, 680, 681, 682, 60, 683, 770] (by decide +kernel) (by decide +kernel)
set_option maxRecDepth 100000 in
theorem gs_wsX4_best_r2 : GoodIn lw_tbl wsX4_best_r2 := goodIn_r _ [684, 685, 686, 687, 689, 690, 691, 692, 615, 617, 9, 618, 116, 118, 581, 582, 583, 41, 584, 104, 107, 585, 270, 55] (by decide +kernel) (by decide +kernel)
set_option maxRecDepth 100000 in
theorem gs_wsX4_best_r3 : GoodIn lw_tbl wsX4_best_r3 := goodIn_r _ [271, 236, 238, 5, 239, 114, 261, 263, 6, 264, 775, 265, 266, 267, 40, 268, 90, 733, 730, 736, 269, 272, 273, 274] (by decide +kernel) (by decide +kernel)
set_option maxRecDepth 100000 in
theorem gs_wsX4_best_r4 : GoodIn lw_tbl wsX4_best_r4 := goodIn_r _ [275, 276, 277, 278, 772, 780, 776, 279, 280, 281, 282, 283, 285, 7, 286, 91, 287, 288, 289, 290, 291, 292, 293, 294] (by decide +kernel) (by decide +kernel)
set_option maxRecDepth 100000 in
theorem gs_wsX4_best_r5 : GoodIn lw_tbl wsX4_best_r5 := goodIn_r _ [295, 296, 297, 298, 299, 300, 301, 302, 303, 304, 305, 306, 307, 308, 309, 310, 311, 312, 313, 314, 315, 317, 318, 63] (by decide +kernel) (by decide +kernel)
set_option maxRecDepth 100000 in
theorem gs_wsX4_best_r6 : GoodIn lw_tbl wsX4_best_r6 := goodIn_r _ [558, 559, 69, 586, 587, 588, 589, 590, 591, 592, 593, 594, 595, 596, 597, 598, 599, 600, 601, 602, 604, 8, 605, 694] (by decide +kernel) (by decide +kernel)
set_option maxRecDepth 100000 in
theorem gs_wsX4_best_r7 : GoodIn lw_tbl wsX4_best_r7 := goodIn_r _ [611, 612, 613, 614] (by decide +kernel) (by decide +kernel)
set_option maxRecDepth 100000 in
theorem gs_wsX4_best : GoodIn lw_tbl wsX4_best := (ax_gc (goodIn_r _ [679] (by decide +kernel) (by decide +kernel)) (goodIn_app (goodIn_app (goodIn_app (goodIn_app (goodIn_app (goodIn_app (goodIn_app (goodIn_app (goodIn_app (goodIn_app gs_wsX4_best_r1 (goodIn_app gs_wsX4_best_r2 (goodIn_app gs_wsX4_best_r3 (goodIn_app gs_wsX4_best_r4 (goodIn_app gs_wsX4_best_r5 (goodIn_app gs_wsX4_best_r6 gs_wsX4_best_r7)))))) gs_X10) gs_X40) gs_X20) gs_X00) gs_X30) gs_J40) gs_Jx000600) gs_at63) ax_gn))
set_option maxRecDepth 100000 in
theorem gl_L_best : GoodIn lw_tbl (va_wsS RL 181 yL_best wl_best) := goodIn_app (goodIn_r _ [966, 967, 38] (by decide +kernel) (by decide +kernel)) (ax_gc (goodIn_r _ [968] (by decide +kernel) (by decide +kernel)) (goodIn_app (goodIn_r _ [969, 677, 678, 39, 748] (by decide +kernel) (by decide +kernel)) gs_wsX4_best))
set_option maxRecDepth 100000 in
theorem gs_wsX7_best_r1 : GoodIn lw_tbl wsX7_best_r1 := goodIn_r _ [1181, 1183, 19, 42, 1184, 1008, 1044, 1045, 1046, 45, 1047, 995, 1033, 1034, 1035, 1030, 1031, 1032, 1036, 1038, 14, 1039, 1006, 1040] (by decide +kernel) (by decide +kernel)
set_option maxRecDepth 100000 in
theorem gs_wsX7_best_r2 : GoodIn lw_tbl wsX7_best_r2 := goodIn_r _ [1042, 15, 1043, 1398, 1400, 36, 1401, 1147, 1154, 1156, 1143, 1145, 1122, 1123, 1124, 1125, 1126, 1127, 58, 1128, 1129, 1130, 59, 1131] (by decide +kernel) (by decide +kernel)
set_option maxRecDepth 100000 in
theorem gs_wsX7_best_r3 : GoodIn lw_tbl wsX7_best_r3 := goodIn_r _ [1132, 1133, 1134, 1135, 994, 1390, 1392, 35, 1393, 1197, 1199, 20, 1200, 1201, 1203, 21, 1204, 1205, 1207, 22, 1208, 1007, 97, 1048] (by decide +kernel) (by decide +kernel)
set_option maxRecDepth 100000 in
theorem gs_wsX7_best_r4 : GoodIn lw_tbl wsX7_best_r4 := goodIn_r _ [1055, 1057, 1059, 1209, 1210, 1211, 1212, 1213, 1214, 1215, 1217, 23, 1218, 1158, 1160, 1219, 1220, 1221, 1163, 1222, 1223, 1224, 1225, 1226] (by decide +kernel) (by decide +kernel)
set_option maxRecDepth 100000 in
theorem gs_wsX7_best_r5 : GoodIn lw_tbl wsX7_best_r5 := goodIn_r _ [1227, 1228, 1281, 1283, 29, 1284, 1285, 1230, 1232, 24, 1233, 1234, 1235, 1236, 1258, 1260, 26, 1261, 1262, 1263, 1264] (by decide +kernel) (by decide +kernel)
set_option maxRecDepth 100000 in
theorem gs_wsX7_best : GoodIn lw_tbl wsX7_best := (ax_gc (goodIn_r _ [1397] (by decide +kernel) (by decide +kernel)) (goodIn_app (goodIn_app (goodIn_app (goodIn_app (goodIn_app (goodIn_app gs_wsX7_best_r1 (goodIn_app gs_wsX7_best_r2 (goodIn_app gs_wsX7_best_r3 (goodIn_app gs_wsX7_best_r4 gs_wsX7_best_r5)))) gs_X70) gs_Jx4a65c0) gs_X50) gs_X60) ax_gn))
set_option maxRecDepth 100000 in
theorem gl_X7_best : GoodIn lw_tbl (wsV RL 183 RX7 yX7_best wsX7_best) := goodIn_app (goodIn_r _ [1394, 1395, 1396, 42] (by decide +kernel) (by decide +kernel)) gs_wsX7_best
set_option maxRecDepth 100000 in
theorem gs_wsX4_alone_r1 : GoodIn lw_tbl wsX4_alone_r1 := goodIn_r _ [240, 57, 117, 119, 118, 236, 238, 5, 39, 239, 116, 114, 261, 263, 6, 264, 775, 265, 266, 267, 40, 268, 90, 733] (by decide +kernel) (by decide +kernel)
set_option maxRecDepth 100000 in
theorem gs_wsX4_alone_r2 : GoodIn lw_tbl wsX4_alone_r2 := goodIn_r _ [730, 736, 269, 270, 55, 271, 272, 273, 274, 147, 149, 1, 150, 115, 275, 276, 277, 60, 278, 770, 772, 780, 776, 279] (by decide +kernel) (by decide +kernel)
set_option maxRecDepth 100000 in
theorem gs_wsX4_alone_r3 : GoodIn lw_tbl wsX4_alone_r3 := goodIn_r _ [280, 281, 282, 283, 285, 7, 286, 91, 287, 288, 289, 290, 291, 292, 293, 294, 295, 296, 297, 298, 299, 300, 301, 302] (by decide +kernel) (by decide +kernel)
set_option maxRecDepth 100000 in
theorem gs_wsX4_alone_r4 : GoodIn lw_tbl wsX4_alone_r4 := goodIn_r _ [303, 304, 305, 306, 307, 308, 309, 310, 311, 312, 313, 314, 315, 317, 318, 63, 558, 559, 69, 581, 582, 583, 41, 584] (by decide +kernel) (by decide +kernel)
set_option maxRecDepth 100000 in
theorem gs_wsX4_alone_r5 : GoodIn lw_tbl wsX4_alone_r5 := goodIn_r _ [104, 107, 585, 586, 587, 588, 589, 590, 591, 592, 593, 594, 595, 596, 597, 598, 599, 600, 601, 602, 604, 8, 605, 606] (by decide +kernel) (by decide +kernel)
set_option maxRecDepth 100000 in
theorem gs_wsX4_alone_r6 : GoodIn lw_tbl wsX4_alone_r6 := goodIn_r _ [607, 608, 609, 610, 611, 612, 613, 614] (by decide +kernel) (by decide +kernel)
set_option maxRecDepth 100000 in
theorem gs_wsX4_alone : GoodIn lw_tbl wsX4_alone := (ax_gc (goodIn_r _ [260] (by decide +kernel) (by decide +kernel)) (goodIn_app (goodIn_app (goodIn_app (goodIn_app (goodIn_app (goodIn_app (goodIn_app (goodIn_app (goodIn_app (goodIn_app gs_wsX4_alone_r1 (goodIn_app gs_wsX4_alone_r2 (goodIn_app gs_wsX4_alone_r3 (goodIn_app gs_wsX4_alone_r4 (goodIn_app gs_wsX4_alone_r5 gs_wsX4_alone_r6))))) gs_X40) gs_X10) gs_X00) gs_X30) gs_J40) gs_Jx000600) gs_X20) gs_at63) ax_gn))
set_option maxRecDepth 100000 in
theorem gl_L_alone : GoodIn lw_tbl (va_wsS RL 184 yL_alone wl_alone) := goodIn_app (goodIn_r _ [970, 971, 38] (by decide +kernel) (by decide +kernel)) (ax_gc (goodIn_r _ [972] (by decide +kernel) (by decide +kernel)) (goodIn_app (goodIn_r _ [973, 258, 259, 39, 748] (by decide +kernel) (by decide +kernel)) gs_wsX4_alone))
set_option maxRecDepth 100000 in
theorem gs_wsX7_alone_r1 : GoodIn lw_tbl wsX7_alone_r1 := goodIn_r _ [1007, 1044, 1045, 1046, 45, 1047, 995, 1033, 1034, 42, 1035, 1036, 1038, 14, 1039, 1006, 1040, 1042, 15, 1043, 1406, 1408, 37, 1409] (by decide +kernel) (by decide +kernel)
set_option maxRecDepth 100000 in
theorem gs_wsX7_alone_r2 : GoodIn lw_tbl wsX7_alone_r2 := goodIn_r _ [1390, 1392, 35, 1393, 1008, 1201, 1203, 21, 1204, 1147, 1205, 1207, 22, 1208, 97, 1048, 1055, 1057, 1059, 1122, 1123, 1124, 1125, 1126] (by decide +kernel) (by decide +kernel)
set_option maxRecDepth 100000 in
theorem gs_wsX7_alone_r3 : GoodIn lw_tbl wsX7_alone_r3 := goodIn_r _ [1127, 58, 1128, 1129, 1130, 59, 1131, 1132, 1133, 1134, 1135, 994, 1209, 1210, 1211, 1212, 1213, 1214, 1215, 1217, 23, 1218, 1158, 1160] (by decide +kernel) (by decide +kernel)
set_option maxRecDepth 100000 in
theorem gs_wsX7_alone_r4 : GoodIn lw_tbl wsX7_alone_r4 := goodIn_r _ [1219, 1220, 1221, 1154, 1156, 1163, 1222, 1223, 1224, 1225, 1226, 1227, 1228, 1277, 1279, 28, 1280, 1281, 1283, 29, 1284, 1285, 1230, 1232] (by decide +kernel) (by decide +kernel)
set_option maxRecDepth 100000 in
theorem gs_wsX7_alone_r5 : GoodIn lw_tbl wsX7_alone_r5 := goodIn_r _ [24, 1233, 1234, 1235, 1236, 1258, 1260, 26, 1261, 1262, 1263, 1264] (by decide +kernel) (by decide +kernel)
set_option maxRecDepth 100000 in
theorem gs_wsX7_alone : GoodIn lw_tbl wsX7_alone := (ax_gc (goodIn_r _ [1405] (by decide +kernel) (by decide +kernel)) (goodIn_app (goodIn_app (goodIn_app (goodIn_app (goodIn_app (goodIn_app gs_wsX7_alone_r1 (goodIn_app gs_wsX7_alone_r2 (goodIn_app gs_wsX7_alone_r3 (goodIn_app gs_wsX7_alone_r4 gs_wsX7_alone_r5)))) gs_X70) gs_Jx4a65c0) gs_X60) gs_X50) ax_gn))
set_option maxRecDepth 100000 in
theorem gl_X7_alone : GoodIn lw_tbl (wsV RL 186 RX7 yX7_alone wsX7_alone) := goodIn_app (goodIn_r _ [1402, 1403, 1404, 42] (by decide +kernel) (by decide +kernel)) gs_wsX7_alone
set_option maxRecDepth 100000 in
theorem gs_wsX4_digest_r1 : GoodIn lw_tbl wsX4_digest_r1 := goodIn_r _ [137, 138, 116, 117, 119, 139, 140, 141, 39, 142, 163, 49, 143, 145, 0, 146, 775, 147, 149, 1, 150, 115, 151, 153] (by decide +kernel) (by decide +kernel)
set_option maxRecDepth 100000 in
theorem gs_wsX4_digest_r2 : GoodIn lw_tbl wsX4_digest_r2 := goodIn_r _ [2, 154, 155, 156, 157, 60, 158, 776, 770, 772, 780, 159, 161, 3, 162, 779, 232, 233, 234, 235, 240, 57, 731, 734] (by decide +kernel) (by decide +kernel)
set_option maxRecDepth 100000 in
theorem gs_wsX4_digest_r3 : GoodIn lw_tbl wsX4_digest_r3 := goodIn_r _ [737, 236, 238, 5, 239, 114, 257, 258, 259, 260, 118, 261, 263, 6, 264, 265, 266, 267, 40, 268, 90, 733, 730, 736] (by decide +kernel) (by decide +kernel)
set_option maxRecDepth 100000 in
theorem gs_wsX4_digest_r4 : GoodIn lw_tbl wsX4_digest_r4 := goodIn_r _ [269, 270, 55, 271, 272, 273, 274, 275, 276, 277, 278, 279, 280, 281, 282, 283, 285, 7, 286, 91, 287, 288, 289, 290] (by decide +kernel) (by decide +kernel)
set_option maxRecDepth 100000 in
theorem gs_wsX4_digest_r5 : GoodIn lw_tbl wsX4_digest_r5 := goodIn_r _ [291, 292, 293, 294, 295, 296, 297, 298, 299, 300, 301, 302, 303, 304, 305, 306, 307, 308, 309, 310, 311, 312, 313, 314] (by decide +kernel) (by decide +kernel)
set_option maxRecDepth 100000 in
theorem gs_wsX4_digest_r6 : GoodIn lw_tbl wsX4_digest_r6 := goodIn_r _ [315, 317, 318, 63, 558, 559, 69, 581, 582, 583, 41, 584, 104, 107, 585, 586, 587, 588, 589, 590, 591, 592, 593, 594] (by decide +kernel) (by decide +kernel)
set_option maxRecDepth 100000 in
theorem gs_wsX4_digest_r7 : GoodIn lw_tbl wsX4_digest_r7 := goodIn_r _ [595, 596, 597, 598, 599, 600, 601, 602, 604, 8, 605, 606, 607, 608, 609, 610, 611, 612, 613, 614, 615, 617, 9, 618] (by decide +kernel) (by decide +kernel)
set_option maxRecDepth 100000 in
theorem gs_wsX4_digest_r8 : GoodIn lw_tbl wsX4_digest_r8 := goodIn_r _ [619, 620, 621, 622, 623, 624, 625, 626, 627, 628, 629, 630, 631, 632, 633, 635, 10, 636, 637, 638, 639, 640, 771, 773] (by decide +kernel) (by decide +kernel)
set_option maxRecDepth 100000 in
theorem gs_wsX4_digest_r9 : GoodIn lw_tbl wsX4_digest_r9 := goodIn_r _ [777, 642, 643, 644, 645, 647, 648, 649, 650, 651, 652, 653, 654, 655, 656, 657, 658, 659, 660, 661, 662, 663, 664, 665] (by decide +kernel) (by decide +kernel)
set_option maxRecDepth 100000 in
theorem gs_wsX4_digest_r10 : GoodIn lw_tbl wsX4_digest_r10 := goodIn_r _ [666, 667, 668, 106, 669, 670, 671, 672, 673, 674, 676, 677, 678, 679, 680, 681, 682, 683, 684, 685, 686, 687, 689, 690] (by decide +kernel) (by decide +kernel)
set_option maxRecDepth 100000 in
theorem gs_wsX4_digest_r11 : GoodIn lw_tbl wsX4_digest_r11 := goodIn_r _ [691, 692, 694] (by decide +kernel) (by decide +kernel)
set_option maxRecDepth 100000 in
theorem gs_wsX4_digest : GoodIn lw_tbl wsX4_digest := (ax_gc (goodIn_r _ [136] (by decide +kernel) (by decide +kernel)) (goodIn_app (goodIn_app (goodIn_app (goodIn_app (goodIn_app (goodIn_app (goodIn_app (goodIn_app (goodIn_app (goodIn_app (goodIn_app gs_wsX4_digest_r1 (goodIn_app gs_wsX4_digest_r2 (goodIn_app gs_wsX4_digest_r3 (goodIn_app gs_wsX4_digest_r4 (goodIn_app gs_wsX4_digest_r5 (goodIn_app gs_wsX4_digest_r6 (goodIn_app gs_wsX4_digest_r7 (goodIn_app gs_wsX4_digest_r8 (goodIn_app gs_wsX4_digest_r9 (goodIn_app gs_wsX4_digest_r10 gs_wsX4_digest_r11)))))))))) gs_X40) gs_X10) gs_X30) gs_X00) gs_J40) gs_Jx000600) gs_X20) gs_at81) ax_gn) gs_at63))
set_option maxRecDepth 100000 in
theorem gl_X4_digest : GoodIn lw_tbl (wsV RL 187 RX4 yX4_digest wsX4_digest) := goodIn_app (goodIn_r _ [133, 134, 135, 39] (by decide +kernel) (by decide +kernel)) gs_wsX4_digest
set_option maxRecDepth 100000 in
theorem gs_wsX7_digest_r1 : GoodIn lw_tbl wsX7_digest_r1 := goodIn_r _ [1006, 1414, 1007, 1048, 1008, 1147, 1374, 1376, 33, 42, 1377, 1158, 1009, 1044, 1045, 1046, 45, 1047, 995, 1122, 1123, 1124, 1125, 1126] (by decide +kernel) (by decide +kernel)
set_option maxRecDepth 100000 in
theorem gs_wsX7_digest_r2 : GoodIn lw_tbl wsX7_digest_r2 := goodIn_r _ [1127, 58, 1128, 1129, 1130, 59, 1131, 1132, 1133, 1134, 1135, 994, 1378, 1379, 1380, 61, 1381, 1162, 1159, 1153, 1155, 1415, 1416, 1417] (by decide +kernel) (by decide +kernel)
set_option maxRecDepth 100000 in
theorem gs_wsX7_digest_r3 : GoodIn lw_tbl wsX7_digest_r3 := goodIn_r _ [1418, 1367, 1368, 1369, 1055, 1057, 1059, 1406, 1408, 37, 1409, 1390, 1392, 35, 1393, 1201, 1203, 21, 1204, 1205, 1207, 22, 1208, 97] (by decide +kernel) (by decide +kernel)
set_option maxRecDepth 100000 in
theorem gs_wsX7_digest_r4 : GoodIn lw_tbl wsX7_digest_r4 := goodIn_r _ [1209, 1210, 1211, 1212, 1213, 1214, 1215, 1217, 23, 1218, 1160, 1219, 1220, 1221, 1154, 1156, 1163, 1222, 1223, 1224, 1225, 1226, 1227, 1228] (by decide +kernel) (by decide +kernel)
set_option maxRecDepth 100000 in
theorem gs_wsX7_digest_r5 : GoodIn lw_tbl wsX7_digest_r5 := goodIn_r _ [1277, 1279, 28, 1280, 1281, 1283, 29, 1284, 1285, 1230, 1232, 24, 1233, 1234, 1235, 1236, 1258, 1260, 26, 1261, 1262, 1263, 1264, 1290] (by decide +kernel) (by decide +kernel)
set_option maxRecDepth 100000 in
theorem gs_wsX7_digest_r6 : GoodIn lw_tbl wsX7_digest_r6 := goodIn_r _ [1292, 30, 1293, 1298, 1300, 31, 1301, 1356, 1357, 1358, 1161, 1238, 1239, 1240, 1241, 1344, 1346, 32, 1347, 1197, 1199, 20, 1200, 1348] (by decide +kernel) (by decide +kernel)
set_option maxRecDepth 100000 in
theorem gs_wsX7_digest_r7 : GoodIn lw_tbl wsX7_digest_r7 := goodIn_r _ [1349, 1350, 1351, 1269, 1271, 27, 1272, 1386, 1388, 34, 1389, 1398, 1400, 36, 1401, 1143, 1145] (by decide +kernel) (by decide +kernel)
set_option maxRecDepth 100000 in
theorem gs_wsX7_digest : GoodIn lw_tbl wsX7_digest := (ax_gc (goodIn_r _ [1413] (by decide +kernel) (by decide +kernel)) (goodIn_app (goodIn_app (goodIn_app (goodIn_app (goodIn_app (goodIn_app gs_wsX7_digest_r1 (goodIn_app gs_wsX7_digest_r2 (goodIn_app gs_wsX7_digest_r3 (goodIn_app gs_wsX7_digest_r4 (goodIn_app gs_wsX7_digest_r5 (goodIn_app gs_wsX7_digest_r6 gs_wsX7_digest_r7)))))) gs_X70) gs_X50) gs_Jx4a65c0) gs_X60) ax_gn))
set_option maxRecDepth 100000 in
theorem gl_X7_digest : GoodIn lw_tbl (wsV RL 191 RX7 yX7_digest wsX7_digest) := goodIn_app (goodIn_r _ [1410, 1411, 1412, 42] (by decide +kernel) (by decide +kernel)) gs_wsX7_digest