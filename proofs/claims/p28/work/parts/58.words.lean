theorem ax_gc {big l : List Cond} {w : Cond} (h1 : GoodIn big [w]) (h2 : GoodIn big l) : GoodIn big (w :: l) := fun x h => (List.mem_cons.mp h).elim (fun e => h1 x (by rw [e]; exact List.mem_cons_self)) (h2 x)
theorem ax_gn {big : List Cond} : GoodIn big ([] : List Cond) := fun _ h => absurd h List.not_mem_nil
set_option maxRecDepth 100000 in
theorem in_X0 : ∀ w ∈ wsX00, w ∈ lw_tbl := by decide +kernel
set_option maxRecDepth 100000 in
theorem gs_X00 : GoodIn lw_tbl wsX00 := goodIn_sub in_X0 (by decide +kernel)
set_option maxRecDepth 100000 in
theorem in_X1 : ∀ w ∈ wsX10, w ∈ lw_tbl := by decide +kernel
set_option maxRecDepth 100000 in
theorem gs_X10 : GoodIn lw_tbl wsX10 := goodIn_sub in_X1 (by decide +kernel)
set_option maxRecDepth 100000 in
theorem in_X2 : ∀ w ∈ wsX20, w ∈ lw_tbl := by decide +kernel
set_option maxRecDepth 100000 in
theorem gs_X20 : GoodIn lw_tbl wsX20 := goodIn_sub in_X2 (by decide +kernel)
set_option maxRecDepth 100000 in
theorem in_X3 : ∀ w ∈ wsX30, w ∈ lw_tbl := by decide +kernel
set_option maxRecDepth 100000 in
theorem gs_X30 : GoodIn lw_tbl wsX30 := goodIn_sub in_X3 (by decide +kernel)
set_option maxRecDepth 100000 in
theorem in_X4 : ∀ w ∈ wsX40, w ∈ lw_tbl := by decide +kernel
set_option maxRecDepth 100000 in
theorem gs_X40 : GoodIn lw_tbl wsX40 := goodIn_sub in_X4 (by decide +kernel)
set_option maxRecDepth 100000 in
theorem gs_at63 : GoodIn lw_tbl ((vx_atS RX4 63 "java/lang/IndexOutOfBoundsException" ["java/lang/RuntimeException", "java/lang/Exception"]).filter goodWord) := goodIn_sub (by decide +kernel) (by decide +kernel)
set_option maxRecDepth 100000 in
theorem gs_at81 : GoodIn lw_tbl ((vx_atS RX4 81 "java/lang/IllegalArgumentException" ["java/lang/RuntimeException", "java/lang/Exception"]).filter goodWord) := goodIn_sub (by decide +kernel) (by decide +kernel)
set_option maxRecDepth 100000 in
theorem gs_at50 : GoodIn lw_tbl ((vx_atS RX4 50 "java/lang/IllegalStateException" ["java/lang/RuntimeException", "java/lang/Exception"]).filter goodWord) := goodIn_sub (by decide +kernel) (by decide +kernel)
set_option maxRecDepth 100000 in
theorem gs_wsX4_init_r1 : GoodIn lw_tbl wsX4_init_r1 := goodIn_r _ [33, 34, 35, 36, 70, 38, 71, 40, 41, 16, 74, 54, 55, 17, 75, 72, 73, 43, 44, 45, 53, 46, 47, 57] (by decide +kernel) (by decide +kernel)
set_option maxRecDepth 100000 in
theorem gs_wsX4_init_r2 : GoodIn lw_tbl wsX4_init_r2 := goodIn_r _ [58, 59, 60, 63] (by decide +kernel) (by decide +kernel)
set_option maxRecDepth 100000 in
theorem gs_wsX4_init : GoodIn lw_tbl wsX4_init := (ax_gc (goodIn_r _ [32] (by decide +kernel) (by decide +kernel)) (goodIn_app (goodIn_app (goodIn_app (goodIn_app gs_wsX4_init_r1 gs_wsX4_init_r2) gs_X40) gs_X00) gs_X20))
set_option maxRecDepth 100000 in
theorem gl_X4_init : GoodIn lw_tbl wsX4_init := gs_wsX4_init
set_option maxRecDepth 100000 in
theorem gs_wsL_cell : GoodIn lw_tbl wsL_cell := (ax_gc (goodIn_r _ [545] (by decide +kernel) (by decide +kernel)) (goodIn_r _ [546] (by decide +kernel) (by decide +kernel)))
set_option maxRecDepth 100000 in
theorem gl_L_cell : GoodIn lw_tbl (va_wsS RL 14 yL_cell wsL_cell) := goodIn_app (goodIn_r _ [543, 544, 14] (by decide +kernel) (by decide +kernel)) gs_wsL_cell
set_option maxRecDepth 100000 in
theorem gs_wsX4_many_r1 : GoodIn lw_tbl wsX4_many_r1 := goodIn_r _ [99, 21, 72, 73, 463, 465, 10, 15, 466, 257, 282, 284, 2, 285, 71, 467, 469, 11, 470, 471, 472, 473, 26, 474] (by decide +kernel) (by decide +kernel)
set_option maxRecDepth 100000 in
theorem gs_wsX4_many_r2 : GoodIn lw_tbl wsX4_many_r2 := goodIn_r _ [258, 252, 254, 262, 475, 477, 12, 478, 261] (by decide +kernel) (by decide +kernel)
set_option maxRecDepth 100000 in
theorem gs_wsX4_many : GoodIn lw_tbl wsX4_many := (ax_gc (goodIn_r _ [462] (by decide +kernel) (by decide +kernel)) (goodIn_app (goodIn_app (goodIn_app (goodIn_app gs_wsX4_many_r1 gs_wsX4_many_r2) gs_X40) gs_X10) gs_at81))
set_option maxRecDepth 100000 in
theorem gl_X4_many : GoodIn lw_tbl (wsV RL 20 RX4 yX4_many wsX4_many) := goodIn_app (goodIn_r _ [459, 460, 461, 15] (by decide +kernel) (by decide +kernel)) gs_wsX4_many
set_option maxRecDepth 100000 in
theorem gs_wsL_below : GoodIn lw_tbl wsL_below := (ax_gc (goodIn_r _ [541] (by decide +kernel) (by decide +kernel)) (goodIn_r _ [542] (by decide +kernel) (by decide +kernel)))
set_option maxRecDepth 100000 in
theorem gl_L_below : GoodIn lw_tbl (va_wsS RL 30 yL_below wsL_below) := goodIn_app (goodIn_r _ [539, 540, 14] (by decide +kernel) (by decide +kernel)) gs_wsL_below
set_option maxRecDepth 100000 in
theorem gs_wsX4_source_r1 : GoodIn lw_tbl wsX4_source_r1 := goodIn_r _ [167, 23, 72, 70, 36, 183, 24, 93, 94, 15, 95, 99, 21, 96, 97, 98, 184, 185, 186, 187, 34, 35, 188, 191] (by decide +kernel) (by decide +kernel)
set_option maxRecDepth 100000 in
theorem gs_wsX4_source_r2 : GoodIn lw_tbl wsX4_source_r2 := goodIn_r _ [194] (by decide +kernel) (by decide +kernel)
set_option maxRecDepth 100000 in
theorem gs_wsX4_source : GoodIn lw_tbl wsX4_source := (ax_gc (goodIn_r _ [92] (by decide +kernel) (by decide +kernel)) (goodIn_app (goodIn_app (goodIn_app (goodIn_app (goodIn_app gs_wsX4_source_r1 gs_wsX4_source_r2) gs_X40) gs_X30) gs_at50) gs_at81))
set_option maxRecDepth 100000 in
theorem gl_X4_source : GoodIn lw_tbl (wsV RL 33 RX4 yX4_source wsX4_source) := goodIn_app (goodIn_r _ [89, 90, 91, 15] (by decide +kernel) (by decide +kernel)) gs_wsX4_source
set_option maxRecDepth 100000 in
theorem gs_wsX4_move : GoodIn lw_tbl wsX4_move := (ax_gc (goodIn_r _ [207] (by decide +kernel) (by decide +kernel)) (goodIn_app (goodIn_app (goodIn_app (goodIn_app (goodIn_r _ [212, 25, 196, 190, 193, 208, 210, 1, 15, 211, 72, 70, 93, 94, 95, 99, 21, 96, 97, 98] (by decide +kernel) (by decide +kernel)) gs_X30) gs_X40) gs_at63) gs_at81))
set_option maxRecDepth 100000 in
theorem gl_X4_move : GoodIn lw_tbl (wsV RL 37 RX4 yX4_move wsX4_move) := goodIn_app (goodIn_r _ [204, 205, 206, 15] (by decide +kernel) (by decide +kernel)) gs_wsX4_move
set_option maxRecDepth 100000 in
theorem gs_wsL_number : GoodIn lw_tbl wsL_number := (ax_gc (goodIn_r _ [549] (by decide +kernel) (by decide +kernel)) (goodIn_r _ [550, 551, 539, 540, 14, 541, 542] (by decide +kernel) (by decide +kernel)))
set_option maxRecDepth 100000 in
theorem gl_L_number : GoodIn lw_tbl (va_wsS RL 41 yL_number wsL_number) := goodIn_app (goodIn_r _ [547, 548, 14] (by decide +kernel) (by decide +kernel)) gs_wsL_number
set_option maxRecDepth 100000 in
theorem gs_wsX4_part_r1 : GoodIn lw_tbl wsX4_part_r1 := goodIn_r _ [99, 21, 167, 23, 73, 71, 38, 247, 26, 232, 233, 15, 234, 235, 236, 237, 238, 240, 241, 242, 243, 248, 249, 250] (by decide +kernel) (by decide +kernel)
set_option maxRecDepth 100000 in
theorem gs_wsX4_part_r2 : GoodIn lw_tbl wsX4_part_r2 := goodIn_r _ [251, 34, 35, 256, 258, 260, 277, 262, 252, 254] (by decide +kernel) (by decide +kernel)
set_option maxRecDepth 100000 in
theorem gs_wsX4_part : GoodIn lw_tbl wsX4_part := (ax_gc (goodIn_r _ [231] (by decide +kernel) (by decide +kernel)) (goodIn_app (goodIn_app (goodIn_app (goodIn_app (goodIn_app gs_wsX4_part_r1 gs_wsX4_part_r2) gs_X40) gs_X10) gs_at81) gs_at50))
set_option maxRecDepth 100000 in
theorem gl_X4_part : GoodIn lw_tbl (wsV RL 44 RX4 yX4_part wsX4_part) := goodIn_app (goodIn_r _ [228, 229, 230, 15] (by decide +kernel) (by decide +kernel)) gs_wsX4_part
set_option maxRecDepth 100000 in
theorem gs_wsX4_ofPart : GoodIn lw_tbl wsX4_ofPart := (ax_gc (goodIn_r _ [453] (by decide +kernel) (by decide +kernel)) (goodIn_app (goodIn_app (goodIn_app (goodIn_app (goodIn_r _ [212, 25, 99, 21, 253, 255, 257, 259, 261, 282, 284, 2, 15, 285, 73, 71, 391, 392, 393, 26, 394, 262] (by decide +kernel) (by decide +kernel)) gs_X10) gs_X40) gs_at63) gs_at81))
set_option maxRecDepth 100000 in
theorem gl_X4_ofPart : GoodIn lw_tbl (wsV RL 47 RX4 yX4_ofPart wsX4_ofPart) := goodIn_app (goodIn_r _ [450, 451, 452, 15] (by decide +kernel) (by decide +kernel)) gs_wsX4_ofPart
set_option maxRecDepth 100000 in
theorem gs_wsX4_set : GoodIn lw_tbl wsX4_set := (ax_gc (goodIn_r _ [281] (by decide +kernel) (by decide +kernel)) (goodIn_app (goodIn_app (goodIn_app (goodIn_app (goodIn_r _ [212, 25, 99, 21, 253, 255, 282, 284, 2, 15, 285, 73, 71, 232, 233, 234, 235, 236, 237, 238, 240, 241, 242, 243] (by decide +kernel) (by decide +kernel)) gs_X10) gs_X40) gs_at63) gs_at81))
set_option maxRecDepth 100000 in
theorem gl_X4_set : GoodIn lw_tbl (wsV RL 50 RX4 yX4_set wsX4_set) := goodIn_app (goodIn_r _ [278, 279, 280, 15] (by decide +kernel) (by decide +kernel)) gs_wsX4_set
set_option maxRecDepth 100000 in
theorem gs_wsL_isPut_r1 : GoodIn lw_tbl wsL_isPut_r1 := goodIn_r _ [555, 527, 528, 15, 529, 212, 25, 257, 73, 75, 62, 282, 284, 2, 285, 71, 403, 404, 405, 96, 97, 98, 299, 301] (by decide +kernel) (by decide +kernel)
set_option maxRecDepth 100000 in
theorem gs_wsL_isPut_r2 : GoodIn lw_tbl wsL_isPut_r2 := goodIn_r _ [3, 302, 72, 74, 303, 304, 305, 17, 306, 60, 63, 307, 308, 27, 309, 208, 210, 1, 211, 70, 310, 312, 4, 313] (by decide +kernel) (by decide +kernel)
set_option maxRecDepth 100000 in
theorem gs_wsL_isPut_r3 : GoodIn lw_tbl wsL_isPut_r3 := goodIn_r _ [314, 315, 316, 16, 317, 46, 192, 189, 195, 318, 319, 320, 321, 322, 323, 324, 26, 325, 252, 254, 262, 258, 326, 327] (by decide +kernel) (by decide +kernel)
set_option maxRecDepth 100000 in
theorem gs_wsL_isPut_r4 : GoodIn lw_tbl wsL_isPut_r4 := goodIn_r _ [328, 329, 330, 332, 5, 333, 47, 334, 335, 336, 337, 338, 339, 340, 341, 342, 343, 344, 345, 346, 347, 348, 349, 350] (by decide +kernel) (by decide +kernel)
set_option maxRecDepth 100000 in
theorem gs_wsL_isPut_r5 : GoodIn lw_tbl wsL_isPut_r5 := goodIn_r _ [351, 352, 353, 354, 355, 356, 357, 358, 359, 360, 361, 362, 363, 364, 365, 366, 367, 368, 369, 370, 371, 372, 373, 374] (by decide +kernel) (by decide +kernel)
set_option maxRecDepth 100000 in
theorem gs_wsL_isPut_r6 : GoodIn lw_tbl wsL_isPut_r6 := goodIn_r _ [375, 376, 377, 378, 379, 381, 6, 382, 450, 451, 452, 453, 99, 21, 253, 255, 259, 261, 391, 392, 393, 394, 556, 557] (by decide +kernel) (by decide +kernel)
set_option maxRecDepth 100000 in
theorem gs_wsL_isPut_r7 : GoodIn lw_tbl wsL_isPut_r7 := goodIn_r _ [558, 559, 395, 396, 397, 398, 399, 401, 7, 402, 560, 516, 517, 518, 418, 419, 420, 421, 415, 416, 417, 519, 520, 521] (by decide +kernel) (by decide +kernel)
set_option maxRecDepth 100000 in
theorem gs_wsL_isPut_r8 : GoodIn lw_tbl wsL_isPut_r8 := goodIn_r _ [522, 523, 524, 525] (by decide +kernel) (by decide +kernel)
set_option maxRecDepth 100000 in
theorem gs_wsL_isPut : GoodIn lw_tbl wsL_isPut := (ax_gc (goodIn_r _ [554] (by decide +kernel) (by decide +kernel)) (goodIn_app (goodIn_app (goodIn_app (goodIn_app (goodIn_app (goodIn_app (goodIn_app (goodIn_app gs_wsL_isPut_r1 (goodIn_app gs_wsL_isPut_r2 (goodIn_app gs_wsL_isPut_r3 (goodIn_app gs_wsL_isPut_r4 (goodIn_app gs_wsL_isPut_r5 (goodIn_app gs_wsL_isPut_r6 (goodIn_app gs_wsL_isPut_r7 gs_wsL_isPut_r8))))))) gs_X10) gs_X40) gs_X20) gs_X00) gs_X30) gs_at63) gs_at81))
set_option maxRecDepth 100000 in
theorem gl_L_isPut : GoodIn lw_tbl (va_wsS RL 53 yL_isPut wsL_isPut) := goodIn_app (goodIn_r _ [552, 553, 14] (by decide +kernel) (by decide +kernel)) gs_wsL_isPut
set_option maxRecDepth 100000 in
theorem gs_wsX4_dirt : GoodIn lw_tbl wsX4_dirt := (ax_gc (goodIn_r _ [291] (by decide +kernel) (by decide +kernel)) (goodIn_app (goodIn_app (goodIn_app (goodIn_app (goodIn_r _ [212, 25, 99, 21, 259, 282, 284, 2, 15, 285, 73, 71] (by decide +kernel) (by decide +kernel)) gs_X10) gs_X40) gs_at63) gs_at81))
set_option maxRecDepth 100000 in
theorem gl_X4_dirt : GoodIn lw_tbl (wsV RL 57 RX4 yX4_dirt wsX4_dirt) := goodIn_app (goodIn_r _ [288, 289, 290, 15] (by decide +kernel) (by decide +kernel)) gs_wsX4_dirt
set_option maxRecDepth 100000 in
theorem gs_wsX4_expose_r1 : GoodIn lw_tbl wsX4_expose_r1 := goodIn_r _ [212, 25, 99, 21, 167, 23, 253, 257, 75, 282, 284, 2, 15, 285, 73, 71, 299, 301, 3, 302, 72, 74, 303, 304] (by decide +kernel) (by decide +kernel)
set_option maxRecDepth 100000 in
theorem gs_wsX4_expose_r2 : GoodIn lw_tbl wsX4_expose_r2 := goodIn_r _ [305, 17, 306, 60, 63, 307, 308, 27, 309, 208, 210, 1, 211, 70, 310, 312, 4, 313, 314, 315, 316, 16, 317, 46] (by decide +kernel) (by decide +kernel)
set_option maxRecDepth 100000 in
theorem gs_wsX4_expose_r3 : GoodIn lw_tbl wsX4_expose_r3 := goodIn_r _ [192, 189, 195, 318, 319, 320, 321, 322, 323, 324, 26, 325, 252, 254, 262, 258, 326, 327, 328, 329, 330, 332, 5, 333] (by decide +kernel) (by decide +kernel)
set_option maxRecDepth 100000 in
theorem gs_wsX4_expose_r4 : GoodIn lw_tbl wsX4_expose_r4 := goodIn_r _ [47, 334, 335, 336, 337, 338, 339, 340, 341, 342, 343, 344, 345, 346, 347, 348, 349, 350, 351, 352, 353, 354, 355, 356] (by decide +kernel) (by decide +kernel)
set_option maxRecDepth 100000 in
theorem gs_wsX4_expose_r5 : GoodIn lw_tbl wsX4_expose_r5 := goodIn_r _ [357, 358, 359, 360, 361, 362, 363, 364, 365, 366, 367, 368, 369, 370, 371, 372, 373, 374, 375, 376, 377, 378, 379, 381] (by decide +kernel) (by decide +kernel)
set_option maxRecDepth 100000 in
theorem gs_wsX4_expose_r6 : GoodIn lw_tbl wsX4_expose_r6 := goodIn_r _ [6, 382, 383, 384, 385, 386, 61, 387, 388, 389, 22, 390, 260, 391, 392, 393, 394] (by decide +kernel) (by decide +kernel)
set_option maxRecDepth 100000 in
theorem gs_wsX4_expose : GoodIn lw_tbl wsX4_expose := (ax_gc (goodIn_r _ [296] (by decide +kernel) (by decide +kernel)) (goodIn_app (goodIn_app (goodIn_app (goodIn_app (goodIn_app (goodIn_app (goodIn_app (goodIn_app (goodIn_app gs_wsX4_expose_r1 (goodIn_app gs_wsX4_expose_r2 (goodIn_app gs_wsX4_expose_r3 (goodIn_app gs_wsX4_expose_r4 (goodIn_app gs_wsX4_expose_r5 gs_wsX4_expose_r6))))) gs_X10) gs_X40) gs_X20) gs_X00) gs_X30) gs_at63) gs_at81) gs_at50))
set_option maxRecDepth 100000 in
theorem gl_X4_expose : GoodIn lw_tbl (wsV RL 60 RX4 yX4_expose wsX4_expose) := goodIn_app (goodIn_r _ [293, 294, 295, 15] (by decide +kernel) (by decide +kernel)) gs_wsX4_expose
set_option maxRecDepth 100000 in
theorem gs_wsL_isTold_r1 : GoodIn lw_tbl wsL_isTold_r1 := goodIn_r _ [565, 450, 451, 452, 15, 453, 212, 25, 99, 21, 253, 255, 257, 259, 261, 282, 284, 2, 285, 73, 71, 391, 392, 393] (by decide +kernel) (by decide +kernel)
set_option maxRecDepth 100000 in
theorem gs_wsL_isTold_r2 : GoodIn lw_tbl wsL_isTold_r2 := goodIn_r _ [26, 394, 262, 564, 531, 532, 533, 75, 403, 404, 405, 96, 97, 98, 534, 535, 536, 537, 252, 240, 241, 242, 243, 235] (by decide +kernel) (by decide +kernel)
set_option maxRecDepth 100000 in
theorem gs_wsL_isTold_r3 : GoodIn lw_tbl wsL_isTold_r3 := goodIn_r _ [236, 237, 238, 299, 301, 3, 302, 72, 74, 303, 304, 305, 17, 306, 60, 63, 307, 308, 27, 309, 208, 210, 1, 211] (by decide +kernel) (by decide +kernel)
set_option maxRecDepth 100000 in
theorem gs_wsL_isTold_r4 : GoodIn lw_tbl wsL_isTold_r4 := goodIn_r _ [70, 310, 312, 4, 313, 314, 315, 316, 16, 317, 46, 192, 189, 195, 318, 319, 320, 321, 322, 323, 324, 325, 254, 258] (by decide +kernel) (by decide +kernel)
set_option maxRecDepth 100000 in
theorem gs_wsL_isTold_r5 : GoodIn lw_tbl wsL_isTold_r5 := goodIn_r _ [326, 327, 328, 329, 330, 332, 5, 333, 47, 334, 335, 336, 337, 338, 339, 340, 341, 342, 343, 344, 345, 346, 347, 348] (by decide +kernel) (by decide +kernel)
set_option maxRecDepth 100000 in
theorem gs_wsL_isTold_r6 : GoodIn lw_tbl wsL_isTold_r6 := goodIn_r _ [349, 350, 351, 352, 353, 354, 355, 356, 357, 358, 359, 360, 361, 362, 363, 364, 365, 366, 367, 368, 369, 370, 371, 372] (by decide +kernel) (by decide +kernel)
set_option maxRecDepth 100000 in
theorem gs_wsL_isTold_r7 : GoodIn lw_tbl wsL_isTold_r7 := goodIn_r _ [373, 374, 375, 376, 377, 378, 379, 381, 6, 382, 538, 439, 440, 441, 442, 278, 279, 280, 281, 232, 233, 234, 395, 396] (by decide +kernel) (by decide +kernel)
set_option maxRecDepth 100000 in
theorem gs_wsL_isTold_r8 : GoodIn lw_tbl wsL_isTold_r8 := goodIn_r _ [397, 398, 62, 399, 401, 7, 402, 566, 567, 568, 569, 64, 570, 571, 22, 572, 573, 574, 575, 576, 577, 507, 508, 509] (by decide +kernel) (by decide +kernel)
set_option maxRecDepth 100000 in
theorem gs_wsL_isTold_r9 : GoodIn lw_tbl wsL_isTold_r9 := goodIn_r _ [510, 512, 13, 513] (by decide +kernel) (by decide +kernel)
set_option maxRecDepth 100000 in
theorem gs_wsL_isTold : GoodIn lw_tbl wsL_isTold := (ax_gc (goodIn_r _ [563] (by decide +kernel) (by decide +kernel)) (goodIn_app (goodIn_app (goodIn_app (goodIn_app (goodIn_app (goodIn_app (goodIn_app (goodIn_app gs_wsL_isTold_r1 (goodIn_app gs_wsL_isTold_r2 (goodIn_app gs_wsL_isTold_r3 (goodIn_app gs_wsL_isTold_r4 (goodIn_app gs_wsL_isTold_r5 (goodIn_app gs_wsL_isTold_r6 (goodIn_app gs_wsL_isTold_r7 (goodIn_app gs_wsL_isTold_r8 gs_wsL_isTold_r9)))))))) gs_X10) gs_X40) gs_X20) gs_X00) gs_X30) gs_at63) gs_at81))
set_option maxRecDepth 100000 in
theorem gl_L_isTold : GoodIn lw_tbl (va_wsS RL 63 yL_isTold wsL_isTold) := goodIn_app (goodIn_r _ [561, 562, 14] (by decide +kernel) (by decide +kernel)) gs_wsL_isTold
set_option maxRecDepth 100000 in
theorem gs_wsX4_exposure : GoodIn lw_tbl wsX4_exposure := (ax_gc (goodIn_r _ [458] (by decide +kernel) (by decide +kernel)) (goodIn_app (goodIn_app (goodIn_app (goodIn_r _ [212, 25, 263, 282, 284, 2, 15, 285, 73, 71, 403, 404, 405, 96, 97, 98] (by decide +kernel) (by decide +kernel)) gs_X10) gs_X40) gs_at63))
set_option maxRecDepth 100000 in
theorem gl_X4_exposure : GoodIn lw_tbl (wsV RL 66 RX4 yX4_exposure wsX4_exposure) := goodIn_app (goodIn_r _ [455, 456, 457, 15] (by decide +kernel) (by decide +kernel)) gs_wsX4_exposure
set_option maxRecDepth 100000 in
theorem gs_wsL_isLight_r1 : GoodIn lw_tbl wsL_isLight_r1 := goodIn_r _ [606, 607, 22, 608, 609, 565, 581, 582, 583, 15, 584, 75, 399, 401, 7, 402, 212, 25, 73, 299, 301, 3, 302, 72] (by decide +kernel) (by decide +kernel)
set_option maxRecDepth 100000 in
theorem gs_wsL_isLight_r2 : GoodIn lw_tbl wsL_isLight_r2 := goodIn_r _ [74, 303, 304, 305, 17, 306, 60, 63, 307, 308, 27, 309, 208, 210, 1, 211, 70, 310, 312, 4, 313, 257, 314, 315] (by decide +kernel) (by decide +kernel)
set_option maxRecDepth 100000 in
theorem gs_wsL_isLight_r3 : GoodIn lw_tbl wsL_isLight_r3 := goodIn_r _ [316, 16, 317, 46, 192, 189, 195, 318, 319, 320, 321, 282, 284, 2, 285, 71, 322, 323, 324, 26, 325, 252, 254, 262] (by decide +kernel) (by decide +kernel)
set_option maxRecDepth 100000 in
theorem gs_wsL_isLight_r4 : GoodIn lw_tbl wsL_isLight_r4 := goodIn_r _ [258, 326, 327, 328, 329, 330, 332, 5, 333, 47, 334, 335, 336, 337, 338, 339, 340, 341, 342, 343, 344, 345, 346, 347] (by decide +kernel) (by decide +kernel)
set_option maxRecDepth 100000 in
theorem gs_wsL_isLight_r5 : GoodIn lw_tbl wsL_isLight_r5 := goodIn_r _ [348, 349, 350, 351, 352, 353, 354, 355, 356, 357, 358, 359, 360, 361, 362, 363, 364, 365, 366, 367, 368, 369, 370, 371] (by decide +kernel) (by decide +kernel)
set_option maxRecDepth 100000 in
theorem gs_wsL_isLight_r6 : GoodIn lw_tbl wsL_isLight_r6 := goodIn_r _ [372, 373, 374, 375, 376, 377, 378, 379, 381, 6, 382, 585, 503, 504, 505, 586, 587, 588, 589, 496, 435, 436, 437, 438] (by decide +kernel) (by decide +kernel)
set_option maxRecDepth 100000 in
theorem gs_wsL_isLight_r7 : GoodIn lw_tbl wsL_isLight_r7 := goodIn_r _ [439, 440, 441, 442, 395, 396, 397, 398, 62, 403, 404, 405, 96, 97, 98, 566, 567, 568, 569, 64, 590, 591, 592, 593] (by decide +kernel) (by decide +kernel)
set_option maxRecDepth 100000 in
theorem gs_wsL_isLight_r8 : GoodIn lw_tbl wsL_isLight_r8 := goodIn_r _ [594, 595, 596, 597, 598, 430, 432, 8, 433, 434, 599, 600, 601, 602, 603, 604, 605, 459, 460, 461, 462, 99, 21, 463] (by decide +kernel) (by decide +kernel)
set_option maxRecDepth 100000 in
theorem gs_wsL_isLight_r9 : GoodIn lw_tbl wsL_isLight_r9 := goodIn_r _ [465, 10, 466, 467, 469, 11, 470, 471, 472, 473, 474, 475, 477, 12, 478, 261, 610, 493, 494, 495, 407, 408, 409, 410] (by decide +kernel) (by decide +kernel)
set_option maxRecDepth 100000 in
theorem gs_wsL_isLight_r10 : GoodIn lw_tbl wsL_isLight_r10 := goodIn_r _ [411, 412, 413, 414, 415, 416, 417, 418, 419, 420, 421, 560, 516, 517, 518, 519, 520, 521, 522, 523, 524, 525] (by decide +kernel) (by decide +kernel)
set_option maxRecDepth 100000 in
theorem gs_wsL_isLight : GoodIn lw_tbl wsL_isLight := (ax_gc (goodIn_r _ [580] (by decide +kernel) (by decide +kernel)) (goodIn_app (goodIn_app (goodIn_app (goodIn_app (goodIn_app (goodIn_app (goodIn_app (goodIn_app gs_wsL_isLight_r1 (goodIn_app gs_wsL_isLight_r2 (goodIn_app gs_wsL_isLight_r3 (goodIn_app gs_wsL_isLight_r4 (goodIn_app gs_wsL_isLight_r5 (goodIn_app gs_wsL_isLight_r6 (goodIn_app gs_wsL_isLight_r7 (goodIn_app gs_wsL_isLight_r8 (goodIn_app gs_wsL_isLight_r9 gs_wsL_isLight_r10))))))))) gs_X40) gs_X20) gs_X10) gs_X00) gs_X30) gs_at63) gs_at81))
set_option maxRecDepth 100000 in
theorem gl_L_isLight : GoodIn lw_tbl (va_wsS RL 69 yL_isLight wsL_isLight) := goodIn_app (goodIn_r _ [578, 579, 14] (by decide +kernel) (by decide +kernel)) gs_wsL_isLight
set_option maxRecDepth 100000 in
theorem gs_wsX4_digest_r1 : GoodIn lw_tbl wsX4_digest_r1 := goodIn_r _ [484, 485, 72, 73, 75, 486, 460, 461, 15, 462, 99, 21, 463, 465, 10, 466, 257, 282, 284, 2, 285, 71, 467, 469] (by decide +kernel) (by decide +kernel)
set_option maxRecDepth 100000 in
theorem gs_wsX4_digest_r2 : GoodIn lw_tbl wsX4_digest_r2 := goodIn_r _ [11, 470, 471, 472, 473, 26, 474, 258, 252, 254, 262, 475, 477, 12, 478, 261, 487, 488, 489, 490, 212, 25, 190, 193] (by decide +kernel) (by decide +kernel)
set_option maxRecDepth 100000 in
theorem gs_wsX4_digest_r3 : GoodIn lw_tbl wsX4_digest_r3 := goodIn_r _ [196, 208, 210, 1, 211, 70, 492, 493, 494, 495, 74, 310, 312, 4, 313, 314, 315, 316, 16, 317, 46, 192, 189, 195] (by decide +kernel) (by decide +kernel)
set_option maxRecDepth 100000 in
theorem gs_wsX4_digest_r4 : GoodIn lw_tbl wsX4_digest_r4 := goodIn_r _ [318, 308, 27, 309, 319, 320, 321, 322, 323, 324, 325, 326, 327, 328, 329, 330, 332, 5, 333, 47, 334, 335, 336, 337] (by decide +kernel) (by decide +kernel)
set_option maxRecDepth 100000 in
theorem gs_wsX4_digest_r5 : GoodIn lw_tbl wsX4_digest_r5 := goodIn_r _ [338, 339, 340, 341, 342, 343, 344, 345, 346, 347, 348, 349, 350, 351, 352, 353, 354, 355, 356, 357, 358, 359, 360, 361] (by decide +kernel) (by decide +kernel)
set_option maxRecDepth 100000 in
theorem gs_wsX4_digest_r6 : GoodIn lw_tbl wsX4_digest_r6 := goodIn_r _ [362, 303, 304, 305, 17, 306, 60, 63, 307, 363, 364, 365, 366, 367, 368, 369, 370, 371, 372, 373, 374, 375, 376, 377] (by decide +kernel) (by decide +kernel)
set_option maxRecDepth 100000 in
theorem gs_wsX4_digest_r7 : GoodIn lw_tbl wsX4_digest_r7 := goodIn_r _ [378, 379, 381, 6, 382, 496, 435, 436, 437, 438, 439, 440, 441, 442, 299, 301, 3, 302, 497, 498, 499, 500, 501, 434] (by decide +kernel) (by decide +kernel)
set_option maxRecDepth 100000 in
theorem gs_wsX4_digest_r8 : GoodIn lw_tbl wsX4_digest_r8 := goodIn_r _ [502, 503, 504, 505, 506, 507, 508, 509, 510, 512, 13, 513, 514, 451, 452, 453, 253, 255, 259, 391, 392, 393, 394, 515] (by decide +kernel) (by decide +kernel)
set_option maxRecDepth 100000 in
theorem gs_wsX4_digest_r9 : GoodIn lw_tbl wsX4_digest_r9 := goodIn_r _ [516, 517, 518, 418, 419, 420, 421, 415, 416, 417, 519, 520, 521, 522, 523, 524, 525, 526, 527, 528, 529, 62, 403, 404] (by decide +kernel) (by decide +kernel)
set_option maxRecDepth 100000 in
theorem gs_wsX4_digest_r10 : GoodIn lw_tbl wsX4_digest_r10 := goodIn_r _ [405, 96, 97, 98, 530, 531, 532, 533, 534, 535, 536, 537, 240, 241, 242, 243, 235, 236, 237, 238, 538] (by decide +kernel) (by decide +kernel)
set_option maxRecDepth 100000 in
theorem gs_wsX4_digest : GoodIn lw_tbl wsX4_digest := (ax_gc (goodIn_r _ [483] (by decide +kernel) (by decide +kernel)) (goodIn_app (goodIn_app (goodIn_app (goodIn_app (goodIn_app (goodIn_app (goodIn_app (goodIn_app gs_wsX4_digest_r1 (goodIn_app gs_wsX4_digest_r2 (goodIn_app gs_wsX4_digest_r3 (goodIn_app gs_wsX4_digest_r4 (goodIn_app gs_wsX4_digest_r5 (goodIn_app gs_wsX4_digest_r6 (goodIn_app gs_wsX4_digest_r7 (goodIn_app gs_wsX4_digest_r8 (goodIn_app gs_wsX4_digest_r9 gs_wsX4_digest_r10))))))))) gs_X40) gs_X10) gs_X30) gs_X00) gs_X20) gs_at81) gs_at63))
set_option maxRecDepth 100000 in
theorem gl_X4_digest : GoodIn lw_tbl (wsV RL 73 RX4 yX4_digest wsX4_digest) := goodIn_app (goodIn_r _ [480, 481, 482, 15] (by decide +kernel) (by decide +kernel)) gs_wsX4_digest
set_option maxRecDepth 100000 in
theorem gs_wsX4_whole_r1 : GoodIn lw_tbl wsX4_whole_r1 := goodIn_r _ [75, 62, 399, 401, 7, 15, 402, 212, 25, 73, 403, 404, 405, 96, 97, 98, 299, 301, 3, 302, 72, 74, 303, 304] (by decide +kernel) (by decide +kernel)
set_option maxRecDepth 100000 in
theorem gs_wsX4_whole_r2 : GoodIn lw_tbl wsX4_whole_r2 := goodIn_r _ [305, 17, 306, 60, 63, 307, 308, 27, 309, 208, 210, 1, 211, 70, 310, 312, 4, 313, 257, 314, 315, 316, 16, 317] (by decide +kernel) (by decide +kernel)
set_option maxRecDepth 100000 in
theorem gs_wsX4_whole_r3 : GoodIn lw_tbl wsX4_whole_r3 := goodIn_r _ [46, 192, 189, 195, 318, 319, 320, 321, 282, 284, 2, 285, 71, 322, 323, 324, 26, 325, 252, 254, 262, 258, 326, 327] (by decide +kernel) (by decide +kernel)
set_option maxRecDepth 100000 in
theorem gs_wsX4_whole_r4 : GoodIn lw_tbl wsX4_whole_r4 := goodIn_r _ [328, 329, 330, 332, 5, 333, 47, 334, 335, 336, 337, 338, 339, 340, 341, 342, 343, 344, 345, 346, 347, 348, 349, 350] (by decide +kernel) (by decide +kernel)
set_option maxRecDepth 100000 in
theorem gs_wsX4_whole_r5 : GoodIn lw_tbl wsX4_whole_r5 := goodIn_r _ [351, 352, 353, 354, 355, 356, 357, 358, 359, 360, 361, 362, 363, 364, 365, 366, 367, 368, 369, 370, 371, 372, 373, 374] (by decide +kernel) (by decide +kernel)
set_option maxRecDepth 100000 in
theorem gs_wsX4_whole_r6 : GoodIn lw_tbl wsX4_whole_r6 := goodIn_r _ [375, 376, 377, 378, 379, 381, 6, 382] (by decide +kernel) (by decide +kernel)
set_option maxRecDepth 100000 in
theorem gs_wsX4_whole : GoodIn lw_tbl wsX4_whole := (ax_gc (goodIn_r _ [398] (by decide +kernel) (by decide +kernel)) (goodIn_app (goodIn_app (goodIn_app (goodIn_app (goodIn_app (goodIn_app (goodIn_app gs_wsX4_whole_r1 (goodIn_app gs_wsX4_whole_r2 (goodIn_app gs_wsX4_whole_r3 (goodIn_app gs_wsX4_whole_r4 (goodIn_app gs_wsX4_whole_r5 gs_wsX4_whole_r6))))) gs_X40) gs_X20) gs_X10) gs_X00) gs_X30) gs_at63))
set_option maxRecDepth 100000 in
theorem gl_X4_whole : GoodIn lw_tbl (wsV RL 77 RX4 yX4_whole wsX4_whole) := goodIn_app (goodIn_r _ [395, 396, 397, 15] (by decide +kernel) (by decide +kernel)) gs_wsX4_whole
set_option maxRecDepth 100000 in
theorem gs_wsX4_power_r1 : GoodIn lw_tbl wsX4_power_r1 := goodIn_r _ [75, 399, 401, 7, 15, 402, 212, 25, 73, 299, 301, 3, 302, 72, 74, 303, 304, 305, 17, 306, 60, 63, 307, 308] (by decide +kernel) (by decide +kernel)
set_option maxRecDepth 100000 in
theorem gs_wsX4_power_r2 : GoodIn lw_tbl wsX4_power_r2 := goodIn_r _ [27, 309, 208, 210, 1, 211, 70, 310, 312, 4, 313, 257, 314, 315, 316, 16, 317, 46, 192, 189, 195, 318, 319, 320] (by decide +kernel) (by decide +kernel)
set_option maxRecDepth 100000 in
theorem gs_wsX4_power_r3 : GoodIn lw_tbl wsX4_power_r3 := goodIn_r _ [321, 282, 284, 2, 285, 71, 322, 323, 324, 26, 325, 252, 254, 262, 258, 326, 327, 328, 329, 330, 332, 5, 333, 47] (by decide +kernel) (by decide +kernel)
set_option maxRecDepth 100000 in
theorem gs_wsX4_power_r4 : GoodIn lw_tbl wsX4_power_r4 := goodIn_r _ [334, 335, 336, 337, 338, 339, 340, 341, 342, 343, 344, 345, 346, 347, 348, 349, 350, 351, 352, 353, 354, 355, 356, 357] (by decide +kernel) (by decide +kernel)
set_option maxRecDepth 100000 in
theorem gs_wsX4_power_r5 : GoodIn lw_tbl wsX4_power_r5 := goodIn_r _ [358, 359, 360, 361, 362, 363, 364, 365, 366, 367, 368, 369, 370, 371, 372, 373, 374, 375, 376, 377, 378, 379, 381, 6] (by decide +kernel) (by decide +kernel)
set_option maxRecDepth 100000 in
theorem gs_wsX4_power_r6 : GoodIn lw_tbl wsX4_power_r6 := goodIn_r _ [382, 411, 412, 413, 414, 415, 416, 417, 418, 419, 420, 421] (by decide +kernel) (by decide +kernel)
set_option maxRecDepth 100000 in
theorem gs_wsX4_power : GoodIn lw_tbl wsX4_power := (ax_gc (goodIn_r _ [410] (by decide +kernel) (by decide +kernel)) (goodIn_app (goodIn_app (goodIn_app (goodIn_app (goodIn_app (goodIn_app (goodIn_app gs_wsX4_power_r1 (goodIn_app gs_wsX4_power_r2 (goodIn_app gs_wsX4_power_r3 (goodIn_app gs_wsX4_power_r4 (goodIn_app gs_wsX4_power_r5 gs_wsX4_power_r6))))) gs_X40) gs_X20) gs_X10) gs_X00) gs_X30) gs_at63))
set_option maxRecDepth 100000 in
theorem gl_X4_power : GoodIn lw_tbl (wsV RL 81 RX4 yX4_power wsX4_power) := goodIn_app (goodIn_r _ [407, 408, 409, 15] (by decide +kernel) (by decide +kernel)) gs_wsX4_power
set_option maxRecDepth 100000 in
theorem gs_wsX4_clear_r1 : GoodIn lw_tbl wsX4_clear_r1 := goodIn_r _ [75, 399, 401, 7, 15, 402, 212, 25, 73, 299, 301, 3, 302, 72, 74, 303, 304, 305, 17, 306, 60, 63, 307, 308] (by decide +kernel) (by decide +kernel)
set_option maxRecDepth 100000 in
theorem gs_wsX4_clear_r2 : GoodIn lw_tbl wsX4_clear_r2 := goodIn_r _ [27, 309, 208, 210, 1, 211, 70, 310, 312, 4, 313, 257, 314, 315, 316, 16, 317, 46, 192, 189, 195, 318, 319, 320] (by decide +kernel) (by decide +kernel)
set_option maxRecDepth 100000 in
theorem gs_wsX4_clear_r3 : GoodIn lw_tbl wsX4_clear_r3 := goodIn_r _ [321, 282, 284, 2, 285, 71, 322, 323, 324, 26, 325, 252, 254, 262, 258, 326, 327, 328, 329, 330, 332, 5, 333, 47] (by decide +kernel) (by decide +kernel)
set_option maxRecDepth 100000 in
theorem gs_wsX4_clear_r4 : GoodIn lw_tbl wsX4_clear_r4 := goodIn_r _ [334, 335, 336, 337, 338, 339, 340, 341, 342, 343, 344, 345, 346, 347, 348, 349, 350, 351, 352, 353, 354, 355, 356, 357] (by decide +kernel) (by decide +kernel)
set_option maxRecDepth 100000 in
theorem gs_wsX4_clear_r5 : GoodIn lw_tbl wsX4_clear_r5 := goodIn_r _ [358, 359, 360, 361, 362, 363, 364, 365, 366, 367, 368, 369, 370, 371, 372, 373, 374, 375, 376, 377, 378, 379, 381, 6] (by decide +kernel) (by decide +kernel)
set_option maxRecDepth 100000 in
theorem gs_wsX4_clear_r6 : GoodIn lw_tbl wsX4_clear_r6 := goodIn_r _ [382, 426, 427, 428, 429, 430, 432, 8, 433, 434, 435, 436, 437, 438, 439, 440, 441, 442, 443, 444, 445, 446, 448, 9] (by decide +kernel) (by decide +kernel)
set_option maxRecDepth 100000 in
theorem gs_wsX4_clear_r7 : GoodIn lw_tbl wsX4_clear_r7 := goodIn_r _ [449] (by decide +kernel) (by decide +kernel)
set_option maxRecDepth 100000 in
theorem gs_wsX4_clear : GoodIn lw_tbl wsX4_clear := (ax_gc (goodIn_r _ [425] (by decide +kernel) (by decide +kernel)) (goodIn_app (goodIn_app (goodIn_app (goodIn_app (goodIn_app (goodIn_app (goodIn_app gs_wsX4_clear_r1 (goodIn_app gs_wsX4_clear_r2 (goodIn_app gs_wsX4_clear_r3 (goodIn_app gs_wsX4_clear_r4 (goodIn_app gs_wsX4_clear_r5 (goodIn_app gs_wsX4_clear_r6 gs_wsX4_clear_r7)))))) gs_X40) gs_X20) gs_X10) gs_X00) gs_X30) gs_at63))
set_option maxRecDepth 100000 in
theorem gl_X4_clear : GoodIn lw_tbl (wsV RL 85 RX4 yX4_clear wsX4_clear) := goodIn_app (goodIn_r _ [422, 423, 424, 15] (by decide +kernel) (by decide +kernel)) gs_wsX4_clear