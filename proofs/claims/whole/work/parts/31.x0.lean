section GIN0
theorem gin_x0 : GoodIn lw_tbl ((vx_atS RX4 41 "java/lang/IllegalStateException" ["java/lang/RuntimeException", "java/lang/Exception"]).filter goodWord) := fun w h => ⟨lin_x0 w h, good_of_word (List.mem_filter.mp h).2⟩
theorem gin_x1 : GoodIn lw_tbl ((vx_atS RX4 277 "java/lang/IndexOutOfBoundsException" ["java/lang/RuntimeException", "java/lang/Exception"]).filter goodWord) := fun w h => ⟨lin_x1 w h, good_of_word (List.mem_filter.mp h).2⟩
theorem gin_x2 : GoodIn lw_tbl ((vx_atS RX4 70 "java/lang/IllegalArgumentException" ["java/lang/RuntimeException", "java/lang/Exception"]).filter goodWord) := fun w h => ⟨lin_x2 w h, good_of_word (List.mem_filter.mp h).2⟩
theorem gin_cons {big B : List Cond} {w : Cond} (h : GoodIn big [w]) (t : GoodIn big B) : GoodIn big (w :: B) := goodIn_app h t
set_option maxRecDepth 100000 in
theorem gin_X4_init_r1 : GoodIn lw_tbl wsX4_init_r1 := goodIn_p wsX4_init_r1 [139, 144] (by decide +kernel) (by decide +kernel)
set_option maxRecDepth 100000 in
theorem gin_X4_init_r2 : GoodIn lw_tbl wsX4_init_r2 := goodIn_p wsX4_init_r2 [151, 266, 286] (by decide +kernel) (by decide +kernel)
set_option maxRecDepth 100000 in
theorem gin_X00 : GoodIn lw_tbl wsX00 := goodIn_of wsX00 (by decide +kernel)
set_option maxRecDepth 100000 in
theorem gin_X40 : GoodIn lw_tbl wsX40 := goodIn_of wsX40 (by decide +kernel)
set_option maxRecDepth 100000 in
theorem gin_X10 : GoodIn lw_tbl wsX10 := goodIn_of wsX10 (by decide +kernel)
set_option maxRecDepth 100000 in
theorem gin_X30 : GoodIn lw_tbl wsX30 := goodIn_of wsX30 (by decide +kernel)
set_option maxRecDepth 100000 in
theorem gin_X20 : GoodIn lw_tbl wsX20 := goodIn_of wsX20 (by decide +kernel)
set_option maxRecDepth 100000 in
theorem gin_X4_init : GoodIn lw_tbl wsX4_init := gin_cons (goodIn_p _ [136] (by decide +kernel) (by decide +kernel)) (goodIn_app (goodIn_app (goodIn_app (goodIn_app (goodIn_app (goodIn_app gin_X4_init_r1 gin_X4_init_r2) gin_X00) gin_X40) gin_X10) gin_X30) gin_X20)
set_option maxRecDepth 100000 in
theorem gin_X50 : GoodIn lw_tbl wsX50 := goodIn_of wsX50 (by decide +kernel)
set_option maxRecDepth 100000 in
theorem gin_X5_init : GoodIn lw_tbl wsX5_init := gin_cons (goodIn_p _ [1008] (by decide +kernel) (by decide +kernel)) (goodIn_app (goodIn_p _ [139] (by decide +kernel) (by decide +kernel)) gin_X50)
set_option maxRecDepth 100000 in
theorem gin_L_join_r1 : GoodIn lw_tbl wsL_join_r1 := goodIn_p wsL_join_r1 [645, 716, 608] (by decide +kernel) (by decide +kernel)
set_option maxRecDepth 100000 in
theorem gin_L_join_r2 : GoodIn lw_tbl wsL_join_r2 := goodIn_p wsL_join_r2 [563, 567] (by decide +kernel) (by decide +kernel)
set_option maxRecDepth 100000 in
theorem gin_L_join_r3 : GoodIn lw_tbl wsL_join_r3 := goodIn_p wsL_join_r3 [722, 449] (by decide +kernel) (by decide +kernel)
set_option maxRecDepth 100000 in
theorem gin_L_join : GoodIn lw_tbl wsL_join := gin_cons (goodIn_p _ [] (by decide +kernel) (by decide +kernel)) (goodIn_app (goodIn_app (goodIn_app (goodIn_app (goodIn_app (goodIn_app gin_L_join_r1 (goodIn_app gin_L_join_r2 gin_L_join_r3)) gin_X40) gin_X00) gin_X10) gin_X20) gin_x0)
set_option maxRecDepth 100000 in
theorem gin_X5_join : GoodIn lw_tbl wsX5_join := gin_cons (goodIn_p _ [1068] (by decide +kernel) (by decide +kernel)) (goodIn_app (goodIn_p _ [1064, 1072, 1076, 1079, 1082] (by decide +kernel) (by decide +kernel)) gin_X50)
set_option maxRecDepth 100000 in
theorem gin_X5_thrown : GoodIn lw_tbl wsX5_thrown := gin_cons (goodIn_p _ [1056] (by decide +kernel) (by decide +kernel)) (goodIn_app (goodIn_p _ [] (by decide +kernel) (by decide +kernel)) gin_X50)
set_option maxRecDepth 100000 in
theorem gin_L_leave_r1 : GoodIn lw_tbl wsL_leave_r1 := goodIn_p wsL_leave_r1 [730, 734, 612] (by decide +kernel) (by decide +kernel)
set_option maxRecDepth 100000 in
theorem gin_L_leave_r2 : GoodIn lw_tbl wsL_leave_r2 := goodIn_p wsL_leave_r2 [755, 457, 616, 513, 533] (by decide +kernel) (by decide +kernel)
set_option maxRecDepth 100000 in
theorem gin_L_leave_r3 : GoodIn lw_tbl wsL_leave_r3 := goodIn_p wsL_leave_r3 [716, 608, 563] (by decide +kernel) (by decide +kernel)
set_option maxRecDepth 100000 in
theorem gin_L_leave_r4 : GoodIn lw_tbl wsL_leave_r4 := goodIn_p wsL_leave_r4 [567, 761, 605] (by decide +kernel) (by decide +kernel)
set_option maxRecDepth 100000 in
theorem gin_L_leave : GoodIn lw_tbl wsL_leave := gin_cons (goodIn_p _ [] (by decide +kernel) (by decide +kernel)) (goodIn_app (goodIn_app (goodIn_app (goodIn_app (goodIn_app (goodIn_app (goodIn_app gin_L_leave_r1 (goodIn_app gin_L_leave_r2 (goodIn_app gin_L_leave_r3 gin_L_leave_r4))) gin_X40) gin_X00) gin_X20) gin_X10) gin_x0) gin_x1)
set_option maxRecDepth 100000 in
theorem gin_X5_leave_r1 : GoodIn lw_tbl wsX5_leave_r1 := goodIn_p wsX5_leave_r1 [1090, 1093, 1079, 1064, 1096, 1099] (by decide +kernel) (by decide +kernel)
set_option maxRecDepth 100000 in
theorem gin_X5_leave_r2 : GoodIn lw_tbl wsX5_leave_r2 := goodIn_p wsX5_leave_r2 [1102, 1105, 1072, 1108] (by decide +kernel) (by decide +kernel)
set_option maxRecDepth 100000 in
theorem gin_X5_leave : GoodIn lw_tbl wsX5_leave := gin_cons (goodIn_p _ [1086] (by decide +kernel) (by decide +kernel)) (goodIn_app (goodIn_app gin_X5_leave_r1 gin_X5_leave_r2) gin_X50)
set_option maxRecDepth 100000 in
theorem gin_L_lend_r1 : GoodIn lw_tbl wsL_lend_r1 := goodIn_p wsL_lend_r1 [769, 734, 612] (by decide +kernel) (by decide +kernel)
set_option maxRecDepth 100000 in
theorem gin_L_lend_r2 : GoodIn lw_tbl wsL_lend_r2 := goodIn_p wsL_lend_r2 [789, 457, 616, 513] (by decide +kernel) (by decide +kernel)
set_option maxRecDepth 100000 in
theorem gin_L_lend_r3 : GoodIn lw_tbl wsL_lend_r3 := goodIn_p wsL_lend_r3 [716, 608, 563] (by decide +kernel) (by decide +kernel)
set_option maxRecDepth 100000 in
theorem gin_L_lend_r4 : GoodIn lw_tbl wsL_lend_r4 := goodIn_p wsL_lend_r4 [567, 795, 799] (by decide +kernel) (by decide +kernel)
set_option maxRecDepth 100000 in
theorem gin_L_lend_r5 : GoodIn lw_tbl wsL_lend_r5 := goodIn_p wsL_lend_r5 [453, 461] (by decide +kernel) (by decide +kernel)
set_option maxRecDepth 100000 in
theorem gin_L_lend : GoodIn lw_tbl wsL_lend := gin_cons (goodIn_p _ [] (by decide +kernel) (by decide +kernel)) (goodIn_app (goodIn_app (goodIn_app (goodIn_app (goodIn_app (goodIn_app (goodIn_app (goodIn_app gin_L_lend_r1 (goodIn_app gin_L_lend_r2 (goodIn_app gin_L_lend_r3 (goodIn_app gin_L_lend_r4 gin_L_lend_r5)))) gin_X40) gin_X00) gin_X20) gin_X10) gin_x2) gin_x0) gin_x1)
set_option maxRecDepth 100000 in
theorem gin_X5_lend_r1 : GoodIn lw_tbl wsX5_lend_r1 := goodIn_p wsX5_lend_r1 [1116, 1090, 1093, 1079, 1096, 1099] (by decide +kernel) (by decide +kernel)
end GIN0
