section GIN1
set_option maxRecDepth 100000 in
theorem gin_X5_lend_r2 : GoodIn lw_tbl wsX5_lend_r2 := goodIn_p wsX5_lend_r2 [1102, 1072, 1120, 1082, 1123, 1126] (by decide +kernel) (by decide +kernel)
set_option maxRecDepth 100000 in
theorem gin_X5_lend : GoodIn lw_tbl wsX5_lend := gin_cons (goodIn_p _ [1112] (by decide +kernel) (by decide +kernel)) (goodIn_app (goodIn_app gin_X5_lend_r1 gin_X5_lend_r2) gin_X50)
set_option maxRecDepth 100000 in
theorem gin_L_absent_r1 : GoodIn lw_tbl wsL_absent_r1 := goodIn_p wsL_absent_r1 [807, 734, 612, 716] (by decide +kernel) (by decide +kernel)
set_option maxRecDepth 100000 in
theorem gin_L_absent_r2 : GoodIn lw_tbl wsL_absent_r2 := goodIn_p wsL_absent_r2 [608, 563] (by decide +kernel) (by decide +kernel)
set_option maxRecDepth 100000 in
theorem gin_L_absent_r3 : GoodIn lw_tbl wsL_absent_r3 := goodIn_p wsL_absent_r3 [567, 517] (by decide +kernel) (by decide +kernel)
set_option maxRecDepth 100000 in
theorem gin_L_absent : GoodIn lw_tbl wsL_absent := gin_cons (goodIn_p _ [] (by decide +kernel) (by decide +kernel)) (goodIn_app (goodIn_app (goodIn_app (goodIn_app (goodIn_app (goodIn_app gin_L_absent_r1 (goodIn_app gin_L_absent_r2 gin_L_absent_r3)) gin_X40) gin_X20) gin_X00) gin_X10) gin_x1)
set_option maxRecDepth 100000 in
theorem gin_X5_absent_r1 : GoodIn lw_tbl wsX5_absent_r1 := goodIn_p wsX5_absent_r1 [1090, 1093, 1079, 1064, 1072] (by decide +kernel) (by decide +kernel)
set_option maxRecDepth 100000 in
theorem gin_X5_absent_r2 : GoodIn lw_tbl wsX5_absent_r2 := goodIn_p wsX5_absent_r2 [1082, 1134] (by decide +kernel) (by decide +kernel)
set_option maxRecDepth 100000 in
theorem gin_X5_absent : GoodIn lw_tbl wsX5_absent := gin_cons (goodIn_p _ [1130] (by decide +kernel) (by decide +kernel)) (goodIn_app (goodIn_app gin_X5_absent_r1 gin_X5_absent_r2) gin_X50)
set_option maxRecDepth 100000 in
theorem gin_L_week_r1 : GoodIn lw_tbl wsL_week_r1 := goodIn_p wsL_week_r1 [815, 819, 716] (by decide +kernel) (by decide +kernel)
set_option maxRecDepth 100000 in
theorem gin_L_week_r2 : GoodIn lw_tbl wsL_week_r2 := goodIn_p wsL_week_r2 [608, 563, 567] (by decide +kernel) (by decide +kernel)
set_option maxRecDepth 100000 in
theorem gin_L_week_r3 : GoodIn lw_tbl wsL_week_r3 := goodIn_p wsL_week_r3 [579, 457] (by decide +kernel) (by decide +kernel)
set_option maxRecDepth 100000 in
theorem gin_L_week_r4 : GoodIn lw_tbl wsL_week_r4 := goodIn_p wsL_week_r4 [584, 453, 461, 588, 550, 449] (by decide +kernel) (by decide +kernel)
set_option maxRecDepth 100000 in
theorem gin_L_week_r5 : GoodIn lw_tbl wsL_week_r5 := goodIn_p wsL_week_r5 [517, 593, 597, 601, 605, 612, 616] (by decide +kernel) (by decide +kernel)
set_option maxRecDepth 100000 in
theorem gin_L_week_r6 : GoodIn lw_tbl wsL_week_r6 := goodIn_p wsL_week_r6 [513, 575] (by decide +kernel) (by decide +kernel)
set_option maxRecDepth 100000 in
theorem gin_L_week : GoodIn lw_tbl wsL_week := gin_cons (goodIn_p _ [] (by decide +kernel) (by decide +kernel)) (goodIn_app (goodIn_app (goodIn_app (goodIn_app (goodIn_app (goodIn_app gin_L_week_r1 (goodIn_app gin_L_week_r2 (goodIn_app gin_L_week_r3 (goodIn_app gin_L_week_r4 (goodIn_app gin_L_week_r5 gin_L_week_r6))))) gin_X40) gin_X00) gin_X10) gin_X20) gin_x0)
set_option maxRecDepth 100000 in
theorem gin_X5_week_r1 : GoodIn lw_tbl wsX5_week_r1 := goodIn_p wsX5_week_r1 [1064, 1072, 1142, 1079] (by decide +kernel) (by decide +kernel)
set_option maxRecDepth 100000 in
theorem gin_X5_week_r2 : GoodIn lw_tbl wsX5_week_r2 := goodIn_p wsX5_week_r2 [1123, 1126, 1146, 1082, 1149, 1152, 1108, 1096] (by decide +kernel) (by decide +kernel)
set_option maxRecDepth 100000 in
theorem gin_X5_week_r3 : GoodIn lw_tbl wsX5_week_r3 := goodIn_p wsX5_week_r3 [1099, 1102] (by decide +kernel) (by decide +kernel)
set_option maxRecDepth 100000 in
theorem gin_X5_week : GoodIn lw_tbl wsX5_week := gin_cons (goodIn_p _ [1138] (by decide +kernel) (by decide +kernel)) (goodIn_app (goodIn_app gin_X5_week_r1 (goodIn_app gin_X5_week_r2 gin_X5_week_r3)) gin_X50)
set_option maxRecDepth 100000 in
theorem gin_L_payBack_r1 : GoodIn lw_tbl wsL_payBack_r1 := goodIn_p wsL_payBack_r1 [827, 734, 612] (by decide +kernel) (by decide +kernel)
set_option maxRecDepth 100000 in
theorem gin_L_payBack_r2 : GoodIn lw_tbl wsL_payBack_r2 := goodIn_p wsL_payBack_r2 [830, 616, 513, 716] (by decide +kernel) (by decide +kernel)
set_option maxRecDepth 100000 in
theorem gin_L_payBack_r3 : GoodIn lw_tbl wsL_payBack_r3 := goodIn_p wsL_payBack_r3 [608, 563, 567] (by decide +kernel) (by decide +kernel)
set_option maxRecDepth 100000 in
theorem gin_L_payBack_r4 : GoodIn lw_tbl wsL_payBack_r4 := goodIn_p wsL_payBack_r4 [837, 550] (by decide +kernel) (by decide +kernel)
set_option maxRecDepth 100000 in
theorem gin_L_payBack : GoodIn lw_tbl wsL_payBack := gin_cons (goodIn_p _ [] (by decide +kernel) (by decide +kernel)) (goodIn_app (goodIn_app (goodIn_app (goodIn_app (goodIn_app (goodIn_app (goodIn_app (goodIn_app gin_L_payBack_r1 (goodIn_app gin_L_payBack_r2 (goodIn_app gin_L_payBack_r3 gin_L_payBack_r4))) gin_X40) gin_X00) gin_X20) gin_X10) gin_x0) gin_x1) gin_x2)
set_option maxRecDepth 100000 in
theorem gin_X5_payBack_r1 : GoodIn lw_tbl wsX5_payBack_r1 := goodIn_p wsX5_payBack_r1 [1160, 1090, 1093, 1079, 1096, 1099] (by decide +kernel) (by decide +kernel)
set_option maxRecDepth 100000 in
theorem gin_X5_payBack_r2 : GoodIn lw_tbl wsX5_payBack_r2 := goodIn_p wsX5_payBack_r2 [1102, 1072, 1164, 1167, 1082] (by decide +kernel) (by decide +kernel)
set_option maxRecDepth 100000 in
theorem gin_X5_payBack : GoodIn lw_tbl wsX5_payBack := gin_cons (goodIn_p _ [1156] (by decide +kernel) (by decide +kernel)) (goodIn_app (goodIn_app gin_X5_payBack_r1 gin_X5_payBack_r2) gin_X50)
set_option maxRecDepth 100000 in
theorem gin_L_help_r1 : GoodIn lw_tbl wsL_help_r1 := goodIn_p wsL_help_r1 [844, 734, 612] (by decide +kernel) (by decide +kernel)
set_option maxRecDepth 100000 in
theorem gin_L_help_r2 : GoodIn lw_tbl wsL_help_r2 := goodIn_p wsL_help_r2 [830, 848, 716, 608, 563] (by decide +kernel) (by decide +kernel)
set_option maxRecDepth 100000 in
theorem gin_L_help_r3 : GoodIn lw_tbl wsL_help_r3 := goodIn_p wsL_help_r3 [567] (by decide +kernel) (by decide +kernel)
set_option maxRecDepth 100000 in
theorem gin_L_help_r4 : GoodIn lw_tbl wsL_help_r4 := goodIn_p wsL_help_r4 [853] (by decide +kernel) (by decide +kernel)
end GIN1
