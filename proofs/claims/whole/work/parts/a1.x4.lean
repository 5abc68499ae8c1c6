section GIN4
set_option maxRecDepth 100000 in
theorem gin_X5_member_r2 : GoodIn lw_tbl wsX5_member_r2 := goodIn_p wsX5_member_r2 [1126, 1099, 1102, 1105] (by decide +kernel) (by decide +kernel)
set_option maxRecDepth 100000 in
theorem gin_X5_member : GoodIn lw_tbl wsX5_member := gin_cons (goodIn_p _ [1277] (by decide +kernel) (by decide +kernel)) (goodIn_app (goodIn_app gin_X5_member_r1 gin_X5_member_r2) gin_X50)
set_option maxRecDepth 100000 in
theorem gin_L_owes : GoodIn lw_tbl wsL_owes := gin_cons (goodIn_p _ [] (by decide +kernel) (by decide +kernel)) (goodIn_app (goodIn_app (goodIn_app (goodIn_app (goodIn_p _ [966, 734, 612] (by decide +kernel) (by decide +kernel)) gin_X20) gin_X40) gin_X00) gin_x1)
set_option maxRecDepth 100000 in
theorem gin_X5_owes : GoodIn lw_tbl wsX5_owes := gin_cons (goodIn_p _ [1285] (by decide +kernel) (by decide +kernel)) (goodIn_app (goodIn_p _ [1090, 1093, 1079, 1102, 1064] (by decide +kernel) (by decide +kernel)) gin_X50)
set_option maxRecDepth 100000 in
theorem gin_L_count_r1 : GoodIn lw_tbl wsL_count_r1 := goodIn_p wsL_count_r1 [973, 489, 493] (by decide +kernel) (by decide +kernel)
set_option maxRecDepth 100000 in
theorem gin_L_count_r2 : GoodIn lw_tbl wsL_count_r2 := goodIn_p wsL_count_r2 [449, 497, 501, 505, 509] (by decide +kernel) (by decide +kernel)
set_option maxRecDepth 100000 in
theorem gin_L_count_r3 : GoodIn lw_tbl wsL_count_r3 := goodIn_p wsL_count_r3 [513, 517] (by decide +kernel) (by decide +kernel)
set_option maxRecDepth 100000 in
theorem gin_L_count : GoodIn lw_tbl wsL_count := gin_cons (goodIn_p _ [] (by decide +kernel) (by decide +kernel)) (goodIn_app (goodIn_app (goodIn_app (goodIn_app (goodIn_app (goodIn_app gin_L_count_r1 (goodIn_app gin_L_count_r2 gin_L_count_r3)) gin_X40) gin_X10) gin_X00) gin_X20) gin_x2)
set_option maxRecDepth 100000 in
theorem gin_X5_count_r1 : GoodIn lw_tbl wsX5_count_r1 := goodIn_p wsX5_count_r1 [1093, 1293, 1076, 1079, 1191] (by decide +kernel) (by decide +kernel)
set_option maxRecDepth 100000 in
theorem gin_X5_count_r2 : GoodIn lw_tbl wsX5_count_r2 := goodIn_p wsX5_count_r2 [1296, 1099, 1102, 1134, 1064] (by decide +kernel) (by decide +kernel)
set_option maxRecDepth 100000 in
theorem gin_X5_count : GoodIn lw_tbl wsX5_count := gin_cons (goodIn_p _ [1289] (by decide +kernel) (by decide +kernel)) (goodIn_app (goodIn_app gin_X5_count_r1 gin_X5_count_r2) gin_X50)
set_option maxRecDepth 100000 in
theorem gin_L_setting : GoodIn lw_tbl wsL_setting := gin_cons (goodIn_p _ [] (by decide +kernel) (by decide +kernel)) (goodIn_app (goodIn_app (goodIn_app (goodIn_p _ [981, 881] (by decide +kernel) (by decide +kernel)) gin_X40) gin_X00) gin_x1)
set_option maxRecDepth 100000 in
theorem gin_X5_setting : GoodIn lw_tbl wsX5_setting := gin_cons (goodIn_p _ [1300] (by decide +kernel) (by decide +kernel)) (goodIn_app (goodIn_p _ [1093, 1064] (by decide +kernel) (by decide +kernel)) gin_X50)
set_option maxRecDepth 100000 in
theorem gin_L_ifAbsent_r1 : GoodIn lw_tbl wsL_ifAbsent_r1 := goodIn_p wsL_ifAbsent_r1 [988, 559, 563] (by decide +kernel) (by decide +kernel)
set_option maxRecDepth 100000 in
theorem gin_L_ifAbsent_r2 : GoodIn lw_tbl wsL_ifAbsent_r2 := goodIn_p wsL_ifAbsent_r2 [567] (by decide +kernel) (by decide +kernel)
set_option maxRecDepth 100000 in
theorem gin_L_ifAbsent_r3 : GoodIn lw_tbl wsL_ifAbsent_r3 := goodIn_p wsL_ifAbsent_r3 [575, 579, 457, 584, 453] (by decide +kernel) (by decide +kernel)
set_option maxRecDepth 100000 in
theorem gin_L_ifAbsent_r4 : GoodIn lw_tbl wsL_ifAbsent_r4 := goodIn_p wsL_ifAbsent_r4 [461, 588, 550, 449, 517, 593] (by decide +kernel) (by decide +kernel)
set_option maxRecDepth 100000 in
theorem gin_L_ifAbsent_r5 : GoodIn lw_tbl wsL_ifAbsent_r5 := goodIn_p wsL_ifAbsent_r5 [597, 601, 605, 608, 612, 616, 513] (by decide +kernel) (by decide +kernel)
set_option maxRecDepth 100000 in
theorem gin_L_ifAbsent_r6 : GoodIn lw_tbl wsL_ifAbsent_r6 := goodIn_p wsL_ifAbsent_r6 [621, 501, 509, 627, 472] (by decide +kernel) (by decide +kernel)
set_option maxRecDepth 100000 in
theorem gin_L_ifAbsent : GoodIn lw_tbl wsL_ifAbsent := gin_cons (goodIn_p _ [] (by decide +kernel) (by decide +kernel)) (goodIn_app (goodIn_app (goodIn_app (goodIn_app (goodIn_app gin_L_ifAbsent_r1 (goodIn_app gin_L_ifAbsent_r2 (goodIn_app gin_L_ifAbsent_r3 (goodIn_app gin_L_ifAbsent_r4 (goodIn_app gin_L_ifAbsent_r5 gin_L_ifAbsent_r6))))) gin_X40) gin_X00) gin_X20) gin_x2)
set_option maxRecDepth 100000 in
theorem gin_X5_ifAbsent_r1 : GoodIn lw_tbl wsX5_ifAbsent_r1 := goodIn_p wsX5_ifAbsent_r1 [1093, 1308, 1312, 1316, 1142] (by decide +kernel) (by decide +kernel)
set_option maxRecDepth 100000 in
theorem gin_X5_ifAbsent_r2 : GoodIn lw_tbl wsX5_ifAbsent_r2 := goodIn_p wsX5_ifAbsent_r2 [1079, 1123, 1126, 1146, 1082, 1149, 1152] (by decide +kernel) (by decide +kernel)
set_option maxRecDepth 100000 in
theorem gin_X5_ifAbsent_r3 : GoodIn lw_tbl wsX5_ifAbsent_r3 := goodIn_p wsX5_ifAbsent_r3 [1108, 1096, 1099, 1102, 1296, 1320, 1064] (by decide +kernel) (by decide +kernel)
set_option maxRecDepth 100000 in
theorem gin_X5_ifAbsent : GoodIn lw_tbl wsX5_ifAbsent := gin_cons (goodIn_p _ [1304] (by decide +kernel) (by decide +kernel)) (goodIn_app (goodIn_app gin_X5_ifAbsent_r1 (goodIn_app gin_X5_ifAbsent_r2 gin_X5_ifAbsent_r3)) gin_X50)
set_option maxRecDepth 100000 in
theorem gin_L_fundLasts_r1 : GoodIn lw_tbl wsL_fundLasts_r1 := goodIn_p wsL_fundLasts_r1 [996, 734, 612, 543] (by decide +kernel) (by decide +kernel)
set_option maxRecDepth 100000 in
theorem gin_L_fundLasts_r2 : GoodIn lw_tbl wsL_fundLasts_r2 := goodIn_p wsL_fundLasts_r2 [449] (by decide +kernel) (by decide +kernel)
set_option maxRecDepth 100000 in
theorem gin_L_fundLasts : GoodIn lw_tbl wsL_fundLasts := gin_cons (goodIn_p _ [] (by decide +kernel) (by decide +kernel)) (goodIn_app (goodIn_app (goodIn_app (goodIn_app (goodIn_app gin_L_fundLasts_r1 gin_L_fundLasts_r2) gin_X40) gin_X00) gin_X20) gin_x1)
set_option maxRecDepth 100000 in
theorem gin_X5_fundLasts_r1 : GoodIn lw_tbl wsX5_fundLasts_r1 := goodIn_p wsX5_fundLasts_r1 [1090, 1093, 1079, 1328, 1312] (by decide +kernel) (by decide +kernel)
set_option maxRecDepth 100000 in
theorem gin_X5_fundLasts_r2 : GoodIn lw_tbl wsX5_fundLasts_r2 := goodIn_p wsX5_fundLasts_r2 [1316, 1142, 1123, 1126, 1146, 1082, 1149] (by decide +kernel) (by decide +kernel)
set_option maxRecDepth 100000 in
theorem gin_X5_fundLasts_r3 : GoodIn lw_tbl wsX5_fundLasts_r3 := goodIn_p wsX5_fundLasts_r3 [1152, 1108, 1096, 1099, 1102, 1320, 1064] (by decide +kernel) (by decide +kernel)
set_option maxRecDepth 100000 in
theorem gin_X5_fundLasts : GoodIn lw_tbl wsX5_fundLasts := gin_cons (goodIn_p _ [1324] (by decide +kernel) (by decide +kernel)) (goodIn_app (goodIn_app gin_X5_fundLasts_r1 (goodIn_app gin_X5_fundLasts_r2 gin_X5_fundLasts_r3)) gin_X50)
end GIN4
