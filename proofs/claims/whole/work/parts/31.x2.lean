section GIN2
set_option maxRecDepth 100000 in
theorem gin_L_help : GoodIn lw_tbl wsL_help := gin_cons (goodIn_p _ [] (by decide +kernel) (by decide +kernel)) (goodIn_app (goodIn_app (goodIn_app (goodIn_app (goodIn_app (goodIn_app (goodIn_app (goodIn_app gin_L_help_r1 (goodIn_app gin_L_help_r2 (goodIn_app gin_L_help_r3 gin_L_help_r4))) gin_X40) gin_X00) gin_X20) gin_X10) gin_x0) gin_x1) gin_x2)
set_option maxRecDepth 100000 in
theorem gin_X5_help_r1 : GoodIn lw_tbl wsX5_help_r1 := goodIn_p wsX5_help_r1 [1175, 1090, 1093, 1079, 1072] (by decide +kernel) (by decide +kernel)
set_option maxRecDepth 100000 in
theorem gin_X5_help_r2 : GoodIn lw_tbl wsX5_help_r2 := goodIn_p wsX5_help_r2 [1179, 1082] (by decide +kernel) (by decide +kernel)
set_option maxRecDepth 100000 in
theorem gin_X5_help : GoodIn lw_tbl wsX5_help := gin_cons (goodIn_p _ [1171] (by decide +kernel) (by decide +kernel)) (goodIn_app (goodIn_app gin_X5_help_r1 gin_X5_help_r2) gin_X50)
set_option maxRecDepth 100000 in
theorem gin_L_cycle_r1 : GoodIn lw_tbl wsL_cycle_r1 := goodIn_p wsL_cycle_r1 [860, 864, 469, 472] (by decide +kernel) (by decide +kernel)
set_option maxRecDepth 100000 in
theorem gin_L_cycle_r2 : GoodIn lw_tbl wsL_cycle_r2 := goodIn_p wsL_cycle_r2 [501, 716, 608, 563] (by decide +kernel) (by decide +kernel)
set_option maxRecDepth 100000 in
theorem gin_L_cycle_r3 : GoodIn lw_tbl wsL_cycle_r3 := goodIn_p wsL_cycle_r3 [567] (by decide +kernel) (by decide +kernel)
set_option maxRecDepth 100000 in
theorem gin_L_cycle_r4 : GoodIn lw_tbl wsL_cycle_r4 := goodIn_p wsL_cycle_r4 [870, 547, 550] (by decide +kernel) (by decide +kernel)
set_option maxRecDepth 100000 in
theorem gin_L_cycle : GoodIn lw_tbl wsL_cycle := gin_cons (goodIn_p _ [] (by decide +kernel) (by decide +kernel)) (goodIn_app (goodIn_app (goodIn_app (goodIn_app (goodIn_app (goodIn_app gin_L_cycle_r1 (goodIn_app gin_L_cycle_r2 (goodIn_app gin_L_cycle_r3 gin_L_cycle_r4))) gin_X40) gin_X00) gin_X20) gin_X10) gin_x0)
set_option maxRecDepth 100000 in
theorem gin_X5_cycle_r1 : GoodIn lw_tbl wsX5_cycle_r1 := goodIn_p wsX5_cycle_r1 [1187, 1191, 1079, 1064, 1072] (by decide +kernel) (by decide +kernel)
set_option maxRecDepth 100000 in
theorem gin_X5_cycle_r2 : GoodIn lw_tbl wsX5_cycle_r2 := goodIn_p wsX5_cycle_r2 [1195, 1199, 1167] (by decide +kernel) (by decide +kernel)
set_option maxRecDepth 100000 in
theorem gin_X5_cycle : GoodIn lw_tbl wsX5_cycle := gin_cons (goodIn_p _ [1183] (by decide +kernel) (by decide +kernel)) (goodIn_app (goodIn_app gin_X5_cycle_r1 gin_X5_cycle_r2) gin_X50)
set_option maxRecDepth 100000 in
theorem gin_L_set_r1 : GoodIn lw_tbl wsL_set_r1 := goodIn_p wsL_set_r1 [878, 881, 716] (by decide +kernel) (by decide +kernel)
set_option maxRecDepth 100000 in
theorem gin_L_set_r2 : GoodIn lw_tbl wsL_set_r2 := goodIn_p wsL_set_r2 [608, 563] (by decide +kernel) (by decide +kernel)
set_option maxRecDepth 100000 in
theorem gin_L_set_r3 : GoodIn lw_tbl wsL_set_r3 := goodIn_p wsL_set_r3 [567] (by decide +kernel) (by decide +kernel)
set_option maxRecDepth 100000 in
theorem gin_L_set : GoodIn lw_tbl wsL_set := gin_cons (goodIn_p _ [] (by decide +kernel) (by decide +kernel)) (goodIn_app (goodIn_app (goodIn_app (goodIn_app (goodIn_app (goodIn_app (goodIn_app gin_L_set_r1 (goodIn_app gin_L_set_r2 gin_L_set_r3)) gin_X40) gin_X00) gin_X10) gin_X20) gin_x2) gin_x1)
set_option maxRecDepth 100000 in
theorem gin_X5_set : GoodIn lw_tbl wsX5_set := gin_cons (goodIn_p _ [1203] (by decide +kernel) (by decide +kernel)) (goodIn_app (goodIn_p _ [1093, 1064, 1206, 1072] (by decide +kernel) (by decide +kernel)) gin_X50)
set_option maxRecDepth 100000 in
theorem gin_L_append : GoodIn lw_tbl wsL_append := gin_cons (goodIn_p _ [] (by decide +kernel) (by decide +kernel)) (goodIn_app (goodIn_app (goodIn_app (goodIn_app (goodIn_p _ [894, 900] (by decide +kernel) (by decide +kernel)) gin_X40) gin_X30) gin_x2) gin_x0)
set_option maxRecDepth 100000 in
theorem gin_X5_append : GoodIn lw_tbl wsX5_append := gin_cons (goodIn_p _ [1210] (by decide +kernel) (by decide +kernel)) (goodIn_app (goodIn_p _ [1093, 1064] (by decide +kernel) (by decide +kernel)) gin_X50)
set_option maxRecDepth 100000 in
theorem gin_X4_clearBuffer : GoodIn lw_tbl wsX4_clearBuffer := gin_cons (goodIn_p _ [334] (by decide +kernel) (by decide +kernel)) (goodIn_app (goodIn_app (goodIn_p _ [338] (by decide +kernel) (by decide +kernel)) gin_X40) gin_X30)
set_option maxRecDepth 100000 in
theorem gin_X5_clearBuffer : GoodIn lw_tbl wsX5_clearBuffer := gin_cons (goodIn_p _ [1214] (by decide +kernel) (by decide +kernel)) (goodIn_app (goodIn_p _ [] (by decide +kernel) (by decide +kernel)) gin_X50)
set_option maxRecDepth 100000 in
theorem gin_X4_firstError_r1 : GoodIn lw_tbl wsX4_firstError_r1 := goodIn_p wsX4_firstError_r1 [346, 350, 354, 358] (by decide +kernel) (by decide +kernel)
set_option maxRecDepth 100000 in
theorem gin_X4_firstError_r2 : GoodIn lw_tbl wsX4_firstError_r2 := goodIn_p wsX4_firstError_r2 [363, 367, 371, 377, 381] (by decide +kernel) (by decide +kernel)
set_option maxRecDepth 100000 in
theorem gin_X4_firstError_r3 : GoodIn lw_tbl wsX4_firstError_r3 := goodIn_p wsX4_firstError_r3 [384, 387, 392, 395, 398, 401, 405] (by decide +kernel) (by decide +kernel)
set_option maxRecDepth 100000 in
theorem gin_X4_firstError_r4 : GoodIn lw_tbl wsX4_firstError_r4 := goodIn_p wsX4_firstError_r4 [415, 419, 423, 427, 431] (by decide +kernel) (by decide +kernel)
set_option maxRecDepth 100000 in
theorem gin_X4_firstError_r5 : GoodIn lw_tbl wsX4_firstError_r5 := goodIn_p wsX4_firstError_r5 [] (by decide +kernel) (by decide +kernel)
set_option maxRecDepth 100000 in
theorem gin_X4_firstError : GoodIn lw_tbl wsX4_firstError := gin_cons (goodIn_p _ [342] (by decide +kernel) (by decide +kernel)) (goodIn_app (goodIn_app (goodIn_app gin_X4_firstError_r1 (goodIn_app gin_X4_firstError_r2 (goodIn_app gin_X4_firstError_r3 (goodIn_app gin_X4_firstError_r4 gin_X4_firstError_r5)))) gin_X40) gin_X30)
set_option maxRecDepth 100000 in
theorem gin_X5_firstError_r1 : GoodIn lw_tbl wsX5_firstError_r1 := goodIn_p wsX5_firstError_r1 [1222, 1226, 1230, 1234] (by decide +kernel) (by decide +kernel)
set_option maxRecDepth 100000 in
theorem gin_X5_firstError_r2 : GoodIn lw_tbl wsX5_firstError_r2 := goodIn_p wsX5_firstError_r2 [1238, 1093, 1242, 1246, 1250, 1254] (by decide +kernel) (by decide +kernel)
set_option maxRecDepth 100000 in
theorem gin_X5_firstError_r3 : GoodIn lw_tbl wsX5_firstError_r3 := goodIn_p wsX5_firstError_r3 [1257, 1261] (by decide +kernel) (by decide +kernel)
set_option maxRecDepth 100000 in
theorem gin_X5_firstError : GoodIn lw_tbl wsX5_firstError := gin_cons (goodIn_p _ [1218] (by decide +kernel) (by decide +kernel)) (goodIn_app (goodIn_app gin_X5_firstError_r1 (goodIn_app gin_X5_firstError_r2 gin_X5_firstError_r3)) gin_X50)
end GIN2
