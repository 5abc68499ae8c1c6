section GIN3
set_option maxRecDepth 100000 in
theorem gin_L_run_r1 : GoodIn lw_tbl wsL_run_r1 := goodIn_p wsL_run_r1 [907, 346, 350] (by decide +kernel) (by decide +kernel)
set_option maxRecDepth 100000 in
theorem gin_L_run_r2 : GoodIn lw_tbl wsL_run_r2 := goodIn_p wsL_run_r2 [354, 358, 363, 367, 371] (by decide +kernel) (by decide +kernel)
set_option maxRecDepth 100000 in
theorem gin_L_run_r3 : GoodIn lw_tbl wsL_run_r3 := goodIn_p wsL_run_r3 [377, 381, 384, 387, 392, 395] (by decide +kernel) (by decide +kernel)
set_option maxRecDepth 100000 in
theorem gin_L_run_r4 : GoodIn lw_tbl wsL_run_r4 := goodIn_p wsL_run_r4 [398, 401, 405, 415, 419] (by decide +kernel) (by decide +kernel)
set_option maxRecDepth 100000 in
theorem gin_L_run_r5 : GoodIn lw_tbl wsL_run_r5 := goodIn_p wsL_run_r5 [423, 427, 431, 716, 608] (by decide +kernel) (by decide +kernel)
set_option maxRecDepth 100000 in
theorem gin_L_run_r6 : GoodIn lw_tbl wsL_run_r6 := goodIn_p wsL_run_r6 [563, 567] (by decide +kernel) (by decide +kernel)
set_option maxRecDepth 100000 in
theorem gin_L_run_r7 : GoodIn lw_tbl wsL_run_r7 := goodIn_p wsL_run_r7 [914, 918, 819] (by decide +kernel) (by decide +kernel)
set_option maxRecDepth 100000 in
theorem gin_L_run_r8 : GoodIn lw_tbl wsL_run_r8 := goodIn_p wsL_run_r8 [579, 457, 584, 453, 461, 588] (by decide +kernel) (by decide +kernel)
set_option maxRecDepth 100000 in
theorem gin_L_run_r9 : GoodIn lw_tbl wsL_run_r9 := goodIn_p wsL_run_r9 [550, 449, 517, 593, 597, 601] (by decide +kernel) (by decide +kernel)
set_option maxRecDepth 100000 in
theorem gin_L_run_r10 : GoodIn lw_tbl wsL_run_r10 := goodIn_p wsL_run_r10 [605, 612, 616, 513, 575, 922, 864] (by decide +kernel) (by decide +kernel)
set_option maxRecDepth 100000 in
theorem gin_L_run_r11 : GoodIn lw_tbl wsL_run_r11 := goodIn_p wsL_run_r11 [469, 472, 501, 870, 547, 926] (by decide +kernel) (by decide +kernel)
set_option maxRecDepth 100000 in
theorem gin_L_run_r12 : GoodIn lw_tbl wsL_run_r12 := goodIn_p wsL_run_r12 [930, 789, 795, 799, 934, 837, 938] (by decide +kernel) (by decide +kernel)
set_option maxRecDepth 100000 in
theorem gin_L_run_r13 : GoodIn lw_tbl wsL_run_r13 := goodIn_p wsL_run_r13 [848, 853, 338] (by decide +kernel) (by decide +kernel)
set_option maxRecDepth 100000 in
theorem gin_L_run : GoodIn lw_tbl wsL_run := gin_cons (goodIn_p _ [] (by decide +kernel) (by decide +kernel)) (goodIn_app (goodIn_app (goodIn_app (goodIn_app (goodIn_app (goodIn_app (goodIn_app gin_L_run_r1 (goodIn_app gin_L_run_r2 (goodIn_app gin_L_run_r3 (goodIn_app gin_L_run_r4 (goodIn_app gin_L_run_r5 (goodIn_app gin_L_run_r6 (goodIn_app gin_L_run_r7 (goodIn_app gin_L_run_r8 (goodIn_app gin_L_run_r9 (goodIn_app gin_L_run_r10 (goodIn_app gin_L_run_r11 (goodIn_app gin_L_run_r12 gin_L_run_r13)))))))))))) gin_X40) gin_X30) gin_X10) gin_X00) gin_X20) gin_x2)
set_option maxRecDepth 100000 in
theorem gin_X5_run_r1 : GoodIn lw_tbl wsX5_run_r1 := goodIn_p wsX5_run_r1 [1222, 1226, 1230, 1234] (by decide +kernel) (by decide +kernel)
set_option maxRecDepth 100000 in
theorem gin_X5_run_r2 : GoodIn lw_tbl wsX5_run_r2 := goodIn_p wsX5_run_r2 [1238, 1093, 1242, 1246, 1250, 1254] (by decide +kernel) (by decide +kernel)
set_option maxRecDepth 100000 in
theorem gin_X5_run_r3 : GoodIn lw_tbl wsX5_run_r3 := goodIn_p wsX5_run_r3 [1257, 1261, 1064, 1072, 1269] (by decide +kernel) (by decide +kernel)
set_option maxRecDepth 100000 in
theorem gin_X5_run_r4 : GoodIn lw_tbl wsX5_run_r4 := goodIn_p wsX5_run_r4 [1273, 1116, 1090, 1079, 1096, 1099, 1102] (by decide +kernel) (by decide +kernel)
set_option maxRecDepth 100000 in
theorem gin_X5_run_r5 : GoodIn lw_tbl wsX5_run_r5 := goodIn_p wsX5_run_r5 [1160, 1175, 1187, 1191, 1120, 1082, 1123] (by decide +kernel) (by decide +kernel)
set_option maxRecDepth 100000 in
theorem gin_X5_run_r6 : GoodIn lw_tbl wsX5_run_r6 := goodIn_p wsX5_run_r6 [1126, 1164, 1167, 1179, 1142, 1146] (by decide +kernel) (by decide +kernel)
set_option maxRecDepth 100000 in
theorem gin_X5_run_r7 : GoodIn lw_tbl wsX5_run_r7 := goodIn_p wsX5_run_r7 [1149, 1152, 1108, 1195, 1199] (by decide +kernel) (by decide +kernel)
set_option maxRecDepth 100000 in
theorem gin_X5_run : GoodIn lw_tbl wsX5_run := gin_cons (goodIn_p _ [1265] (by decide +kernel) (by decide +kernel)) (goodIn_app (goodIn_app gin_X5_run_r1 (goodIn_app gin_X5_run_r2 (goodIn_app gin_X5_run_r3 (goodIn_app gin_X5_run_r4 (goodIn_app gin_X5_run_r5 (goodIn_app gin_X5_run_r6 gin_X5_run_r7)))))) gin_X50)
set_option maxRecDepth 100000 in
theorem gin_L_undo_r1 : GoodIn lw_tbl wsL_undo_r1 := goodIn_p wsL_undo_r1 [946, 951, 608] (by decide +kernel) (by decide +kernel)
set_option maxRecDepth 100000 in
theorem gin_L_undo_r2 : GoodIn lw_tbl wsL_undo_r2 := goodIn_p wsL_undo_r2 [563, 567] (by decide +kernel) (by decide +kernel)
set_option maxRecDepth 100000 in
theorem gin_L_undo_r3 : GoodIn lw_tbl wsL_undo_r3 := goodIn_p wsL_undo_r3 [] (by decide +kernel) (by decide +kernel)
set_option maxRecDepth 100000 in
theorem gin_L_undo : GoodIn lw_tbl wsL_undo := gin_cons (goodIn_p _ [] (by decide +kernel) (by decide +kernel)) (goodIn_app (goodIn_app (goodIn_app (goodIn_app (goodIn_app (goodIn_app gin_L_undo_r1 (goodIn_app gin_L_undo_r2 gin_L_undo_r3)) gin_X40) gin_X10) gin_X00) gin_X20) gin_x0)
set_option maxRecDepth 100000 in
theorem gin_X5_undo : GoodIn lw_tbl wsX5_undo := gin_cons (goodIn_p _ [1060] (by decide +kernel) (by decide +kernel)) (goodIn_app (goodIn_p _ [1064] (by decide +kernel) (by decide +kernel)) gin_X50)
set_option maxRecDepth 100000 in
theorem gin_L_member_r1 : GoodIn lw_tbl wsL_member_r1 := goodIn_p wsL_member_r1 [958, 734, 612] (by decide +kernel) (by decide +kernel)
set_option maxRecDepth 100000 in
theorem gin_L_member_r2 : GoodIn lw_tbl wsL_member_r2 := goodIn_p wsL_member_r2 [529, 533, 537, 453] (by decide +kernel) (by decide +kernel)
set_option maxRecDepth 100000 in
theorem gin_L_member_r3 : GoodIn lw_tbl wsL_member_r3 := goodIn_p wsL_member_r3 [457, 461, 513] (by decide +kernel) (by decide +kernel)
set_option maxRecDepth 100000 in
theorem gin_L_member : GoodIn lw_tbl wsL_member := gin_cons (goodIn_p _ [] (by decide +kernel) (by decide +kernel)) (goodIn_app (goodIn_app (goodIn_app (goodIn_app (goodIn_app (goodIn_app gin_L_member_r1 (goodIn_app gin_L_member_r2 gin_L_member_r3)) gin_X40) gin_X00) gin_X20) gin_x2) gin_x1)
set_option maxRecDepth 100000 in
theorem gin_X5_member_r1 : GoodIn lw_tbl wsX5_member_r1 := goodIn_p wsX5_member_r1 [1090, 1093, 1079, 1064, 1281, 1123] (by decide +kernel) (by decide +kernel)
end GIN3
