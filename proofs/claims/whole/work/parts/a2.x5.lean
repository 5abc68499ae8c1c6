section GIN5
set_option maxRecDepth 100000 in
theorem gin_X4_weakest_r1 : GoodIn lw_tbl wsX4_weakest_r1 := goodIn_p wsX4_weakest_r1 [445, 449, 453, 457] (by decide +kernel) (by decide +kernel)
set_option maxRecDepth 100000 in
theorem gin_X4_weakest_r2 : GoodIn lw_tbl wsX4_weakest_r2 := goodIn_p wsX4_weakest_r2 [461] (by decide +kernel) (by decide +kernel)
set_option maxRecDepth 100000 in
theorem gin_X4_weakest : GoodIn lw_tbl wsX4_weakest := gin_cons (goodIn_p _ [441] (by decide +kernel) (by decide +kernel)) (goodIn_app (goodIn_app (goodIn_app (goodIn_app gin_X4_weakest_r1 gin_X4_weakest_r2) gin_X40) gin_X00) gin_X20)
set_option maxRecDepth 100000 in
theorem gin_X5_weakest_r1 : GoodIn lw_tbl wsX5_weakest_r1 := goodIn_p wsX5_weakest_r1 [1336, 1079, 1312, 1316, 1142] (by decide +kernel) (by decide +kernel)
set_option maxRecDepth 100000 in
theorem gin_X5_weakest_r2 : GoodIn lw_tbl wsX5_weakest_r2 := goodIn_p wsX5_weakest_r2 [1123, 1126, 1146, 1082, 1149, 1152, 1108] (by decide +kernel) (by decide +kernel)
set_option maxRecDepth 100000 in
theorem gin_X5_weakest_r3 : GoodIn lw_tbl wsX5_weakest_r3 := goodIn_p wsX5_weakest_r3 [1096, 1099, 1102, 1320] (by decide +kernel) (by decide +kernel)
set_option maxRecDepth 100000 in
theorem gin_X5_weakest : GoodIn lw_tbl wsX5_weakest := gin_cons (goodIn_p _ [1332] (by decide +kernel) (by decide +kernel)) (goodIn_app (goodIn_app gin_X5_weakest_r1 (goodIn_app gin_X5_weakest_r2 gin_X5_weakest_r3)) gin_X50)
set_option maxRecDepth 100000 in
theorem gin_X4_weeksToGo : GoodIn lw_tbl wsX4_weeksToGo := gin_cons (goodIn_p _ [465] (by decide +kernel) (by decide +kernel)) (goodIn_app (goodIn_app (goodIn_app (goodIn_p _ [469, 472] (by decide +kernel) (by decide +kernel)) gin_X40) gin_X00) gin_X20)
set_option maxRecDepth 100000 in
theorem gin_X5_weeksToGo : GoodIn lw_tbl wsX5_weeksToGo := gin_cons (goodIn_p _ [1340] (by decide +kernel) (by decide +kernel)) (goodIn_app (goodIn_p _ [1344, 1079] (by decide +kernel) (by decide +kernel)) gin_X50)
set_option maxRecDepth 100000 in
theorem gin_L_ifCycle_r1 : GoodIn lw_tbl wsL_ifCycle_r1 := goodIn_p wsL_ifCycle_r1 [1003, 734, 612, 547] (by decide +kernel) (by decide +kernel)
set_option maxRecDepth 100000 in
theorem gin_L_ifCycle_r2 : GoodIn lw_tbl wsL_ifCycle_r2 := goodIn_p wsL_ifCycle_r2 [550, 472] (by decide +kernel) (by decide +kernel)
set_option maxRecDepth 100000 in
theorem gin_L_ifCycle : GoodIn lw_tbl wsL_ifCycle := gin_cons (goodIn_p _ [] (by decide +kernel) (by decide +kernel)) (goodIn_app (goodIn_app (goodIn_app (goodIn_app (goodIn_app gin_L_ifCycle_r1 gin_L_ifCycle_r2) gin_X40) gin_X00) gin_X20) gin_x1)
set_option maxRecDepth 100000 in
theorem gin_X5_ifCycle : GoodIn lw_tbl wsX5_ifCycle := gin_cons (goodIn_p _ [1348] (by decide +kernel) (by decide +kernel)) (goodIn_app (goodIn_p _ [1090, 1093, 1079, 1199, 1167, 1064] (by decide +kernel) (by decide +kernel)) gin_X50)
set_option maxRecDepth 100000 in
theorem gin_X4_paidShare : GoodIn lw_tbl wsX4_paidShare := gin_cons (goodIn_p _ [476] (by decide +kernel) (by decide +kernel)) (goodIn_app (goodIn_app (goodIn_p _ [480] (by decide +kernel) (by decide +kernel)) gin_X40) gin_X00)
set_option maxRecDepth 100000 in
theorem gin_X5_paidShare : GoodIn lw_tbl wsX5_paidShare := gin_cons (goodIn_p _ [1352] (by decide +kernel) (by decide +kernel)) (goodIn_app (goodIn_p _ [1356] (by decide +kernel) (by decide +kernel)) gin_X50)
set_option maxRecDepth 100000 in
theorem gin_X4_digest_r1 : GoodIn lw_tbl wsX4_digest_r1 := goodIn_p wsX4_digest_r1 [489, 493, 449] (by decide +kernel) (by decide +kernel)
set_option maxRecDepth 100000 in
theorem gin_X4_digest_r2 : GoodIn lw_tbl wsX4_digest_r2 := goodIn_p wsX4_digest_r2 [497, 501, 505, 509, 513] (by decide +kernel) (by decide +kernel)
set_option maxRecDepth 100000 in
theorem gin_X4_digest_r3 : GoodIn lw_tbl wsX4_digest_r3 := goodIn_p wsX4_digest_r3 [517, 520, 525, 529, 533, 537] (by decide +kernel) (by decide +kernel)
set_option maxRecDepth 100000 in
theorem gin_X4_digest_r4 : GoodIn lw_tbl wsX4_digest_r4 := goodIn_p wsX4_digest_r4 [453, 457, 461] (by decide +kernel) (by decide +kernel)
set_option maxRecDepth 100000 in
theorem gin_X4_digest_r5 : GoodIn lw_tbl wsX4_digest_r5 := goodIn_p wsX4_digest_r5 [543, 547, 550, 472, 555, 559, 563] (by decide +kernel) (by decide +kernel)
set_option maxRecDepth 100000 in
theorem gin_X4_digest_r6 : GoodIn lw_tbl wsX4_digest_r6 := goodIn_p wsX4_digest_r6 [567, 575, 579, 584, 588] (by decide +kernel) (by decide +kernel)
set_option maxRecDepth 100000 in
theorem gin_X4_digest_r7 : GoodIn lw_tbl wsX4_digest_r7 := goodIn_p wsX4_digest_r7 [593, 597, 601, 605, 608, 612] (by decide +kernel) (by decide +kernel)
set_option maxRecDepth 100000 in
theorem gin_X4_digest_r8 : GoodIn lw_tbl wsX4_digest_r8 := goodIn_p wsX4_digest_r8 [616, 621, 627, 445, 469, 480, 630] (by decide +kernel) (by decide +kernel)
set_option maxRecDepth 100000 in
theorem gin_X4_digest_r9 : GoodIn lw_tbl wsX4_digest_r9 := goodIn_p wsX4_digest_r9 [637] (by decide +kernel) (by decide +kernel)
set_option maxRecDepth 100000 in
theorem gin_X4_digest : GoodIn lw_tbl wsX4_digest := gin_cons (goodIn_p _ [484] (by decide +kernel) (by decide +kernel)) (goodIn_app (goodIn_app (goodIn_app (goodIn_app (goodIn_app (goodIn_app gin_X4_digest_r1 (goodIn_app gin_X4_digest_r2 (goodIn_app gin_X4_digest_r3 (goodIn_app gin_X4_digest_r4 (goodIn_app gin_X4_digest_r5 (goodIn_app gin_X4_digest_r6 (goodIn_app gin_X4_digest_r7 (goodIn_app gin_X4_digest_r8 gin_X4_digest_r9)))))))) gin_X40) gin_X00) gin_X20) gin_X10) gin_X30)
set_option maxRecDepth 100000 in
theorem gin_X5_digest_r1 : GoodIn lw_tbl wsX5_digest_r1 := goodIn_p wsX5_digest_r1 [1293, 1076, 1079, 1191] (by decide +kernel) (by decide +kernel)
set_option maxRecDepth 100000 in
theorem gin_X5_digest_r2 : GoodIn lw_tbl wsX5_digest_r2 := goodIn_p wsX5_digest_r2 [1296, 1099, 1102, 1134, 1281, 1123, 1126] (by decide +kernel) (by decide +kernel)
set_option maxRecDepth 100000 in
theorem gin_X5_digest_r3 : GoodIn lw_tbl wsX5_digest_r3 := goodIn_p wsX5_digest_r3 [1105, 1328, 1312, 1316, 1142, 1146] (by decide +kernel) (by decide +kernel)
set_option maxRecDepth 100000 in
theorem gin_X5_digest_r4 : GoodIn lw_tbl wsX5_digest_r4 := goodIn_p wsX5_digest_r4 [1082, 1149, 1152, 1108, 1096, 1320, 1199] (by decide +kernel) (by decide +kernel)
set_option maxRecDepth 100000 in
theorem gin_X5_digest_r5 : GoodIn lw_tbl wsX5_digest_r5 := goodIn_p wsX5_digest_r5 [1167, 1308, 1336, 1344, 1356, 1365] (by decide +kernel) (by decide +kernel)
set_option maxRecDepth 100000 in
theorem gin_X5_digest_r6 : GoodIn lw_tbl wsX5_digest_r6 := goodIn_p wsX5_digest_r6 [1368] (by decide +kernel) (by decide +kernel)
set_option maxRecDepth 100000 in
theorem gin_X5_digest : GoodIn lw_tbl wsX5_digest := gin_cons (goodIn_p _ [1360] (by decide +kernel) (by decide +kernel)) (goodIn_app (goodIn_app gin_X5_digest_r1 (goodIn_app gin_X5_digest_r2 (goodIn_app gin_X5_digest_r3 (goodIn_app gin_X5_digest_r4 (goodIn_app gin_X5_digest_r5 gin_X5_digest_r6))))) gin_X50)
end GIN5
