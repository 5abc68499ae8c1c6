section GIN1
set_option maxRecDepth 100000 in
theorem gin_X4_count_r2 : GoodIn lw_tbl wsX4_count_r2 := goodIn_p wsX4_count_r2 [347, 379, 383, 387, 391, 395] (by decide +kernel) (by decide +kernel)
set_option maxRecDepth 100000 in
theorem gin_X4_count_r3 : GoodIn lw_tbl wsX4_count_r3 := goodIn_p wsX4_count_r3 [399] (by decide +kernel) (by decide +kernel)
set_option maxRecDepth 100000 in
theorem gin_X4_count : GoodIn lw_tbl wsX4_count := gin_cons (goodIn_p _ [351] (by decide +kernel) (by decide +kernel)) (goodIn_app (goodIn_app (goodIn_app (goodIn_app (goodIn_app (goodIn_app gin_X4_count_r1 (goodIn_app gin_X4_count_r2 gin_X4_count_r3)) gin_X40) gin_X10) gin_X00) gin_X20) gin_x2)
set_option maxRecDepth 100000 in
theorem gin_L_act_r1 : GoodIn lw_tbl wsL_act_r1 := goodIn_p wsL_act_r1 [579, 583, 252] (by decide +kernel) (by decide +kernel)
set_option maxRecDepth 100000 in
theorem gin_L_act_r2 : GoodIn lw_tbl wsL_act_r2 := goodIn_p wsL_act_r2 [324, 327, 331] (by decide +kernel) (by decide +kernel)
set_option maxRecDepth 100000 in
theorem gin_L_act_r3 : GoodIn lw_tbl wsL_act_r3 := goodIn_p wsL_act_r3 [335] (by decide +kernel) (by decide +kernel)
set_option maxRecDepth 100000 in
theorem gin_L_act_r4 : GoodIn lw_tbl wsL_act_r4 := goodIn_p wsL_act_r4 [343, 347, 592, 596, 530, 455, 535] (by decide +kernel) (by decide +kernel)
set_option maxRecDepth 100000 in
theorem gin_L_act_r5 : GoodIn lw_tbl wsL_act_r5 := goodIn_p wsL_act_r5 [451, 459, 539, 483, 399, 544] (by decide +kernel) (by decide +kernel)
set_option maxRecDepth 100000 in
theorem gin_L_act_r6 : GoodIn lw_tbl wsL_act_r6 := goodIn_p wsL_act_r6 [548, 552, 556, 418, 562, 395] (by decide +kernel) (by decide +kernel)
set_option maxRecDepth 100000 in
theorem gin_L_act_r7 : GoodIn lw_tbl wsL_act_r7 := goodIn_p wsL_act_r7 [526, 604, 608, 494, 486, 383] (by decide +kernel) (by decide +kernel)
set_option maxRecDepth 100000 in
theorem gin_L_act_r8 : GoodIn lw_tbl wsL_act_r8 := goodIn_p wsL_act_r8 [614, 480, 622, 627] (by decide +kernel) (by decide +kernel)
set_option maxRecDepth 100000 in
theorem gin_L_act_r9 : GoodIn lw_tbl wsL_act_r9 := goodIn_p wsL_act_r9 [410, 414, 439, 443, 447] (by decide +kernel) (by decide +kernel)
set_option maxRecDepth 100000 in
theorem gin_L_act_r10 : GoodIn lw_tbl wsL_act_r10 := goodIn_p wsL_act_r10 [634, 639, 645, 649, 654] (by decide +kernel) (by decide +kernel)
set_option maxRecDepth 100000 in
theorem gin_L_act_r11 : GoodIn lw_tbl wsL_act_r11 := goodIn_p wsL_act_r11 [662, 665, 672, 679, 683, 688] (by decide +kernel) (by decide +kernel)
end GIN1
