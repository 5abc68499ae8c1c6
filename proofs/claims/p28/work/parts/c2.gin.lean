section GIN2
set_option maxRecDepth 100000 in
theorem gin_L_act_r12 : GoodIn lw_tbl wsL_act_r12 := goodIn_p wsL_act_r12 [695, 699, 705, 709, 712] (by decide +kernel) (by decide +kernel)
set_option maxRecDepth 100000 in
theorem gin_L_act : GoodIn lw_tbl wsL_act := gin_cons (goodIn_p _ [576] (by decide +kernel) (by decide +kernel)) (goodIn_app (goodIn_app (goodIn_app (goodIn_app (goodIn_app (goodIn_app (goodIn_app (goodIn_app gin_L_act_r1 (goodIn_app gin_L_act_r2 (goodIn_app gin_L_act_r3 (goodIn_app gin_L_act_r4 (goodIn_app gin_L_act_r5 (goodIn_app gin_L_act_r6 (goodIn_app gin_L_act_r7 (goodIn_app gin_L_act_r8 (goodIn_app gin_L_act_r9 (goodIn_app gin_L_act_r10 (goodIn_app gin_L_act_r11 gin_L_act_r12))))))))))) gin_X40) gin_X00) gin_X10) gin_X20) gin_x0) gin_x2) gin_x1)
set_option maxRecDepth 100000 in
theorem gin_L_books_r1 : GoodIn lw_tbl wsL_books_r1 := goodIn_p wsL_books_r1 [410, 414, 418] (by decide +kernel) (by decide +kernel)
set_option maxRecDepth 100000 in
theorem gin_L_books_r2 : GoodIn lw_tbl wsL_books_r2 := goodIn_p wsL_books_r2 [439, 443, 447] (by decide +kernel) (by decide +kernel)
set_option maxRecDepth 100000 in
theorem gin_L_books_r3 : GoodIn lw_tbl wsL_books_r3 := goodIn_p wsL_books_r3 [451, 455, 459, 395, 464] (by decide +kernel) (by decide +kernel)
set_option maxRecDepth 100000 in
theorem gin_L_books_r4 : GoodIn lw_tbl wsL_books_r4 := goodIn_p wsL_books_r4 [468, 472, 347, 476, 480, 483, 486] (by decide +kernel) (by decide +kernel)
set_option maxRecDepth 100000 in
theorem gin_L_books_r5 : GoodIn lw_tbl wsL_books_r5 := goodIn_p wsL_books_r5 [351, 371, 375, 379] (by decide +kernel) (by decide +kernel)
set_option maxRecDepth 100000 in
theorem gin_L_books_r6 : GoodIn lw_tbl wsL_books_r6 := goodIn_p wsL_books_r6 [383, 387, 391, 399, 490, 494] (by decide +kernel) (by decide +kernel)
set_option maxRecDepth 100000 in
theorem gin_L_books_r7 : GoodIn lw_tbl wsL_books_r7 := goodIn_p wsL_books_r7 [499, 503, 508, 512, 516, 521] (by decide +kernel) (by decide +kernel)
set_option maxRecDepth 100000 in
theorem gin_L_books_r8 : GoodIn lw_tbl wsL_books_r8 := goodIn_p wsL_books_r8 [331, 335, 526, 530, 535] (by decide +kernel) (by decide +kernel)
set_option maxRecDepth 100000 in
theorem gin_L_books_r9 : GoodIn lw_tbl wsL_books_r9 := goodIn_p wsL_books_r9 [539, 544, 548, 552, 556, 327] (by decide +kernel) (by decide +kernel)
set_option maxRecDepth 100000 in
theorem gin_L_books_r10 : GoodIn lw_tbl wsL_books_r10 := goodIn_p wsL_books_r10 [562, 567, 573] (by decide +kernel) (by decide +kernel)
set_option maxRecDepth 100000 in
theorem gin_one_books : GoodIn lw_tbl [Cond.code yL_books cL_books 14 (some .boolean)] := fun w hw => by
  rw [List.mem_singleton.mp hw]
  exact ⟨List.mem_of_getElem? (i := 402) rfl, Or.inl rfl⟩
set_option maxRecDepth 100000 in
theorem gin_L_books : GoodIn lw_tbl wsL_books := gin_cons gin_one_books (goodIn_app (goodIn_app (goodIn_app (goodIn_app (goodIn_app (goodIn_app (goodIn_app gin_L_books_r1 (goodIn_app gin_L_books_r2 (goodIn_app gin_L_books_r3 (goodIn_app gin_L_books_r4 (goodIn_app gin_L_books_r5 (goodIn_app gin_L_books_r6 (goodIn_app gin_L_books_r7 (goodIn_app gin_L_books_r8 (goodIn_app gin_L_books_r9 gin_L_books_r10))))))))) gin_X40) gin_X00) gin_X20) gin_X10) gin_x2) gin_x1)
end GIN2
