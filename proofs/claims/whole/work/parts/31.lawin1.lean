section LAWIN0
set_option maxRecDepth 100000 in
theorem lin_r1 : ∀ w ∈ wsL_law0_r1, w ∈ lw_tbl := fun w h => (goodIn_p wsL_law0_r1 [136, 139] (by decide +kernel) (by decide +kernel) w h).1
set_option maxRecDepth 100000 in
theorem lin_r2 : ∀ w ∈ wsL_law0_r2, w ∈ lw_tbl := fun w h => (goodIn_p wsL_law0_r2 [144, 151, 266, 286] (by decide +kernel) (by decide +kernel) w h).1
set_option maxRecDepth 100000 in
theorem lin_r3 : ∀ w ∈ wsL_law0_r3, w ∈ lw_tbl := fun w h => (goodIn_p wsL_law0_r3 [1008, 645] (by decide +kernel) (by decide +kernel) w h).1
set_option maxRecDepth 100000 in
theorem lin_r4 : ∀ w ∈ wsL_law0_r4, w ∈ lw_tbl := fun w h => (goodIn_p wsL_law0_r4 [716, 608, 563] (by decide +kernel) (by decide +kernel) w h).1
set_option maxRecDepth 100000 in
theorem lin_r5 : ∀ w ∈ wsL_law0_r5, w ∈ lw_tbl := fun w h => (goodIn_p wsL_law0_r5 [567, 722] (by decide +kernel) (by decide +kernel) w h).1
set_option maxRecDepth 100000 in
theorem lin_r6 : ∀ w ∈ wsL_law0_r6, w ∈ lw_tbl := fun w h => (goodIn_p wsL_law0_r6 [449, 1068, 1064, 1072, 1076, 1079] (by decide +kernel) (by decide +kernel) w h).1
set_option maxRecDepth 100000 in
theorem lin_r7 : ∀ w ∈ wsL_law0_r7, w ∈ lw_tbl := fun w h => (goodIn_p wsL_law0_r7 [1082, 1056, 730, 734, 612] (by decide +kernel) (by decide +kernel) w h).1
set_option maxRecDepth 100000 in
theorem lin_r8 : ∀ w ∈ wsL_law0_r8, w ∈ lw_tbl := fun w h => (goodIn_p wsL_law0_r8 [755, 457, 616, 513, 533, 761, 605] (by decide +kernel) (by decide +kernel) w h).1
set_option maxRecDepth 100000 in
theorem lin_r9 : ∀ w ∈ wsL_law0_r9, w ∈ lw_tbl := fun w h => (goodIn_p wsL_law0_r9 [1086, 1090, 1093, 1096, 1099, 1102, 1105] (by decide +kernel) (by decide +kernel) w h).1
set_option maxRecDepth 100000 in
theorem lin_r10 : ∀ w ∈ wsL_law0_r10, w ∈ lw_tbl := fun w h => (goodIn_p wsL_law0_r10 [1108, 769, 789, 795, 799] (by decide +kernel) (by decide +kernel) w h).1
end LAWIN0
