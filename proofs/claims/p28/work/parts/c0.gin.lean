section GIN0
set_option maxRecDepth 100000 in
theorem lin_x0 : ∀ w ∈ (vx_atS RX4 41 "java/lang/IllegalStateException" ["java/lang/RuntimeException", "java/lang/Exception"]).filter goodWord, w ∈ lw_tbl := by decide +kernel
theorem gin_x0 : GoodIn lw_tbl ((vx_atS RX4 41 "java/lang/IllegalStateException" ["java/lang/RuntimeException", "java/lang/Exception"]).filter goodWord) := fun w h => ⟨lin_x0 w h, good_of_word (List.mem_filter.mp h).2⟩
set_option maxRecDepth 100000 in
theorem lin_x1 : ∀ w ∈ (vx_atS RX4 277 "java/lang/IndexOutOfBoundsException" ["java/lang/RuntimeException", "java/lang/Exception"]).filter goodWord, w ∈ lw_tbl := by decide +kernel
theorem gin_x1 : GoodIn lw_tbl ((vx_atS RX4 277 "java/lang/IndexOutOfBoundsException" ["java/lang/RuntimeException", "java/lang/Exception"]).filter goodWord) := fun w h => ⟨lin_x1 w h, good_of_word (List.mem_filter.mp h).2⟩
set_option maxRecDepth 100000 in
theorem lin_x2 : ∀ w ∈ (vx_atS RX4 70 "java/lang/IllegalArgumentException" ["java/lang/RuntimeException", "java/lang/Exception"]).filter goodWord, w ∈ lw_tbl := by decide +kernel
theorem gin_x2 : GoodIn lw_tbl ((vx_atS RX4 70 "java/lang/IllegalArgumentException" ["java/lang/RuntimeException", "java/lang/Exception"]).filter goodWord) := fun w h => ⟨lin_x2 w h, good_of_word (List.mem_filter.mp h).2⟩
theorem gin_cons {big B : List Cond} {w : Cond} (h : GoodIn big [w]) (t : GoodIn big B) : GoodIn big (w :: B) := goodIn_app h t
set_option maxRecDepth 100000 in
theorem gin_X4_init_r1 : GoodIn lw_tbl wsX4_init_r1 := goodIn_p wsX4_init_r1 [72, 77] (by decide +kernel) (by decide +kernel)
set_option maxRecDepth 100000 in
theorem gin_X4_init_r2 : GoodIn lw_tbl wsX4_init_r2 := goodIn_p wsX4_init_r2 [84, 197, 217] (by decide +kernel) (by decide +kernel)
set_option maxRecDepth 100000 in
theorem gin_X00 : GoodIn lw_tbl wsX00 := goodIn_of wsX00 (by decide +kernel)
set_option maxRecDepth 100000 in
theorem gin_X40 : GoodIn lw_tbl wsX40 := goodIn_of wsX40 (by decide +kernel)
set_option maxRecDepth 100000 in
theorem gin_X10 : GoodIn lw_tbl wsX10 := goodIn_of wsX10 (by decide +kernel)
set_option maxRecDepth 100000 in
theorem gin_X30 : GoodIn lw_tbl wsX30 := goodIn_of wsX30 (by decide +kernel)
set_option maxRecDepth 100000 in
theorem gin_X20 : GoodIn lw_tbl wsX20 := goodIn_of wsX20 (by decide +kernel)
set_option maxRecDepth 100000 in
theorem gin_X4_init : GoodIn lw_tbl wsX4_init := gin_cons (goodIn_p _ [69] (by decide +kernel) (by decide +kernel)) (goodIn_app (goodIn_app (goodIn_app (goodIn_app (goodIn_app (goodIn_app gin_X4_init_r1 gin_X4_init_r2) gin_X00) gin_X40) gin_X10) gin_X30) gin_X20)
set_option maxRecDepth 100000 in
theorem gin_X4_join_r1 : GoodIn lw_tbl wsX4_join_r1 := goodIn_p wsX4_join_r1 [324, 327, 331] (by decide +kernel) (by decide +kernel)
set_option maxRecDepth 100000 in
theorem gin_X4_join_r2 : GoodIn lw_tbl wsX4_join_r2 := goodIn_p wsX4_join_r2 [335] (by decide +kernel) (by decide +kernel)
set_option maxRecDepth 100000 in
theorem gin_X4_join_r3 : GoodIn lw_tbl wsX4_join_r3 := goodIn_p wsX4_join_r3 [343, 347] (by decide +kernel) (by decide +kernel)
set_option maxRecDepth 100000 in
theorem gin_X4_join : GoodIn lw_tbl wsX4_join := gin_cons (goodIn_p _ [252] (by decide +kernel) (by decide +kernel)) (goodIn_app (goodIn_app (goodIn_app (goodIn_app (goodIn_app (goodIn_app gin_X4_join_r1 (goodIn_app gin_X4_join_r2 gin_X4_join_r3)) gin_X40) gin_X00) gin_X10) gin_X20) gin_x0)
set_option maxRecDepth 100000 in
theorem gin_X4_count_r1 : GoodIn lw_tbl wsX4_count_r1 := goodIn_p wsX4_count_r1 [371, 375] (by decide +kernel) (by decide +kernel)
end GIN0
