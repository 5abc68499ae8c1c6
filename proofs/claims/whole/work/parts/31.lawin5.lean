section LAWIN5
set_option maxRecDepth 100000 in
theorem lin_X4 : ∀ w ∈ wsX40, w ∈ lw_tbl := fun w h => (goodIn_of wsX40 (by decide +kernel) w h).1
set_option maxRecDepth 100000 in
theorem lin_X5 : ∀ w ∈ wsX50, w ∈ lw_tbl := fun w h => (goodIn_of wsX50 (by decide +kernel) w h).1
set_option maxRecDepth 100000 in
theorem lin_X0 : ∀ w ∈ wsX00, w ∈ lw_tbl := fun w h => (goodIn_of wsX00 (by decide +kernel) w h).1
set_option maxRecDepth 100000 in
theorem lin_X1 : ∀ w ∈ wsX10, w ∈ lw_tbl := fun w h => (goodIn_of wsX10 (by decide +kernel) w h).1
set_option maxRecDepth 100000 in
theorem lin_X3 : ∀ w ∈ wsX30, w ∈ lw_tbl := fun w h => (goodIn_of wsX30 (by decide +kernel) w h).1
set_option maxRecDepth 100000 in
theorem lin_X2 : ∀ w ∈ wsX20, w ∈ lw_tbl := fun w h => (goodIn_of wsX20 (by decide +kernel) w h).1
set_option maxRecDepth 100000 in
theorem lin_x0 : ∀ w ∈ (vx_atS RX4 41 "java/lang/IllegalStateException" ["java/lang/RuntimeException", "java/lang/Exception"]).filter goodWord, w ∈ lw_tbl := by decide +kernel
set_option maxRecDepth 100000 in
theorem lin_x1 : ∀ w ∈ (vx_atS RX4 277 "java/lang/IndexOutOfBoundsException" ["java/lang/RuntimeException", "java/lang/Exception"]).filter goodWord, w ∈ lw_tbl := by decide +kernel
set_option maxRecDepth 100000 in
theorem lin_x2 : ∀ w ∈ (vx_atS RX4 70 "java/lang/IllegalArgumentException" ["java/lang/RuntimeException", "java/lang/Exception"]).filter goodWord, w ∈ lw_tbl := by decide +kernel
theorem lin_app {a b : List Cond} (ha : ∀ w ∈ a, w ∈ lw_tbl) (hb : ∀ w ∈ b, w ∈ lw_tbl) : ∀ w ∈ a ++ b, w ∈ lw_tbl := fun w h => (List.mem_append.mp h).elim (ha w) (hb w)
theorem wsL_law_in0 : ∀ w ∈ wsL_law0, w ∈ lw_tbl := lin_app (lin_app (lin_app (lin_app (lin_app (lin_app (lin_app (lin_app lin_r1 (lin_app lin_r2 (lin_app lin_r3 (lin_app lin_r4 (lin_app lin_r5 (lin_app lin_r6 (lin_app lin_r7 (lin_app lin_r8 (lin_app lin_r9 (lin_app lin_r10 (lin_app lin_r11 (lin_app lin_r12 (lin_app lin_r13 (lin_app lin_r14 (lin_app lin_r15 (lin_app lin_r16 (lin_app lin_r17 (lin_app lin_r18 (lin_app lin_r19 (lin_app lin_r20 (lin_app lin_r21 (lin_app lin_r22 (lin_app lin_r23 (lin_app lin_r24 (lin_app lin_r25 (lin_app lin_r26 (lin_app lin_r27 (lin_app lin_r28 (lin_app lin_r29 (lin_app lin_r30 (lin_app lin_r31 (lin_app lin_r32 (lin_app lin_r33 (lin_app lin_r34 (lin_app lin_r35 (lin_app lin_r36 (lin_app lin_r37 (lin_app lin_r38 lin_r39)))))))))))))))))))))))))))))))))))))) lin_X4) lin_X5) lin_X0) lin_X1) lin_X3) lin_X2) (fun _ h => nomatch h)
theorem wsL_law_in : ∀ w ∈ wsL_law, w ∈ lw_tbl := lin_app (lin_app (lin_app wsL_law_in0 lin_x0) lin_x1) lin_x2
end LAWIN5
