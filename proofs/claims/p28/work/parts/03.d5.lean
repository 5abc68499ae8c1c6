theorem dX4_week_47 : decode cX4_week 47 = .ok (.getfield 10, 3) := by decide +kernel
theorem dX4_week_50 : decode cX4_week 50 = .ok (.getfield 99, 3) := by decide +kernel
theorem dX4_week_53 : decode cX4_week 53 = .ok (.iload_n 1, 1) := by decide +kernel
theorem dX4_week_54 : decode cX4_week 54 = .ok (.isub, 1) := by decide +kernel
theorem dX4_week_55 : decode cX4_week 55 = .ok (.ireturn, 1) := by decide +kernel
set_option maxRecDepth 20000 in
theorem ggX4_payBack_X4_memberOrThrow : GoodIn wsX4_payBack wsX4_memberOrThrow := goodIn_ca (goodIn_r _ [9, 10, 11, 4, 12, 13, 14, 15, 16, 84, 85, 86, 87, 88, 89, 90, 91, 92, 93, 94, 95, 96, 97, 98, 99, 100, 101, 102, 103, 104, 105, 106, 107, 108, 109, 110, 111, 112, 113, 114] (by decide +kernel) (by decide +kernel)) (goodIn_sub (fun _ h => List.mem_cons_of_mem _ (List.mem_append_left _ (List.mem_append_right _ h))) (by decide +kernel))
set_option maxRecDepth 20000 in
theorem gX4_payBack_X4_memberOrThrow : GoodIn wsX4_payBack (wsV RX4 52 RX4 yX4_memberOrThrow wsX4_memberOrThrow) := goodIn_app (goodIn_of _ (by decide +kernel)) ggX4_payBack_X4_memberOrThrow
set_option maxRecDepth 20000 in
theorem ggX4_payBack_X4_checkMoney : GoodIn wsX4_payBack wsX4_checkMoney := goodIn_ca (goodIn_r _ [19, 20, 21] (by decide +kernel) (by decide +kernel)) (goodIn_sub (fun _ h => List.mem_cons_of_mem _ (List.mem_append_right _ h)) (by decide +kernel))
set_option maxRecDepth 20000 in
theorem gX4_payBack_X4_checkMoney : GoodIn wsX4_payBack (va_wsS RX4 105 yX4_checkMoney wsX4_checkMoney) := goodIn_app (goodIn_of _ (by decide +kernel)) ggX4_payBack_X4_checkMoney
set_option maxRecDepth 20000 in
theorem ggX4_payBack_X2_hasDebts : GoodIn wsX4_payBack wsX2_hasDebts := goodIn_r _ [25, 26, 27, 28, 29, 30, 23, 31, 32, 99, 100, 101, 102, 103, 104, 105, 106, 107, 108, 109, 110, 111, 112, 113, 114] (by decide +kernel) (by decide +kernel)
set_option maxRecDepth 20000 in
theorem gX4_payBack_X2_hasDebts_n109 : GoodIn wsX4_payBack (wsX2_hasDebts) := ggX4_payBack_X2_hasDebts
set_option maxRecDepth 20000 in
theorem ggX4_payBack_X1_keep : GoodIn wsX4_payBack wsX1_keep := goodIn_r _ [36, 37, 38, 39, 40, 41, 42, 43, 44, 13, 45, 46, 16, 47, 48, 49, 50, 51, 52, 53, 54, 55, 56, 57, 58, 59, 60, 61, 23, 62, 63, 64, 65, 66, 67, 68, 69, 70, 71, 72, 73, 26, 27, 74, 75, 32, 76, 115, 116, 117, 88, 89, 90, 91, 92, 93, 94, 95, 96, 97, 98, 99, 100, 101, 102, 103, 104, 105, 106, 107, 108, 109, 110, 111, 112, 113, 114] (by decide +kernel) (by decide +kernel)
set_option maxRecDepth 20000 in
theorem gX4_payBack_X1_keep_n44 : GoodIn wsX4_payBack (wsX1_keep) := ggX4_payBack_X1_keep
set_option maxRecDepth 20000 in
theorem ggX4_payBack_X0_takePayment : GoodIn wsX4_payBack wsX0_takePayment := goodIn_r _ [79, 80, 81, 82, 83, 59, 56, 99, 100, 101, 102, 103, 104, 105, 106, 107, 108, 109, 110, 111, 112, 113, 114, 88, 89, 90, 91, 92, 93, 94, 95, 96, 97, 98] (by decide +kernel) (by decide +kernel)
set_option maxRecDepth 20000 in
theorem gX4_payBack_X0_takePayment_n114 : GoodIn wsX4_payBack (wsX0_takePayment) := ggX4_payBack_X0_takePayment
theorem dX4_payBack_0 : decode cX4_payBack 0 = .ok (.aload_n 0, 1) := by decide +kernel
theorem dX4_payBack_1 : decode cX4_payBack 1 = .ok (.iload_n 1, 1) := by decide +kernel
theorem dX4_payBack_2 : decode cX4_payBack 2 = .ok (.invokevirtual 52, 3) := by decide +kernel
theorem dX4_payBack_5 : decode cX4_payBack 5 = .ok (.astore_n 3, 1) := by decide +kernel
theorem dX4_payBack_6 : decode cX4_payBack 6 = .ok (.iload_n 2, 1) := by decide +kernel
theorem dX4_payBack_7 : decode cX4_payBack 7 = .ok (.invokestatic 105, 3) := by decide +kernel
theorem dX4_payBack_10 : decode cX4_payBack 10 = .ok (.aload_n 3, 1) := by decide +kernel
theorem dX4_payBack_11 : decode cX4_payBack 11 = .ok (.invokevirtual 109, 3) := by decide +kernel
theorem dX4_payBack_14 : decode cX4_payBack 14 = .ok (.ifCond .ne 13, 3) := by decide +kernel
theorem dX4_payBack_17 : decode cX4_payBack 17 = .ok (.new 37, 3) := by decide +kernel
theorem dX4_payBack_20 : decode cX4_payBack 20 = .ok (.dup, 1) := by decide +kernel
theorem dX4_payBack_21 : decode cX4_payBack 21 = .ok (.ldc 112, 2) := by decide +kernel
theorem dX4_payBack_23 : decode cX4_payBack 23 = .ok (.invokespecial 41, 3) := by decide +kernel
theorem dX4_payBack_26 : decode cX4_payBack 26 = .ok (.athrow, 1) := by decide +kernel
theorem dX4_payBack_27 : decode cX4_payBack 27 = .ok (.aload_n 0, 1) := by decide +kernel
theorem dX4_payBack_28 : decode cX4_payBack 28 = .ok (.getfield 22, 3) := by decide +kernel
theorem dX4_payBack_31 : decode cX4_payBack 31 = .ok (.aload_n 0, 1) := by decide +kernel
theorem dX4_payBack_32 : decode cX4_payBack 32 = .ok (.getfield 10, 3) := by decide +kernel
theorem dX4_payBack_35 : decode cX4_payBack 35 = .ok (.invokevirtual 44, 3) := by decide +kernel
theorem dX4_payBack_38 : decode cX4_payBack 38 = .ok (.aload_n 0, 1) := by decide +kernel
theorem dX4_payBack_39 : decode cX4_payBack 39 = .ok (.getfield 10, 3) := by decide +kernel
theorem dX4_payBack_42 : decode cX4_payBack 42 = .ok (.aload_n 3, 1) := by decide +kernel
theorem dX4_payBack_43 : decode cX4_payBack 43 = .ok (.iload_n 2, 1) := by decide +kernel
theorem dX4_payBack_44 : decode cX4_payBack 44 = .ok (.invokevirtual 114, 3) := by decide +kernel
theorem dX4_payBack_47 : decode cX4_payBack 47 = .ok (.ireturn, 1) := by decide +kernel
set_option maxRecDepth 20000 in
theorem ggX4_help_X4_memberOrThrow : GoodIn wsX4_help wsX4_memberOrThrow := goodIn_ca (goodIn_r _ [9, 10, 11, 3, 12, 13, 14, 15, 16, 76, 77, 78, 79, 80, 81, 82, 83, 84, 85, 86, 87, 88, 89, 90, 91, 92, 93, 94, 95, 96, 97, 98, 99, 100, 101, 102, 103, 104, 105, 106] (by decide +kernel) (by decide +kernel)) (goodIn_sub (fun _ h => List.mem_cons_of_mem _ (List.mem_append_left _ (List.mem_append_right _ h))) (by decide +kernel))
set_option maxRecDepth 20000 in
theorem gX4_help_X4_memberOrThrow : GoodIn wsX4_help (wsV RX4 52 RX4 yX4_memberOrThrow wsX4_memberOrThrow) := goodIn_app (goodIn_of _ (by decide +kernel)) ggX4_help_X4_memberOrThrow
set_option maxRecDepth 20000 in
theorem ggX4_help_X4_checkMoney : GoodIn wsX4_help wsX4_checkMoney := goodIn_ca (goodIn_r _ [19, 20, 21] (by decide +kernel) (by decide +kernel)) (goodIn_sub (fun _ h => List.mem_cons_of_mem _ (List.mem_append_right _ h)) (by decide +kernel))
set_option maxRecDepth 20000 in
theorem gX4_help_X4_checkMoney : GoodIn wsX4_help (va_wsS RX4 105 yX4_checkMoney wsX4_checkMoney) := goodIn_app (goodIn_of _ (by decide +kernel)) ggX4_help_X4_checkMoney
set_option maxRecDepth 20000 in
theorem ggX4_help_X0_mayHelp : GoodIn wsX4_help wsX0_mayHelp := goodIn_r _ [24, 25, 26, 27, 80, 81, 82, 83, 84, 85, 86, 87, 88, 89, 90, 91, 92, 93, 94, 95, 96, 97, 98, 99, 100, 101, 102, 103, 104, 105, 106] (by decide +kernel) (by decide +kernel)
set_option maxRecDepth 20000 in
theorem gX4_help_X0_mayHelp_n118 : GoodIn wsX4_help (wsX0_mayHelp) := ggX4_help_X0_mayHelp
set_option maxRecDepth 20000 in
theorem ggX4_help_X1_keep : GoodIn wsX4_help wsX1_keep := goodIn_r _ [31, 32, 33, 34, 35, 36, 37, 38, 39, 13, 40, 41, 16, 27, 42, 43, 44, 45, 46, 47, 48, 25, 26, 49, 50, 51, 52, 53, 54, 55, 56, 57, 58, 59, 60, 61, 62, 63, 64, 65, 66, 67, 68, 69, 70, 71, 72, 107, 108, 109, 80, 81, 82, 83, 84, 85, 86, 87, 88, 89, 90, 91, 92, 93, 94, 95, 96, 97, 98, 99, 100, 101, 102, 103, 104, 105, 106] (by decide +kernel) (by decide +kernel)
set_option maxRecDepth 20000 in
theorem gX4_help_X1_keep_n44 : GoodIn wsX4_help (wsX1_keep) := ggX4_help_X1_keep
set_option maxRecDepth 20000 in
theorem ggX4_help_X0_grantHelp : GoodIn wsX4_help wsX0_grantHelp := goodIn_r _ [75, 26, 80, 81, 82, 83, 84, 85, 86, 87, 88, 89, 90, 91, 92, 93, 94, 95, 96, 97, 98, 99, 100, 101, 102, 103, 104, 105, 106] (by decide +kernel) (by decide +kernel)
set_option maxRecDepth 20000 in
theorem gX4_help_X0_grantHelp_n124 : GoodIn wsX4_help (wsX0_grantHelp) := ggX4_help_X0_grantHelp
theorem dX4_help_0 : decode cX4_help 0 = .ok (.aload_n 0, 1) := by decide +kernel
theorem dX4_help_1 : decode cX4_help 1 = .ok (.iload_n 1, 1) := by decide +kernel
theorem dX4_help_2 : decode cX4_help 2 = .ok (.invokevirtual 52, 3) := by decide +kernel
theorem dX4_help_5 : decode cX4_help 5 = .ok (.astore_n 3, 1) := by decide +kernel
theorem dX4_help_6 : decode cX4_help 6 = .ok (.iload_n 2, 1) := by decide +kernel
theorem dX4_help_7 : decode cX4_help 7 = .ok (.invokestatic 105, 3) := by decide +kernel
theorem dX4_help_10 : decode cX4_help 10 = .ok (.aload_n 0, 1) := by decide +kernel
theorem dX4_help_11 : decode cX4_help 11 = .ok (.getfield 10, 3) := by decide +kernel
theorem dX4_help_14 : decode cX4_help 14 = .ok (.aload_n 3, 1) := by decide +kernel
theorem dX4_help_15 : decode cX4_help 15 = .ok (.iload_n 2, 1) := by decide +kernel
theorem dX4_help_16 : decode cX4_help 16 = .ok (.invokevirtual 118, 3) := by decide +kernel
theorem dX4_help_19 : decode cX4_help 19 = .ok (.ifCond .ne 13, 3) := by decide +kernel
theorem dX4_help_22 : decode cX4_help 22 = .ok (.new 37, 3) := by decide +kernel
theorem dX4_help_25 : decode cX4_help 25 = .ok (.dup, 1) := by decide +kernel
theorem dX4_help_26 : decode cX4_help 26 = .ok (.ldc 122, 2) := by decide +kernel
theorem dX4_help_28 : decode cX4_help 28 = .ok (.invokespecial 41, 3) := by decide +kernel
theorem dX4_help_31 : decode cX4_help 31 = .ok (.athrow, 1) := by decide +kernel
theorem dX4_help_32 : decode cX4_help 32 = .ok (.aload_n 0, 1) := by decide +kernel
theorem dX4_help_33 : decode cX4_help 33 = .ok (.getfield 22, 3) := by decide +kernel
theorem dX4_help_36 : decode cX4_help 36 = .ok (.aload_n 0, 1) := by decide +kernel
theorem dX4_help_37 : decode cX4_help 37 = .ok (.getfield 10, 3) := by decide +kernel
theorem dX4_help_40 : decode cX4_help 40 = .ok (.invokevirtual 44, 3) := by decide +kernel
theorem dX4_help_43 : decode cX4_help 43 = .ok (.aload_n 0, 1) := by decide +kernel
theorem dX4_help_44 : decode cX4_help 44 = .ok (.getfield 10, 3) := by decide +kernel
theorem dX4_help_47 : decode cX4_help 47 = .ok (.aload_n 3, 1) := by decide +kernel
theorem dX4_help_48 : decode cX4_help 48 = .ok (.iload_n 2, 1) := by decide +kernel
theorem dX4_help_49 : decode cX4_help 49 = .ok (.invokevirtual 124, 3) := by decide +kernel
theorem dX4_help_52 : decode cX4_help 52 = .ok (.aload_n 0, 1) := by decide +kernel
theorem dX4_help_53 : decode cX4_help 53 = .ok (.getfield 10, 3) := by decide +kernel
theorem dX4_help_56 : decode cX4_help 56 = .ok (.getfield 128, 3) := by decide +kernel
theorem dX4_help_59 : decode cX4_help 59 = .ok (.ireturn, 1) := by decide +kernel
set_option maxRecDepth 20000 in
theorem ggX4_cycle_X0_mayBeginCycle : GoodIn wsX4_cycle wsX0_mayBeginCycle := goodIn_r _ [8, 9, 10, 11, 6, 12, 13, 14, 15, 16, 17, 18, 19, 20, 21, 84, 85, 86, 87, 88, 89, 90, 91, 92, 93, 94, 95, 96, 97, 98, 99, 100, 101, 102, 103, 104, 105, 106, 107, 108, 109, 110] (by decide +kernel) (by decide +kernel)
set_option maxRecDepth 20000 in
theorem gX4_cycle_X0_mayBeginCycle_n131 : GoodIn wsX4_cycle (wsX0_mayBeginCycle) := ggX4_cycle_X0_mayBeginCycle
set_option maxRecDepth 20000 in
theorem ggX4_cycle_X1_keep : GoodIn wsX4_cycle wsX1_keep := goodIn_r _ [25, 26, 27, 28, 29, 30, 31, 32, 33, 6, 34, 35, 13, 36, 37, 38, 39, 40, 41, 42, 43, 44, 45, 46, 47, 48, 49, 50, 51, 52, 53, 54, 55, 56, 57, 58, 59, 60, 61, 62, 63, 64, 65, 66, 67, 68, 69, 111, 112, 113, 84, 85, 86, 87, 88, 89, 90, 91, 92, 93, 94, 95, 96, 97, 98, 99, 100, 101, 102, 103, 104, 105, 106, 107, 108, 109, 110] (by decide +kernel) (by decide +kernel)
set_option maxRecDepth 20000 in
theorem gX4_cycle_X1_keep_n44 : GoodIn wsX4_cycle (wsX1_keep) := ggX4_cycle_X1_keep
set_option maxRecDepth 20000 in
theorem ggX4_cycle_X0_beginCycle : GoodIn wsX4_cycle wsX0_beginCycle := goodIn_r _ [72, 13, 43, 73, 51, 74, 75, 62, 55, 76, 77, 16, 78, 79, 15, 17, 84, 85, 86, 87, 88, 89, 90, 91, 92, 93, 94, 95, 96, 97, 98, 99, 100, 101, 102, 103, 104, 105, 106, 107, 108, 109, 110] (by decide +kernel) (by decide +kernel)
set_option maxRecDepth 20000 in
theorem gX4_cycle_X0_beginCycle_n136 : GoodIn wsX4_cycle (wsX0_beginCycle) := ggX4_cycle_X0_beginCycle
theorem dX4_cycle_0 : decode cX4_cycle 0 = .ok (.aload_n 0, 1) := by decide +kernel
theorem dX4_cycle_1 : decode cX4_cycle 1 = .ok (.getfield 10, 3) := by decide +kernel
theorem dX4_cycle_4 : decode cX4_cycle 4 = .ok (.invokevirtual 131, 3) := by decide +kernel
theorem dX4_cycle_7 : decode cX4_cycle 7 = .ok (.ifCond .ne 13, 3) := by decide +kernel
theorem dX4_cycle_10 : decode cX4_cycle 10 = .ok (.new 37, 3) := by decide +kernel
theorem dX4_cycle_13 : decode cX4_cycle 13 = .ok (.dup, 1) := by decide +kernel
theorem dX4_cycle_14 : decode cX4_cycle 14 = .ok (.ldc 134, 2) := by decide +kernel
theorem dX4_cycle_16 : decode cX4_cycle 16 = .ok (.invokespecial 41, 3) := by decide +kernel
theorem dX4_cycle_19 : decode cX4_cycle 19 = .ok (.athrow, 1) := by decide +kernel
theorem dX4_cycle_20 : decode cX4_cycle 20 = .ok (.aload_n 0, 1) := by decide +kernel
theorem dX4_cycle_21 : decode cX4_cycle 21 = .ok (.getfield 22, 3) := by decide +kernel
theorem dX4_cycle_24 : decode cX4_cycle 24 = .ok (.aload_n 0, 1) := by decide +kernel
theorem dX4_cycle_25 : decode cX4_cycle 25 = .ok (.getfield 10, 3) := by decide +kernel
theorem dX4_cycle_28 : decode cX4_cycle 28 = .ok (.invokevirtual 44, 3) := by decide +kernel
theorem dX4_cycle_31 : decode cX4_cycle 31 = .ok (.aload_n 0, 1) := by decide +kernel
theorem dX4_cycle_32 : decode cX4_cycle 32 = .ok (.getfield 10, 3) := by decide +kernel
theorem dX4_cycle_35 : decode cX4_cycle 35 = .ok (.invokevirtual 136, 3) := by decide +kernel
theorem dX4_cycle_38 : decode cX4_cycle 38 = .ok (.aload_n 0, 1) := by decide +kernel
theorem dX4_cycle_39 : decode cX4_cycle 39 = .ok (.getfield 10, 3) := by decide +kernel
theorem dX4_cycle_42 : decode cX4_cycle 42 = .ok (.getfield 139, 3) := by decide +kernel
theorem dX4_cycle_45 : decode cX4_cycle 45 = .ok (.ireturn, 1) := by decide +kernel
set_option maxRecDepth 20000 in
theorem ggX4_set_X4_checkSetting : GoodIn wsX4_set wsX4_checkSetting := goodIn_ca (goodIn_r _ [10, 11, 12] (by decide +kernel) (by decide +kernel)) (goodIn_sub (fun _ h => List.mem_cons_of_mem _ (List.mem_append_right _ h)) (by decide +kernel))
set_option maxRecDepth 20000 in
theorem gX4_set_X4_checkSetting : GoodIn wsX4_set (va_wsS RX4 142 yX4_checkSetting wsX4_checkSetting) := goodIn_app (goodIn_of _ (by decide +kernel)) ggX4_set_X4_checkSetting
set_option maxRecDepth 20000 in
theorem ggX4_set_X1_keep : GoodIn wsX4_set wsX1_keep := goodIn_r _ [16, 17, 18, 19, 20, 21, 22, 23, 24, 25, 26, 27, 28, 29, 30, 31, 32, 33, 34, 35, 36, 37, 38, 39, 40, 41, 42, 43, 44, 45, 46, 47, 48, 49, 50, 51, 52, 53, 54, 55, 56, 57, 58, 59, 60, 61, 62, 78, 79, 80, 67, 68, 69, 70, 71, 72, 73, 74, 75, 76, 77, 81, 82, 83, 84, 85, 86, 87, 88, 89, 90, 91, 92, 93, 94, 95, 96] (by decide +kernel) (by decide +kernel)
set_option maxRecDepth 20000 in
theorem gX4_set_X1_keep_n44 : GoodIn wsX4_set (wsX1_keep) := ggX4_set_X1_keep
theorem dX4_set_0 : decode cX4_set 0 = .ok (.iload_n 1, 1) := by decide +kernel
theorem dX4_set_1 : decode cX4_set 1 = .ok (.invokestatic 142, 3) := by decide +kernel
theorem dX4_set_4 : decode cX4_set 4 = .ok (.iload_n 2, 1) := by decide +kernel
theorem dX4_set_5 : decode cX4_set 5 = .ok (.getstatic 145, 3) := by decide +kernel
theorem dX4_set_8 : decode cX4_set 8 = .ok (.iload_n 1, 1) := by decide +kernel
theorem dX4_set_9 : decode cX4_set 9 = .ok (.iaload, 1) := by decide +kernel
theorem dX4_set_10 : decode cX4_set 10 = .ok (.if_icmp .lt 12, 3) := by decide +kernel
theorem dX4_set_13 : decode cX4_set 13 = .ok (.iload_n 2, 1) := by decide +kernel
theorem dX4_set_14 : decode cX4_set 14 = .ok (.getstatic 149, 3) := by decide +kernel
theorem dX4_set_17 : decode cX4_set 17 = .ok (.iload_n 1, 1) := by decide +kernel
theorem dX4_set_18 : decode cX4_set 18 = .ok (.iaload, 1) := by decide +kernel
theorem dX4_set_19 : decode cX4_set 19 = .ok (.if_icmp .le 13, 3) := by decide +kernel
theorem dX4_set_22 : decode cX4_set 22 = .ok (.new 66, 3) := by decide +kernel
theorem dX4_set_25 : decode cX4_set 25 = .ok (.dup, 1) := by decide +kernel
theorem dX4_set_26 : decode cX4_set 26 = .ok (.ldc 152, 2) := by decide +kernel
theorem dX4_set_28 : decode cX4_set 28 = .ok (.invokespecial 70, 3) := by decide +kernel
theorem dX4_set_31 : decode cX4_set 31 = .ok (.athrow, 1) := by decide +kernel
theorem dX4_set_32 : decode cX4_set 32 = .ok (.aload_n 0, 1) := by decide +kernel
theorem dX4_set_33 : decode cX4_set 33 = .ok (.getfield 22, 3) := by decide +kernel
theorem dX4_set_36 : decode cX4_set 36 = .ok (.aload_n 0, 1) := by decide +kernel
theorem dX4_set_37 : decode cX4_set 37 = .ok (.getfield 10, 3) := by decide +kernel
theorem dX4_set_40 : decode cX4_set 40 = .ok (.invokevirtual 44, 3) := by decide +kernel
theorem dX4_set_43 : decode cX4_set 43 = .ok (.aload_n 0, 1) := by decide +kernel
theorem dX4_set_44 : decode cX4_set 44 = .ok (.getfield 10, 3) := by decide +kernel
theorem dX4_set_47 : decode cX4_set 47 = .ok (.getfield 154, 3) := by decide +kernel
theorem dX4_set_50 : decode cX4_set 50 = .ok (.iload_n 1, 1) := by decide +kernel
theorem dX4_set_51 : decode cX4_set 51 = .ok (.iaload, 1) := by decide +kernel
theorem dX4_set_52 : decode cX4_set 52 = .ok (.istore_n 3, 1) := by decide +kernel
theorem dX4_set_53 : decode cX4_set 53 = .ok (.aload_n 0, 1) := by decide +kernel
theorem dX4_set_54 : decode cX4_set 54 = .ok (.getfield 10, 3) := by decide +kernel
theorem dX4_set_57 : decode cX4_set 57 = .ok (.getfield 154, 3) := by decide +kernel
theorem dX4_set_60 : decode cX4_set 60 = .ok (.iload_n 1, 1) := by decide +kernel
theorem dX4_set_61 : decode cX4_set 61 = .ok (.iload_n 2, 1) := by decide +kernel
theorem dX4_set_62 : decode cX4_set 62 = .ok (.iastore, 1) := by decide +kernel
theorem dX4_set_63 : decode cX4_set 63 = .ok (.iload_n 3, 1) := by decide +kernel
theorem dX4_set_64 : decode cX4_set 64 = .ok (.ireturn, 1) := by decide +kernel
set_option maxRecDepth 20000 in
theorem ggX4_undo_X1_takeBack : GoodIn wsX4_undo wsX1_takeBack := goodIn_r _ [8, 9, 10, 11, 12, 13, 14, 15, 16, 17, 18, 19, 20, 21, 22, 23, 24, 25, 26, 27, 28, 29, 30, 31, 32, 33, 34, 35, 36, 37, 38, 39, 40, 41, 42, 43, 44, 45, 46, 47, 48, 49, 50, 51, 52, 53, 54, 59, 60, 61, 62, 63, 64, 65, 66, 67, 68, 69, 70, 71, 72, 73, 74, 75, 76, 77, 78, 79, 80, 81, 82, 83, 84, 85, 86, 87, 88] (by decide +kernel) (by decide +kernel)
set_option maxRecDepth 20000 in
theorem gX4_undo_X1_takeBack_n197 : GoodIn wsX4_undo (wsX1_takeBack) := ggX4_undo_X1_takeBack
theorem dX4_undo_0 : decode cX4_undo 0 = .ok (.aload_n 0, 1) := by decide +kernel
theorem dX4_undo_1 : decode cX4_undo 1 = .ok (.getfield 22, 3) := by decide +kernel
theorem dX4_undo_4 : decode cX4_undo 4 = .ok (.getfield 192, 3) := by decide +kernel
theorem dX4_undo_7 : decode cX4_undo 7 = .ok (.ifCond .gt 13, 3) := by decide +kernel
theorem dX4_undo_10 : decode cX4_undo 10 = .ok (.new 37, 3) := by decide +kernel
theorem dX4_undo_13 : decode cX4_undo 13 = .ok (.dup, 1) := by decide +kernel
theorem dX4_undo_14 : decode cX4_undo 14 = .ok (.ldc 195, 2) := by decide +kernel
theorem dX4_undo_16 : decode cX4_undo 16 = .ok (.invokespecial 41, 3) := by decide +kernel
theorem dX4_undo_19 : decode cX4_undo 19 = .ok (.athrow, 1) := by decide +kernel
theorem dX4_undo_20 : decode cX4_undo 20 = .ok (.aload_n 0, 1) := by decide +kernel
theorem dX4_undo_21 : decode cX4_undo 21 = .ok (.getfield 22, 3) := by decide +kernel
theorem dX4_undo_24 : decode cX4_undo 24 = .ok (.aload_n 0, 1) := by decide +kernel
theorem dX4_undo_25 : decode cX4_undo 25 = .ok (.getfield 10, 3) := by decide +kernel
theorem dX4_undo_28 : decode cX4_undo 28 = .ok (.invokevirtual 197, 3) := by decide +kernel
theorem dX4_undo_31 : decode cX4_undo 31 = .ok (.aload_n 0, 1) := by decide +kernel
theorem dX4_undo_32 : decode cX4_undo 32 = .ok (.getfield 22, 3) := by decide +kernel
theorem dX4_undo_35 : decode cX4_undo 35 = .ok (.getfield 192, 3) := by decide +kernel
theorem dX4_undo_38 : decode cX4_undo 38 = .ok (.ireturn, 1) := by decide +kernel
set_option maxRecDepth 20000 in
theorem ggX4_member_X4_memberOrThrow : GoodIn wsX4_member wsX4_memberOrThrow := goodIn_ca (goodIn_r _ [7, 8, 9, 10, 11, 12, 13, 14, 15, 57, 58, 59, 60, 61, 62, 63, 64, 65, 66, 67, 68, 69, 70, 71, 72, 73, 74, 75, 76, 77, 78, 79, 80, 81, 82, 83, 84, 85, 86, 87] (by decide +kernel) (by decide +kernel)) (goodIn_sub (fun _ h => List.mem_cons_of_mem _ (List.mem_append_right _ h)) (by decide +kernel))
set_option maxRecDepth 20000 in
theorem gX4_member_X4_memberOrThrow : GoodIn wsX4_member (wsV RX4 52 RX4 yX4_memberOrThrow wsX4_memberOrThrow) := goodIn_app (goodIn_of _ (by decide +kernel)) ggX4_member_X4_memberOrThrow
set_option maxRecDepth 20000 in
theorem ggX4_member_X4_propertyOf : GoodIn wsX4_member wsX4_propertyOf := goodIn_r _ [19, 10, 20, 12, 21, 22, 15, 23, 24, 25, 26, 27, 28, 29, 30, 31, 32, 33, 34, 35, 36, 37, 38, 39, 40, 41, 42, 43, 44, 45, 46, 47, 48, 49, 50, 51, 52, 53, 54, 55, 56, 57, 58, 59, 60, 61, 62, 63, 64, 65, 66, 67, 68, 69, 70, 71, 72, 73, 74, 75, 76, 77, 78, 79, 80, 81, 82, 83, 84, 85, 86, 87] (by decide +kernel) (by decide +kernel)
set_option maxRecDepth 20000 in
theorem gX4_member_X4_propertyOf : GoodIn wsX4_member (wsV RX4 202 RX4 yX4_propertyOf wsX4_propertyOf) := goodIn_app (goodIn_of _ (by decide +kernel)) ggX4_member_X4_propertyOf
theorem dX4_member_0 : decode cX4_member 0 = .ok (.aload_n 0, 1) := by decide +kernel
theorem dX4_member_1 : decode cX4_member 1 = .ok (.iload_n 1, 1) := by decide +kernel
theorem dX4_member_2 : decode cX4_member 2 = .ok (.invokevirtual 52, 3) := by decide +kernel
theorem dX4_member_5 : decode cX4_member 5 = .ok (.astore_n 3, 1) := by decide +kernel
theorem dX4_member_6 : decode cX4_member 6 = .ok (.iload_n 2, 1) := by decide +kernel
theorem dX4_member_7 : decode cX4_member 7 = .ok (.ifCond .lt 9, 3) := by decide +kernel
theorem dX4_member_10 : decode cX4_member 10 = .ok (.iload_n 2, 1) := by decide +kernel
theorem dX4_member_11 : decode cX4_member 11 = .ok (.bipush 14, 2) := by decide +kernel
theorem dX4_member_13 : decode cX4_member 13 = .ok (.if_icmp .lt 13, 3) := by decide +kernel
theorem dX4_member_16 : decode cX4_member 16 = .ok (.new 66, 3) := by decide +kernel
theorem dX4_member_19 : decode cX4_member 19 = .ok (.dup, 1) := by decide +kernel
theorem dX4_member_20 : decode cX4_member 20 = .ok (.ldc 200, 2) := by decide +kernel
theorem dX4_member_22 : decode cX4_member 22 = .ok (.invokespecial 70, 3) := by decide +kernel
theorem dX4_member_25 : decode cX4_member 25 = .ok (.athrow, 1) := by decide +kernel
theorem dX4_member_26 : decode cX4_member 26 = .ok (.aload_n 0, 1) := by decide +kernel
theorem dX4_member_27 : decode cX4_member 27 = .ok (.aload_n 3, 1) := by decide +kernel
theorem dX4_member_28 : decode cX4_member 28 = .ok (.iload_n 2, 1) := by decide +kernel
theorem dX4_member_29 : decode cX4_member 29 = .ok (.invokevirtual 202, 3) := by decide +kernel
theorem dX4_member_32 : decode cX4_member 32 = .ok (.ireturn, 1) := by decide +kernel
set_option maxRecDepth 20000 in
theorem ggX4_owes_X4_memberOrThrow : GoodIn wsX4_owes wsX4_memberOrThrow := goodIn_ca (goodIn_r _ [5, 6, 7, 8, 9, 10, 11, 12, 13, 30, 31, 32, 33, 34, 35, 36, 37, 38, 39, 40, 41, 42, 43, 44, 14, 15, 16, 17, 18, 19, 20, 21, 22, 23, 24, 25, 26, 27, 28, 29] (by decide +kernel) (by decide +kernel)) (goodIn_sub (fun _ h => List.mem_cons_of_mem _ (List.mem_append_right _ h)) (by decide +kernel))
set_option maxRecDepth 20000 in
theorem gX4_owes_X4_memberOrThrow : GoodIn wsX4_owes (wsV RX4 52 RX4 yX4_memberOrThrow wsX4_memberOrThrow) := goodIn_app (goodIn_of _ (by decide +kernel)) ggX4_owes_X4_memberOrThrow
theorem dX4_owes_0 : decode cX4_owes 0 = .ok (.aload_n 0, 1) := by decide +kernel
theorem dX4_owes_1 : decode cX4_owes 1 = .ok (.iload_n 1, 1) := by decide +kernel
theorem dX4_owes_2 : decode cX4_owes 2 = .ok (.invokevirtual 52, 3) := by decide +kernel
theorem dX4_owes_5 : decode cX4_owes 5 = .ok (.astore_n 3, 1) := by decide +kernel
theorem dX4_owes_6 : decode cX4_owes 6 = .ok (.aload_n 0, 1) := by decide +kernel
theorem dX4_owes_7 : decode cX4_owes 7 = .ok (.iload_n 2, 1) := by decide +kernel
theorem dX4_owes_8 : decode cX4_owes 8 = .ok (.invokevirtual 52, 3) := by decide +kernel
theorem dX4_owes_11 : decode cX4_owes 11 = .ok (.astore 4, 2) := by decide +kernel
theorem dX4_owes_13 : decode cX4_owes 13 = .ok (.aload_n 3, 1) := by decide +kernel
theorem dX4_owes_14 : decode cX4_owes 14 = .ok (.getfield 205, 3) := by decide +kernel
theorem dX4_owes_17 : decode cX4_owes 17 = .ok (.aload 4, 2) := by decide +kernel
theorem dX4_owes_19 : decode cX4_owes 19 = .ok (.getfield 208, 3) := by decide +kernel
theorem dX4_owes_22 : decode cX4_owes 22 = .ok (.iaload, 1) := by decide +kernel
theorem dX4_owes_23 : decode cX4_owes 23 = .ok (.ireturn, 1) := by decide +kernel
set_option maxRecDepth 20000 in
theorem ggX4_count_X4_numberOf : GoodIn wsX4_count wsX4_numberOf := goodIn_r _ [7, 8, 9, 10, 11, 12, 13, 14, 15, 16, 17, 18, 19, 20, 21, 22, 23, 24, 25, 26, 27, 28, 29, 30, 31, 32, 33, 34, 35, 36, 37, 38, 39, 40, 41, 42, 43, 44, 45, 46, 47, 48, 49, 50, 51, 52, 53, 54, 55, 56, 57, 58, 59, 60, 61, 62, 63, 64, 65, 66, 67, 68, 69, 70, 71, 72, 73, 74, 75, 76, 77, 78, 79, 80, 81, 82, 83, 84, 85] (by decide +kernel) (by decide +kernel)
set_option maxRecDepth 20000 in
theorem gX4_count_X4_numberOf : GoodIn wsX4_count (wsV RX4 213 RX4 yX4_numberOf wsX4_numberOf) := goodIn_app (goodIn_of _ (by decide +kernel)) ggX4_count_X4_numberOf
theorem dX4_count_0 : decode cX4_count 0 = .ok (.iload_n 1, 1) := by decide +kernel
theorem dX4_count_1 : decode cX4_count 1 = .ok (.ifCond .lt 9, 3) := by decide +kernel
theorem dX4_count_4 : decode cX4_count 4 = .ok (.iload_n 1, 1) := by decide +kernel
theorem dX4_count_5 : decode cX4_count 5 = .ok (.bipush 16, 2) := by decide +kernel
theorem dX4_count_7 : decode cX4_count 7 = .ok (.if_icmp .lt 13, 3) := by decide +kernel
theorem dX4_count_10 : decode cX4_count 10 = .ok (.new 66, 3) := by decide +kernel
theorem dX4_count_13 : decode cX4_count 13 = .ok (.dup, 1) := by decide +kernel
theorem dX4_count_14 : decode cX4_count 14 = .ok (.ldc 211, 2) := by decide +kernel
theorem dX4_count_16 : decode cX4_count 16 = .ok (.invokespecial 70, 3) := by decide +kernel
theorem dX4_count_19 : decode cX4_count 19 = .ok (.athrow, 1) := by decide +kernel
theorem dX4_count_20 : decode cX4_count 20 = .ok (.aload_n 0, 1) := by decide +kernel
theorem dX4_count_21 : decode cX4_count 21 = .ok (.iload_n 1, 1) := by decide +kernel
theorem dX4_count_22 : decode cX4_count 22 = .ok (.invokevirtual 213, 3) := by decide +kernel
theorem dX4_count_25 : decode cX4_count 25 = .ok (.ireturn, 1) := by decide +kernel
set_option maxRecDepth 20000 in
theorem ggX4_ifAbsent_X4_tryWeek : GoodIn wsX4_ifAbsent wsX4_tryWeek := goodIn_r _ [7, 8, 9, 10, 11, 12, 13, 14, 15, 16, 17, 18, 19, 20, 21, 22, 23, 24, 25, 26, 27, 28, 29, 30, 31, 32, 33, 34, 35, 36, 37, 38, 39, 40, 41, 42, 43, 44, 45, 46, 47, 48, 49, 50, 51, 52, 53, 54, 55, 56, 57, 58, 59, 60, 61, 62, 63, 64, 65, 66, 67, 68, 69, 70, 71, 72, 73, 74, 75, 76, 77, 78, 79, 80, 81, 82, 83, 84, 85, 86, 87, 88, 89, 90, 91, 92, 93, 94, 95, 96, 97, 98, 99, 100, 101, 102, 103, 104, 105, 106, 107, 108, 109, 110, 111, 112, 113, 114, 115, 116, 133, 134, 135, 136, 137, 138, 139, 140, 141, 142, 143, 144, 145, 146, 147, 148, 149, 150, 151, 152, 153, 154, 155, 156, 157, 158, 159, 160, 161, 162, 163] (by decide +kernel) (by decide +kernel)
set_option maxRecDepth 20000 in
theorem gX4_ifAbsent_X4_tryWeek : GoodIn wsX4_ifAbsent (wsV RX4 219 RX4 yX4_tryWeek wsX4_tryWeek) := goodIn_app (goodIn_of _ (by decide +kernel)) ggX4_ifAbsent_X4_tryWeek
set_option maxRecDepth 20000 in
theorem ggX4_ifAbsent_X4_outcome : GoodIn wsX4_ifAbsent wsX4_outcome := goodIn_r _ [120, 8, 9, 121, 11, 122, 123, 14, 124, 125, 126, 113, 30, 114, 115, 47, 127, 128, 129, 130, 131, 76, 132, 133, 134, 135, 136, 137, 138, 139, 140, 141, 142, 143, 144, 145, 146, 147, 148, 149, 150, 151, 152, 153, 154, 155, 156, 157, 158, 159, 160, 161, 162, 163] (by decide +kernel) (by decide +kernel)
set_option maxRecDepth 20000 in
theorem gX4_ifAbsent_X4_outcome : GoodIn wsX4_ifAbsent (wsV RX4 222 RX4 yX4_outcome wsX4_outcome) := goodIn_app (goodIn_of _ (by decide +kernel)) ggX4_ifAbsent_X4_outcome
theorem dX4_ifAbsent_0 : decode cX4_ifAbsent 0 = .ok (.iload_n 1, 1) := by decide +kernel
theorem dX4_ifAbsent_1 : decode cX4_ifAbsent 1 = .ok (.ifCond .lt 19, 3) := by decide +kernel
theorem dX4_ifAbsent_4 : decode cX4_ifAbsent 4 = .ok (.iload_n 1, 1) := by decide +kernel
theorem dX4_ifAbsent_5 : decode cX4_ifAbsent 5 = .ok (.sipush 255, 3) := by decide +kernel
theorem dX4_ifAbsent_8 : decode cX4_ifAbsent 8 = .ok (.if_icmp .gt 12, 3) := by decide +kernel
theorem dX4_ifAbsent_11 : decode cX4_ifAbsent 11 = .ok (.iload_n 2, 1) := by decide +kernel
theorem dX4_ifAbsent_12 : decode cX4_ifAbsent 12 = .ok (.ifCond .lt 8, 3) := by decide +kernel
theorem dX4_ifAbsent_15 : decode cX4_ifAbsent 15 = .ok (.iload_n 2, 1) := by decide +kernel
theorem dX4_ifAbsent_16 : decode cX4_ifAbsent 16 = .ok (.iconst 5, 1) := by decide +kernel
theorem dX4_ifAbsent_17 : decode cX4_ifAbsent 17 = .ok (.if_icmp .lt 13, 3) := by decide +kernel
theorem dX4_ifAbsent_20 : decode cX4_ifAbsent 20 = .ok (.new 66, 3) := by decide +kernel
theorem dX4_ifAbsent_23 : decode cX4_ifAbsent 23 = .ok (.dup, 1) := by decide +kernel
theorem dX4_ifAbsent_24 : decode cX4_ifAbsent 24 = .ok (.ldc 217, 2) := by decide +kernel
theorem dX4_ifAbsent_26 : decode cX4_ifAbsent 26 = .ok (.invokespecial 70, 3) := by decide +kernel
theorem dX4_ifAbsent_29 : decode cX4_ifAbsent 29 = .ok (.athrow, 1) := by decide +kernel
theorem dX4_ifAbsent_30 : decode cX4_ifAbsent 30 = .ok (.aload_n 0, 1) := by decide +kernel
theorem dX4_ifAbsent_31 : decode cX4_ifAbsent 31 = .ok (.iload_n 1, 1) := by decide +kernel
theorem dX4_ifAbsent_32 : decode cX4_ifAbsent 32 = .ok (.invokevirtual 219, 3) := by decide +kernel
theorem dX4_ifAbsent_35 : decode cX4_ifAbsent 35 = .ok (.aload_n 0, 1) := by decide +kernel
theorem dX4_ifAbsent_36 : decode cX4_ifAbsent 36 = .ok (.iload_n 2, 1) := by decide +kernel
theorem dX4_ifAbsent_37 : decode cX4_ifAbsent 37 = .ok (.invokevirtual 222, 3) := by decide +kernel
theorem dX4_ifAbsent_40 : decode cX4_ifAbsent 40 = .ok (.ireturn, 1) := by decide +kernel
set_option maxRecDepth 20000 in
theorem ggX4_fundLasts_X4_memberOrThrow : GoodIn wsX4_fundLasts wsX4_memberOrThrow := goodIn_ca (goodIn_r _ [6, 7, 8, 1, 9, 10, 11, 12, 13, 23, 24, 25, 26, 27, 28, 29, 30, 31, 32, 33, 34, 35, 36, 37, 38, 39, 40, 41, 42, 43, 44, 45, 46, 47, 48, 49, 50, 51, 52, 53] (by decide +kernel) (by decide +kernel)) (goodIn_sub (fun _ h => List.mem_cons_of_mem _ (List.mem_append_right _ h)) (by decide +kernel))
set_option maxRecDepth 20000 in
theorem gX4_fundLasts_X4_memberOrThrow : GoodIn wsX4_fundLasts (wsV RX4 52 RX4 yX4_memberOrThrow wsX4_memberOrThrow) := goodIn_app (goodIn_of _ (by decide +kernel)) ggX4_fundLasts_X4_memberOrThrow
set_option maxRecDepth 20000 in
theorem ggX4_fundLasts_X0_weeksOfFund : GoodIn wsX4_fundLasts wsX0_weeksOfFund := goodIn_r _ [16, 17, 18, 19, 20, 21, 10, 22, 13, 27, 28, 29, 30, 31, 32, 33, 34, 35, 36, 37, 38, 39, 40, 41, 42, 43, 44, 45, 46, 47, 48, 49, 50, 51, 52, 53] (by decide +kernel) (by decide +kernel)
set_option maxRecDepth 20000 in
theorem gX4_fundLasts_X0_weeksOfFund_n225 : GoodIn wsX4_fundLasts (wsX0_weeksOfFund) := ggX4_fundLasts_X0_weeksOfFund
theorem dX4_fundLasts_0 : decode cX4_fundLasts 0 = .ok (.aload_n 0, 1) := by decide +kernel
theorem dX4_fundLasts_1 : decode cX4_fundLasts 1 = .ok (.getfield 10, 3) := by decide +kernel
theorem dX4_fundLasts_4 : decode cX4_fundLasts 4 = .ok (.aload_n 0, 1) := by decide +kernel
theorem dX4_fundLasts_5 : decode cX4_fundLasts 5 = .ok (.iload_n 1, 1) := by decide +kernel
theorem dX4_fundLasts_6 : decode cX4_fundLasts 6 = .ok (.invokevirtual 52, 3) := by decide +kernel
theorem dX4_fundLasts_9 : decode cX4_fundLasts 9 = .ok (.invokevirtual 225, 3) := by decide +kernel
theorem dX4_fundLasts_12 : decode cX4_fundLasts 12 = .ok (.ireturn, 1) := by decide +kernel
set_option maxRecDepth 20000 in
theorem ggX4_weakest_X0_weakestNumber : GoodIn wsX4_weakest wsX0_weakestNumber := goodIn_r _ [5, 6, 7, 8, 9, 10, 3, 11, 12, 13, 14, 15, 16, 17, 18, 19, 20, 21, 22, 23, 24, 25, 26, 27, 32, 33, 34, 35, 36, 37, 38, 39, 40, 41, 42, 43, 44, 45, 46, 47, 48, 49, 50, 51, 52, 53, 54, 55, 56, 57, 58] (by decide +kernel) (by decide +kernel)
set_option maxRecDepth 20000 in
theorem gX4_weakest_X0_weakestNumber_n228 : GoodIn wsX4_weakest (wsX0_weakestNumber) := ggX4_weakest_X0_weakestNumber
theorem dX4_weakest_0 : decode cX4_weakest 0 = .ok (.aload_n 0, 1) := by decide +kernel
theorem dX4_weakest_1 : decode cX4_weakest 1 = .ok (.getfield 10, 3) := by decide +kernel
theorem dX4_weakest_4 : decode cX4_weakest 4 = .ok (.invokevirtual 228, 3) := by decide +kernel
theorem dX4_weakest_7 : decode cX4_weakest 7 = .ok (.ireturn, 1) := by decide +kernel
set_option maxRecDepth 20000 in
theorem ggX4_weeksToGo_X0_mostLoanWeeks : GoodIn wsX4_weeksToGo wsX0_mostLoanWeeks := goodIn_r _ [5, 6, 7, 8, 9, 10, 15, 16, 17, 18, 19, 20, 21, 22, 23, 24, 25, 26, 27, 28, 29, 30, 31, 32, 33, 34, 35, 36, 37, 38, 39, 40, 41] (by decide +kernel) (by decide +kernel)
set_option maxRecDepth 20000 in
theorem gX4_weeksToGo_X0_mostLoanWeeks_n231 : GoodIn wsX4_weeksToGo (wsX0_mostLoanWeeks) := ggX4_weeksToGo_X0_mostLoanWeeks
theorem dX4_weeksToGo_0 : decode cX4_weeksToGo 0 = .ok (.aload_n 0, 1) := by decide +kernel
theorem dX4_weeksToGo_1 : decode cX4_weeksToGo 1 = .ok (.getfield 10, 3) := by decide +kernel
theorem dX4_weeksToGo_4 : decode cX4_weeksToGo 4 = .ok (.invokevirtual 231, 3) := by decide +kernel
theorem dX4_weeksToGo_7 : decode cX4_weeksToGo 7 = .ok (.ireturn, 1) := by decide +kernel
set_option maxRecDepth 20000 in
theorem ggX4_ifCycle_X4_memberOrThrow : GoodIn wsX4_ifCycle wsX4_memberOrThrow := goodIn_ca (goodIn_r _ [5, 6, 7, 8, 9, 10, 11, 12, 13, 27, 28, 29, 30, 31, 32, 33, 34, 35, 36, 37, 38, 39, 40, 41, 42, 43, 44, 45, 46, 47, 48, 49, 50, 51, 52, 53, 54, 55, 56, 57] (by decide +kernel) (by decide +kernel)) (goodIn_sub (fun _ h => List.mem_cons_of_mem _ (List.mem_append_right _ h)) (by decide +kernel))
set_option maxRecDepth 20000 in
theorem gX4_ifCycle_X4_memberOrThrow : GoodIn wsX4_ifCycle (wsV RX4 52 RX4 yX4_memberOrThrow wsX4_memberOrThrow) := goodIn_app (goodIn_of _ (by decide +kernel)) ggX4_ifCycle_X4_memberOrThrow
set_option maxRecDepth 20000 in
theorem ggX4_ifCycle_X2_nextLimit : GoodIn wsX4_ifCycle wsX2_nextLimit := goodIn_r _ [17, 18, 19, 20, 21, 22, 23, 24, 25, 26, 42, 43, 44, 45, 46, 47, 48, 49, 50, 51, 52, 53, 54, 55, 56, 57] (by decide +kernel) (by decide +kernel)
set_option maxRecDepth 20000 in
theorem gX4_ifCycle_X2_nextLimit_n234 : GoodIn wsX4_ifCycle (wsX2_nextLimit) := ggX4_ifCycle_X2_nextLimit
theorem dX4_ifCycle_0 : decode cX4_ifCycle 0 = .ok (.aload_n 0, 1) := by decide +kernel
theorem dX4_ifCycle_1 : decode cX4_ifCycle 1 = .ok (.iload_n 1, 1) := by decide +kernel
theorem dX4_ifCycle_2 : decode cX4_ifCycle 2 = .ok (.invokevirtual 52, 3) := by decide +kernel
theorem dX4_ifCycle_5 : decode cX4_ifCycle 5 = .ok (.invokevirtual 234, 3) := by decide +kernel
theorem dX4_ifCycle_8 : decode cX4_ifCycle 8 = .ok (.ireturn, 1) := by decide +kernel
set_option maxRecDepth 20000 in
theorem ggX4_paidShare_X0_shareOfPaid : GoodIn wsX4_paidShare wsX0_shareOfPaid := goodIn_r _ [5, 6, 7, 8, 13, 14, 15, 16, 17, 18, 19, 20, 21, 22, 23] (by decide +kernel) (by decide +kernel)
set_option maxRecDepth 20000 in
theorem gX4_paidShare_X0_shareOfPaid_n237 : GoodIn wsX4_paidShare (wsX0_shareOfPaid) := ggX4_paidShare_X0_shareOfPaid
theorem dX4_paidShare_0 : decode cX4_paidShare 0 = .ok (.aload_n 0, 1) := by decide +kernel
theorem dX4_paidShare_1 : decode cX4_paidShare 1 = .ok (.getfield 10, 3) := by decide +kernel
theorem dX4_paidShare_4 : decode cX4_paidShare 4 = .ok (.invokevirtual 237, 3) := by decide +kernel
theorem dX4_paidShare_7 : decode cX4_paidShare 7 = .ok (.dreturn, 1) := by decide +kernel
set_option maxRecDepth 20000 in
theorem ggX4_memberOrThrow_X0_find : GoodIn wsX4_memberOrThrow wsX0_find := goodIn_r _ [7, 8, 13, 14, 15, 16, 17, 18, 19, 20, 21, 22, 23, 24, 25, 26, 27, 28, 29, 30, 31, 32, 33, 34, 35, 36, 37, 38, 39] (by decide +kernel) (by decide +kernel)
set_option maxRecDepth 20000 in
theorem gX4_memberOrThrow_X0_find_n270 : GoodIn wsX4_memberOrThrow (wsX0_find) := ggX4_memberOrThrow_X0_find
theorem dX4_memberOrThrow_0 : decode cX4_memberOrThrow 0 = .ok (.aload_n 0, 1) := by decide +kernel
theorem dX4_memberOrThrow_1 : decode cX4_memberOrThrow 1 = .ok (.getfield 10, 3) := by decide +kernel
theorem dX4_memberOrThrow_4 : decode cX4_memberOrThrow 4 = .ok (.iload_n 1, 1) := by decide +kernel
theorem dX4_memberOrThrow_5 : decode cX4_memberOrThrow 5 = .ok (.invokevirtual 270, 3) := by decide +kernel
theorem dX4_memberOrThrow_8 : decode cX4_memberOrThrow 8 = .ok (.astore_n 2, 1) := by decide +kernel
theorem dX4_memberOrThrow_9 : decode cX4_memberOrThrow 9 = .ok (.aload_n 2, 1) := by decide +kernel
theorem dX4_memberOrThrow_10 : decode cX4_memberOrThrow 10 = .ok (.ifnonnull 14, 3) := by decide +kernel
theorem dX4_memberOrThrow_13 : decode cX4_memberOrThrow 13 = .ok (.new 273, 3) := by decide +kernel
theorem dX4_memberOrThrow_16 : decode cX4_memberOrThrow 16 = .ok (.dup, 1) := by decide +kernel
theorem dX4_memberOrThrow_17 : decode cX4_memberOrThrow 17 = .ok (.ldc_w 275, 3) := by decide +kernel
theorem dX4_memberOrThrow_20 : decode cX4_memberOrThrow 20 = .ok (.invokespecial 277, 3) := by decide +kernel
theorem dX4_memberOrThrow_23 : decode cX4_memberOrThrow 23 = .ok (.athrow, 1) := by decide +kernel
theorem dX4_memberOrThrow_24 : decode cX4_memberOrThrow 24 = .ok (.aload_n 2, 1) := by decide +kernel
theorem dX4_memberOrThrow_25 : decode cX4_memberOrThrow 25 = .ok (.areturn, 1) := by decide +kernel
theorem dX4_checkSetting_0 : decode cX4_checkSetting 0 = .ok (.iload_n 0, 1) := by decide +kernel
theorem dX4_checkSetting_1 : decode cX4_checkSetting 1 = .ok (.ifCond .lt 8, 3) := by decide +kernel
theorem dX4_checkSetting_4 : decode cX4_checkSetting 4 = .ok (.iload_n 0, 1) := by decide +kernel
theorem dX4_checkSetting_5 : decode cX4_checkSetting 5 = .ok (.iconst 4, 1) := by decide +kernel
theorem dX4_checkSetting_6 : decode cX4_checkSetting 6 = .ok (.if_icmp .lt 14, 3) := by decide +kernel
theorem dX4_checkSetting_9 : decode cX4_checkSetting 9 = .ok (.new 273, 3) := by decide +kernel
theorem dX4_checkSetting_12 : decode cX4_checkSetting 12 = .ok (.dup, 1) := by decide +kernel
theorem dX4_checkSetting_13 : decode cX4_checkSetting 13 = .ok (.ldc_w 278, 3) := by decide +kernel
theorem dX4_checkSetting_16 : decode cX4_checkSetting 16 = .ok (.invokespecial 277, 3) := by decide +kernel
theorem dX4_checkSetting_19 : decode cX4_checkSetting 19 = .ok (.athrow, 1) := by decide +kernel
theorem dX4_checkSetting_20 : decode cX4_checkSetting 20 = .ok (.return_, 1) := by decide +kernel
theorem dX4_checkMoney_0 : decode cX4_checkMoney 0 = .ok (.iload_n 0, 1) := by decide +kernel
theorem dX4_checkMoney_1 : decode cX4_checkMoney 1 = .ok (.iconst 1, 1) := by decide +kernel
theorem dX4_checkMoney_2 : decode cX4_checkMoney 2 = .ok (.if_icmp .lt 10, 3) := by decide +kernel
theorem dX4_checkMoney_5 : decode cX4_checkMoney 5 = .ok (.iload_n 0, 1) := by decide +kernel
theorem dX4_checkMoney_6 : decode cX4_checkMoney 6 = .ok (.sipush 2000, 3) := by decide +kernel
theorem dX4_checkMoney_9 : decode cX4_checkMoney 9 = .ok (.if_icmp .le 14, 3) := by decide +kernel
theorem dX4_checkMoney_12 : decode cX4_checkMoney 12 = .ok (.new 66, 3) := by decide +kernel
theorem dX4_checkMoney_15 : decode cX4_checkMoney 15 = .ok (.dup, 1) := by decide +kernel
theorem dX4_checkMoney_16 : decode cX4_checkMoney 16 = .ok (.ldc_w 280, 3) := by decide +kernel
theorem dX4_checkMoney_19 : decode cX4_checkMoney 19 = .ok (.invokespecial 70, 3) := by decide +kernel
theorem dX4_checkMoney_22 : decode cX4_checkMoney 22 = .ok (.athrow, 1) := by decide +kernel
theorem dX4_checkMoney_23 : decode cX4_checkMoney 23 = .ok (.return_, 1) := by decide +kernel
set_option maxRecDepth 20000 in
theorem ggX4_propertyOf_X0_owedTo : GoodIn wsX4_propertyOf wsX0_owedTo := goodIn_r _ [5, 6, 45, 46, 47, 48, 49, 50, 51, 52, 53, 54, 55, 56, 57, 58, 59, 60, 61, 62, 63, 64, 65, 66, 67, 68, 69, 70, 71] (by decide +kernel) (by decide +kernel)
set_option maxRecDepth 20000 in
theorem gX4_propertyOf_X0_owedTo_n282 : GoodIn wsX4_propertyOf (wsX0_owedTo) := ggX4_propertyOf_X0_owedTo
set_option maxRecDepth 20000 in
theorem ggX4_propertyOf_X2_property : GoodIn wsX4_propertyOf wsX2_property := goodIn_r _ [10, 11, 12, 13, 14, 15, 16, 17, 18, 19, 20, 21, 22, 23, 24, 8, 25, 26, 27, 28, 29, 30, 31, 32, 33, 34, 35, 36, 37, 38, 39, 40, 56, 57, 58, 59, 60, 61, 62, 63, 64, 65, 66, 67, 68, 69, 70, 71] (by decide +kernel) (by decide +kernel)
set_option maxRecDepth 20000 in
theorem gX4_propertyOf_X2_property_n285 : GoodIn wsX4_propertyOf (wsX2_property) := ggX4_propertyOf_X2_property
theorem dX4_propertyOf_0 : decode cX4_propertyOf 0 = .ok (.iload_n 2, 1) := by decide +kernel
theorem dX4_propertyOf_1 : decode cX4_propertyOf 1 = .ok (.bipush 11, 2) := by decide +kernel
theorem dX4_propertyOf_3 : decode cX4_propertyOf 3 = .ok (.if_icmp .ne 14, 3) := by decide +kernel
theorem dX4_propertyOf_6 : decode cX4_propertyOf 6 = .ok (.aload_n 0, 1) := by decide +kernel
theorem dX4_propertyOf_7 : decode cX4_propertyOf 7 = .ok (.getfield 10, 3) := by decide +kernel
theorem dX4_propertyOf_10 : decode cX4_propertyOf 10 = .ok (.aload_n 1, 1) := by decide +kernel
theorem dX4_propertyOf_11 : decode cX4_propertyOf 11 = .ok (.invokevirtual 282, 3) := by decide +kernel
theorem dX4_propertyOf_14 : decode cX4_propertyOf 14 = .ok (.goto 8, 3) := by decide +kernel
theorem dX4_propertyOf_17 : decode cX4_propertyOf 17 = .ok (.aload_n 1, 1) := by decide +kernel
theorem dX4_propertyOf_18 : decode cX4_propertyOf 18 = .ok (.iload_n 2, 1) := by decide +kernel
theorem dX4_propertyOf_19 : decode cX4_propertyOf 19 = .ok (.invokevirtual 285, 3) := by decide +kernel
theorem dX4_propertyOf_22 : decode cX4_propertyOf 22 = .ok (.ireturn, 1) := by decide +kernel
set_option maxRecDepth 20000 in
theorem ggX4_numberOf_X0_figure : GoodIn wsX4_numberOf wsX0_figure := goodIn_r _ [6, 7, 8, 9, 10, 11, 12, 13, 14, 15, 16, 17, 4, 18, 19, 20, 21, 22, 23, 24, 25, 26, 27, 28, 29, 30, 31, 32, 33, 34, 35, 36, 37, 38, 39, 40, 41, 42, 43, 44, 52, 53, 54, 55, 56, 57, 58, 59, 60, 61, 62, 63, 64, 65, 66, 67, 68, 69, 70, 71, 72, 73, 74, 75, 76, 77, 78] (by decide +kernel) (by decide +kernel)
set_option maxRecDepth 20000 in
theorem gX4_numberOf_X0_figure_n288 : GoodIn wsX4_numberOf (wsX0_figure) := ggX4_numberOf_X0_figure
theorem dX4_numberOf_0 : decode cX4_numberOf 0 = .ok (.iload_n 1, 1) := by decide +kernel
theorem dX4_numberOf_1 : decode cX4_numberOf 1 = .ok (.bipush 15, 2) := by decide +kernel
theorem dX4_numberOf_3 : decode cX4_numberOf 3 = .ok (.if_icmp .ne 13, 3) := by decide +kernel
theorem dX4_numberOf_6 : decode cX4_numberOf 6 = .ok (.aload_n 0, 1) := by decide +kernel
theorem dX4_numberOf_7 : decode cX4_numberOf 7 = .ok (.getfield 22, 3) := by decide +kernel
theorem dX4_numberOf_10 : decode cX4_numberOf 10 = .ok (.getfield 192, 3) := by decide +kernel
theorem dX4_numberOf_13 : decode cX4_numberOf 13 = .ok (.goto 11, 3) := by decide +kernel
theorem dX4_numberOf_16 : decode cX4_numberOf 16 = .ok (.aload_n 0, 1) := by decide +kernel
theorem dX4_numberOf_17 : decode cX4_numberOf 17 = .ok (.getfield 10, 3) := by decide +kernel
theorem dX4_numberOf_20 : decode cX4_numberOf 20 = .ok (.iload_n 1, 1) := by decide +kernel
theorem dX4_numberOf_21 : decode cX4_numberOf 21 = .ok (.invokevirtual 288, 3) := by decide +kernel
theorem dX4_numberOf_24 : decode cX4_numberOf 24 = .ok (.ireturn, 1) := by decide +kernel
set_option maxRecDepth 20000 in
theorem ggX4_tryWeek_X0_copyFrom : GoodIn wsX4_tryWeek wsX0_copyFrom := goodIn_r _ [6, 7, 8, 9, 10, 11, 12, 13, 14, 15, 16, 17, 18, 19, 20, 21, 22, 23, 24, 25, 26, 27, 28, 29, 30, 31, 32, 33, 34, 35, 36, 37, 38, 39, 40, 41, 114, 115, 116, 117, 118, 119, 120, 121, 122, 123, 124, 125, 126, 127, 128, 129, 130, 131, 132, 133, 134, 135, 136, 137, 138, 139, 140] (by decide +kernel) (by decide +kernel)
set_option maxRecDepth 20000 in
theorem gX4_tryWeek_X0_copyFrom_n321 : GoodIn wsX4_tryWeek (wsX0_copyFrom) := ggX4_tryWeek_X0_copyFrom
set_option maxRecDepth 20000 in
theorem ggX4_tryWeek_X0_letBeAway : GoodIn wsX4_tryWeek wsX0_letBeAway := goodIn_r _ [44, 7, 114, 115, 116, 117, 118, 119, 120, 121, 122, 123, 124, 125, 126, 127, 128, 129, 130, 131, 132, 133, 134, 135, 136, 137, 138, 139, 140] (by decide +kernel) (by decide +kernel)
set_option maxRecDepth 20000 in
theorem gX4_tryWeek_X0_letBeAway_n324 : GoodIn wsX4_tryWeek (wsX0_letBeAway) := ggX4_tryWeek_X0_letBeAway
set_option maxRecDepth 20000 in
theorem ggX4_tryWeek_X0_endWeek : GoodIn wsX4_tryWeek wsX0_endWeek := goodIn_r _ [47, 7, 14, 8, 16, 48, 23, 49, 50, 32, 51, 52, 53, 4, 54, 19, 20, 55, 56, 57, 30, 58, 59, 60, 61, 62, 31, 29, 63, 64, 65, 66, 21, 17, 67, 68, 69, 70, 71, 72, 73, 74, 75, 76, 77, 78, 79, 80, 81, 82, 83, 84, 85, 28, 86, 87, 88, 89, 90, 91, 92, 93, 94, 95, 96, 97, 98, 99, 100, 101, 102, 103, 104, 36, 37, 105, 106, 107, 108, 40, 109, 42, 43, 44, 114, 115, 116, 117, 118, 119, 120, 121, 122, 123, 124, 125, 126, 127, 128, 129, 130, 131, 132, 133, 134, 135, 136, 137, 138, 139, 140] (by decide +kernel) (by decide +kernel)
set_option maxRecDepth 20000 in
theorem gX4_tryWeek_X0_endWeek_n102 : GoodIn wsX4_tryWeek (wsX0_endWeek) := ggX4_tryWeek_X0_endWeek
theorem dX4_tryWeek_0 : decode cX4_tryWeek 0 = .ok (.aload_n 0, 1) := by decide +kernel
theorem dX4_tryWeek_1 : decode cX4_tryWeek 1 = .ok (.getfield 16, 3) := by decide +kernel
theorem dX4_tryWeek_4 : decode cX4_tryWeek 4 = .ok (.aload_n 0, 1) := by decide +kernel
theorem dX4_tryWeek_5 : decode cX4_tryWeek 5 = .ok (.getfield 10, 3) := by decide +kernel
theorem dX4_tryWeek_8 : decode cX4_tryWeek 8 = .ok (.invokevirtual 321, 3) := by decide +kernel
theorem dX4_tryWeek_11 : decode cX4_tryWeek 11 = .ok (.aload_n 0, 1) := by decide +kernel
theorem dX4_tryWeek_12 : decode cX4_tryWeek 12 = .ok (.getfield 16, 3) := by decide +kernel
theorem dX4_tryWeek_15 : decode cX4_tryWeek 15 = .ok (.iload_n 1, 1) := by decide +kernel
theorem dX4_tryWeek_16 : decode cX4_tryWeek 16 = .ok (.invokevirtual 324, 3) := by decide +kernel
theorem dX4_tryWeek_19 : decode cX4_tryWeek 19 = .ok (.aload_n 0, 1) := by decide +kernel
theorem dX4_tryWeek_20 : decode cX4_tryWeek 20 = .ok (.getfield 16, 3) := by decide +kernel
theorem dX4_tryWeek_23 : decode cX4_tryWeek 23 = .ok (.invokevirtual 102, 3) := by decide +kernel
theorem dX4_tryWeek_26 : decode cX4_tryWeek 26 = .ok (.return_, 1) := by decide +kernel
set_option maxRecDepth 20000 in
theorem ggX4_outcome_X0_bankDebts : GoodIn wsX4_outcome wsX0_bankDebts := goodIn_r _ [6, 7, 27, 28, 29, 30, 31, 32, 33, 34, 35, 36, 37, 38, 39, 40, 41, 42, 43, 44, 45, 46, 47, 48, 49, 50, 51, 52, 53] (by decide +kernel) (by decide +kernel)
set_option maxRecDepth 20000 in
theorem gX4_outcome_X0_bankDebts_n327 : GoodIn wsX4_outcome (wsX0_bankDebts) := ggX4_outcome_X0_bankDebts
set_option maxRecDepth 20000 in
theorem ggX4_outcome_X0_debtsAmongMembers : GoodIn wsX4_outcome wsX0_debtsAmongMembers := goodIn_r _ [10, 7, 11, 12, 13, 14, 15, 27, 28, 29, 30, 31, 32, 33, 34, 35, 36, 37, 38, 39, 40, 41, 42, 43, 44, 45, 46, 47, 48, 49, 50, 51, 52, 53] (by decide +kernel) (by decide +kernel)
set_option maxRecDepth 20000 in
theorem gX4_outcome_X0_debtsAmongMembers_n330 : GoodIn wsX4_outcome (wsX0_debtsAmongMembers) := ggX4_outcome_X0_debtsAmongMembers
set_option maxRecDepth 20000 in
theorem ggX4_outcome_X0_mostPaidForOthersSince : GoodIn wsX4_outcome wsX0_mostPaidForOthersSince := goodIn_r _ [18, 7, 19, 20, 21, 22, 27, 28, 29, 30, 31, 32, 33, 34, 35, 36, 37, 38, 39, 40, 41, 42, 43, 44, 45, 46, 47, 48, 49, 50, 51, 52, 53] (by decide +kernel) (by decide +kernel)
set_option maxRecDepth 20000 in
theorem gX4_outcome_X0_mostPaidForOthersSince_n333 : GoodIn wsX4_outcome (wsX0_mostPaidForOthersSince) := ggX4_outcome_X0_mostPaidForOthersSince
theorem dX4_outcome_0 : decode cX4_outcome 0 = .ok (.iload_n 1, 1) := by decide +kernel
theorem dX4_outcome_1 : decode cX4_outcome 1 = .ok (.tableswitch 71 0 3 #[31, 47, 55, 63], 31) := by decide +kernel
theorem dX4_outcome_32 : decode cX4_outcome 32 = .ok (.aload_n 0, 1) := by decide +kernel
theorem dX4_outcome_33 : decode cX4_outcome 33 = .ok (.getfield 16, 3) := by decide +kernel
theorem dX4_outcome_36 : decode cX4_outcome 36 = .ok (.getfield 99, 3) := by decide +kernel
theorem dX4_outcome_39 : decode cX4_outcome 39 = .ok (.aload_n 0, 1) := by decide +kernel
theorem dX4_outcome_40 : decode cX4_outcome 40 = .ok (.getfield 10, 3) := by decide +kernel
theorem dX4_outcome_43 : decode cX4_outcome 43 = .ok (.getfield 99, 3) := by decide +kernel
theorem dX4_outcome_46 : decode cX4_outcome 46 = .ok (.isub, 1) := by decide +kernel
theorem dX4_outcome_47 : decode cX4_outcome 47 = .ok (.ireturn, 1) := by decide +kernel
theorem dX4_outcome_48 : decode cX4_outcome 48 = .ok (.aload_n 0, 1) := by decide +kernel
theorem dX4_outcome_49 : decode cX4_outcome 49 = .ok (.getfield 16, 3) := by decide +kernel
theorem dX4_outcome_52 : decode cX4_outcome 52 = .ok (.getfield 128, 3) := by decide +kernel
theorem dX4_outcome_55 : decode cX4_outcome 55 = .ok (.ireturn, 1) := by decide +kernel
theorem dX4_outcome_56 : decode cX4_outcome 56 = .ok (.aload_n 0, 1) := by decide +kernel
theorem dX4_outcome_57 : decode cX4_outcome 57 = .ok (.getfield 16, 3) := by decide +kernel
theorem dX4_outcome_60 : decode cX4_outcome 60 = .ok (.invokevirtual 327, 3) := by decide +kernel
theorem dX4_outcome_63 : decode cX4_outcome 63 = .ok (.ireturn, 1) := by decide +kernel
theorem dX4_outcome_64 : decode cX4_outcome 64 = .ok (.aload_n 0, 1) := by decide +kernel
theorem dX4_outcome_65 : decode cX4_outcome 65 = .ok (.getfield 16, 3) := by decide +kernel
theorem dX4_outcome_68 : decode cX4_outcome 68 = .ok (.invokevirtual 330, 3) := by decide +kernel
theorem dX4_outcome_71 : decode cX4_outcome 71 = .ok (.ireturn, 1) := by decide +kernel
theorem dX4_outcome_72 : decode cX4_outcome 72 = .ok (.aload_n 0, 1) := by decide +kernel
theorem dX4_outcome_73 : decode cX4_outcome 73 = .ok (.getfield 16, 3) := by decide +kernel
theorem dX4_outcome_76 : decode cX4_outcome 76 = .ok (.aload_n 0, 1) := by decide +kernel
theorem dX4_outcome_77 : decode cX4_outcome 77 = .ok (.getfield 10, 3) := by decide +kernel
theorem dX4_outcome_80 : decode cX4_outcome 80 = .ok (.invokevirtual 333, 3) := by decide +kernel
theorem dX4_outcome_83 : decode cX4_outcome 83 = .ok (.ireturn, 1) := by decide +kernel
theorem dJ9_floorMod_7cf53_0 : decode cJ9_floorMod_7cf53 0 = .ok (.iload_n 0, 1) := by decide +kernel
theorem dJ9_floorMod_7cf53_1 : decode cJ9_floorMod_7cf53 1 = .ok (.iload_n 1, 1) := by decide +kernel
theorem dJ9_floorMod_7cf53_2 : decode cJ9_floorMod_7cf53 2 = .ok (.irem, 1) := by decide +kernel
theorem dJ9_floorMod_7cf53_3 : decode cJ9_floorMod_7cf53 3 = .ok (.istore_n 2, 1) := by decide +kernel
theorem dJ9_floorMod_7cf53_4 : decode cJ9_floorMod_7cf53 4 = .ok (.iload_n 0, 1) := by decide +kernel
theorem dJ9_floorMod_7cf53_5 : decode cJ9_floorMod_7cf53 5 = .ok (.iload_n 1, 1) := by decide +kernel
theorem dJ9_floorMod_7cf53_6 : decode cJ9_floorMod_7cf53 6 = .ok (.ixor, 1) := by decide +kernel
theorem dJ9_floorMod_7cf53_7 : decode cJ9_floorMod_7cf53 7 = .ok (.ifCond .ge 11, 3) := by decide +kernel
theorem dJ9_floorMod_7cf53_10 : decode cJ9_floorMod_7cf53 10 = .ok (.iload_n 2, 1) := by decide +kernel
theorem dJ9_floorMod_7cf53_11 : decode cJ9_floorMod_7cf53 11 = .ok (.ifCond .eq 7, 3) := by decide +kernel
theorem dJ9_floorMod_7cf53_14 : decode cJ9_floorMod_7cf53 14 = .ok (.iload_n 2, 1) := by decide +kernel
theorem dJ9_floorMod_7cf53_15 : decode cJ9_floorMod_7cf53 15 = .ok (.iload_n 1, 1) := by decide +kernel
theorem dJ9_floorMod_7cf53_16 : decode cJ9_floorMod_7cf53 16 = .ok (.iadd, 1) := by decide +kernel
theorem dJ9_floorMod_7cf53_17 : decode cJ9_floorMod_7cf53 17 = .ok (.ireturn, 1) := by decide +kernel
theorem dJ9_floorMod_7cf53_18 : decode cJ9_floorMod_7cf53 18 = .ok (.iload_n 2, 1) := by decide +kernel
theorem dJ9_floorMod_7cf53_19 : decode cJ9_floorMod_7cf53 19 = .ok (.ireturn, 1) := by decide +kernel
theorem dJ9_max_7cf53_0 : decode cJ9_max_7cf53 0 = .ok (.iload_n 0, 1) := by decide +kernel
theorem dJ9_max_7cf53_1 : decode cJ9_max_7cf53 1 = .ok (.iload_n 1, 1) := by decide +kernel
theorem dJ9_max_7cf53_2 : decode cJ9_max_7cf53 2 = .ok (.if_icmp .lt 7, 3) := by decide +kernel
theorem dJ9_max_7cf53_5 : decode cJ9_max_7cf53 5 = .ok (.iload_n 0, 1) := by decide +kernel
theorem dJ9_max_7cf53_6 : decode cJ9_max_7cf53 6 = .ok (.goto 4, 3) := by decide +kernel
theorem dJ9_max_7cf53_9 : decode cJ9_max_7cf53 9 = .ok (.iload_n 1, 1) := by decide +kernel
theorem dJ9_max_7cf53_10 : decode cJ9_max_7cf53 10 = .ok (.ireturn, 1) := by decide +kernel
theorem dJ9_min_7cf53_0 : decode cJ9_min_7cf53 0 = .ok (.iload_n 0, 1) := by decide +kernel
theorem dJ9_min_7cf53_1 : decode cJ9_min_7cf53 1 = .ok (.iload_n 1, 1) := by decide +kernel
theorem dJ9_min_7cf53_2 : decode cJ9_min_7cf53 2 = .ok (.if_icmp .gt 7, 3) := by decide +kernel
theorem dJ9_min_7cf53_5 : decode cJ9_min_7cf53 5 = .ok (.iload_n 0, 1) := by decide +kernel
theorem dJ9_min_7cf53_6 : decode cJ9_min_7cf53 6 = .ok (.goto 4, 3) := by decide +kernel
theorem dJ9_min_7cf53_9 : decode cJ9_min_7cf53 9 = .ok (.iload_n 1, 1) := by decide +kernel
theorem dJ9_min_7cf53_10 : decode cJ9_min_7cf53 10 = .ok (.ireturn, 1) := by decide +kernel
abbrev vwCl : List vw_C := [(RX0, TX0, 11), (RX1, TX1, 3), (RX2, TX2, 16), (RX3, TX3, 7), (RX4, TX4, 4)]
