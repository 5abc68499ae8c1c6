theorem dX0_grantHelp_6 : decode cX0_grantHelp 6 = .ok (.isub, 1) := by decide +kernel
theorem dX0_grantHelp_7 : decode cX0_grantHelp 7 = .ok (.putfield 47, 3) := by decide +kernel
theorem dX0_grantHelp_10 : decode cX0_grantHelp 10 = .ok (.aload_n 1, 1) := by decide +kernel
theorem dX0_grantHelp_11 : decode cX0_grantHelp 11 = .ok (.dup, 1) := by decide +kernel
theorem dX0_grantHelp_12 : decode cX0_grantHelp 12 = .ok (.getfield 116, 3) := by decide +kernel
theorem dX0_grantHelp_15 : decode cX0_grantHelp 15 = .ok (.iload_n 2, 1) := by decide +kernel
theorem dX0_grantHelp_16 : decode cX0_grantHelp 16 = .ok (.iadd, 1) := by decide +kernel
theorem dX0_grantHelp_17 : decode cX0_grantHelp 17 = .ok (.putfield 116, 3) := by decide +kernel
theorem dX0_grantHelp_20 : decode cX0_grantHelp 20 = .ok (.return_, 1) := by decide +kernel
set_option maxRecDepth 20000 in
theorem ggX0_mayBeginCycle_X0_mostLoanWeeks : GoodIn wsX0_mayBeginCycle wsX0_mostLoanWeeks := goodIn_r _ [5, 6, 7, 8, 9, 10, 15, 16, 17, 18, 19, 20, 21, 22, 23, 24, 25, 26, 27, 28, 29, 30, 31, 32, 33, 34, 35, 36, 37, 38, 39, 40, 41] (by decide +kernel) (by decide +kernel)
set_option maxRecDepth 20000 in
theorem gX0_mayBeginCycle_X0_mostLoanWeeks : GoodIn wsX0_mayBeginCycle (wsV RX0 122 RX0 yX0_mostLoanWeeks wsX0_mostLoanWeeks) := goodIn_app (goodIn_of _ (by decide +kernel)) ggX0_mayBeginCycle_X0_mostLoanWeeks
set_option maxRecDepth 20000 in
theorem ggX0_mayBeginCycle_X0_bankDebts : GoodIn wsX0_mayBeginCycle wsX0_bankDebts := goodIn_r _ [14, 6, 15, 16, 17, 18, 19, 20, 21, 22, 23, 24, 25, 26, 27, 28, 29, 30, 31, 32, 33, 34, 35, 36, 37, 38, 39, 40, 41] (by decide +kernel) (by decide +kernel)
set_option maxRecDepth 20000 in
theorem gX0_mayBeginCycle_X0_bankDebts : GoodIn wsX0_mayBeginCycle (wsV RX0 125 RX0 yX0_bankDebts wsX0_bankDebts) := goodIn_app (goodIn_of _ (by decide +kernel)) ggX0_mayBeginCycle_X0_bankDebts
theorem dX0_mayBeginCycle_0 : decode cX0_mayBeginCycle 0 = .ok (.aload_n 0, 1) := by decide +kernel
theorem dX0_mayBeginCycle_1 : decode cX0_mayBeginCycle 1 = .ok (.invokevirtual 122, 3) := by decide +kernel
theorem dX0_mayBeginCycle_4 : decode cX0_mayBeginCycle 4 = .ok (.ifCond .ne 14, 3) := by decide +kernel
theorem dX0_mayBeginCycle_7 : decode cX0_mayBeginCycle 7 = .ok (.aload_n 0, 1) := by decide +kernel
theorem dX0_mayBeginCycle_8 : decode cX0_mayBeginCycle 8 = .ok (.invokevirtual 125, 3) := by decide +kernel
theorem dX0_mayBeginCycle_11 : decode cX0_mayBeginCycle 11 = .ok (.ifCond .ne 7, 3) := by decide +kernel
theorem dX0_mayBeginCycle_14 : decode cX0_mayBeginCycle 14 = .ok (.iconst 1, 1) := by decide +kernel
theorem dX0_mayBeginCycle_15 : decode cX0_mayBeginCycle 15 = .ok (.goto 4, 3) := by decide +kernel
theorem dX0_mayBeginCycle_18 : decode cX0_mayBeginCycle 18 = .ok (.iconst 0, 1) := by decide +kernel
theorem dX0_mayBeginCycle_19 : decode cX0_mayBeginCycle 19 = .ok (.ireturn, 1) := by decide +kernel
set_option maxRecDepth 20000 in
theorem ggX0_beginCycle_X2_nextLimit : GoodIn wsX0_beginCycle wsX2_nextLimit := goodIn_r _ [6, 7, 8, 9, 10, 11, 12, 13, 14, 15, 27, 28, 29, 30, 31, 32, 33, 34, 35, 36, 37, 38, 39, 40, 41, 42] (by decide +kernel) (by decide +kernel)
set_option maxRecDepth 20000 in
theorem gX0_beginCycle_X2_nextLimit_n128 : GoodIn wsX0_beginCycle (wsX2_nextLimit) := ggX0_beginCycle_X2_nextLimit
theorem dX0_beginCycle_0 : decode cX0_beginCycle 0 = .ok (.aload_n 0, 1) := by decide +kernel
theorem dX0_beginCycle_1 : decode cX0_beginCycle 1 = .ok (.getfield 11, 3) := by decide +kernel
theorem dX0_beginCycle_4 : decode cX0_beginCycle 4 = .ok (.astore_n 1, 1) := by decide +kernel
theorem dX0_beginCycle_5 : decode cX0_beginCycle 5 = .ok (.aload_n 1, 1) := by decide +kernel
theorem dX0_beginCycle_6 : decode cX0_beginCycle 6 = .ok (.arraylength, 1) := by decide +kernel
theorem dX0_beginCycle_7 : decode cX0_beginCycle 7 = .ok (.istore_n 2, 1) := by decide +kernel
theorem dX0_beginCycle_8 : decode cX0_beginCycle 8 = .ok (.iconst 0, 1) := by decide +kernel
theorem dX0_beginCycle_9 : decode cX0_beginCycle 9 = .ok (.istore_n 3, 1) := by decide +kernel
theorem dX0_beginCycle_10 : decode cX0_beginCycle 10 = .ok (.iload_n 3, 1) := by decide +kernel
theorem dX0_beginCycle_11 : decode cX0_beginCycle 11 = .ok (.iload_n 2, 1) := by decide +kernel
theorem dX0_beginCycle_12 : decode cX0_beginCycle 12 = .ok (.if_icmp .ge 30, 3) := by decide +kernel
theorem dX0_beginCycle_15 : decode cX0_beginCycle 15 = .ok (.aload_n 1, 1) := by decide +kernel
theorem dX0_beginCycle_16 : decode cX0_beginCycle 16 = .ok (.iload_n 3, 1) := by decide +kernel
theorem dX0_beginCycle_17 : decode cX0_beginCycle 17 = .ok (.aaload, 1) := by decide +kernel
theorem dX0_beginCycle_18 : decode cX0_beginCycle 18 = .ok (.astore 4, 2) := by decide +kernel
theorem dX0_beginCycle_20 : decode cX0_beginCycle 20 = .ok (.aload 4, 2) := by decide +kernel
theorem dX0_beginCycle_22 : decode cX0_beginCycle 22 = .ok (.aload 4, 2) := by decide +kernel
theorem dX0_beginCycle_24 : decode cX0_beginCycle 24 = .ok (.invokevirtual 128, 3) := by decide +kernel
theorem dX0_beginCycle_27 : decode cX0_beginCycle 27 = .ok (.putfield 73, 3) := by decide +kernel
theorem dX0_beginCycle_30 : decode cX0_beginCycle 30 = .ok (.aload 4, 2) := by decide +kernel
theorem dX0_beginCycle_32 : decode cX0_beginCycle 32 = .ok (.iconst 0, 1) := by decide +kernel
theorem dX0_beginCycle_33 : decode cX0_beginCycle 33 = .ok (.putfield 131, 3) := by decide +kernel
theorem dX0_beginCycle_36 : decode cX0_beginCycle 36 = .ok (.iinc 3 1, 3) := by decide +kernel
theorem dX0_beginCycle_39 : decode cX0_beginCycle 39 = .ok (.goto (-29), 3) := by decide +kernel
theorem dX0_beginCycle_42 : decode cX0_beginCycle 42 = .ok (.aload_n 0, 1) := by decide +kernel
theorem dX0_beginCycle_43 : decode cX0_beginCycle 43 = .ok (.dup, 1) := by decide +kernel
theorem dX0_beginCycle_44 : decode cX0_beginCycle 44 = .ok (.getfield 44, 3) := by decide +kernel
theorem dX0_beginCycle_47 : decode cX0_beginCycle 47 = .ok (.iconst 1, 1) := by decide +kernel
theorem dX0_beginCycle_48 : decode cX0_beginCycle 48 = .ok (.iadd, 1) := by decide +kernel
theorem dX0_beginCycle_49 : decode cX0_beginCycle 49 = .ok (.putfield 44, 3) := by decide +kernel
theorem dX0_beginCycle_52 : decode cX0_beginCycle 52 = .ok (.return_, 1) := by decide +kernel
theorem dX0_mayEndWeek_0 : decode cX0_mayEndWeek 0 = .ok (.aload_n 0, 1) := by decide +kernel
theorem dX0_mayEndWeek_1 : decode cX0_mayEndWeek 1 = .ok (.getfield 41, 3) := by decide +kernel
theorem dX0_mayEndWeek_4 : decode cX0_mayEndWeek 4 = .ok (.sipush 999, 3) := by decide +kernel
theorem dX0_mayEndWeek_7 : decode cX0_mayEndWeek 7 = .ok (.if_icmp .ge 7, 3) := by decide +kernel
theorem dX0_mayEndWeek_10 : decode cX0_mayEndWeek 10 = .ok (.iconst 1, 1) := by decide +kernel
theorem dX0_mayEndWeek_11 : decode cX0_mayEndWeek 11 = .ok (.goto 4, 3) := by decide +kernel
theorem dX0_mayEndWeek_14 : decode cX0_mayEndWeek 14 = .ok (.iconst 0, 1) := by decide +kernel
theorem dX0_mayEndWeek_15 : decode cX0_mayEndWeek 15 = .ok (.ireturn, 1) := by decide +kernel
set_option maxRecDepth 20000 in
theorem ggX0_endWeek_X2_hasLoan : GoodIn wsX0_endWeek wsX2_hasLoan := goodIn_r _ [8, 9, 95, 96, 97, 98, 99, 100, 101, 102, 103, 104, 105, 106, 107, 108, 109, 110] (by decide +kernel) (by decide +kernel)
set_option maxRecDepth 20000 in
theorem gX0_endWeek_X2_hasLoan_n76 : GoodIn wsX0_endWeek (wsX2_hasLoan) := ggX0_endWeek_X2_hasLoan
set_option maxRecDepth 20000 in
theorem ggX0_endWeek_X0_settleDue : GoodIn wsX0_endWeek wsX0_settleDue := goodIn_r _ [14, 15, 16, 17, 6, 18, 19, 20, 21, 5, 7, 8, 9, 22, 23, 24, 25, 26, 27, 28, 29, 30, 13, 31, 32, 33, 34, 35, 36, 37, 38, 39, 40, 41, 1, 42, 43, 44, 45, 46, 47, 48, 49, 50, 51, 52, 53, 84, 85, 86, 87, 88, 89, 90, 91, 92, 93, 94, 95, 96, 97, 98, 99, 100, 101, 102, 103, 104, 105, 106, 107, 108, 109, 110] (by decide +kernel) (by decide +kernel)
set_option maxRecDepth 20000 in
theorem gX0_endWeek_X0_settleDue : GoodIn wsX0_endWeek (wsV RX0 134 RX0 yX0_settleDue wsX0_settleDue) := goodIn_app (goodIn_of _ (by decide +kernel)) ggX0_endWeek_X0_settleDue
set_option maxRecDepth 20000 in
theorem ggX0_endWeek_X0_saveMoney : GoodIn wsX0_endWeek wsX0_saveMoney := goodIn_r _ [57, 1, 3, 33, 84, 85, 86, 87, 88, 89, 90, 91, 92, 93, 94, 95, 96, 97, 98, 99, 100, 101, 102, 103, 104, 105, 106, 107, 108, 109, 110] (by decide +kernel) (by decide +kernel)
set_option maxRecDepth 20000 in
theorem gX0_endWeek_X0_saveMoney : GoodIn wsX0_endWeek (wsV RX0 137 RX0 yX0_saveMoney wsX0_saveMoney) := goodIn_app (goodIn_of _ (by decide +kernel)) ggX0_endWeek_X0_saveMoney
set_option maxRecDepth 20000 in
theorem ggX0_endWeek_X0_nextChair : GoodIn wsX0_endWeek wsX0_nextChair := goodIn_r _ [61, 4, 62, 63, 64, 65, 66, 67, 68, 13, 69, 1, 70, 6, 71, 72, 73, 74, 75, 76, 77, 78, 79, 84, 85, 86, 87, 88, 89, 90, 91, 92, 93, 94, 95, 96, 97, 98, 99, 100, 101, 102, 103, 104, 105, 106, 107, 108, 109, 110] (by decide +kernel) (by decide +kernel)
set_option maxRecDepth 20000 in
theorem gX0_endWeek_X0_nextChair : GoodIn wsX0_endWeek (wsV RX0 93 RX0 yX0_nextChair wsX0_nextChair) := goodIn_app (goodIn_of _ (by decide +kernel)) ggX0_endWeek_X0_nextChair
set_option maxRecDepth 20000 in
theorem ggX0_endWeek_X0_letBeAway : GoodIn wsX0_endWeek wsX0_letBeAway := goodIn_r _ [83, 1, 84, 85, 86, 87, 88, 89, 90, 91, 92, 93, 94, 95, 96, 97, 98, 99, 100, 101, 102, 103, 104, 105, 106, 107, 108, 109, 110] (by decide +kernel) (by decide +kernel)
set_option maxRecDepth 20000 in
theorem gX0_endWeek_X0_letBeAway : GoodIn wsX0_endWeek (wsV RX0 140 RX0 yX0_letBeAway wsX0_letBeAway) := goodIn_app (goodIn_of _ (by decide +kernel)) ggX0_endWeek_X0_letBeAway
theorem dX0_endWeek_0 : decode cX0_endWeek 0 = .ok (.aload_n 0, 1) := by decide +kernel
theorem dX0_endWeek_1 : decode cX0_endWeek 1 = .ok (.getfield 11, 3) := by decide +kernel
theorem dX0_endWeek_4 : decode cX0_endWeek 4 = .ok (.astore_n 1, 1) := by decide +kernel
theorem dX0_endWeek_5 : decode cX0_endWeek 5 = .ok (.aload_n 1, 1) := by decide +kernel
theorem dX0_endWeek_6 : decode cX0_endWeek 6 = .ok (.arraylength, 1) := by decide +kernel
theorem dX0_endWeek_7 : decode cX0_endWeek 7 = .ok (.istore_n 2, 1) := by decide +kernel
theorem dX0_endWeek_8 : decode cX0_endWeek 8 = .ok (.iconst 0, 1) := by decide +kernel
theorem dX0_endWeek_9 : decode cX0_endWeek 9 = .ok (.istore_n 3, 1) := by decide +kernel
theorem dX0_endWeek_10 : decode cX0_endWeek 10 = .ok (.iload_n 3, 1) := by decide +kernel
theorem dX0_endWeek_11 : decode cX0_endWeek 11 = .ok (.iload_n 2, 1) := by decide +kernel
theorem dX0_endWeek_12 : decode cX0_endWeek 12 = .ok (.if_icmp .ge 36, 3) := by decide +kernel
theorem dX0_endWeek_15 : decode cX0_endWeek 15 = .ok (.aload_n 1, 1) := by decide +kernel
theorem dX0_endWeek_16 : decode cX0_endWeek 16 = .ok (.iload_n 3, 1) := by decide +kernel
theorem dX0_endWeek_17 : decode cX0_endWeek 17 = .ok (.aaload, 1) := by decide +kernel
theorem dX0_endWeek_18 : decode cX0_endWeek 18 = .ok (.astore 4, 2) := by decide +kernel
theorem dX0_endWeek_20 : decode cX0_endWeek 20 = .ok (.aload 4, 2) := by decide +kernel
theorem dX0_endWeek_22 : decode cX0_endWeek 22 = .ok (.getfield 62, 3) := by decide +kernel
theorem dX0_endWeek_25 : decode cX0_endWeek 25 = .ok (.ifCond .eq 17, 3) := by decide +kernel
theorem dX0_endWeek_28 : decode cX0_endWeek 28 = .ok (.aload 4, 2) := by decide +kernel
theorem dX0_endWeek_30 : decode cX0_endWeek 30 = .ok (.invokevirtual 76, 3) := by decide +kernel
theorem dX0_endWeek_33 : decode cX0_endWeek 33 = .ok (.ifCond .eq 9, 3) := by decide +kernel
theorem dX0_endWeek_36 : decode cX0_endWeek 36 = .ok (.aload_n 0, 1) := by decide +kernel
theorem dX0_endWeek_37 : decode cX0_endWeek 37 = .ok (.aload 4, 2) := by decide +kernel
theorem dX0_endWeek_39 : decode cX0_endWeek 39 = .ok (.invokevirtual 134, 3) := by decide +kernel
theorem dX0_endWeek_42 : decode cX0_endWeek 42 = .ok (.iinc 3 1, 3) := by decide +kernel
theorem dX0_endWeek_45 : decode cX0_endWeek 45 = .ok (.goto (-35), 3) := by decide +kernel
theorem dX0_endWeek_48 : decode cX0_endWeek 48 = .ok (.aload_n 0, 1) := by decide +kernel
theorem dX0_endWeek_49 : decode cX0_endWeek 49 = .ok (.invokevirtual 137, 3) := by decide +kernel
theorem dX0_endWeek_52 : decode cX0_endWeek 52 = .ok (.aload_n 0, 1) := by decide +kernel
theorem dX0_endWeek_53 : decode cX0_endWeek 53 = .ok (.dup, 1) := by decide +kernel
theorem dX0_endWeek_54 : decode cX0_endWeek 54 = .ok (.getfield 41, 3) := by decide +kernel
theorem dX0_endWeek_57 : decode cX0_endWeek 57 = .ok (.iconst 1, 1) := by decide +kernel
theorem dX0_endWeek_58 : decode cX0_endWeek 58 = .ok (.iadd, 1) := by decide +kernel
theorem dX0_endWeek_59 : decode cX0_endWeek 59 = .ok (.putfield 41, 3) := by decide +kernel
theorem dX0_endWeek_62 : decode cX0_endWeek 62 = .ok (.aload_n 0, 1) := by decide +kernel
theorem dX0_endWeek_63 : decode cX0_endWeek 63 = .ok (.getfield 17, 3) := by decide +kernel
theorem dX0_endWeek_66 : decode cX0_endWeek 66 = .ok (.iconst 2, 1) := by decide +kernel
theorem dX0_endWeek_67 : decode cX0_endWeek 67 = .ok (.iaload, 1) := by decide +kernel
theorem dX0_endWeek_68 : decode cX0_endWeek 68 = .ok (.ifCond .le 25, 3) := by decide +kernel
theorem dX0_endWeek_71 : decode cX0_endWeek 71 = .ok (.aload_n 0, 1) := by decide +kernel
theorem dX0_endWeek_72 : decode cX0_endWeek 72 = .ok (.getfield 41, 3) := by decide +kernel
theorem dX0_endWeek_75 : decode cX0_endWeek 75 = .ok (.aload_n 0, 1) := by decide +kernel
theorem dX0_endWeek_76 : decode cX0_endWeek 76 = .ok (.getfield 17, 3) := by decide +kernel
theorem dX0_endWeek_79 : decode cX0_endWeek 79 = .ok (.iconst 2, 1) := by decide +kernel
theorem dX0_endWeek_80 : decode cX0_endWeek 80 = .ok (.iaload, 1) := by decide +kernel
theorem dX0_endWeek_81 : decode cX0_endWeek 81 = .ok (.irem, 1) := by decide +kernel
theorem dX0_endWeek_82 : decode cX0_endWeek 82 = .ok (.ifCond .ne 11, 3) := by decide +kernel
theorem dX0_endWeek_85 : decode cX0_endWeek 85 = .ok (.aload_n 0, 1) := by decide +kernel
theorem dX0_endWeek_86 : decode cX0_endWeek 86 = .ok (.aload_n 0, 1) := by decide +kernel
theorem dX0_endWeek_87 : decode cX0_endWeek 87 = .ok (.invokevirtual 93, 3) := by decide +kernel
theorem dX0_endWeek_90 : decode cX0_endWeek 90 = .ok (.putfield 21, 3) := by decide +kernel
theorem dX0_endWeek_93 : decode cX0_endWeek 93 = .ok (.aload_n 0, 1) := by decide +kernel
theorem dX0_endWeek_94 : decode cX0_endWeek 94 = .ok (.iconst 0, 1) := by decide +kernel
theorem dX0_endWeek_95 : decode cX0_endWeek 95 = .ok (.invokevirtual 140, 3) := by decide +kernel
theorem dX0_endWeek_98 : decode cX0_endWeek 98 = .ok (.return_, 1) := by decide +kernel
set_option maxRecDepth 20000 in
theorem ggX0_settleDue_X2_due : GoodIn wsX0_settleDue wsX2_due := goodIn_r _ [6, 7, 8, 9, 10, 4, 11, 12, 13, 14, 15, 16, 17, 18, 58, 59, 60, 61, 62, 63, 64, 65, 66, 67, 68, 69, 70, 71, 72, 73] (by decide +kernel) (by decide +kernel)
set_option maxRecDepth 20000 in
theorem gX0_settleDue_X2_due_n143 : GoodIn wsX0_settleDue (wsX2_due) := ggX0_settleDue_X2_due
set_option maxRecDepth 20000 in
theorem ggX0_settleDue_X0_coverMissed : GoodIn wsX0_settleDue wsX0_coverMissed := goodIn_r _ [23, 24, 25, 26, 27, 28, 29, 2, 30, 31, 32, 22, 33, 34, 35, 36, 37, 38, 39, 40, 41, 42, 58, 59, 60, 61, 62, 63, 64, 65, 66, 67, 68, 69, 70, 71, 72, 73, 47, 48, 49, 50, 51, 52, 53, 54, 55, 56, 57] (by decide +kernel) (by decide +kernel)
set_option maxRecDepth 20000 in
theorem gX0_settleDue_X0_coverMissed : GoodIn wsX0_settleDue (wsV RX0 149 RX0 yX0_coverMissed wsX0_coverMissed) := goodIn_app (goodIn_of _ (by decide +kernel)) ggX0_settleDue_X0_coverMissed
set_option maxRecDepth 20000 in
theorem ggX0_settleDue_X2_lessenLoan : GoodIn wsX0_settleDue wsX2_lessenLoan := goodIn_r _ [45, 17, 12, 46, 18, 7, 13, 14, 15, 4, 16, 58, 59, 60, 61, 62, 63, 64, 65, 66, 67, 68, 69, 70, 71, 72, 73] (by decide +kernel) (by decide +kernel)
set_option maxRecDepth 20000 in
theorem gX0_settleDue_X2_lessenLoan_n153 : GoodIn wsX0_settleDue (wsX2_lessenLoan) := ggX0_settleDue_X2_lessenLoan
theorem dX0_settleDue_0 : decode cX0_settleDue 0 = .ok (.aload_n 1, 1) := by decide +kernel
theorem dX0_settleDue_1 : decode cX0_settleDue 1 = .ok (.invokevirtual 143, 3) := by decide +kernel
theorem dX0_settleDue_4 : decode cX0_settleDue 4 = .ok (.istore_n 2, 1) := by decide +kernel
theorem dX0_settleDue_5 : decode cX0_settleDue 5 = .ok (.aload_n 0, 1) := by decide +kernel
theorem dX0_settleDue_6 : decode cX0_settleDue 6 = .ok (.dup, 1) := by decide +kernel
theorem dX0_settleDue_7 : decode cX0_settleDue 7 = .ok (.getfield 53, 3) := by decide +kernel
theorem dX0_settleDue_10 : decode cX0_settleDue 10 = .ok (.aload_n 1, 1) := by decide +kernel
theorem dX0_settleDue_11 : decode cX0_settleDue 11 = .ok (.getfield 146, 3) := by decide +kernel
theorem dX0_settleDue_14 : decode cX0_settleDue 14 = .ok (.iadd, 1) := by decide +kernel
theorem dX0_settleDue_15 : decode cX0_settleDue 15 = .ok (.putfield 53, 3) := by decide +kernel
theorem dX0_settleDue_18 : decode cX0_settleDue 18 = .ok (.aload_n 1, 1) := by decide +kernel
theorem dX0_settleDue_19 : decode cX0_settleDue 19 = .ok (.getfield 66, 3) := by decide +kernel
theorem dX0_settleDue_22 : decode cX0_settleDue 22 = .ok (.ifCond .eq 12, 3) := by decide +kernel
theorem dX0_settleDue_25 : decode cX0_settleDue 25 = .ok (.aload_n 0, 1) := by decide +kernel
theorem dX0_settleDue_26 : decode cX0_settleDue 26 = .ok (.aload_n 1, 1) := by decide +kernel
theorem dX0_settleDue_27 : decode cX0_settleDue 27 = .ok (.iload_n 2, 1) := by decide +kernel
theorem dX0_settleDue_28 : decode cX0_settleDue 28 = .ok (.invokevirtual 149, 3) := by decide +kernel
theorem dX0_settleDue_31 : decode cX0_settleDue 31 = .ok (.goto 13, 3) := by decide +kernel
theorem dX0_settleDue_34 : decode cX0_settleDue 34 = .ok (.aload_n 0, 1) := by decide +kernel
theorem dX0_settleDue_35 : decode cX0_settleDue 35 = .ok (.dup, 1) := by decide +kernel
theorem dX0_settleDue_36 : decode cX0_settleDue 36 = .ok (.getfield 56, 3) := by decide +kernel
theorem dX0_settleDue_39 : decode cX0_settleDue 39 = .ok (.iload_n 2, 1) := by decide +kernel
theorem dX0_settleDue_40 : decode cX0_settleDue 40 = .ok (.iadd, 1) := by decide +kernel
theorem dX0_settleDue_41 : decode cX0_settleDue 41 = .ok (.putfield 56, 3) := by decide +kernel
theorem dX0_settleDue_44 : decode cX0_settleDue 44 = .ok (.aload_n 1, 1) := by decide +kernel
theorem dX0_settleDue_45 : decode cX0_settleDue 45 = .ok (.invokevirtual 153, 3) := by decide +kernel
theorem dX0_settleDue_48 : decode cX0_settleDue 48 = .ok (.return_, 1) := by decide +kernel
set_option maxRecDepth 20000 in
theorem ggX0_coverMissed_X0_memberCount : GoodIn wsX0_coverMissed wsX0_memberCount := goodIn_r _ [12, 13, 38, 39, 40, 41, 42, 43, 44, 45, 46, 47, 48, 22, 23, 24, 25, 26, 27, 28, 29, 30, 31, 32, 33, 34, 35, 36, 37] (by decide +kernel) (by decide +kernel)
set_option maxRecDepth 20000 in
theorem gX0_coverMissed_X0_memberCount : GoodIn wsX0_coverMissed (wsV RX0 69 RX0 yX0_memberCount wsX0_memberCount) := goodIn_app (goodIn_of _ (by decide +kernel)) ggX0_coverMissed_X0_memberCount
set_option maxRecDepth 20000 in
theorem ggX0_coverMissed_X0_awayMembers : GoodIn wsX0_coverMissed wsX0_awayMembers := goodIn_r _ [17, 13, 38, 39, 40, 41, 42, 43, 44, 45, 46, 47, 48, 22, 23, 24, 25, 26, 27, 28, 29, 30, 31, 32, 33, 34, 35, 36, 37] (by decide +kernel) (by decide +kernel)
set_option maxRecDepth 20000 in
theorem gX0_coverMissed_X0_awayMembers : GoodIn wsX0_coverMissed (wsV RX0 157 RX0 yX0_awayMembers wsX0_awayMembers) := goodIn_app (goodIn_of _ (by decide +kernel)) ggX0_coverMissed_X0_awayMembers
set_option maxRecDepth 20000 in
theorem ggX0_coverMissed_X0_shareRest : GoodIn wsX0_coverMissed wsX0_shareRest := goodIn_r _ [21, 13, 7, 38, 39, 40, 41, 42, 43, 44, 45, 46, 47, 48, 22, 23, 24, 25, 26, 27, 28, 29, 30, 31, 32, 33, 34, 35, 36, 37] (by decide +kernel) (by decide +kernel)
set_option maxRecDepth 20000 in
theorem gX0_coverMissed_X0_shareRest : GoodIn wsX0_coverMissed (wsV RX0 160 RX0 yX0_shareRest wsX0_shareRest) := goodIn_app (goodIn_of _ (by decide +kernel)) ggX0_coverMissed_X0_shareRest
theorem dX0_coverMissed_0 : decode cX0_coverMissed 0 = .ok (.aload_n 1, 1) := by decide +kernel
theorem dX0_coverMissed_1 : decode cX0_coverMissed 1 = .ok (.dup, 1) := by decide +kernel
theorem dX0_coverMissed_2 : decode cX0_coverMissed 2 = .ok (.getfield 131, 3) := by decide +kernel
theorem dX0_coverMissed_5 : decode cX0_coverMissed 5 = .ok (.iconst 1, 1) := by decide +kernel
theorem dX0_coverMissed_6 : decode cX0_coverMissed 6 = .ok (.iadd, 1) := by decide +kernel
theorem dX0_coverMissed_7 : decode cX0_coverMissed 7 = .ok (.putfield 131, 3) := by decide +kernel
theorem dX0_coverMissed_10 : decode cX0_coverMissed 10 = .ok (.aload_n 1, 1) := by decide +kernel
theorem dX0_coverMissed_11 : decode cX0_coverMissed 11 = .ok (.dup, 1) := by decide +kernel
theorem dX0_coverMissed_12 : decode cX0_coverMissed 12 = .ok (.getfield 156, 3) := by decide +kernel
theorem dX0_coverMissed_15 : decode cX0_coverMissed 15 = .ok (.iconst 1, 1) := by decide +kernel
theorem dX0_coverMissed_16 : decode cX0_coverMissed 16 = .ok (.iadd, 1) := by decide +kernel
theorem dX0_coverMissed_17 : decode cX0_coverMissed 17 = .ok (.putfield 156, 3) := by decide +kernel
theorem dX0_coverMissed_20 : decode cX0_coverMissed 20 = .ok (.aload_n 0, 1) := by decide +kernel
theorem dX0_coverMissed_21 : decode cX0_coverMissed 21 = .ok (.dup, 1) := by decide +kernel
theorem dX0_coverMissed_22 : decode cX0_coverMissed 22 = .ok (.getfield 59, 3) := by decide +kernel
theorem dX0_coverMissed_25 : decode cX0_coverMissed 25 = .ok (.iconst 1, 1) := by decide +kernel
theorem dX0_coverMissed_26 : decode cX0_coverMissed 26 = .ok (.iadd, 1) := by decide +kernel
theorem dX0_coverMissed_27 : decode cX0_coverMissed 27 = .ok (.putfield 59, 3) := by decide +kernel
theorem dX0_coverMissed_30 : decode cX0_coverMissed 30 = .ok (.iload_n 2, 1) := by decide +kernel
theorem dX0_coverMissed_31 : decode cX0_coverMissed 31 = .ok (.aload_n 0, 1) := by decide +kernel
theorem dX0_coverMissed_32 : decode cX0_coverMissed 32 = .ok (.getfield 47, 3) := by decide +kernel
theorem dX0_coverMissed_35 : decode cX0_coverMissed 35 = .ok (.invokestatic 113, 3) := by decide +kernel
theorem dX0_coverMissed_38 : decode cX0_coverMissed 38 = .ok (.istore_n 3, 1) := by decide +kernel
theorem dX0_coverMissed_39 : decode cX0_coverMissed 39 = .ok (.aload_n 0, 1) := by decide +kernel
theorem dX0_coverMissed_40 : decode cX0_coverMissed 40 = .ok (.dup, 1) := by decide +kernel
theorem dX0_coverMissed_41 : decode cX0_coverMissed 41 = .ok (.getfield 47, 3) := by decide +kernel
theorem dX0_coverMissed_44 : decode cX0_coverMissed 44 = .ok (.iload_n 3, 1) := by decide +kernel
theorem dX0_coverMissed_45 : decode cX0_coverMissed 45 = .ok (.isub, 1) := by decide +kernel
theorem dX0_coverMissed_46 : decode cX0_coverMissed 46 = .ok (.putfield 47, 3) := by decide +kernel
theorem dX0_coverMissed_49 : decode cX0_coverMissed 49 = .ok (.aload_n 1, 1) := by decide +kernel
theorem dX0_coverMissed_50 : decode cX0_coverMissed 50 = .ok (.dup, 1) := by decide +kernel
theorem dX0_coverMissed_51 : decode cX0_coverMissed 51 = .ok (.getfield 116, 3) := by decide +kernel
theorem dX0_coverMissed_54 : decode cX0_coverMissed 54 = .ok (.iload_n 3, 1) := by decide +kernel
theorem dX0_coverMissed_55 : decode cX0_coverMissed 55 = .ok (.iadd, 1) := by decide +kernel
theorem dX0_coverMissed_56 : decode cX0_coverMissed 56 = .ok (.putfield 116, 3) := by decide +kernel
theorem dX0_coverMissed_59 : decode cX0_coverMissed 59 = .ok (.aload_n 0, 1) := by decide +kernel
theorem dX0_coverMissed_60 : decode cX0_coverMissed 60 = .ok (.dup, 1) := by decide +kernel
theorem dX0_coverMissed_61 : decode cX0_coverMissed 61 = .ok (.getfield 56, 3) := by decide +kernel
theorem dX0_coverMissed_64 : decode cX0_coverMissed 64 = .ok (.iload_n 3, 1) := by decide +kernel
theorem dX0_coverMissed_65 : decode cX0_coverMissed 65 = .ok (.iadd, 1) := by decide +kernel
theorem dX0_coverMissed_66 : decode cX0_coverMissed 66 = .ok (.putfield 56, 3) := by decide +kernel
theorem dX0_coverMissed_69 : decode cX0_coverMissed 69 = .ok (.iload_n 2, 1) := by decide +kernel
theorem dX0_coverMissed_70 : decode cX0_coverMissed 70 = .ok (.iload_n 3, 1) := by decide +kernel
theorem dX0_coverMissed_71 : decode cX0_coverMissed 71 = .ok (.isub, 1) := by decide +kernel
theorem dX0_coverMissed_72 : decode cX0_coverMissed 72 = .ok (.istore 4, 2) := by decide +kernel
theorem dX0_coverMissed_74 : decode cX0_coverMissed 74 = .ok (.aload_n 0, 1) := by decide +kernel
theorem dX0_coverMissed_75 : decode cX0_coverMissed 75 = .ok (.invokevirtual 69, 3) := by decide +kernel
theorem dX0_coverMissed_78 : decode cX0_coverMissed 78 = .ok (.aload_n 0, 1) := by decide +kernel
theorem dX0_coverMissed_79 : decode cX0_coverMissed 79 = .ok (.invokevirtual 157, 3) := by decide +kernel
theorem dX0_coverMissed_82 : decode cX0_coverMissed 82 = .ok (.isub, 1) := by decide +kernel
theorem dX0_coverMissed_83 : decode cX0_coverMissed 83 = .ok (.istore 5, 2) := by decide +kernel
theorem dX0_coverMissed_85 : decode cX0_coverMissed 85 = .ok (.iload 5, 2) := by decide +kernel
theorem dX0_coverMissed_87 : decode cX0_coverMissed 87 = .ok (.ifCond .le 15, 3) := by decide +kernel
theorem dX0_coverMissed_90 : decode cX0_coverMissed 90 = .ok (.aload_n 0, 1) := by decide +kernel
theorem dX0_coverMissed_91 : decode cX0_coverMissed 91 = .ok (.aload_n 1, 1) := by decide +kernel
theorem dX0_coverMissed_92 : decode cX0_coverMissed 92 = .ok (.iload 4, 2) := by decide +kernel
theorem dX0_coverMissed_94 : decode cX0_coverMissed 94 = .ok (.iload 5, 2) := by decide +kernel
theorem dX0_coverMissed_96 : decode cX0_coverMissed 96 = .ok (.invokevirtual 160, 3) := by decide +kernel
theorem dX0_coverMissed_99 : decode cX0_coverMissed 99 = .ok (.goto 14, 3) := by decide +kernel
theorem dX0_coverMissed_102 : decode cX0_coverMissed 102 = .ok (.aload_n 1, 1) := by decide +kernel
theorem dX0_coverMissed_103 : decode cX0_coverMissed 103 = .ok (.dup, 1) := by decide +kernel
theorem dX0_coverMissed_104 : decode cX0_coverMissed 104 = .ok (.getfield 110, 3) := by decide +kernel
theorem dX0_coverMissed_107 : decode cX0_coverMissed 107 = .ok (.iload 4, 2) := by decide +kernel
theorem dX0_coverMissed_109 : decode cX0_coverMissed 109 = .ok (.iadd, 1) := by decide +kernel
theorem dX0_coverMissed_110 : decode cX0_coverMissed 110 = .ok (.putfield 110, 3) := by decide +kernel
theorem dX0_coverMissed_113 : decode cX0_coverMissed 113 = .ok (.return_, 1) := by decide +kernel
theorem dX0_shareRest_0 : decode cX0_shareRest 0 = .ok (.iload_n 3, 1) := by decide +kernel
theorem dX0_shareRest_1 : decode cX0_shareRest 1 = .ok (.ifCond .gt 4, 3) := by decide +kernel
theorem dX0_shareRest_4 : decode cX0_shareRest 4 = .ok (.return_, 1) := by decide +kernel
theorem dX0_shareRest_5 : decode cX0_shareRest 5 = .ok (.iload_n 2, 1) := by decide +kernel
theorem dX0_shareRest_6 : decode cX0_shareRest 6 = .ok (.iload_n 3, 1) := by decide +kernel
theorem dX0_shareRest_7 : decode cX0_shareRest 7 = .ok (.idiv, 1) := by decide +kernel
theorem dX0_shareRest_8 : decode cX0_shareRest 8 = .ok (.istore 4, 2) := by decide +kernel
theorem dX0_shareRest_10 : decode cX0_shareRest 10 = .ok (.iload_n 2, 1) := by decide +kernel
theorem dX0_shareRest_11 : decode cX0_shareRest 11 = .ok (.iload_n 3, 1) := by decide +kernel
theorem dX0_shareRest_12 : decode cX0_shareRest 12 = .ok (.irem, 1) := by decide +kernel
theorem dX0_shareRest_13 : decode cX0_shareRest 13 = .ok (.istore 5, 2) := by decide +kernel
theorem dX0_shareRest_15 : decode cX0_shareRest 15 = .ok (.aload_n 0, 1) := by decide +kernel
theorem dX0_shareRest_16 : decode cX0_shareRest 16 = .ok (.getfield 11, 3) := by decide +kernel
theorem dX0_shareRest_19 : decode cX0_shareRest 19 = .ok (.astore 6, 2) := by decide +kernel
theorem dX0_shareRest_21 : decode cX0_shareRest 21 = .ok (.aload 6, 2) := by decide +kernel
theorem dX0_shareRest_23 : decode cX0_shareRest 23 = .ok (.arraylength, 1) := by decide +kernel
theorem dX0_shareRest_24 : decode cX0_shareRest 24 = .ok (.istore 7, 2) := by decide +kernel
theorem dX0_shareRest_26 : decode cX0_shareRest 26 = .ok (.iconst 0, 1) := by decide +kernel
theorem dX0_shareRest_27 : decode cX0_shareRest 27 = .ok (.istore 8, 2) := by decide +kernel
theorem dX0_shareRest_29 : decode cX0_shareRest 29 = .ok (.iload 8, 2) := by decide +kernel
theorem dX0_shareRest_31 : decode cX0_shareRest 31 = .ok (.iload 7, 2) := by decide +kernel
theorem dX0_shareRest_33 : decode cX0_shareRest 33 = .ok (.if_icmp .ge 78, 3) := by decide +kernel
theorem dX0_shareRest_36 : decode cX0_shareRest 36 = .ok (.aload 6, 2) := by decide +kernel
theorem dX0_shareRest_38 : decode cX0_shareRest 38 = .ok (.iload 8, 2) := by decide +kernel
theorem dX0_shareRest_40 : decode cX0_shareRest 40 = .ok (.aaload, 1) := by decide +kernel
theorem dX0_shareRest_41 : decode cX0_shareRest 41 = .ok (.astore 9, 2) := by decide +kernel
theorem dX0_shareRest_43 : decode cX0_shareRest 43 = .ok (.aload 9, 2) := by decide +kernel
theorem dX0_shareRest_45 : decode cX0_shareRest 45 = .ok (.getfield 62, 3) := by decide +kernel
theorem dX0_shareRest_48 : decode cX0_shareRest 48 = .ok (.ifCond .eq 57, 3) := by decide +kernel
theorem dX0_shareRest_51 : decode cX0_shareRest 51 = .ok (.aload 9, 2) := by decide +kernel
theorem dX0_shareRest_53 : decode cX0_shareRest 53 = .ok (.getfield 66, 3) := by decide +kernel
theorem dX0_shareRest_56 : decode cX0_shareRest 56 = .ok (.ifCond .ne 49, 3) := by decide +kernel
theorem dX0_shareRest_59 : decode cX0_shareRest 59 = .ok (.iload 5, 2) := by decide +kernel
theorem dX0_shareRest_61 : decode cX0_shareRest 61 = .ok (.ifCond .le 10, 3) := by decide +kernel
theorem dX0_shareRest_64 : decode cX0_shareRest 64 = .ok (.iload 4, 2) := by decide +kernel
theorem dX0_shareRest_66 : decode cX0_shareRest 66 = .ok (.iconst 1, 1) := by decide +kernel
theorem dX0_shareRest_67 : decode cX0_shareRest 67 = .ok (.iadd, 1) := by decide +kernel
theorem dX0_shareRest_68 : decode cX0_shareRest 68 = .ok (.goto 5, 3) := by decide +kernel
theorem dX0_shareRest_71 : decode cX0_shareRest 71 = .ok (.iload 4, 2) := by decide +kernel
theorem dX0_shareRest_73 : decode cX0_shareRest 73 = .ok (.istore 10, 2) := by decide +kernel
theorem dX0_shareRest_75 : decode cX0_shareRest 75 = .ok (.iinc 5 (-1), 3) := by decide +kernel
theorem dX0_shareRest_78 : decode cX0_shareRest 78 = .ok (.aload_n 1, 1) := by decide +kernel
theorem dX0_shareRest_79 : decode cX0_shareRest 79 = .ok (.getfield 119, 3) := by decide +kernel
theorem dX0_shareRest_82 : decode cX0_shareRest 82 = .ok (.aload 9, 2) := by decide +kernel
theorem dX0_shareRest_84 : decode cX0_shareRest 84 = .ok (.getfield 90, 3) := by decide +kernel
theorem dX0_shareRest_87 : decode cX0_shareRest 87 = .ok (.dup2, 1) := by decide +kernel
theorem dX0_shareRest_88 : decode cX0_shareRest 88 = .ok (.iaload, 1) := by decide +kernel
theorem dX0_shareRest_89 : decode cX0_shareRest 89 = .ok (.iload 10, 2) := by decide +kernel
theorem dX0_shareRest_91 : decode cX0_shareRest 91 = .ok (.iadd, 1) := by decide +kernel
theorem dX0_shareRest_92 : decode cX0_shareRest 92 = .ok (.iastore, 1) := by decide +kernel
theorem dX0_shareRest_93 : decode cX0_shareRest 93 = .ok (.aload 9, 2) := by decide +kernel
theorem dX0_shareRest_95 : decode cX0_shareRest 95 = .ok (.dup, 1) := by decide +kernel
theorem dX0_shareRest_96 : decode cX0_shareRest 96 = .ok (.getfield 164, 3) := by decide +kernel
theorem dX0_shareRest_99 : decode cX0_shareRest 99 = .ok (.iload 10, 2) := by decide +kernel
theorem dX0_shareRest_101 : decode cX0_shareRest 101 = .ok (.iadd, 1) := by decide +kernel
theorem dX0_shareRest_102 : decode cX0_shareRest 102 = .ok (.putfield 164, 3) := by decide +kernel
theorem dX0_shareRest_105 : decode cX0_shareRest 105 = .ok (.iinc 8 1, 3) := by decide +kernel
theorem dX0_shareRest_108 : decode cX0_shareRest 108 = .ok (.goto (-79), 3) := by decide +kernel
theorem dX0_shareRest_111 : decode cX0_shareRest 111 = .ok (.aload_n 0, 1) := by decide +kernel
theorem dX0_shareRest_112 : decode cX0_shareRest 112 = .ok (.dup, 1) := by decide +kernel
theorem dX0_shareRest_113 : decode cX0_shareRest 113 = .ok (.getfield 56, 3) := by decide +kernel
theorem dX0_shareRest_116 : decode cX0_shareRest 116 = .ok (.iload_n 2, 1) := by decide +kernel
theorem dX0_shareRest_117 : decode cX0_shareRest 117 = .ok (.iadd, 1) := by decide +kernel
theorem dX0_shareRest_118 : decode cX0_shareRest 118 = .ok (.putfield 56, 3) := by decide +kernel
theorem dX0_shareRest_121 : decode cX0_shareRest 121 = .ok (.return_, 1) := by decide +kernel
theorem dX0_saveMoney_0 : decode cX0_saveMoney 0 = .ok (.aload_n 0, 1) := by decide +kernel
theorem dX0_saveMoney_1 : decode cX0_saveMoney 1 = .ok (.getfield 11, 3) := by decide +kernel
theorem dX0_saveMoney_4 : decode cX0_saveMoney 4 = .ok (.astore_n 1, 1) := by decide +kernel
theorem dX0_saveMoney_5 : decode cX0_saveMoney 5 = .ok (.aload_n 1, 1) := by decide +kernel
theorem dX0_saveMoney_6 : decode cX0_saveMoney 6 = .ok (.arraylength, 1) := by decide +kernel
theorem dX0_saveMoney_7 : decode cX0_saveMoney 7 = .ok (.istore_n 2, 1) := by decide +kernel
theorem dX0_saveMoney_8 : decode cX0_saveMoney 8 = .ok (.iconst 0, 1) := by decide +kernel
theorem dX0_saveMoney_9 : decode cX0_saveMoney 9 = .ok (.istore_n 3, 1) := by decide +kernel
theorem dX0_saveMoney_10 : decode cX0_saveMoney 10 = .ok (.iload_n 3, 1) := by decide +kernel
theorem dX0_saveMoney_11 : decode cX0_saveMoney 11 = .ok (.iload_n 2, 1) := by decide +kernel
theorem dX0_saveMoney_12 : decode cX0_saveMoney 12 = .ok (.if_icmp .ge 61, 3) := by decide +kernel
theorem dX0_saveMoney_15 : decode cX0_saveMoney 15 = .ok (.aload_n 1, 1) := by decide +kernel
theorem dX0_saveMoney_16 : decode cX0_saveMoney 16 = .ok (.iload_n 3, 1) := by decide +kernel
theorem dX0_saveMoney_17 : decode cX0_saveMoney 17 = .ok (.aaload, 1) := by decide +kernel
theorem dX0_saveMoney_18 : decode cX0_saveMoney 18 = .ok (.astore 4, 2) := by decide +kernel
theorem dX0_saveMoney_20 : decode cX0_saveMoney 20 = .ok (.aload 4, 2) := by decide +kernel
theorem dX0_saveMoney_22 : decode cX0_saveMoney 22 = .ok (.getfield 62, 3) := by decide +kernel
theorem dX0_saveMoney_25 : decode cX0_saveMoney 25 = .ok (.ifCond .eq 42, 3) := by decide +kernel
theorem dX0_saveMoney_28 : decode cX0_saveMoney 28 = .ok (.aload 4, 2) := by decide +kernel
theorem dX0_saveMoney_30 : decode cX0_saveMoney 30 = .ok (.getfield 66, 3) := by decide +kernel
theorem dX0_saveMoney_33 : decode cX0_saveMoney 33 = .ok (.ifCond .ne 34, 3) := by decide +kernel
theorem dX0_saveMoney_36 : decode cX0_saveMoney 36 = .ok (.aload 4, 2) := by decide +kernel
theorem dX0_saveMoney_38 : decode cX0_saveMoney 38 = .ok (.dup, 1) := by decide +kernel
theorem dX0_saveMoney_39 : decode cX0_saveMoney 39 = .ok (.getfield 87, 3) := by decide +kernel
theorem dX0_saveMoney_42 : decode cX0_saveMoney 42 = .ok (.aload_n 0, 1) := by decide +kernel
theorem dX0_saveMoney_43 : decode cX0_saveMoney 43 = .ok (.getfield 17, 3) := by decide +kernel
theorem dX0_saveMoney_46 : decode cX0_saveMoney 46 = .ok (.iconst 1, 1) := by decide +kernel
theorem dX0_saveMoney_47 : decode cX0_saveMoney 47 = .ok (.iaload, 1) := by decide +kernel
theorem dX0_saveMoney_48 : decode cX0_saveMoney 48 = .ok (.iadd, 1) := by decide +kernel
theorem dX0_saveMoney_49 : decode cX0_saveMoney 49 = .ok (.putfield 87, 3) := by decide +kernel
theorem dX0_saveMoney_52 : decode cX0_saveMoney 52 = .ok (.aload_n 0, 1) := by decide +kernel
theorem dX0_saveMoney_53 : decode cX0_saveMoney 53 = .ok (.dup, 1) := by decide +kernel
theorem dX0_saveMoney_54 : decode cX0_saveMoney 54 = .ok (.getfield 47, 3) := by decide +kernel
theorem dX0_saveMoney_57 : decode cX0_saveMoney 57 = .ok (.aload_n 0, 1) := by decide +kernel
theorem dX0_saveMoney_58 : decode cX0_saveMoney 58 = .ok (.getfield 17, 3) := by decide +kernel
theorem dX0_saveMoney_61 : decode cX0_saveMoney 61 = .ok (.iconst 1, 1) := by decide +kernel
theorem dX0_saveMoney_62 : decode cX0_saveMoney 62 = .ok (.iaload, 1) := by decide +kernel
theorem dX0_saveMoney_63 : decode cX0_saveMoney 63 = .ok (.iadd, 1) := by decide +kernel
theorem dX0_saveMoney_64 : decode cX0_saveMoney 64 = .ok (.putfield 47, 3) := by decide +kernel
theorem dX0_saveMoney_67 : decode cX0_saveMoney 67 = .ok (.iinc 3 1, 3) := by decide +kernel
theorem dX0_saveMoney_70 : decode cX0_saveMoney 70 = .ok (.goto (-60), 3) := by decide +kernel
theorem dX0_saveMoney_73 : decode cX0_saveMoney 73 = .ok (.return_, 1) := by decide +kernel
theorem dX0_letBeAway_0 : decode cX0_letBeAway 0 = .ok (.iconst 0, 1) := by decide +kernel
theorem dX0_letBeAway_1 : decode cX0_letBeAway 1 = .ok (.istore_n 2, 1) := by decide +kernel
theorem dX0_letBeAway_2 : decode cX0_letBeAway 2 = .ok (.iload_n 2, 1) := by decide +kernel
theorem dX0_letBeAway_3 : decode cX0_letBeAway 3 = .ok (.bipush 8, 2) := by decide +kernel
theorem dX0_letBeAway_5 : decode cX0_letBeAway 5 = .ok (.if_icmp .ge 32, 3) := by decide +kernel
theorem dX0_letBeAway_8 : decode cX0_letBeAway 8 = .ok (.aload_n 0, 1) := by decide +kernel
theorem dX0_letBeAway_9 : decode cX0_letBeAway 9 = .ok (.getfield 11, 3) := by decide +kernel
theorem dX0_letBeAway_12 : decode cX0_letBeAway 12 = .ok (.iload_n 2, 1) := by decide +kernel
theorem dX0_letBeAway_13 : decode cX0_letBeAway 13 = .ok (.aaload, 1) := by decide +kernel
theorem dX0_letBeAway_14 : decode cX0_letBeAway 14 = .ok (.iload_n 1, 1) := by decide +kernel
theorem dX0_letBeAway_15 : decode cX0_letBeAway 15 = .ok (.iload_n 2, 1) := by decide +kernel
theorem dX0_letBeAway_16 : decode cX0_letBeAway 16 = .ok (.ishr, 1) := by decide +kernel
theorem dX0_letBeAway_17 : decode cX0_letBeAway 17 = .ok (.iconst 1, 1) := by decide +kernel
theorem dX0_letBeAway_18 : decode cX0_letBeAway 18 = .ok (.iand, 1) := by decide +kernel
theorem dX0_letBeAway_19 : decode cX0_letBeAway 19 = .ok (.iconst 1, 1) := by decide +kernel
theorem dX0_letBeAway_20 : decode cX0_letBeAway 20 = .ok (.if_icmp .ne 7, 3) := by decide +kernel
theorem dX0_letBeAway_23 : decode cX0_letBeAway 23 = .ok (.iconst 1, 1) := by decide +kernel
theorem dX0_letBeAway_24 : decode cX0_letBeAway 24 = .ok (.goto 4, 3) := by decide +kernel
theorem dX0_letBeAway_27 : decode cX0_letBeAway 27 = .ok (.iconst 0, 1) := by decide +kernel
theorem dX0_letBeAway_28 : decode cX0_letBeAway 28 = .ok (.putfield 66, 3) := by decide +kernel
theorem dX0_letBeAway_31 : decode cX0_letBeAway 31 = .ok (.iinc 2 1, 3) := by decide +kernel
theorem dX0_letBeAway_34 : decode cX0_letBeAway 34 = .ok (.goto (-32), 3) := by decide +kernel
theorem dX0_letBeAway_37 : decode cX0_letBeAway 37 = .ok (.return_, 1) := by decide +kernel
theorem dX0_owedTo_0 : decode cX0_owedTo 0 = .ok (.iconst 0, 1) := by decide +kernel
theorem dX0_owedTo_1 : decode cX0_owedTo 1 = .ok (.istore_n 2, 1) := by decide +kernel
theorem dX0_owedTo_2 : decode cX0_owedTo 2 = .ok (.aload_n 0, 1) := by decide +kernel
theorem dX0_owedTo_3 : decode cX0_owedTo 3 = .ok (.getfield 11, 3) := by decide +kernel
theorem dX0_owedTo_6 : decode cX0_owedTo 6 = .ok (.astore_n 3, 1) := by decide +kernel
theorem dX0_owedTo_7 : decode cX0_owedTo 7 = .ok (.aload_n 3, 1) := by decide +kernel
theorem dX0_owedTo_8 : decode cX0_owedTo 8 = .ok (.arraylength, 1) := by decide +kernel
theorem dX0_owedTo_9 : decode cX0_owedTo 9 = .ok (.istore 4, 2) := by decide +kernel
theorem dX0_owedTo_11 : decode cX0_owedTo 11 = .ok (.iconst 0, 1) := by decide +kernel
theorem dX0_owedTo_12 : decode cX0_owedTo 12 = .ok (.istore 5, 2) := by decide +kernel
theorem dX0_owedTo_14 : decode cX0_owedTo 14 = .ok (.iload 5, 2) := by decide +kernel
theorem dX0_owedTo_16 : decode cX0_owedTo 16 = .ok (.iload 4, 2) := by decide +kernel
theorem dX0_owedTo_18 : decode cX0_owedTo 18 = .ok (.if_icmp .ge 28, 3) := by decide +kernel
theorem dX0_owedTo_21 : decode cX0_owedTo 21 = .ok (.aload_n 3, 1) := by decide +kernel
theorem dX0_owedTo_22 : decode cX0_owedTo 22 = .ok (.iload 5, 2) := by decide +kernel
theorem dX0_owedTo_24 : decode cX0_owedTo 24 = .ok (.aaload, 1) := by decide +kernel
theorem dX0_owedTo_25 : decode cX0_owedTo 25 = .ok (.astore 6, 2) := by decide +kernel
theorem dX0_owedTo_27 : decode cX0_owedTo 27 = .ok (.iload_n 2, 1) := by decide +kernel
theorem dX0_owedTo_28 : decode cX0_owedTo 28 = .ok (.aload 6, 2) := by decide +kernel
theorem dX0_owedTo_30 : decode cX0_owedTo 30 = .ok (.getfield 119, 3) := by decide +kernel
theorem dX0_owedTo_33 : decode cX0_owedTo 33 = .ok (.aload_n 1, 1) := by decide +kernel
theorem dX0_owedTo_34 : decode cX0_owedTo 34 = .ok (.getfield 90, 3) := by decide +kernel
theorem dX0_owedTo_37 : decode cX0_owedTo 37 = .ok (.iaload, 1) := by decide +kernel
theorem dX0_owedTo_38 : decode cX0_owedTo 38 = .ok (.iadd, 1) := by decide +kernel
theorem dX0_owedTo_39 : decode cX0_owedTo 39 = .ok (.istore_n 2, 1) := by decide +kernel
theorem dX0_owedTo_40 : decode cX0_owedTo 40 = .ok (.iinc 5 1, 3) := by decide +kernel
theorem dX0_owedTo_43 : decode cX0_owedTo 43 = .ok (.goto (-29), 3) := by decide +kernel
theorem dX0_owedTo_46 : decode cX0_owedTo 46 = .ok (.iload_n 2, 1) := by decide +kernel
theorem dX0_owedTo_47 : decode cX0_owedTo 47 = .ok (.ireturn, 1) := by decide +kernel
theorem dX0_loansLeft_0 : decode cX0_loansLeft 0 = .ok (.iconst 0, 1) := by decide +kernel
theorem dX0_loansLeft_1 : decode cX0_loansLeft 1 = .ok (.istore_n 1, 1) := by decide +kernel
theorem dX0_loansLeft_2 : decode cX0_loansLeft 2 = .ok (.aload_n 0, 1) := by decide +kernel
theorem dX0_loansLeft_3 : decode cX0_loansLeft 3 = .ok (.getfield 11, 3) := by decide +kernel
theorem dX0_loansLeft_6 : decode cX0_loansLeft 6 = .ok (.astore_n 2, 1) := by decide +kernel
theorem dX0_loansLeft_7 : decode cX0_loansLeft 7 = .ok (.aload_n 2, 1) := by decide +kernel
theorem dX0_loansLeft_8 : decode cX0_loansLeft 8 = .ok (.arraylength, 1) := by decide +kernel
theorem dX0_loansLeft_9 : decode cX0_loansLeft 9 = .ok (.istore_n 3, 1) := by decide +kernel
theorem dX0_loansLeft_10 : decode cX0_loansLeft 10 = .ok (.iconst 0, 1) := by decide +kernel
theorem dX0_loansLeft_11 : decode cX0_loansLeft 11 = .ok (.istore 4, 2) := by decide +kernel
theorem dX0_loansLeft_13 : decode cX0_loansLeft 13 = .ok (.iload 4, 2) := by decide +kernel
theorem dX0_loansLeft_15 : decode cX0_loansLeft 15 = .ok (.iload_n 3, 1) := by decide +kernel
theorem dX0_loansLeft_16 : decode cX0_loansLeft 16 = .ok (.if_icmp .ge 23, 3) := by decide +kernel
theorem dX0_loansLeft_19 : decode cX0_loansLeft 19 = .ok (.aload_n 2, 1) := by decide +kernel
theorem dX0_loansLeft_20 : decode cX0_loansLeft 20 = .ok (.iload 4, 2) := by decide +kernel
theorem dX0_loansLeft_22 : decode cX0_loansLeft 22 = .ok (.aaload, 1) := by decide +kernel
theorem dX0_loansLeft_23 : decode cX0_loansLeft 23 = .ok (.astore 5, 2) := by decide +kernel
theorem dX0_loansLeft_25 : decode cX0_loansLeft 25 = .ok (.iload_n 1, 1) := by decide +kernel
theorem dX0_loansLeft_26 : decode cX0_loansLeft 26 = .ok (.aload 5, 2) := by decide +kernel
theorem dX0_loansLeft_28 : decode cX0_loansLeft 28 = .ok (.getfield 167, 3) := by decide +kernel
theorem dX0_loansLeft_31 : decode cX0_loansLeft 31 = .ok (.iadd, 1) := by decide +kernel
theorem dX0_loansLeft_32 : decode cX0_loansLeft 32 = .ok (.istore_n 1, 1) := by decide +kernel
theorem dX0_loansLeft_33 : decode cX0_loansLeft 33 = .ok (.iinc 4 1, 3) := by decide +kernel
theorem dX0_loansLeft_36 : decode cX0_loansLeft 36 = .ok (.goto (-23), 3) := by decide +kernel
theorem dX0_loansLeft_39 : decode cX0_loansLeft 39 = .ok (.iload_n 1, 1) := by decide +kernel
theorem dX0_loansLeft_40 : decode cX0_loansLeft 40 = .ok (.ireturn, 1) := by decide +kernel
theorem dX0_bankDebts_0 : decode cX0_bankDebts 0 = .ok (.iconst 0, 1) := by decide +kernel
theorem dX0_bankDebts_1 : decode cX0_bankDebts 1 = .ok (.istore_n 1, 1) := by decide +kernel
theorem dX0_bankDebts_2 : decode cX0_bankDebts 2 = .ok (.aload_n 0, 1) := by decide +kernel
theorem dX0_bankDebts_3 : decode cX0_bankDebts 3 = .ok (.getfield 11, 3) := by decide +kernel
theorem dX0_bankDebts_6 : decode cX0_bankDebts 6 = .ok (.astore_n 2, 1) := by decide +kernel
theorem dX0_bankDebts_7 : decode cX0_bankDebts 7 = .ok (.aload_n 2, 1) := by decide +kernel
theorem dX0_bankDebts_8 : decode cX0_bankDebts 8 = .ok (.arraylength, 1) := by decide +kernel
theorem dX0_bankDebts_9 : decode cX0_bankDebts 9 = .ok (.istore_n 3, 1) := by decide +kernel
theorem dX0_bankDebts_10 : decode cX0_bankDebts 10 = .ok (.iconst 0, 1) := by decide +kernel
theorem dX0_bankDebts_11 : decode cX0_bankDebts 11 = .ok (.istore 4, 2) := by decide +kernel
theorem dX0_bankDebts_13 : decode cX0_bankDebts 13 = .ok (.iload 4, 2) := by decide +kernel
theorem dX0_bankDebts_15 : decode cX0_bankDebts 15 = .ok (.iload_n 3, 1) := by decide +kernel
theorem dX0_bankDebts_16 : decode cX0_bankDebts 16 = .ok (.if_icmp .ge 23, 3) := by decide +kernel
theorem dX0_bankDebts_19 : decode cX0_bankDebts 19 = .ok (.aload_n 2, 1) := by decide +kernel
theorem dX0_bankDebts_20 : decode cX0_bankDebts 20 = .ok (.iload 4, 2) := by decide +kernel
theorem dX0_bankDebts_22 : decode cX0_bankDebts 22 = .ok (.aaload, 1) := by decide +kernel
theorem dX0_bankDebts_23 : decode cX0_bankDebts 23 = .ok (.astore 5, 2) := by decide +kernel
theorem dX0_bankDebts_25 : decode cX0_bankDebts 25 = .ok (.iload_n 1, 1) := by decide +kernel
theorem dX0_bankDebts_26 : decode cX0_bankDebts 26 = .ok (.aload 5, 2) := by decide +kernel
