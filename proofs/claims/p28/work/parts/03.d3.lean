theorem dX0_bankDebts_28 : decode cX0_bankDebts 28 = .ok (.getfield 110, 3) := by decide +kernel
theorem dX0_bankDebts_31 : decode cX0_bankDebts 31 = .ok (.iadd, 1) := by decide +kernel
theorem dX0_bankDebts_32 : decode cX0_bankDebts 32 = .ok (.istore_n 1, 1) := by decide +kernel
theorem dX0_bankDebts_33 : decode cX0_bankDebts 33 = .ok (.iinc 4 1, 3) := by decide +kernel
theorem dX0_bankDebts_36 : decode cX0_bankDebts 36 = .ok (.goto (-23), 3) := by decide +kernel
theorem dX0_bankDebts_39 : decode cX0_bankDebts 39 = .ok (.iload_n 1, 1) := by decide +kernel
theorem dX0_bankDebts_40 : decode cX0_bankDebts 40 = .ok (.ireturn, 1) := by decide +kernel
theorem dX0_fundDebts_0 : decode cX0_fundDebts 0 = .ok (.iconst 0, 1) := by decide +kernel
theorem dX0_fundDebts_1 : decode cX0_fundDebts 1 = .ok (.istore_n 1, 1) := by decide +kernel
theorem dX0_fundDebts_2 : decode cX0_fundDebts 2 = .ok (.aload_n 0, 1) := by decide +kernel
theorem dX0_fundDebts_3 : decode cX0_fundDebts 3 = .ok (.getfield 11, 3) := by decide +kernel
theorem dX0_fundDebts_6 : decode cX0_fundDebts 6 = .ok (.astore_n 2, 1) := by decide +kernel
theorem dX0_fundDebts_7 : decode cX0_fundDebts 7 = .ok (.aload_n 2, 1) := by decide +kernel
theorem dX0_fundDebts_8 : decode cX0_fundDebts 8 = .ok (.arraylength, 1) := by decide +kernel
theorem dX0_fundDebts_9 : decode cX0_fundDebts 9 = .ok (.istore_n 3, 1) := by decide +kernel
theorem dX0_fundDebts_10 : decode cX0_fundDebts 10 = .ok (.iconst 0, 1) := by decide +kernel
theorem dX0_fundDebts_11 : decode cX0_fundDebts 11 = .ok (.istore 4, 2) := by decide +kernel
theorem dX0_fundDebts_13 : decode cX0_fundDebts 13 = .ok (.iload 4, 2) := by decide +kernel
theorem dX0_fundDebts_15 : decode cX0_fundDebts 15 = .ok (.iload_n 3, 1) := by decide +kernel
theorem dX0_fundDebts_16 : decode cX0_fundDebts 16 = .ok (.if_icmp .ge 23, 3) := by decide +kernel
theorem dX0_fundDebts_19 : decode cX0_fundDebts 19 = .ok (.aload_n 2, 1) := by decide +kernel
theorem dX0_fundDebts_20 : decode cX0_fundDebts 20 = .ok (.iload 4, 2) := by decide +kernel
theorem dX0_fundDebts_22 : decode cX0_fundDebts 22 = .ok (.aaload, 1) := by decide +kernel
theorem dX0_fundDebts_23 : decode cX0_fundDebts 23 = .ok (.astore 5, 2) := by decide +kernel
theorem dX0_fundDebts_25 : decode cX0_fundDebts 25 = .ok (.iload_n 1, 1) := by decide +kernel
theorem dX0_fundDebts_26 : decode cX0_fundDebts 26 = .ok (.aload 5, 2) := by decide +kernel
theorem dX0_fundDebts_28 : decode cX0_fundDebts 28 = .ok (.getfield 116, 3) := by decide +kernel
theorem dX0_fundDebts_31 : decode cX0_fundDebts 31 = .ok (.iadd, 1) := by decide +kernel
theorem dX0_fundDebts_32 : decode cX0_fundDebts 32 = .ok (.istore_n 1, 1) := by decide +kernel
theorem dX0_fundDebts_33 : decode cX0_fundDebts 33 = .ok (.iinc 4 1, 3) := by decide +kernel
theorem dX0_fundDebts_36 : decode cX0_fundDebts 36 = .ok (.goto (-23), 3) := by decide +kernel
theorem dX0_fundDebts_39 : decode cX0_fundDebts 39 = .ok (.iload_n 1, 1) := by decide +kernel
theorem dX0_fundDebts_40 : decode cX0_fundDebts 40 = .ok (.ireturn, 1) := by decide +kernel
set_option maxRecDepth 20000 in
theorem ggX0_debtsAmongMembers_X2_debtToMembers : GoodIn wsX0_debtsAmongMembers wsX2_debtToMembers := goodIn_r _ [5, 6, 18, 19, 20, 21, 22, 23, 24, 25, 26, 27, 28, 29, 30, 31, 32, 33] (by decide +kernel) (by decide +kernel)
set_option maxRecDepth 20000 in
theorem gX0_debtsAmongMembers_X2_debtToMembers_n170 : GoodIn wsX0_debtsAmongMembers (wsX2_debtToMembers) := ggX0_debtsAmongMembers_X2_debtToMembers
theorem dX0_debtsAmongMembers_0 : decode cX0_debtsAmongMembers 0 = .ok (.iconst 0, 1) := by decide +kernel
theorem dX0_debtsAmongMembers_1 : decode cX0_debtsAmongMembers 1 = .ok (.istore_n 1, 1) := by decide +kernel
theorem dX0_debtsAmongMembers_2 : decode cX0_debtsAmongMembers 2 = .ok (.aload_n 0, 1) := by decide +kernel
theorem dX0_debtsAmongMembers_3 : decode cX0_debtsAmongMembers 3 = .ok (.getfield 11, 3) := by decide +kernel
theorem dX0_debtsAmongMembers_6 : decode cX0_debtsAmongMembers 6 = .ok (.astore_n 2, 1) := by decide +kernel
theorem dX0_debtsAmongMembers_7 : decode cX0_debtsAmongMembers 7 = .ok (.aload_n 2, 1) := by decide +kernel
theorem dX0_debtsAmongMembers_8 : decode cX0_debtsAmongMembers 8 = .ok (.arraylength, 1) := by decide +kernel
theorem dX0_debtsAmongMembers_9 : decode cX0_debtsAmongMembers 9 = .ok (.istore_n 3, 1) := by decide +kernel
theorem dX0_debtsAmongMembers_10 : decode cX0_debtsAmongMembers 10 = .ok (.iconst 0, 1) := by decide +kernel
theorem dX0_debtsAmongMembers_11 : decode cX0_debtsAmongMembers 11 = .ok (.istore 4, 2) := by decide +kernel
theorem dX0_debtsAmongMembers_13 : decode cX0_debtsAmongMembers 13 = .ok (.iload 4, 2) := by decide +kernel
theorem dX0_debtsAmongMembers_15 : decode cX0_debtsAmongMembers 15 = .ok (.iload_n 3, 1) := by decide +kernel
theorem dX0_debtsAmongMembers_16 : decode cX0_debtsAmongMembers 16 = .ok (.if_icmp .ge 23, 3) := by decide +kernel
theorem dX0_debtsAmongMembers_19 : decode cX0_debtsAmongMembers 19 = .ok (.aload_n 2, 1) := by decide +kernel
theorem dX0_debtsAmongMembers_20 : decode cX0_debtsAmongMembers 20 = .ok (.iload 4, 2) := by decide +kernel
theorem dX0_debtsAmongMembers_22 : decode cX0_debtsAmongMembers 22 = .ok (.aaload, 1) := by decide +kernel
theorem dX0_debtsAmongMembers_23 : decode cX0_debtsAmongMembers 23 = .ok (.astore 5, 2) := by decide +kernel
theorem dX0_debtsAmongMembers_25 : decode cX0_debtsAmongMembers 25 = .ok (.iload_n 1, 1) := by decide +kernel
theorem dX0_debtsAmongMembers_26 : decode cX0_debtsAmongMembers 26 = .ok (.aload 5, 2) := by decide +kernel
theorem dX0_debtsAmongMembers_28 : decode cX0_debtsAmongMembers 28 = .ok (.invokevirtual 170, 3) := by decide +kernel
theorem dX0_debtsAmongMembers_31 : decode cX0_debtsAmongMembers 31 = .ok (.iadd, 1) := by decide +kernel
theorem dX0_debtsAmongMembers_32 : decode cX0_debtsAmongMembers 32 = .ok (.istore_n 1, 1) := by decide +kernel
theorem dX0_debtsAmongMembers_33 : decode cX0_debtsAmongMembers 33 = .ok (.iinc 4 1, 3) := by decide +kernel
theorem dX0_debtsAmongMembers_36 : decode cX0_debtsAmongMembers 36 = .ok (.goto (-23), 3) := by decide +kernel
theorem dX0_debtsAmongMembers_39 : decode cX0_debtsAmongMembers 39 = .ok (.iload_n 1, 1) := by decide +kernel
theorem dX0_debtsAmongMembers_40 : decode cX0_debtsAmongMembers 40 = .ok (.ireturn, 1) := by decide +kernel
set_option maxRecDepth 20000 in
theorem ggX0_figure_X0_memberCount : GoodIn wsX0_figure wsX0_memberCount := goodIn_r _ [13, 14, 40, 41, 42, 43, 44, 45, 46, 47, 48, 49, 50, 51, 52, 53, 54, 55, 56, 57, 58, 59, 60, 61, 62, 63, 64, 65, 66] (by decide +kernel) (by decide +kernel)
set_option maxRecDepth 20000 in
theorem gX0_figure_X0_memberCount : GoodIn wsX0_figure (wsV RX0 69 RX0 yX0_memberCount wsX0_memberCount) := goodIn_app (goodIn_of _ (by decide +kernel)) ggX0_figure_X0_memberCount
set_option maxRecDepth 20000 in
theorem ggX0_figure_X0_loansLeft : GoodIn wsX0_figure wsX0_loansLeft := goodIn_r _ [18, 14, 40, 41, 42, 43, 44, 45, 46, 47, 48, 49, 50, 51, 52, 53, 54, 55, 56, 57, 58, 59, 60, 61, 62, 63, 64, 65, 66] (by decide +kernel) (by decide +kernel)
set_option maxRecDepth 20000 in
theorem gX0_figure_X0_loansLeft : GoodIn wsX0_figure (wsV RX0 173 RX0 yX0_loansLeft wsX0_loansLeft) := goodIn_app (goodIn_of _ (by decide +kernel)) ggX0_figure_X0_loansLeft
set_option maxRecDepth 20000 in
theorem ggX0_figure_X0_bankDebts : GoodIn wsX0_figure wsX0_bankDebts := goodIn_r _ [22, 14, 40, 41, 42, 43, 44, 45, 46, 47, 48, 49, 50, 51, 52, 53, 54, 55, 56, 57, 58, 59, 60, 61, 62, 63, 64, 65, 66] (by decide +kernel) (by decide +kernel)
set_option maxRecDepth 20000 in
theorem gX0_figure_X0_bankDebts : GoodIn wsX0_figure (wsV RX0 125 RX0 yX0_bankDebts wsX0_bankDebts) := goodIn_app (goodIn_of _ (by decide +kernel)) ggX0_figure_X0_bankDebts
set_option maxRecDepth 20000 in
theorem ggX0_figure_X0_fundDebts : GoodIn wsX0_figure wsX0_fundDebts := goodIn_r _ [26, 14, 40, 41, 42, 43, 44, 45, 46, 47, 48, 49, 50, 51, 52, 53, 54, 55, 56, 57, 58, 59, 60, 61, 62, 63, 64, 65, 66] (by decide +kernel) (by decide +kernel)
set_option maxRecDepth 20000 in
theorem gX0_figure_X0_fundDebts : GoodIn wsX0_figure (wsV RX0 176 RX0 yX0_fundDebts wsX0_fundDebts) := goodIn_app (goodIn_of _ (by decide +kernel)) ggX0_figure_X0_fundDebts
set_option maxRecDepth 20000 in
theorem ggX0_figure_X0_debtsAmongMembers : GoodIn wsX0_figure wsX0_debtsAmongMembers := goodIn_r _ [30, 14, 31, 32, 33, 34, 35, 40, 41, 42, 43, 44, 45, 46, 47, 48, 49, 50, 51, 52, 53, 54, 55, 56, 57, 58, 59, 60, 61, 62, 63, 64, 65, 66] (by decide +kernel) (by decide +kernel)
set_option maxRecDepth 20000 in
theorem gX0_figure_X0_debtsAmongMembers : GoodIn wsX0_figure (wsV RX0 179 RX0 yX0_debtsAmongMembers wsX0_debtsAmongMembers) := goodIn_app (goodIn_of _ (by decide +kernel)) ggX0_figure_X0_debtsAmongMembers
set_option maxRecDepth 20000 in
theorem ggX0_figure_X0_awayMembers : GoodIn wsX0_figure wsX0_awayMembers := goodIn_r _ [39, 14, 40, 41, 42, 43, 44, 45, 46, 47, 48, 49, 50, 51, 52, 53, 54, 55, 56, 57, 58, 59, 60, 61, 62, 63, 64, 65, 66] (by decide +kernel) (by decide +kernel)
set_option maxRecDepth 20000 in
theorem gX0_figure_X0_awayMembers : GoodIn wsX0_figure (wsV RX0 157 RX0 yX0_awayMembers wsX0_awayMembers) := goodIn_app (goodIn_of _ (by decide +kernel)) ggX0_figure_X0_awayMembers
theorem dX0_figure_0 : decode cX0_figure 0 = .ok (.iload_n 1, 1) := by decide +kernel
theorem dX0_figure_1 : decode cX0_figure 1 = .ok (.tableswitch 151 0 13 #[71, 76, 81, 86, 91, 96, 101, 106, 111, 116, 121, 126, 131, 146], 71) := by decide +kernel
theorem dX0_figure_72 : decode cX0_figure 72 = .ok (.aload_n 0, 1) := by decide +kernel
theorem dX0_figure_73 : decode cX0_figure 73 = .ok (.getfield 41, 3) := by decide +kernel
theorem dX0_figure_76 : decode cX0_figure 76 = .ok (.ireturn, 1) := by decide +kernel
theorem dX0_figure_77 : decode cX0_figure 77 = .ok (.aload_n 0, 1) := by decide +kernel
theorem dX0_figure_78 : decode cX0_figure 78 = .ok (.getfield 44, 3) := by decide +kernel
theorem dX0_figure_81 : decode cX0_figure 81 = .ok (.ireturn, 1) := by decide +kernel
theorem dX0_figure_82 : decode cX0_figure 82 = .ok (.aload_n 0, 1) := by decide +kernel
theorem dX0_figure_83 : decode cX0_figure 83 = .ok (.getfield 21, 3) := by decide +kernel
theorem dX0_figure_86 : decode cX0_figure 86 = .ok (.ireturn, 1) := by decide +kernel
theorem dX0_figure_87 : decode cX0_figure 87 = .ok (.aload_n 0, 1) := by decide +kernel
theorem dX0_figure_88 : decode cX0_figure 88 = .ok (.invokevirtual 69, 3) := by decide +kernel
theorem dX0_figure_91 : decode cX0_figure 91 = .ok (.ireturn, 1) := by decide +kernel
theorem dX0_figure_92 : decode cX0_figure 92 = .ok (.aload_n 0, 1) := by decide +kernel
theorem dX0_figure_93 : decode cX0_figure 93 = .ok (.getfield 47, 3) := by decide +kernel
theorem dX0_figure_96 : decode cX0_figure 96 = .ok (.ireturn, 1) := by decide +kernel
theorem dX0_figure_97 : decode cX0_figure 97 = .ok (.aload_n 0, 1) := by decide +kernel
theorem dX0_figure_98 : decode cX0_figure 98 = .ok (.invokevirtual 173, 3) := by decide +kernel
theorem dX0_figure_101 : decode cX0_figure 101 = .ok (.ireturn, 1) := by decide +kernel
theorem dX0_figure_102 : decode cX0_figure 102 = .ok (.aload_n 0, 1) := by decide +kernel
theorem dX0_figure_103 : decode cX0_figure 103 = .ok (.invokevirtual 125, 3) := by decide +kernel
theorem dX0_figure_106 : decode cX0_figure 106 = .ok (.ireturn, 1) := by decide +kernel
theorem dX0_figure_107 : decode cX0_figure 107 = .ok (.aload_n 0, 1) := by decide +kernel
theorem dX0_figure_108 : decode cX0_figure 108 = .ok (.invokevirtual 176, 3) := by decide +kernel
theorem dX0_figure_111 : decode cX0_figure 111 = .ok (.ireturn, 1) := by decide +kernel
theorem dX0_figure_112 : decode cX0_figure 112 = .ok (.aload_n 0, 1) := by decide +kernel
theorem dX0_figure_113 : decode cX0_figure 113 = .ok (.invokevirtual 179, 3) := by decide +kernel
theorem dX0_figure_116 : decode cX0_figure 116 = .ok (.ireturn, 1) := by decide +kernel
theorem dX0_figure_117 : decode cX0_figure 117 = .ok (.aload_n 0, 1) := by decide +kernel
theorem dX0_figure_118 : decode cX0_figure 118 = .ok (.getfield 50, 3) := by decide +kernel
theorem dX0_figure_121 : decode cX0_figure 121 = .ok (.ireturn, 1) := by decide +kernel
theorem dX0_figure_122 : decode cX0_figure 122 = .ok (.aload_n 0, 1) := by decide +kernel
theorem dX0_figure_123 : decode cX0_figure 123 = .ok (.getfield 53, 3) := by decide +kernel
theorem dX0_figure_126 : decode cX0_figure 126 = .ok (.ireturn, 1) := by decide +kernel
theorem dX0_figure_127 : decode cX0_figure 127 = .ok (.aload_n 0, 1) := by decide +kernel
theorem dX0_figure_128 : decode cX0_figure 128 = .ok (.getfield 56, 3) := by decide +kernel
theorem dX0_figure_131 : decode cX0_figure 131 = .ok (.ireturn, 1) := by decide +kernel
theorem dX0_figure_132 : decode cX0_figure 132 = .ok (.aload_n 0, 1) := by decide +kernel
theorem dX0_figure_133 : decode cX0_figure 133 = .ok (.getfield 50, 3) := by decide +kernel
theorem dX0_figure_136 : decode cX0_figure 136 = .ok (.aload_n 0, 1) := by decide +kernel
theorem dX0_figure_137 : decode cX0_figure 137 = .ok (.getfield 53, 3) := by decide +kernel
theorem dX0_figure_140 : decode cX0_figure 140 = .ok (.iadd, 1) := by decide +kernel
theorem dX0_figure_141 : decode cX0_figure 141 = .ok (.aload_n 0, 1) := by decide +kernel
theorem dX0_figure_142 : decode cX0_figure 142 = .ok (.getfield 56, 3) := by decide +kernel
theorem dX0_figure_145 : decode cX0_figure 145 = .ok (.isub, 1) := by decide +kernel
theorem dX0_figure_146 : decode cX0_figure 146 = .ok (.ireturn, 1) := by decide +kernel
theorem dX0_figure_147 : decode cX0_figure 147 = .ok (.aload_n 0, 1) := by decide +kernel
theorem dX0_figure_148 : decode cX0_figure 148 = .ok (.getfield 59, 3) := by decide +kernel
theorem dX0_figure_151 : decode cX0_figure 151 = .ok (.ireturn, 1) := by decide +kernel
theorem dX0_figure_152 : decode cX0_figure 152 = .ok (.aload_n 0, 1) := by decide +kernel
theorem dX0_figure_153 : decode cX0_figure 153 = .ok (.invokevirtual 157, 3) := by decide +kernel
theorem dX0_figure_156 : decode cX0_figure 156 = .ok (.ireturn, 1) := by decide +kernel
theorem dX0_mostPaidForOthersSince_0 : decode cX0_mostPaidForOthersSince 0 = .ok (.iconst 0, 1) := by decide +kernel
theorem dX0_mostPaidForOthersSince_1 : decode cX0_mostPaidForOthersSince 1 = .ok (.istore_n 2, 1) := by decide +kernel
theorem dX0_mostPaidForOthersSince_2 : decode cX0_mostPaidForOthersSince 2 = .ok (.iconst 0, 1) := by decide +kernel
theorem dX0_mostPaidForOthersSince_3 : decode cX0_mostPaidForOthersSince 3 = .ok (.istore_n 3, 1) := by decide +kernel
theorem dX0_mostPaidForOthersSince_4 : decode cX0_mostPaidForOthersSince 4 = .ok (.iload_n 3, 1) := by decide +kernel
theorem dX0_mostPaidForOthersSince_5 : decode cX0_mostPaidForOthersSince 5 = .ok (.bipush 8, 2) := by decide +kernel
theorem dX0_mostPaidForOthersSince_7 : decode cX0_mostPaidForOthersSince 7 = .ok (.if_icmp .ge 33, 3) := by decide +kernel
theorem dX0_mostPaidForOthersSince_10 : decode cX0_mostPaidForOthersSince 10 = .ok (.iload_n 2, 1) := by decide +kernel
theorem dX0_mostPaidForOthersSince_11 : decode cX0_mostPaidForOthersSince 11 = .ok (.aload_n 0, 1) := by decide +kernel
theorem dX0_mostPaidForOthersSince_12 : decode cX0_mostPaidForOthersSince 12 = .ok (.getfield 11, 3) := by decide +kernel
theorem dX0_mostPaidForOthersSince_15 : decode cX0_mostPaidForOthersSince 15 = .ok (.iload_n 3, 1) := by decide +kernel
theorem dX0_mostPaidForOthersSince_16 : decode cX0_mostPaidForOthersSince 16 = .ok (.aaload, 1) := by decide +kernel
theorem dX0_mostPaidForOthersSince_17 : decode cX0_mostPaidForOthersSince 17 = .ok (.getfield 164, 3) := by decide +kernel
theorem dX0_mostPaidForOthersSince_20 : decode cX0_mostPaidForOthersSince 20 = .ok (.aload_n 1, 1) := by decide +kernel
theorem dX0_mostPaidForOthersSince_21 : decode cX0_mostPaidForOthersSince 21 = .ok (.getfield 11, 3) := by decide +kernel
theorem dX0_mostPaidForOthersSince_24 : decode cX0_mostPaidForOthersSince 24 = .ok (.iload_n 3, 1) := by decide +kernel
theorem dX0_mostPaidForOthersSince_25 : decode cX0_mostPaidForOthersSince 25 = .ok (.aaload, 1) := by decide +kernel
theorem dX0_mostPaidForOthersSince_26 : decode cX0_mostPaidForOthersSince 26 = .ok (.getfield 164, 3) := by decide +kernel
theorem dX0_mostPaidForOthersSince_29 : decode cX0_mostPaidForOthersSince 29 = .ok (.isub, 1) := by decide +kernel
theorem dX0_mostPaidForOthersSince_30 : decode cX0_mostPaidForOthersSince 30 = .ok (.invokestatic 182, 3) := by decide +kernel
theorem dX0_mostPaidForOthersSince_33 : decode cX0_mostPaidForOthersSince 33 = .ok (.istore_n 2, 1) := by decide +kernel
theorem dX0_mostPaidForOthersSince_34 : decode cX0_mostPaidForOthersSince 34 = .ok (.iinc 3 1, 3) := by decide +kernel
theorem dX0_mostPaidForOthersSince_37 : decode cX0_mostPaidForOthersSince 37 = .ok (.goto (-33), 3) := by decide +kernel
theorem dX0_mostPaidForOthersSince_40 : decode cX0_mostPaidForOthersSince 40 = .ok (.iload_n 2, 1) := by decide +kernel
theorem dX0_mostPaidForOthersSince_41 : decode cX0_mostPaidForOthersSince 41 = .ok (.ireturn, 1) := by decide +kernel
set_option maxRecDepth 20000 in
theorem ggX0_weeksOfFund_X0_memberCount : GoodIn wsX0_weeksOfFund wsX0_memberCount := goodIn_r _ [7, 8, 9, 10, 11, 12, 13, 14, 15, 16, 17, 18, 19, 20, 21, 22, 23, 24, 25, 26, 27, 28, 29, 30, 31, 32, 33, 34, 35] (by decide +kernel) (by decide +kernel)
set_option maxRecDepth 20000 in
theorem gX0_weeksOfFund_X0_memberCount : GoodIn wsX0_weeksOfFund (wsV RX0 69 RX0 yX0_memberCount wsX0_memberCount) := goodIn_app (goodIn_of _ (by decide +kernel)) ggX0_weeksOfFund_X0_memberCount
theorem dX0_weeksOfFund_0 : decode cX0_weeksOfFund 0 = .ok (.aload_n 0, 1) := by decide +kernel
theorem dX0_weeksOfFund_1 : decode cX0_weeksOfFund 1 = .ok (.getfield 47, 3) := by decide +kernel
theorem dX0_weeksOfFund_4 : decode cX0_weeksOfFund 4 = .ok (.istore_n 2, 1) := by decide +kernel
theorem dX0_weeksOfFund_5 : decode cX0_weeksOfFund 5 = .ok (.aload_n 1, 1) := by decide +kernel
theorem dX0_weeksOfFund_6 : decode cX0_weeksOfFund 6 = .ok (.getfield 167, 3) := by decide +kernel
theorem dX0_weeksOfFund_9 : decode cX0_weeksOfFund 9 = .ok (.istore_n 3, 1) := by decide +kernel
theorem dX0_weeksOfFund_10 : decode cX0_weeksOfFund 10 = .ok (.aload_n 0, 1) := by decide +kernel
theorem dX0_weeksOfFund_11 : decode cX0_weeksOfFund 11 = .ok (.invokevirtual 69, 3) := by decide +kernel
theorem dX0_weeksOfFund_14 : decode cX0_weeksOfFund 14 = .ok (.iconst 1, 1) := by decide +kernel
theorem dX0_weeksOfFund_15 : decode cX0_weeksOfFund 15 = .ok (.isub, 1) := by decide +kernel
theorem dX0_weeksOfFund_16 : decode cX0_weeksOfFund 16 = .ok (.aload_n 0, 1) := by decide +kernel
theorem dX0_weeksOfFund_17 : decode cX0_weeksOfFund 17 = .ok (.getfield 17, 3) := by decide +kernel
theorem dX0_weeksOfFund_20 : decode cX0_weeksOfFund 20 = .ok (.iconst 1, 1) := by decide +kernel
theorem dX0_weeksOfFund_21 : decode cX0_weeksOfFund 21 = .ok (.iaload, 1) := by decide +kernel
theorem dX0_weeksOfFund_22 : decode cX0_weeksOfFund 22 = .ok (.imul, 1) := by decide +kernel
theorem dX0_weeksOfFund_23 : decode cX0_weeksOfFund 23 = .ok (.istore 4, 2) := by decide +kernel
theorem dX0_weeksOfFund_25 : decode cX0_weeksOfFund 25 = .ok (.iconst 0, 1) := by decide +kernel
theorem dX0_weeksOfFund_26 : decode cX0_weeksOfFund 26 = .ok (.istore 5, 2) := by decide +kernel
theorem dX0_weeksOfFund_28 : decode cX0_weeksOfFund 28 = .ok (.iload 5, 2) := by decide +kernel
theorem dX0_weeksOfFund_30 : decode cX0_weeksOfFund 30 = .ok (.aload_n 1, 1) := by decide +kernel
theorem dX0_weeksOfFund_31 : decode cX0_weeksOfFund 31 = .ok (.getfield 185, 3) := by decide +kernel
theorem dX0_weeksOfFund_34 : decode cX0_weeksOfFund 34 = .ok (.if_icmp .ge 61, 3) := by decide +kernel
theorem dX0_weeksOfFund_37 : decode cX0_weeksOfFund 37 = .ok (.iload 5, 2) := by decide +kernel
theorem dX0_weeksOfFund_39 : decode cX0_weeksOfFund 39 = .ok (.aload_n 1, 1) := by decide +kernel
theorem dX0_weeksOfFund_40 : decode cX0_weeksOfFund 40 = .ok (.getfield 185, 3) := by decide +kernel
theorem dX0_weeksOfFund_43 : decode cX0_weeksOfFund 43 = .ok (.iconst 1, 1) := by decide +kernel
theorem dX0_weeksOfFund_44 : decode cX0_weeksOfFund 44 = .ok (.isub, 1) := by decide +kernel
theorem dX0_weeksOfFund_45 : decode cX0_weeksOfFund 45 = .ok (.if_icmp .ne 7, 3) := by decide +kernel
theorem dX0_weeksOfFund_48 : decode cX0_weeksOfFund 48 = .ok (.iload_n 3, 1) := by decide +kernel
theorem dX0_weeksOfFund_49 : decode cX0_weeksOfFund 49 = .ok (.goto 7, 3) := by decide +kernel
theorem dX0_weeksOfFund_52 : decode cX0_weeksOfFund 52 = .ok (.aload_n 1, 1) := by decide +kernel
theorem dX0_weeksOfFund_53 : decode cX0_weeksOfFund 53 = .ok (.getfield 188, 3) := by decide +kernel
theorem dX0_weeksOfFund_56 : decode cX0_weeksOfFund 56 = .ok (.istore 6, 2) := by decide +kernel
theorem dX0_weeksOfFund_58 : decode cX0_weeksOfFund 58 = .ok (.iload 6, 2) := by decide +kernel
theorem dX0_weeksOfFund_60 : decode cX0_weeksOfFund 60 = .ok (.aload_n 1, 1) := by decide +kernel
theorem dX0_weeksOfFund_61 : decode cX0_weeksOfFund 61 = .ok (.getfield 146, 3) := by decide +kernel
theorem dX0_weeksOfFund_64 : decode cX0_weeksOfFund 64 = .ok (.iadd, 1) := by decide +kernel
theorem dX0_weeksOfFund_65 : decode cX0_weeksOfFund 65 = .ok (.istore 7, 2) := by decide +kernel
theorem dX0_weeksOfFund_67 : decode cX0_weeksOfFund 67 = .ok (.iload 7, 2) := by decide +kernel
theorem dX0_weeksOfFund_69 : decode cX0_weeksOfFund 69 = .ok (.iload_n 2, 1) := by decide +kernel
theorem dX0_weeksOfFund_70 : decode cX0_weeksOfFund 70 = .ok (.if_icmp .le 6, 3) := by decide +kernel
theorem dX0_weeksOfFund_73 : decode cX0_weeksOfFund 73 = .ok (.iload 5, 2) := by decide +kernel
theorem dX0_weeksOfFund_75 : decode cX0_weeksOfFund 75 = .ok (.ireturn, 1) := by decide +kernel
theorem dX0_weeksOfFund_76 : decode cX0_weeksOfFund 76 = .ok (.iload_n 2, 1) := by decide +kernel
theorem dX0_weeksOfFund_77 : decode cX0_weeksOfFund 77 = .ok (.iload 4, 2) := by decide +kernel
theorem dX0_weeksOfFund_79 : decode cX0_weeksOfFund 79 = .ok (.iload 7, 2) := by decide +kernel
theorem dX0_weeksOfFund_81 : decode cX0_weeksOfFund 81 = .ok (.isub, 1) := by decide +kernel
theorem dX0_weeksOfFund_82 : decode cX0_weeksOfFund 82 = .ok (.iadd, 1) := by decide +kernel
theorem dX0_weeksOfFund_83 : decode cX0_weeksOfFund 83 = .ok (.istore_n 2, 1) := by decide +kernel
theorem dX0_weeksOfFund_84 : decode cX0_weeksOfFund 84 = .ok (.iload_n 3, 1) := by decide +kernel
theorem dX0_weeksOfFund_85 : decode cX0_weeksOfFund 85 = .ok (.iload 6, 2) := by decide +kernel
theorem dX0_weeksOfFund_87 : decode cX0_weeksOfFund 87 = .ok (.isub, 1) := by decide +kernel
theorem dX0_weeksOfFund_88 : decode cX0_weeksOfFund 88 = .ok (.istore_n 3, 1) := by decide +kernel
theorem dX0_weeksOfFund_89 : decode cX0_weeksOfFund 89 = .ok (.iinc 5 1, 3) := by decide +kernel
theorem dX0_weeksOfFund_92 : decode cX0_weeksOfFund 92 = .ok (.goto (-64), 3) := by decide +kernel
theorem dX0_weeksOfFund_95 : decode cX0_weeksOfFund 95 = .ok (.iconst (-1), 1) := by decide +kernel
theorem dX0_weeksOfFund_96 : decode cX0_weeksOfFund 96 = .ok (.ireturn, 1) := by decide +kernel
set_option maxRecDepth 20000 in
theorem ggX0_weakestNumber_X0_memberCount : GoodIn wsX0_weakestNumber wsX0_memberCount := goodIn_r _ [7, 1, 24, 25, 26, 27, 28, 29, 30, 31, 32, 33, 34, 35, 36, 37, 38, 39, 40, 41, 42, 43, 44, 45, 46, 47, 48, 49, 50] (by decide +kernel) (by decide +kernel)
set_option maxRecDepth 20000 in
theorem gX0_weakestNumber_X0_memberCount : GoodIn wsX0_weakestNumber (wsV RX0 69 RX0 yX0_memberCount wsX0_memberCount) := goodIn_app (goodIn_of _ (by decide +kernel)) ggX0_weakestNumber_X0_memberCount
set_option maxRecDepth 20000 in
theorem ggX0_weakestNumber_X2_due : GoodIn wsX0_weakestNumber wsX2_due := goodIn_r _ [11, 12, 13, 14, 15, 9, 16, 17, 18, 19, 20, 21, 22, 23, 35, 36, 37, 38, 39, 40, 41, 42, 43, 44, 45, 46, 47, 48, 49, 50] (by decide +kernel) (by decide +kernel)
set_option maxRecDepth 20000 in
theorem gX0_weakestNumber_X2_due_n143 : GoodIn wsX0_weakestNumber (wsX2_due) := ggX0_weakestNumber_X2_due
theorem dX0_weakestNumber_0 : decode cX0_weakestNumber 0 = .ok (.iconst (-1), 1) := by decide +kernel
theorem dX0_weakestNumber_1 : decode cX0_weakestNumber 1 = .ok (.istore_n 1, 1) := by decide +kernel
theorem dX0_weakestNumber_2 : decode cX0_weakestNumber 2 = .ok (.iconst 0, 1) := by decide +kernel
theorem dX0_weakestNumber_3 : decode cX0_weakestNumber 3 = .ok (.istore_n 2, 1) := by decide +kernel
theorem dX0_weakestNumber_4 : decode cX0_weakestNumber 4 = .ok (.aload_n 0, 1) := by decide +kernel
theorem dX0_weakestNumber_5 : decode cX0_weakestNumber 5 = .ok (.invokevirtual 69, 3) := by decide +kernel
theorem dX0_weakestNumber_8 : decode cX0_weakestNumber 8 = .ok (.iconst 2, 1) := by decide +kernel
theorem dX0_weakestNumber_9 : decode cX0_weakestNumber 9 = .ok (.if_icmp .ge 5, 3) := by decide +kernel
theorem dX0_weakestNumber_12 : decode cX0_weakestNumber 12 = .ok (.iconst (-1), 1) := by decide +kernel
theorem dX0_weakestNumber_13 : decode cX0_weakestNumber 13 = .ok (.ireturn, 1) := by decide +kernel
theorem dX0_weakestNumber_14 : decode cX0_weakestNumber 14 = .ok (.aload_n 0, 1) := by decide +kernel
theorem dX0_weakestNumber_15 : decode cX0_weakestNumber 15 = .ok (.getfield 11, 3) := by decide +kernel
theorem dX0_weakestNumber_18 : decode cX0_weakestNumber 18 = .ok (.astore_n 3, 1) := by decide +kernel
theorem dX0_weakestNumber_19 : decode cX0_weakestNumber 19 = .ok (.aload_n 3, 1) := by decide +kernel
theorem dX0_weakestNumber_20 : decode cX0_weakestNumber 20 = .ok (.arraylength, 1) := by decide +kernel
theorem dX0_weakestNumber_21 : decode cX0_weakestNumber 21 = .ok (.istore 4, 2) := by decide +kernel
theorem dX0_weakestNumber_23 : decode cX0_weakestNumber 23 = .ok (.iconst 0, 1) := by decide +kernel
theorem dX0_weakestNumber_24 : decode cX0_weakestNumber 24 = .ok (.istore 5, 2) := by decide +kernel
theorem dX0_weakestNumber_26 : decode cX0_weakestNumber 26 = .ok (.iload 5, 2) := by decide +kernel
theorem dX0_weakestNumber_28 : decode cX0_weakestNumber 28 = .ok (.iload 4, 2) := by decide +kernel
theorem dX0_weakestNumber_30 : decode cX0_weakestNumber 30 = .ok (.if_icmp .ge 42, 3) := by decide +kernel
theorem dX0_weakestNumber_33 : decode cX0_weakestNumber 33 = .ok (.aload_n 3, 1) := by decide +kernel
theorem dX0_weakestNumber_34 : decode cX0_weakestNumber 34 = .ok (.iload 5, 2) := by decide +kernel
theorem dX0_weakestNumber_36 : decode cX0_weakestNumber 36 = .ok (.aaload, 1) := by decide +kernel
theorem dX0_weakestNumber_37 : decode cX0_weakestNumber 37 = .ok (.astore 6, 2) := by decide +kernel
theorem dX0_weakestNumber_39 : decode cX0_weakestNumber 39 = .ok (.aload 6, 2) := by decide +kernel
theorem dX0_weakestNumber_41 : decode cX0_weakestNumber 41 = .ok (.invokevirtual 143, 3) := by decide +kernel
theorem dX0_weakestNumber_44 : decode cX0_weakestNumber 44 = .ok (.aload_n 0, 1) := by decide +kernel
theorem dX0_weakestNumber_45 : decode cX0_weakestNumber 45 = .ok (.getfield 47, 3) := by decide +kernel
theorem dX0_weakestNumber_48 : decode cX0_weakestNumber 48 = .ok (.isub, 1) := by decide +kernel
theorem dX0_weakestNumber_49 : decode cX0_weakestNumber 49 = .ok (.istore 7, 2) := by decide +kernel
theorem dX0_weakestNumber_51 : decode cX0_weakestNumber 51 = .ok (.iload 7, 2) := by decide +kernel
theorem dX0_weakestNumber_53 : decode cX0_weakestNumber 53 = .ok (.iload_n 2, 1) := by decide +kernel
theorem dX0_weakestNumber_54 : decode cX0_weakestNumber 54 = .ok (.if_icmp .le 12, 3) := by decide +kernel
theorem dX0_weakestNumber_57 : decode cX0_weakestNumber 57 = .ok (.iload 7, 2) := by decide +kernel
theorem dX0_weakestNumber_59 : decode cX0_weakestNumber 59 = .ok (.istore_n 2, 1) := by decide +kernel
theorem dX0_weakestNumber_60 : decode cX0_weakestNumber 60 = .ok (.aload 6, 2) := by decide +kernel
theorem dX0_weakestNumber_62 : decode cX0_weakestNumber 62 = .ok (.getfield 90, 3) := by decide +kernel
theorem dX0_weakestNumber_65 : decode cX0_weakestNumber 65 = .ok (.istore_n 1, 1) := by decide +kernel
theorem dX0_weakestNumber_66 : decode cX0_weakestNumber 66 = .ok (.iinc 5 1, 3) := by decide +kernel
theorem dX0_weakestNumber_69 : decode cX0_weakestNumber 69 = .ok (.goto (-43), 3) := by decide +kernel
theorem dX0_weakestNumber_72 : decode cX0_weakestNumber 72 = .ok (.iload_n 1, 1) := by decide +kernel
theorem dX0_weakestNumber_73 : decode cX0_weakestNumber 73 = .ok (.ireturn, 1) := by decide +kernel
theorem dX0_mostLoanWeeks_0 : decode cX0_mostLoanWeeks 0 = .ok (.iconst 0, 1) := by decide +kernel
theorem dX0_mostLoanWeeks_1 : decode cX0_mostLoanWeeks 1 = .ok (.istore_n 1, 1) := by decide +kernel
theorem dX0_mostLoanWeeks_2 : decode cX0_mostLoanWeeks 2 = .ok (.aload_n 0, 1) := by decide +kernel
theorem dX0_mostLoanWeeks_3 : decode cX0_mostLoanWeeks 3 = .ok (.getfield 11, 3) := by decide +kernel
theorem dX0_mostLoanWeeks_6 : decode cX0_mostLoanWeeks 6 = .ok (.astore_n 2, 1) := by decide +kernel
theorem dX0_mostLoanWeeks_7 : decode cX0_mostLoanWeeks 7 = .ok (.aload_n 2, 1) := by decide +kernel
theorem dX0_mostLoanWeeks_8 : decode cX0_mostLoanWeeks 8 = .ok (.arraylength, 1) := by decide +kernel
theorem dX0_mostLoanWeeks_9 : decode cX0_mostLoanWeeks 9 = .ok (.istore_n 3, 1) := by decide +kernel
theorem dX0_mostLoanWeeks_10 : decode cX0_mostLoanWeeks 10 = .ok (.iconst 0, 1) := by decide +kernel
theorem dX0_mostLoanWeeks_11 : decode cX0_mostLoanWeeks 11 = .ok (.istore 4, 2) := by decide +kernel
theorem dX0_mostLoanWeeks_13 : decode cX0_mostLoanWeeks 13 = .ok (.iload 4, 2) := by decide +kernel
theorem dX0_mostLoanWeeks_15 : decode cX0_mostLoanWeeks 15 = .ok (.iload_n 3, 1) := by decide +kernel
theorem dX0_mostLoanWeeks_16 : decode cX0_mostLoanWeeks 16 = .ok (.if_icmp .ge 25, 3) := by decide +kernel
theorem dX0_mostLoanWeeks_19 : decode cX0_mostLoanWeeks 19 = .ok (.aload_n 2, 1) := by decide +kernel
theorem dX0_mostLoanWeeks_20 : decode cX0_mostLoanWeeks 20 = .ok (.iload 4, 2) := by decide +kernel
theorem dX0_mostLoanWeeks_22 : decode cX0_mostLoanWeeks 22 = .ok (.aaload, 1) := by decide +kernel
theorem dX0_mostLoanWeeks_23 : decode cX0_mostLoanWeeks 23 = .ok (.astore 5, 2) := by decide +kernel
theorem dX0_mostLoanWeeks_25 : decode cX0_mostLoanWeeks 25 = .ok (.iload_n 1, 1) := by decide +kernel
theorem dX0_mostLoanWeeks_26 : decode cX0_mostLoanWeeks 26 = .ok (.aload 5, 2) := by decide +kernel
theorem dX0_mostLoanWeeks_28 : decode cX0_mostLoanWeeks 28 = .ok (.getfield 185, 3) := by decide +kernel
theorem dX0_mostLoanWeeks_31 : decode cX0_mostLoanWeeks 31 = .ok (.invokestatic 182, 3) := by decide +kernel
theorem dX0_mostLoanWeeks_34 : decode cX0_mostLoanWeeks 34 = .ok (.istore_n 1, 1) := by decide +kernel
theorem dX0_mostLoanWeeks_35 : decode cX0_mostLoanWeeks 35 = .ok (.iinc 4 1, 3) := by decide +kernel
theorem dX0_mostLoanWeeks_38 : decode cX0_mostLoanWeeks 38 = .ok (.goto (-25), 3) := by decide +kernel
theorem dX0_mostLoanWeeks_41 : decode cX0_mostLoanWeeks 41 = .ok (.iload_n 1, 1) := by decide +kernel
theorem dX0_mostLoanWeeks_42 : decode cX0_mostLoanWeeks 42 = .ok (.ireturn, 1) := by decide +kernel
theorem dX0_shareOfPaid_0 : decode cX0_shareOfPaid 0 = .ok (.aload_n 0, 1) := by decide +kernel
theorem dX0_shareOfPaid_1 : decode cX0_shareOfPaid 1 = .ok (.getfield 50, 3) := by decide +kernel
theorem dX0_shareOfPaid_4 : decode cX0_shareOfPaid 4 = .ok (.aload_n 0, 1) := by decide +kernel
theorem dX0_shareOfPaid_5 : decode cX0_shareOfPaid 5 = .ok (.getfield 53, 3) := by decide +kernel
theorem dX0_shareOfPaid_8 : decode cX0_shareOfPaid 8 = .ok (.iadd, 1) := by decide +kernel
theorem dX0_shareOfPaid_9 : decode cX0_shareOfPaid 9 = .ok (.istore_n 1, 1) := by decide +kernel
theorem dX0_shareOfPaid_10 : decode cX0_shareOfPaid 10 = .ok (.iload_n 1, 1) := by decide +kernel
theorem dX0_shareOfPaid_11 : decode cX0_shareOfPaid 11 = .ok (.ifCond .le 14, 3) := by decide +kernel
theorem dX0_shareOfPaid_14 : decode cX0_shareOfPaid 14 = .ok (.aload_n 0, 1) := by decide +kernel
theorem dX0_shareOfPaid_15 : decode cX0_shareOfPaid 15 = .ok (.getfield 56, 3) := by decide +kernel
theorem dX0_shareOfPaid_18 : decode cX0_shareOfPaid 18 = .ok (.i2d, 1) := by decide +kernel
theorem dX0_shareOfPaid_19 : decode cX0_shareOfPaid 19 = .ok (.iload_n 1, 1) := by decide +kernel
theorem dX0_shareOfPaid_20 : decode cX0_shareOfPaid 20 = .ok (.i2d, 1) := by decide +kernel
theorem dX0_shareOfPaid_21 : decode cX0_shareOfPaid 21 = .ok (.ddiv, 1) := by decide +kernel
theorem dX0_shareOfPaid_22 : decode cX0_shareOfPaid 22 = .ok (.goto 4, 3) := by decide +kernel
theorem dX0_shareOfPaid_25 : decode cX0_shareOfPaid 25 = .ok (.dconst 1, 1) := by decide +kernel
theorem dX0_shareOfPaid_26 : decode cX0_shareOfPaid 26 = .ok (.dreturn, 1) := by decide +kernel
set_option maxRecDepth 20000 in
theorem ggX1_init_X0_init : GoodIn wsX1_init wsX0_init := goodIn_r _ [9, 10, 2, 3, 11, 12, 13, 14, 15, 16, 17, 18, 19, 20, 21, 22, 26, 27, 28, 29, 30, 31, 32, 33, 34, 35, 36, 37, 38, 39, 40, 41, 42, 43, 44, 45, 46, 47, 48, 49, 50, 51, 52] (by decide +kernel) (by decide +kernel)
set_option maxRecDepth 20000 in
theorem gX1_init_X0_init_n17 : GoodIn wsX1_init (wsX0_init) := ggX1_init_X0_init
theorem dX1_init_0 : decode cX1_init 0 = .ok (.aload_n 0, 1) := by decide +kernel
theorem dX1_init_1 : decode cX1_init 1 = .ok (.invokespecial 3, 3) := by decide +kernel
theorem dX1_init_4 : decode cX1_init 4 = .ok (.aload_n 0, 1) := by decide +kernel
theorem dX1_init_5 : decode cX1_init 5 = .ok (.bipush 6, 2) := by decide +kernel
theorem dX1_init_7 : decode cX1_init 7 = .ok (.anewarray 9, 3) := by decide +kernel
theorem dX1_init_10 : decode cX1_init 10 = .ok (.putfield 11, 3) := by decide +kernel
theorem dX1_init_13 : decode cX1_init 13 = .ok (.iconst 0, 1) := by decide +kernel
theorem dX1_init_14 : decode cX1_init 14 = .ok (.istore_n 1, 1) := by decide +kernel
theorem dX1_init_15 : decode cX1_init 15 = .ok (.iload_n 1, 1) := by decide +kernel
theorem dX1_init_16 : decode cX1_init 16 = .ok (.bipush 6, 2) := by decide +kernel
theorem dX1_init_18 : decode cX1_init 18 = .ok (.if_icmp .ge 22, 3) := by decide +kernel
theorem dX1_init_21 : decode cX1_init 21 = .ok (.aload_n 0, 1) := by decide +kernel
theorem dX1_init_22 : decode cX1_init 22 = .ok (.getfield 11, 3) := by decide +kernel
theorem dX1_init_25 : decode cX1_init 25 = .ok (.iload_n 1, 1) := by decide +kernel
theorem dX1_init_26 : decode cX1_init 26 = .ok (.new 9, 3) := by decide +kernel
theorem dX1_init_29 : decode cX1_init 29 = .ok (.dup, 1) := by decide +kernel
theorem dX1_init_30 : decode cX1_init 30 = .ok (.invokespecial 17, 3) := by decide +kernel
theorem dX1_init_33 : decode cX1_init 33 = .ok (.aastore, 1) := by decide +kernel
theorem dX1_init_34 : decode cX1_init 34 = .ok (.iinc 1 1, 3) := by decide +kernel
theorem dX1_init_37 : decode cX1_init 37 = .ok (.goto (-22), 3) := by decide +kernel
theorem dX1_init_40 : decode cX1_init 40 = .ok (.return_, 1) := by decide +kernel
set_option maxRecDepth 20000 in
theorem ggX1_keep_J9_floorMod_7cf53 : GoodIn wsX1_keep wsJ9_floorMod_7cf53 := goodIn_r _ [7] (by decide +kernel) (by decide +kernel)
set_option maxRecDepth 20000 in
theorem gX1_keep_J9_floorMod_7cf53 : GoodIn wsX1_keep (va_wsS RX1 25 yJ9_floorMod_7cf53 wsJ9_floorMod_7cf53) := goodIn_app (goodIn_of _ (by decide +kernel)) ggX1_keep_J9_floorMod_7cf53
set_option maxRecDepth 20000 in
theorem ggX1_keep_X0_copyFrom : GoodIn wsX1_keep wsX0_copyFrom := goodIn_r _ [11, 12, 13, 14, 15, 16, 17, 18, 19, 20, 21, 22, 23, 24, 25, 26, 27, 28, 29, 30, 31, 32, 33, 34, 35, 36, 37, 38, 39, 40, 41, 42, 43, 44, 45, 46, 50, 51, 52, 53, 54, 55, 56, 57, 58, 59, 60, 61, 62, 63, 64, 65, 66, 67, 68, 69, 70, 71, 72, 73, 74, 75, 76] (by decide +kernel) (by decide +kernel)
set_option maxRecDepth 20000 in
theorem gX1_keep_X0_copyFrom_n31 : GoodIn wsX1_keep (wsX0_copyFrom) := ggX1_keep_X0_copyFrom
theorem dX1_keep_0 : decode cX1_keep 0 = .ok (.aload_n 0, 1) := by decide +kernel
theorem dX1_keep_1 : decode cX1_keep 1 = .ok (.getfield 11, 3) := by decide +kernel
theorem dX1_keep_4 : decode cX1_keep 4 = .ok (.aload_n 0, 1) := by decide +kernel
theorem dX1_keep_5 : decode cX1_keep 5 = .ok (.getfield 18, 3) := by decide +kernel
theorem dX1_keep_8 : decode cX1_keep 8 = .ok (.aload_n 0, 1) := by decide +kernel
theorem dX1_keep_9 : decode cX1_keep 9 = .ok (.getfield 22, 3) := by decide +kernel
theorem dX1_keep_12 : decode cX1_keep 12 = .ok (.iadd, 1) := by decide +kernel
theorem dX1_keep_13 : decode cX1_keep 13 = .ok (.bipush 6, 2) := by decide +kernel
theorem dX1_keep_15 : decode cX1_keep 15 = .ok (.invokestatic 25, 3) := by decide +kernel
theorem dX1_keep_18 : decode cX1_keep 18 = .ok (.aaload, 1) := by decide +kernel
theorem dX1_keep_19 : decode cX1_keep 19 = .ok (.aload_n 1, 1) := by decide +kernel
theorem dX1_keep_20 : decode cX1_keep 20 = .ok (.invokevirtual 31, 3) := by decide +kernel
theorem dX1_keep_23 : decode cX1_keep 23 = .ok (.aload_n 0, 1) := by decide +kernel
theorem dX1_keep_24 : decode cX1_keep 24 = .ok (.getfield 22, 3) := by decide +kernel
theorem dX1_keep_27 : decode cX1_keep 27 = .ok (.bipush 6, 2) := by decide +kernel
theorem dX1_keep_29 : decode cX1_keep 29 = .ok (.if_icmp .ge 16, 3) := by decide +kernel
theorem dX1_keep_32 : decode cX1_keep 32 = .ok (.aload_n 0, 1) := by decide +kernel
theorem dX1_keep_33 : decode cX1_keep 33 = .ok (.dup, 1) := by decide +kernel
theorem dX1_keep_34 : decode cX1_keep 34 = .ok (.getfield 22, 3) := by decide +kernel
theorem dX1_keep_37 : decode cX1_keep 37 = .ok (.iconst 1, 1) := by decide +kernel
theorem dX1_keep_38 : decode cX1_keep 38 = .ok (.iadd, 1) := by decide +kernel
theorem dX1_keep_39 : decode cX1_keep 39 = .ok (.putfield 22, 3) := by decide +kernel
theorem dX1_keep_42 : decode cX1_keep 42 = .ok (.goto 18, 3) := by decide +kernel
theorem dX1_keep_45 : decode cX1_keep 45 = .ok (.aload_n 0, 1) := by decide +kernel
theorem dX1_keep_46 : decode cX1_keep 46 = .ok (.aload_n 0, 1) := by decide +kernel
theorem dX1_keep_47 : decode cX1_keep 47 = .ok (.getfield 18, 3) := by decide +kernel
theorem dX1_keep_50 : decode cX1_keep 50 = .ok (.iconst 1, 1) := by decide +kernel
theorem dX1_keep_51 : decode cX1_keep 51 = .ok (.iadd, 1) := by decide +kernel
theorem dX1_keep_52 : decode cX1_keep 52 = .ok (.bipush 6, 2) := by decide +kernel
theorem dX1_keep_54 : decode cX1_keep 54 = .ok (.invokestatic 25, 3) := by decide +kernel
theorem dX1_keep_57 : decode cX1_keep 57 = .ok (.putfield 18, 3) := by decide +kernel
theorem dX1_keep_60 : decode cX1_keep 60 = .ok (.return_, 1) := by decide +kernel
set_option maxRecDepth 20000 in
theorem ggX1_takeBack_J9_floorMod_7cf53 : GoodIn wsX1_takeBack wsJ9_floorMod_7cf53 := goodIn_r _ [7] (by decide +kernel) (by decide +kernel)
set_option maxRecDepth 20000 in
theorem gX1_takeBack_J9_floorMod_7cf53 : GoodIn wsX1_takeBack (va_wsS RX1 25 yJ9_floorMod_7cf53 wsJ9_floorMod_7cf53) := goodIn_app (goodIn_of _ (by decide +kernel)) ggX1_takeBack_J9_floorMod_7cf53
set_option maxRecDepth 20000 in
theorem ggX1_takeBack_X0_copyFrom : GoodIn wsX1_takeBack wsX0_copyFrom := goodIn_r _ [11, 12, 13, 14, 15, 16, 17, 18, 19, 20, 21, 22, 23, 24, 25, 26, 27, 28, 29, 30, 31, 32, 33, 34, 35, 36, 37, 38, 39, 40, 41, 42, 43, 44, 45, 46, 50, 51, 52, 53, 54, 55, 56, 57, 58, 59, 60, 61, 62, 63, 64, 65, 66, 67, 68, 69, 70, 71, 72, 73, 74, 75, 76] (by decide +kernel) (by decide +kernel)
set_option maxRecDepth 20000 in
theorem gX1_takeBack_X0_copyFrom_n31 : GoodIn wsX1_takeBack (wsX0_copyFrom) := ggX1_takeBack_X0_copyFrom
theorem dX1_takeBack_0 : decode cX1_takeBack 0 = .ok (.aload_n 0, 1) := by decide +kernel
theorem dX1_takeBack_1 : decode cX1_takeBack 1 = .ok (.getfield 22, 3) := by decide +kernel
theorem dX1_takeBack_4 : decode cX1_takeBack 4 = .ok (.ifCond .gt 4, 3) := by decide +kernel
theorem dX1_takeBack_7 : decode cX1_takeBack 7 = .ok (.return_, 1) := by decide +kernel
theorem dX1_takeBack_8 : decode cX1_takeBack 8 = .ok (.aload_n 0, 1) := by decide +kernel
theorem dX1_takeBack_9 : decode cX1_takeBack 9 = .ok (.dup, 1) := by decide +kernel
theorem dX1_takeBack_10 : decode cX1_takeBack 10 = .ok (.getfield 22, 3) := by decide +kernel
theorem dX1_takeBack_13 : decode cX1_takeBack 13 = .ok (.iconst 1, 1) := by decide +kernel
theorem dX1_takeBack_14 : decode cX1_takeBack 14 = .ok (.isub, 1) := by decide +kernel
theorem dX1_takeBack_15 : decode cX1_takeBack 15 = .ok (.putfield 22, 3) := by decide +kernel
theorem dX1_takeBack_18 : decode cX1_takeBack 18 = .ok (.aload_n 1, 1) := by decide +kernel
theorem dX1_takeBack_19 : decode cX1_takeBack 19 = .ok (.aload_n 0, 1) := by decide +kernel
theorem dX1_takeBack_20 : decode cX1_takeBack 20 = .ok (.getfield 11, 3) := by decide +kernel
theorem dX1_takeBack_23 : decode cX1_takeBack 23 = .ok (.aload_n 0, 1) := by decide +kernel
theorem dX1_takeBack_24 : decode cX1_takeBack 24 = .ok (.getfield 18, 3) := by decide +kernel
theorem dX1_takeBack_27 : decode cX1_takeBack 27 = .ok (.aload_n 0, 1) := by decide +kernel
theorem dX1_takeBack_28 : decode cX1_takeBack 28 = .ok (.getfield 22, 3) := by decide +kernel
theorem dX1_takeBack_31 : decode cX1_takeBack 31 = .ok (.iadd, 1) := by decide +kernel
theorem dX1_takeBack_32 : decode cX1_takeBack 32 = .ok (.bipush 6, 2) := by decide +kernel
theorem dX1_takeBack_34 : decode cX1_takeBack 34 = .ok (.invokestatic 25, 3) := by decide +kernel
theorem dX1_takeBack_37 : decode cX1_takeBack 37 = .ok (.aaload, 1) := by decide +kernel
theorem dX1_takeBack_38 : decode cX1_takeBack 38 = .ok (.invokevirtual 31, 3) := by decide +kernel
theorem dX1_takeBack_41 : decode cX1_takeBack 41 = .ok (.return_, 1) := by decide +kernel
theorem dX2_init_0 : decode cX2_init 0 = .ok (.aload_n 0, 1) := by decide +kernel
theorem dX2_init_1 : decode cX2_init 1 = .ok (.invokespecial 3, 3) := by decide +kernel
theorem dX2_init_4 : decode cX2_init 4 = .ok (.aload_n 0, 1) := by decide +kernel
theorem dX2_init_5 : decode cX2_init 5 = .ok (.bipush 8, 2) := by decide +kernel
theorem dX2_init_7 : decode cX2_init 7 = .ok (.newarray .int, 2) := by decide +kernel
theorem dX2_init_9 : decode cX2_init 9 = .ok (.putfield 9, 3) := by decide +kernel
theorem dX2_init_12 : decode cX2_init 12 = .ok (.aload_n 0, 1) := by decide +kernel
theorem dX2_init_13 : decode cX2_init 13 = .ok (.iload_n 1, 1) := by decide +kernel
theorem dX2_init_14 : decode cX2_init 14 = .ok (.putfield 15, 3) := by decide +kernel
theorem dX2_init_17 : decode cX2_init 17 = .ok (.return_, 1) := by decide +kernel
theorem dX2_hasLoan_0 : decode cX2_hasLoan 0 = .ok (.aload_n 0, 1) := by decide +kernel
theorem dX2_hasLoan_1 : decode cX2_hasLoan 1 = .ok (.getfield 19, 3) := by decide +kernel
theorem dX2_hasLoan_4 : decode cX2_hasLoan 4 = .ok (.ifCond .le 7, 3) := by decide +kernel
theorem dX2_hasLoan_7 : decode cX2_hasLoan 7 = .ok (.iconst 1, 1) := by decide +kernel
theorem dX2_hasLoan_8 : decode cX2_hasLoan 8 = .ok (.goto 4, 3) := by decide +kernel
theorem dX2_hasLoan_11 : decode cX2_hasLoan 11 = .ok (.iconst 0, 1) := by decide +kernel
theorem dX2_hasLoan_12 : decode cX2_hasLoan 12 = .ok (.ireturn, 1) := by decide +kernel
theorem dX2_part_0 : decode cX2_part 0 = .ok (.aload_n 0, 1) := by decide +kernel
theorem dX2_part_1 : decode cX2_part 1 = .ok (.getfield 19, 3) := by decide +kernel
theorem dX2_part_4 : decode cX2_part 4 = .ok (.iconst 1, 1) := by decide +kernel
theorem dX2_part_5 : decode cX2_part 5 = .ok (.if_icmp .ne 10, 3) := by decide +kernel
theorem dX2_part_8 : decode cX2_part 8 = .ok (.aload_n 0, 1) := by decide +kernel
theorem dX2_part_9 : decode cX2_part 9 = .ok (.getfield 22, 3) := by decide +kernel
theorem dX2_part_12 : decode cX2_part 12 = .ok (.goto 7, 3) := by decide +kernel
theorem dX2_part_15 : decode cX2_part 15 = .ok (.aload_n 0, 1) := by decide +kernel
theorem dX2_part_16 : decode cX2_part 16 = .ok (.getfield 25, 3) := by decide +kernel
theorem dX2_part_19 : decode cX2_part 19 = .ok (.ireturn, 1) := by decide +kernel
set_option maxRecDepth 20000 in
theorem ggX2_due_X2_hasLoan : GoodIn wsX2_due wsX2_hasLoan := goodIn_r _ [6, 7, 14, 15, 16, 17, 18, 19, 20, 21, 22, 23, 24, 25, 26, 27, 28, 29] (by decide +kernel) (by decide +kernel)
set_option maxRecDepth 20000 in
theorem gX2_due_X2_hasLoan : GoodIn wsX2_due (wsV RX2 28 RX2 yX2_hasLoan wsX2_hasLoan) := goodIn_app (goodIn_of _ (by decide +kernel)) ggX2_due_X2_hasLoan
set_option maxRecDepth 20000 in
theorem ggX2_due_X2_part : GoodIn wsX2_due wsX2_part := goodIn_r _ [11, 7, 12, 13, 14, 15, 16, 17, 18, 19, 20, 21, 22, 23, 24, 25, 26, 27, 28, 29] (by decide +kernel) (by decide +kernel)
set_option maxRecDepth 20000 in
theorem gX2_due_X2_part : GoodIn wsX2_due (wsV RX2 32 RX2 yX2_part wsX2_part) := goodIn_app (goodIn_of _ (by decide +kernel)) ggX2_due_X2_part
theorem dX2_due_0 : decode cX2_due 0 = .ok (.aload_n 0, 1) := by decide +kernel
theorem dX2_due_1 : decode cX2_due 1 = .ok (.invokevirtual 28, 3) := by decide +kernel
theorem dX2_due_4 : decode cX2_due 4 = .ok (.ifCond .eq 15, 3) := by decide +kernel
theorem dX2_due_7 : decode cX2_due 7 = .ok (.aload_n 0, 1) := by decide +kernel
theorem dX2_due_8 : decode cX2_due 8 = .ok (.invokevirtual 32, 3) := by decide +kernel
theorem dX2_due_11 : decode cX2_due 11 = .ok (.aload_n 0, 1) := by decide +kernel
theorem dX2_due_12 : decode cX2_due 12 = .ok (.getfield 36, 3) := by decide +kernel
theorem dX2_due_15 : decode cX2_due 15 = .ok (.iadd, 1) := by decide +kernel
theorem dX2_due_16 : decode cX2_due 16 = .ok (.goto 4, 3) := by decide +kernel
theorem dX2_due_19 : decode cX2_due 19 = .ok (.iconst 0, 1) := by decide +kernel
theorem dX2_due_20 : decode cX2_due 20 = .ok (.ireturn, 1) := by decide +kernel
theorem dX2_debtToMembers_0 : decode cX2_debtToMembers 0 = .ok (.iconst 0, 1) := by decide +kernel
theorem dX2_debtToMembers_1 : decode cX2_debtToMembers 1 = .ok (.istore_n 1, 1) := by decide +kernel
theorem dX2_debtToMembers_2 : decode cX2_debtToMembers 2 = .ok (.aload_n 0, 1) := by decide +kernel
theorem dX2_debtToMembers_3 : decode cX2_debtToMembers 3 = .ok (.getfield 9, 3) := by decide +kernel
theorem dX2_debtToMembers_6 : decode cX2_debtToMembers 6 = .ok (.astore_n 2, 1) := by decide +kernel
theorem dX2_debtToMembers_7 : decode cX2_debtToMembers 7 = .ok (.aload_n 2, 1) := by decide +kernel
theorem dX2_debtToMembers_8 : decode cX2_debtToMembers 8 = .ok (.arraylength, 1) := by decide +kernel
theorem dX2_debtToMembers_9 : decode cX2_debtToMembers 9 = .ok (.istore_n 3, 1) := by decide +kernel
theorem dX2_debtToMembers_10 : decode cX2_debtToMembers 10 = .ok (.iconst 0, 1) := by decide +kernel
theorem dX2_debtToMembers_11 : decode cX2_debtToMembers 11 = .ok (.istore 4, 2) := by decide +kernel
theorem dX2_debtToMembers_13 : decode cX2_debtToMembers 13 = .ok (.iload 4, 2) := by decide +kernel
