theorem dX5_leave_6 : decode cX5_leave 6 = .ok (.iload_n 1, 1) := by decide +kernel
theorem dX5_leave_7 : decode cX5_leave 7 = .ok (.invokevirtual 92, 3) := by decide +kernel
theorem dX5_leave_10 : decode cX5_leave 10 = .ok (.ifCond .ne 9, 3) := by decide +kernel
theorem dX5_leave_13 : decode cX5_leave 13 = .ok (.aload_n 0, 1) := by decide +kernel
theorem dX5_leave_14 : decode cX5_leave 14 = .ok (.iconst 1, 1) := by decide +kernel
theorem dX5_leave_15 : decode cX5_leave 15 = .ok (.invokevirtual 43, 3) := by decide +kernel
theorem dX5_leave_18 : decode cX5_leave 18 = .ok (.ireturn, 1) := by decide +kernel
theorem dX5_leave_19 : decode cX5_leave 19 = .ok (.aload_n 0, 1) := by decide +kernel
theorem dX5_leave_20 : decode cX5_leave 20 = .ok (.getfield 7, 3) := by decide +kernel
theorem dX5_leave_23 : decode cX5_leave 23 = .ok (.iload_n 1, 1) := by decide +kernel
theorem dX5_leave_24 : decode cX5_leave 24 = .ok (.iconst 4, 1) := by decide +kernel
theorem dX5_leave_25 : decode cX5_leave 25 = .ok (.invokestatic 36, 3) := by decide +kernel
theorem dX5_leave_28 : decode cX5_leave 28 = .ok (.ifCond .gt 25, 3) := by decide +kernel
theorem dX5_leave_31 : decode cX5_leave 31 = .ok (.aload_n 0, 1) := by decide +kernel
theorem dX5_leave_32 : decode cX5_leave 32 = .ok (.getfield 7, 3) := by decide +kernel
theorem dX5_leave_35 : decode cX5_leave 35 = .ok (.iload_n 1, 1) := by decide +kernel
theorem dX5_leave_36 : decode cX5_leave 36 = .ok (.invokestatic 72, 3) := by decide +kernel
theorem dX5_leave_39 : decode cX5_leave 39 = .ok (.ifCond .gt 14, 3) := by decide +kernel
theorem dX5_leave_42 : decode cX5_leave 42 = .ok (.aload_n 0, 1) := by decide +kernel
theorem dX5_leave_43 : decode cX5_leave 43 = .ok (.getfield 7, 3) := by decide +kernel
theorem dX5_leave_46 : decode cX5_leave 46 = .ok (.iload_n 1, 1) := by decide +kernel
theorem dX5_leave_47 : decode cX5_leave 47 = .ok (.invokestatic 96, 3) := by decide +kernel
theorem dX5_leave_50 : decode cX5_leave 50 = .ok (.ifCond .le 7, 3) := by decide +kernel
theorem dX5_leave_53 : decode cX5_leave 53 = .ok (.iconst 1, 1) := by decide +kernel
theorem dX5_leave_54 : decode cX5_leave 54 = .ok (.goto 4, 3) := by decide +kernel
theorem dX5_leave_57 : decode cX5_leave 57 = .ok (.iconst 0, 1) := by decide +kernel
theorem dX5_leave_58 : decode cX5_leave 58 = .ok (.istore_n 2, 1) := by decide +kernel
theorem dX5_leave_59 : decode cX5_leave 59 = .ok (.aload_n 0, 1) := by decide +kernel
theorem dX5_leave_60 : decode cX5_leave 60 = .ok (.getfield 7, 3) := by decide +kernel
theorem dX5_leave_63 : decode cX5_leave 63 = .ok (.iload_n 1, 1) := by decide +kernel
theorem dX5_leave_64 : decode cX5_leave 64 = .ok (.bipush 12, 2) := by decide +kernel
theorem dX5_leave_66 : decode cX5_leave 66 = .ok (.invokestatic 36, 3) := by decide +kernel
theorem dX5_leave_69 : decode cX5_leave 69 = .ok (.istore_n 3, 1) := by decide +kernel
theorem dX5_leave_70 : decode cX5_leave 70 = .ok (.iload_n 2, 1) := by decide +kernel
theorem dX5_leave_71 : decode cX5_leave 71 = .ok (.ifCond .ne 14, 3) := by decide +kernel
theorem dX5_leave_74 : decode cX5_leave 74 = .ok (.aload_n 0, 1) := by decide +kernel
theorem dX5_leave_75 : decode cX5_leave 75 = .ok (.getfield 7, 3) := by decide +kernel
theorem dX5_leave_78 : decode cX5_leave 78 = .ok (.bipush 8, 2) := by decide +kernel
theorem dX5_leave_80 : decode cX5_leave 80 = .ok (.iaload, 1) := by decide +kernel
theorem dX5_leave_81 : decode cX5_leave 81 = .ok (.iload_n 3, 1) := by decide +kernel
theorem dX5_leave_82 : decode cX5_leave 82 = .ok (.if_icmp .ge 9, 3) := by decide +kernel
theorem dX5_leave_85 : decode cX5_leave 85 = .ok (.aload_n 0, 1) := by decide +kernel
theorem dX5_leave_86 : decode cX5_leave 86 = .ok (.iconst 2, 1) := by decide +kernel
theorem dX5_leave_87 : decode cX5_leave 87 = .ok (.invokevirtual 43, 3) := by decide +kernel
theorem dX5_leave_90 : decode cX5_leave 90 = .ok (.ireturn, 1) := by decide +kernel
theorem dX5_leave_91 : decode cX5_leave 91 = .ok (.aload_n 0, 1) := by decide +kernel
theorem dX5_leave_92 : decode cX5_leave 92 = .ok (.invokevirtual 85, 3) := by decide +kernel
theorem dX5_leave_95 : decode cX5_leave 95 = .ok (.aload_n 0, 1) := by decide +kernel
theorem dX5_leave_96 : decode cX5_leave 96 = .ok (.getfield 7, 3) := by decide +kernel
theorem dX5_leave_99 : decode cX5_leave 99 = .ok (.bipush 8, 2) := by decide +kernel
theorem dX5_leave_101 : decode cX5_leave 101 = .ok (.dup2, 1) := by decide +kernel
theorem dX5_leave_102 : decode cX5_leave 102 = .ok (.iaload, 1) := by decide +kernel
theorem dX5_leave_103 : decode cX5_leave 103 = .ok (.iload_n 3, 1) := by decide +kernel
theorem dX5_leave_104 : decode cX5_leave 104 = .ok (.isub, 1) := by decide +kernel
theorem dX5_leave_105 : decode cX5_leave 105 = .ok (.iastore, 1) := by decide +kernel
theorem dX5_leave_106 : decode cX5_leave 106 = .ok (.iconst 0, 1) := by decide +kernel
theorem dX5_leave_107 : decode cX5_leave 107 = .ok (.istore 4, 2) := by decide +kernel
theorem dX5_leave_109 : decode cX5_leave 109 = .ok (.iload 4, 2) := by decide +kernel
theorem dX5_leave_111 : decode cX5_leave 111 = .ok (.bipush 14, 2) := by decide +kernel
theorem dX5_leave_113 : decode cX5_leave 113 = .ok (.if_icmp .ge 25, 3) := by decide +kernel
theorem dX5_leave_116 : decode cX5_leave 116 = .ok (.aload_n 0, 1) := by decide +kernel
theorem dX5_leave_117 : decode cX5_leave 117 = .ok (.getfield 7, 3) := by decide +kernel
theorem dX5_leave_120 : decode cX5_leave 120 = .ok (.bipush 13, 2) := by decide +kernel
theorem dX5_leave_122 : decode cX5_leave 122 = .ok (.bipush 14, 2) := by decide +kernel
theorem dX5_leave_124 : decode cX5_leave 124 = .ok (.iload_n 1, 1) := by decide +kernel
theorem dX5_leave_125 : decode cX5_leave 125 = .ok (.imul, 1) := by decide +kernel
theorem dX5_leave_126 : decode cX5_leave 126 = .ok (.iadd, 1) := by decide +kernel
theorem dX5_leave_127 : decode cX5_leave 127 = .ok (.iload 4, 2) := by decide +kernel
theorem dX5_leave_129 : decode cX5_leave 129 = .ok (.iadd, 1) := by decide +kernel
theorem dX5_leave_130 : decode cX5_leave 130 = .ok (.iconst 0, 1) := by decide +kernel
theorem dX5_leave_131 : decode cX5_leave 131 = .ok (.iastore, 1) := by decide +kernel
theorem dX5_leave_132 : decode cX5_leave 132 = .ok (.iinc 4 1, 3) := by decide +kernel
theorem dX5_leave_135 : decode cX5_leave 135 = .ok (.goto (-26), 3) := by decide +kernel
theorem dX5_leave_138 : decode cX5_leave 138 = .ok (.aload_n 0, 1) := by decide +kernel
theorem dX5_leave_139 : decode cX5_leave 139 = .ok (.getfield 7, 3) := by decide +kernel
theorem dX5_leave_142 : decode cX5_leave 142 = .ok (.iconst 2, 1) := by decide +kernel
theorem dX5_leave_143 : decode cX5_leave 143 = .ok (.iaload, 1) := by decide +kernel
theorem dX5_leave_144 : decode cX5_leave 144 = .ok (.iload_n 1, 1) := by decide +kernel
theorem dX5_leave_145 : decode cX5_leave 145 = .ok (.if_icmp .ne 17, 3) := by decide +kernel
theorem dX5_leave_148 : decode cX5_leave 148 = .ok (.aload_n 0, 1) := by decide +kernel
theorem dX5_leave_149 : decode cX5_leave 149 = .ok (.getfield 7, 3) := by decide +kernel
theorem dX5_leave_152 : decode cX5_leave 152 = .ok (.iconst 2, 1) := by decide +kernel
theorem dX5_leave_153 : decode cX5_leave 153 = .ok (.aload_n 0, 1) := by decide +kernel
theorem dX5_leave_154 : decode cX5_leave 154 = .ok (.getfield 7, 3) := by decide +kernel
theorem dX5_leave_157 : decode cX5_leave 157 = .ok (.iload_n 1, 1) := by decide +kernel
theorem dX5_leave_158 : decode cX5_leave 158 = .ok (.invokestatic 82, 3) := by decide +kernel
theorem dX5_leave_161 : decode cX5_leave 161 = .ok (.iastore, 1) := by decide +kernel
theorem dX5_leave_162 : decode cX5_leave 162 = .ok (.iload_n 3, 1) := by decide +kernel
theorem dX5_leave_163 : decode cX5_leave 163 = .ok (.ireturn, 1) := by decide +kernel
set_option maxRecDepth 20000 in
theorem ggX5_mayLend_X5_isMember : GoodIn wsX5_mayLend wsX5_isMember := goodIn_r _ [6, 1, 7, 8, 5, 9, 10, 11, 12, 22, 23, 24, 25, 26, 27, 28, 29, 30, 31, 32, 33, 34, 35] (by decide +kernel) (by decide +kernel)
set_option maxRecDepth 20000 in
theorem gX5_mayLend_X5_isMember : GoodIn wsX5_mayLend (wsV RX5 92 RX5 yX5_isMember wsX5_isMember) := goodIn_app (goodIn_of _ (by decide +kernel)) ggX5_mayLend_X5_isMember
set_option maxRecDepth 20000 in
theorem ggX5_mayLend_X5_in : GoodIn wsX5_mayLend wsX5_in := goodIn_r _ [9] (by decide +kernel) (by decide +kernel)
set_option maxRecDepth 20000 in
theorem gX5_mayLend_X5_in : GoodIn wsX5_mayLend (va_wsS RX5 32 yX5_in wsX5_in) := goodIn_app (goodIn_of _ (by decide +kernel)) ggX5_mayLend_X5_in
set_option maxRecDepth 20000 in
theorem ggX5_mayLend_X5_of : GoodIn wsX5_mayLend wsX5_of := goodIn_r _ [12] (by decide +kernel) (by decide +kernel)
set_option maxRecDepth 20000 in
theorem gX5_mayLend_X5_of : GoodIn wsX5_mayLend (va_wsS RX5 36 yX5_of wsX5_of) := goodIn_app (goodIn_of _ (by decide +kernel)) ggX5_mayLend_X5_of
set_option maxRecDepth 20000 in
theorem ggX5_mayLend_X5_debts : GoodIn wsX5_mayLend wsX5_debts := goodIn_r _ [15, 10, 11, 5, 12, 16, 17, 18, 19, 20, 21] (by decide +kernel) (by decide +kernel)
set_option maxRecDepth 20000 in
theorem gX5_mayLend_X5_debts : GoodIn wsX5_mayLend (va_wsS RX5 72 yX5_debts wsX5_debts) := goodIn_app (goodIn_of _ (by decide +kernel)) ggX5_mayLend_X5_debts
theorem dX5_mayLend_0 : decode cX5_mayLend 0 = .ok (.aload_n 0, 1) := by decide +kernel
theorem dX5_mayLend_1 : decode cX5_mayLend 1 = .ok (.iload_n 1, 1) := by decide +kernel
theorem dX5_mayLend_2 : decode cX5_mayLend 2 = .ok (.invokevirtual 92, 3) := by decide +kernel
theorem dX5_mayLend_5 : decode cX5_mayLend 5 = .ok (.ifCond .ne 5, 3) := by decide +kernel
theorem dX5_mayLend_8 : decode cX5_mayLend 8 = .ok (.iconst 1, 1) := by decide +kernel
theorem dX5_mayLend_9 : decode cX5_mayLend 9 = .ok (.ireturn, 1) := by decide +kernel
theorem dX5_mayLend_10 : decode cX5_mayLend 10 = .ok (.iload_n 2, 1) := by decide +kernel
theorem dX5_mayLend_11 : decode cX5_mayLend 11 = .ok (.bipush 10, 2) := by decide +kernel
theorem dX5_mayLend_13 : decode cX5_mayLend 13 = .ok (.sipush 2000, 3) := by decide +kernel
theorem dX5_mayLend_16 : decode cX5_mayLend 16 = .ok (.invokestatic 32, 3) := by decide +kernel
theorem dX5_mayLend_19 : decode cX5_mayLend 19 = .ok (.ifCond .eq 13, 3) := by decide +kernel
theorem dX5_mayLend_22 : decode cX5_mayLend 22 = .ok (.iload_n 3, 1) := by decide +kernel
theorem dX5_mayLend_23 : decode cX5_mayLend 23 = .ok (.iconst 1, 1) := by decide +kernel
theorem dX5_mayLend_24 : decode cX5_mayLend 24 = .ok (.bipush 52, 2) := by decide +kernel
theorem dX5_mayLend_26 : decode cX5_mayLend 26 = .ok (.invokestatic 32, 3) := by decide +kernel
theorem dX5_mayLend_29 : decode cX5_mayLend 29 = .ok (.ifCond .ne 5, 3) := by decide +kernel
theorem dX5_mayLend_32 : decode cX5_mayLend 32 = .ok (.iconst 2, 1) := by decide +kernel
theorem dX5_mayLend_33 : decode cX5_mayLend 33 = .ok (.ireturn, 1) := by decide +kernel
theorem dX5_mayLend_34 : decode cX5_mayLend 34 = .ok (.aload_n 0, 1) := by decide +kernel
theorem dX5_mayLend_35 : decode cX5_mayLend 35 = .ok (.getfield 7, 3) := by decide +kernel
theorem dX5_mayLend_38 : decode cX5_mayLend 38 = .ok (.iload_n 1, 1) := by decide +kernel
theorem dX5_mayLend_39 : decode cX5_mayLend 39 = .ok (.iconst 4, 1) := by decide +kernel
theorem dX5_mayLend_40 : decode cX5_mayLend 40 = .ok (.invokestatic 36, 3) := by decide +kernel
theorem dX5_mayLend_43 : decode cX5_mayLend 43 = .ok (.ifCond .gt 27, 3) := by decide +kernel
theorem dX5_mayLend_46 : decode cX5_mayLend 46 = .ok (.aload_n 0, 1) := by decide +kernel
theorem dX5_mayLend_47 : decode cX5_mayLend 47 = .ok (.getfield 7, 3) := by decide +kernel
theorem dX5_mayLend_50 : decode cX5_mayLend 50 = .ok (.iload_n 1, 1) := by decide +kernel
theorem dX5_mayLend_51 : decode cX5_mayLend 51 = .ok (.invokestatic 72, 3) := by decide +kernel
theorem dX5_mayLend_54 : decode cX5_mayLend 54 = .ok (.ifCond .gt 16, 3) := by decide +kernel
theorem dX5_mayLend_57 : decode cX5_mayLend 57 = .ok (.iload_n 2, 1) := by decide +kernel
theorem dX5_mayLend_58 : decode cX5_mayLend 58 = .ok (.aload_n 0, 1) := by decide +kernel
theorem dX5_mayLend_59 : decode cX5_mayLend 59 = .ok (.getfield 7, 3) := by decide +kernel
theorem dX5_mayLend_62 : decode cX5_mayLend 62 = .ok (.iload_n 1, 1) := by decide +kernel
theorem dX5_mayLend_63 : decode cX5_mayLend 63 = .ok (.iconst 1, 1) := by decide +kernel
theorem dX5_mayLend_64 : decode cX5_mayLend 64 = .ok (.invokestatic 36, 3) := by decide +kernel
theorem dX5_mayLend_67 : decode cX5_mayLend 67 = .ok (.if_icmp .le 7, 3) := by decide +kernel
theorem dX5_mayLend_70 : decode cX5_mayLend 70 = .ok (.iconst 3, 1) := by decide +kernel
theorem dX5_mayLend_71 : decode cX5_mayLend 71 = .ok (.goto 4, 3) := by decide +kernel
theorem dX5_mayLend_74 : decode cX5_mayLend 74 = .ok (.iconst 0, 1) := by decide +kernel
theorem dX5_mayLend_75 : decode cX5_mayLend 75 = .ok (.ireturn, 1) := by decide +kernel
set_option maxRecDepth 20000 in
theorem ggX5_lends_X5_adds : GoodIn wsX5_lends wsX5_adds := goodIn_r _ [5] (by decide +kernel) (by decide +kernel)
set_option maxRecDepth 20000 in
theorem gX5_lends_X5_adds : GoodIn wsX5_lends (va_wsS RX5 60 yX5_adds wsX5_adds) := goodIn_app (goodIn_of _ (by decide +kernel)) ggX5_lends_X5_adds
set_option maxRecDepth 20000 in
theorem ggX5_lends_X5_due : GoodIn wsX5_lends wsX5_due := goodIn_r _ [8, 9, 10, 4, 11, 12, 13, 14] (by decide +kernel) (by decide +kernel)
set_option maxRecDepth 20000 in
theorem gX5_lends_X5_due : GoodIn wsX5_lends (va_wsS RX5 57 yX5_due wsX5_due) := goodIn_app (goodIn_of _ (by decide +kernel)) ggX5_lends_X5_due
theorem dX5_lends_0 : decode cX5_lends 0 = .ok (.aload_n 0, 1) := by decide +kernel
theorem dX5_lends_1 : decode cX5_lends 1 = .ok (.getfield 7, 3) := by decide +kernel
theorem dX5_lends_4 : decode cX5_lends 4 = .ok (.iload_n 1, 1) := by decide +kernel
theorem dX5_lends_5 : decode cX5_lends 5 = .ok (.iconst 2, 1) := by decide +kernel
theorem dX5_lends_6 : decode cX5_lends 6 = .ok (.iload_n 2, 1) := by decide +kernel
theorem dX5_lends_7 : decode cX5_lends 7 = .ok (.invokestatic 60, 3) := by decide +kernel
theorem dX5_lends_10 : decode cX5_lends 10 = .ok (.aload_n 0, 1) := by decide +kernel
theorem dX5_lends_11 : decode cX5_lends 11 = .ok (.getfield 7, 3) := by decide +kernel
theorem dX5_lends_14 : decode cX5_lends 14 = .ok (.iload_n 1, 1) := by decide +kernel
theorem dX5_lends_15 : decode cX5_lends 15 = .ok (.iconst 3, 1) := by decide +kernel
theorem dX5_lends_16 : decode cX5_lends 16 = .ok (.iload_n 2, 1) := by decide +kernel
theorem dX5_lends_17 : decode cX5_lends 17 = .ok (.invokestatic 60, 3) := by decide +kernel
theorem dX5_lends_20 : decode cX5_lends 20 = .ok (.aload_n 0, 1) := by decide +kernel
theorem dX5_lends_21 : decode cX5_lends 21 = .ok (.getfield 7, 3) := by decide +kernel
theorem dX5_lends_24 : decode cX5_lends 24 = .ok (.iload_n 1, 1) := by decide +kernel
theorem dX5_lends_25 : decode cX5_lends 25 = .ok (.iconst 4, 1) := by decide +kernel
theorem dX5_lends_26 : decode cX5_lends 26 = .ok (.iload_n 3, 1) := by decide +kernel
theorem dX5_lends_27 : decode cX5_lends 27 = .ok (.invokestatic 60, 3) := by decide +kernel
theorem dX5_lends_30 : decode cX5_lends 30 = .ok (.aload_n 0, 1) := by decide +kernel
theorem dX5_lends_31 : decode cX5_lends 31 = .ok (.getfield 7, 3) := by decide +kernel
theorem dX5_lends_34 : decode cX5_lends 34 = .ok (.iload_n 1, 1) := by decide +kernel
theorem dX5_lends_35 : decode cX5_lends 35 = .ok (.iconst 5, 1) := by decide +kernel
theorem dX5_lends_36 : decode cX5_lends 36 = .ok (.iload_n 2, 1) := by decide +kernel
theorem dX5_lends_37 : decode cX5_lends 37 = .ok (.iload_n 3, 1) := by decide +kernel
theorem dX5_lends_38 : decode cX5_lends 38 = .ok (.idiv, 1) := by decide +kernel
theorem dX5_lends_39 : decode cX5_lends 39 = .ok (.invokestatic 60, 3) := by decide +kernel
theorem dX5_lends_42 : decode cX5_lends 42 = .ok (.aload_n 0, 1) := by decide +kernel
theorem dX5_lends_43 : decode cX5_lends 43 = .ok (.getfield 7, 3) := by decide +kernel
theorem dX5_lends_46 : decode cX5_lends 46 = .ok (.iload_n 1, 1) := by decide +kernel
theorem dX5_lends_47 : decode cX5_lends 47 = .ok (.bipush 6, 2) := by decide +kernel
theorem dX5_lends_49 : decode cX5_lends 49 = .ok (.iload_n 2, 1) := by decide +kernel
theorem dX5_lends_50 : decode cX5_lends 50 = .ok (.aload_n 0, 1) := by decide +kernel
theorem dX5_lends_51 : decode cX5_lends 51 = .ok (.getfield 7, 3) := by decide +kernel
theorem dX5_lends_54 : decode cX5_lends 54 = .ok (.iconst 4, 1) := by decide +kernel
theorem dX5_lends_55 : decode cX5_lends 55 = .ok (.iaload, 1) := by decide +kernel
theorem dX5_lends_56 : decode cX5_lends 56 = .ok (.imul, 1) := by decide +kernel
theorem dX5_lends_57 : decode cX5_lends 57 = .ok (.sipush 1000, 3) := by decide +kernel
theorem dX5_lends_60 : decode cX5_lends 60 = .ok (.idiv, 1) := by decide +kernel
theorem dX5_lends_61 : decode cX5_lends 61 = .ok (.invokestatic 60, 3) := by decide +kernel
theorem dX5_lends_64 : decode cX5_lends 64 = .ok (.aload_n 0, 1) := by decide +kernel
theorem dX5_lends_65 : decode cX5_lends 65 = .ok (.getfield 7, 3) := by decide +kernel
theorem dX5_lends_68 : decode cX5_lends 68 = .ok (.bipush 9, 2) := by decide +kernel
theorem dX5_lends_70 : decode cX5_lends 70 = .ok (.dup2, 1) := by decide +kernel
theorem dX5_lends_71 : decode cX5_lends 71 = .ok (.iaload, 1) := by decide +kernel
theorem dX5_lends_72 : decode cX5_lends 72 = .ok (.iload_n 2, 1) := by decide +kernel
theorem dX5_lends_73 : decode cX5_lends 73 = .ok (.iadd, 1) := by decide +kernel
theorem dX5_lends_74 : decode cX5_lends 74 = .ok (.iastore, 1) := by decide +kernel
theorem dX5_lends_75 : decode cX5_lends 75 = .ok (.aload_n 0, 1) := by decide +kernel
theorem dX5_lends_76 : decode cX5_lends 76 = .ok (.getfield 7, 3) := by decide +kernel
theorem dX5_lends_79 : decode cX5_lends 79 = .ok (.iload_n 1, 1) := by decide +kernel
theorem dX5_lends_80 : decode cX5_lends 80 = .ok (.invokestatic 57, 3) := by decide +kernel
theorem dX5_lends_83 : decode cX5_lends 83 = .ok (.ireturn, 1) := by decide +kernel
set_option maxRecDepth 20000 in
theorem ggX5_lend_X5_mayLend : GoodIn wsX5_lend wsX5_mayLend := goodIn_r _ [6, 7, 8, 9, 10, 5, 11, 12, 13, 14, 15, 16, 17, 18, 19, 20, 21, 22, 23, 24, 25, 26, 46, 47, 48, 49, 50, 51, 52, 53, 54, 55, 56, 57, 58, 59] (by decide +kernel) (by decide +kernel)
set_option maxRecDepth 20000 in
theorem gX5_lend_X5_mayLend : GoodIn wsX5_lend (wsV RX5 99 RX5 yX5_mayLend wsX5_mayLend) := goodIn_app (goodIn_of _ (by decide +kernel)) ggX5_lend_X5_mayLend
set_option maxRecDepth 20000 in
theorem ggX5_lend_X5_saves : GoodIn wsX5_lend wsX5_saves := goodIn_r _ [30, 31, 32, 7, 46, 47, 48, 49, 50, 51, 52, 53, 54, 55, 56, 57, 58, 59] (by decide +kernel) (by decide +kernel)
set_option maxRecDepth 20000 in
theorem gX5_lend_X5_saves : GoodIn wsX5_lend (wsV RX5 85 RX5 yX5_saves wsX5_saves) := goodIn_app (goodIn_of _ (by decide +kernel)) ggX5_lend_X5_saves
set_option maxRecDepth 20000 in
theorem ggX5_lend_X5_lends : GoodIn wsX5_lend wsX5_lends := goodIn_r _ [36, 7, 37, 38, 5, 39, 40, 41, 42, 15, 16, 17, 43, 44, 45, 46, 47, 48, 49, 50, 51, 52, 53, 54, 55, 56, 57, 58, 59] (by decide +kernel) (by decide +kernel)
set_option maxRecDepth 20000 in
theorem gX5_lend_X5_lends : GoodIn wsX5_lend (wsV RX5 103 RX5 yX5_lends wsX5_lends) := goodIn_app (goodIn_of _ (by decide +kernel)) ggX5_lend_X5_lends
theorem dX5_lend_0 : decode cX5_lend 0 = .ok (.aload_n 0, 1) := by decide +kernel
theorem dX5_lend_1 : decode cX5_lend 1 = .ok (.aload_n 0, 1) := by decide +kernel
theorem dX5_lend_2 : decode cX5_lend 2 = .ok (.iload_n 1, 1) := by decide +kernel
theorem dX5_lend_3 : decode cX5_lend 3 = .ok (.iload_n 2, 1) := by decide +kernel
theorem dX5_lend_4 : decode cX5_lend 4 = .ok (.iload_n 3, 1) := by decide +kernel
theorem dX5_lend_5 : decode cX5_lend 5 = .ok (.invokevirtual 99, 3) := by decide +kernel
theorem dX5_lend_8 : decode cX5_lend 8 = .ok (.putfield 28, 3) := by decide +kernel
theorem dX5_lend_11 : decode cX5_lend 11 = .ok (.aload_n 0, 1) := by decide +kernel
theorem dX5_lend_12 : decode cX5_lend 12 = .ok (.getfield 28, 3) := by decide +kernel
theorem dX5_lend_15 : decode cX5_lend 15 = .ok (.ifCond .eq 5, 3) := by decide +kernel
theorem dX5_lend_18 : decode cX5_lend 18 = .ok (.iconst 0, 1) := by decide +kernel
theorem dX5_lend_19 : decode cX5_lend 19 = .ok (.ireturn, 1) := by decide +kernel
theorem dX5_lend_20 : decode cX5_lend 20 = .ok (.aload_n 0, 1) := by decide +kernel
theorem dX5_lend_21 : decode cX5_lend 21 = .ok (.invokevirtual 85, 3) := by decide +kernel
theorem dX5_lend_24 : decode cX5_lend 24 = .ok (.aload_n 0, 1) := by decide +kernel
theorem dX5_lend_25 : decode cX5_lend 25 = .ok (.iload_n 1, 1) := by decide +kernel
theorem dX5_lend_26 : decode cX5_lend 26 = .ok (.iload_n 2, 1) := by decide +kernel
theorem dX5_lend_27 : decode cX5_lend 27 = .ok (.iload_n 3, 1) := by decide +kernel
theorem dX5_lend_28 : decode cX5_lend 28 = .ok (.invokevirtual 103, 3) := by decide +kernel
theorem dX5_lend_31 : decode cX5_lend 31 = .ok (.ireturn, 1) := by decide +kernel
set_option maxRecDepth 20000 in
theorem ggX5_absents_X5_of : GoodIn wsX5_absents wsX5_of := goodIn_r _ [5] (by decide +kernel) (by decide +kernel)
set_option maxRecDepth 20000 in
theorem gX5_absents_X5_of : GoodIn wsX5_absents (va_wsS RX5 36 yX5_of wsX5_of) := goodIn_app (goodIn_of _ (by decide +kernel)) ggX5_absents_X5_of
theorem dX5_absents_0 : decode cX5_absents 0 = .ok (.iconst 0, 1) := by decide +kernel
theorem dX5_absents_1 : decode cX5_absents 1 = .ok (.istore_n 1, 1) := by decide +kernel
theorem dX5_absents_2 : decode cX5_absents 2 = .ok (.iconst 0, 1) := by decide +kernel
theorem dX5_absents_3 : decode cX5_absents 3 = .ok (.istore_n 2, 1) := by decide +kernel
theorem dX5_absents_4 : decode cX5_absents 4 = .ok (.iload_n 2, 1) := by decide +kernel
theorem dX5_absents_5 : decode cX5_absents 5 = .ok (.bipush 8, 2) := by decide +kernel
theorem dX5_absents_7 : decode cX5_absents 7 = .ok (.if_icmp .ge 32, 3) := by decide +kernel
theorem dX5_absents_10 : decode cX5_absents 10 = .ok (.iload_n 1, 1) := by decide +kernel
theorem dX5_absents_11 : decode cX5_absents 11 = .ok (.aload_n 0, 1) := by decide +kernel
theorem dX5_absents_12 : decode cX5_absents 12 = .ok (.getfield 7, 3) := by decide +kernel
theorem dX5_absents_15 : decode cX5_absents 15 = .ok (.iload_n 2, 1) := by decide +kernel
theorem dX5_absents_16 : decode cX5_absents 16 = .ok (.iconst 0, 1) := by decide +kernel
theorem dX5_absents_17 : decode cX5_absents 17 = .ok (.invokestatic 36, 3) := by decide +kernel
theorem dX5_absents_20 : decode cX5_absents 20 = .ok (.aload_n 0, 1) := by decide +kernel
theorem dX5_absents_21 : decode cX5_absents 21 = .ok (.getfield 7, 3) := by decide +kernel
theorem dX5_absents_24 : decode cX5_absents 24 = .ok (.iload_n 2, 1) := by decide +kernel
theorem dX5_absents_25 : decode cX5_absents 25 = .ok (.bipush 7, 2) := by decide +kernel
theorem dX5_absents_27 : decode cX5_absents 27 = .ok (.invokestatic 36, 3) := by decide +kernel
theorem dX5_absents_30 : decode cX5_absents 30 = .ok (.imul, 1) := by decide +kernel
theorem dX5_absents_31 : decode cX5_absents 31 = .ok (.iadd, 1) := by decide +kernel
theorem dX5_absents_32 : decode cX5_absents 32 = .ok (.istore_n 1, 1) := by decide +kernel
theorem dX5_absents_33 : decode cX5_absents 33 = .ok (.iinc 2 1, 3) := by decide +kernel
theorem dX5_absents_36 : decode cX5_absents 36 = .ok (.goto (-32), 3) := by decide +kernel
theorem dX5_absents_39 : decode cX5_absents 39 = .ok (.iload_n 1, 1) := by decide +kernel
theorem dX5_absents_40 : decode cX5_absents 40 = .ok (.ireturn, 1) := by decide +kernel
set_option maxRecDepth 20000 in
theorem ggX5_absent_X5_isMember : GoodIn wsX5_absent wsX5_isMember := goodIn_r _ [7, 2, 8, 9, 6, 10, 11, 12, 13, 31, 32, 33, 34, 35, 36, 37, 38, 39, 40, 41, 42, 43, 44] (by decide +kernel) (by decide +kernel)
set_option maxRecDepth 20000 in
theorem gX5_absent_X5_isMember : GoodIn wsX5_absent (wsV RX5 92 RX5 yX5_isMember wsX5_isMember) := goodIn_app (goodIn_of _ (by decide +kernel)) ggX5_absent_X5_isMember
set_option maxRecDepth 20000 in
theorem ggX5_absent_X5_fails : GoodIn wsX5_absent wsX5_fails := goodIn_r _ [17, 1, 31, 32, 33, 34, 35, 36, 37, 38, 39, 40, 41, 42, 43, 44] (by decide +kernel) (by decide +kernel)
set_option maxRecDepth 20000 in
theorem gX5_absent_X5_fails : GoodIn wsX5_absent (wsV RX5 43 RX5 yX5_fails wsX5_fails) := goodIn_app (goodIn_of _ (by decide +kernel)) ggX5_absent_X5_fails
set_option maxRecDepth 20000 in
theorem ggX5_absent_X5_saves : GoodIn wsX5_absent wsX5_saves := goodIn_r _ [21, 22, 23, 2, 31, 32, 33, 34, 35, 36, 37, 38, 39, 40, 41, 42, 43, 44] (by decide +kernel) (by decide +kernel)
set_option maxRecDepth 20000 in
theorem gX5_absent_X5_saves : GoodIn wsX5_absent (wsV RX5 85 RX5 yX5_saves wsX5_saves) := goodIn_app (goodIn_of _ (by decide +kernel)) ggX5_absent_X5_saves
set_option maxRecDepth 20000 in
theorem ggX5_absent_X5_of : GoodIn wsX5_absent wsX5_of := goodIn_r _ [13] (by decide +kernel) (by decide +kernel)
set_option maxRecDepth 20000 in
theorem gX5_absent_X5_of : GoodIn wsX5_absent (va_wsS RX5 36 yX5_of wsX5_of) := goodIn_app (goodIn_of _ (by decide +kernel)) ggX5_absent_X5_of
set_option maxRecDepth 20000 in
theorem ggX5_absent_X5_adds : GoodIn wsX5_absent wsX5_adds := goodIn_r _ [26] (by decide +kernel) (by decide +kernel)
set_option maxRecDepth 20000 in
theorem gX5_absent_X5_adds : GoodIn wsX5_absent (va_wsS RX5 60 yX5_adds wsX5_adds) := goodIn_app (goodIn_of _ (by decide +kernel)) ggX5_absent_X5_adds
set_option maxRecDepth 20000 in
theorem ggX5_absent_X5_absents : GoodIn wsX5_absent wsX5_absents := goodIn_r _ [30, 2, 11, 12, 6, 13, 31, 32, 33, 34, 35, 36, 37, 38, 39, 40, 41, 42, 43, 44] (by decide +kernel) (by decide +kernel)
set_option maxRecDepth 20000 in
theorem gX5_absent_X5_absents : GoodIn wsX5_absent (wsV RX5 106 RX5 yX5_absents wsX5_absents) := goodIn_app (goodIn_of _ (by decide +kernel)) ggX5_absent_X5_absents
theorem dX5_absent_0 : decode cX5_absent 0 = .ok (.aload_n 0, 1) := by decide +kernel
theorem dX5_absent_1 : decode cX5_absent 1 = .ok (.iconst 0, 1) := by decide +kernel
theorem dX5_absent_2 : decode cX5_absent 2 = .ok (.putfield 28, 3) := by decide +kernel
theorem dX5_absent_5 : decode cX5_absent 5 = .ok (.aload_n 0, 1) := by decide +kernel
theorem dX5_absent_6 : decode cX5_absent 6 = .ok (.iload_n 1, 1) := by decide +kernel
theorem dX5_absent_7 : decode cX5_absent 7 = .ok (.invokevirtual 92, 3) := by decide +kernel
theorem dX5_absent_10 : decode cX5_absent 10 = .ok (.ifCond .ne 9, 3) := by decide +kernel
theorem dX5_absent_13 : decode cX5_absent 13 = .ok (.aload_n 0, 1) := by decide +kernel
theorem dX5_absent_14 : decode cX5_absent 14 = .ok (.iconst 1, 1) := by decide +kernel
theorem dX5_absent_15 : decode cX5_absent 15 = .ok (.invokevirtual 43, 3) := by decide +kernel
theorem dX5_absent_18 : decode cX5_absent 18 = .ok (.ireturn, 1) := by decide +kernel
theorem dX5_absent_19 : decode cX5_absent 19 = .ok (.aload_n 0, 1) := by decide +kernel
theorem dX5_absent_20 : decode cX5_absent 20 = .ok (.invokevirtual 85, 3) := by decide +kernel
theorem dX5_absent_23 : decode cX5_absent 23 = .ok (.aload_n 0, 1) := by decide +kernel
theorem dX5_absent_24 : decode cX5_absent 24 = .ok (.getfield 7, 3) := by decide +kernel
theorem dX5_absent_27 : decode cX5_absent 27 = .ok (.iload_n 1, 1) := by decide +kernel
theorem dX5_absent_28 : decode cX5_absent 28 = .ok (.bipush 7, 2) := by decide +kernel
theorem dX5_absent_30 : decode cX5_absent 30 = .ok (.iconst 1, 1) := by decide +kernel
theorem dX5_absent_31 : decode cX5_absent 31 = .ok (.iconst 2, 1) := by decide +kernel
theorem dX5_absent_32 : decode cX5_absent 32 = .ok (.aload_n 0, 1) := by decide +kernel
theorem dX5_absent_33 : decode cX5_absent 33 = .ok (.getfield 7, 3) := by decide +kernel
theorem dX5_absent_36 : decode cX5_absent 36 = .ok (.iload_n 1, 1) := by decide +kernel
theorem dX5_absent_37 : decode cX5_absent 37 = .ok (.bipush 7, 2) := by decide +kernel
theorem dX5_absent_39 : decode cX5_absent 39 = .ok (.invokestatic 36, 3) := by decide +kernel
theorem dX5_absent_42 : decode cX5_absent 42 = .ok (.imul, 1) := by decide +kernel
theorem dX5_absent_43 : decode cX5_absent 43 = .ok (.isub, 1) := by decide +kernel
theorem dX5_absent_44 : decode cX5_absent 44 = .ok (.invokestatic 60, 3) := by decide +kernel
theorem dX5_absent_47 : decode cX5_absent 47 = .ok (.aload_n 0, 1) := by decide +kernel
theorem dX5_absent_48 : decode cX5_absent 48 = .ok (.invokevirtual 106, 3) := by decide +kernel
theorem dX5_absent_51 : decode cX5_absent 51 = .ok (.ireturn, 1) := by decide +kernel
set_option maxRecDepth 20000 in
theorem ggX5_week_X5_fails : GoodIn wsX5_week wsX5_fails := goodIn_r _ [7, 1, 54, 55, 56, 57, 58, 59, 60, 61, 62, 63, 64, 65, 66, 67] (by decide +kernel) (by decide +kernel)
set_option maxRecDepth 20000 in
theorem gX5_week_X5_fails : GoodIn wsX5_week (wsV RX5 43 RX5 yX5_fails wsX5_fails) := goodIn_app (goodIn_of _ (by decide +kernel)) ggX5_week_X5_fails
set_option maxRecDepth 20000 in
theorem ggX5_week_X5_saves : GoodIn wsX5_week wsX5_saves := goodIn_r _ [11, 12, 13, 2, 54, 55, 56, 57, 58, 59, 60, 61, 62, 63, 64, 65, 66, 67] (by decide +kernel) (by decide +kernel)
set_option maxRecDepth 20000 in
theorem gX5_week_X5_saves : GoodIn wsX5_week (wsV RX5 85 RX5 yX5_saves wsX5_saves) := goodIn_app (goodIn_of _ (by decide +kernel)) ggX5_week_X5_saves
set_option maxRecDepth 20000 in
theorem ggX5_week_X5_ends : GoodIn wsX5_week wsX5_ends := goodIn_r _ [17, 18, 19, 20, 21, 6, 22, 23, 24, 25, 26, 27, 28, 29, 30, 31, 32, 33, 34, 35, 36, 37, 38, 39, 40, 41, 42, 43, 44, 45, 46, 47, 48, 49, 50, 51, 52, 53, 54, 55, 56, 57, 58, 59, 60, 61, 62, 63, 64, 65, 66, 67] (by decide +kernel) (by decide +kernel)
set_option maxRecDepth 20000 in
theorem gX5_week_X5_ends : GoodIn wsX5_week (wsV RX5 109 RX5 yX5_ends wsX5_ends) := goodIn_app (goodIn_of _ (by decide +kernel)) ggX5_week_X5_ends
theorem dX5_week_0 : decode cX5_week 0 = .ok (.aload_n 0, 1) := by decide +kernel
theorem dX5_week_1 : decode cX5_week 1 = .ok (.iconst 0, 1) := by decide +kernel
theorem dX5_week_2 : decode cX5_week 2 = .ok (.putfield 28, 3) := by decide +kernel
theorem dX5_week_5 : decode cX5_week 5 = .ok (.aload_n 0, 1) := by decide +kernel
theorem dX5_week_6 : decode cX5_week 6 = .ok (.getfield 7, 3) := by decide +kernel
theorem dX5_week_9 : decode cX5_week 9 = .ok (.iconst 0, 1) := by decide +kernel
theorem dX5_week_10 : decode cX5_week 10 = .ok (.iaload, 1) := by decide +kernel
theorem dX5_week_11 : decode cX5_week 11 = .ok (.iconst 1, 1) := by decide +kernel
theorem dX5_week_12 : decode cX5_week 12 = .ok (.iadd, 1) := by decide +kernel
theorem dX5_week_13 : decode cX5_week 13 = .ok (.sipush 999, 3) := by decide +kernel
theorem dX5_week_16 : decode cX5_week 16 = .ok (.if_icmp .le 9, 3) := by decide +kernel
theorem dX5_week_19 : decode cX5_week 19 = .ok (.aload_n 0, 1) := by decide +kernel
theorem dX5_week_20 : decode cX5_week 20 = .ok (.iconst 1, 1) := by decide +kernel
theorem dX5_week_21 : decode cX5_week 21 = .ok (.invokevirtual 43, 3) := by decide +kernel
theorem dX5_week_24 : decode cX5_week 24 = .ok (.ireturn, 1) := by decide +kernel
theorem dX5_week_25 : decode cX5_week 25 = .ok (.aload_n 0, 1) := by decide +kernel
theorem dX5_week_26 : decode cX5_week 26 = .ok (.invokevirtual 85, 3) := by decide +kernel
theorem dX5_week_29 : decode cX5_week 29 = .ok (.aload_n 0, 1) := by decide +kernel
theorem dX5_week_30 : decode cX5_week 30 = .ok (.aload_n 0, 1) := by decide +kernel
theorem dX5_week_31 : decode cX5_week 31 = .ok (.getfield 7, 3) := by decide +kernel
theorem dX5_week_34 : decode cX5_week 34 = .ok (.invokevirtual 109, 3) := by decide +kernel
theorem dX5_week_37 : decode cX5_week 37 = .ok (.ireturn, 1) := by decide +kernel
set_option maxRecDepth 20000 in
theorem ggX5_mayPay_X5_isMember : GoodIn wsX5_mayPay wsX5_isMember := goodIn_r _ [6, 1, 7, 8, 5, 9, 10, 11, 12, 22, 23, 24, 25, 26, 27, 28, 29, 30, 31, 32, 33, 34, 35] (by decide +kernel) (by decide +kernel)
set_option maxRecDepth 20000 in
theorem gX5_mayPay_X5_isMember : GoodIn wsX5_mayPay (wsV RX5 92 RX5 yX5_isMember wsX5_isMember) := goodIn_app (goodIn_of _ (by decide +kernel)) ggX5_mayPay_X5_isMember
set_option maxRecDepth 20000 in
theorem ggX5_mayPay_X5_in : GoodIn wsX5_mayPay wsX5_in := goodIn_r _ [9] (by decide +kernel) (by decide +kernel)
set_option maxRecDepth 20000 in
theorem gX5_mayPay_X5_in : GoodIn wsX5_mayPay (va_wsS RX5 32 yX5_in wsX5_in) := goodIn_app (goodIn_of _ (by decide +kernel)) ggX5_mayPay_X5_in
set_option maxRecDepth 20000 in
theorem ggX5_mayPay_X5_debts : GoodIn wsX5_mayPay wsX5_debts := goodIn_r _ [15, 10, 11, 5, 12, 16, 17, 18, 19, 20, 21] (by decide +kernel) (by decide +kernel)
set_option maxRecDepth 20000 in
theorem gX5_mayPay_X5_debts : GoodIn wsX5_mayPay (va_wsS RX5 72 yX5_debts wsX5_debts) := goodIn_app (goodIn_of _ (by decide +kernel)) ggX5_mayPay_X5_debts
theorem dX5_mayPay_0 : decode cX5_mayPay 0 = .ok (.aload_n 0, 1) := by decide +kernel
theorem dX5_mayPay_1 : decode cX5_mayPay 1 = .ok (.iload_n 1, 1) := by decide +kernel
theorem dX5_mayPay_2 : decode cX5_mayPay 2 = .ok (.invokevirtual 92, 3) := by decide +kernel
theorem dX5_mayPay_5 : decode cX5_mayPay 5 = .ok (.ifCond .ne 5, 3) := by decide +kernel
theorem dX5_mayPay_8 : decode cX5_mayPay 8 = .ok (.iconst 1, 1) := by decide +kernel
theorem dX5_mayPay_9 : decode cX5_mayPay 9 = .ok (.ireturn, 1) := by decide +kernel
theorem dX5_mayPay_10 : decode cX5_mayPay 10 = .ok (.iload_n 2, 1) := by decide +kernel
theorem dX5_mayPay_11 : decode cX5_mayPay 11 = .ok (.iconst 1, 1) := by decide +kernel
theorem dX5_mayPay_12 : decode cX5_mayPay 12 = .ok (.sipush 2000, 3) := by decide +kernel
theorem dX5_mayPay_15 : decode cX5_mayPay 15 = .ok (.invokestatic 32, 3) := by decide +kernel
theorem dX5_mayPay_18 : decode cX5_mayPay 18 = .ok (.ifCond .ne 7, 3) := by decide +kernel
theorem dX5_mayPay_21 : decode cX5_mayPay 21 = .ok (.iconst 2, 1) := by decide +kernel
theorem dX5_mayPay_22 : decode cX5_mayPay 22 = .ok (.goto 19, 3) := by decide +kernel
theorem dX5_mayPay_25 : decode cX5_mayPay 25 = .ok (.aload_n 0, 1) := by decide +kernel
theorem dX5_mayPay_26 : decode cX5_mayPay 26 = .ok (.getfield 7, 3) := by decide +kernel
theorem dX5_mayPay_29 : decode cX5_mayPay 29 = .ok (.iload_n 1, 1) := by decide +kernel
theorem dX5_mayPay_30 : decode cX5_mayPay 30 = .ok (.invokestatic 72, 3) := by decide +kernel
theorem dX5_mayPay_33 : decode cX5_mayPay 33 = .ok (.ifCond .ne 7, 3) := by decide +kernel
theorem dX5_mayPay_36 : decode cX5_mayPay 36 = .ok (.iconst 3, 1) := by decide +kernel
theorem dX5_mayPay_37 : decode cX5_mayPay 37 = .ok (.goto 4, 3) := by decide +kernel
theorem dX5_mayPay_40 : decode cX5_mayPay 40 = .ok (.iconst 0, 1) := by decide +kernel
theorem dX5_mayPay_41 : decode cX5_mayPay 41 = .ok (.ireturn, 1) := by decide +kernel
theorem dX5_least_0 : decode cX5_least 0 = .ok (.iload_n 0, 1) := by decide +kernel
theorem dX5_least_1 : decode cX5_least 1 = .ok (.iload_n 1, 1) := by decide +kernel
theorem dX5_least_2 : decode cX5_least 2 = .ok (.if_icmp .ge 7, 3) := by decide +kernel
theorem dX5_least_5 : decode cX5_least 5 = .ok (.iload_n 0, 1) := by decide +kernel
theorem dX5_least_6 : decode cX5_least 6 = .ok (.goto 4, 3) := by decide +kernel
theorem dX5_least_9 : decode cX5_least 9 = .ok (.iload_n 1, 1) := by decide +kernel
theorem dX5_least_10 : decode cX5_least 10 = .ok (.ireturn, 1) := by decide +kernel
set_option maxRecDepth 20000 in
theorem ggX5_pays_X5_of : GoodIn wsX5_pays wsX5_of := goodIn_r _ [5] (by decide +kernel) (by decide +kernel)
set_option maxRecDepth 20000 in
theorem gX5_pays_X5_of : GoodIn wsX5_pays (va_wsS RX5 36 yX5_of wsX5_of) := goodIn_app (goodIn_of _ (by decide +kernel)) ggX5_pays_X5_of
set_option maxRecDepth 20000 in
theorem ggX5_pays_X5_least : GoodIn wsX5_pays wsX5_least := goodIn_r _ [8] (by decide +kernel) (by decide +kernel)
set_option maxRecDepth 20000 in
theorem gX5_pays_X5_least : GoodIn wsX5_pays (va_wsS RX5 112 yX5_least wsX5_least) := goodIn_app (goodIn_of _ (by decide +kernel)) ggX5_pays_X5_least
set_option maxRecDepth 20000 in
theorem ggX5_pays_X5_adds : GoodIn wsX5_pays wsX5_adds := goodIn_r _ [11] (by decide +kernel) (by decide +kernel)
set_option maxRecDepth 20000 in
theorem gX5_pays_X5_adds : GoodIn wsX5_pays (va_wsS RX5 60 yX5_adds wsX5_adds) := goodIn_app (goodIn_of _ (by decide +kernel)) ggX5_pays_X5_adds
set_option maxRecDepth 20000 in
theorem ggX5_pays_X5_debt : GoodIn wsX5_pays wsX5_debt := goodIn_r _ [14] (by decide +kernel) (by decide +kernel)
set_option maxRecDepth 20000 in
theorem gX5_pays_X5_debt : GoodIn wsX5_pays (va_wsS RX5 47 yX5_debt wsX5_debt) := goodIn_app (goodIn_of _ (by decide +kernel)) ggX5_pays_X5_debt
theorem dX5_pays_0 : decode cX5_pays 0 = .ok (.iload_n 2, 1) := by decide +kernel
theorem dX5_pays_1 : decode cX5_pays 1 = .ok (.istore_n 3, 1) := by decide +kernel
theorem dX5_pays_2 : decode cX5_pays 2 = .ok (.iload_n 3, 1) := by decide +kernel
theorem dX5_pays_3 : decode cX5_pays 3 = .ok (.aload_n 0, 1) := by decide +kernel
theorem dX5_pays_4 : decode cX5_pays 4 = .ok (.getfield 7, 3) := by decide +kernel
theorem dX5_pays_7 : decode cX5_pays 7 = .ok (.iload_n 1, 1) := by decide +kernel
theorem dX5_pays_8 : decode cX5_pays 8 = .ok (.bipush 10, 2) := by decide +kernel
theorem dX5_pays_10 : decode cX5_pays 10 = .ok (.invokestatic 36, 3) := by decide +kernel
theorem dX5_pays_13 : decode cX5_pays 13 = .ok (.invokestatic 112, 3) := by decide +kernel
theorem dX5_pays_16 : decode cX5_pays 16 = .ok (.istore 4, 2) := by decide +kernel
theorem dX5_pays_18 : decode cX5_pays 18 = .ok (.aload_n 0, 1) := by decide +kernel
theorem dX5_pays_19 : decode cX5_pays 19 = .ok (.getfield 7, 3) := by decide +kernel
theorem dX5_pays_22 : decode cX5_pays 22 = .ok (.iload_n 1, 1) := by decide +kernel
theorem dX5_pays_23 : decode cX5_pays 23 = .ok (.bipush 10, 2) := by decide +kernel
theorem dX5_pays_25 : decode cX5_pays 25 = .ok (.iload 4, 2) := by decide +kernel
theorem dX5_pays_27 : decode cX5_pays 27 = .ok (.ineg, 1) := by decide +kernel
theorem dX5_pays_28 : decode cX5_pays 28 = .ok (.invokestatic 60, 3) := by decide +kernel
theorem dX5_pays_31 : decode cX5_pays 31 = .ok (.aload_n 0, 1) := by decide +kernel
theorem dX5_pays_32 : decode cX5_pays 32 = .ok (.getfield 7, 3) := by decide +kernel
theorem dX5_pays_35 : decode cX5_pays 35 = .ok (.bipush 11, 2) := by decide +kernel
theorem dX5_pays_37 : decode cX5_pays 37 = .ok (.dup2, 1) := by decide +kernel
theorem dX5_pays_38 : decode cX5_pays 38 = .ok (.iaload, 1) := by decide +kernel
theorem dX5_pays_39 : decode cX5_pays 39 = .ok (.iload 4, 2) := by decide +kernel
theorem dX5_pays_41 : decode cX5_pays 41 = .ok (.iadd, 1) := by decide +kernel
theorem dX5_pays_42 : decode cX5_pays 42 = .ok (.iastore, 1) := by decide +kernel
theorem dX5_pays_43 : decode cX5_pays 43 = .ok (.iload_n 3, 1) := by decide +kernel
theorem dX5_pays_44 : decode cX5_pays 44 = .ok (.iload 4, 2) := by decide +kernel
theorem dX5_pays_46 : decode cX5_pays 46 = .ok (.isub, 1) := by decide +kernel
theorem dX5_pays_47 : decode cX5_pays 47 = .ok (.istore_n 3, 1) := by decide +kernel
theorem dX5_pays_48 : decode cX5_pays 48 = .ok (.iload_n 3, 1) := by decide +kernel
theorem dX5_pays_49 : decode cX5_pays 49 = .ok (.aload_n 0, 1) := by decide +kernel
theorem dX5_pays_50 : decode cX5_pays 50 = .ok (.getfield 7, 3) := by decide +kernel
theorem dX5_pays_53 : decode cX5_pays 53 = .ok (.iload_n 1, 1) := by decide +kernel
theorem dX5_pays_54 : decode cX5_pays 54 = .ok (.bipush 11, 2) := by decide +kernel
theorem dX5_pays_56 : decode cX5_pays 56 = .ok (.invokestatic 36, 3) := by decide +kernel
theorem dX5_pays_59 : decode cX5_pays 59 = .ok (.invokestatic 112, 3) := by decide +kernel
theorem dX5_pays_62 : decode cX5_pays 62 = .ok (.istore 5, 2) := by decide +kernel
theorem dX5_pays_64 : decode cX5_pays 64 = .ok (.aload_n 0, 1) := by decide +kernel
theorem dX5_pays_65 : decode cX5_pays 65 = .ok (.getfield 7, 3) := by decide +kernel
theorem dX5_pays_68 : decode cX5_pays 68 = .ok (.iload_n 1, 1) := by decide +kernel
theorem dX5_pays_69 : decode cX5_pays 69 = .ok (.bipush 11, 2) := by decide +kernel
theorem dX5_pays_71 : decode cX5_pays 71 = .ok (.iload 5, 2) := by decide +kernel
theorem dX5_pays_73 : decode cX5_pays 73 = .ok (.ineg, 1) := by decide +kernel
theorem dX5_pays_74 : decode cX5_pays 74 = .ok (.invokestatic 60, 3) := by decide +kernel
theorem dX5_pays_77 : decode cX5_pays 77 = .ok (.aload_n 0, 1) := by decide +kernel
theorem dX5_pays_78 : decode cX5_pays 78 = .ok (.getfield 7, 3) := by decide +kernel
theorem dX5_pays_81 : decode cX5_pays 81 = .ok (.bipush 8, 2) := by decide +kernel
theorem dX5_pays_83 : decode cX5_pays 83 = .ok (.dup2, 1) := by decide +kernel
theorem dX5_pays_84 : decode cX5_pays 84 = .ok (.iaload, 1) := by decide +kernel
theorem dX5_pays_85 : decode cX5_pays 85 = .ok (.iload 5, 2) := by decide +kernel
theorem dX5_pays_87 : decode cX5_pays 87 = .ok (.iadd, 1) := by decide +kernel
theorem dX5_pays_88 : decode cX5_pays 88 = .ok (.iastore, 1) := by decide +kernel
theorem dX5_pays_89 : decode cX5_pays 89 = .ok (.iload_n 3, 1) := by decide +kernel
theorem dX5_pays_90 : decode cX5_pays 90 = .ok (.iload 5, 2) := by decide +kernel
theorem dX5_pays_92 : decode cX5_pays 92 = .ok (.isub, 1) := by decide +kernel
theorem dX5_pays_93 : decode cX5_pays 93 = .ok (.istore_n 3, 1) := by decide +kernel
theorem dX5_pays_94 : decode cX5_pays 94 = .ok (.iconst 0, 1) := by decide +kernel
theorem dX5_pays_95 : decode cX5_pays 95 = .ok (.istore 6, 2) := by decide +kernel
theorem dX5_pays_97 : decode cX5_pays 97 = .ok (.iload 6, 2) := by decide +kernel
theorem dX5_pays_99 : decode cX5_pays 99 = .ok (.bipush 8, 2) := by decide +kernel
theorem dX5_pays_101 : decode cX5_pays 101 = .ok (.if_icmp .ge 50, 3) := by decide +kernel
theorem dX5_pays_104 : decode cX5_pays 104 = .ok (.iload_n 3, 1) := by decide +kernel
theorem dX5_pays_105 : decode cX5_pays 105 = .ok (.aload_n 0, 1) := by decide +kernel
theorem dX5_pays_106 : decode cX5_pays 106 = .ok (.getfield 7, 3) := by decide +kernel
theorem dX5_pays_109 : decode cX5_pays 109 = .ok (.iload_n 1, 1) := by decide +kernel
theorem dX5_pays_110 : decode cX5_pays 110 = .ok (.iload 6, 2) := by decide +kernel
theorem dX5_pays_112 : decode cX5_pays 112 = .ok (.invokestatic 47, 3) := by decide +kernel
theorem dX5_pays_115 : decode cX5_pays 115 = .ok (.invokestatic 112, 3) := by decide +kernel
theorem dX5_pays_118 : decode cX5_pays 118 = .ok (.istore 7, 2) := by decide +kernel
theorem dX5_pays_120 : decode cX5_pays 120 = .ok (.aload_n 0, 1) := by decide +kernel
theorem dX5_pays_121 : decode cX5_pays 121 = .ok (.getfield 7, 3) := by decide +kernel
theorem dX5_pays_124 : decode cX5_pays 124 = .ok (.bipush 125, 2) := by decide +kernel
theorem dX5_pays_126 : decode cX5_pays 126 = .ok (.bipush 8, 2) := by decide +kernel
theorem dX5_pays_128 : decode cX5_pays 128 = .ok (.iload_n 1, 1) := by decide +kernel
theorem dX5_pays_129 : decode cX5_pays 129 = .ok (.imul, 1) := by decide +kernel
theorem dX5_pays_130 : decode cX5_pays 130 = .ok (.iadd, 1) := by decide +kernel
theorem dX5_pays_131 : decode cX5_pays 131 = .ok (.iload 6, 2) := by decide +kernel
theorem dX5_pays_133 : decode cX5_pays 133 = .ok (.iadd, 1) := by decide +kernel
theorem dX5_pays_134 : decode cX5_pays 134 = .ok (.dup2, 1) := by decide +kernel
theorem dX5_pays_135 : decode cX5_pays 135 = .ok (.iaload, 1) := by decide +kernel
theorem dX5_pays_136 : decode cX5_pays 136 = .ok (.iload 7, 2) := by decide +kernel
theorem dX5_pays_138 : decode cX5_pays 138 = .ok (.isub, 1) := by decide +kernel
theorem dX5_pays_139 : decode cX5_pays 139 = .ok (.iastore, 1) := by decide +kernel
theorem dX5_pays_140 : decode cX5_pays 140 = .ok (.iload_n 3, 1) := by decide +kernel
theorem dX5_pays_141 : decode cX5_pays 141 = .ok (.iload 7, 2) := by decide +kernel
theorem dX5_pays_143 : decode cX5_pays 143 = .ok (.isub, 1) := by decide +kernel
theorem dX5_pays_144 : decode cX5_pays 144 = .ok (.istore_n 3, 1) := by decide +kernel
theorem dX5_pays_145 : decode cX5_pays 145 = .ok (.iinc 6 1, 3) := by decide +kernel
theorem dX5_pays_148 : decode cX5_pays 148 = .ok (.goto (-51), 3) := by decide +kernel
theorem dX5_pays_151 : decode cX5_pays 151 = .ok (.iload_n 2, 1) := by decide +kernel
theorem dX5_pays_152 : decode cX5_pays 152 = .ok (.iload_n 3, 1) := by decide +kernel
theorem dX5_pays_153 : decode cX5_pays 153 = .ok (.isub, 1) := by decide +kernel
theorem dX5_pays_154 : decode cX5_pays 154 = .ok (.ireturn, 1) := by decide +kernel
set_option maxRecDepth 20000 in
theorem ggX5_payBack_X5_mayPay : GoodIn wsX5_payBack wsX5_mayPay := goodIn_r _ [6, 7, 8, 9, 10, 5, 11, 12, 13, 14, 15, 16, 17, 18, 19, 20, 21, 22, 23, 24, 25, 26, 43, 44, 45, 46, 47, 48, 49, 50, 51, 52, 53, 54, 55, 56] (by decide +kernel) (by decide +kernel)
set_option maxRecDepth 20000 in
theorem gX5_payBack_X5_mayPay : GoodIn wsX5_payBack (wsV RX5 116 RX5 yX5_mayPay wsX5_mayPay) := goodIn_app (goodIn_of _ (by decide +kernel)) ggX5_payBack_X5_mayPay
set_option maxRecDepth 20000 in
theorem ggX5_payBack_X5_saves : GoodIn wsX5_payBack wsX5_saves := goodIn_r _ [30, 31, 32, 7, 43, 44, 45, 46, 47, 48, 49, 50, 51, 52, 53, 54, 55, 56] (by decide +kernel) (by decide +kernel)
set_option maxRecDepth 20000 in
theorem gX5_payBack_X5_saves : GoodIn wsX5_payBack (wsV RX5 85 RX5 yX5_saves wsX5_saves) := goodIn_app (goodIn_of _ (by decide +kernel)) ggX5_payBack_X5_saves
set_option maxRecDepth 20000 in
theorem ggX5_payBack_X5_pays : GoodIn wsX5_payBack wsX5_pays := goodIn_r _ [36, 7, 15, 16, 5, 17, 37, 38, 39, 40, 41, 42, 24, 25, 26, 43, 44, 45, 46, 47, 48, 49, 50, 51, 52, 53, 54, 55, 56] (by decide +kernel) (by decide +kernel)
set_option maxRecDepth 20000 in
theorem gX5_payBack_X5_pays : GoodIn wsX5_payBack (wsV RX5 119 RX5 yX5_pays wsX5_pays) := goodIn_app (goodIn_of _ (by decide +kernel)) ggX5_payBack_X5_pays
theorem dX5_payBack_0 : decode cX5_payBack 0 = .ok (.aload_n 0, 1) := by decide +kernel
theorem dX5_payBack_1 : decode cX5_payBack 1 = .ok (.aload_n 0, 1) := by decide +kernel
theorem dX5_payBack_2 : decode cX5_payBack 2 = .ok (.iload_n 1, 1) := by decide +kernel
theorem dX5_payBack_3 : decode cX5_payBack 3 = .ok (.iload_n 2, 1) := by decide +kernel
theorem dX5_payBack_4 : decode cX5_payBack 4 = .ok (.invokevirtual 116, 3) := by decide +kernel
theorem dX5_payBack_7 : decode cX5_payBack 7 = .ok (.putfield 28, 3) := by decide +kernel
theorem dX5_payBack_10 : decode cX5_payBack 10 = .ok (.aload_n 0, 1) := by decide +kernel
theorem dX5_payBack_11 : decode cX5_payBack 11 = .ok (.getfield 28, 3) := by decide +kernel
theorem dX5_payBack_14 : decode cX5_payBack 14 = .ok (.ifCond .eq 5, 3) := by decide +kernel
theorem dX5_payBack_17 : decode cX5_payBack 17 = .ok (.iconst 0, 1) := by decide +kernel
theorem dX5_payBack_18 : decode cX5_payBack 18 = .ok (.ireturn, 1) := by decide +kernel
theorem dX5_payBack_19 : decode cX5_payBack 19 = .ok (.aload_n 0, 1) := by decide +kernel
theorem dX5_payBack_20 : decode cX5_payBack 20 = .ok (.invokevirtual 85, 3) := by decide +kernel
theorem dX5_payBack_23 : decode cX5_payBack 23 = .ok (.aload_n 0, 1) := by decide +kernel
theorem dX5_payBack_24 : decode cX5_payBack 24 = .ok (.iload_n 1, 1) := by decide +kernel
theorem dX5_payBack_25 : decode cX5_payBack 25 = .ok (.iload_n 2, 1) := by decide +kernel
theorem dX5_payBack_26 : decode cX5_payBack 26 = .ok (.invokevirtual 119, 3) := by decide +kernel
theorem dX5_payBack_29 : decode cX5_payBack 29 = .ok (.ireturn, 1) := by decide +kernel
set_option maxRecDepth 20000 in
theorem ggX5_mayHelp_X5_isMember : GoodIn wsX5_mayHelp wsX5_isMember := goodIn_r _ [6, 1, 7, 8, 5, 9, 10, 11, 12, 13, 14, 15, 16, 17, 18, 19, 20, 21, 22, 23, 24, 25, 26] (by decide +kernel) (by decide +kernel)
set_option maxRecDepth 20000 in
theorem gX5_mayHelp_X5_isMember : GoodIn wsX5_mayHelp (wsV RX5 92 RX5 yX5_isMember wsX5_isMember) := goodIn_app (goodIn_of _ (by decide +kernel)) ggX5_mayHelp_X5_isMember
set_option maxRecDepth 20000 in
theorem ggX5_mayHelp_X5_in : GoodIn wsX5_mayHelp wsX5_in := goodIn_r _ [9] (by decide +kernel) (by decide +kernel)
set_option maxRecDepth 20000 in
theorem gX5_mayHelp_X5_in : GoodIn wsX5_mayHelp (va_wsS RX5 32 yX5_in wsX5_in) := goodIn_app (goodIn_of _ (by decide +kernel)) ggX5_mayHelp_X5_in
set_option maxRecDepth 20000 in
theorem ggX5_mayHelp_X5_of : GoodIn wsX5_mayHelp wsX5_of := goodIn_r _ [12] (by decide +kernel) (by decide +kernel)
set_option maxRecDepth 20000 in
theorem gX5_mayHelp_X5_of : GoodIn wsX5_mayHelp (va_wsS RX5 36 yX5_of wsX5_of) := goodIn_app (goodIn_of _ (by decide +kernel)) ggX5_mayHelp_X5_of
theorem dX5_mayHelp_0 : decode cX5_mayHelp 0 = .ok (.aload_n 0, 1) := by decide +kernel
theorem dX5_mayHelp_1 : decode cX5_mayHelp 1 = .ok (.iload_n 1, 1) := by decide +kernel
theorem dX5_mayHelp_2 : decode cX5_mayHelp 2 = .ok (.invokevirtual 92, 3) := by decide +kernel
theorem dX5_mayHelp_5 : decode cX5_mayHelp 5 = .ok (.ifCond .ne 5, 3) := by decide +kernel
theorem dX5_mayHelp_8 : decode cX5_mayHelp 8 = .ok (.iconst 1, 1) := by decide +kernel
theorem dX5_mayHelp_9 : decode cX5_mayHelp 9 = .ok (.ireturn, 1) := by decide +kernel
theorem dX5_mayHelp_10 : decode cX5_mayHelp 10 = .ok (.iload_n 2, 1) := by decide +kernel
theorem dX5_mayHelp_11 : decode cX5_mayHelp 11 = .ok (.iconst 1, 1) := by decide +kernel
theorem dX5_mayHelp_12 : decode cX5_mayHelp 12 = .ok (.sipush 2000, 3) := by decide +kernel
theorem dX5_mayHelp_15 : decode cX5_mayHelp 15 = .ok (.invokestatic 32, 3) := by decide +kernel
theorem dX5_mayHelp_18 : decode cX5_mayHelp 18 = .ok (.ifCond .ne 5, 3) := by decide +kernel
theorem dX5_mayHelp_21 : decode cX5_mayHelp 21 = .ok (.iconst 2, 1) := by decide +kernel
theorem dX5_mayHelp_22 : decode cX5_mayHelp 22 = .ok (.ireturn, 1) := by decide +kernel
theorem dX5_mayHelp_23 : decode cX5_mayHelp 23 = .ok (.aload_n 0, 1) := by decide +kernel
theorem dX5_mayHelp_24 : decode cX5_mayHelp 24 = .ok (.getfield 7, 3) := by decide +kernel
theorem dX5_mayHelp_27 : decode cX5_mayHelp 27 = .ok (.iconst 2, 1) := by decide +kernel
theorem dX5_mayHelp_28 : decode cX5_mayHelp 28 = .ok (.iaload, 1) := by decide +kernel
theorem dX5_mayHelp_29 : decode cX5_mayHelp 29 = .ok (.iconst (-1), 1) := by decide +kernel
theorem dX5_mayHelp_30 : decode cX5_mayHelp 30 = .ok (.if_icmp .eq 52, 3) := by decide +kernel
theorem dX5_mayHelp_33 : decode cX5_mayHelp 33 = .ok (.aload_n 0, 1) := by decide +kernel
theorem dX5_mayHelp_34 : decode cX5_mayHelp 34 = .ok (.getfield 7, 3) := by decide +kernel
theorem dX5_mayHelp_37 : decode cX5_mayHelp 37 = .ok (.iconst 2, 1) := by decide +kernel
theorem dX5_mayHelp_38 : decode cX5_mayHelp 38 = .ok (.iaload, 1) := by decide +kernel
theorem dX5_mayHelp_39 : decode cX5_mayHelp 39 = .ok (.iload_n 1, 1) := by decide +kernel
theorem dX5_mayHelp_40 : decode cX5_mayHelp 40 = .ok (.if_icmp .eq 42, 3) := by decide +kernel
theorem dX5_mayHelp_43 : decode cX5_mayHelp 43 = .ok (.aload_n 0, 1) := by decide +kernel
theorem dX5_mayHelp_44 : decode cX5_mayHelp 44 = .ok (.getfield 7, 3) := by decide +kernel
theorem dX5_mayHelp_47 : decode cX5_mayHelp 47 = .ok (.iload_n 1, 1) := by decide +kernel
theorem dX5_mayHelp_48 : decode cX5_mayHelp 48 = .ok (.bipush 11, 2) := by decide +kernel
theorem dX5_mayHelp_50 : decode cX5_mayHelp 50 = .ok (.invokestatic 36, 3) := by decide +kernel
theorem dX5_mayHelp_53 : decode cX5_mayHelp 53 = .ok (.ifCond .ne 29, 3) := by decide +kernel
theorem dX5_mayHelp_56 : decode cX5_mayHelp 56 = .ok (.iload_n 2, 1) := by decide +kernel
theorem dX5_mayHelp_57 : decode cX5_mayHelp 57 = .ok (.aload_n 0, 1) := by decide +kernel
theorem dX5_mayHelp_58 : decode cX5_mayHelp 58 = .ok (.getfield 7, 3) := by decide +kernel
theorem dX5_mayHelp_61 : decode cX5_mayHelp 61 = .ok (.bipush 8, 2) := by decide +kernel
theorem dX5_mayHelp_63 : decode cX5_mayHelp 63 = .ok (.iaload, 1) := by decide +kernel
theorem dX5_mayHelp_64 : decode cX5_mayHelp 64 = .ok (.aload_n 0, 1) := by decide +kernel
theorem dX5_mayHelp_65 : decode cX5_mayHelp 65 = .ok (.getfield 7, 3) := by decide +kernel
theorem dX5_mayHelp_68 : decode cX5_mayHelp 68 = .ok (.bipush 7, 2) := by decide +kernel
theorem dX5_mayHelp_70 : decode cX5_mayHelp 70 = .ok (.iaload, 1) := by decide +kernel
theorem dX5_mayHelp_71 : decode cX5_mayHelp 71 = .ok (.imul, 1) := by decide +kernel
theorem dX5_mayHelp_72 : decode cX5_mayHelp 72 = .ok (.bipush 100, 2) := by decide +kernel
theorem dX5_mayHelp_74 : decode cX5_mayHelp 74 = .ok (.idiv, 1) := by decide +kernel
theorem dX5_mayHelp_75 : decode cX5_mayHelp 75 = .ok (.if_icmp .gt 7, 3) := by decide +kernel
theorem dX5_mayHelp_78 : decode cX5_mayHelp 78 = .ok (.iconst 1, 1) := by decide +kernel
theorem dX5_mayHelp_79 : decode cX5_mayHelp 79 = .ok (.goto 4, 3) := by decide +kernel
theorem dX5_mayHelp_82 : decode cX5_mayHelp 82 = .ok (.iconst 0, 1) := by decide +kernel
theorem dX5_mayHelp_83 : decode cX5_mayHelp 83 = .ok (.istore_n 3, 1) := by decide +kernel
theorem dX5_mayHelp_84 : decode cX5_mayHelp 84 = .ok (.iload_n 3, 1) := by decide +kernel
theorem dX5_mayHelp_85 : decode cX5_mayHelp 85 = .ok (.ifCond .eq 7, 3) := by decide +kernel
theorem dX5_mayHelp_88 : decode cX5_mayHelp 88 = .ok (.iconst 0, 1) := by decide +kernel
theorem dX5_mayHelp_89 : decode cX5_mayHelp 89 = .ok (.goto 4, 3) := by decide +kernel
theorem dX5_mayHelp_92 : decode cX5_mayHelp 92 = .ok (.iconst 3, 1) := by decide +kernel
theorem dX5_mayHelp_93 : decode cX5_mayHelp 93 = .ok (.ireturn, 1) := by decide +kernel
set_option maxRecDepth 20000 in
theorem ggX5_helps_X5_adds : GoodIn wsX5_helps wsX5_adds := goodIn_r _ [5] (by decide +kernel) (by decide +kernel)
set_option maxRecDepth 20000 in
theorem gX5_helps_X5_adds : GoodIn wsX5_helps (va_wsS RX5 60 yX5_adds wsX5_adds) := goodIn_app (goodIn_of _ (by decide +kernel)) ggX5_helps_X5_adds
theorem dX5_helps_0 : decode cX5_helps 0 = .ok (.aload_n 0, 1) := by decide +kernel
theorem dX5_helps_1 : decode cX5_helps 1 = .ok (.getfield 7, 3) := by decide +kernel
theorem dX5_helps_4 : decode cX5_helps 4 = .ok (.bipush 8, 2) := by decide +kernel
theorem dX5_helps_6 : decode cX5_helps 6 = .ok (.dup2, 1) := by decide +kernel
theorem dX5_helps_7 : decode cX5_helps 7 = .ok (.iaload, 1) := by decide +kernel
theorem dX5_helps_8 : decode cX5_helps 8 = .ok (.iload_n 2, 1) := by decide +kernel
theorem dX5_helps_9 : decode cX5_helps 9 = .ok (.isub, 1) := by decide +kernel
theorem dX5_helps_10 : decode cX5_helps 10 = .ok (.iastore, 1) := by decide +kernel
theorem dX5_helps_11 : decode cX5_helps 11 = .ok (.aload_n 0, 1) := by decide +kernel
theorem dX5_helps_12 : decode cX5_helps 12 = .ok (.getfield 7, 3) := by decide +kernel
theorem dX5_helps_15 : decode cX5_helps 15 = .ok (.iload_n 1, 1) := by decide +kernel
theorem dX5_helps_16 : decode cX5_helps 16 = .ok (.bipush 11, 2) := by decide +kernel
theorem dX5_helps_18 : decode cX5_helps 18 = .ok (.iload_n 2, 1) := by decide +kernel
theorem dX5_helps_19 : decode cX5_helps 19 = .ok (.invokestatic 60, 3) := by decide +kernel
theorem dX5_helps_22 : decode cX5_helps 22 = .ok (.aload_n 0, 1) := by decide +kernel
theorem dX5_helps_23 : decode cX5_helps 23 = .ok (.getfield 7, 3) := by decide +kernel
theorem dX5_helps_26 : decode cX5_helps 26 = .ok (.bipush 8, 2) := by decide +kernel
theorem dX5_helps_28 : decode cX5_helps 28 = .ok (.iaload, 1) := by decide +kernel
theorem dX5_helps_29 : decode cX5_helps 29 = .ok (.ireturn, 1) := by decide +kernel
set_option maxRecDepth 20000 in
theorem ggX5_help_X5_mayHelp : GoodIn wsX5_help wsX5_mayHelp := goodIn_r _ [6, 7, 8, 9, 10, 5, 11, 12, 13, 14, 15, 16, 17, 31, 32, 33, 34, 35, 36, 37, 38, 39, 40, 41, 42, 43, 44] (by decide +kernel) (by decide +kernel)
set_option maxRecDepth 20000 in
theorem gX5_help_X5_mayHelp : GoodIn wsX5_help (wsV RX5 122 RX5 yX5_mayHelp wsX5_mayHelp) := goodIn_app (goodIn_of _ (by decide +kernel)) ggX5_help_X5_mayHelp
set_option maxRecDepth 20000 in
theorem ggX5_help_X5_saves : GoodIn wsX5_help wsX5_saves := goodIn_r _ [21, 22, 23, 7, 31, 32, 33, 34, 35, 36, 37, 38, 39, 40, 41, 42, 43, 44] (by decide +kernel) (by decide +kernel)
set_option maxRecDepth 20000 in
theorem gX5_help_X5_saves : GoodIn wsX5_help (wsV RX5 85 RX5 yX5_saves wsX5_saves) := goodIn_app (goodIn_of _ (by decide +kernel)) ggX5_help_X5_saves
set_option maxRecDepth 20000 in
theorem ggX5_help_X5_helps : GoodIn wsX5_help wsX5_helps := goodIn_r _ [27, 7, 28, 29, 5, 30, 31, 32, 33, 34, 35, 36, 37, 38, 39, 40, 41, 42, 43, 44] (by decide +kernel) (by decide +kernel)
set_option maxRecDepth 20000 in
theorem gX5_help_X5_helps : GoodIn wsX5_help (wsV RX5 125 RX5 yX5_helps wsX5_helps) := goodIn_app (goodIn_of _ (by decide +kernel)) ggX5_help_X5_helps
theorem dX5_help_0 : decode cX5_help 0 = .ok (.aload_n 0, 1) := by decide +kernel
theorem dX5_help_1 : decode cX5_help 1 = .ok (.aload_n 0, 1) := by decide +kernel
theorem dX5_help_2 : decode cX5_help 2 = .ok (.iload_n 1, 1) := by decide +kernel
theorem dX5_help_3 : decode cX5_help 3 = .ok (.iload_n 2, 1) := by decide +kernel
theorem dX5_help_4 : decode cX5_help 4 = .ok (.invokevirtual 122, 3) := by decide +kernel
theorem dX5_help_7 : decode cX5_help 7 = .ok (.putfield 28, 3) := by decide +kernel
theorem dX5_help_10 : decode cX5_help 10 = .ok (.aload_n 0, 1) := by decide +kernel
theorem dX5_help_11 : decode cX5_help 11 = .ok (.getfield 28, 3) := by decide +kernel
theorem dX5_help_14 : decode cX5_help 14 = .ok (.ifCond .eq 5, 3) := by decide +kernel
theorem dX5_help_17 : decode cX5_help 17 = .ok (.iconst 0, 1) := by decide +kernel
theorem dX5_help_18 : decode cX5_help 18 = .ok (.ireturn, 1) := by decide +kernel
theorem dX5_help_19 : decode cX5_help 19 = .ok (.aload_n 0, 1) := by decide +kernel
theorem dX5_help_20 : decode cX5_help 20 = .ok (.invokevirtual 85, 3) := by decide +kernel
theorem dX5_help_23 : decode cX5_help 23 = .ok (.aload_n 0, 1) := by decide +kernel
theorem dX5_help_24 : decode cX5_help 24 = .ok (.iload_n 1, 1) := by decide +kernel
theorem dX5_help_25 : decode cX5_help 25 = .ok (.iload_n 2, 1) := by decide +kernel
theorem dX5_help_26 : decode cX5_help 26 = .ok (.invokevirtual 125, 3) := by decide +kernel
theorem dX5_help_29 : decode cX5_help 29 = .ok (.ireturn, 1) := by decide +kernel
set_option maxRecDepth 20000 in
theorem ggX5_sumOf_X5_of : GoodIn wsX5_sumOf wsX5_of := goodIn_r _ [5] (by decide +kernel) (by decide +kernel)
set_option maxRecDepth 20000 in
theorem gX5_sumOf_X5_of : GoodIn wsX5_sumOf (va_wsS RX5 36 yX5_of wsX5_of) := goodIn_app (goodIn_of _ (by decide +kernel)) ggX5_sumOf_X5_of
theorem dX5_sumOf_0 : decode cX5_sumOf 0 = .ok (.iconst 0, 1) := by decide +kernel
theorem dX5_sumOf_1 : decode cX5_sumOf 1 = .ok (.istore_n 2, 1) := by decide +kernel
theorem dX5_sumOf_2 : decode cX5_sumOf 2 = .ok (.iconst 0, 1) := by decide +kernel
theorem dX5_sumOf_3 : decode cX5_sumOf 3 = .ok (.istore_n 3, 1) := by decide +kernel
theorem dX5_sumOf_4 : decode cX5_sumOf 4 = .ok (.iload_n 3, 1) := by decide +kernel
theorem dX5_sumOf_5 : decode cX5_sumOf 5 = .ok (.bipush 8, 2) := by decide +kernel
theorem dX5_sumOf_7 : decode cX5_sumOf 7 = .ok (.if_icmp .ge 21, 3) := by decide +kernel
theorem dX5_sumOf_10 : decode cX5_sumOf 10 = .ok (.iload_n 2, 1) := by decide +kernel
theorem dX5_sumOf_11 : decode cX5_sumOf 11 = .ok (.aload_n 0, 1) := by decide +kernel
theorem dX5_sumOf_12 : decode cX5_sumOf 12 = .ok (.getfield 7, 3) := by decide +kernel
theorem dX5_sumOf_15 : decode cX5_sumOf 15 = .ok (.iload_n 3, 1) := by decide +kernel
theorem dX5_sumOf_16 : decode cX5_sumOf 16 = .ok (.iload_n 1, 1) := by decide +kernel
theorem dX5_sumOf_17 : decode cX5_sumOf 17 = .ok (.invokestatic 36, 3) := by decide +kernel
theorem dX5_sumOf_20 : decode cX5_sumOf 20 = .ok (.iadd, 1) := by decide +kernel
theorem dX5_sumOf_21 : decode cX5_sumOf 21 = .ok (.istore_n 2, 1) := by decide +kernel
theorem dX5_sumOf_22 : decode cX5_sumOf 22 = .ok (.iinc 3 1, 3) := by decide +kernel
theorem dX5_sumOf_25 : decode cX5_sumOf 25 = .ok (.goto (-21), 3) := by decide +kernel
theorem dX5_sumOf_28 : decode cX5_sumOf 28 = .ok (.iload_n 2, 1) := by decide +kernel
theorem dX5_sumOf_29 : decode cX5_sumOf 29 = .ok (.ireturn, 1) := by decide +kernel
set_option maxRecDepth 20000 in
theorem ggX5_mayCycle_X5_sumOf : GoodIn wsX5_mayCycle wsX5_sumOf := goodIn_r _ [5, 6, 7, 8, 4, 9, 10, 11, 12, 13, 14, 15, 16, 17, 18, 19, 20, 21, 22, 23] (by decide +kernel) (by decide +kernel)
set_option maxRecDepth 20000 in
theorem gX5_mayCycle_X5_sumOf : GoodIn wsX5_mayCycle (wsV RX5 128 RX5 yX5_sumOf wsX5_sumOf) := goodIn_app (goodIn_of _ (by decide +kernel)) ggX5_mayCycle_X5_sumOf
theorem dX5_mayCycle_0 : decode cX5_mayCycle 0 = .ok (.aload_n 0, 1) := by decide +kernel
theorem dX5_mayCycle_1 : decode cX5_mayCycle 1 = .ok (.iconst 4, 1) := by decide +kernel
theorem dX5_mayCycle_2 : decode cX5_mayCycle 2 = .ok (.invokevirtual 128, 3) := by decide +kernel
theorem dX5_mayCycle_5 : decode cX5_mayCycle 5 = .ok (.ifCond .ne 16, 3) := by decide +kernel
theorem dX5_mayCycle_8 : decode cX5_mayCycle 8 = .ok (.aload_n 0, 1) := by decide +kernel
theorem dX5_mayCycle_9 : decode cX5_mayCycle 9 = .ok (.bipush 10, 2) := by decide +kernel
theorem dX5_mayCycle_11 : decode cX5_mayCycle 11 = .ok (.invokevirtual 128, 3) := by decide +kernel
theorem dX5_mayCycle_14 : decode cX5_mayCycle 14 = .ok (.ifCond .ne 7, 3) := by decide +kernel
theorem dX5_mayCycle_17 : decode cX5_mayCycle 17 = .ok (.iconst 1, 1) := by decide +kernel
theorem dX5_mayCycle_18 : decode cX5_mayCycle 18 = .ok (.goto 4, 3) := by decide +kernel
theorem dX5_mayCycle_21 : decode cX5_mayCycle 21 = .ok (.iconst 0, 1) := by decide +kernel
theorem dX5_mayCycle_22 : decode cX5_mayCycle 22 = .ok (.ireturn, 1) := by decide +kernel
set_option maxRecDepth 20000 in
theorem ggX5_limitThen_X5_of : GoodIn wsX5_limitThen wsX5_of := goodIn_r _ [5] (by decide +kernel) (by decide +kernel)
set_option maxRecDepth 20000 in
theorem gX5_limitThen_X5_of : GoodIn wsX5_limitThen (va_wsS RX5 36 yX5_of wsX5_of) := goodIn_app (goodIn_of _ (by decide +kernel)) ggX5_limitThen_X5_of
set_option maxRecDepth 20000 in
theorem ggX5_limitThen_X5_least : GoodIn wsX5_limitThen wsX5_least := goodIn_r _ [8] (by decide +kernel) (by decide +kernel)
set_option maxRecDepth 20000 in
theorem gX5_limitThen_X5_least : GoodIn wsX5_limitThen (va_wsS RX5 112 yX5_least wsX5_least) := goodIn_app (goodIn_of _ (by decide +kernel)) ggX5_limitThen_X5_least
theorem dX5_limitThen_0 : decode cX5_limitThen 0 = .ok (.aload_n 0, 1) := by decide +kernel
theorem dX5_limitThen_1 : decode cX5_limitThen 1 = .ok (.getfield 7, 3) := by decide +kernel
theorem dX5_limitThen_4 : decode cX5_limitThen 4 = .ok (.iload_n 1, 1) := by decide +kernel
theorem dX5_limitThen_5 : decode cX5_limitThen 5 = .ok (.iconst 1, 1) := by decide +kernel
theorem dX5_limitThen_6 : decode cX5_limitThen 6 = .ok (.invokestatic 36, 3) := by decide +kernel
theorem dX5_limitThen_9 : decode cX5_limitThen 9 = .ok (.istore_n 2, 1) := by decide +kernel
theorem dX5_limitThen_10 : decode cX5_limitThen 10 = .ok (.aload_n 0, 1) := by decide +kernel
theorem dX5_limitThen_11 : decode cX5_limitThen 11 = .ok (.getfield 7, 3) := by decide +kernel
theorem dX5_limitThen_14 : decode cX5_limitThen 14 = .ok (.iload_n 1, 1) := by decide +kernel
theorem dX5_limitThen_15 : decode cX5_limitThen 15 = .ok (.bipush 8, 2) := by decide +kernel
theorem dX5_limitThen_17 : decode cX5_limitThen 17 = .ok (.invokestatic 36, 3) := by decide +kernel
theorem dX5_limitThen_20 : decode cX5_limitThen 20 = .ok (.ifCond .ne 15, 3) := by decide +kernel
theorem dX5_limitThen_23 : decode cX5_limitThen 23 = .ok (.sipush 2000, 3) := by decide +kernel
theorem dX5_limitThen_26 : decode cX5_limitThen 26 = .ok (.iload_n 2, 1) := by decide +kernel
theorem dX5_limitThen_27 : decode cX5_limitThen 27 = .ok (.iload_n 2, 1) := by decide +kernel
theorem dX5_limitThen_28 : decode cX5_limitThen 28 = .ok (.iconst 2, 1) := by decide +kernel
theorem dX5_limitThen_29 : decode cX5_limitThen 29 = .ok (.idiv, 1) := by decide +kernel
theorem dX5_limitThen_30 : decode cX5_limitThen 30 = .ok (.iadd, 1) := by decide +kernel
theorem dX5_limitThen_31 : decode cX5_limitThen 31 = .ok (.invokestatic 112, 3) := by decide +kernel
theorem dX5_limitThen_34 : decode cX5_limitThen 34 = .ok (.ireturn, 1) := by decide +kernel
theorem dX5_limitThen_35 : decode cX5_limitThen 35 = .ok (.aload_n 0, 1) := by decide +kernel
theorem dX5_limitThen_36 : decode cX5_limitThen 36 = .ok (.getfield 7, 3) := by decide +kernel
theorem dX5_limitThen_39 : decode cX5_limitThen 39 = .ok (.iload_n 1, 1) := by decide +kernel
theorem dX5_limitThen_40 : decode cX5_limitThen 40 = .ok (.bipush 8, 2) := by decide +kernel
theorem dX5_limitThen_42 : decode cX5_limitThen 42 = .ok (.invokestatic 36, 3) := by decide +kernel
theorem dX5_limitThen_45 : decode cX5_limitThen 45 = .ok (.iconst 3, 1) := by decide +kernel
theorem dX5_limitThen_46 : decode cX5_limitThen 46 = .ok (.if_icmp .ge 7, 3) := by decide +kernel
theorem dX5_limitThen_49 : decode cX5_limitThen 49 = .ok (.iload_n 2, 1) := by decide +kernel
theorem dX5_limitThen_50 : decode cX5_limitThen 50 = .ok (.goto 19, 3) := by decide +kernel
theorem dX5_limitThen_53 : decode cX5_limitThen 53 = .ok (.iload_n 2, 1) := by decide +kernel
theorem dX5_limitThen_54 : decode cX5_limitThen 54 = .ok (.iconst 2, 1) := by decide +kernel
theorem dX5_limitThen_55 : decode cX5_limitThen 55 = .ok (.idiv, 1) := by decide +kernel
theorem dX5_limitThen_56 : decode cX5_limitThen 56 = .ok (.bipush 20, 2) := by decide +kernel
theorem dX5_limitThen_58 : decode cX5_limitThen 58 = .ok (.if_icmp .ge 8, 3) := by decide +kernel
theorem dX5_limitThen_61 : decode cX5_limitThen 61 = .ok (.bipush 20, 2) := by decide +kernel
theorem dX5_limitThen_63 : decode cX5_limitThen 63 = .ok (.goto 6, 3) := by decide +kernel
theorem dX5_limitThen_66 : decode cX5_limitThen 66 = .ok (.iload_n 2, 1) := by decide +kernel
theorem dX5_limitThen_67 : decode cX5_limitThen 67 = .ok (.iconst 2, 1) := by decide +kernel
theorem dX5_limitThen_68 : decode cX5_limitThen 68 = .ok (.idiv, 1) := by decide +kernel
theorem dX5_limitThen_69 : decode cX5_limitThen 69 = .ok (.ireturn, 1) := by decide +kernel
set_option maxRecDepth 20000 in
theorem ggX5_cycles_X5_of : GoodIn wsX5_cycles wsX5_of := goodIn_r _ [5] (by decide +kernel) (by decide +kernel)
set_option maxRecDepth 20000 in
theorem gX5_cycles_X5_of : GoodIn wsX5_cycles (va_wsS RX5 36 yX5_of wsX5_of) := goodIn_app (goodIn_of _ (by decide +kernel)) ggX5_cycles_X5_of
set_option maxRecDepth 20000 in
theorem ggX5_cycles_X5_limitThen : GoodIn wsX5_cycles wsX5_limitThen := goodIn_r _ [9, 1, 2, 3, 4, 5, 10, 11, 12, 13, 14, 15, 16, 17, 18, 19, 20, 21, 22, 23, 24, 25, 26] (by decide +kernel) (by decide +kernel)
set_option maxRecDepth 20000 in
theorem gX5_cycles_X5_limitThen : GoodIn wsX5_cycles (wsV RX5 131 RX5 yX5_limitThen wsX5_limitThen) := goodIn_app (goodIn_of _ (by decide +kernel)) ggX5_cycles_X5_limitThen
theorem dX5_cycles_0 : decode cX5_cycles 0 = .ok (.iconst 0, 1) := by decide +kernel
theorem dX5_cycles_1 : decode cX5_cycles 1 = .ok (.istore_n 1, 1) := by decide +kernel
theorem dX5_cycles_2 : decode cX5_cycles 2 = .ok (.iload_n 1, 1) := by decide +kernel
theorem dX5_cycles_3 : decode cX5_cycles 3 = .ok (.bipush 8, 2) := by decide +kernel
theorem dX5_cycles_5 : decode cX5_cycles 5 = .ok (.if_icmp .ge 57, 3) := by decide +kernel
theorem dX5_cycles_8 : decode cX5_cycles 8 = .ok (.aload_n 0, 1) := by decide +kernel
theorem dX5_cycles_9 : decode cX5_cycles 9 = .ok (.getfield 7, 3) := by decide +kernel
theorem dX5_cycles_12 : decode cX5_cycles 12 = .ok (.iload_n 1, 1) := by decide +kernel
theorem dX5_cycles_13 : decode cX5_cycles 13 = .ok (.iconst 0, 1) := by decide +kernel
theorem dX5_cycles_14 : decode cX5_cycles 14 = .ok (.invokestatic 36, 3) := by decide +kernel
theorem dX5_cycles_17 : decode cX5_cycles 17 = .ok (.iconst 1, 1) := by decide +kernel
theorem dX5_cycles_18 : decode cX5_cycles 18 = .ok (.if_icmp .ne 38, 3) := by decide +kernel
theorem dX5_cycles_21 : decode cX5_cycles 21 = .ok (.aload_n 0, 1) := by decide +kernel
theorem dX5_cycles_22 : decode cX5_cycles 22 = .ok (.getfield 7, 3) := by decide +kernel
theorem dX5_cycles_25 : decode cX5_cycles 25 = .ok (.bipush 13, 2) := by decide +kernel
theorem dX5_cycles_27 : decode cX5_cycles 27 = .ok (.bipush 14, 2) := by decide +kernel
theorem dX5_cycles_29 : decode cX5_cycles 29 = .ok (.iload_n 1, 1) := by decide +kernel
theorem dX5_cycles_30 : decode cX5_cycles 30 = .ok (.imul, 1) := by decide +kernel
theorem dX5_cycles_31 : decode cX5_cycles 31 = .ok (.iadd, 1) := by decide +kernel
theorem dX5_cycles_32 : decode cX5_cycles 32 = .ok (.iconst 1, 1) := by decide +kernel
theorem dX5_cycles_33 : decode cX5_cycles 33 = .ok (.iadd, 1) := by decide +kernel
theorem dX5_cycles_34 : decode cX5_cycles 34 = .ok (.aload_n 0, 1) := by decide +kernel
theorem dX5_cycles_35 : decode cX5_cycles 35 = .ok (.iload_n 1, 1) := by decide +kernel
theorem dX5_cycles_36 : decode cX5_cycles 36 = .ok (.invokevirtual 131, 3) := by decide +kernel
theorem dX5_cycles_39 : decode cX5_cycles 39 = .ok (.iastore, 1) := by decide +kernel
theorem dX5_cycles_40 : decode cX5_cycles 40 = .ok (.aload_n 0, 1) := by decide +kernel
theorem dX5_cycles_41 : decode cX5_cycles 41 = .ok (.getfield 7, 3) := by decide +kernel
theorem dX5_cycles_44 : decode cX5_cycles 44 = .ok (.bipush 13, 2) := by decide +kernel
theorem dX5_cycles_46 : decode cX5_cycles 46 = .ok (.bipush 14, 2) := by decide +kernel
theorem dX5_cycles_48 : decode cX5_cycles 48 = .ok (.iload_n 1, 1) := by decide +kernel
theorem dX5_cycles_49 : decode cX5_cycles 49 = .ok (.imul, 1) := by decide +kernel
theorem dX5_cycles_50 : decode cX5_cycles 50 = .ok (.iadd, 1) := by decide +kernel
theorem dX5_cycles_51 : decode cX5_cycles 51 = .ok (.bipush 8, 2) := by decide +kernel
theorem dX5_cycles_53 : decode cX5_cycles 53 = .ok (.iadd, 1) := by decide +kernel
theorem dX5_cycles_54 : decode cX5_cycles 54 = .ok (.iconst 0, 1) := by decide +kernel
theorem dX5_cycles_55 : decode cX5_cycles 55 = .ok (.iastore, 1) := by decide +kernel
theorem dX5_cycles_56 : decode cX5_cycles 56 = .ok (.iinc 1 1, 3) := by decide +kernel
theorem dX5_cycles_59 : decode cX5_cycles 59 = .ok (.goto (-57), 3) := by decide +kernel
theorem dX5_cycles_62 : decode cX5_cycles 62 = .ok (.aload_n 0, 1) := by decide +kernel
theorem dX5_cycles_63 : decode cX5_cycles 63 = .ok (.getfield 7, 3) := by decide +kernel
theorem dX5_cycles_66 : decode cX5_cycles 66 = .ok (.iconst 1, 1) := by decide +kernel
theorem dX5_cycles_67 : decode cX5_cycles 67 = .ok (.dup2, 1) := by decide +kernel
theorem dX5_cycles_68 : decode cX5_cycles 68 = .ok (.iaload, 1) := by decide +kernel
theorem dX5_cycles_69 : decode cX5_cycles 69 = .ok (.iconst 1, 1) := by decide +kernel
theorem dX5_cycles_70 : decode cX5_cycles 70 = .ok (.iadd, 1) := by decide +kernel
theorem dX5_cycles_71 : decode cX5_cycles 71 = .ok (.iastore, 1) := by decide +kernel
theorem dX5_cycles_72 : decode cX5_cycles 72 = .ok (.aload_n 0, 1) := by decide +kernel
theorem dX5_cycles_73 : decode cX5_cycles 73 = .ok (.getfield 7, 3) := by decide +kernel
theorem dX5_cycles_76 : decode cX5_cycles 76 = .ok (.iconst 1, 1) := by decide +kernel
theorem dX5_cycles_77 : decode cX5_cycles 77 = .ok (.iaload, 1) := by decide +kernel
theorem dX5_cycles_78 : decode cX5_cycles 78 = .ok (.ireturn, 1) := by decide +kernel
set_option maxRecDepth 20000 in
theorem ggX5_cycle_X5_mayCycle : GoodIn wsX5_cycle wsX5_mayCycle := goodIn_r _ [6, 7, 8, 9, 5, 10, 11, 12, 13, 14, 36, 37, 38, 39, 40, 41, 42, 43, 44, 45, 46, 47, 48, 49] (by decide +kernel) (by decide +kernel)
set_option maxRecDepth 20000 in
theorem gX5_cycle_X5_mayCycle : GoodIn wsX5_cycle (wsV RX5 134 RX5 yX5_mayCycle wsX5_mayCycle) := goodIn_app (goodIn_of _ (by decide +kernel)) ggX5_cycle_X5_mayCycle
set_option maxRecDepth 20000 in
theorem ggX5_cycle_X5_fails : GoodIn wsX5_cycle wsX5_fails := goodIn_r _ [18, 1, 36, 37, 38, 39, 40, 41, 42, 43, 44, 45, 46, 47, 48, 49] (by decide +kernel) (by decide +kernel)
set_option maxRecDepth 20000 in
theorem gX5_cycle_X5_fails : GoodIn wsX5_cycle (wsV RX5 43 RX5 yX5_fails wsX5_fails) := goodIn_app (goodIn_of _ (by decide +kernel)) ggX5_cycle_X5_fails
set_option maxRecDepth 20000 in
theorem ggX5_cycle_X5_saves : GoodIn wsX5_cycle wsX5_saves := goodIn_r _ [22, 23, 24, 11, 36, 37, 38, 39, 40, 41, 42, 43, 44, 45, 46, 47, 48, 49] (by decide +kernel) (by decide +kernel)
set_option maxRecDepth 20000 in
theorem gX5_cycle_X5_saves : GoodIn wsX5_cycle (wsV RX5 85 RX5 yX5_saves wsX5_saves) := goodIn_app (goodIn_of _ (by decide +kernel)) ggX5_cycle_X5_saves
set_option maxRecDepth 20000 in
theorem ggX5_cycle_X5_cycles : GoodIn wsX5_cycle wsX5_cycles := goodIn_r _ [28, 11, 12, 13, 5, 14, 29, 30, 31, 32, 33, 34, 35, 36, 37, 38, 39, 40, 41, 42, 43, 44, 45, 46, 47, 48, 49] (by decide +kernel) (by decide +kernel)
set_option maxRecDepth 20000 in
theorem gX5_cycle_X5_cycles : GoodIn wsX5_cycle (wsV RX5 138 RX5 yX5_cycles wsX5_cycles) := goodIn_app (goodIn_of _ (by decide +kernel)) ggX5_cycle_X5_cycles
theorem dX5_cycle_0 : decode cX5_cycle 0 = .ok (.aload_n 0, 1) := by decide +kernel
theorem dX5_cycle_1 : decode cX5_cycle 1 = .ok (.iconst 0, 1) := by decide +kernel
theorem dX5_cycle_2 : decode cX5_cycle 2 = .ok (.putfield 28, 3) := by decide +kernel
theorem dX5_cycle_5 : decode cX5_cycle 5 = .ok (.aload_n 0, 1) := by decide +kernel
theorem dX5_cycle_6 : decode cX5_cycle 6 = .ok (.invokevirtual 134, 3) := by decide +kernel
theorem dX5_cycle_9 : decode cX5_cycle 9 = .ok (.ifCond .ne 9, 3) := by decide +kernel
theorem dX5_cycle_12 : decode cX5_cycle 12 = .ok (.aload_n 0, 1) := by decide +kernel
theorem dX5_cycle_13 : decode cX5_cycle 13 = .ok (.iconst 1, 1) := by decide +kernel
theorem dX5_cycle_14 : decode cX5_cycle 14 = .ok (.invokevirtual 43, 3) := by decide +kernel
theorem dX5_cycle_17 : decode cX5_cycle 17 = .ok (.ireturn, 1) := by decide +kernel
theorem dX5_cycle_18 : decode cX5_cycle 18 = .ok (.aload_n 0, 1) := by decide +kernel
theorem dX5_cycle_19 : decode cX5_cycle 19 = .ok (.invokevirtual 85, 3) := by decide +kernel
theorem dX5_cycle_22 : decode cX5_cycle 22 = .ok (.aload_n 0, 1) := by decide +kernel
theorem dX5_cycle_23 : decode cX5_cycle 23 = .ok (.invokevirtual 138, 3) := by decide +kernel
theorem dX5_cycle_26 : decode cX5_cycle 26 = .ok (.ireturn, 1) := by decide +kernel
set_option maxRecDepth 20000 in
theorem ggX5_isFor_X5_in : GoodIn wsX5_isFor wsX5_in := goodIn_r _ [4] (by decide +kernel) (by decide +kernel)
set_option maxRecDepth 20000 in
theorem gX5_isFor_X5_in : GoodIn wsX5_isFor (va_wsS RX5 32 yX5_in wsX5_in) := goodIn_app (goodIn_of _ (by decide +kernel)) ggX5_isFor_X5_in
theorem dX5_isFor_0 : decode cX5_isFor 0 = .ok (.iload_n 0, 1) := by decide +kernel
theorem dX5_isFor_1 : decode cX5_isFor 1 = .ok (.ifCond .ne 13, 3) := by decide +kernel
theorem dX5_isFor_4 : decode cX5_isFor 4 = .ok (.iload_n 1, 1) := by decide +kernel
theorem dX5_isFor_5 : decode cX5_isFor 5 = .ok (.iconst 0, 1) := by decide +kernel
theorem dX5_isFor_6 : decode cX5_isFor 6 = .ok (.bipush 50, 2) := by decide +kernel
theorem dX5_isFor_8 : decode cX5_isFor 8 = .ok (.invokestatic 32, 3) := by decide +kernel
theorem dX5_isFor_11 : decode cX5_isFor 11 = .ok (.goto 40, 3) := by decide +kernel
theorem dX5_isFor_14 : decode cX5_isFor 14 = .ok (.iload_n 0, 1) := by decide +kernel
theorem dX5_isFor_15 : decode cX5_isFor 15 = .ok (.iconst 1, 1) := by decide +kernel
theorem dX5_isFor_16 : decode cX5_isFor 16 = .ok (.if_icmp .ne 13, 3) := by decide +kernel
theorem dX5_isFor_19 : decode cX5_isFor 19 = .ok (.iload_n 1, 1) := by decide +kernel
theorem dX5_isFor_20 : decode cX5_isFor 20 = .ok (.iconst 0, 1) := by decide +kernel
theorem dX5_isFor_21 : decode cX5_isFor 21 = .ok (.bipush 99, 2) := by decide +kernel
theorem dX5_isFor_23 : decode cX5_isFor 23 = .ok (.invokestatic 32, 3) := by decide +kernel
theorem dX5_isFor_26 : decode cX5_isFor 26 = .ok (.goto 25, 3) := by decide +kernel
theorem dX5_isFor_29 : decode cX5_isFor 29 = .ok (.iload_n 0, 1) := by decide +kernel
theorem dX5_isFor_30 : decode cX5_isFor 30 = .ok (.iconst 2, 1) := by decide +kernel
theorem dX5_isFor_31 : decode cX5_isFor 31 = .ok (.if_icmp .ne 13, 3) := by decide +kernel
theorem dX5_isFor_34 : decode cX5_isFor 34 = .ok (.iload_n 1, 1) := by decide +kernel
theorem dX5_isFor_35 : decode cX5_isFor 35 = .ok (.iconst 1, 1) := by decide +kernel
theorem dX5_isFor_36 : decode cX5_isFor 36 = .ok (.bipush 20, 2) := by decide +kernel
theorem dX5_isFor_38 : decode cX5_isFor 38 = .ok (.invokestatic 32, 3) := by decide +kernel
theorem dX5_isFor_41 : decode cX5_isFor 41 = .ok (.goto 10, 3) := by decide +kernel
theorem dX5_isFor_44 : decode cX5_isFor 44 = .ok (.iload_n 1, 1) := by decide +kernel
theorem dX5_isFor_45 : decode cX5_isFor 45 = .ok (.iconst 0, 1) := by decide +kernel
theorem dX5_isFor_46 : decode cX5_isFor 46 = .ok (.bipush 100, 2) := by decide +kernel
theorem dX5_isFor_48 : decode cX5_isFor 48 = .ok (.invokestatic 32, 3) := by decide +kernel
theorem dX5_isFor_51 : decode cX5_isFor 51 = .ok (.ireturn, 1) := by decide +kernel
set_option maxRecDepth 20000 in
theorem ggX5_set_X5_in : GoodIn wsX5_set wsX5_in := goodIn_r _ [6] (by decide +kernel) (by decide +kernel)
set_option maxRecDepth 20000 in
theorem gX5_set_X5_in : GoodIn wsX5_set (va_wsS RX5 32 yX5_in wsX5_in) := goodIn_app (goodIn_of _ (by decide +kernel)) ggX5_set_X5_in
set_option maxRecDepth 20000 in
theorem ggX5_set_X5_fails : GoodIn wsX5_set wsX5_fails := goodIn_r _ [10, 1, 20, 21, 22, 23, 24, 25, 26, 27, 28, 29, 30, 31, 32, 33] (by decide +kernel) (by decide +kernel)
set_option maxRecDepth 20000 in
theorem gX5_set_X5_fails : GoodIn wsX5_set (wsV RX5 43 RX5 yX5_fails wsX5_fails) := goodIn_app (goodIn_of _ (by decide +kernel)) ggX5_set_X5_fails
set_option maxRecDepth 20000 in
theorem ggX5_set_X5_isFor : GoodIn wsX5_set wsX5_isFor := goodIn_r _ [13, 3, 4, 5, 6] (by decide +kernel) (by decide +kernel)
set_option maxRecDepth 20000 in
theorem gX5_set_X5_isFor : GoodIn wsX5_set (va_wsS RX5 141 yX5_isFor wsX5_isFor) := goodIn_app (goodIn_of _ (by decide +kernel)) ggX5_set_X5_isFor
set_option maxRecDepth 20000 in
theorem ggX5_set_X5_saves : GoodIn wsX5_set wsX5_saves := goodIn_r _ [17, 18, 19, 2, 20, 21, 22, 23, 24, 25, 26, 27, 28, 29, 30, 31, 32, 33] (by decide +kernel) (by decide +kernel)
set_option maxRecDepth 20000 in
theorem gX5_set_X5_saves : GoodIn wsX5_set (wsV RX5 85 RX5 yX5_saves wsX5_saves) := goodIn_app (goodIn_of _ (by decide +kernel)) ggX5_set_X5_saves
theorem dX5_set_0 : decode cX5_set 0 = .ok (.aload_n 0, 1) := by decide +kernel
theorem dX5_set_1 : decode cX5_set 1 = .ok (.iconst 0, 1) := by decide +kernel
theorem dX5_set_2 : decode cX5_set 2 = .ok (.putfield 28, 3) := by decide +kernel
theorem dX5_set_5 : decode cX5_set 5 = .ok (.iload_n 1, 1) := by decide +kernel
theorem dX5_set_6 : decode cX5_set 6 = .ok (.iconst 0, 1) := by decide +kernel
theorem dX5_set_7 : decode cX5_set 7 = .ok (.iconst 3, 1) := by decide +kernel
theorem dX5_set_8 : decode cX5_set 8 = .ok (.invokestatic 32, 3) := by decide +kernel
theorem dX5_set_11 : decode cX5_set 11 = .ok (.ifCond .ne 9, 3) := by decide +kernel
theorem dX5_set_14 : decode cX5_set 14 = .ok (.aload_n 0, 1) := by decide +kernel
theorem dX5_set_15 : decode cX5_set 15 = .ok (.iconst 1, 1) := by decide +kernel
theorem dX5_set_16 : decode cX5_set 16 = .ok (.invokevirtual 43, 3) := by decide +kernel
theorem dX5_set_19 : decode cX5_set 19 = .ok (.ireturn, 1) := by decide +kernel
theorem dX5_set_20 : decode cX5_set 20 = .ok (.iload_n 1, 1) := by decide +kernel
theorem dX5_set_21 : decode cX5_set 21 = .ok (.iload_n 2, 1) := by decide +kernel
theorem dX5_set_22 : decode cX5_set 22 = .ok (.invokestatic 141, 3) := by decide +kernel
theorem dX5_set_25 : decode cX5_set 25 = .ok (.ifCond .ne 9, 3) := by decide +kernel
theorem dX5_set_28 : decode cX5_set 28 = .ok (.aload_n 0, 1) := by decide +kernel
theorem dX5_set_29 : decode cX5_set 29 = .ok (.iconst 2, 1) := by decide +kernel
theorem dX5_set_30 : decode cX5_set 30 = .ok (.invokevirtual 43, 3) := by decide +kernel
theorem dX5_set_33 : decode cX5_set 33 = .ok (.ireturn, 1) := by decide +kernel
theorem dX5_set_34 : decode cX5_set 34 = .ok (.aload_n 0, 1) := by decide +kernel
theorem dX5_set_35 : decode cX5_set 35 = .ok (.invokevirtual 85, 3) := by decide +kernel
theorem dX5_set_38 : decode cX5_set 38 = .ok (.aload_n 0, 1) := by decide +kernel
theorem dX5_set_39 : decode cX5_set 39 = .ok (.getfield 7, 3) := by decide +kernel
theorem dX5_set_42 : decode cX5_set 42 = .ok (.iconst 4, 1) := by decide +kernel
theorem dX5_set_43 : decode cX5_set 43 = .ok (.iload_n 1, 1) := by decide +kernel
theorem dX5_set_44 : decode cX5_set 44 = .ok (.iadd, 1) := by decide +kernel
theorem dX5_set_45 : decode cX5_set 45 = .ok (.iaload, 1) := by decide +kernel
theorem dX5_set_46 : decode cX5_set 46 = .ok (.istore_n 3, 1) := by decide +kernel
theorem dX5_set_47 : decode cX5_set 47 = .ok (.aload_n 0, 1) := by decide +kernel
theorem dX5_set_48 : decode cX5_set 48 = .ok (.getfield 7, 3) := by decide +kernel
theorem dX5_set_51 : decode cX5_set 51 = .ok (.iconst 4, 1) := by decide +kernel
theorem dX5_set_52 : decode cX5_set 52 = .ok (.iload_n 1, 1) := by decide +kernel
theorem dX5_set_53 : decode cX5_set 53 = .ok (.iadd, 1) := by decide +kernel
theorem dX5_set_54 : decode cX5_set 54 = .ok (.iload_n 2, 1) := by decide +kernel
theorem dX5_set_55 : decode cX5_set 55 = .ok (.iastore, 1) := by decide +kernel
theorem dX5_set_56 : decode cX5_set 56 = .ok (.iload_n 3, 1) := by decide +kernel
theorem dX5_set_57 : decode cX5_set 57 = .ok (.ireturn, 1) := by decide +kernel
set_option maxRecDepth 20000 in
theorem ggX5_append_X5_in : GoodIn wsX5_append wsX5_in := goodIn_r _ [7] (by decide +kernel) (by decide +kernel)
set_option maxRecDepth 20000 in
theorem gX5_append_X5_in : GoodIn wsX5_append (va_wsS RX5 32 yX5_in wsX5_in) := goodIn_app (goodIn_of _ (by decide +kernel)) ggX5_append_X5_in
set_option maxRecDepth 20000 in
theorem ggX5_append_X5_fails : GoodIn wsX5_append wsX5_fails := goodIn_r _ [11, 1, 12, 13, 14, 15, 16, 17, 18, 19, 20, 21, 22, 23, 24, 25] (by decide +kernel) (by decide +kernel)
set_option maxRecDepth 20000 in
theorem gX5_append_X5_fails : GoodIn wsX5_append (wsV RX5 43 RX5 yX5_fails wsX5_fails) := goodIn_app (goodIn_of _ (by decide +kernel)) ggX5_append_X5_fails
theorem dX5_append_0 : decode cX5_append 0 = .ok (.aload_n 0, 1) := by decide +kernel
theorem dX5_append_1 : decode cX5_append 1 = .ok (.iconst 0, 1) := by decide +kernel
theorem dX5_append_2 : decode cX5_append 2 = .ok (.putfield 28, 3) := by decide +kernel
theorem dX5_append_5 : decode cX5_append 5 = .ok (.iload_n 1, 1) := by decide +kernel
theorem dX5_append_6 : decode cX5_append 6 = .ok (.bipush 33, 2) := by decide +kernel
theorem dX5_append_8 : decode cX5_append 8 = .ok (.bipush 126, 2) := by decide +kernel
theorem dX5_append_10 : decode cX5_append 10 = .ok (.invokestatic 32, 3) := by decide +kernel
theorem dX5_append_13 : decode cX5_append 13 = .ok (.ifCond .ne 9, 3) := by decide +kernel
theorem dX5_append_16 : decode cX5_append 16 = .ok (.aload_n 0, 1) := by decide +kernel
theorem dX5_append_17 : decode cX5_append 17 = .ok (.iconst 1, 1) := by decide +kernel
theorem dX5_append_18 : decode cX5_append 18 = .ok (.invokevirtual 43, 3) := by decide +kernel
theorem dX5_append_21 : decode cX5_append 21 = .ok (.ireturn, 1) := by decide +kernel
theorem dX5_append_22 : decode cX5_append 22 = .ok (.aload_n 0, 1) := by decide +kernel
theorem dX5_append_23 : decode cX5_append 23 = .ok (.getfield 145, 3) := by decide +kernel
theorem dX5_append_26 : decode cX5_append 26 = .ok (.bipush 60, 2) := by decide +kernel
theorem dX5_append_28 : decode cX5_append 28 = .ok (.if_icmp .ne 9, 3) := by decide +kernel
theorem dX5_append_31 : decode cX5_append 31 = .ok (.aload_n 0, 1) := by decide +kernel
theorem dX5_append_32 : decode cX5_append 32 = .ok (.iconst 2, 1) := by decide +kernel
theorem dX5_append_33 : decode cX5_append 33 = .ok (.invokevirtual 43, 3) := by decide +kernel
theorem dX5_append_36 : decode cX5_append 36 = .ok (.ireturn, 1) := by decide +kernel
theorem dX5_append_37 : decode cX5_append 37 = .ok (.aload_n 0, 1) := by decide +kernel
theorem dX5_append_38 : decode cX5_append 38 = .ok (.getfield 19, 3) := by decide +kernel
theorem dX5_append_41 : decode cX5_append 41 = .ok (.aload_n 0, 1) := by decide +kernel
theorem dX5_append_42 : decode cX5_append 42 = .ok (.getfield 145, 3) := by decide +kernel
theorem dX5_append_45 : decode cX5_append 45 = .ok (.iload_n 1, 1) := by decide +kernel
theorem dX5_append_46 : decode cX5_append 46 = .ok (.iastore, 1) := by decide +kernel
theorem dX5_append_47 : decode cX5_append 47 = .ok (.aload_n 0, 1) := by decide +kernel
theorem dX5_append_48 : decode cX5_append 48 = .ok (.dup, 1) := by decide +kernel
theorem dX5_append_49 : decode cX5_append 49 = .ok (.getfield 145, 3) := by decide +kernel
theorem dX5_append_52 : decode cX5_append 52 = .ok (.iconst 1, 1) := by decide +kernel
theorem dX5_append_53 : decode cX5_append 53 = .ok (.iadd, 1) := by decide +kernel
theorem dX5_append_54 : decode cX5_append 54 = .ok (.putfield 145, 3) := by decide +kernel
theorem dX5_append_57 : decode cX5_append 57 = .ok (.aload_n 0, 1) := by decide +kernel
theorem dX5_append_58 : decode cX5_append 58 = .ok (.getfield 145, 3) := by decide +kernel
theorem dX5_append_61 : decode cX5_append 61 = .ok (.ireturn, 1) := by decide +kernel
theorem dX5_clearBuffer_0 : decode cX5_clearBuffer 0 = .ok (.aload_n 0, 1) := by decide +kernel
theorem dX5_clearBuffer_1 : decode cX5_clearBuffer 1 = .ok (.iconst 0, 1) := by decide +kernel
theorem dX5_clearBuffer_2 : decode cX5_clearBuffer 2 = .ok (.putfield 28, 3) := by decide +kernel
theorem dX5_clearBuffer_5 : decode cX5_clearBuffer 5 = .ok (.aload_n 0, 1) := by decide +kernel
theorem dX5_clearBuffer_6 : decode cX5_clearBuffer 6 = .ok (.getfield 145, 3) := by decide +kernel
theorem dX5_clearBuffer_9 : decode cX5_clearBuffer 9 = .ok (.istore_n 1, 1) := by decide +kernel
theorem dX5_clearBuffer_10 : decode cX5_clearBuffer 10 = .ok (.aload_n 0, 1) := by decide +kernel
theorem dX5_clearBuffer_11 : decode cX5_clearBuffer 11 = .ok (.iconst 0, 1) := by decide +kernel
theorem dX5_clearBuffer_12 : decode cX5_clearBuffer 12 = .ok (.putfield 145, 3) := by decide +kernel
theorem dX5_clearBuffer_15 : decode cX5_clearBuffer 15 = .ok (.iload_n 1, 1) := by decide +kernel
theorem dX5_clearBuffer_16 : decode cX5_clearBuffer 16 = .ok (.ireturn, 1) := by decide +kernel
set_option maxRecDepth 20000 in
theorem ggX5_isAt_X5_in : GoodIn wsX5_isAt wsX5_in := goodIn_r _ [7] (by decide +kernel) (by decide +kernel)
set_option maxRecDepth 20000 in
theorem gX5_isAt_X5_in : GoodIn wsX5_isAt (va_wsS RX5 32 yX5_in wsX5_in) := goodIn_app (goodIn_of _ (by decide +kernel)) ggX5_isAt_X5_in
theorem dX5_isAt_0 : decode cX5_isAt 0 = .ok (.aload_n 0, 1) := by decide +kernel
theorem dX5_isAt_1 : decode cX5_isAt 1 = .ok (.getfield 148, 3) := by decide +kernel
theorem dX5_isAt_4 : decode cX5_isAt 4 = .ok (.aload_n 0, 1) := by decide +kernel
theorem dX5_isAt_5 : decode cX5_isAt 5 = .ok (.getfield 145, 3) := by decide +kernel
theorem dX5_isAt_8 : decode cX5_isAt 8 = .ok (.if_icmp .ge 24, 3) := by decide +kernel
theorem dX5_isAt_11 : decode cX5_isAt 11 = .ok (.aload_n 0, 1) := by decide +kernel
theorem dX5_isAt_12 : decode cX5_isAt 12 = .ok (.getfield 19, 3) := by decide +kernel
theorem dX5_isAt_15 : decode cX5_isAt 15 = .ok (.aload_n 0, 1) := by decide +kernel
theorem dX5_isAt_16 : decode cX5_isAt 16 = .ok (.getfield 148, 3) := by decide +kernel
theorem dX5_isAt_19 : decode cX5_isAt 19 = .ok (.iaload, 1) := by decide +kernel
theorem dX5_isAt_20 : decode cX5_isAt 20 = .ok (.iload_n 1, 1) := by decide +kernel
theorem dX5_isAt_21 : decode cX5_isAt 21 = .ok (.iload_n 2, 1) := by decide +kernel
theorem dX5_isAt_22 : decode cX5_isAt 22 = .ok (.invokestatic 32, 3) := by decide +kernel
theorem dX5_isAt_25 : decode cX5_isAt 25 = .ok (.ifCond .eq 7, 3) := by decide +kernel
theorem dX5_isAt_28 : decode cX5_isAt 28 = .ok (.iconst 1, 1) := by decide +kernel
theorem dX5_isAt_29 : decode cX5_isAt 29 = .ok (.goto 4, 3) := by decide +kernel
theorem dX5_isAt_32 : decode cX5_isAt 32 = .ok (.iconst 0, 1) := by decide +kernel
theorem dX5_isAt_33 : decode cX5_isAt 33 = .ok (.ireturn, 1) := by decide +kernel
theorem dX5_stops_0 : decode cX5_stops 0 = .ok (.aload_n 0, 1) := by decide +kernel
theorem dX5_stops_1 : decode cX5_stops 1 = .ok (.aload_n 0, 1) := by decide +kernel
theorem dX5_stops_2 : decode cX5_stops 2 = .ok (.getfield 148, 3) := by decide +kernel
theorem dX5_stops_5 : decode cX5_stops 5 = .ok (.aload_n 0, 1) := by decide +kernel
theorem dX5_stops_6 : decode cX5_stops 6 = .ok (.getfield 145, 3) := by decide +kernel
theorem dX5_stops_9 : decode cX5_stops 9 = .ok (.if_icmp .ge 7, 3) := by decide +kernel
theorem dX5_stops_12 : decode cX5_stops 12 = .ok (.iconst 1, 1) := by decide +kernel
theorem dX5_stops_13 : decode cX5_stops 13 = .ok (.goto 4, 3) := by decide +kernel
theorem dX5_stops_16 : decode cX5_stops 16 = .ok (.iconst 0, 1) := by decide +kernel
theorem dX5_stops_17 : decode cX5_stops 17 = .ok (.putfield 151, 3) := by decide +kernel
theorem dX5_stops_20 : decode cX5_stops 20 = .ok (.iconst 0, 1) := by decide +kernel
theorem dX5_stops_21 : decode cX5_stops 21 = .ok (.ireturn, 1) := by decide +kernel
set_option maxRecDepth 20000 in
theorem ggX5_isSign_X5_isAt : GoodIn wsX5_isSign wsX5_isAt := goodIn_r _ [6, 1, 7, 8, 9, 10, 5, 11, 17, 18, 19, 20, 21, 22, 23, 24, 25, 26, 27, 28, 29, 30] (by decide +kernel) (by decide +kernel)
set_option maxRecDepth 20000 in
theorem gX5_isSign_X5_isAt : GoodIn wsX5_isSign (wsV RX5 154 RX5 yX5_isAt wsX5_isAt) := goodIn_app (goodIn_of _ (by decide +kernel)) ggX5_isSign_X5_isAt
set_option maxRecDepth 20000 in
theorem ggX5_isSign_X5_stops : GoodIn wsX5_isSign wsX5_stops := goodIn_r _ [15, 1, 7, 16, 17, 18, 19, 20, 21, 22, 23, 24, 25, 26, 27, 28, 29, 30] (by decide +kernel) (by decide +kernel)
set_option maxRecDepth 20000 in
theorem gX5_isSign_X5_stops : GoodIn wsX5_isSign (wsV RX5 157 RX5 yX5_stops wsX5_stops) := goodIn_app (goodIn_of _ (by decide +kernel)) ggX5_isSign_X5_stops
theorem dX5_isSign_0 : decode cX5_isSign 0 = .ok (.aload_n 0, 1) := by decide +kernel
theorem dX5_isSign_1 : decode cX5_isSign 1 = .ok (.iload_n 1, 1) := by decide +kernel
theorem dX5_isSign_2 : decode cX5_isSign 2 = .ok (.iload_n 1, 1) := by decide +kernel
theorem dX5_isSign_3 : decode cX5_isSign 3 = .ok (.invokevirtual 154, 3) := by decide +kernel
theorem dX5_isSign_6 : decode cX5_isSign 6 = .ok (.ifCond .ne 8, 3) := by decide +kernel
theorem dX5_isSign_9 : decode cX5_isSign 9 = .ok (.aload_n 0, 1) := by decide +kernel
theorem dX5_isSign_10 : decode cX5_isSign 10 = .ok (.invokevirtual 157, 3) := by decide +kernel
theorem dX5_isSign_13 : decode cX5_isSign 13 = .ok (.ireturn, 1) := by decide +kernel
theorem dX5_isSign_14 : decode cX5_isSign 14 = .ok (.aload_n 0, 1) := by decide +kernel
theorem dX5_isSign_15 : decode cX5_isSign 15 = .ok (.dup, 1) := by decide +kernel
theorem dX5_isSign_16 : decode cX5_isSign 16 = .ok (.getfield 148, 3) := by decide +kernel
theorem dX5_isSign_19 : decode cX5_isSign 19 = .ok (.iconst 1, 1) := by decide +kernel
theorem dX5_isSign_20 : decode cX5_isSign 20 = .ok (.iadd, 1) := by decide +kernel
theorem dX5_isSign_21 : decode cX5_isSign 21 = .ok (.putfield 148, 3) := by decide +kernel
theorem dX5_isSign_24 : decode cX5_isSign 24 = .ok (.iconst 1, 1) := by decide +kernel
theorem dX5_isSign_25 : decode cX5_isSign 25 = .ok (.ireturn, 1) := by decide +kernel
theorem dX5_begins_0 : decode cX5_begins 0 = .ok (.iload_n 0, 1) := by decide +kernel
theorem dX5_begins_1 : decode cX5_begins 1 = .ok (.istore_n 3, 1) := by decide +kernel
theorem dX5_begins_2 : decode cX5_begins 2 = .ok (.iload_n 0, 1) := by decide +kernel
theorem dX5_begins_3 : decode cX5_begins 3 = .ok (.istore 4, 2) := by decide +kernel
theorem dX5_begins_5 : decode cX5_begins 5 = .ok (.iload_n 0, 1) := by decide +kernel
theorem dX5_begins_6 : decode cX5_begins 6 = .ok (.ifCond .le 34, 3) := by decide +kernel
theorem dX5_begins_9 : decode cX5_begins 9 = .ok (.iload_n 3, 1) := by decide +kernel
theorem dX5_begins_10 : decode cX5_begins 10 = .ok (.iload_n 2, 1) := by decide +kernel
theorem dX5_begins_11 : decode cX5_begins 11 = .ok (.if_icmp .gt 29, 3) := by decide +kernel
theorem dX5_begins_14 : decode cX5_begins 14 = .ok (.iload 4, 2) := by decide +kernel
theorem dX5_begins_16 : decode cX5_begins 16 = .ok (.iload_n 1, 1) := by decide +kernel
theorem dX5_begins_17 : decode cX5_begins 17 = .ok (.if_icmp .lt 5, 3) := by decide +kernel
theorem dX5_begins_20 : decode cX5_begins 20 = .ok (.iconst 1, 1) := by decide +kernel
theorem dX5_begins_21 : decode cX5_begins 21 = .ok (.ireturn, 1) := by decide +kernel
theorem dX5_begins_22 : decode cX5_begins 22 = .ok (.iload_n 3, 1) := by decide +kernel
theorem dX5_begins_23 : decode cX5_begins 23 = .ok (.bipush 10, 2) := by decide +kernel
theorem dX5_begins_25 : decode cX5_begins 25 = .ok (.imul, 1) := by decide +kernel
theorem dX5_begins_26 : decode cX5_begins 26 = .ok (.istore_n 3, 1) := by decide +kernel
theorem dX5_begins_27 : decode cX5_begins 27 = .ok (.bipush 10, 2) := by decide +kernel
theorem dX5_begins_29 : decode cX5_begins 29 = .ok (.iload 4, 2) := by decide +kernel
theorem dX5_begins_31 : decode cX5_begins 31 = .ok (.imul, 1) := by decide +kernel
theorem dX5_begins_32 : decode cX5_begins 32 = .ok (.bipush 9, 2) := by decide +kernel
theorem dX5_begins_34 : decode cX5_begins 34 = .ok (.iadd, 1) := by decide +kernel
theorem dX5_begins_35 : decode cX5_begins 35 = .ok (.istore 4, 2) := by decide +kernel
theorem dX5_begins_37 : decode cX5_begins 37 = .ok (.goto (-32), 3) := by decide +kernel
theorem dX5_begins_40 : decode cX5_begins 40 = .ok (.iconst 0, 1) := by decide +kernel
theorem dX5_begins_41 : decode cX5_begins 41 = .ok (.ireturn, 1) := by decide +kernel
set_option maxRecDepth 20000 in
theorem ggX5_isNumber_X5_isAt : GoodIn wsX5_isNumber wsX5_isAt := goodIn_r _ [8, 3, 9, 2, 10, 11, 7, 12, 21, 22, 23, 24, 25, 26, 27, 28, 29, 30, 31, 32, 33, 34] (by decide +kernel) (by decide +kernel)
set_option maxRecDepth 20000 in
theorem gX5_isNumber_X5_isAt : GoodIn wsX5_isNumber (wsV RX5 154 RX5 yX5_isAt wsX5_isAt) := goodIn_app (goodIn_of _ (by decide +kernel)) ggX5_isNumber_X5_isAt
set_option maxRecDepth 20000 in
theorem ggX5_isNumber_X5_begins : GoodIn wsX5_isNumber wsX5_begins := goodIn_r _ [15] (by decide +kernel) (by decide +kernel)
set_option maxRecDepth 20000 in
theorem gX5_isNumber_X5_begins : GoodIn wsX5_isNumber (va_wsS RX5 163 yX5_begins wsX5_begins) := goodIn_app (goodIn_of _ (by decide +kernel)) ggX5_isNumber_X5_begins
set_option maxRecDepth 20000 in
theorem ggX5_isNumber_X5_in : GoodIn wsX5_isNumber wsX5_in := goodIn_r _ [12] (by decide +kernel) (by decide +kernel)
set_option maxRecDepth 20000 in
theorem gX5_isNumber_X5_in : GoodIn wsX5_isNumber (va_wsS RX5 32 yX5_in wsX5_in) := goodIn_app (goodIn_of _ (by decide +kernel)) ggX5_isNumber_X5_in
set_option maxRecDepth 20000 in
theorem ggX5_isNumber_X5_stops : GoodIn wsX5_isNumber wsX5_stops := goodIn_r _ [19, 3, 9, 20, 21, 22, 23, 24, 25, 26, 27, 28, 29, 30, 31, 32, 33, 34] (by decide +kernel) (by decide +kernel)
set_option maxRecDepth 20000 in
theorem gX5_isNumber_X5_stops : GoodIn wsX5_isNumber (wsV RX5 157 RX5 yX5_stops wsX5_stops) := goodIn_app (goodIn_of _ (by decide +kernel)) ggX5_isNumber_X5_stops
theorem dX5_isNumber_0 : decode cX5_isNumber 0 = .ok (.aload_n 0, 1) := by decide +kernel
theorem dX5_isNumber_1 : decode cX5_isNumber 1 = .ok (.iconst 0, 1) := by decide +kernel
theorem dX5_isNumber_2 : decode cX5_isNumber 2 = .ok (.putfield 160, 3) := by decide +kernel
theorem dX5_isNumber_5 : decode cX5_isNumber 5 = .ok (.aload_n 0, 1) := by decide +kernel
theorem dX5_isNumber_6 : decode cX5_isNumber 6 = .ok (.bipush 48, 2) := by decide +kernel
theorem dX5_isNumber_8 : decode cX5_isNumber 8 = .ok (.bipush 57, 2) := by decide +kernel
theorem dX5_isNumber_10 : decode cX5_isNumber 10 = .ok (.invokevirtual 154, 3) := by decide +kernel
theorem dX5_isNumber_13 : decode cX5_isNumber 13 = .ok (.ifCond .eq 68, 3) := by decide +kernel
theorem dX5_isNumber_16 : decode cX5_isNumber 16 = .ok (.bipush 10, 2) := by decide +kernel
theorem dX5_isNumber_18 : decode cX5_isNumber 18 = .ok (.aload_n 0, 1) := by decide +kernel
theorem dX5_isNumber_19 : decode cX5_isNumber 19 = .ok (.getfield 160, 3) := by decide +kernel
theorem dX5_isNumber_22 : decode cX5_isNumber 22 = .ok (.imul, 1) := by decide +kernel
theorem dX5_isNumber_23 : decode cX5_isNumber 23 = .ok (.aload_n 0, 1) := by decide +kernel
theorem dX5_isNumber_24 : decode cX5_isNumber 24 = .ok (.getfield 19, 3) := by decide +kernel
theorem dX5_isNumber_27 : decode cX5_isNumber 27 = .ok (.aload_n 0, 1) := by decide +kernel
theorem dX5_isNumber_28 : decode cX5_isNumber 28 = .ok (.getfield 148, 3) := by decide +kernel
theorem dX5_isNumber_31 : decode cX5_isNumber 31 = .ok (.iaload, 1) := by decide +kernel
theorem dX5_isNumber_32 : decode cX5_isNumber 32 = .ok (.iadd, 1) := by decide +kernel
theorem dX5_isNumber_33 : decode cX5_isNumber 33 = .ok (.bipush 48, 2) := by decide +kernel
theorem dX5_isNumber_35 : decode cX5_isNumber 35 = .ok (.isub, 1) := by decide +kernel
theorem dX5_isNumber_36 : decode cX5_isNumber 36 = .ok (.iload_n 1, 1) := by decide +kernel
theorem dX5_isNumber_37 : decode cX5_isNumber 37 = .ok (.iload_n 2, 1) := by decide +kernel
theorem dX5_isNumber_38 : decode cX5_isNumber 38 = .ok (.invokestatic 163, 3) := by decide +kernel
theorem dX5_isNumber_41 : decode cX5_isNumber 41 = .ok (.ifCond .eq 40, 3) := by decide +kernel
theorem dX5_isNumber_44 : decode cX5_isNumber 44 = .ok (.aload_n 0, 1) := by decide +kernel
theorem dX5_isNumber_45 : decode cX5_isNumber 45 = .ok (.bipush 10, 2) := by decide +kernel
theorem dX5_isNumber_47 : decode cX5_isNumber 47 = .ok (.aload_n 0, 1) := by decide +kernel
theorem dX5_isNumber_48 : decode cX5_isNumber 48 = .ok (.getfield 160, 3) := by decide +kernel
theorem dX5_isNumber_51 : decode cX5_isNumber 51 = .ok (.imul, 1) := by decide +kernel
theorem dX5_isNumber_52 : decode cX5_isNumber 52 = .ok (.aload_n 0, 1) := by decide +kernel
theorem dX5_isNumber_53 : decode cX5_isNumber 53 = .ok (.getfield 19, 3) := by decide +kernel
theorem dX5_isNumber_56 : decode cX5_isNumber 56 = .ok (.aload_n 0, 1) := by decide +kernel
theorem dX5_isNumber_57 : decode cX5_isNumber 57 = .ok (.getfield 148, 3) := by decide +kernel
theorem dX5_isNumber_60 : decode cX5_isNumber 60 = .ok (.iaload, 1) := by decide +kernel
theorem dX5_isNumber_61 : decode cX5_isNumber 61 = .ok (.iadd, 1) := by decide +kernel
theorem dX5_isNumber_62 : decode cX5_isNumber 62 = .ok (.bipush 48, 2) := by decide +kernel
theorem dX5_isNumber_64 : decode cX5_isNumber 64 = .ok (.isub, 1) := by decide +kernel
theorem dX5_isNumber_65 : decode cX5_isNumber 65 = .ok (.putfield 160, 3) := by decide +kernel
theorem dX5_isNumber_68 : decode cX5_isNumber 68 = .ok (.aload_n 0, 1) := by decide +kernel
theorem dX5_isNumber_69 : decode cX5_isNumber 69 = .ok (.dup, 1) := by decide +kernel
theorem dX5_isNumber_70 : decode cX5_isNumber 70 = .ok (.getfield 148, 3) := by decide +kernel
theorem dX5_isNumber_73 : decode cX5_isNumber 73 = .ok (.iconst 1, 1) := by decide +kernel
theorem dX5_isNumber_74 : decode cX5_isNumber 74 = .ok (.iadd, 1) := by decide +kernel
theorem dX5_isNumber_75 : decode cX5_isNumber 75 = .ok (.putfield 148, 3) := by decide +kernel
theorem dX5_isNumber_78 : decode cX5_isNumber 78 = .ok (.goto (-73), 3) := by decide +kernel
theorem dX5_isNumber_81 : decode cX5_isNumber 81 = .ok (.aload_n 0, 1) := by decide +kernel
theorem dX5_isNumber_82 : decode cX5_isNumber 82 = .ok (.getfield 160, 3) := by decide +kernel
theorem dX5_isNumber_85 : decode cX5_isNumber 85 = .ok (.iload_n 1, 1) := by decide +kernel
theorem dX5_isNumber_86 : decode cX5_isNumber 86 = .ok (.iload_n 2, 1) := by decide +kernel
theorem dX5_isNumber_87 : decode cX5_isNumber 87 = .ok (.invokestatic 32, 3) := by decide +kernel
theorem dX5_isNumber_90 : decode cX5_isNumber 90 = .ok (.ifCond .ne 10, 3) := by decide +kernel
theorem dX5_isNumber_93 : decode cX5_isNumber 93 = .ok (.aload_n 0, 1) := by decide +kernel
theorem dX5_isNumber_94 : decode cX5_isNumber 94 = .ok (.invokevirtual 157, 3) := by decide +kernel
theorem dX5_isNumber_97 : decode cX5_isNumber 97 = .ok (.ifCond .eq 7, 3) := by decide +kernel
theorem dX5_isNumber_100 : decode cX5_isNumber 100 = .ok (.iconst 1, 1) := by decide +kernel
theorem dX5_isNumber_101 : decode cX5_isNumber 101 = .ok (.goto 4, 3) := by decide +kernel
theorem dX5_isNumber_104 : decode cX5_isNumber 104 = .ok (.iconst 0, 1) := by decide +kernel
theorem dX5_isNumber_105 : decode cX5_isNumber 105 = .ok (.ireturn, 1) := by decide +kernel
set_option maxRecDepth 20000 in
theorem ggX5_isMemberOf_X5_isAt : GoodIn wsX5_isMemberOf wsX5_isAt := goodIn_r _ [9, 4, 10, 3, 11, 12, 8, 13, 19, 20, 21, 22, 23, 24, 25, 26, 27, 28, 29, 30, 31, 32] (by decide +kernel) (by decide +kernel)
set_option maxRecDepth 20000 in
theorem gX5_isMemberOf_X5_isAt : GoodIn wsX5_isMemberOf (wsV RX5 154 RX5 yX5_isAt wsX5_isAt) := goodIn_app (goodIn_of _ (by decide +kernel)) ggX5_isMemberOf_X5_isAt
set_option maxRecDepth 20000 in
theorem ggX5_isMemberOf_X5_stops : GoodIn wsX5_isMemberOf wsX5_stops := goodIn_r _ [17, 4, 10, 18, 19, 20, 21, 22, 23, 24, 25, 26, 27, 28, 29, 30, 31, 32] (by decide +kernel) (by decide +kernel)
set_option maxRecDepth 20000 in
theorem gX5_isMemberOf_X5_stops : GoodIn wsX5_isMemberOf (wsV RX5 157 RX5 yX5_stops wsX5_stops) := goodIn_app (goodIn_of _ (by decide +kernel)) ggX5_isMemberOf_X5_stops
theorem dX5_isMemberOf_0 : decode cX5_isMemberOf 0 = .ok (.aload_n 0, 1) := by decide +kernel
theorem dX5_isMemberOf_1 : decode cX5_isMemberOf 1 = .ok (.bipush 48, 2) := by decide +kernel
theorem dX5_isMemberOf_3 : decode cX5_isMemberOf 3 = .ok (.bipush 55, 2) := by decide +kernel
theorem dX5_isMemberOf_5 : decode cX5_isMemberOf 5 = .ok (.invokevirtual 154, 3) := by decide +kernel
theorem dX5_isMemberOf_8 : decode cX5_isMemberOf 8 = .ok (.ifCond .ne 8, 3) := by decide +kernel
theorem dX5_isMemberOf_11 : decode cX5_isMemberOf 11 = .ok (.aload_n 0, 1) := by decide +kernel
theorem dX5_isMemberOf_12 : decode cX5_isMemberOf 12 = .ok (.invokevirtual 157, 3) := by decide +kernel
theorem dX5_isMemberOf_15 : decode cX5_isMemberOf 15 = .ok (.ireturn, 1) := by decide +kernel
theorem dX5_isMemberOf_16 : decode cX5_isMemberOf 16 = .ok (.aload_n 0, 1) := by decide +kernel
theorem dX5_isMemberOf_17 : decode cX5_isMemberOf 17 = .ok (.getfield 22, 3) := by decide +kernel
theorem dX5_isMemberOf_20 : decode cX5_isMemberOf 20 = .ok (.iconst 4, 1) := by decide +kernel
theorem dX5_isMemberOf_21 : decode cX5_isMemberOf 21 = .ok (.aload_n 0, 1) := by decide +kernel
theorem dX5_isMemberOf_22 : decode cX5_isMemberOf 22 = .ok (.getfield 166, 3) := by decide +kernel
theorem dX5_isMemberOf_25 : decode cX5_isMemberOf 25 = .ok (.imul, 1) := by decide +kernel
theorem dX5_isMemberOf_26 : decode cX5_isMemberOf 26 = .ok (.iconst 1, 1) := by decide +kernel
theorem dX5_isMemberOf_27 : decode cX5_isMemberOf 27 = .ok (.iadd, 1) := by decide +kernel
theorem dX5_isMemberOf_28 : decode cX5_isMemberOf 28 = .ok (.aload_n 0, 1) := by decide +kernel
theorem dX5_isMemberOf_29 : decode cX5_isMemberOf 29 = .ok (.getfield 19, 3) := by decide +kernel
theorem dX5_isMemberOf_32 : decode cX5_isMemberOf 32 = .ok (.aload_n 0, 1) := by decide +kernel
theorem dX5_isMemberOf_33 : decode cX5_isMemberOf 33 = .ok (.getfield 148, 3) := by decide +kernel
theorem dX5_isMemberOf_36 : decode cX5_isMemberOf 36 = .ok (.iaload, 1) := by decide +kernel
theorem dX5_isMemberOf_37 : decode cX5_isMemberOf 37 = .ok (.bipush 48, 2) := by decide +kernel
theorem dX5_isMemberOf_39 : decode cX5_isMemberOf 39 = .ok (.isub, 1) := by decide +kernel
theorem dX5_isMemberOf_40 : decode cX5_isMemberOf 40 = .ok (.iastore, 1) := by decide +kernel
theorem dX5_isMemberOf_41 : decode cX5_isMemberOf 41 = .ok (.aload_n 0, 1) := by decide +kernel
theorem dX5_isMemberOf_42 : decode cX5_isMemberOf 42 = .ok (.dup, 1) := by decide +kernel
theorem dX5_isMemberOf_43 : decode cX5_isMemberOf 43 = .ok (.getfield 148, 3) := by decide +kernel
theorem dX5_isMemberOf_46 : decode cX5_isMemberOf 46 = .ok (.iconst 1, 1) := by decide +kernel
theorem dX5_isMemberOf_47 : decode cX5_isMemberOf 47 = .ok (.iadd, 1) := by decide +kernel
theorem dX5_isMemberOf_48 : decode cX5_isMemberOf 48 = .ok (.putfield 148, 3) := by decide +kernel
theorem dX5_isMemberOf_51 : decode cX5_isMemberOf 51 = .ok (.iconst 1, 1) := by decide +kernel
theorem dX5_isMemberOf_52 : decode cX5_isMemberOf 52 = .ok (.ireturn, 1) := by decide +kernel
set_option maxRecDepth 20000 in
theorem ggX5_isMoney_X5_isMemberOf : GoodIn wsX5_isMoney wsX5_isMemberOf := goodIn_r _ [8, 1, 2, 9, 10, 11, 12, 13, 7, 14, 15, 16, 17, 18, 19, 20, 21, 22, 23, 35, 36, 37, 38, 39, 40, 41, 42, 43, 44, 45, 46, 47, 48] (by decide +kernel) (by decide +kernel)
set_option maxRecDepth 20000 in
theorem gX5_isMoney_X5_isMemberOf : GoodIn wsX5_isMoney (wsV RX5 169 RX5 yX5_isMemberOf wsX5_isMemberOf) := goodIn_app (goodIn_of _ (by decide +kernel)) ggX5_isMoney_X5_isMemberOf
set_option maxRecDepth 20000 in
theorem ggX5_isMoney_X5_isSign : GoodIn wsX5_isMoney wsX5_isSign := goodIn_r _ [27, 10, 11, 12, 13, 7, 14, 15, 9, 16, 17, 18, 19, 20, 21, 22, 23, 35, 36, 37, 38, 39, 40, 41, 42, 43, 44, 45, 46, 47, 48] (by decide +kernel) (by decide +kernel)
set_option maxRecDepth 20000 in
theorem gX5_isMoney_X5_isSign : GoodIn wsX5_isMoney (wsV RX5 172 RX5 yX5_isSign wsX5_isSign) := goodIn_app (goodIn_of _ (by decide +kernel)) ggX5_isMoney_X5_isSign
set_option maxRecDepth 20000 in
theorem ggX5_isMoney_X5_isNumber : GoodIn wsX5_isMoney wsX5_isNumber := goodIn_r _ [31, 3, 9, 10, 11, 12, 13, 7, 14, 15, 16, 17, 18, 32, 33, 34, 19, 20, 21, 22, 23, 35, 36, 37, 38, 39, 40, 41, 42, 43, 44, 45, 46, 47, 48] (by decide +kernel) (by decide +kernel)
set_option maxRecDepth 20000 in
theorem gX5_isMoney_X5_isNumber : GoodIn wsX5_isMoney (wsV RX5 175 RX5 yX5_isNumber wsX5_isNumber) := goodIn_app (goodIn_of _ (by decide +kernel)) ggX5_isMoney_X5_isNumber
theorem dX5_isMoney_0 : decode cX5_isMoney 0 = .ok (.aload_n 0, 1) := by decide +kernel
theorem dX5_isMoney_1 : decode cX5_isMoney 1 = .ok (.invokevirtual 169, 3) := by decide +kernel
theorem dX5_isMoney_4 : decode cX5_isMoney 4 = .ok (.ifCond .eq 27, 3) := by decide +kernel
theorem dX5_isMoney_7 : decode cX5_isMoney 7 = .ok (.aload_n 0, 1) := by decide +kernel
theorem dX5_isMoney_8 : decode cX5_isMoney 8 = .ok (.bipush 42, 2) := by decide +kernel
theorem dX5_isMoney_10 : decode cX5_isMoney 10 = .ok (.invokevirtual 172, 3) := by decide +kernel
theorem dX5_isMoney_13 : decode cX5_isMoney 13 = .ok (.ifCond .eq 18, 3) := by decide +kernel
theorem dX5_isMoney_16 : decode cX5_isMoney 16 = .ok (.aload_n 0, 1) := by decide +kernel
theorem dX5_isMoney_17 : decode cX5_isMoney 17 = .ok (.iconst 1, 1) := by decide +kernel
theorem dX5_isMoney_18 : decode cX5_isMoney 18 = .ok (.sipush 2000, 3) := by decide +kernel
theorem dX5_isMoney_21 : decode cX5_isMoney 21 = .ok (.invokevirtual 175, 3) := by decide +kernel
theorem dX5_isMoney_24 : decode cX5_isMoney 24 = .ok (.ifCond .eq 7, 3) := by decide +kernel
theorem dX5_isMoney_27 : decode cX5_isMoney 27 = .ok (.iconst 1, 1) := by decide +kernel
theorem dX5_isMoney_28 : decode cX5_isMoney 28 = .ok (.goto 4, 3) := by decide +kernel
theorem dX5_isMoney_31 : decode cX5_isMoney 31 = .ok (.iconst 0, 1) := by decide +kernel
theorem dX5_isMoney_32 : decode cX5_isMoney 32 = .ok (.istore_n 1, 1) := by decide +kernel
theorem dX5_isMoney_33 : decode cX5_isMoney 33 = .ok (.aload_n 0, 1) := by decide +kernel
theorem dX5_isMoney_34 : decode cX5_isMoney 34 = .ok (.getfield 22, 3) := by decide +kernel
theorem dX5_isMoney_37 : decode cX5_isMoney 37 = .ok (.iconst 4, 1) := by decide +kernel
theorem dX5_isMoney_38 : decode cX5_isMoney 38 = .ok (.aload_n 0, 1) := by decide +kernel
theorem dX5_isMoney_39 : decode cX5_isMoney 39 = .ok (.getfield 166, 3) := by decide +kernel
theorem dX5_isMoney_42 : decode cX5_isMoney 42 = .ok (.imul, 1) := by decide +kernel
theorem dX5_isMoney_43 : decode cX5_isMoney 43 = .ok (.iconst 2, 1) := by decide +kernel
theorem dX5_isMoney_44 : decode cX5_isMoney 44 = .ok (.iadd, 1) := by decide +kernel
theorem dX5_isMoney_45 : decode cX5_isMoney 45 = .ok (.aload_n 0, 1) := by decide +kernel
theorem dX5_isMoney_46 : decode cX5_isMoney 46 = .ok (.getfield 160, 3) := by decide +kernel
theorem dX5_isMoney_49 : decode cX5_isMoney 49 = .ok (.iastore, 1) := by decide +kernel
theorem dX5_isMoney_50 : decode cX5_isMoney 50 = .ok (.iload_n 1, 1) := by decide +kernel
theorem dX5_isMoney_51 : decode cX5_isMoney 51 = .ok (.ireturn, 1) := by decide +kernel
set_option maxRecDepth 20000 in
theorem ggX5_isLoan_X5_isMemberOf : GoodIn wsX5_isLoan wsX5_isMemberOf := goodIn_r _ [8, 1, 2, 9, 10, 11, 12, 13, 7, 14, 15, 16, 17, 18, 19, 20, 21, 22, 23, 35, 36, 37, 38, 39, 40, 41, 42, 43, 44, 45, 46, 47, 48] (by decide +kernel) (by decide +kernel)
set_option maxRecDepth 20000 in
theorem gX5_isLoan_X5_isMemberOf : GoodIn wsX5_isLoan (wsV RX5 169 RX5 yX5_isMemberOf wsX5_isMemberOf) := goodIn_app (goodIn_of _ (by decide +kernel)) ggX5_isLoan_X5_isMemberOf
set_option maxRecDepth 20000 in
theorem ggX5_isLoan_X5_isSign : GoodIn wsX5_isLoan wsX5_isSign := goodIn_r _ [27, 10, 11, 12, 13, 7, 14, 15, 9, 16, 17, 18, 19, 20, 21, 22, 23, 35, 36, 37, 38, 39, 40, 41, 42, 43, 44, 45, 46, 47, 48] (by decide +kernel) (by decide +kernel)
set_option maxRecDepth 20000 in
theorem gX5_isLoan_X5_isSign : GoodIn wsX5_isLoan (wsV RX5 172 RX5 yX5_isSign wsX5_isSign) := goodIn_app (goodIn_of _ (by decide +kernel)) ggX5_isLoan_X5_isSign
set_option maxRecDepth 20000 in
theorem ggX5_isLoan_X5_isNumber : GoodIn wsX5_isLoan wsX5_isNumber := goodIn_r _ [31, 3, 9, 10, 11, 12, 13, 7, 14, 15, 16, 17, 18, 32, 33, 34, 19, 20, 21, 22, 23, 35, 36, 37, 38, 39, 40, 41, 42, 43, 44, 45, 46, 47, 48] (by decide +kernel) (by decide +kernel)
set_option maxRecDepth 20000 in
theorem gX5_isLoan_X5_isNumber : GoodIn wsX5_isLoan (wsV RX5 175 RX5 yX5_isNumber wsX5_isNumber) := goodIn_app (goodIn_of _ (by decide +kernel)) ggX5_isLoan_X5_isNumber
theorem dX5_isLoan_0 : decode cX5_isLoan 0 = .ok (.aload_n 0, 1) := by decide +kernel
theorem dX5_isLoan_1 : decode cX5_isLoan 1 = .ok (.invokevirtual 169, 3) := by decide +kernel
theorem dX5_isLoan_4 : decode cX5_isLoan 4 = .ok (.ifCond .eq 24, 3) := by decide +kernel
theorem dX5_isLoan_7 : decode cX5_isLoan 7 = .ok (.aload_n 0, 1) := by decide +kernel
theorem dX5_isLoan_8 : decode cX5_isLoan 8 = .ok (.bipush 42, 2) := by decide +kernel
theorem dX5_isLoan_10 : decode cX5_isLoan 10 = .ok (.invokevirtual 172, 3) := by decide +kernel
theorem dX5_isLoan_13 : decode cX5_isLoan 13 = .ok (.ifCond .eq 15, 3) := by decide +kernel
theorem dX5_isLoan_16 : decode cX5_isLoan 16 = .ok (.aload_n 0, 1) := by decide +kernel
theorem dX5_isLoan_17 : decode cX5_isLoan 17 = .ok (.bipush 10, 2) := by decide +kernel
theorem dX5_isLoan_19 : decode cX5_isLoan 19 = .ok (.sipush 2000, 3) := by decide +kernel
theorem dX5_isLoan_22 : decode cX5_isLoan 22 = .ok (.invokevirtual 175, 3) := by decide +kernel
theorem dX5_isLoan_25 : decode cX5_isLoan 25 = .ok (.ifCond .ne 5, 3) := by decide +kernel
theorem dX5_isLoan_28 : decode cX5_isLoan 28 = .ok (.iconst 0, 1) := by decide +kernel
theorem dX5_isLoan_29 : decode cX5_isLoan 29 = .ok (.ireturn, 1) := by decide +kernel
theorem dX5_isLoan_30 : decode cX5_isLoan 30 = .ok (.aload_n 0, 1) := by decide +kernel
theorem dX5_isLoan_31 : decode cX5_isLoan 31 = .ok (.getfield 22, 3) := by decide +kernel
theorem dX5_isLoan_34 : decode cX5_isLoan 34 = .ok (.iconst 4, 1) := by decide +kernel
theorem dX5_isLoan_35 : decode cX5_isLoan 35 = .ok (.aload_n 0, 1) := by decide +kernel
theorem dX5_isLoan_36 : decode cX5_isLoan 36 = .ok (.getfield 166, 3) := by decide +kernel
theorem dX5_isLoan_39 : decode cX5_isLoan 39 = .ok (.imul, 1) := by decide +kernel
theorem dX5_isLoan_40 : decode cX5_isLoan 40 = .ok (.iconst 2, 1) := by decide +kernel
theorem dX5_isLoan_41 : decode cX5_isLoan 41 = .ok (.iadd, 1) := by decide +kernel
theorem dX5_isLoan_42 : decode cX5_isLoan 42 = .ok (.aload_n 0, 1) := by decide +kernel
theorem dX5_isLoan_43 : decode cX5_isLoan 43 = .ok (.getfield 160, 3) := by decide +kernel
theorem dX5_isLoan_46 : decode cX5_isLoan 46 = .ok (.iastore, 1) := by decide +kernel
theorem dX5_isLoan_47 : decode cX5_isLoan 47 = .ok (.aload_n 0, 1) := by decide +kernel
theorem dX5_isLoan_48 : decode cX5_isLoan 48 = .ok (.bipush 47, 2) := by decide +kernel
theorem dX5_isLoan_50 : decode cX5_isLoan 50 = .ok (.invokevirtual 172, 3) := by decide +kernel
theorem dX5_isLoan_53 : decode cX5_isLoan 53 = .ok (.ifCond .eq 17, 3) := by decide +kernel
theorem dX5_isLoan_56 : decode cX5_isLoan 56 = .ok (.aload_n 0, 1) := by decide +kernel
theorem dX5_isLoan_57 : decode cX5_isLoan 57 = .ok (.iconst 1, 1) := by decide +kernel
theorem dX5_isLoan_58 : decode cX5_isLoan 58 = .ok (.bipush 52, 2) := by decide +kernel
theorem dX5_isLoan_60 : decode cX5_isLoan 60 = .ok (.invokevirtual 175, 3) := by decide +kernel
theorem dX5_isLoan_63 : decode cX5_isLoan 63 = .ok (.ifCond .eq 7, 3) := by decide +kernel
theorem dX5_isLoan_66 : decode cX5_isLoan 66 = .ok (.iconst 1, 1) := by decide +kernel
theorem dX5_isLoan_67 : decode cX5_isLoan 67 = .ok (.goto 4, 3) := by decide +kernel
theorem dX5_isLoan_70 : decode cX5_isLoan 70 = .ok (.iconst 0, 1) := by decide +kernel
theorem dX5_isLoan_71 : decode cX5_isLoan 71 = .ok (.istore_n 1, 1) := by decide +kernel
theorem dX5_isLoan_72 : decode cX5_isLoan 72 = .ok (.aload_n 0, 1) := by decide +kernel
theorem dX5_isLoan_73 : decode cX5_isLoan 73 = .ok (.getfield 22, 3) := by decide +kernel
theorem dX5_isLoan_76 : decode cX5_isLoan 76 = .ok (.iconst 4, 1) := by decide +kernel
theorem dX5_isLoan_77 : decode cX5_isLoan 77 = .ok (.aload_n 0, 1) := by decide +kernel
theorem dX5_isLoan_78 : decode cX5_isLoan 78 = .ok (.getfield 166, 3) := by decide +kernel
theorem dX5_isLoan_81 : decode cX5_isLoan 81 = .ok (.imul, 1) := by decide +kernel
theorem dX5_isLoan_82 : decode cX5_isLoan 82 = .ok (.iconst 3, 1) := by decide +kernel
theorem dX5_isLoan_83 : decode cX5_isLoan 83 = .ok (.iadd, 1) := by decide +kernel
theorem dX5_isLoan_84 : decode cX5_isLoan 84 = .ok (.aload_n 0, 1) := by decide +kernel
theorem dX5_isLoan_85 : decode cX5_isLoan 85 = .ok (.getfield 160, 3) := by decide +kernel
theorem dX5_isLoan_88 : decode cX5_isLoan 88 = .ok (.iastore, 1) := by decide +kernel
theorem dX5_isLoan_89 : decode cX5_isLoan 89 = .ok (.iload_n 1, 1) := by decide +kernel
theorem dX5_isLoan_90 : decode cX5_isLoan 90 = .ok (.ireturn, 1) := by decide +kernel
theorem dX5_kinds_0 : decode cX5_kinds 0 = .ok (.aload_n 0, 1) := by decide +kernel
theorem dX5_kinds_1 : decode cX5_kinds 1 = .ok (.getfield 22, 3) := by decide +kernel
theorem dX5_kinds_4 : decode cX5_kinds 4 = .ok (.iconst 4, 1) := by decide +kernel
theorem dX5_kinds_5 : decode cX5_kinds 5 = .ok (.aload_n 0, 1) := by decide +kernel
theorem dX5_kinds_6 : decode cX5_kinds 6 = .ok (.getfield 166, 3) := by decide +kernel
theorem dX5_kinds_9 : decode cX5_kinds 9 = .ok (.imul, 1) := by decide +kernel
theorem dX5_kinds_10 : decode cX5_kinds 10 = .ok (.iload_n 1, 1) := by decide +kernel
theorem dX5_kinds_11 : decode cX5_kinds 11 = .ok (.iastore, 1) := by decide +kernel
theorem dX5_kinds_12 : decode cX5_kinds 12 = .ok (.aload_n 0, 1) := by decide +kernel
theorem dX5_kinds_13 : decode cX5_kinds 13 = .ok (.dup, 1) := by decide +kernel
theorem dX5_kinds_14 : decode cX5_kinds 14 = .ok (.getfield 148, 3) := by decide +kernel
theorem dX5_kinds_17 : decode cX5_kinds 17 = .ok (.iconst 1, 1) := by decide +kernel
theorem dX5_kinds_18 : decode cX5_kinds 18 = .ok (.iadd, 1) := by decide +kernel
theorem dX5_kinds_19 : decode cX5_kinds 19 = .ok (.putfield 148, 3) := by decide +kernel
theorem dX5_kinds_22 : decode cX5_kinds 22 = .ok (.iconst 1, 1) := by decide +kernel
theorem dX5_kinds_23 : decode cX5_kinds 23 = .ok (.ireturn, 1) := by decide +kernel
set_option maxRecDepth 20000 in
theorem ggX5_isOrder_X5_kinds : GoodIn wsX5_isOrder wsX5_kinds := goodIn_r _ [8, 9, 10, 1, 47, 48, 49, 50, 51, 52, 53, 54, 55, 56, 57, 58, 59, 60] (by decide +kernel) (by decide +kernel)
set_option maxRecDepth 20000 in
theorem gX5_isOrder_X5_kinds : GoodIn wsX5_isOrder (wsV RX5 178 RX5 yX5_kinds wsX5_kinds) := goodIn_app (goodIn_of _ (by decide +kernel)) ggX5_isOrder_X5_kinds
set_option maxRecDepth 20000 in
theorem ggX5_isOrder_X5_isSign : GoodIn wsX5_isOrder wsX5_isSign := goodIn_r _ [14, 1, 15, 16, 17, 7, 18, 2, 3, 19, 20, 21, 22, 23, 24, 25, 26, 47, 48, 49, 50, 51, 52, 53, 54, 55, 56, 57, 58, 59, 60] (by decide +kernel) (by decide +kernel)
set_option maxRecDepth 20000 in
theorem gX5_isOrder_X5_isSign : GoodIn wsX5_isOrder (wsV RX5 172 RX5 yX5_isSign wsX5_isSign) := goodIn_app (goodIn_of _ (by decide +kernel)) ggX5_isOrder_X5_isSign
set_option maxRecDepth 20000 in
theorem ggX5_isOrder_X5_isLoan : GoodIn wsX5_isOrder wsX5_isLoan := goodIn_r _ [30, 9, 10, 31, 32, 33, 34, 7, 35, 3, 1, 15, 16, 17, 18, 2, 19, 20, 21, 22, 23, 24, 25, 26, 11, 12, 13, 14, 36, 37, 38, 39, 40, 41, 42, 47, 48, 49, 50, 51, 52, 53, 54, 55, 56, 57, 58, 59, 60] (by decide +kernel) (by decide +kernel)
set_option maxRecDepth 20000 in
theorem gX5_isOrder_X5_isLoan : GoodIn wsX5_isOrder (wsV RX5 181 RX5 yX5_isLoan wsX5_isLoan) := goodIn_app (goodIn_of _ (by decide +kernel)) ggX5_isOrder_X5_isLoan
set_option maxRecDepth 20000 in
theorem ggX5_isOrder_X5_isMemberOf : GoodIn wsX5_isOrder wsX5_isMemberOf := goodIn_r _ [35, 9, 10, 3, 1, 15, 16, 17, 7, 18, 2, 19, 20, 21, 22, 23, 24, 25, 26, 47, 48, 49, 50, 51, 52, 53, 54, 55, 56, 57, 58, 59, 60] (by decide +kernel) (by decide +kernel)
set_option maxRecDepth 20000 in
theorem gX5_isOrder_X5_isMemberOf : GoodIn wsX5_isOrder (wsV RX5 169 RX5 yX5_isMemberOf wsX5_isMemberOf) := goodIn_app (goodIn_of _ (by decide +kernel)) ggX5_isOrder_X5_isMemberOf
set_option maxRecDepth 20000 in
theorem ggX5_isOrder_X5_isMoney : GoodIn wsX5_isOrder wsX5_isMoney := goodIn_r _ [46, 9, 10, 31, 32, 33, 34, 7, 35, 3, 1, 15, 16, 17, 18, 2, 19, 20, 21, 22, 23, 24, 25, 26, 11, 12, 13, 14, 36, 37, 38, 39, 40, 41, 42, 47, 48, 49, 50, 51, 52, 53, 54, 55, 56, 57, 58, 59, 60] (by decide +kernel) (by decide +kernel)
set_option maxRecDepth 20000 in
theorem gX5_isOrder_X5_isMoney : GoodIn wsX5_isOrder (wsV RX5 184 RX5 yX5_isMoney wsX5_isMoney) := goodIn_app (goodIn_of _ (by decide +kernel)) ggX5_isOrder_X5_isMoney
set_option maxRecDepth 20000 in
theorem ggX5_isOrder_X5_stops : GoodIn wsX5_isOrder wsX5_stops := goodIn_r _ [25, 1, 2, 26, 47, 48, 49, 50, 51, 52, 53, 54, 55, 56, 57, 58, 59, 60] (by decide +kernel) (by decide +kernel)
set_option maxRecDepth 20000 in
theorem gX5_isOrder_X5_stops : GoodIn wsX5_isOrder (wsV RX5 157 RX5 yX5_stops wsX5_stops) := goodIn_app (goodIn_of _ (by decide +kernel)) ggX5_isOrder_X5_stops
theorem dX5_isOrder_0 : decode cX5_isOrder 0 = .ok (.aload_n 0, 1) := by decide +kernel
theorem dX5_isOrder_1 : decode cX5_isOrder 1 = .ok (.getfield 148, 3) := by decide +kernel
theorem dX5_isOrder_4 : decode cX5_isOrder 4 = .ok (.aload_n 0, 1) := by decide +kernel
theorem dX5_isOrder_5 : decode cX5_isOrder 5 = .ok (.getfield 145, 3) := by decide +kernel
theorem dX5_isOrder_8 : decode cX5_isOrder 8 = .ok (.if_icmp .ge 15, 3) := by decide +kernel
theorem dX5_isOrder_11 : decode cX5_isOrder 11 = .ok (.aload_n 0, 1) := by decide +kernel
theorem dX5_isOrder_12 : decode cX5_isOrder 12 = .ok (.getfield 19, 3) := by decide +kernel
theorem dX5_isOrder_15 : decode cX5_isOrder 15 = .ok (.aload_n 0, 1) := by decide +kernel
theorem dX5_isOrder_16 : decode cX5_isOrder 16 = .ok (.getfield 148, 3) := by decide +kernel
theorem dX5_isOrder_19 : decode cX5_isOrder 19 = .ok (.iaload, 1) := by decide +kernel
theorem dX5_isOrder_20 : decode cX5_isOrder 20 = .ok (.goto 4, 3) := by decide +kernel
theorem dX5_isOrder_23 : decode cX5_isOrder 23 = .ok (.iconst 0, 1) := by decide +kernel
theorem dX5_isOrder_24 : decode cX5_isOrder 24 = .ok (.istore_n 1, 1) := by decide +kernel
theorem dX5_isOrder_25 : decode cX5_isOrder 25 = .ok (.iload_n 1, 1) := by decide +kernel
theorem dX5_isOrder_26 : decode cX5_isOrder 26 = .ok (.lookupswitch 332 #[(97, 106), (99, 282), (104, 193), (108, 58), (112, 154), (119, 241)], 58) := by decide +kernel
theorem dX5_isOrder_84 : decode cX5_isOrder 84 = .ok (.aload_n 0, 1) := by decide +kernel
theorem dX5_isOrder_85 : decode cX5_isOrder 85 = .ok (.iconst 0, 1) := by decide +kernel
theorem dX5_isOrder_86 : decode cX5_isOrder 86 = .ok (.invokevirtual 178, 3) := by decide +kernel
theorem dX5_isOrder_89 : decode cX5_isOrder 89 = .ok (.ifCond .eq 41, 3) := by decide +kernel
theorem dX5_isOrder_92 : decode cX5_isOrder 92 = .ok (.aload_n 0, 1) := by decide +kernel
theorem dX5_isOrder_93 : decode cX5_isOrder 93 = .ok (.bipush 111, 2) := by decide +kernel
theorem dX5_isOrder_95 : decode cX5_isOrder 95 = .ok (.invokevirtual 172, 3) := by decide +kernel
theorem dX5_isOrder_98 : decode cX5_isOrder 98 = .ok (.ifCond .eq 32, 3) := by decide +kernel
theorem dX5_isOrder_101 : decode cX5_isOrder 101 = .ok (.aload_n 0, 1) := by decide +kernel
theorem dX5_isOrder_102 : decode cX5_isOrder 102 = .ok (.bipush 97, 2) := by decide +kernel
theorem dX5_isOrder_104 : decode cX5_isOrder 104 = .ok (.invokevirtual 172, 3) := by decide +kernel
theorem dX5_isOrder_107 : decode cX5_isOrder 107 = .ok (.ifCond .eq 23, 3) := by decide +kernel
theorem dX5_isOrder_110 : decode cX5_isOrder 110 = .ok (.aload_n 0, 1) := by decide +kernel
theorem dX5_isOrder_111 : decode cX5_isOrder 111 = .ok (.bipush 110, 2) := by decide +kernel
theorem dX5_isOrder_113 : decode cX5_isOrder 113 = .ok (.invokevirtual 172, 3) := by decide +kernel
theorem dX5_isOrder_116 : decode cX5_isOrder 116 = .ok (.ifCond .eq 14, 3) := by decide +kernel
theorem dX5_isOrder_119 : decode cX5_isOrder 119 = .ok (.aload_n 0, 1) := by decide +kernel
theorem dX5_isOrder_120 : decode cX5_isOrder 120 = .ok (.invokevirtual 181, 3) := by decide +kernel
theorem dX5_isOrder_123 : decode cX5_isOrder 123 = .ok (.ifCond .eq 7, 3) := by decide +kernel
theorem dX5_isOrder_126 : decode cX5_isOrder 126 = .ok (.iconst 1, 1) := by decide +kernel
theorem dX5_isOrder_127 : decode cX5_isOrder 127 = .ok (.goto 4, 3) := by decide +kernel
theorem dX5_isOrder_130 : decode cX5_isOrder 130 = .ok (.iconst 0, 1) := by decide +kernel
theorem dX5_isOrder_131 : decode cX5_isOrder 131 = .ok (.ireturn, 1) := by decide +kernel
theorem dX5_isOrder_132 : decode cX5_isOrder 132 = .ok (.aload_n 0, 1) := by decide +kernel
theorem dX5_isOrder_133 : decode cX5_isOrder 133 = .ok (.iconst 1, 1) := by decide +kernel
theorem dX5_isOrder_134 : decode cX5_isOrder 134 = .ok (.invokevirtual 178, 3) := by decide +kernel
theorem dX5_isOrder_137 : decode cX5_isOrder 137 = .ok (.ifCond .eq 41, 3) := by decide +kernel
theorem dX5_isOrder_140 : decode cX5_isOrder 140 = .ok (.aload_n 0, 1) := by decide +kernel
theorem dX5_isOrder_141 : decode cX5_isOrder 141 = .ok (.bipush 119, 2) := by decide +kernel
theorem dX5_isOrder_143 : decode cX5_isOrder 143 = .ok (.invokevirtual 172, 3) := by decide +kernel
theorem dX5_isOrder_146 : decode cX5_isOrder 146 = .ok (.ifCond .eq 32, 3) := by decide +kernel
theorem dX5_isOrder_149 : decode cX5_isOrder 149 = .ok (.aload_n 0, 1) := by decide +kernel
theorem dX5_isOrder_150 : decode cX5_isOrder 150 = .ok (.bipush 97, 2) := by decide +kernel
theorem dX5_isOrder_152 : decode cX5_isOrder 152 = .ok (.invokevirtual 172, 3) := by decide +kernel
theorem dX5_isOrder_155 : decode cX5_isOrder 155 = .ok (.ifCond .eq 23, 3) := by decide +kernel
theorem dX5_isOrder_158 : decode cX5_isOrder 158 = .ok (.aload_n 0, 1) := by decide +kernel
theorem dX5_isOrder_159 : decode cX5_isOrder 159 = .ok (.bipush 121, 2) := by decide +kernel
theorem dX5_isOrder_161 : decode cX5_isOrder 161 = .ok (.invokevirtual 172, 3) := by decide +kernel
theorem dX5_isOrder_164 : decode cX5_isOrder 164 = .ok (.ifCond .eq 14, 3) := by decide +kernel
theorem dX5_isOrder_167 : decode cX5_isOrder 167 = .ok (.aload_n 0, 1) := by decide +kernel
theorem dX5_isOrder_168 : decode cX5_isOrder 168 = .ok (.invokevirtual 169, 3) := by decide +kernel
theorem dX5_isOrder_171 : decode cX5_isOrder 171 = .ok (.ifCond .eq 7, 3) := by decide +kernel
theorem dX5_isOrder_174 : decode cX5_isOrder 174 = .ok (.iconst 1, 1) := by decide +kernel
theorem dX5_isOrder_175 : decode cX5_isOrder 175 = .ok (.goto 4, 3) := by decide +kernel
theorem dX5_isOrder_178 : decode cX5_isOrder 178 = .ok (.iconst 0, 1) := by decide +kernel
theorem dX5_isOrder_179 : decode cX5_isOrder 179 = .ok (.ireturn, 1) := by decide +kernel
theorem dX5_isOrder_180 : decode cX5_isOrder 180 = .ok (.aload_n 0, 1) := by decide +kernel
theorem dX5_isOrder_181 : decode cX5_isOrder 181 = .ok (.iconst 2, 1) := by decide +kernel
theorem dX5_isOrder_182 : decode cX5_isOrder 182 = .ok (.invokevirtual 178, 3) := by decide +kernel
theorem dX5_isOrder_185 : decode cX5_isOrder 185 = .ok (.ifCond .eq 32, 3) := by decide +kernel
theorem dX5_isOrder_188 : decode cX5_isOrder 188 = .ok (.aload_n 0, 1) := by decide +kernel
theorem dX5_isOrder_189 : decode cX5_isOrder 189 = .ok (.bipush 97, 2) := by decide +kernel
theorem dX5_isOrder_191 : decode cX5_isOrder 191 = .ok (.invokevirtual 172, 3) := by decide +kernel
theorem dX5_isOrder_194 : decode cX5_isOrder 194 = .ok (.ifCond .eq 23, 3) := by decide +kernel
theorem dX5_isOrder_197 : decode cX5_isOrder 197 = .ok (.aload_n 0, 1) := by decide +kernel
theorem dX5_isOrder_198 : decode cX5_isOrder 198 = .ok (.bipush 121, 2) := by decide +kernel
theorem dX5_isOrder_200 : decode cX5_isOrder 200 = .ok (.invokevirtual 172, 3) := by decide +kernel
theorem dX5_isOrder_203 : decode cX5_isOrder 203 = .ok (.ifCond .eq 14, 3) := by decide +kernel
theorem dX5_isOrder_206 : decode cX5_isOrder 206 = .ok (.aload_n 0, 1) := by decide +kernel
theorem dX5_isOrder_207 : decode cX5_isOrder 207 = .ok (.invokevirtual 184, 3) := by decide +kernel
theorem dX5_isOrder_210 : decode cX5_isOrder 210 = .ok (.ifCond .eq 7, 3) := by decide +kernel
theorem dX5_isOrder_213 : decode cX5_isOrder 213 = .ok (.iconst 1, 1) := by decide +kernel
theorem dX5_isOrder_214 : decode cX5_isOrder 214 = .ok (.goto 4, 3) := by decide +kernel
theorem dX5_isOrder_217 : decode cX5_isOrder 217 = .ok (.iconst 0, 1) := by decide +kernel
theorem dX5_isOrder_218 : decode cX5_isOrder 218 = .ok (.ireturn, 1) := by decide +kernel
theorem dX5_isOrder_219 : decode cX5_isOrder 219 = .ok (.aload_n 0, 1) := by decide +kernel
theorem dX5_isOrder_220 : decode cX5_isOrder 220 = .ok (.iconst 3, 1) := by decide +kernel
theorem dX5_isOrder_221 : decode cX5_isOrder 221 = .ok (.invokevirtual 178, 3) := by decide +kernel
theorem dX5_isOrder_224 : decode cX5_isOrder 224 = .ok (.ifCond .eq 41, 3) := by decide +kernel
theorem dX5_isOrder_227 : decode cX5_isOrder 227 = .ok (.aload_n 0, 1) := by decide +kernel
theorem dX5_isOrder_228 : decode cX5_isOrder 228 = .ok (.bipush 101, 2) := by decide +kernel
theorem dX5_isOrder_230 : decode cX5_isOrder 230 = .ok (.invokevirtual 172, 3) := by decide +kernel
theorem dX5_isOrder_233 : decode cX5_isOrder 233 = .ok (.ifCond .eq 32, 3) := by decide +kernel
theorem dX5_isOrder_236 : decode cX5_isOrder 236 = .ok (.aload_n 0, 1) := by decide +kernel
theorem dX5_isOrder_237 : decode cX5_isOrder 237 = .ok (.bipush 108, 2) := by decide +kernel
theorem dX5_isOrder_239 : decode cX5_isOrder 239 = .ok (.invokevirtual 172, 3) := by decide +kernel
theorem dX5_isOrder_242 : decode cX5_isOrder 242 = .ok (.ifCond .eq 23, 3) := by decide +kernel
theorem dX5_isOrder_245 : decode cX5_isOrder 245 = .ok (.aload_n 0, 1) := by decide +kernel
theorem dX5_isOrder_246 : decode cX5_isOrder 246 = .ok (.bipush 112, 2) := by decide +kernel
theorem dX5_isOrder_248 : decode cX5_isOrder 248 = .ok (.invokevirtual 172, 3) := by decide +kernel
theorem dX5_isOrder_251 : decode cX5_isOrder 251 = .ok (.ifCond .eq 14, 3) := by decide +kernel
theorem dX5_isOrder_254 : decode cX5_isOrder 254 = .ok (.aload_n 0, 1) := by decide +kernel
theorem dX5_isOrder_255 : decode cX5_isOrder 255 = .ok (.invokevirtual 184, 3) := by decide +kernel
theorem dX5_isOrder_258 : decode cX5_isOrder 258 = .ok (.ifCond .eq 7, 3) := by decide +kernel
theorem dX5_isOrder_261 : decode cX5_isOrder 261 = .ok (.iconst 1, 1) := by decide +kernel
theorem dX5_isOrder_262 : decode cX5_isOrder 262 = .ok (.goto 4, 3) := by decide +kernel
theorem dX5_isOrder_265 : decode cX5_isOrder 265 = .ok (.iconst 0, 1) := by decide +kernel
theorem dX5_isOrder_266 : decode cX5_isOrder 266 = .ok (.ireturn, 1) := by decide +kernel
theorem dX5_isOrder_267 : decode cX5_isOrder 267 = .ok (.aload_n 0, 1) := by decide +kernel
theorem dX5_isOrder_268 : decode cX5_isOrder 268 = .ok (.iconst 4, 1) := by decide +kernel
theorem dX5_isOrder_269 : decode cX5_isOrder 269 = .ok (.invokevirtual 178, 3) := by decide +kernel
theorem dX5_isOrder_272 : decode cX5_isOrder 272 = .ok (.ifCond .eq 34, 3) := by decide +kernel
theorem dX5_isOrder_275 : decode cX5_isOrder 275 = .ok (.aload_n 0, 1) := by decide +kernel
theorem dX5_isOrder_276 : decode cX5_isOrder 276 = .ok (.bipush 101, 2) := by decide +kernel
theorem dX5_isOrder_278 : decode cX5_isOrder 278 = .ok (.invokevirtual 172, 3) := by decide +kernel
theorem dX5_isOrder_281 : decode cX5_isOrder 281 = .ok (.ifCond .eq 25, 3) := by decide +kernel
theorem dX5_isOrder_284 : decode cX5_isOrder 284 = .ok (.aload_n 0, 1) := by decide +kernel
theorem dX5_isOrder_285 : decode cX5_isOrder 285 = .ok (.bipush 101, 2) := by decide +kernel
theorem dX5_isOrder_287 : decode cX5_isOrder 287 = .ok (.invokevirtual 172, 3) := by decide +kernel
theorem dX5_isOrder_290 : decode cX5_isOrder 290 = .ok (.ifCond .eq 16, 3) := by decide +kernel
theorem dX5_isOrder_293 : decode cX5_isOrder 293 = .ok (.aload_n 0, 1) := by decide +kernel
theorem dX5_isOrder_294 : decode cX5_isOrder 294 = .ok (.bipush 107, 2) := by decide +kernel
theorem dX5_isOrder_296 : decode cX5_isOrder 296 = .ok (.invokevirtual 172, 3) := by decide +kernel
theorem dX5_isOrder_299 : decode cX5_isOrder 299 = .ok (.ifCond .eq 7, 3) := by decide +kernel
theorem dX5_isOrder_302 : decode cX5_isOrder 302 = .ok (.iconst 1, 1) := by decide +kernel
theorem dX5_isOrder_303 : decode cX5_isOrder 303 = .ok (.goto 4, 3) := by decide +kernel
theorem dX5_isOrder_306 : decode cX5_isOrder 306 = .ok (.iconst 0, 1) := by decide +kernel
theorem dX5_isOrder_307 : decode cX5_isOrder 307 = .ok (.ireturn, 1) := by decide +kernel
theorem dX5_isOrder_308 : decode cX5_isOrder 308 = .ok (.aload_n 0, 1) := by decide +kernel
theorem dX5_isOrder_309 : decode cX5_isOrder 309 = .ok (.iconst 5, 1) := by decide +kernel
theorem dX5_isOrder_310 : decode cX5_isOrder 310 = .ok (.invokevirtual 178, 3) := by decide +kernel
theorem dX5_isOrder_313 : decode cX5_isOrder 313 = .ok (.ifCond .eq 43, 3) := by decide +kernel
theorem dX5_isOrder_316 : decode cX5_isOrder 316 = .ok (.aload_n 0, 1) := by decide +kernel
theorem dX5_isOrder_317 : decode cX5_isOrder 317 = .ok (.bipush 121, 2) := by decide +kernel
theorem dX5_isOrder_319 : decode cX5_isOrder 319 = .ok (.invokevirtual 172, 3) := by decide +kernel
