theorem dX2_debtToMembers_15 : decode cX2_debtToMembers 15 = .ok (.iload_n 3, 1) := by decide +kernel
theorem dX2_debtToMembers_16 : decode cX2_debtToMembers 16 = .ok (.if_icmp .ge 20, 3) := by decide +kernel
theorem dX2_debtToMembers_19 : decode cX2_debtToMembers 19 = .ok (.aload_n 2, 1) := by decide +kernel
theorem dX2_debtToMembers_20 : decode cX2_debtToMembers 20 = .ok (.iload 4, 2) := by decide +kernel
theorem dX2_debtToMembers_22 : decode cX2_debtToMembers 22 = .ok (.iaload, 1) := by decide +kernel
theorem dX2_debtToMembers_23 : decode cX2_debtToMembers 23 = .ok (.istore 5, 2) := by decide +kernel
theorem dX2_debtToMembers_25 : decode cX2_debtToMembers 25 = .ok (.iload_n 1, 1) := by decide +kernel
theorem dX2_debtToMembers_26 : decode cX2_debtToMembers 26 = .ok (.iload 5, 2) := by decide +kernel
theorem dX2_debtToMembers_28 : decode cX2_debtToMembers 28 = .ok (.iadd, 1) := by decide +kernel
theorem dX2_debtToMembers_29 : decode cX2_debtToMembers 29 = .ok (.istore_n 1, 1) := by decide +kernel
theorem dX2_debtToMembers_30 : decode cX2_debtToMembers 30 = .ok (.iinc 4 1, 3) := by decide +kernel
theorem dX2_debtToMembers_33 : decode cX2_debtToMembers 33 = .ok (.goto (-20), 3) := by decide +kernel
theorem dX2_debtToMembers_36 : decode cX2_debtToMembers 36 = .ok (.iload_n 1, 1) := by decide +kernel
theorem dX2_debtToMembers_37 : decode cX2_debtToMembers 37 = .ok (.ireturn, 1) := by decide +kernel
set_option maxRecDepth 20000 in
theorem ggX2_hasDebts_X2_debtToMembers : GoodIn wsX2_hasDebts wsX2_debtToMembers := goodIn_r _ [7, 8, 9, 10, 11, 12, 13, 14, 15, 16, 17, 18, 19, 20, 21, 22, 23, 24] (by decide +kernel) (by decide +kernel)
set_option maxRecDepth 20000 in
theorem gX2_hasDebts_X2_debtToMembers : GoodIn wsX2_hasDebts (wsV RX2 45 RX2 yX2_debtToMembers wsX2_debtToMembers) := goodIn_app (goodIn_of _ (by decide +kernel)) ggX2_hasDebts_X2_debtToMembers
theorem dX2_hasDebts_0 : decode cX2_hasDebts 0 = .ok (.aload_n 0, 1) := by decide +kernel
theorem dX2_hasDebts_1 : decode cX2_hasDebts 1 = .ok (.getfield 39, 3) := by decide +kernel
theorem dX2_hasDebts_4 : decode cX2_hasDebts 4 = .ok (.ifCond .gt 17, 3) := by decide +kernel
theorem dX2_hasDebts_7 : decode cX2_hasDebts 7 = .ok (.aload_n 0, 1) := by decide +kernel
theorem dX2_hasDebts_8 : decode cX2_hasDebts 8 = .ok (.getfield 42, 3) := by decide +kernel
theorem dX2_hasDebts_11 : decode cX2_hasDebts 11 = .ok (.ifCond .gt 10, 3) := by decide +kernel
theorem dX2_hasDebts_14 : decode cX2_hasDebts 14 = .ok (.aload_n 0, 1) := by decide +kernel
theorem dX2_hasDebts_15 : decode cX2_hasDebts 15 = .ok (.invokevirtual 45, 3) := by decide +kernel
theorem dX2_hasDebts_18 : decode cX2_hasDebts 18 = .ok (.ifCond .le 7, 3) := by decide +kernel
theorem dX2_hasDebts_21 : decode cX2_hasDebts 21 = .ok (.iconst 1, 1) := by decide +kernel
theorem dX2_hasDebts_22 : decode cX2_hasDebts 22 = .ok (.goto 4, 3) := by decide +kernel
theorem dX2_hasDebts_25 : decode cX2_hasDebts 25 = .ok (.iconst 0, 1) := by decide +kernel
theorem dX2_hasDebts_26 : decode cX2_hasDebts 26 = .ok (.ireturn, 1) := by decide +kernel
set_option maxRecDepth 20000 in
theorem ggX2_mayBorrow_X2_hasLoan : GoodIn wsX2_mayBorrow wsX2_hasLoan := goodIn_r _ [6, 7, 19, 20, 21, 22, 23, 24, 25, 26, 27, 28, 29, 30, 31, 32, 33, 34] (by decide +kernel) (by decide +kernel)
set_option maxRecDepth 20000 in
theorem gX2_mayBorrow_X2_hasLoan : GoodIn wsX2_mayBorrow (wsV RX2 28 RX2 yX2_hasLoan wsX2_hasLoan) := goodIn_app (goodIn_of _ (by decide +kernel)) ggX2_mayBorrow_X2_hasLoan
set_option maxRecDepth 20000 in
theorem ggX2_mayBorrow_X2_hasDebts : GoodIn wsX2_mayBorrow wsX2_hasDebts := goodIn_r _ [11, 12, 13, 14, 15, 16, 5, 17, 18, 19, 20, 21, 22, 23, 24, 25, 26, 27, 28, 29, 30, 31, 32, 33, 34] (by decide +kernel) (by decide +kernel)
set_option maxRecDepth 20000 in
theorem gX2_mayBorrow_X2_hasDebts : GoodIn wsX2_mayBorrow (wsV RX2 48 RX2 yX2_hasDebts wsX2_hasDebts) := goodIn_app (goodIn_of _ (by decide +kernel)) ggX2_mayBorrow_X2_hasDebts
theorem dX2_mayBorrow_0 : decode cX2_mayBorrow 0 = .ok (.aload_n 0, 1) := by decide +kernel
theorem dX2_mayBorrow_1 : decode cX2_mayBorrow 1 = .ok (.invokevirtual 28, 3) := by decide +kernel
theorem dX2_mayBorrow_4 : decode cX2_mayBorrow 4 = .ok (.ifCond .ne 22, 3) := by decide +kernel
theorem dX2_mayBorrow_7 : decode cX2_mayBorrow 7 = .ok (.aload_n 0, 1) := by decide +kernel
theorem dX2_mayBorrow_8 : decode cX2_mayBorrow 8 = .ok (.invokevirtual 48, 3) := by decide +kernel
theorem dX2_mayBorrow_11 : decode cX2_mayBorrow 11 = .ok (.ifCond .ne 15, 3) := by decide +kernel
theorem dX2_mayBorrow_14 : decode cX2_mayBorrow 14 = .ok (.iload_n 1, 1) := by decide +kernel
theorem dX2_mayBorrow_15 : decode cX2_mayBorrow 15 = .ok (.aload_n 0, 1) := by decide +kernel
theorem dX2_mayBorrow_16 : decode cX2_mayBorrow 16 = .ok (.getfield 51, 3) := by decide +kernel
theorem dX2_mayBorrow_19 : decode cX2_mayBorrow 19 = .ok (.if_icmp .gt 7, 3) := by decide +kernel
theorem dX2_mayBorrow_22 : decode cX2_mayBorrow 22 = .ok (.iconst 1, 1) := by decide +kernel
theorem dX2_mayBorrow_23 : decode cX2_mayBorrow 23 = .ok (.goto 4, 3) := by decide +kernel
theorem dX2_mayBorrow_26 : decode cX2_mayBorrow 26 = .ok (.iconst 0, 1) := by decide +kernel
theorem dX2_mayBorrow_27 : decode cX2_mayBorrow 27 = .ok (.ireturn, 1) := by decide +kernel
theorem dX2_borrow_0 : decode cX2_borrow 0 = .ok (.iload_n 2, 1) := by decide +kernel
theorem dX2_borrow_1 : decode cX2_borrow 1 = .ok (.iconst 1, 1) := by decide +kernel
theorem dX2_borrow_2 : decode cX2_borrow 2 = .ok (.if_icmp .ge 4, 3) := by decide +kernel
theorem dX2_borrow_5 : decode cX2_borrow 5 = .ok (.return_, 1) := by decide +kernel
theorem dX2_borrow_6 : decode cX2_borrow 6 = .ok (.aload_n 0, 1) := by decide +kernel
theorem dX2_borrow_7 : decode cX2_borrow 7 = .ok (.iload_n 1, 1) := by decide +kernel
theorem dX2_borrow_8 : decode cX2_borrow 8 = .ok (.putfield 54, 3) := by decide +kernel
theorem dX2_borrow_11 : decode cX2_borrow 11 = .ok (.aload_n 0, 1) := by decide +kernel
theorem dX2_borrow_12 : decode cX2_borrow 12 = .ok (.iload_n 1, 1) := by decide +kernel
theorem dX2_borrow_13 : decode cX2_borrow 13 = .ok (.iload_n 2, 1) := by decide +kernel
theorem dX2_borrow_14 : decode cX2_borrow 14 = .ok (.idiv, 1) := by decide +kernel
theorem dX2_borrow_15 : decode cX2_borrow 15 = .ok (.putfield 25, 3) := by decide +kernel
theorem dX2_borrow_18 : decode cX2_borrow 18 = .ok (.aload_n 0, 1) := by decide +kernel
theorem dX2_borrow_19 : decode cX2_borrow 19 = .ok (.iload_n 3, 1) := by decide +kernel
theorem dX2_borrow_20 : decode cX2_borrow 20 = .ok (.putfield 36, 3) := by decide +kernel
theorem dX2_borrow_23 : decode cX2_borrow 23 = .ok (.aload_n 0, 1) := by decide +kernel
theorem dX2_borrow_24 : decode cX2_borrow 24 = .ok (.iload_n 1, 1) := by decide +kernel
theorem dX2_borrow_25 : decode cX2_borrow 25 = .ok (.putfield 22, 3) := by decide +kernel
theorem dX2_borrow_28 : decode cX2_borrow 28 = .ok (.aload_n 0, 1) := by decide +kernel
theorem dX2_borrow_29 : decode cX2_borrow 29 = .ok (.iload_n 2, 1) := by decide +kernel
theorem dX2_borrow_30 : decode cX2_borrow 30 = .ok (.putfield 19, 3) := by decide +kernel
theorem dX2_borrow_33 : decode cX2_borrow 33 = .ok (.return_, 1) := by decide +kernel
set_option maxRecDepth 20000 in
theorem ggX2_lessenLoan_X2_part : GoodIn wsX2_lessenLoan wsX2_part := goodIn_r _ [10, 2, 1, 4, 11, 12, 13, 14, 15, 16, 17, 18, 19, 20, 21, 22, 23, 24, 25, 26] (by decide +kernel) (by decide +kernel)
set_option maxRecDepth 20000 in
theorem gX2_lessenLoan_X2_part : GoodIn wsX2_lessenLoan (wsV RX2 32 RX2 yX2_part wsX2_part) := goodIn_app (goodIn_of _ (by decide +kernel)) ggX2_lessenLoan_X2_part
theorem dX2_lessenLoan_0 : decode cX2_lessenLoan 0 = .ok (.aload_n 0, 1) := by decide +kernel
theorem dX2_lessenLoan_1 : decode cX2_lessenLoan 1 = .ok (.dup, 1) := by decide +kernel
theorem dX2_lessenLoan_2 : decode cX2_lessenLoan 2 = .ok (.getfield 22, 3) := by decide +kernel
theorem dX2_lessenLoan_5 : decode cX2_lessenLoan 5 = .ok (.aload_n 0, 1) := by decide +kernel
theorem dX2_lessenLoan_6 : decode cX2_lessenLoan 6 = .ok (.invokevirtual 32, 3) := by decide +kernel
theorem dX2_lessenLoan_9 : decode cX2_lessenLoan 9 = .ok (.isub, 1) := by decide +kernel
theorem dX2_lessenLoan_10 : decode cX2_lessenLoan 10 = .ok (.putfield 22, 3) := by decide +kernel
theorem dX2_lessenLoan_13 : decode cX2_lessenLoan 13 = .ok (.aload_n 0, 1) := by decide +kernel
theorem dX2_lessenLoan_14 : decode cX2_lessenLoan 14 = .ok (.dup, 1) := by decide +kernel
theorem dX2_lessenLoan_15 : decode cX2_lessenLoan 15 = .ok (.getfield 19, 3) := by decide +kernel
theorem dX2_lessenLoan_18 : decode cX2_lessenLoan 18 = .ok (.iconst 1, 1) := by decide +kernel
theorem dX2_lessenLoan_19 : decode cX2_lessenLoan 19 = .ok (.isub, 1) := by decide +kernel
theorem dX2_lessenLoan_20 : decode cX2_lessenLoan 20 = .ok (.putfield 19, 3) := by decide +kernel
theorem dX2_lessenLoan_23 : decode cX2_lessenLoan 23 = .ok (.aload_n 0, 1) := by decide +kernel
theorem dX2_lessenLoan_24 : decode cX2_lessenLoan 24 = .ok (.getfield 19, 3) := by decide +kernel
theorem dX2_lessenLoan_27 : decode cX2_lessenLoan 27 = .ok (.ifCond .ne 18, 3) := by decide +kernel
theorem dX2_lessenLoan_30 : decode cX2_lessenLoan 30 = .ok (.aload_n 0, 1) := by decide +kernel
theorem dX2_lessenLoan_31 : decode cX2_lessenLoan 31 = .ok (.iconst 0, 1) := by decide +kernel
theorem dX2_lessenLoan_32 : decode cX2_lessenLoan 32 = .ok (.putfield 54, 3) := by decide +kernel
theorem dX2_lessenLoan_35 : decode cX2_lessenLoan 35 = .ok (.aload_n 0, 1) := by decide +kernel
theorem dX2_lessenLoan_36 : decode cX2_lessenLoan 36 = .ok (.iconst 0, 1) := by decide +kernel
theorem dX2_lessenLoan_37 : decode cX2_lessenLoan 37 = .ok (.putfield 25, 3) := by decide +kernel
theorem dX2_lessenLoan_40 : decode cX2_lessenLoan 40 = .ok (.aload_n 0, 1) := by decide +kernel
theorem dX2_lessenLoan_41 : decode cX2_lessenLoan 41 = .ok (.iconst 0, 1) := by decide +kernel
theorem dX2_lessenLoan_42 : decode cX2_lessenLoan 42 = .ok (.putfield 36, 3) := by decide +kernel
theorem dX2_lessenLoan_45 : decode cX2_lessenLoan 45 = .ok (.return_, 1) := by decide +kernel
theorem dX2_nextLimit_0 : decode cX2_nextLimit 0 = .ok (.aload_n 0, 1) := by decide +kernel
theorem dX2_nextLimit_1 : decode cX2_nextLimit 1 = .ok (.getfield 57, 3) := by decide +kernel
theorem dX2_nextLimit_4 : decode cX2_nextLimit 4 = .ok (.ifCond .ne 21, 3) := by decide +kernel
theorem dX2_nextLimit_7 : decode cX2_nextLimit 7 = .ok (.aload_n 0, 1) := by decide +kernel
theorem dX2_nextLimit_8 : decode cX2_nextLimit 8 = .ok (.getfield 51, 3) := by decide +kernel
theorem dX2_nextLimit_11 : decode cX2_nextLimit 11 = .ok (.aload_n 0, 1) := by decide +kernel
theorem dX2_nextLimit_12 : decode cX2_nextLimit 12 = .ok (.getfield 51, 3) := by decide +kernel
theorem dX2_nextLimit_15 : decode cX2_nextLimit 15 = .ok (.iconst 2, 1) := by decide +kernel
theorem dX2_nextLimit_16 : decode cX2_nextLimit 16 = .ok (.idiv, 1) := by decide +kernel
theorem dX2_nextLimit_17 : decode cX2_nextLimit 17 = .ok (.iadd, 1) := by decide +kernel
theorem dX2_nextLimit_18 : decode cX2_nextLimit 18 = .ok (.sipush 2000, 3) := by decide +kernel
theorem dX2_nextLimit_21 : decode cX2_nextLimit 21 = .ok (.invokestatic 60, 3) := by decide +kernel
theorem dX2_nextLimit_24 : decode cX2_nextLimit 24 = .ok (.ireturn, 1) := by decide +kernel
theorem dX2_nextLimit_25 : decode cX2_nextLimit 25 = .ok (.aload_n 0, 1) := by decide +kernel
theorem dX2_nextLimit_26 : decode cX2_nextLimit 26 = .ok (.getfield 57, 3) := by decide +kernel
theorem dX2_nextLimit_29 : decode cX2_nextLimit 29 = .ok (.iconst 3, 1) := by decide +kernel
theorem dX2_nextLimit_30 : decode cX2_nextLimit 30 = .ok (.if_icmp .lt 17, 3) := by decide +kernel
theorem dX2_nextLimit_33 : decode cX2_nextLimit 33 = .ok (.aload_n 0, 1) := by decide +kernel
theorem dX2_nextLimit_34 : decode cX2_nextLimit 34 = .ok (.getfield 51, 3) := by decide +kernel
theorem dX2_nextLimit_37 : decode cX2_nextLimit 37 = .ok (.iconst 2, 1) := by decide +kernel
theorem dX2_nextLimit_38 : decode cX2_nextLimit 38 = .ok (.idiv, 1) := by decide +kernel
theorem dX2_nextLimit_39 : decode cX2_nextLimit 39 = .ok (.bipush 20, 2) := by decide +kernel
theorem dX2_nextLimit_41 : decode cX2_nextLimit 41 = .ok (.invokestatic 66, 3) := by decide +kernel
theorem dX2_nextLimit_44 : decode cX2_nextLimit 44 = .ok (.goto 7, 3) := by decide +kernel
theorem dX2_nextLimit_47 : decode cX2_nextLimit 47 = .ok (.aload_n 0, 1) := by decide +kernel
theorem dX2_nextLimit_48 : decode cX2_nextLimit 48 = .ok (.getfield 51, 3) := by decide +kernel
theorem dX2_nextLimit_51 : decode cX2_nextLimit 51 = .ok (.ireturn, 1) := by decide +kernel
set_option maxRecDepth 20000 in
theorem ggX2_property_X2_due : GoodIn wsX2_property wsX2_due := goodIn_r _ [16, 17, 18, 19, 20, 15, 21, 4, 22, 23, 24, 25, 3, 26, 32, 33, 34, 35, 36, 37, 38, 39, 40, 41, 42, 43, 44, 45, 46, 47] (by decide +kernel) (by decide +kernel)
set_option maxRecDepth 20000 in
theorem gX2_property_X2_due : GoodIn wsX2_property (wsV RX2 69 RX2 yX2_due wsX2_due) := goodIn_app (goodIn_of _ (by decide +kernel)) ggX2_property_X2_due
set_option maxRecDepth 20000 in
theorem ggX2_property_X2_debtToMembers : GoodIn wsX2_property wsX2_debtToMembers := goodIn_r _ [30, 31, 32, 33, 34, 35, 36, 37, 38, 39, 40, 41, 42, 43, 44, 45, 46, 47] (by decide +kernel) (by decide +kernel)
set_option maxRecDepth 20000 in
theorem gX2_property_X2_debtToMembers : GoodIn wsX2_property (wsV RX2 45 RX2 yX2_debtToMembers wsX2_debtToMembers) := goodIn_app (goodIn_of _ (by decide +kernel)) ggX2_property_X2_debtToMembers
theorem dX2_property_0 : decode cX2_property 0 = .ok (.iload_n 1, 1) := by decide +kernel
theorem dX2_property_1 : decode cX2_property 1 = .ok (.tableswitch 135 0 12 #[67, 72, 77, 82, 87, 92, 105, 110, 115, 120, 125, 135, 130], 67) := by decide +kernel
theorem dX2_property_68 : decode cX2_property 68 = .ok (.aload_n 0, 1) := by decide +kernel
theorem dX2_property_69 : decode cX2_property 69 = .ok (.getfield 51, 3) := by decide +kernel
theorem dX2_property_72 : decode cX2_property 72 = .ok (.ireturn, 1) := by decide +kernel
theorem dX2_property_73 : decode cX2_property 73 = .ok (.aload_n 0, 1) := by decide +kernel
theorem dX2_property_74 : decode cX2_property 74 = .ok (.getfield 54, 3) := by decide +kernel
theorem dX2_property_77 : decode cX2_property 77 = .ok (.ireturn, 1) := by decide +kernel
theorem dX2_property_78 : decode cX2_property 78 = .ok (.aload_n 0, 1) := by decide +kernel
theorem dX2_property_79 : decode cX2_property 79 = .ok (.getfield 22, 3) := by decide +kernel
theorem dX2_property_82 : decode cX2_property 82 = .ok (.ireturn, 1) := by decide +kernel
theorem dX2_property_83 : decode cX2_property 83 = .ok (.aload_n 0, 1) := by decide +kernel
theorem dX2_property_84 : decode cX2_property 84 = .ok (.getfield 19, 3) := by decide +kernel
theorem dX2_property_87 : decode cX2_property 87 = .ok (.ireturn, 1) := by decide +kernel
theorem dX2_property_88 : decode cX2_property 88 = .ok (.aload_n 0, 1) := by decide +kernel
theorem dX2_property_89 : decode cX2_property 89 = .ok (.invokevirtual 69, 3) := by decide +kernel
theorem dX2_property_92 : decode cX2_property 92 = .ok (.ireturn, 1) := by decide +kernel
theorem dX2_property_93 : decode cX2_property 93 = .ok (.aload_n 0, 1) := by decide +kernel
theorem dX2_property_94 : decode cX2_property 94 = .ok (.getfield 72, 3) := by decide +kernel
theorem dX2_property_97 : decode cX2_property 97 = .ok (.ifCond .eq 7, 3) := by decide +kernel
theorem dX2_property_100 : decode cX2_property 100 = .ok (.iconst 1, 1) := by decide +kernel
theorem dX2_property_101 : decode cX2_property 101 = .ok (.goto 4, 3) := by decide +kernel
theorem dX2_property_104 : decode cX2_property 104 = .ok (.iconst 0, 1) := by decide +kernel
theorem dX2_property_105 : decode cX2_property 105 = .ok (.ireturn, 1) := by decide +kernel
theorem dX2_property_106 : decode cX2_property 106 = .ok (.aload_n 0, 1) := by decide +kernel
theorem dX2_property_107 : decode cX2_property 107 = .ok (.getfield 57, 3) := by decide +kernel
theorem dX2_property_110 : decode cX2_property 110 = .ok (.ireturn, 1) := by decide +kernel
theorem dX2_property_111 : decode cX2_property 111 = .ok (.aload_n 0, 1) := by decide +kernel
theorem dX2_property_112 : decode cX2_property 112 = .ok (.getfield 76, 3) := by decide +kernel
theorem dX2_property_115 : decode cX2_property 115 = .ok (.ireturn, 1) := by decide +kernel
theorem dX2_property_116 : decode cX2_property 116 = .ok (.aload_n 0, 1) := by decide +kernel
theorem dX2_property_117 : decode cX2_property 117 = .ok (.getfield 39, 3) := by decide +kernel
theorem dX2_property_120 : decode cX2_property 120 = .ok (.ireturn, 1) := by decide +kernel
theorem dX2_property_121 : decode cX2_property 121 = .ok (.aload_n 0, 1) := by decide +kernel
theorem dX2_property_122 : decode cX2_property 122 = .ok (.getfield 42, 3) := by decide +kernel
theorem dX2_property_125 : decode cX2_property 125 = .ok (.ireturn, 1) := by decide +kernel
theorem dX2_property_126 : decode cX2_property 126 = .ok (.aload_n 0, 1) := by decide +kernel
theorem dX2_property_127 : decode cX2_property 127 = .ok (.invokevirtual 45, 3) := by decide +kernel
theorem dX2_property_130 : decode cX2_property 130 = .ok (.ireturn, 1) := by decide +kernel
theorem dX2_property_131 : decode cX2_property 131 = .ok (.aload_n 0, 1) := by decide +kernel
theorem dX2_property_132 : decode cX2_property 132 = .ok (.getfield 79, 3) := by decide +kernel
theorem dX2_property_135 : decode cX2_property 135 = .ok (.ireturn, 1) := by decide +kernel
theorem dX2_property_136 : decode cX2_property 136 = .ok (.aload_n 0, 1) := by decide +kernel
theorem dX2_property_137 : decode cX2_property 137 = .ok (.getfield 82, 3) := by decide +kernel
theorem dX2_property_140 : decode cX2_property 140 = .ok (.ireturn, 1) := by decide +kernel
theorem dX2_copyFrom_0 : decode cX2_copyFrom 0 = .ok (.aload_n 0, 1) := by decide +kernel
theorem dX2_copyFrom_1 : decode cX2_copyFrom 1 = .ok (.aload_n 1, 1) := by decide +kernel
theorem dX2_copyFrom_2 : decode cX2_copyFrom 2 = .ok (.getfield 85, 3) := by decide +kernel
theorem dX2_copyFrom_5 : decode cX2_copyFrom 5 = .ok (.putfield 85, 3) := by decide +kernel
theorem dX2_copyFrom_8 : decode cX2_copyFrom 8 = .ok (.aload_n 0, 1) := by decide +kernel
theorem dX2_copyFrom_9 : decode cX2_copyFrom 9 = .ok (.aload_n 1, 1) := by decide +kernel
theorem dX2_copyFrom_10 : decode cX2_copyFrom 10 = .ok (.getfield 51, 3) := by decide +kernel
theorem dX2_copyFrom_13 : decode cX2_copyFrom 13 = .ok (.putfield 51, 3) := by decide +kernel
theorem dX2_copyFrom_16 : decode cX2_copyFrom 16 = .ok (.aload_n 0, 1) := by decide +kernel
theorem dX2_copyFrom_17 : decode cX2_copyFrom 17 = .ok (.aload_n 1, 1) := by decide +kernel
theorem dX2_copyFrom_18 : decode cX2_copyFrom 18 = .ok (.getfield 54, 3) := by decide +kernel
theorem dX2_copyFrom_21 : decode cX2_copyFrom 21 = .ok (.putfield 54, 3) := by decide +kernel
theorem dX2_copyFrom_24 : decode cX2_copyFrom 24 = .ok (.aload_n 0, 1) := by decide +kernel
theorem dX2_copyFrom_25 : decode cX2_copyFrom 25 = .ok (.aload_n 1, 1) := by decide +kernel
theorem dX2_copyFrom_26 : decode cX2_copyFrom 26 = .ok (.getfield 25, 3) := by decide +kernel
theorem dX2_copyFrom_29 : decode cX2_copyFrom 29 = .ok (.putfield 25, 3) := by decide +kernel
theorem dX2_copyFrom_32 : decode cX2_copyFrom 32 = .ok (.aload_n 0, 1) := by decide +kernel
theorem dX2_copyFrom_33 : decode cX2_copyFrom 33 = .ok (.aload_n 1, 1) := by decide +kernel
theorem dX2_copyFrom_34 : decode cX2_copyFrom 34 = .ok (.getfield 36, 3) := by decide +kernel
theorem dX2_copyFrom_37 : decode cX2_copyFrom 37 = .ok (.putfield 36, 3) := by decide +kernel
theorem dX2_copyFrom_40 : decode cX2_copyFrom 40 = .ok (.aload_n 0, 1) := by decide +kernel
theorem dX2_copyFrom_41 : decode cX2_copyFrom 41 = .ok (.aload_n 1, 1) := by decide +kernel
theorem dX2_copyFrom_42 : decode cX2_copyFrom 42 = .ok (.getfield 22, 3) := by decide +kernel
theorem dX2_copyFrom_45 : decode cX2_copyFrom 45 = .ok (.putfield 22, 3) := by decide +kernel
theorem dX2_copyFrom_48 : decode cX2_copyFrom 48 = .ok (.aload_n 0, 1) := by decide +kernel
theorem dX2_copyFrom_49 : decode cX2_copyFrom 49 = .ok (.aload_n 1, 1) := by decide +kernel
theorem dX2_copyFrom_50 : decode cX2_copyFrom 50 = .ok (.getfield 19, 3) := by decide +kernel
theorem dX2_copyFrom_53 : decode cX2_copyFrom 53 = .ok (.putfield 19, 3) := by decide +kernel
theorem dX2_copyFrom_56 : decode cX2_copyFrom 56 = .ok (.aload_n 0, 1) := by decide +kernel
theorem dX2_copyFrom_57 : decode cX2_copyFrom 57 = .ok (.aload_n 1, 1) := by decide +kernel
theorem dX2_copyFrom_58 : decode cX2_copyFrom 58 = .ok (.getfield 72, 3) := by decide +kernel
theorem dX2_copyFrom_61 : decode cX2_copyFrom 61 = .ok (.putfield 72, 3) := by decide +kernel
theorem dX2_copyFrom_64 : decode cX2_copyFrom 64 = .ok (.aload_n 0, 1) := by decide +kernel
theorem dX2_copyFrom_65 : decode cX2_copyFrom 65 = .ok (.aload_n 1, 1) := by decide +kernel
theorem dX2_copyFrom_66 : decode cX2_copyFrom 66 = .ok (.getfield 57, 3) := by decide +kernel
theorem dX2_copyFrom_69 : decode cX2_copyFrom 69 = .ok (.putfield 57, 3) := by decide +kernel
theorem dX2_copyFrom_72 : decode cX2_copyFrom 72 = .ok (.aload_n 0, 1) := by decide +kernel
theorem dX2_copyFrom_73 : decode cX2_copyFrom 73 = .ok (.aload_n 1, 1) := by decide +kernel
theorem dX2_copyFrom_74 : decode cX2_copyFrom 74 = .ok (.getfield 76, 3) := by decide +kernel
theorem dX2_copyFrom_77 : decode cX2_copyFrom 77 = .ok (.putfield 76, 3) := by decide +kernel
theorem dX2_copyFrom_80 : decode cX2_copyFrom 80 = .ok (.aload_n 0, 1) := by decide +kernel
theorem dX2_copyFrom_81 : decode cX2_copyFrom 81 = .ok (.aload_n 1, 1) := by decide +kernel
theorem dX2_copyFrom_82 : decode cX2_copyFrom 82 = .ok (.getfield 39, 3) := by decide +kernel
theorem dX2_copyFrom_85 : decode cX2_copyFrom 85 = .ok (.putfield 39, 3) := by decide +kernel
theorem dX2_copyFrom_88 : decode cX2_copyFrom 88 = .ok (.aload_n 0, 1) := by decide +kernel
theorem dX2_copyFrom_89 : decode cX2_copyFrom 89 = .ok (.aload_n 1, 1) := by decide +kernel
theorem dX2_copyFrom_90 : decode cX2_copyFrom 90 = .ok (.getfield 42, 3) := by decide +kernel
theorem dX2_copyFrom_93 : decode cX2_copyFrom 93 = .ok (.putfield 42, 3) := by decide +kernel
theorem dX2_copyFrom_96 : decode cX2_copyFrom 96 = .ok (.aload_n 0, 1) := by decide +kernel
theorem dX2_copyFrom_97 : decode cX2_copyFrom 97 = .ok (.aload_n 1, 1) := by decide +kernel
theorem dX2_copyFrom_98 : decode cX2_copyFrom 98 = .ok (.getfield 79, 3) := by decide +kernel
theorem dX2_copyFrom_101 : decode cX2_copyFrom 101 = .ok (.putfield 79, 3) := by decide +kernel
theorem dX2_copyFrom_104 : decode cX2_copyFrom 104 = .ok (.aload_n 0, 1) := by decide +kernel
theorem dX2_copyFrom_105 : decode cX2_copyFrom 105 = .ok (.aload_n 1, 1) := by decide +kernel
theorem dX2_copyFrom_106 : decode cX2_copyFrom 106 = .ok (.getfield 82, 3) := by decide +kernel
theorem dX2_copyFrom_109 : decode cX2_copyFrom 109 = .ok (.putfield 82, 3) := by decide +kernel
theorem dX2_copyFrom_112 : decode cX2_copyFrom 112 = .ok (.aload_n 1, 1) := by decide +kernel
theorem dX2_copyFrom_113 : decode cX2_copyFrom 113 = .ok (.getfield 9, 3) := by decide +kernel
theorem dX2_copyFrom_116 : decode cX2_copyFrom 116 = .ok (.iconst 0, 1) := by decide +kernel
theorem dX2_copyFrom_117 : decode cX2_copyFrom 117 = .ok (.aload_n 0, 1) := by decide +kernel
theorem dX2_copyFrom_118 : decode cX2_copyFrom 118 = .ok (.getfield 9, 3) := by decide +kernel
theorem dX2_copyFrom_121 : decode cX2_copyFrom 121 = .ok (.iconst 0, 1) := by decide +kernel
theorem dX2_copyFrom_122 : decode cX2_copyFrom 122 = .ok (.bipush 8, 2) := by decide +kernel
theorem dX2_copyFrom_124 : decode cX2_copyFrom 124 = .ok (.invokestatic 88, 3) := by decide +kernel
theorem dX2_copyFrom_127 : decode cX2_copyFrom 127 = .ok (.return_, 1) := by decide +kernel
theorem dX3_init_0 : decode cX3_init 0 = .ok (.aload_n 0, 1) := by decide +kernel
theorem dX3_init_1 : decode cX3_init 1 = .ok (.invokespecial 3, 3) := by decide +kernel
theorem dX3_init_4 : decode cX3_init 4 = .ok (.aload_n 0, 1) := by decide +kernel
theorem dX3_init_5 : decode cX3_init 5 = .ok (.bipush 60, 2) := by decide +kernel
theorem dX3_init_7 : decode cX3_init 7 = .ok (.newarray .char, 2) := by decide +kernel
theorem dX3_init_9 : decode cX3_init 9 = .ok (.putfield 9, 3) := by decide +kernel
theorem dX3_init_12 : decode cX3_init 12 = .ok (.return_, 1) := by decide +kernel
set_option maxRecDepth 20000 in
theorem ggX4_init_X0_init : GoodIn wsX4_init wsX0_init := goodIn_r _ [18, 19, 2, 3, 20, 21, 22, 23, 24, 25, 26, 27, 28, 29, 30, 31, 42, 43, 44, 45, 46, 47, 48, 49, 50, 51, 52, 67, 68, 69, 70, 71, 72, 73, 74, 75, 76, 77, 78, 79, 80, 81, 82] (by decide +kernel) (by decide +kernel)
set_option maxRecDepth 20000 in
theorem gX4_init_X0_init_n9 : GoodIn wsX4_init (wsX0_init) := ggX4_init_X0_init
set_option maxRecDepth 20000 in
theorem ggX4_init_X1_init : GoodIn wsX4_init wsX1_init := goodIn_r _ [33, 34, 2, 3, 35, 36, 5, 6, 17, 18, 19, 20, 21, 22, 23, 24, 25, 26, 27, 28, 29, 30, 31, 57, 58, 59, 42, 43, 44, 45, 46, 47, 48, 49, 50, 51, 52, 67, 68, 69, 70, 71, 72, 73, 74, 75, 76, 77, 78, 79, 80, 81, 82] (by decide +kernel) (by decide +kernel)
set_option maxRecDepth 20000 in
theorem gX4_init_X1_init_n21 : GoodIn wsX4_init (wsX1_init) := ggX4_init_X1_init
set_option maxRecDepth 20000 in
theorem ggX4_init_X3_init : GoodIn wsX4_init wsX3_init := goodIn_r _ [38, 39, 2, 3, 40, 41, 60, 61, 62, 63, 64, 65, 66] (by decide +kernel) (by decide +kernel)
set_option maxRecDepth 20000 in
theorem gX4_init_X3_init_n28 : GoodIn wsX4_init (wsX3_init) := ggX4_init_X3_init
theorem dX4_init_0 : decode cX4_init 0 = .ok (.aload_n 0, 1) := by decide +kernel
theorem dX4_init_1 : decode cX4_init 1 = .ok (.invokespecial 1, 3) := by decide +kernel
theorem dX4_init_4 : decode cX4_init 4 = .ok (.aload_n 0, 1) := by decide +kernel
theorem dX4_init_5 : decode cX4_init 5 = .ok (.new 7, 3) := by decide +kernel
theorem dX4_init_8 : decode cX4_init 8 = .ok (.dup, 1) := by decide +kernel
theorem dX4_init_9 : decode cX4_init 9 = .ok (.invokespecial 9, 3) := by decide +kernel
theorem dX4_init_12 : decode cX4_init 12 = .ok (.putfield 10, 3) := by decide +kernel
theorem dX4_init_15 : decode cX4_init 15 = .ok (.aload_n 0, 1) := by decide +kernel
theorem dX4_init_16 : decode cX4_init 16 = .ok (.new 7, 3) := by decide +kernel
theorem dX4_init_19 : decode cX4_init 19 = .ok (.dup, 1) := by decide +kernel
theorem dX4_init_20 : decode cX4_init 20 = .ok (.invokespecial 9, 3) := by decide +kernel
theorem dX4_init_23 : decode cX4_init 23 = .ok (.putfield 16, 3) := by decide +kernel
theorem dX4_init_26 : decode cX4_init 26 = .ok (.aload_n 0, 1) := by decide +kernel
theorem dX4_init_27 : decode cX4_init 27 = .ok (.new 19, 3) := by decide +kernel
theorem dX4_init_30 : decode cX4_init 30 = .ok (.dup, 1) := by decide +kernel
theorem dX4_init_31 : decode cX4_init 31 = .ok (.invokespecial 21, 3) := by decide +kernel
theorem dX4_init_34 : decode cX4_init 34 = .ok (.putfield 22, 3) := by decide +kernel
theorem dX4_init_37 : decode cX4_init 37 = .ok (.aload_n 0, 1) := by decide +kernel
theorem dX4_init_38 : decode cX4_init 38 = .ok (.new 26, 3) := by decide +kernel
theorem dX4_init_41 : decode cX4_init 41 = .ok (.dup, 1) := by decide +kernel
theorem dX4_init_42 : decode cX4_init 42 = .ok (.invokespecial 28, 3) := by decide +kernel
theorem dX4_init_45 : decode cX4_init 45 = .ok (.putfield 29, 3) := by decide +kernel
theorem dX4_init_48 : decode cX4_init 48 = .ok (.return_, 1) := by decide +kernel
set_option maxRecDepth 20000 in
theorem ggX4_join_X1_keep : GoodIn wsX4_join wsX1_keep := goodIn_r _ [8, 9, 10, 11, 12, 13, 14, 15, 16, 17, 18, 19, 20, 21, 22, 23, 24, 25, 26, 27, 28, 29, 30, 31, 32, 33, 34, 35, 36, 37, 38, 39, 40, 41, 42, 43, 44, 45, 46, 47, 48, 49, 50, 51, 52, 53, 54, 77, 78, 79, 66, 67, 68, 69, 70, 71, 72, 73, 74, 75, 76, 80, 81, 82, 83, 84, 85, 86, 87, 88, 89, 90, 91, 92, 93, 94, 95] (by decide +kernel) (by decide +kernel)
set_option maxRecDepth 20000 in
theorem gX4_join_X1_keep_n44 : GoodIn wsX4_join (wsX1_keep) := ggX4_join_X1_keep
set_option maxRecDepth 20000 in
theorem ggX4_join_X0_admit : GoodIn wsX4_join wsX0_admit := goodIn_r _ [57, 26, 29, 20, 58, 59, 60, 17, 61, 66, 67, 68, 69, 70, 71, 72, 73, 74, 75, 76, 80, 81, 82, 83, 84, 85, 86, 87, 88, 89, 90, 91, 92, 93, 94, 95] (by decide +kernel) (by decide +kernel)
set_option maxRecDepth 20000 in
theorem gX4_join_X0_admit_n48 : GoodIn wsX4_join (wsX0_admit) := ggX4_join_X0_admit
theorem dX4_join_0 : decode cX4_join 0 = .ok (.aload_n 0, 1) := by decide +kernel
theorem dX4_join_1 : decode cX4_join 1 = .ok (.getfield 10, 3) := by decide +kernel
theorem dX4_join_4 : decode cX4_join 4 = .ok (.getfield 33, 3) := by decide +kernel
theorem dX4_join_7 : decode cX4_join 7 = .ok (.bipush 8, 2) := by decide +kernel
theorem dX4_join_9 : decode cX4_join 9 = .ok (.if_icmp .lt 13, 3) := by decide +kernel
theorem dX4_join_12 : decode cX4_join 12 = .ok (.new 37, 3) := by decide +kernel
theorem dX4_join_15 : decode cX4_join 15 = .ok (.dup, 1) := by decide +kernel
theorem dX4_join_16 : decode cX4_join 16 = .ok (.ldc 39, 2) := by decide +kernel
theorem dX4_join_18 : decode cX4_join 18 = .ok (.invokespecial 41, 3) := by decide +kernel
theorem dX4_join_21 : decode cX4_join 21 = .ok (.athrow, 1) := by decide +kernel
theorem dX4_join_22 : decode cX4_join 22 = .ok (.aload_n 0, 1) := by decide +kernel
theorem dX4_join_23 : decode cX4_join 23 = .ok (.getfield 22, 3) := by decide +kernel
theorem dX4_join_26 : decode cX4_join 26 = .ok (.aload_n 0, 1) := by decide +kernel
theorem dX4_join_27 : decode cX4_join 27 = .ok (.getfield 10, 3) := by decide +kernel
theorem dX4_join_30 : decode cX4_join 30 = .ok (.invokevirtual 44, 3) := by decide +kernel
theorem dX4_join_33 : decode cX4_join 33 = .ok (.aload_n 0, 1) := by decide +kernel
theorem dX4_join_34 : decode cX4_join 34 = .ok (.getfield 10, 3) := by decide +kernel
theorem dX4_join_37 : decode cX4_join 37 = .ok (.invokevirtual 48, 3) := by decide +kernel
theorem dX4_join_40 : decode cX4_join 40 = .ok (.ireturn, 1) := by decide +kernel
set_option maxRecDepth 20000 in
theorem ggX4_leave_X4_memberOrThrow : GoodIn wsX4_leave wsX4_memberOrThrow := goodIn_ca (goodIn_r _ [9, 10, 11, 3, 12, 13, 14, 15, 16, 91, 92, 93, 94, 95, 96, 97, 98, 99, 100, 101, 102, 103, 104, 105, 106, 107, 108, 109, 110, 111, 112, 113, 114, 115, 116, 117, 118, 119, 120, 121] (by decide +kernel) (by decide +kernel)) (goodIn_sub (fun _ h => List.mem_cons_of_mem _ (List.mem_append_right _ h)) (by decide +kernel))
set_option maxRecDepth 20000 in
theorem gX4_leave_X4_memberOrThrow : GoodIn wsX4_leave (wsV RX4 52 RX4 yX4_memberOrThrow wsX4_memberOrThrow) := goodIn_app (goodIn_of _ (by decide +kernel)) ggX4_leave_X4_memberOrThrow
set_option maxRecDepth 20000 in
theorem ggX4_leave_X0_mayGo : GoodIn wsX4_leave wsX0_mayGo := goodIn_r _ [19, 20, 21, 22, 23, 24, 25, 26, 27, 28, 29, 30, 31, 32, 33, 34, 35, 36, 37, 38, 13, 39, 16, 95, 96, 97, 98, 99, 100, 101, 102, 103, 104, 105, 106, 107, 108, 109, 110, 111, 112, 113, 114, 115, 116, 117, 118, 119, 120, 121] (by decide +kernel) (by decide +kernel)
set_option maxRecDepth 20000 in
theorem gX4_leave_X0_mayGo_n56 : GoodIn wsX4_leave (wsX0_mayGo) := ggX4_leave_X0_mayGo
set_option maxRecDepth 20000 in
theorem ggX4_leave_X1_keep : GoodIn wsX4_leave wsX1_keep := goodIn_r _ [43, 44, 45, 46, 47, 48, 49, 50, 51, 13, 52, 53, 16, 54, 55, 56, 57, 58, 59, 60, 61, 62, 20, 63, 64, 65, 66, 67, 22, 68, 69, 70, 71, 72, 73, 74, 75, 25, 76, 77, 78, 29, 30, 79, 80, 35, 81, 122, 123, 124, 95, 96, 97, 98, 99, 100, 101, 102, 103, 104, 105, 106, 107, 108, 109, 110, 111, 112, 113, 114, 115, 116, 117, 118, 119, 120, 121] (by decide +kernel) (by decide +kernel)
set_option maxRecDepth 20000 in
theorem gX4_leave_X1_keep_n44 : GoodIn wsX4_leave (wsX1_keep) := ggX4_leave_X1_keep
set_option maxRecDepth 20000 in
theorem ggX4_leave_X0_dismiss : GoodIn wsX4_leave wsX0_dismiss := goodIn_r _ [84, 20, 62, 85, 86, 87, 13, 88, 89, 48, 49, 50, 90, 12, 14, 15, 16, 26, 22, 27, 28, 29, 30, 31, 32, 33, 34, 35, 95, 96, 97, 98, 99, 100, 101, 102, 103, 104, 105, 106, 107, 108, 109, 110, 111, 112, 113, 114, 115, 116, 117, 118, 119, 120, 121] (by decide +kernel) (by decide +kernel)
set_option maxRecDepth 20000 in
theorem gX4_leave_X0_dismiss_n62 : GoodIn wsX4_leave (wsX0_dismiss) := ggX4_leave_X0_dismiss
theorem dX4_leave_0 : decode cX4_leave 0 = .ok (.aload_n 0, 1) := by decide +kernel
theorem dX4_leave_1 : decode cX4_leave 1 = .ok (.iload_n 1, 1) := by decide +kernel
theorem dX4_leave_2 : decode cX4_leave 2 = .ok (.invokevirtual 52, 3) := by decide +kernel
theorem dX4_leave_5 : decode cX4_leave 5 = .ok (.astore_n 2, 1) := by decide +kernel
theorem dX4_leave_6 : decode cX4_leave 6 = .ok (.aload_n 0, 1) := by decide +kernel
theorem dX4_leave_7 : decode cX4_leave 7 = .ok (.getfield 10, 3) := by decide +kernel
theorem dX4_leave_10 : decode cX4_leave 10 = .ok (.aload_n 2, 1) := by decide +kernel
theorem dX4_leave_11 : decode cX4_leave 11 = .ok (.invokevirtual 56, 3) := by decide +kernel
theorem dX4_leave_14 : decode cX4_leave 14 = .ok (.ifCond .ne 13, 3) := by decide +kernel
theorem dX4_leave_17 : decode cX4_leave 17 = .ok (.new 37, 3) := by decide +kernel
theorem dX4_leave_20 : decode cX4_leave 20 = .ok (.dup, 1) := by decide +kernel
theorem dX4_leave_21 : decode cX4_leave 21 = .ok (.ldc 60, 2) := by decide +kernel
theorem dX4_leave_23 : decode cX4_leave 23 = .ok (.invokespecial 41, 3) := by decide +kernel
theorem dX4_leave_26 : decode cX4_leave 26 = .ok (.athrow, 1) := by decide +kernel
theorem dX4_leave_27 : decode cX4_leave 27 = .ok (.aload_n 0, 1) := by decide +kernel
theorem dX4_leave_28 : decode cX4_leave 28 = .ok (.getfield 22, 3) := by decide +kernel
theorem dX4_leave_31 : decode cX4_leave 31 = .ok (.aload_n 0, 1) := by decide +kernel
theorem dX4_leave_32 : decode cX4_leave 32 = .ok (.getfield 10, 3) := by decide +kernel
theorem dX4_leave_35 : decode cX4_leave 35 = .ok (.invokevirtual 44, 3) := by decide +kernel
theorem dX4_leave_38 : decode cX4_leave 38 = .ok (.aload_n 0, 1) := by decide +kernel
theorem dX4_leave_39 : decode cX4_leave 39 = .ok (.getfield 10, 3) := by decide +kernel
theorem dX4_leave_42 : decode cX4_leave 42 = .ok (.aload_n 2, 1) := by decide +kernel
theorem dX4_leave_43 : decode cX4_leave 43 = .ok (.invokevirtual 62, 3) := by decide +kernel
theorem dX4_leave_46 : decode cX4_leave 46 = .ok (.ireturn, 1) := by decide +kernel
set_option maxRecDepth 20000 in
theorem ggX4_lend_X4_memberOrThrow : GoodIn wsX4_lend wsX4_memberOrThrow := goodIn_ca (goodIn_r _ [11, 12, 13, 6, 14, 15, 16, 17, 18, 95, 96, 97, 98, 99, 100, 101, 102, 103, 104, 105, 106, 107, 108, 109, 110, 111, 112, 113, 114, 115, 116, 117, 118, 119, 120, 121, 122, 123, 124, 125] (by decide +kernel) (by decide +kernel)) (goodIn_sub (fun _ h => List.mem_cons_of_mem _ (List.mem_append_right _ h)) (by decide +kernel))
set_option maxRecDepth 20000 in
theorem gX4_lend_X4_memberOrThrow : GoodIn wsX4_lend (wsV RX4 52 RX4 yX4_memberOrThrow wsX4_memberOrThrow) := goodIn_app (goodIn_of _ (by decide +kernel)) ggX4_lend_X4_memberOrThrow
set_option maxRecDepth 20000 in
theorem ggX4_lend_X2_mayBorrow : GoodIn wsX4_lend wsX2_mayBorrow := goodIn_r _ [22, 23, 24, 25, 26, 20, 27, 28, 29, 30, 31, 32, 33, 34, 35, 36, 37, 38, 39, 110, 111, 112, 113, 114, 115, 116, 117, 118, 119, 120, 121, 122, 123, 124, 125] (by decide +kernel) (by decide +kernel)
set_option maxRecDepth 20000 in
theorem gX4_lend_X2_mayBorrow_n71 : GoodIn wsX4_lend (wsX2_mayBorrow) := ggX4_lend_X2_mayBorrow
set_option maxRecDepth 20000 in
theorem ggX4_lend_X1_keep : GoodIn wsX4_lend wsX1_keep := goodIn_r _ [43, 44, 45, 46, 47, 48, 49, 50, 51, 15, 52, 53, 18, 54, 55, 56, 57, 58, 59, 60, 61, 62, 63, 64, 65, 66, 67, 68, 20, 69, 70, 71, 23, 72, 73, 74, 75, 28, 76, 77, 78, 33, 34, 79, 80, 39, 81, 126, 127, 128, 99, 100, 101, 102, 103, 104, 105, 106, 107, 108, 109, 110, 111, 112, 113, 114, 115, 116, 117, 118, 119, 120, 121, 122, 123, 124, 125] (by decide +kernel) (by decide +kernel)
set_option maxRecDepth 20000 in
theorem gX4_lend_X1_keep_n44 : GoodIn wsX4_lend (wsX1_keep) := ggX4_lend_X1_keep
set_option maxRecDepth 20000 in
theorem ggX4_lend_X0_grantLoan : GoodIn wsX4_lend wsX0_grantLoan := goodIn_r _ [84, 54, 64, 85, 20, 86, 87, 72, 73, 74, 75, 28, 99, 100, 101, 102, 103, 104, 105, 106, 107, 108, 109, 110, 111, 112, 113, 114, 115, 116, 117, 118, 119, 120, 121, 122, 123, 124, 125] (by decide +kernel) (by decide +kernel)
set_option maxRecDepth 20000 in
theorem gX4_lend_X0_grantLoan_n79 : GoodIn wsX4_lend (wsX0_grantLoan) := ggX4_lend_X0_grantLoan
set_option maxRecDepth 20000 in
theorem ggX4_lend_X2_due : GoodIn wsX4_lend wsX2_due := goodIn_r _ [90, 74, 24, 25, 26, 20, 27, 28, 91, 92, 93, 94, 75, 73, 110, 111, 112, 113, 114, 115, 116, 117, 118, 119, 120, 121, 122, 123, 124, 125] (by decide +kernel) (by decide +kernel)
set_option maxRecDepth 20000 in
theorem gX4_lend_X2_due_n83 : GoodIn wsX4_lend (wsX2_due) := ggX4_lend_X2_due
theorem dX4_lend_0 : decode cX4_lend 0 = .ok (.aload_n 0, 1) := by decide +kernel
theorem dX4_lend_1 : decode cX4_lend 1 = .ok (.iload_n 1, 1) := by decide +kernel
theorem dX4_lend_2 : decode cX4_lend 2 = .ok (.invokevirtual 52, 3) := by decide +kernel
theorem dX4_lend_5 : decode cX4_lend 5 = .ok (.astore 4, 2) := by decide +kernel
theorem dX4_lend_7 : decode cX4_lend 7 = .ok (.iload_n 2, 1) := by decide +kernel
theorem dX4_lend_8 : decode cX4_lend 8 = .ok (.bipush 10, 2) := by decide +kernel
theorem dX4_lend_10 : decode cX4_lend 10 = .ok (.if_icmp .lt 21, 3) := by decide +kernel
theorem dX4_lend_13 : decode cX4_lend 13 = .ok (.iload_n 2, 1) := by decide +kernel
theorem dX4_lend_14 : decode cX4_lend 14 = .ok (.sipush 2000, 3) := by decide +kernel
theorem dX4_lend_17 : decode cX4_lend 17 = .ok (.if_icmp .gt 14, 3) := by decide +kernel
theorem dX4_lend_20 : decode cX4_lend 20 = .ok (.iload_n 3, 1) := by decide +kernel
theorem dX4_lend_21 : decode cX4_lend 21 = .ok (.iconst 1, 1) := by decide +kernel
theorem dX4_lend_22 : decode cX4_lend 22 = .ok (.if_icmp .lt 9, 3) := by decide +kernel
theorem dX4_lend_25 : decode cX4_lend 25 = .ok (.iload_n 3, 1) := by decide +kernel
theorem dX4_lend_26 : decode cX4_lend 26 = .ok (.bipush 52, 2) := by decide +kernel
theorem dX4_lend_28 : decode cX4_lend 28 = .ok (.if_icmp .le 13, 3) := by decide +kernel
theorem dX4_lend_31 : decode cX4_lend 31 = .ok (.new 66, 3) := by decide +kernel
theorem dX4_lend_34 : decode cX4_lend 34 = .ok (.dup, 1) := by decide +kernel
theorem dX4_lend_35 : decode cX4_lend 35 = .ok (.ldc 68, 2) := by decide +kernel
theorem dX4_lend_37 : decode cX4_lend 37 = .ok (.invokespecial 70, 3) := by decide +kernel
theorem dX4_lend_40 : decode cX4_lend 40 = .ok (.athrow, 1) := by decide +kernel
theorem dX4_lend_41 : decode cX4_lend 41 = .ok (.aload 4, 2) := by decide +kernel
theorem dX4_lend_43 : decode cX4_lend 43 = .ok (.iload_n 2, 1) := by decide +kernel
theorem dX4_lend_44 : decode cX4_lend 44 = .ok (.invokevirtual 71, 3) := by decide +kernel
theorem dX4_lend_47 : decode cX4_lend 47 = .ok (.ifCond .ne 13, 3) := by decide +kernel
theorem dX4_lend_50 : decode cX4_lend 50 = .ok (.new 37, 3) := by decide +kernel
theorem dX4_lend_53 : decode cX4_lend 53 = .ok (.dup, 1) := by decide +kernel
theorem dX4_lend_54 : decode cX4_lend 54 = .ok (.ldc 77, 2) := by decide +kernel
theorem dX4_lend_56 : decode cX4_lend 56 = .ok (.invokespecial 41, 3) := by decide +kernel
theorem dX4_lend_59 : decode cX4_lend 59 = .ok (.athrow, 1) := by decide +kernel
theorem dX4_lend_60 : decode cX4_lend 60 = .ok (.aload_n 0, 1) := by decide +kernel
theorem dX4_lend_61 : decode cX4_lend 61 = .ok (.getfield 22, 3) := by decide +kernel
theorem dX4_lend_64 : decode cX4_lend 64 = .ok (.aload_n 0, 1) := by decide +kernel
theorem dX4_lend_65 : decode cX4_lend 65 = .ok (.getfield 10, 3) := by decide +kernel
theorem dX4_lend_68 : decode cX4_lend 68 = .ok (.invokevirtual 44, 3) := by decide +kernel
theorem dX4_lend_71 : decode cX4_lend 71 = .ok (.aload_n 0, 1) := by decide +kernel
theorem dX4_lend_72 : decode cX4_lend 72 = .ok (.getfield 10, 3) := by decide +kernel
theorem dX4_lend_75 : decode cX4_lend 75 = .ok (.aload 4, 2) := by decide +kernel
theorem dX4_lend_77 : decode cX4_lend 77 = .ok (.iload_n 2, 1) := by decide +kernel
theorem dX4_lend_78 : decode cX4_lend 78 = .ok (.iload_n 3, 1) := by decide +kernel
theorem dX4_lend_79 : decode cX4_lend 79 = .ok (.invokevirtual 79, 3) := by decide +kernel
theorem dX4_lend_82 : decode cX4_lend 82 = .ok (.aload 4, 2) := by decide +kernel
theorem dX4_lend_84 : decode cX4_lend 84 = .ok (.invokevirtual 83, 3) := by decide +kernel
theorem dX4_lend_87 : decode cX4_lend 87 = .ok (.ireturn, 1) := by decide +kernel
set_option maxRecDepth 20000 in
theorem ggX4_absent_X4_memberOrThrow : GoodIn wsX4_absent wsX4_memberOrThrow := goodIn_ca (goodIn_r _ [7, 8, 9, 2, 10, 11, 12, 13, 14, 66, 67, 68, 69, 86, 87, 88, 89, 90, 91, 92, 93, 94, 95, 96, 70, 71, 72, 73, 74, 75, 76, 77, 78, 79, 80, 81, 82, 83, 84, 85] (by decide +kernel) (by decide +kernel)) (goodIn_sub (fun _ h => List.mem_cons_of_mem _ (List.mem_append_right _ h)) (by decide +kernel))
set_option maxRecDepth 20000 in
theorem gX4_absent_X4_memberOrThrow : GoodIn wsX4_absent (wsV RX4 52 RX4 yX4_memberOrThrow wsX4_memberOrThrow) := goodIn_app (goodIn_of _ (by decide +kernel)) ggX4_absent_X4_memberOrThrow
set_option maxRecDepth 20000 in
theorem ggX4_absent_X1_keep : GoodIn wsX4_absent wsX1_keep := goodIn_r _ [18, 19, 20, 21, 22, 23, 24, 25, 26, 11, 27, 28, 14, 29, 30, 31, 32, 33, 34, 35, 36, 37, 38, 39, 40, 41, 42, 43, 44, 45, 46, 47, 48, 49, 50, 51, 52, 53, 54, 55, 56, 57, 58, 59, 60, 61, 62, 97, 98, 99, 86, 87, 88, 89, 90, 91, 92, 93, 94, 95, 96, 70, 71, 72, 73, 74, 75, 76, 77, 78, 79, 80, 81, 82, 83, 84, 85] (by decide +kernel) (by decide +kernel)
set_option maxRecDepth 20000 in
theorem gX4_absent_X1_keep_n44 : GoodIn wsX4_absent (wsX1_keep) := ggX4_absent_X1_keep
set_option maxRecDepth 20000 in
theorem ggX4_absent_X0_awayMembers : GoodIn wsX4_absent wsX0_awayMembers := goodIn_r _ [65, 14, 86, 87, 88, 89, 90, 91, 92, 93, 94, 95, 96, 70, 71, 72, 73, 74, 75, 76, 77, 78, 79, 80, 81, 82, 83, 84, 85] (by decide +kernel) (by decide +kernel)
set_option maxRecDepth 20000 in
theorem gX4_absent_X0_awayMembers_n90 : GoodIn wsX4_absent (wsX0_awayMembers) := ggX4_absent_X0_awayMembers
theorem dX4_absent_0 : decode cX4_absent 0 = .ok (.aload_n 0, 1) := by decide +kernel
theorem dX4_absent_1 : decode cX4_absent 1 = .ok (.iload_n 1, 1) := by decide +kernel
theorem dX4_absent_2 : decode cX4_absent 2 = .ok (.invokevirtual 52, 3) := by decide +kernel
theorem dX4_absent_5 : decode cX4_absent 5 = .ok (.astore_n 2, 1) := by decide +kernel
theorem dX4_absent_6 : decode cX4_absent 6 = .ok (.aload_n 0, 1) := by decide +kernel
theorem dX4_absent_7 : decode cX4_absent 7 = .ok (.getfield 22, 3) := by decide +kernel
theorem dX4_absent_10 : decode cX4_absent 10 = .ok (.aload_n 0, 1) := by decide +kernel
theorem dX4_absent_11 : decode cX4_absent 11 = .ok (.getfield 10, 3) := by decide +kernel
theorem dX4_absent_14 : decode cX4_absent 14 = .ok (.invokevirtual 44, 3) := by decide +kernel
theorem dX4_absent_17 : decode cX4_absent 17 = .ok (.aload_n 2, 1) := by decide +kernel
theorem dX4_absent_18 : decode cX4_absent 18 = .ok (.aload_n 2, 1) := by decide +kernel
theorem dX4_absent_19 : decode cX4_absent 19 = .ok (.getfield 86, 3) := by decide +kernel
theorem dX4_absent_22 : decode cX4_absent 22 = .ok (.ifCond .ne 7, 3) := by decide +kernel
theorem dX4_absent_25 : decode cX4_absent 25 = .ok (.iconst 1, 1) := by decide +kernel
theorem dX4_absent_26 : decode cX4_absent 26 = .ok (.goto 4, 3) := by decide +kernel
theorem dX4_absent_29 : decode cX4_absent 29 = .ok (.iconst 0, 1) := by decide +kernel
theorem dX4_absent_30 : decode cX4_absent 30 = .ok (.putfield 86, 3) := by decide +kernel
theorem dX4_absent_33 : decode cX4_absent 33 = .ok (.aload_n 0, 1) := by decide +kernel
theorem dX4_absent_34 : decode cX4_absent 34 = .ok (.getfield 10, 3) := by decide +kernel
theorem dX4_absent_37 : decode cX4_absent 37 = .ok (.invokevirtual 90, 3) := by decide +kernel
theorem dX4_absent_40 : decode cX4_absent 40 = .ok (.ireturn, 1) := by decide +kernel
set_option maxRecDepth 20000 in
theorem ggX4_week_X0_mayEndWeek : GoodIn wsX4_week wsX0_mayEndWeek := goodIn_r _ [8, 9, 127, 128, 129, 130, 131, 132, 133, 134, 135, 136, 137] (by decide +kernel) (by decide +kernel)
set_option maxRecDepth 20000 in
theorem gX4_week_X0_mayEndWeek_n93 : GoodIn wsX4_week (wsX0_mayEndWeek) := ggX4_week_X0_mayEndWeek
set_option maxRecDepth 20000 in
theorem ggX4_week_X1_keep : GoodIn wsX4_week wsX1_keep := goodIn_r _ [13, 14, 15, 16, 17, 18, 19, 20, 21, 6, 22, 23, 24, 25, 26, 27, 28, 29, 30, 9, 31, 32, 33, 34, 35, 36, 37, 38, 39, 40, 41, 42, 43, 44, 45, 46, 47, 48, 49, 50, 51, 52, 53, 54, 55, 56, 57, 138, 139, 140, 127, 128, 129, 130, 131, 132, 133, 134, 135, 136, 137, 141, 142, 143, 144, 145, 146, 147, 148, 149, 150, 151, 152, 153, 154, 155, 156] (by decide +kernel) (by decide +kernel)
set_option maxRecDepth 20000 in
theorem gX4_week_X1_keep_n44 : GoodIn wsX4_week (wsX1_keep) := ggX4_week_X1_keep
set_option maxRecDepth 20000 in
theorem ggX4_week_X0_endWeek : GoodIn wsX4_week wsX0_endWeek := goodIn_r _ [60, 24, 9, 25, 32, 61, 39, 62, 63, 48, 64, 65, 66, 6, 67, 35, 36, 68, 69, 70, 46, 71, 72, 73, 74, 75, 47, 45, 76, 77, 78, 79, 37, 33, 80, 81, 82, 83, 84, 85, 86, 87, 88, 89, 90, 91, 92, 93, 94, 95, 96, 97, 98, 44, 99, 100, 101, 102, 103, 104, 105, 106, 107, 18, 19, 20, 108, 109, 110, 111, 112, 113, 114, 52, 53, 115, 116, 117, 118, 56, 119, 120, 121, 122, 127, 128, 129, 130, 131, 132, 133, 134, 135, 136, 137, 141, 142, 143, 144, 145, 146, 147, 148, 149, 150, 151, 152, 153, 154, 155, 156] (by decide +kernel) (by decide +kernel)
set_option maxRecDepth 20000 in
theorem gX4_week_X0_endWeek_n102 : GoodIn wsX4_week (wsX0_endWeek) := ggX4_week_X0_endWeek
theorem dX4_week_0 : decode cX4_week 0 = .ok (.aload_n 0, 1) := by decide +kernel
theorem dX4_week_1 : decode cX4_week 1 = .ok (.getfield 10, 3) := by decide +kernel
theorem dX4_week_4 : decode cX4_week 4 = .ok (.invokevirtual 93, 3) := by decide +kernel
theorem dX4_week_7 : decode cX4_week 7 = .ok (.ifCond .ne 13, 3) := by decide +kernel
theorem dX4_week_10 : decode cX4_week 10 = .ok (.new 37, 3) := by decide +kernel
theorem dX4_week_13 : decode cX4_week 13 = .ok (.dup, 1) := by decide +kernel
theorem dX4_week_14 : decode cX4_week 14 = .ok (.ldc 97, 2) := by decide +kernel
theorem dX4_week_16 : decode cX4_week 16 = .ok (.invokespecial 41, 3) := by decide +kernel
theorem dX4_week_19 : decode cX4_week 19 = .ok (.athrow, 1) := by decide +kernel
theorem dX4_week_20 : decode cX4_week 20 = .ok (.aload_n 0, 1) := by decide +kernel
theorem dX4_week_21 : decode cX4_week 21 = .ok (.getfield 22, 3) := by decide +kernel
theorem dX4_week_24 : decode cX4_week 24 = .ok (.aload_n 0, 1) := by decide +kernel
theorem dX4_week_25 : decode cX4_week 25 = .ok (.getfield 10, 3) := by decide +kernel
theorem dX4_week_28 : decode cX4_week 28 = .ok (.invokevirtual 44, 3) := by decide +kernel
theorem dX4_week_31 : decode cX4_week 31 = .ok (.aload_n 0, 1) := by decide +kernel
theorem dX4_week_32 : decode cX4_week 32 = .ok (.getfield 10, 3) := by decide +kernel
theorem dX4_week_35 : decode cX4_week 35 = .ok (.getfield 99, 3) := by decide +kernel
theorem dX4_week_38 : decode cX4_week 38 = .ok (.istore_n 1, 1) := by decide +kernel
theorem dX4_week_39 : decode cX4_week 39 = .ok (.aload_n 0, 1) := by decide +kernel
theorem dX4_week_40 : decode cX4_week 40 = .ok (.getfield 10, 3) := by decide +kernel
theorem dX4_week_43 : decode cX4_week 43 = .ok (.invokevirtual 102, 3) := by decide +kernel
theorem dX4_week_46 : decode cX4_week 46 = .ok (.aload_n 0, 1) := by decide +kernel
