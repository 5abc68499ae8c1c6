theorem dX2_mayBorrow_19 : decode cX2_mayBorrow 19 = .ok (.if_icmp .gt 7, 3) := by decide +kernel
theorem dX2_mayBorrow_22 : decode cX2_mayBorrow 22 = .ok (.iconst 1, 1) := by decide +kernel
theorem dX2_mayBorrow_23 : decode cX2_mayBorrow 23 = .ok (.goto 4, 3) := by decide +kernel
theorem dX2_mayBorrow_26 : decode cX2_mayBorrow 26 = .ok (.iconst 0, 1) := by decide +kernel
theorem dX2_mayBorrow_27 : decode cX2_mayBorrow 27 = .ok (.ireturn, 1) := by decide +kernel
theorem dX2_borrow_0 : decode cX2_borrow 0 = .ok (.iload_n 2, 1) := by decide +kernel
theorem dX2_borrow_1 : decode cX2_borrow 1 = .ok (.iconst 1, 1) := by decide +kernel
theorem dX2_borrow_2 : decode cX2_borrow 2 = .ok (.if_icmp .ge 4, 3) := by decide +kernel
theorem dX2_borrow_5 : decode cX2_borrow 5 = .ok (.return_, 1) := by decide +kernel
theorem dX2_borrow_6 : decode cX2_borrow 6 = .ok (.aload_n 0, 1) := by decide +kernel
theorem dX2_borrow_7 : decode cX2_borrow 7 = .ok (.iload_n 1, 1) := by decide +kernel
theorem dX2_borrow_8 : decode cX2_borrow 8 = .ok (.putfield 54, 3) := by decide +kernel
theorem dX2_borrow_11 : decode cX2_borrow 11 = .ok (.aload_n 0, 1) := by decide +kernel
theorem dX2_borrow_12 : decode cX2_borrow 12 = .ok (.iload_n 1, 1) := by decide +kernel
theorem dX2_borrow_13 : decode cX2_borrow 13 = .ok (.iload_n 2, 1) := by decide +kernel
theorem dX2_borrow_14 : decode cX2_borrow 14 = .ok (.idiv, 1) := by decide +kernel
theorem dX2_borrow_15 : decode cX2_borrow 15 = .ok (.putfield 25, 3) := by decide +kernel
theorem dX2_borrow_18 : decode cX2_borrow 18 = .ok (.aload_n 0, 1) := by decide +kernel
theorem dX2_borrow_19 : decode cX2_borrow 19 = .ok (.iload_n 3, 1) := by decide +kernel
theorem dX2_borrow_20 : decode cX2_borrow 20 = .ok (.putfield 36, 3) := by decide +kernel
theorem dX2_borrow_23 : decode cX2_borrow 23 = .ok (.aload_n 0, 1) := by decide +kernel
theorem dX2_borrow_24 : decode cX2_borrow 24 = .ok (.iload_n 1, 1) := by decide +kernel
theorem dX2_borrow_25 : decode cX2_borrow 25 = .ok (.putfield 22, 3) := by decide +kernel
theorem dX2_borrow_28 : decode cX2_borrow 28 = .ok (.aload_n 0, 1) := by decide +kernel
theorem dX2_borrow_29 : decode cX2_borrow 29 = .ok (.iload_n 2, 1) := by decide +kernel
theorem dX2_borrow_30 : decode cX2_borrow 30 = .ok (.putfield 19, 3) := by decide +kernel
theorem dX2_borrow_33 : decode cX2_borrow 33 = .ok (.return_, 1) := by decide +kernel
set_option maxRecDepth 20000 in
theorem ggX2_lessenLoan_X2_part : GoodIn wsX2_lessenLoan wsX2_part := goodIn_r _ [10, 2, 1, 4, 11, 12, 13, 14, 15, 16, 17, 18, 19, 20, 21, 22, 23, 24, 25, 26] (by decide +kernel) (by decide +kernel)
set_option maxRecDepth 20000 in
theorem gX2_lessenLoan_X2_part : GoodIn wsX2_lessenLoan (wsV RX2 32 RX2 yX2_part wsX2_part) := goodIn_app (goodIn_of _ (by decide +kernel)) ggX2_lessenLoan_X2_part
theorem dX2_lessenLoan_0 : decode cX2_lessenLoan 0 = .ok (.aload_n 0, 1) := by decide +kernel
theorem dX2_lessenLoan_1 : decode cX2_lessenLoan 1 = .ok (.dup, 1) := by decide +kernel
theorem dX2_lessenLoan_2 : decode cX2_lessenLoan 2 = .ok (.getfield 22, 3) := by decide +kernel
theorem dX2_lessenLoan_5 : decode cX2_lessenLoan 5 = .ok (.aload_n 0, 1) := by decide +kernel
theorem dX2_lessenLoan_6 : decode cX2_lessenLoan 6 = .ok (.invokevirtual 32, 3) := by decide +kernel
theorem dX2_lessenLoan_9 : decode cX2_lessenLoan 9 = .ok (.isub, 1) := by decide +kernel
theorem dX2_lessenLoan_10 : decode cX2_lessenLoan 10 = .ok (.putfield 22, 3) := by decide +kernel
theorem dX2_lessenLoan_13 : decode cX2_lessenLoan 13 = .ok (.aload_n 0, 1) := by decide +kernel
theorem dX2_lessenLoan_14 : decode cX2_lessenLoan 14 = .ok (.dup, 1) := by decide +kernel
theorem dX2_lessenLoan_15 : decode cX2_lessenLoan 15 = .ok (.getfield 19, 3) := by decide +kernel
theorem dX2_lessenLoan_18 : decode cX2_lessenLoan 18 = .ok (.iconst 1, 1) := by decide +kernel
theorem dX2_lessenLoan_19 : decode cX2_lessenLoan 19 = .ok (.isub, 1) := by decide +kernel
theorem dX2_lessenLoan_20 : decode cX2_lessenLoan 20 = .ok (.putfield 19, 3) := by decide +kernel
theorem dX2_lessenLoan_23 : decode cX2_lessenLoan 23 = .ok (.aload_n 0, 1) := by decide +kernel
theorem dX2_lessenLoan_24 : decode cX2_lessenLoan 24 = .ok (.getfield 19, 3) := by decide +kernel
theorem dX2_lessenLoan_27 : decode cX2_lessenLoan 27 = .ok (.ifCond .ne 18, 3) := by decide +kernel
theorem dX2_lessenLoan_30 : decode cX2_lessenLoan 30 = .ok (.aload_n 0, 1) := by decide +kernel
theorem dX2_lessenLoan_31 : decode cX2_lessenLoan 31 = .ok (.iconst 0, 1) := by decide +kernel
theorem dX2_lessenLoan_32 : decode cX2_lessenLoan 32 = .ok (.putfield 54, 3) := by decide +kernel
theorem dX2_lessenLoan_35 : decode cX2_lessenLoan 35 = .ok (.aload_n 0, 1) := by decide +kernel
theorem dX2_lessenLoan_36 : decode cX2_lessenLoan 36 = .ok (.iconst 0, 1) := by decide +kernel
theorem dX2_lessenLoan_37 : decode cX2_lessenLoan 37 = .ok (.putfield 25, 3) := by decide +kernel
theorem dX2_lessenLoan_40 : decode cX2_lessenLoan 40 = .ok (.aload_n 0, 1) := by decide +kernel
theorem dX2_lessenLoan_41 : decode cX2_lessenLoan 41 = .ok (.iconst 0, 1) := by decide +kernel
theorem dX2_lessenLoan_42 : decode cX2_lessenLoan 42 = .ok (.putfield 36, 3) := by decide +kernel
theorem dX2_lessenLoan_45 : decode cX2_lessenLoan 45 = .ok (.return_, 1) := by decide +kernel
theorem dX2_nextLimit_0 : decode cX2_nextLimit 0 = .ok (.aload_n 0, 1) := by decide +kernel
theorem dX2_nextLimit_1 : decode cX2_nextLimit 1 = .ok (.getfield 57, 3) := by decide +kernel
theorem dX2_nextLimit_4 : decode cX2_nextLimit 4 = .ok (.ifCond .ne 21, 3) := by decide +kernel
theorem dX2_nextLimit_7 : decode cX2_nextLimit 7 = .ok (.aload_n 0, 1) := by decide +kernel
theorem dX2_nextLimit_8 : decode cX2_nextLimit 8 = .ok (.getfield 51, 3) := by decide +kernel
theorem dX2_nextLimit_11 : decode cX2_nextLimit 11 = .ok (.aload_n 0, 1) := by decide +kernel
theorem dX2_nextLimit_12 : decode cX2_nextLimit 12 = .ok (.getfield 51, 3) := by decide +kernel
theorem dX2_nextLimit_15 : decode cX2_nextLimit 15 = .ok (.iconst 2, 1) := by decide +kernel
theorem dX2_nextLimit_16 : decode cX2_nextLimit 16 = .ok (.idiv, 1) := by decide +kernel
theorem dX2_nextLimit_17 : decode cX2_nextLimit 17 = .ok (.iadd, 1) := by decide +kernel
theorem dX2_nextLimit_18 : decode cX2_nextLimit 18 = .ok (.sipush 2000, 3) := by decide +kernel
theorem dX2_nextLimit_21 : decode cX2_nextLimit 21 = .ok (.invokestatic 60, 3) := by decide +kernel
theorem dX2_nextLimit_24 : decode cX2_nextLimit 24 = .ok (.ireturn, 1) := by decide +kernel
theorem dX2_nextLimit_25 : decode cX2_nextLimit 25 = .ok (.aload_n 0, 1) := by decide +kernel
theorem dX2_nextLimit_26 : decode cX2_nextLimit 26 = .ok (.getfield 57, 3) := by decide +kernel
theorem dX2_nextLimit_29 : decode cX2_nextLimit 29 = .ok (.iconst 3, 1) := by decide +kernel
theorem dX2_nextLimit_30 : decode cX2_nextLimit 30 = .ok (.if_icmp .lt 17, 3) := by decide +kernel
theorem dX2_nextLimit_33 : decode cX2_nextLimit 33 = .ok (.aload_n 0, 1) := by decide +kernel
theorem dX2_nextLimit_34 : decode cX2_nextLimit 34 = .ok (.getfield 51, 3) := by decide +kernel
theorem dX2_nextLimit_37 : decode cX2_nextLimit 37 = .ok (.iconst 2, 1) := by decide +kernel
theorem dX2_nextLimit_38 : decode cX2_nextLimit 38 = .ok (.idiv, 1) := by decide +kernel
theorem dX2_nextLimit_39 : decode cX2_nextLimit 39 = .ok (.bipush 20, 2) := by decide +kernel
theorem dX2_nextLimit_41 : decode cX2_nextLimit 41 = .ok (.invokestatic 66, 3) := by decide +kernel
theorem dX2_nextLimit_44 : decode cX2_nextLimit 44 = .ok (.goto 7, 3) := by decide +kernel
theorem dX2_nextLimit_47 : decode cX2_nextLimit 47 = .ok (.aload_n 0, 1) := by decide +kernel
theorem dX2_nextLimit_48 : decode cX2_nextLimit 48 = .ok (.getfield 51, 3) := by decide +kernel
theorem dX2_nextLimit_51 : decode cX2_nextLimit 51 = .ok (.ireturn, 1) := by decide +kernel
set_option maxRecDepth 20000 in
theorem ggX2_property_X2_due : GoodIn wsX2_property wsX2_due := goodIn_r _ [16, 17, 18, 19, 20, 15, 21, 4, 22, 23, 24, 25, 3, 26, 32, 33, 34, 35, 36, 37, 38, 39, 40, 41, 42, 43, 44, 45, 46, 47] (by decide +kernel) (by decide +kernel)
set_option maxRecDepth 20000 in
theorem gX2_property_X2_due : GoodIn wsX2_property (wsV RX2 69 RX2 yX2_due wsX2_due) := goodIn_app (goodIn_of _ (by decide +kernel)) ggX2_property_X2_due
set_option maxRecDepth 20000 in
theorem ggX2_property_X2_debtToMembers : GoodIn wsX2_property wsX2_debtToMembers := goodIn_r _ [30, 31, 32, 33, 34, 35, 36, 37, 38, 39, 40, 41, 42, 43, 44, 45, 46, 47] (by decide +kernel) (by decide +kernel)
set_option maxRecDepth 20000 in
theorem gX2_property_X2_debtToMembers : GoodIn wsX2_property (wsV RX2 45 RX2 yX2_debtToMembers wsX2_debtToMembers) := goodIn_app (goodIn_of _ (by decide +kernel)) ggX2_property_X2_debtToMembers
theorem dX2_property_0 : decode cX2_property 0 = .ok (.iload_n 1, 1) := by decide +kernel
theorem dX2_property_1 : decode cX2_property 1 = .ok (.tableswitch 135 0 12 #[67, 72, 77, 82, 87, 92, 105, 110, 115, 120, 125, 135, 130], 67) := by decide +kernel
theorem dX2_property_68 : decode cX2_property 68 = .ok (.aload_n 0, 1) := by decide +kernel
theorem dX2_property_69 : decode cX2_property 69 = .ok (.getfield 51, 3) := by decide +kernel
theorem dX2_property_72 : decode cX2_property 72 = .ok (.ireturn, 1) := by decide +kernel
theorem dX2_property_73 : decode cX2_property 73 = .ok (.aload_n 0, 1) := by decide +kernel
theorem dX2_property_74 : decode cX2_property 74 = .ok (.getfield 54, 3) := by decide +kernel
theorem dX2_property_77 : decode cX2_property 77 = .ok (.ireturn, 1) := by decide +kernel
theorem dX2_property_78 : decode cX2_property 78 = .ok (.aload_n 0, 1) := by decide +kernel
theorem dX2_property_79 : decode cX2_property 79 = .ok (.getfield 22, 3) := by decide +kernel
theorem dX2_property_82 : decode cX2_property 82 = .ok (.ireturn, 1) := by decide +kernel
theorem dX2_property_83 : decode cX2_property 83 = .ok (.aload_n 0, 1) := by decide +kernel
theorem dX2_property_84 : decode cX2_property 84 = .ok (.getfield 19, 3) := by decide +kernel
theorem dX2_property_87 : decode cX2_property 87 = .ok (.ireturn, 1) := by decide +kernel
theorem dX2_property_88 : decode cX2_property 88 = .ok (.aload_n 0, 1) := by decide +kernel
theorem dX2_property_89 : decode cX2_property 89 = .ok (.invokevirtual 69, 3) := by decide +kernel
theorem dX2_property_92 : decode cX2_property 92 = .ok (.ireturn, 1) := by decide +kernel
theorem dX2_property_93 : decode cX2_property 93 = .ok (.aload_n 0, 1) := by decide +kernel
theorem dX2_property_94 : decode cX2_property 94 = .ok (.getfield 72, 3) := by decide +kernel
theorem dX2_property_97 : decode cX2_property 97 = .ok (.ifCond .eq 7, 3) := by decide +kernel
theorem dX2_property_100 : decode cX2_property 100 = .ok (.iconst 1, 1) := by decide +kernel
theorem dX2_property_101 : decode cX2_property 101 = .ok (.goto 4, 3) := by decide +kernel
theorem dX2_property_104 : decode cX2_property 104 = .ok (.iconst 0, 1) := by decide +kernel
theorem dX2_property_105 : decode cX2_property 105 = .ok (.ireturn, 1) := by decide +kernel
theorem dX2_property_106 : decode cX2_property 106 = .ok (.aload_n 0, 1) := by decide +kernel
theorem dX2_property_107 : decode cX2_property 107 = .ok (.getfield 57, 3) := by decide +kernel
theorem dX2_property_110 : decode cX2_property 110 = .ok (.ireturn, 1) := by decide +kernel
theorem dX2_property_111 : decode cX2_property 111 = .ok (.aload_n 0, 1) := by decide +kernel
theorem dX2_property_112 : decode cX2_property 112 = .ok (.getfield 76, 3) := by decide +kernel
theorem dX2_property_115 : decode cX2_property 115 = .ok (.ireturn, 1) := by decide +kernel
theorem dX2_property_116 : decode cX2_property 116 = .ok (.aload_n 0, 1) := by decide +kernel
theorem dX2_property_117 : decode cX2_property 117 = .ok (.getfield 39, 3) := by decide +kernel
theorem dX2_property_120 : decode cX2_property 120 = .ok (.ireturn, 1) := by decide +kernel
theorem dX2_property_121 : decode cX2_property 121 = .ok (.aload_n 0, 1) := by decide +kernel
theorem dX2_property_122 : decode cX2_property 122 = .ok (.getfield 42, 3) := by decide +kernel
theorem dX2_property_125 : decode cX2_property 125 = .ok (.ireturn, 1) := by decide +kernel
theorem dX2_property_126 : decode cX2_property 126 = .ok (.aload_n 0, 1) := by decide +kernel
theorem dX2_property_127 : decode cX2_property 127 = .ok (.invokevirtual 45, 3) := by decide +kernel
theorem dX2_property_130 : decode cX2_property 130 = .ok (.ireturn, 1) := by decide +kernel
theorem dX2_property_131 : decode cX2_property 131 = .ok (.aload_n 0, 1) := by decide +kernel
theorem dX2_property_132 : decode cX2_property 132 = .ok (.getfield 79, 3) := by decide +kernel
theorem dX2_property_135 : decode cX2_property 135 = .ok (.ireturn, 1) := by decide +kernel
theorem dX2_property_136 : decode cX2_property 136 = .ok (.aload_n 0, 1) := by decide +kernel
theorem dX2_property_137 : decode cX2_property 137 = .ok (.getfield 82, 3) := by decide +kernel
theorem dX2_property_140 : decode cX2_property 140 = .ok (.ireturn, 1) := by decide +kernel
theorem dX2_copyFrom_0 : decode cX2_copyFrom 0 = .ok (.aload_n 0, 1) := by decide +kernel
theorem dX2_copyFrom_1 : decode cX2_copyFrom 1 = .ok (.aload_n 1, 1) := by decide +kernel
theorem dX2_copyFrom_2 : decode cX2_copyFrom 2 = .ok (.getfield 85, 3) := by decide +kernel
theorem dX2_copyFrom_5 : decode cX2_copyFrom 5 = .ok (.putfield 85, 3) := by decide +kernel
theorem dX2_copyFrom_8 : decode cX2_copyFrom 8 = .ok (.aload_n 0, 1) := by decide +kernel
theorem dX2_copyFrom_9 : decode cX2_copyFrom 9 = .ok (.aload_n 1, 1) := by decide +kernel
theorem dX2_copyFrom_10 : decode cX2_copyFrom 10 = .ok (.getfield 51, 3) := by decide +kernel
theorem dX2_copyFrom_13 : decode cX2_copyFrom 13 = .ok (.putfield 51, 3) := by decide +kernel
theorem dX2_copyFrom_16 : decode cX2_copyFrom 16 = .ok (.aload_n 0, 1) := by decide +kernel
theorem dX2_copyFrom_17 : decode cX2_copyFrom 17 = .ok (.aload_n 1, 1) := by decide +kernel
theorem dX2_copyFrom_18 : decode cX2_copyFrom 18 = .ok (.getfield 54, 3) := by decide +kernel
theorem dX2_copyFrom_21 : decode cX2_copyFrom 21 = .ok (.putfield 54, 3) := by decide +kernel
theorem dX2_copyFrom_24 : decode cX2_copyFrom 24 = .ok (.aload_n 0, 1) := by decide +kernel
theorem dX2_copyFrom_25 : decode cX2_copyFrom 25 = .ok (.aload_n 1, 1) := by decide +kernel
theorem dX2_copyFrom_26 : decode cX2_copyFrom 26 = .ok (.getfield 25, 3) := by decide +kernel
theorem dX2_copyFrom_29 : decode cX2_copyFrom 29 = .ok (.putfield 25, 3) := by decide +kernel
theorem dX2_copyFrom_32 : decode cX2_copyFrom 32 = .ok (.aload_n 0, 1) := by decide +kernel
theorem dX2_copyFrom_33 : decode cX2_copyFrom 33 = .ok (.aload_n 1, 1) := by decide +kernel
theorem dX2_copyFrom_34 : decode cX2_copyFrom 34 = .ok (.getfield 36, 3) := by decide +kernel
theorem dX2_copyFrom_37 : decode cX2_copyFrom 37 = .ok (.putfield 36, 3) := by decide +kernel
theorem dX2_copyFrom_40 : decode cX2_copyFrom 40 = .ok (.aload_n 0, 1) := by decide +kernel
theorem dX2_copyFrom_41 : decode cX2_copyFrom 41 = .ok (.aload_n 1, 1) := by decide +kernel
theorem dX2_copyFrom_42 : decode cX2_copyFrom 42 = .ok (.getfield 22, 3) := by decide +kernel
theorem dX2_copyFrom_45 : decode cX2_copyFrom 45 = .ok (.putfield 22, 3) := by decide +kernel
theorem dX2_copyFrom_48 : decode cX2_copyFrom 48 = .ok (.aload_n 0, 1) := by decide +kernel
theorem dX2_copyFrom_49 : decode cX2_copyFrom 49 = .ok (.aload_n 1, 1) := by decide +kernel
theorem dX2_copyFrom_50 : decode cX2_copyFrom 50 = .ok (.getfield 19, 3) := by decide +kernel
theorem dX2_copyFrom_53 : decode cX2_copyFrom 53 = .ok (.putfield 19, 3) := by decide +kernel
theorem dX2_copyFrom_56 : decode cX2_copyFrom 56 = .ok (.aload_n 0, 1) := by decide +kernel
theorem dX2_copyFrom_57 : decode cX2_copyFrom 57 = .ok (.aload_n 1, 1) := by decide +kernel
theorem dX2_copyFrom_58 : decode cX2_copyFrom 58 = .ok (.getfield 72, 3) := by decide +kernel
theorem dX2_copyFrom_61 : decode cX2_copyFrom 61 = .ok (.putfield 72, 3) := by decide +kernel
theorem dX2_copyFrom_64 : decode cX2_copyFrom 64 = .ok (.aload_n 0, 1) := by decide +kernel
theorem dX2_copyFrom_65 : decode cX2_copyFrom 65 = .ok (.aload_n 1, 1) := by decide +kernel
theorem dX2_copyFrom_66 : decode cX2_copyFrom 66 = .ok (.getfield 57, 3) := by decide +kernel
theorem dX2_copyFrom_69 : decode cX2_copyFrom 69 = .ok (.putfield 57, 3) := by decide +kernel
theorem dX2_copyFrom_72 : decode cX2_copyFrom 72 = .ok (.aload_n 0, 1) := by decide +kernel
theorem dX2_copyFrom_73 : decode cX2_copyFrom 73 = .ok (.aload_n 1, 1) := by decide +kernel
theorem dX2_copyFrom_74 : decode cX2_copyFrom 74 = .ok (.getfield 76, 3) := by decide +kernel
theorem dX2_copyFrom_77 : decode cX2_copyFrom 77 = .ok (.putfield 76, 3) := by decide +kernel
theorem dX2_copyFrom_80 : decode cX2_copyFrom 80 = .ok (.aload_n 0, 1) := by decide +kernel
theorem dX2_copyFrom_81 : decode cX2_copyFrom 81 = .ok (.aload_n 1, 1) := by decide +kernel
theorem dX2_copyFrom_82 : decode cX2_copyFrom 82 = .ok (.getfield 39, 3) := by decide +kernel
theorem dX2_copyFrom_85 : decode cX2_copyFrom 85 = .ok (.putfield 39, 3) := by decide +kernel
theorem dX2_copyFrom_88 : decode cX2_copyFrom 88 = .ok (.aload_n 0, 1) := by decide +kernel
theorem dX2_copyFrom_89 : decode cX2_copyFrom 89 = .ok (.aload_n 1, 1) := by decide +kernel
theorem dX2_copyFrom_90 : decode cX2_copyFrom 90 = .ok (.getfield 42, 3) := by decide +kernel
theorem dX2_copyFrom_93 : decode cX2_copyFrom 93 = .ok (.putfield 42, 3) := by decide +kernel
theorem dX2_copyFrom_96 : decode cX2_copyFrom 96 = .ok (.aload_n 0, 1) := by decide +kernel
theorem dX2_copyFrom_97 : decode cX2_copyFrom 97 = .ok (.aload_n 1, 1) := by decide +kernel
theorem dX2_copyFrom_98 : decode cX2_copyFrom 98 = .ok (.getfield 79, 3) := by decide +kernel
theorem dX2_copyFrom_101 : decode cX2_copyFrom 101 = .ok (.putfield 79, 3) := by decide +kernel
theorem dX2_copyFrom_104 : decode cX2_copyFrom 104 = .ok (.aload_n 0, 1) := by decide +kernel
theorem dX2_copyFrom_105 : decode cX2_copyFrom 105 = .ok (.aload_n 1, 1) := by decide +kernel
theorem dX2_copyFrom_106 : decode cX2_copyFrom 106 = .ok (.getfield 82, 3) := by decide +kernel
theorem dX2_copyFrom_109 : decode cX2_copyFrom 109 = .ok (.putfield 82, 3) := by decide +kernel
theorem dX2_copyFrom_112 : decode cX2_copyFrom 112 = .ok (.aload_n 1, 1) := by decide +kernel
theorem dX2_copyFrom_113 : decode cX2_copyFrom 113 = .ok (.getfield 9, 3) := by decide +kernel
theorem dX2_copyFrom_116 : decode cX2_copyFrom 116 = .ok (.iconst 0, 1) := by decide +kernel
theorem dX2_copyFrom_117 : decode cX2_copyFrom 117 = .ok (.aload_n 0, 1) := by decide +kernel
theorem dX2_copyFrom_118 : decode cX2_copyFrom 118 = .ok (.getfield 9, 3) := by decide +kernel
theorem dX2_copyFrom_121 : decode cX2_copyFrom 121 = .ok (.iconst 0, 1) := by decide +kernel
theorem dX2_copyFrom_122 : decode cX2_copyFrom 122 = .ok (.bipush 8, 2) := by decide +kernel
theorem dX2_copyFrom_124 : decode cX2_copyFrom 124 = .ok (.invokestatic 88, 3) := by decide +kernel
theorem dX2_copyFrom_127 : decode cX2_copyFrom 127 = .ok (.return_, 1) := by decide +kernel
theorem dX3_init_0 : decode cX3_init 0 = .ok (.aload_n 0, 1) := by decide +kernel
theorem dX3_init_1 : decode cX3_init 1 = .ok (.invokespecial 3, 3) := by decide +kernel
theorem dX3_init_4 : decode cX3_init 4 = .ok (.aload_n 0, 1) := by decide +kernel
theorem dX3_init_5 : decode cX3_init 5 = .ok (.bipush 60, 2) := by decide +kernel
theorem dX3_init_7 : decode cX3_init 7 = .ok (.newarray .char, 2) := by decide +kernel
theorem dX3_init_9 : decode cX3_init 9 = .ok (.putfield 9, 3) := by decide +kernel
theorem dX3_init_12 : decode cX3_init 12 = .ok (.return_, 1) := by decide +kernel
theorem dX3_add_0 : decode cX3_add 0 = .ok (.aload_n 0, 1) := by decide +kernel
theorem dX3_add_1 : decode cX3_add 1 = .ok (.getfield 15, 3) := by decide +kernel
theorem dX3_add_4 : decode cX3_add 4 = .ok (.ifCond .lt 32, 3) := by decide +kernel
theorem dX3_add_7 : decode cX3_add 7 = .ok (.aload_n 0, 1) := by decide +kernel
theorem dX3_add_8 : decode cX3_add 8 = .ok (.getfield 15, 3) := by decide +kernel
theorem dX3_add_11 : decode cX3_add 11 = .ok (.bipush 60, 2) := by decide +kernel
theorem dX3_add_13 : decode cX3_add 13 = .ok (.if_icmp .ge 23, 3) := by decide +kernel
theorem dX3_add_16 : decode cX3_add 16 = .ok (.aload_n 0, 1) := by decide +kernel
theorem dX3_add_17 : decode cX3_add 17 = .ok (.getfield 9, 3) := by decide +kernel
theorem dX3_add_20 : decode cX3_add 20 = .ok (.aload_n 0, 1) := by decide +kernel
theorem dX3_add_21 : decode cX3_add 21 = .ok (.getfield 15, 3) := by decide +kernel
theorem dX3_add_24 : decode cX3_add 24 = .ok (.iload_n 1, 1) := by decide +kernel
theorem dX3_add_25 : decode cX3_add 25 = .ok (.castore, 1) := by decide +kernel
theorem dX3_add_26 : decode cX3_add 26 = .ok (.aload_n 0, 1) := by decide +kernel
theorem dX3_add_27 : decode cX3_add 27 = .ok (.dup, 1) := by decide +kernel
theorem dX3_add_28 : decode cX3_add 28 = .ok (.getfield 15, 3) := by decide +kernel
theorem dX3_add_31 : decode cX3_add 31 = .ok (.iconst 1, 1) := by decide +kernel
theorem dX3_add_32 : decode cX3_add 32 = .ok (.iadd, 1) := by decide +kernel
theorem dX3_add_33 : decode cX3_add 33 = .ok (.putfield 15, 3) := by decide +kernel
theorem dX3_add_36 : decode cX3_add 36 = .ok (.return_, 1) := by decide +kernel
theorem dX3_clear_0 : decode cX3_clear 0 = .ok (.aload_n 0, 1) := by decide +kernel
theorem dX3_clear_1 : decode cX3_clear 1 = .ok (.iconst 0, 1) := by decide +kernel
theorem dX3_clear_2 : decode cX3_clear 2 = .ok (.putfield 15, 3) := by decide +kernel
theorem dX3_clear_5 : decode cX3_clear 5 = .ok (.return_, 1) := by decide +kernel
theorem dX3_restart_0 : decode cX3_restart 0 = .ok (.aload_n 0, 1) := by decide +kernel
theorem dX3_restart_1 : decode cX3_restart 1 = .ok (.iconst 0, 1) := by decide +kernel
theorem dX3_restart_2 : decode cX3_restart 2 = .ok (.putfield 19, 3) := by decide +kernel
theorem dX3_restart_5 : decode cX3_restart 5 = .ok (.return_, 1) := by decide +kernel
set_option maxRecDepth 20000 in
theorem ggX3_readAll_X3_restart : GoodIn wsX3_readAll wsX3_restart := goodIn_r _ [7, 1, 94, 95, 96, 97, 98, 99, 100] (by decide +kernel) (by decide +kernel)
set_option maxRecDepth 20000 in
theorem gX3_readAll_X3_restart : GoodIn wsX3_readAll (wsV RX3 22 RX3 yX3_restart wsX3_restart) := goodIn_app (goodIn_of _ (by decide +kernel)) ggX3_readAll_X3_restart
set_option maxRecDepth 20000 in
theorem ggX3_readAll_X3_readOrder : GoodIn wsX3_readAll wsX3_readOrder := goodIn_r _ [11, 12, 13, 14, 15, 6, 16, 1, 2, 17, 18, 19, 20, 21, 22, 23, 24, 25, 26, 27, 28, 29, 30, 31, 32, 33, 34, 35, 36, 37, 38, 39, 40, 41, 42, 43, 44, 45, 46, 47, 48, 49, 50, 51, 52, 53, 54, 55, 56, 57, 58, 59, 60, 61, 62, 63, 64, 65, 66, 67, 68, 69, 70, 71, 72, 73, 74, 75, 76, 77, 78, 79, 80, 81, 82, 83, 84, 85, 86, 87, 88, 89, 90, 91, 92, 93, 94, 95, 96, 97, 98, 99, 100] (by decide +kernel) (by decide +kernel)
set_option maxRecDepth 20000 in
theorem gX3_readAll_X3_readOrder : GoodIn wsX3_readAll (wsV RX3 25 RX3 yX3_readOrder wsX3_readOrder) := goodIn_app (goodIn_of _ (by decide +kernel)) ggX3_readAll_X3_readOrder
set_option maxRecDepth 20000 in
theorem ggX3_readAll_X3_readMark : GoodIn wsX3_readAll wsX3_readMark := goodIn_r _ [74, 1, 13, 14, 15, 6, 16, 2, 17, 94, 95, 96, 97, 98, 99, 100] (by decide +kernel) (by decide +kernel)
set_option maxRecDepth 20000 in
theorem gX3_readAll_X3_readMark : GoodIn wsX3_readAll (wsV RX3 29 RX3 yX3_readMark wsX3_readMark) := goodIn_app (goodIn_of _ (by decide +kernel)) ggX3_readAll_X3_readMark
theorem dX3_readAll_0 : decode cX3_readAll 0 = .ok (.aload_n 0, 1) := by decide +kernel
theorem dX3_readAll_1 : decode cX3_readAll 1 = .ok (.invokevirtual 22, 3) := by decide +kernel
theorem dX3_readAll_4 : decode cX3_readAll 4 = .ok (.iconst 0, 1) := by decide +kernel
theorem dX3_readAll_5 : decode cX3_readAll 5 = .ok (.istore_n 1, 1) := by decide +kernel
theorem dX3_readAll_6 : decode cX3_readAll 6 = .ok (.iload_n 1, 1) := by decide +kernel
theorem dX3_readAll_7 : decode cX3_readAll 7 = .ok (.bipush 60, 2) := by decide +kernel
theorem dX3_readAll_9 : decode cX3_readAll 9 = .ok (.if_icmp .ge 42, 3) := by decide +kernel
theorem dX3_readAll_12 : decode cX3_readAll 12 = .ok (.aload_n 0, 1) := by decide +kernel
theorem dX3_readAll_13 : decode cX3_readAll 13 = .ok (.invokevirtual 25, 3) := by decide +kernel
theorem dX3_readAll_16 : decode cX3_readAll 16 = .ok (.ifCond .ne 5, 3) := by decide +kernel
theorem dX3_readAll_19 : decode cX3_readAll 19 = .ok (.iconst 0, 1) := by decide +kernel
theorem dX3_readAll_20 : decode cX3_readAll 20 = .ok (.ireturn, 1) := by decide +kernel
theorem dX3_readAll_21 : decode cX3_readAll 21 = .ok (.aload_n 0, 1) := by decide +kernel
theorem dX3_readAll_22 : decode cX3_readAll 22 = .ok (.getfield 19, 3) := by decide +kernel
theorem dX3_readAll_25 : decode cX3_readAll 25 = .ok (.aload_n 0, 1) := by decide +kernel
theorem dX3_readAll_26 : decode cX3_readAll 26 = .ok (.getfield 15, 3) := by decide +kernel
theorem dX3_readAll_29 : decode cX3_readAll 29 = .ok (.if_icmp .lt 5, 3) := by decide +kernel
theorem dX3_readAll_32 : decode cX3_readAll 32 = .ok (.iconst 1, 1) := by decide +kernel
theorem dX3_readAll_33 : decode cX3_readAll 33 = .ok (.ireturn, 1) := by decide +kernel
theorem dX3_readAll_34 : decode cX3_readAll 34 = .ok (.aload_n 0, 1) := by decide +kernel
theorem dX3_readAll_35 : decode cX3_readAll 35 = .ok (.bipush 59, 2) := by decide +kernel
theorem dX3_readAll_37 : decode cX3_readAll 37 = .ok (.invokevirtual 29, 3) := by decide +kernel
theorem dX3_readAll_40 : decode cX3_readAll 40 = .ok (.ifCond .ne 5, 3) := by decide +kernel
theorem dX3_readAll_43 : decode cX3_readAll 43 = .ok (.iconst 0, 1) := by decide +kernel
theorem dX3_readAll_44 : decode cX3_readAll 44 = .ok (.ireturn, 1) := by decide +kernel
theorem dX3_readAll_45 : decode cX3_readAll 45 = .ok (.iinc 1 1, 3) := by decide +kernel
theorem dX3_readAll_48 : decode cX3_readAll 48 = .ok (.goto (-42), 3) := by decide +kernel
theorem dX3_readAll_51 : decode cX3_readAll 51 = .ok (.iconst 0, 1) := by decide +kernel
theorem dX3_readAll_52 : decode cX3_readAll 52 = .ok (.ireturn, 1) := by decide +kernel
set_option maxRecDepth 20000 in
theorem ggX3_readOrder_X3_next : GoodIn wsX3_readOrder wsX3_next := goodIn_r _ [6, 7, 8, 9, 86, 87, 88, 89, 90, 91, 92] (by decide +kernel) (by decide +kernel)
set_option maxRecDepth 20000 in
theorem gX3_readOrder_X3_next : GoodIn wsX3_readOrder (wsV RX3 33 RX3 yX3_next wsX3_next) := goodIn_app (goodIn_of _ (by decide +kernel)) ggX3_readOrder_X3_next
set_option maxRecDepth 20000 in
theorem ggX3_readOrder_X3_readWord : GoodIn wsX3_readOrder wsX3_readWord := goodIn_r _ [13, 14, 15, 16, 17, 18, 19, 20, 21, 22, 23, 24, 25, 26, 27, 28, 29, 30, 31, 32, 33, 34, 35, 36, 37, 38, 39, 40, 41, 42, 43, 44, 45, 46, 47, 48, 49, 50, 51, 52, 53, 54, 55, 56, 57, 58, 59, 60, 61, 62, 63, 64, 65, 5, 66, 7, 2, 3, 4, 6, 8, 9, 86, 87, 88, 89, 90, 91, 92] (by decide +kernel) (by decide +kernel)
set_option maxRecDepth 20000 in
theorem gX3_readOrder_X3_readWord : GoodIn wsX3_readOrder (wsV RX3 42 RX3 yX3_readWord wsX3_readWord) := goodIn_app (goodIn_of _ (by decide +kernel)) ggX3_readOrder_X3_readWord
set_option maxRecDepth 20000 in
theorem ggX3_readOrder_X3_readWho : GoodIn wsX3_readOrder wsX3_readWho := goodIn_r _ [70, 71, 7, 2, 3, 4, 5, 6, 8, 9, 86, 87, 88, 89, 90, 91, 92] (by decide +kernel) (by decide +kernel)
set_option maxRecDepth 20000 in
theorem gX3_readOrder_X3_readWho : GoodIn wsX3_readOrder (wsV RX3 46 RX3 yX3_readWho wsX3_readWho) := goodIn_app (goodIn_of _ (by decide +kernel)) ggX3_readOrder_X3_readWho
set_option maxRecDepth 20000 in
theorem ggX3_readOrder_X3_readMark : GoodIn wsX3_readOrder wsX3_readMark := goodIn_r _ [66, 7, 2, 3, 4, 5, 6, 8, 9, 86, 87, 88, 89, 90, 91, 92] (by decide +kernel) (by decide +kernel)
set_option maxRecDepth 20000 in
theorem gX3_readOrder_X3_readMark : GoodIn wsX3_readOrder (wsV RX3 29 RX3 yX3_readMark wsX3_readMark) := goodIn_app (goodIn_of _ (by decide +kernel)) ggX3_readOrder_X3_readMark
set_option maxRecDepth 20000 in
theorem ggX3_readOrder_X3_readAmount : GoodIn wsX3_readOrder wsX3_readAmount := goodIn_r _ [75, 76, 77, 78, 79, 5, 80, 7, 2, 3, 4, 6, 8, 9, 86, 87, 88, 89, 90, 91, 92] (by decide +kernel) (by decide +kernel)
set_option maxRecDepth 20000 in
theorem gX3_readOrder_X3_readAmount : GoodIn wsX3_readOrder (wsV RX3 49 RX3 yX3_readAmount wsX3_readAmount) := goodIn_app (goodIn_of _ (by decide +kernel)) ggX3_readOrder_X3_readAmount
set_option maxRecDepth 20000 in
theorem ggX3_readOrder_X3_readWeeks : GoodIn wsX3_readOrder wsX3_readWeeks := goodIn_r _ [84, 85, 77, 78, 79, 5, 80, 7, 2, 3, 4, 6, 8, 9, 86, 87, 88, 89, 90, 91, 92] (by decide +kernel) (by decide +kernel)
set_option maxRecDepth 20000 in
theorem gX3_readOrder_X3_readWeeks : GoodIn wsX3_readOrder (wsV RX3 53 RX3 yX3_readWeeks wsX3_readWeeks) := goodIn_app (goodIn_of _ (by decide +kernel)) ggX3_readOrder_X3_readWeeks
theorem dX3_readOrder_0 : decode cX3_readOrder 0 = .ok (.aload_n 0, 1) := by decide +kernel
theorem dX3_readOrder_1 : decode cX3_readOrder 1 = .ok (.invokevirtual 33, 3) := by decide +kernel
theorem dX3_readOrder_4 : decode cX3_readOrder 4 = .ok (.lookupswitch 270 #[(97, 124), (99, 257), (104, 198), (108, 60), (112, 151), (119, 245)], 60) := by decide +kernel
theorem dX3_readOrder_64 : decode cX3_readOrder 64 = .ok (.aload_n 0, 1) := by decide +kernel
theorem dX3_readOrder_65 : decode cX3_readOrder 65 = .ok (.iconst 1, 1) := by decide +kernel
theorem dX3_readOrder_66 : decode cX3_readOrder 66 = .ok (.putfield 37, 3) := by decide +kernel
theorem dX3_readOrder_69 : decode cX3_readOrder 69 = .ok (.aload_n 0, 1) := by decide +kernel
theorem dX3_readOrder_70 : decode cX3_readOrder 70 = .ok (.ldc 40, 2) := by decide +kernel
theorem dX3_readOrder_72 : decode cX3_readOrder 72 = .ok (.invokevirtual 42, 3) := by decide +kernel
theorem dX3_readOrder_75 : decode cX3_readOrder 75 = .ok (.ifCond .eq 51, 3) := by decide +kernel
theorem dX3_readOrder_78 : decode cX3_readOrder 78 = .ok (.aload_n 0, 1) := by decide +kernel
theorem dX3_readOrder_79 : decode cX3_readOrder 79 = .ok (.invokevirtual 46, 3) := by decide +kernel
theorem dX3_readOrder_82 : decode cX3_readOrder 82 = .ok (.ifCond .eq 44, 3) := by decide +kernel
theorem dX3_readOrder_85 : decode cX3_readOrder 85 = .ok (.aload_n 0, 1) := by decide +kernel
theorem dX3_readOrder_86 : decode cX3_readOrder 86 = .ok (.bipush 42, 2) := by decide +kernel
theorem dX3_readOrder_88 : decode cX3_readOrder 88 = .ok (.invokevirtual 29, 3) := by decide +kernel
theorem dX3_readOrder_91 : decode cX3_readOrder 91 = .ok (.ifCond .eq 35, 3) := by decide +kernel
theorem dX3_readOrder_94 : decode cX3_readOrder 94 = .ok (.aload_n 0, 1) := by decide +kernel
theorem dX3_readOrder_95 : decode cX3_readOrder 95 = .ok (.bipush 10, 2) := by decide +kernel
theorem dX3_readOrder_97 : decode cX3_readOrder 97 = .ok (.sipush 2000, 3) := by decide +kernel
theorem dX3_readOrder_100 : decode cX3_readOrder 100 = .ok (.invokevirtual 49, 3) := by decide +kernel
theorem dX3_readOrder_103 : decode cX3_readOrder 103 = .ok (.ifCond .eq 23, 3) := by decide +kernel
theorem dX3_readOrder_106 : decode cX3_readOrder 106 = .ok (.aload_n 0, 1) := by decide +kernel
theorem dX3_readOrder_107 : decode cX3_readOrder 107 = .ok (.bipush 47, 2) := by decide +kernel
theorem dX3_readOrder_109 : decode cX3_readOrder 109 = .ok (.invokevirtual 29, 3) := by decide +kernel
theorem dX3_readOrder_112 : decode cX3_readOrder 112 = .ok (.ifCond .eq 14, 3) := by decide +kernel
theorem dX3_readOrder_115 : decode cX3_readOrder 115 = .ok (.aload_n 0, 1) := by decide +kernel
theorem dX3_readOrder_116 : decode cX3_readOrder 116 = .ok (.invokevirtual 53, 3) := by decide +kernel
theorem dX3_readOrder_119 : decode cX3_readOrder 119 = .ok (.ifCond .eq 7, 3) := by decide +kernel
theorem dX3_readOrder_122 : decode cX3_readOrder 122 = .ok (.iconst 1, 1) := by decide +kernel
theorem dX3_readOrder_123 : decode cX3_readOrder 123 = .ok (.goto 4, 3) := by decide +kernel
theorem dX3_readOrder_126 : decode cX3_readOrder 126 = .ok (.iconst 0, 1) := by decide +kernel
theorem dX3_readOrder_127 : decode cX3_readOrder 127 = .ok (.ireturn, 1) := by decide +kernel
theorem dX3_readOrder_128 : decode cX3_readOrder 128 = .ok (.aload_n 0, 1) := by decide +kernel
theorem dX3_readOrder_129 : decode cX3_readOrder 129 = .ok (.iconst 2, 1) := by decide +kernel
theorem dX3_readOrder_130 : decode cX3_readOrder 130 = .ok (.putfield 37, 3) := by decide +kernel
theorem dX3_readOrder_133 : decode cX3_readOrder 133 = .ok (.aload_n 0, 1) := by decide +kernel
theorem dX3_readOrder_134 : decode cX3_readOrder 134 = .ok (.ldc 56, 2) := by decide +kernel
theorem dX3_readOrder_136 : decode cX3_readOrder 136 = .ok (.invokevirtual 42, 3) := by decide +kernel
theorem dX3_readOrder_139 : decode cX3_readOrder 139 = .ok (.ifCond .eq 14, 3) := by decide +kernel
theorem dX3_readOrder_142 : decode cX3_readOrder 142 = .ok (.aload_n 0, 1) := by decide +kernel
theorem dX3_readOrder_143 : decode cX3_readOrder 143 = .ok (.invokevirtual 46, 3) := by decide +kernel
theorem dX3_readOrder_146 : decode cX3_readOrder 146 = .ok (.ifCond .eq 7, 3) := by decide +kernel
theorem dX3_readOrder_149 : decode cX3_readOrder 149 = .ok (.iconst 1, 1) := by decide +kernel
theorem dX3_readOrder_150 : decode cX3_readOrder 150 = .ok (.goto 4, 3) := by decide +kernel
theorem dX3_readOrder_153 : decode cX3_readOrder 153 = .ok (.iconst 0, 1) := by decide +kernel
theorem dX3_readOrder_154 : decode cX3_readOrder 154 = .ok (.ireturn, 1) := by decide +kernel
theorem dX3_readOrder_155 : decode cX3_readOrder 155 = .ok (.aload_n 0, 1) := by decide +kernel
theorem dX3_readOrder_156 : decode cX3_readOrder 156 = .ok (.iconst 3, 1) := by decide +kernel
theorem dX3_readOrder_157 : decode cX3_readOrder 157 = .ok (.putfield 37, 3) := by decide +kernel
theorem dX3_readOrder_160 : decode cX3_readOrder 160 = .ok (.aload_n 0, 1) := by decide +kernel
theorem dX3_readOrder_161 : decode cX3_readOrder 161 = .ok (.ldc 58, 2) := by decide +kernel
theorem dX3_readOrder_163 : decode cX3_readOrder 163 = .ok (.invokevirtual 42, 3) := by decide +kernel
theorem dX3_readOrder_166 : decode cX3_readOrder 166 = .ok (.ifCond .eq 34, 3) := by decide +kernel
theorem dX3_readOrder_169 : decode cX3_readOrder 169 = .ok (.aload_n 0, 1) := by decide +kernel
theorem dX3_readOrder_170 : decode cX3_readOrder 170 = .ok (.invokevirtual 46, 3) := by decide +kernel
theorem dX3_readOrder_173 : decode cX3_readOrder 173 = .ok (.ifCond .eq 27, 3) := by decide +kernel
theorem dX3_readOrder_176 : decode cX3_readOrder 176 = .ok (.aload_n 0, 1) := by decide +kernel
theorem dX3_readOrder_177 : decode cX3_readOrder 177 = .ok (.bipush 42, 2) := by decide +kernel
theorem dX3_readOrder_179 : decode cX3_readOrder 179 = .ok (.invokevirtual 29, 3) := by decide +kernel
theorem dX3_readOrder_182 : decode cX3_readOrder 182 = .ok (.ifCond .eq 18, 3) := by decide +kernel
theorem dX3_readOrder_185 : decode cX3_readOrder 185 = .ok (.aload_n 0, 1) := by decide +kernel
theorem dX3_readOrder_186 : decode cX3_readOrder 186 = .ok (.iconst 1, 1) := by decide +kernel
theorem dX3_readOrder_187 : decode cX3_readOrder 187 = .ok (.sipush 2000, 3) := by decide +kernel
theorem dX3_readOrder_190 : decode cX3_readOrder 190 = .ok (.invokevirtual 49, 3) := by decide +kernel
theorem dX3_readOrder_193 : decode cX3_readOrder 193 = .ok (.ifCond .eq 7, 3) := by decide +kernel
theorem dX3_readOrder_196 : decode cX3_readOrder 196 = .ok (.iconst 1, 1) := by decide +kernel
theorem dX3_readOrder_197 : decode cX3_readOrder 197 = .ok (.goto 4, 3) := by decide +kernel
theorem dX3_readOrder_200 : decode cX3_readOrder 200 = .ok (.iconst 0, 1) := by decide +kernel
theorem dX3_readOrder_201 : decode cX3_readOrder 201 = .ok (.ireturn, 1) := by decide +kernel
theorem dX3_readOrder_202 : decode cX3_readOrder 202 = .ok (.aload_n 0, 1) := by decide +kernel
theorem dX3_readOrder_203 : decode cX3_readOrder 203 = .ok (.iconst 4, 1) := by decide +kernel
theorem dX3_readOrder_204 : decode cX3_readOrder 204 = .ok (.putfield 37, 3) := by decide +kernel
theorem dX3_readOrder_207 : decode cX3_readOrder 207 = .ok (.aload_n 0, 1) := by decide +kernel
theorem dX3_readOrder_208 : decode cX3_readOrder 208 = .ok (.ldc 60, 2) := by decide +kernel
theorem dX3_readOrder_210 : decode cX3_readOrder 210 = .ok (.invokevirtual 42, 3) := by decide +kernel
theorem dX3_readOrder_213 : decode cX3_readOrder 213 = .ok (.ifCond .eq 34, 3) := by decide +kernel
theorem dX3_readOrder_216 : decode cX3_readOrder 216 = .ok (.aload_n 0, 1) := by decide +kernel
theorem dX3_readOrder_217 : decode cX3_readOrder 217 = .ok (.invokevirtual 46, 3) := by decide +kernel
theorem dX3_readOrder_220 : decode cX3_readOrder 220 = .ok (.ifCond .eq 27, 3) := by decide +kernel
theorem dX3_readOrder_223 : decode cX3_readOrder 223 = .ok (.aload_n 0, 1) := by decide +kernel
theorem dX3_readOrder_224 : decode cX3_readOrder 224 = .ok (.bipush 42, 2) := by decide +kernel
theorem dX3_readOrder_226 : decode cX3_readOrder 226 = .ok (.invokevirtual 29, 3) := by decide +kernel
theorem dX3_readOrder_229 : decode cX3_readOrder 229 = .ok (.ifCond .eq 18, 3) := by decide +kernel
theorem dX3_readOrder_232 : decode cX3_readOrder 232 = .ok (.aload_n 0, 1) := by decide +kernel
theorem dX3_readOrder_233 : decode cX3_readOrder 233 = .ok (.iconst 1, 1) := by decide +kernel
theorem dX3_readOrder_234 : decode cX3_readOrder 234 = .ok (.sipush 2000, 3) := by decide +kernel
theorem dX3_readOrder_237 : decode cX3_readOrder 237 = .ok (.invokevirtual 49, 3) := by decide +kernel
theorem dX3_readOrder_240 : decode cX3_readOrder 240 = .ok (.ifCond .eq 7, 3) := by decide +kernel
theorem dX3_readOrder_243 : decode cX3_readOrder 243 = .ok (.iconst 1, 1) := by decide +kernel
theorem dX3_readOrder_244 : decode cX3_readOrder 244 = .ok (.goto 4, 3) := by decide +kernel
theorem dX3_readOrder_247 : decode cX3_readOrder 247 = .ok (.iconst 0, 1) := by decide +kernel
theorem dX3_readOrder_248 : decode cX3_readOrder 248 = .ok (.ireturn, 1) := by decide +kernel
theorem dX3_readOrder_249 : decode cX3_readOrder 249 = .ok (.aload_n 0, 1) := by decide +kernel
theorem dX3_readOrder_250 : decode cX3_readOrder 250 = .ok (.iconst 5, 1) := by decide +kernel
theorem dX3_readOrder_251 : decode cX3_readOrder 251 = .ok (.putfield 37, 3) := by decide +kernel
theorem dX3_readOrder_254 : decode cX3_readOrder 254 = .ok (.aload_n 0, 1) := by decide +kernel
theorem dX3_readOrder_255 : decode cX3_readOrder 255 = .ok (.ldc 62, 2) := by decide +kernel
theorem dX3_readOrder_257 : decode cX3_readOrder 257 = .ok (.invokevirtual 42, 3) := by decide +kernel
theorem dX3_readOrder_260 : decode cX3_readOrder 260 = .ok (.ireturn, 1) := by decide +kernel
theorem dX3_readOrder_261 : decode cX3_readOrder 261 = .ok (.aload_n 0, 1) := by decide +kernel
theorem dX3_readOrder_262 : decode cX3_readOrder 262 = .ok (.bipush 6, 2) := by decide +kernel
theorem dX3_readOrder_264 : decode cX3_readOrder 264 = .ok (.putfield 37, 3) := by decide +kernel
theorem dX3_readOrder_267 : decode cX3_readOrder 267 = .ok (.aload_n 0, 1) := by decide +kernel
theorem dX3_readOrder_268 : decode cX3_readOrder 268 = .ok (.ldc 64, 2) := by decide +kernel
theorem dX3_readOrder_270 : decode cX3_readOrder 270 = .ok (.invokevirtual 42, 3) := by decide +kernel
theorem dX3_readOrder_273 : decode cX3_readOrder 273 = .ok (.ireturn, 1) := by decide +kernel
theorem dX3_readOrder_274 : decode cX3_readOrder 274 = .ok (.iconst 0, 1) := by decide +kernel
theorem dX3_readOrder_275 : decode cX3_readOrder 275 = .ok (.ireturn, 1) := by decide +kernel
theorem dX3_next_0 : decode cX3_next 0 = .ok (.aload_n 0, 1) := by decide +kernel
theorem dX3_next_1 : decode cX3_next 1 = .ok (.getfield 19, 3) := by decide +kernel
theorem dX3_next_4 : decode cX3_next 4 = .ok (.ifCond .lt 35, 3) := by decide +kernel
theorem dX3_next_7 : decode cX3_next 7 = .ok (.aload_n 0, 1) := by decide +kernel
theorem dX3_next_8 : decode cX3_next 8 = .ok (.getfield 19, 3) := by decide +kernel
theorem dX3_next_11 : decode cX3_next 11 = .ok (.aload_n 0, 1) := by decide +kernel
theorem dX3_next_12 : decode cX3_next 12 = .ok (.getfield 15, 3) := by decide +kernel
theorem dX3_next_15 : decode cX3_next 15 = .ok (.if_icmp .ge 24, 3) := by decide +kernel
theorem dX3_next_18 : decode cX3_next 18 = .ok (.aload_n 0, 1) := by decide +kernel
theorem dX3_next_19 : decode cX3_next 19 = .ok (.getfield 19, 3) := by decide +kernel
theorem dX3_next_22 : decode cX3_next 22 = .ok (.bipush 60, 2) := by decide +kernel
theorem dX3_next_24 : decode cX3_next 24 = .ok (.if_icmp .ge 15, 3) := by decide +kernel
theorem dX3_next_27 : decode cX3_next 27 = .ok (.aload_n 0, 1) := by decide +kernel
theorem dX3_next_28 : decode cX3_next 28 = .ok (.getfield 9, 3) := by decide +kernel
theorem dX3_next_31 : decode cX3_next 31 = .ok (.aload_n 0, 1) := by decide +kernel
theorem dX3_next_32 : decode cX3_next 32 = .ok (.getfield 19, 3) := by decide +kernel
theorem dX3_next_35 : decode cX3_next 35 = .ok (.caload, 1) := by decide +kernel
theorem dX3_next_36 : decode cX3_next 36 = .ok (.goto 4, 3) := by decide +kernel
theorem dX3_next_39 : decode cX3_next 39 = .ok (.iconst (-1), 1) := by decide +kernel
theorem dX3_next_40 : decode cX3_next 40 = .ok (.ireturn, 1) := by decide +kernel
set_option maxRecDepth 20000 in
theorem ggX3_readMark_X3_next : GoodIn wsX3_readMark wsX3_next := goodIn_r _ [6, 1, 7, 8, 9, 10, 11, 12, 13, 14, 15] (by decide +kernel) (by decide +kernel)
set_option maxRecDepth 20000 in
theorem gX3_readMark_X3_next : GoodIn wsX3_readMark (wsV RX3 33 RX3 yX3_next wsX3_next) := goodIn_app (goodIn_of _ (by decide +kernel)) ggX3_readMark_X3_next
theorem dX3_readMark_0 : decode cX3_readMark 0 = .ok (.aload_n 0, 1) := by decide +kernel
theorem dX3_readMark_1 : decode cX3_readMark 1 = .ok (.invokevirtual 33, 3) := by decide +kernel
theorem dX3_readMark_4 : decode cX3_readMark 4 = .ok (.iload_n 1, 1) := by decide +kernel
theorem dX3_readMark_5 : decode cX3_readMark 5 = .ok (.if_icmp .ne 7, 3) := by decide +kernel
theorem dX3_readMark_8 : decode cX3_readMark 8 = .ok (.iconst 1, 1) := by decide +kernel
theorem dX3_readMark_9 : decode cX3_readMark 9 = .ok (.goto 4, 3) := by decide +kernel
theorem dX3_readMark_12 : decode cX3_readMark 12 = .ok (.iconst 0, 1) := by decide +kernel
theorem dX3_readMark_13 : decode cX3_readMark 13 = .ok (.istore_n 2, 1) := by decide +kernel
theorem dX3_readMark_14 : decode cX3_readMark 14 = .ok (.iload_n 2, 1) := by decide +kernel
theorem dX3_readMark_15 : decode cX3_readMark 15 = .ok (.ifCond .eq 13, 3) := by decide +kernel
theorem dX3_readMark_18 : decode cX3_readMark 18 = .ok (.aload_n 0, 1) := by decide +kernel
theorem dX3_readMark_19 : decode cX3_readMark 19 = .ok (.dup, 1) := by decide +kernel
theorem dX3_readMark_20 : decode cX3_readMark 20 = .ok (.getfield 19, 3) := by decide +kernel
theorem dX3_readMark_23 : decode cX3_readMark 23 = .ok (.iconst 1, 1) := by decide +kernel
theorem dX3_readMark_24 : decode cX3_readMark 24 = .ok (.iadd, 1) := by decide +kernel
theorem dX3_readMark_25 : decode cX3_readMark 25 = .ok (.putfield 19, 3) := by decide +kernel
theorem dX3_readMark_28 : decode cX3_readMark 28 = .ok (.iload_n 2, 1) := by decide +kernel
theorem dX3_readMark_29 : decode cX3_readMark 29 = .ok (.ireturn, 1) := by decide +kernel
set_option maxRecDepth 20000 in
theorem ggX3_readWord_J0_length_8abf5 : GoodIn wsX3_readWord wsJ0_length_8abf5 := goodIn_r _ [5, 6, 7, 8, 9, 4, 10, 11, 12] (by decide +kernel) (by decide +kernel)
set_option maxRecDepth 20000 in
theorem gX3_readWord_J0_length_8abf5 : GoodIn wsX3_readWord (wsV RX3 66 RJ0 yJ0_length_8abf5 wsJ0_length_8abf5) := goodIn_app (goodIn_of _ (by decide +kernel)) ggX3_readWord_J0_length_8abf5
set_option maxRecDepth 20000 in
theorem ggX3_readWord_J0_charAt_5068e : GoodIn wsX3_readWord wsJ0_charAt_5068e := goodIn_r _ [16, 6, 17, 18, 19, 4, 20, 11, 12, 21, 22, 23, 24, 25, 26, 27, 28, 29, 30, 31, 32, 33, 34, 35, 36, 37, 38, 39, 40, 41, 42, 43, 44, 45, 46, 47, 48, 49] (by decide +kernel) (by decide +kernel)
set_option maxRecDepth 20000 in
theorem gX3_readWord_J0_charAt_5068e : GoodIn wsX3_readWord (wsV RX3 70 RJ0 yJ0_charAt_5068e wsJ0_charAt_5068e) := goodIn_app (goodIn_of _ (by decide +kernel)) ggX3_readWord_J0_charAt_5068e
set_option maxRecDepth 20000 in
theorem ggX3_readWord_X3_readMark : GoodIn wsX3_readWord wsX3_readMark := goodIn_r _ [54, 55, 56, 57, 58, 53, 59, 60, 61, 62, 63, 64, 65, 66, 67, 68] (by decide +kernel) (by decide +kernel)
set_option maxRecDepth 20000 in
theorem gX3_readWord_X3_readMark : GoodIn wsX3_readWord (wsV RX3 29 RX3 yX3_readMark wsX3_readMark) := goodIn_app (goodIn_of _ (by decide +kernel)) ggX3_readWord_X3_readMark
theorem dX3_readWord_0 : decode cX3_readWord 0 = .ok (.iconst 0, 1) := by decide +kernel
theorem dX3_readWord_1 : decode cX3_readWord 1 = .ok (.istore_n 2, 1) := by decide +kernel
theorem dX3_readWord_2 : decode cX3_readWord 2 = .ok (.iload_n 2, 1) := by decide +kernel
theorem dX3_readWord_3 : decode cX3_readWord 3 = .ok (.aload_n 1, 1) := by decide +kernel
theorem dX3_readWord_4 : decode cX3_readWord 4 = .ok (.invokevirtual 66, 3) := by decide +kernel
theorem dX3_readWord_7 : decode cX3_readWord 7 = .ok (.if_icmp .ge 23, 3) := by decide +kernel
theorem dX3_readWord_10 : decode cX3_readWord 10 = .ok (.aload_n 0, 1) := by decide +kernel
theorem dX3_readWord_11 : decode cX3_readWord 11 = .ok (.aload_n 1, 1) := by decide +kernel
theorem dX3_readWord_12 : decode cX3_readWord 12 = .ok (.iload_n 2, 1) := by decide +kernel
theorem dX3_readWord_13 : decode cX3_readWord 13 = .ok (.invokevirtual 70, 3) := by decide +kernel
theorem dX3_readWord_16 : decode cX3_readWord 16 = .ok (.invokevirtual 29, 3) := by decide +kernel
theorem dX3_readWord_19 : decode cX3_readWord 19 = .ok (.ifCond .ne 5, 3) := by decide +kernel
theorem dX3_readWord_22 : decode cX3_readWord 22 = .ok (.iconst 0, 1) := by decide +kernel
theorem dX3_readWord_23 : decode cX3_readWord 23 = .ok (.ireturn, 1) := by decide +kernel
theorem dX3_readWord_24 : decode cX3_readWord 24 = .ok (.iinc 2 1, 3) := by decide +kernel
theorem dX3_readWord_27 : decode cX3_readWord 27 = .ok (.goto (-25), 3) := by decide +kernel
theorem dX3_readWord_30 : decode cX3_readWord 30 = .ok (.iconst 1, 1) := by decide +kernel
theorem dX3_readWord_31 : decode cX3_readWord 31 = .ok (.ireturn, 1) := by decide +kernel
set_option maxRecDepth 20000 in
theorem ggX3_readWho_X3_next : GoodIn wsX3_readWho wsX3_next := goodIn_r _ [7, 2, 8, 9, 10, 11, 12, 13, 14, 15, 16] (by decide +kernel) (by decide +kernel)
set_option maxRecDepth 20000 in
theorem gX3_readWho_X3_next : GoodIn wsX3_readWho (wsV RX3 33 RX3 yX3_next wsX3_next) := goodIn_app (goodIn_of _ (by decide +kernel)) ggX3_readWho_X3_next
theorem dX3_readWho_0 : decode cX3_readWho 0 = .ok (.aload_n 0, 1) := by decide +kernel
theorem dX3_readWho_1 : decode cX3_readWho 1 = .ok (.aload_n 0, 1) := by decide +kernel
theorem dX3_readWho_2 : decode cX3_readWho 2 = .ok (.invokevirtual 33, 3) := by decide +kernel
theorem dX3_readWho_5 : decode cX3_readWho 5 = .ok (.bipush 48, 2) := by decide +kernel
theorem dX3_readWho_7 : decode cX3_readWho 7 = .ok (.isub, 1) := by decide +kernel
theorem dX3_readWho_8 : decode cX3_readWho 8 = .ok (.putfield 74, 3) := by decide +kernel
theorem dX3_readWho_11 : decode cX3_readWho 11 = .ok (.aload_n 0, 1) := by decide +kernel
theorem dX3_readWho_12 : decode cX3_readWho 12 = .ok (.getfield 74, 3) := by decide +kernel
theorem dX3_readWho_15 : decode cX3_readWho 15 = .ok (.ifCond .lt 16, 3) := by decide +kernel
theorem dX3_readWho_18 : decode cX3_readWho 18 = .ok (.aload_n 0, 1) := by decide +kernel
theorem dX3_readWho_19 : decode cX3_readWho 19 = .ok (.getfield 74, 3) := by decide +kernel
theorem dX3_readWho_22 : decode cX3_readWho 22 = .ok (.bipush 8, 2) := by decide +kernel
theorem dX3_readWho_24 : decode cX3_readWho 24 = .ok (.if_icmp .ge 7, 3) := by decide +kernel
theorem dX3_readWho_27 : decode cX3_readWho 27 = .ok (.iconst 1, 1) := by decide +kernel
theorem dX3_readWho_28 : decode cX3_readWho 28 = .ok (.goto 4, 3) := by decide +kernel
theorem dX3_readWho_31 : decode cX3_readWho 31 = .ok (.iconst 0, 1) := by decide +kernel
theorem dX3_readWho_32 : decode cX3_readWho 32 = .ok (.istore_n 1, 1) := by decide +kernel
theorem dX3_readWho_33 : decode cX3_readWho 33 = .ok (.iload_n 1, 1) := by decide +kernel
theorem dX3_readWho_34 : decode cX3_readWho 34 = .ok (.ifCond .eq 13, 3) := by decide +kernel
theorem dX3_readWho_37 : decode cX3_readWho 37 = .ok (.aload_n 0, 1) := by decide +kernel
theorem dX3_readWho_38 : decode cX3_readWho 38 = .ok (.dup, 1) := by decide +kernel
theorem dX3_readWho_39 : decode cX3_readWho 39 = .ok (.getfield 19, 3) := by decide +kernel
theorem dX3_readWho_42 : decode cX3_readWho 42 = .ok (.iconst 1, 1) := by decide +kernel
theorem dX3_readWho_43 : decode cX3_readWho 43 = .ok (.iadd, 1) := by decide +kernel
theorem dX3_readWho_44 : decode cX3_readWho 44 = .ok (.putfield 19, 3) := by decide +kernel
theorem dX3_readWho_47 : decode cX3_readWho 47 = .ok (.iload_n 1, 1) := by decide +kernel
theorem dX3_readWho_48 : decode cX3_readWho 48 = .ok (.ireturn, 1) := by decide +kernel
set_option maxRecDepth 20000 in
theorem ggX3_readAmount_X3_readNumber : GoodIn wsX3_readAmount wsX3_readNumber := goodIn_r _ [6, 7, 8, 9, 10, 5, 11, 12, 13, 14, 15, 16, 17, 18, 19, 20] (by decide +kernel) (by decide +kernel)
set_option maxRecDepth 20000 in
theorem gX3_readAmount_X3_readNumber : GoodIn wsX3_readAmount (wsV RX3 77 RX3 yX3_readNumber wsX3_readNumber) := goodIn_app (goodIn_of _ (by decide +kernel)) ggX3_readAmount_X3_readNumber
theorem dX3_readAmount_0 : decode cX3_readAmount 0 = .ok (.aload_n 0, 1) := by decide +kernel
theorem dX3_readAmount_1 : decode cX3_readAmount 1 = .ok (.aload_n 0, 1) := by decide +kernel
theorem dX3_readAmount_2 : decode cX3_readAmount 2 = .ok (.iload_n 2, 1) := by decide +kernel
theorem dX3_readAmount_3 : decode cX3_readAmount 3 = .ok (.invokevirtual 77, 3) := by decide +kernel
theorem dX3_readAmount_6 : decode cX3_readAmount 6 = .ok (.putfield 81, 3) := by decide +kernel
theorem dX3_readAmount_9 : decode cX3_readAmount 9 = .ok (.aload_n 0, 1) := by decide +kernel
theorem dX3_readAmount_10 : decode cX3_readAmount 10 = .ok (.getfield 81, 3) := by decide +kernel
theorem dX3_readAmount_13 : decode cX3_readAmount 13 = .ok (.iload_n 1, 1) := by decide +kernel
theorem dX3_readAmount_14 : decode cX3_readAmount 14 = .ok (.if_icmp .lt 7, 3) := by decide +kernel
theorem dX3_readAmount_17 : decode cX3_readAmount 17 = .ok (.iconst 1, 1) := by decide +kernel
theorem dX3_readAmount_18 : decode cX3_readAmount 18 = .ok (.goto 4, 3) := by decide +kernel
theorem dX3_readAmount_21 : decode cX3_readAmount 21 = .ok (.iconst 0, 1) := by decide +kernel
theorem dX3_readAmount_22 : decode cX3_readAmount 22 = .ok (.ireturn, 1) := by decide +kernel
set_option maxRecDepth 20000 in
theorem ggX3_readWeeks_X3_readNumber : GoodIn wsX3_readWeeks wsX3_readNumber := goodIn_r _ [6, 7, 8, 9, 10, 5, 11, 12, 13, 14, 15, 16, 17, 18, 19, 20] (by decide +kernel) (by decide +kernel)
set_option maxRecDepth 20000 in
theorem gX3_readWeeks_X3_readNumber : GoodIn wsX3_readWeeks (wsV RX3 77 RX3 yX3_readNumber wsX3_readNumber) := goodIn_app (goodIn_of _ (by decide +kernel)) ggX3_readWeeks_X3_readNumber
theorem dX3_readWeeks_0 : decode cX3_readWeeks 0 = .ok (.aload_n 0, 1) := by decide +kernel
theorem dX3_readWeeks_1 : decode cX3_readWeeks 1 = .ok (.aload_n 0, 1) := by decide +kernel
theorem dX3_readWeeks_2 : decode cX3_readWeeks 2 = .ok (.bipush 52, 2) := by decide +kernel
theorem dX3_readWeeks_4 : decode cX3_readWeeks 4 = .ok (.invokevirtual 77, 3) := by decide +kernel
theorem dX3_readWeeks_7 : decode cX3_readWeeks 7 = .ok (.putfield 84, 3) := by decide +kernel
theorem dX3_readWeeks_10 : decode cX3_readWeeks 10 = .ok (.aload_n 0, 1) := by decide +kernel
theorem dX3_readWeeks_11 : decode cX3_readWeeks 11 = .ok (.getfield 84, 3) := by decide +kernel
theorem dX3_readWeeks_14 : decode cX3_readWeeks 14 = .ok (.iconst 1, 1) := by decide +kernel
theorem dX3_readWeeks_15 : decode cX3_readWeeks 15 = .ok (.if_icmp .lt 7, 3) := by decide +kernel
theorem dX3_readWeeks_18 : decode cX3_readWeeks 18 = .ok (.iconst 1, 1) := by decide +kernel
theorem dX3_readWeeks_19 : decode cX3_readWeeks 19 = .ok (.goto 4, 3) := by decide +kernel
theorem dX3_readWeeks_22 : decode cX3_readWeeks 22 = .ok (.iconst 0, 1) := by decide +kernel
theorem dX3_readWeeks_23 : decode cX3_readWeeks 23 = .ok (.ireturn, 1) := by decide +kernel
set_option maxRecDepth 20000 in
theorem ggX3_readNumber_X3_next : GoodIn wsX3_readNumber wsX3_next := goodIn_r _ [6, 1, 7, 8, 9, 10, 11, 12, 13, 14, 15] (by decide +kernel) (by decide +kernel)
set_option maxRecDepth 20000 in
theorem gX3_readNumber_X3_next : GoodIn wsX3_readNumber (wsV RX3 33 RX3 yX3_next wsX3_next) := goodIn_app (goodIn_of _ (by decide +kernel)) ggX3_readNumber_X3_next
theorem dX3_readNumber_0 : decode cX3_readNumber 0 = .ok (.iconst 0, 1) := by decide +kernel
theorem dX3_readNumber_1 : decode cX3_readNumber 1 = .ok (.istore_n 2, 1) := by decide +kernel
theorem dX3_readNumber_2 : decode cX3_readNumber 2 = .ok (.iconst 0, 1) := by decide +kernel
theorem dX3_readNumber_3 : decode cX3_readNumber 3 = .ok (.istore_n 3, 1) := by decide +kernel
theorem dX3_readNumber_4 : decode cX3_readNumber 4 = .ok (.iload_n 3, 1) := by decide +kernel
theorem dX3_readNumber_5 : decode cX3_readNumber 5 = .ok (.bipush 60, 2) := by decide +kernel
theorem dX3_readNumber_7 : decode cX3_readNumber 7 = .ok (.if_icmp .ge 67, 3) := by decide +kernel
theorem dX3_readNumber_10 : decode cX3_readNumber 10 = .ok (.aload_n 0, 1) := by decide +kernel
theorem dX3_readNumber_11 : decode cX3_readNumber 11 = .ok (.invokevirtual 33, 3) := by decide +kernel
theorem dX3_readNumber_14 : decode cX3_readNumber 14 = .ok (.bipush 48, 2) := by decide +kernel
theorem dX3_readNumber_16 : decode cX3_readNumber 16 = .ok (.isub, 1) := by decide +kernel
theorem dX3_readNumber_17 : decode cX3_readNumber 17 = .ok (.istore 4, 2) := by decide +kernel
theorem dX3_readNumber_19 : decode cX3_readNumber 19 = .ok (.iload_n 2, 1) := by decide +kernel
theorem dX3_readNumber_20 : decode cX3_readNumber 20 = .ok (.bipush 10, 2) := by decide +kernel
theorem dX3_readNumber_22 : decode cX3_readNumber 22 = .ok (.imul, 1) := by decide +kernel
theorem dX3_readNumber_23 : decode cX3_readNumber 23 = .ok (.iload 4, 2) := by decide +kernel
theorem dX3_readNumber_25 : decode cX3_readNumber 25 = .ok (.iadd, 1) := by decide +kernel
theorem dX3_readNumber_26 : decode cX3_readNumber 26 = .ok (.istore 5, 2) := by decide +kernel
theorem dX3_readNumber_28 : decode cX3_readNumber 28 = .ok (.iload 4, 2) := by decide +kernel
theorem dX3_readNumber_30 : decode cX3_readNumber 30 = .ok (.ifCond .lt 44, 3) := by decide +kernel
theorem dX3_readNumber_33 : decode cX3_readNumber 33 = .ok (.iload 4, 2) := by decide +kernel
theorem dX3_readNumber_35 : decode cX3_readNumber 35 = .ok (.bipush 9, 2) := by decide +kernel
theorem dX3_readNumber_37 : decode cX3_readNumber 37 = .ok (.if_icmp .gt 37, 3) := by decide +kernel
theorem dX3_readNumber_40 : decode cX3_readNumber 40 = .ok (.iload 5, 2) := by decide +kernel
theorem dX3_readNumber_42 : decode cX3_readNumber 42 = .ok (.iconst 1, 1) := by decide +kernel
theorem dX3_readNumber_43 : decode cX3_readNumber 43 = .ok (.if_icmp .lt 31, 3) := by decide +kernel
theorem dX3_readNumber_46 : decode cX3_readNumber 46 = .ok (.iload 5, 2) := by decide +kernel
theorem dX3_readNumber_48 : decode cX3_readNumber 48 = .ok (.iload_n 1, 1) := by decide +kernel
theorem dX3_readNumber_49 : decode cX3_readNumber 49 = .ok (.if_icmp .le 6, 3) := by decide +kernel
theorem dX3_readNumber_52 : decode cX3_readNumber 52 = .ok (.goto 22, 3) := by decide +kernel
theorem dX3_readNumber_55 : decode cX3_readNumber 55 = .ok (.iload 5, 2) := by decide +kernel
theorem dX3_readNumber_57 : decode cX3_readNumber 57 = .ok (.istore_n 2, 1) := by decide +kernel
theorem dX3_readNumber_58 : decode cX3_readNumber 58 = .ok (.aload_n 0, 1) := by decide +kernel
theorem dX3_readNumber_59 : decode cX3_readNumber 59 = .ok (.dup, 1) := by decide +kernel
theorem dX3_readNumber_60 : decode cX3_readNumber 60 = .ok (.getfield 19, 3) := by decide +kernel
theorem dX3_readNumber_63 : decode cX3_readNumber 63 = .ok (.iconst 1, 1) := by decide +kernel
theorem dX3_readNumber_64 : decode cX3_readNumber 64 = .ok (.iadd, 1) := by decide +kernel
theorem dX3_readNumber_65 : decode cX3_readNumber 65 = .ok (.putfield 19, 3) := by decide +kernel
theorem dX3_readNumber_68 : decode cX3_readNumber 68 = .ok (.iinc 3 1, 3) := by decide +kernel
theorem dX3_readNumber_71 : decode cX3_readNumber 71 = .ok (.goto (-67), 3) := by decide +kernel
theorem dX3_readNumber_74 : decode cX3_readNumber 74 = .ok (.iload_n 2, 1) := by decide +kernel
theorem dX3_readNumber_75 : decode cX3_readNumber 75 = .ok (.ireturn, 1) := by decide +kernel
set_option maxRecDepth 20000 in
theorem ggX4_init_X0_init : GoodIn wsX4_init wsX0_init := goodIn_r _ [18, 19, 2, 3, 20, 21, 22, 23, 24, 25, 26, 27, 28, 29, 30, 31, 42, 43, 44, 45, 46, 47, 48, 49, 50, 51, 52, 67, 68, 69, 70, 71, 72, 73, 74, 75, 76, 77, 78, 79, 80, 81, 82] (by decide +kernel) (by decide +kernel)
set_option maxRecDepth 20000 in
theorem gX4_init_X0_init_n9 : GoodIn wsX4_init (wsX0_init) := ggX4_init_X0_init
set_option maxRecDepth 20000 in
theorem ggX4_init_X1_init : GoodIn wsX4_init wsX1_init := goodIn_r _ [33, 34, 2, 3, 35, 36, 5, 6, 17, 18, 19, 20, 21, 22, 23, 24, 25, 26, 27, 28, 29, 30, 31, 57, 58, 59, 42, 43, 44, 45, 46, 47, 48, 49, 50, 51, 52, 67, 68, 69, 70, 71, 72, 73, 74, 75, 76, 77, 78, 79, 80, 81, 82] (by decide +kernel) (by decide +kernel)
set_option maxRecDepth 20000 in
theorem gX4_init_X1_init_n21 : GoodIn wsX4_init (wsX1_init) := ggX4_init_X1_init
set_option maxRecDepth 20000 in
theorem ggX4_init_X3_init : GoodIn wsX4_init wsX3_init := goodIn_r _ [38, 39, 2, 3, 40, 41, 60, 61, 62, 63, 64, 65, 66] (by decide +kernel) (by decide +kernel)
set_option maxRecDepth 20000 in
theorem gX4_init_X3_init_n28 : GoodIn wsX4_init (wsX3_init) := ggX4_init_X3_init
theorem dX4_init_0 : decode cX4_init 0 = .ok (.aload_n 0, 1) := by decide +kernel
theorem dX4_init_1 : decode cX4_init 1 = .ok (.invokespecial 1, 3) := by decide +kernel
theorem dX4_init_4 : decode cX4_init 4 = .ok (.aload_n 0, 1) := by decide +kernel
theorem dX4_init_5 : decode cX4_init 5 = .ok (.new 7, 3) := by decide +kernel
theorem dX4_init_8 : decode cX4_init 8 = .ok (.dup, 1) := by decide +kernel
theorem dX4_init_9 : decode cX4_init 9 = .ok (.invokespecial 9, 3) := by decide +kernel
theorem dX4_init_12 : decode cX4_init 12 = .ok (.putfield 10, 3) := by decide +kernel
theorem dX4_init_15 : decode cX4_init 15 = .ok (.aload_n 0, 1) := by decide +kernel
theorem dX4_init_16 : decode cX4_init 16 = .ok (.new 7, 3) := by decide +kernel
theorem dX4_init_19 : decode cX4_init 19 = .ok (.dup, 1) := by decide +kernel
theorem dX4_init_20 : decode cX4_init 20 = .ok (.invokespecial 9, 3) := by decide +kernel
theorem dX4_init_23 : decode cX4_init 23 = .ok (.putfield 16, 3) := by decide +kernel
theorem dX4_init_26 : decode cX4_init 26 = .ok (.aload_n 0, 1) := by decide +kernel
theorem dX4_init_27 : decode cX4_init 27 = .ok (.new 19, 3) := by decide +kernel
theorem dX4_init_30 : decode cX4_init 30 = .ok (.dup, 1) := by decide +kernel
theorem dX4_init_31 : decode cX4_init 31 = .ok (.invokespecial 21, 3) := by decide +kernel
theorem dX4_init_34 : decode cX4_init 34 = .ok (.putfield 22, 3) := by decide +kernel
theorem dX4_init_37 : decode cX4_init 37 = .ok (.aload_n 0, 1) := by decide +kernel
theorem dX4_init_38 : decode cX4_init 38 = .ok (.new 26, 3) := by decide +kernel
theorem dX4_init_41 : decode cX4_init 41 = .ok (.dup, 1) := by decide +kernel
theorem dX4_init_42 : decode cX4_init 42 = .ok (.invokespecial 28, 3) := by decide +kernel
theorem dX4_init_45 : decode cX4_init 45 = .ok (.putfield 29, 3) := by decide +kernel
theorem dX4_init_48 : decode cX4_init 48 = .ok (.return_, 1) := by decide +kernel
set_option maxRecDepth 20000 in
theorem ggX4_join_X1_keep : GoodIn wsX4_join wsX1_keep := goodIn_r _ [8, 9, 10, 11, 12, 13, 14, 15, 16, 17, 18, 19, 20, 21, 22, 23, 24, 25, 26, 27, 28, 29, 30, 31, 32, 33, 34, 35, 36, 37, 38, 39, 40, 41, 42, 43, 44, 45, 46, 47, 48, 49, 50, 51, 52, 53, 54, 77, 78, 79, 66, 67, 68, 69, 70, 71, 72, 73, 74, 75, 76, 80, 81, 82, 83, 84, 85, 86, 87, 88, 89, 90, 91, 92, 93, 94, 95] (by decide +kernel) (by decide +kernel)
set_option maxRecDepth 20000 in
theorem gX4_join_X1_keep_n44 : GoodIn wsX4_join (wsX1_keep) := ggX4_join_X1_keep
set_option maxRecDepth 20000 in
theorem ggX4_join_X0_admit : GoodIn wsX4_join wsX0_admit := goodIn_r _ [57, 26, 29, 20, 58, 59, 60, 17, 61, 66, 67, 68, 69, 70, 71, 72, 73, 74, 75, 76, 80, 81, 82, 83, 84, 85, 86, 87, 88, 89, 90, 91, 92, 93, 94, 95] (by decide +kernel) (by decide +kernel)
set_option maxRecDepth 20000 in
theorem gX4_join_X0_admit_n48 : GoodIn wsX4_join (wsX0_admit) := ggX4_join_X0_admit
theorem dX4_join_0 : decode cX4_join 0 = .ok (.aload_n 0, 1) := by decide +kernel
theorem dX4_join_1 : decode cX4_join 1 = .ok (.getfield 10, 3) := by decide +kernel
theorem dX4_join_4 : decode cX4_join 4 = .ok (.getfield 33, 3) := by decide +kernel
theorem dX4_join_7 : decode cX4_join 7 = .ok (.bipush 8, 2) := by decide +kernel
theorem dX4_join_9 : decode cX4_join 9 = .ok (.if_icmp .lt 13, 3) := by decide +kernel
theorem dX4_join_12 : decode cX4_join 12 = .ok (.new 37, 3) := by decide +kernel
theorem dX4_join_15 : decode cX4_join 15 = .ok (.dup, 1) := by decide +kernel
theorem dX4_join_16 : decode cX4_join 16 = .ok (.ldc 39, 2) := by decide +kernel
theorem dX4_join_18 : decode cX4_join 18 = .ok (.invokespecial 41, 3) := by decide +kernel
theorem dX4_join_21 : decode cX4_join 21 = .ok (.athrow, 1) := by decide +kernel
theorem dX4_join_22 : decode cX4_join 22 = .ok (.aload_n 0, 1) := by decide +kernel
theorem dX4_join_23 : decode cX4_join 23 = .ok (.getfield 22, 3) := by decide +kernel
theorem dX4_join_26 : decode cX4_join 26 = .ok (.aload_n 0, 1) := by decide +kernel
theorem dX4_join_27 : decode cX4_join 27 = .ok (.getfield 10, 3) := by decide +kernel
theorem dX4_join_30 : decode cX4_join 30 = .ok (.invokevirtual 44, 3) := by decide +kernel
theorem dX4_join_33 : decode cX4_join 33 = .ok (.aload_n 0, 1) := by decide +kernel
theorem dX4_join_34 : decode cX4_join 34 = .ok (.getfield 10, 3) := by decide +kernel
theorem dX4_join_37 : decode cX4_join 37 = .ok (.invokevirtual 48, 3) := by decide +kernel
theorem dX4_join_40 : decode cX4_join 40 = .ok (.ireturn, 1) := by decide +kernel
set_option maxRecDepth 20000 in
theorem ggX4_leave_X4_memberOrThrow : GoodIn wsX4_leave wsX4_memberOrThrow := goodIn_ca (goodIn_r _ [9, 10, 11, 3, 12, 13, 14, 15, 16, 91, 92, 93, 94, 95, 96, 97, 98, 99, 100, 101, 102, 103, 104, 105, 106, 107, 108, 109, 110, 111, 112, 113, 114, 115, 116, 117, 118, 119, 120, 121] (by decide +kernel) (by decide +kernel)) (goodIn_sub (fun _ h => List.mem_cons_of_mem _ (List.mem_append_right _ h)) (by decide +kernel))
set_option maxRecDepth 20000 in
theorem gX4_leave_X4_memberOrThrow : GoodIn wsX4_leave (wsV RX4 52 RX4 yX4_memberOrThrow wsX4_memberOrThrow) := goodIn_app (goodIn_of _ (by decide +kernel)) ggX4_leave_X4_memberOrThrow
set_option maxRecDepth 20000 in
theorem ggX4_leave_X0_mayGo : GoodIn wsX4_leave wsX0_mayGo := goodIn_r _ [19, 20, 21, 22, 23, 24, 25, 26, 27, 28, 29, 30, 31, 32, 33, 34, 35, 36, 37, 38, 13, 39, 16, 95, 96, 97, 98, 99, 100, 101, 102, 103, 104, 105, 106, 107, 108, 109, 110, 111, 112, 113, 114, 115, 116, 117, 118, 119, 120, 121] (by decide +kernel) (by decide +kernel)
set_option maxRecDepth 20000 in
theorem gX4_leave_X0_mayGo_n56 : GoodIn wsX4_leave (wsX0_mayGo) := ggX4_leave_X0_mayGo
set_option maxRecDepth 20000 in
theorem ggX4_leave_X1_keep : GoodIn wsX4_leave wsX1_keep := goodIn_r _ [43, 44, 45, 46, 47, 48, 49, 50, 51, 13, 52, 53, 16, 54, 55, 56, 57, 58, 59, 60, 61, 62, 20, 63, 64, 65, 66, 67, 22, 68, 69, 70, 71, 72, 73, 74, 75, 25, 76, 77, 78, 29, 30, 79, 80, 35, 81, 122, 123, 124, 95, 96, 97, 98, 99, 100, 101, 102, 103, 104, 105, 106, 107, 108, 109, 110, 111, 112, 113, 114, 115, 116, 117, 118, 119, 120, 121] (by decide +kernel) (by decide +kernel)
set_option maxRecDepth 20000 in
theorem gX4_leave_X1_keep_n44 : GoodIn wsX4_leave (wsX1_keep) := ggX4_leave_X1_keep
set_option maxRecDepth 20000 in
theorem ggX4_leave_X0_dismiss : GoodIn wsX4_leave wsX0_dismiss := goodIn_r _ [84, 20, 62, 85, 86, 87, 13, 88, 89, 48, 49, 50, 90, 12, 14, 15, 16, 26, 22, 27, 28, 29, 30, 31, 32, 33, 34, 35, 95, 96, 97, 98, 99, 100, 101, 102, 103, 104, 105, 106, 107, 108, 109, 110, 111, 112, 113, 114, 115, 116, 117, 118, 119, 120, 121] (by decide +kernel) (by decide +kernel)
set_option maxRecDepth 20000 in
theorem gX4_leave_X0_dismiss_n62 : GoodIn wsX4_leave (wsX0_dismiss) := ggX4_leave_X0_dismiss
theorem dX4_leave_0 : decode cX4_leave 0 = .ok (.aload_n 0, 1) := by decide +kernel
theorem dX4_leave_1 : decode cX4_leave 1 = .ok (.iload_n 1, 1) := by decide +kernel
theorem dX4_leave_2 : decode cX4_leave 2 = .ok (.invokevirtual 52, 3) := by decide +kernel
theorem dX4_leave_5 : decode cX4_leave 5 = .ok (.astore_n 2, 1) := by decide +kernel
theorem dX4_leave_6 : decode cX4_leave 6 = .ok (.aload_n 0, 1) := by decide +kernel
theorem dX4_leave_7 : decode cX4_leave 7 = .ok (.getfield 10, 3) := by decide +kernel
theorem dX4_leave_10 : decode cX4_leave 10 = .ok (.aload_n 2, 1) := by decide +kernel
theorem dX4_leave_11 : decode cX4_leave 11 = .ok (.invokevirtual 56, 3) := by decide +kernel
theorem dX4_leave_14 : decode cX4_leave 14 = .ok (.ifCond .ne 13, 3) := by decide +kernel
theorem dX4_leave_17 : decode cX4_leave 17 = .ok (.new 37, 3) := by decide +kernel
theorem dX4_leave_20 : decode cX4_leave 20 = .ok (.dup, 1) := by decide +kernel
theorem dX4_leave_21 : decode cX4_leave 21 = .ok (.ldc 60, 2) := by decide +kernel
theorem dX4_leave_23 : decode cX4_leave 23 = .ok (.invokespecial 41, 3) := by decide +kernel
theorem dX4_leave_26 : decode cX4_leave 26 = .ok (.athrow, 1) := by decide +kernel
theorem dX4_leave_27 : decode cX4_leave 27 = .ok (.aload_n 0, 1) := by decide +kernel
theorem dX4_leave_28 : decode cX4_leave 28 = .ok (.getfield 22, 3) := by decide +kernel
theorem dX4_leave_31 : decode cX4_leave 31 = .ok (.aload_n 0, 1) := by decide +kernel
theorem dX4_leave_32 : decode cX4_leave 32 = .ok (.getfield 10, 3) := by decide +kernel
theorem dX4_leave_35 : decode cX4_leave 35 = .ok (.invokevirtual 44, 3) := by decide +kernel
theorem dX4_leave_38 : decode cX4_leave 38 = .ok (.aload_n 0, 1) := by decide +kernel
theorem dX4_leave_39 : decode cX4_leave 39 = .ok (.getfield 10, 3) := by decide +kernel
theorem dX4_leave_42 : decode cX4_leave 42 = .ok (.aload_n 2, 1) := by decide +kernel
theorem dX4_leave_43 : decode cX4_leave 43 = .ok (.invokevirtual 62, 3) := by decide +kernel
theorem dX4_leave_46 : decode cX4_leave 46 = .ok (.ireturn, 1) := by decide +kernel
set_option maxRecDepth 20000 in
theorem ggX4_lend_X4_memberOrThrow : GoodIn wsX4_lend wsX4_memberOrThrow := goodIn_ca (goodIn_r _ [11, 12, 13, 6, 14, 15, 16, 17, 18, 95, 96, 97, 98, 99, 100, 101, 102, 103, 104, 105, 106, 107, 108, 109, 110, 111, 112, 113, 114, 115, 116, 117, 118, 119, 120, 121, 122, 123, 124, 125] (by decide +kernel) (by decide +kernel)) (goodIn_sub (fun _ h => List.mem_cons_of_mem _ (List.mem_append_right _ h)) (by decide +kernel))
set_option maxRecDepth 20000 in
theorem gX4_lend_X4_memberOrThrow : GoodIn wsX4_lend (wsV RX4 52 RX4 yX4_memberOrThrow wsX4_memberOrThrow) := goodIn_app (goodIn_of _ (by decide +kernel)) ggX4_lend_X4_memberOrThrow
set_option maxRecDepth 20000 in
theorem ggX4_lend_X2_mayBorrow : GoodIn wsX4_lend wsX2_mayBorrow := goodIn_r _ [22, 23, 24, 25, 26, 20, 27, 28, 29, 30, 31, 32, 33, 34, 35, 36, 37, 38, 39, 110, 111, 112, 113, 114, 115, 116, 117, 118, 119, 120, 121, 122, 123, 124, 125] (by decide +kernel) (by decide +kernel)
set_option maxRecDepth 20000 in
theorem gX4_lend_X2_mayBorrow_n71 : GoodIn wsX4_lend (wsX2_mayBorrow) := ggX4_lend_X2_mayBorrow
set_option maxRecDepth 20000 in
theorem ggX4_lend_X1_keep : GoodIn wsX4_lend wsX1_keep := goodIn_r _ [43, 44, 45, 46, 47, 48, 49, 50, 51, 15, 52, 53, 18, 54, 55, 56, 57, 58, 59, 60, 61, 62, 63, 64, 65, 66, 67, 68, 20, 69, 70, 71, 23, 72, 73, 74, 75, 28, 76, 77, 78, 33, 34, 79, 80, 39, 81, 126, 127, 128, 99, 100, 101, 102, 103, 104, 105, 106, 107, 108, 109, 110, 111, 112, 113, 114, 115, 116, 117, 118, 119, 120, 121, 122, 123, 124, 125] (by decide +kernel) (by decide +kernel)
set_option maxRecDepth 20000 in
theorem gX4_lend_X1_keep_n44 : GoodIn wsX4_lend (wsX1_keep) := ggX4_lend_X1_keep
set_option maxRecDepth 20000 in
theorem ggX4_lend_X0_grantLoan : GoodIn wsX4_lend wsX0_grantLoan := goodIn_r _ [84, 54, 64, 85, 20, 86, 87, 72, 73, 74, 75, 28, 99, 100, 101, 102, 103, 104, 105, 106, 107, 108, 109, 110, 111, 112, 113, 114, 115, 116, 117, 118, 119, 120, 121, 122, 123, 124, 125] (by decide +kernel) (by decide +kernel)
set_option maxRecDepth 20000 in
theorem gX4_lend_X0_grantLoan_n79 : GoodIn wsX4_lend (wsX0_grantLoan) := ggX4_lend_X0_grantLoan
set_option maxRecDepth 20000 in
theorem ggX4_lend_X2_due : GoodIn wsX4_lend wsX2_due := goodIn_r _ [90, 74, 24, 25, 26, 20, 27, 28, 91, 92, 93, 94, 75, 73, 110, 111, 112, 113, 114, 115, 116, 117, 118, 119, 120, 121, 122, 123, 124, 125] (by decide +kernel) (by decide +kernel)
set_option maxRecDepth 20000 in
theorem gX4_lend_X2_due_n83 : GoodIn wsX4_lend (wsX2_due) := ggX4_lend_X2_due
theorem dX4_lend_0 : decode cX4_lend 0 = .ok (.aload_n 0, 1) := by decide +kernel
theorem dX4_lend_1 : decode cX4_lend 1 = .ok (.iload_n 1, 1) := by decide +kernel
theorem dX4_lend_2 : decode cX4_lend 2 = .ok (.invokevirtual 52, 3) := by decide +kernel
theorem dX4_lend_5 : decode cX4_lend 5 = .ok (.astore 4, 2) := by decide +kernel
theorem dX4_lend_7 : decode cX4_lend 7 = .ok (.iload_n 2, 1) := by decide +kernel
theorem dX4_lend_8 : decode cX4_lend 8 = .ok (.bipush 10, 2) := by decide +kernel
theorem dX4_lend_10 : decode cX4_lend 10 = .ok (.if_icmp .lt 21, 3) := by decide +kernel
theorem dX4_lend_13 : decode cX4_lend 13 = .ok (.iload_n 2, 1) := by decide +kernel
theorem dX4_lend_14 : decode cX4_lend 14 = .ok (.sipush 2000, 3) := by decide +kernel
theorem dX4_lend_17 : decode cX4_lend 17 = .ok (.if_icmp .gt 14, 3) := by decide +kernel
theorem dX4_lend_20 : decode cX4_lend 20 = .ok (.iload_n 3, 1) := by decide +kernel
theorem dX4_lend_21 : decode cX4_lend 21 = .ok (.iconst 1, 1) := by decide +kernel
theorem dX4_lend_22 : decode cX4_lend 22 = .ok (.if_icmp .lt 9, 3) := by decide +kernel
theorem dX4_lend_25 : decode cX4_lend 25 = .ok (.iload_n 3, 1) := by decide +kernel
theorem dX4_lend_26 : decode cX4_lend 26 = .ok (.bipush 52, 2) := by decide +kernel
theorem dX4_lend_28 : decode cX4_lend 28 = .ok (.if_icmp .le 13, 3) := by decide +kernel
theorem dX4_lend_31 : decode cX4_lend 31 = .ok (.new 66, 3) := by decide +kernel
theorem dX4_lend_34 : decode cX4_lend 34 = .ok (.dup, 1) := by decide +kernel
theorem dX4_lend_35 : decode cX4_lend 35 = .ok (.ldc 68, 2) := by decide +kernel
theorem dX4_lend_37 : decode cX4_lend 37 = .ok (.invokespecial 70, 3) := by decide +kernel
theorem dX4_lend_40 : decode cX4_lend 40 = .ok (.athrow, 1) := by decide +kernel
theorem dX4_lend_41 : decode cX4_lend 41 = .ok (.aload 4, 2) := by decide +kernel
theorem dX4_lend_43 : decode cX4_lend 43 = .ok (.iload_n 2, 1) := by decide +kernel
theorem dX4_lend_44 : decode cX4_lend 44 = .ok (.invokevirtual 71, 3) := by decide +kernel
theorem dX4_lend_47 : decode cX4_lend 47 = .ok (.ifCond .ne 13, 3) := by decide +kernel
theorem dX4_lend_50 : decode cX4_lend 50 = .ok (.new 37, 3) := by decide +kernel
theorem dX4_lend_53 : decode cX4_lend 53 = .ok (.dup, 1) := by decide +kernel
theorem dX4_lend_54 : decode cX4_lend 54 = .ok (.ldc 77, 2) := by decide +kernel
theorem dX4_lend_56 : decode cX4_lend 56 = .ok (.invokespecial 41, 3) := by decide +kernel
theorem dX4_lend_59 : decode cX4_lend 59 = .ok (.athrow, 1) := by decide +kernel
theorem dX4_lend_60 : decode cX4_lend 60 = .ok (.aload_n 0, 1) := by decide +kernel
theorem dX4_lend_61 : decode cX4_lend 61 = .ok (.getfield 22, 3) := by decide +kernel
theorem dX4_lend_64 : decode cX4_lend 64 = .ok (.aload_n 0, 1) := by decide +kernel
theorem dX4_lend_65 : decode cX4_lend 65 = .ok (.getfield 10, 3) := by decide +kernel
theorem dX4_lend_68 : decode cX4_lend 68 = .ok (.invokevirtual 44, 3) := by decide +kernel
theorem dX4_lend_71 : decode cX4_lend 71 = .ok (.aload_n 0, 1) := by decide +kernel
theorem dX4_lend_72 : decode cX4_lend 72 = .ok (.getfield 10, 3) := by decide +kernel
theorem dX4_lend_75 : decode cX4_lend 75 = .ok (.aload 4, 2) := by decide +kernel
theorem dX4_lend_77 : decode cX4_lend 77 = .ok (.iload_n 2, 1) := by decide +kernel
theorem dX4_lend_78 : decode cX4_lend 78 = .ok (.iload_n 3, 1) := by decide +kernel
theorem dX4_lend_79 : decode cX4_lend 79 = .ok (.invokevirtual 79, 3) := by decide +kernel
theorem dX4_lend_82 : decode cX4_lend 82 = .ok (.aload 4, 2) := by decide +kernel
theorem dX4_lend_84 : decode cX4_lend 84 = .ok (.invokevirtual 83, 3) := by decide +kernel
theorem dX4_lend_87 : decode cX4_lend 87 = .ok (.ireturn, 1) := by decide +kernel
set_option maxRecDepth 20000 in
theorem ggX4_absent_X4_memberOrThrow : GoodIn wsX4_absent wsX4_memberOrThrow := goodIn_ca (goodIn_r _ [7, 8, 9, 2, 10, 11, 12, 13, 14, 66, 67, 68, 69, 86, 87, 88, 89, 90, 91, 92, 93, 94, 95, 96, 70, 71, 72, 73, 74, 75, 76, 77, 78, 79, 80, 81, 82, 83, 84, 85] (by decide +kernel) (by decide +kernel)) (goodIn_sub (fun _ h => List.mem_cons_of_mem _ (List.mem_append_right _ h)) (by decide +kernel))
set_option maxRecDepth 20000 in
theorem gX4_absent_X4_memberOrThrow : GoodIn wsX4_absent (wsV RX4 52 RX4 yX4_memberOrThrow wsX4_memberOrThrow) := goodIn_app (goodIn_of _ (by decide +kernel)) ggX4_absent_X4_memberOrThrow
set_option maxRecDepth 20000 in
theorem ggX4_absent_X1_keep : GoodIn wsX4_absent wsX1_keep := goodIn_r _ [18, 19, 20, 21, 22, 23, 24, 25, 26, 11, 27, 28, 14, 29, 30, 31, 32, 33, 34, 35, 36, 37, 38, 39, 40, 41, 42, 43, 44, 45, 46, 47, 48, 49, 50, 51, 52, 53, 54, 55, 56, 57, 58, 59, 60, 61, 62, 97, 98, 99, 86, 87, 88, 89, 90, 91, 92, 93, 94, 95, 96, 70, 71, 72, 73, 74, 75, 76, 77, 78, 79, 80, 81, 82, 83, 84, 85] (by decide +kernel) (by decide +kernel)
set_option maxRecDepth 20000 in
theorem gX4_absent_X1_keep_n44 : GoodIn wsX4_absent (wsX1_keep) := ggX4_absent_X1_keep
set_option maxRecDepth 20000 in
theorem ggX4_absent_X0_awayMembers : GoodIn wsX4_absent wsX0_awayMembers := goodIn_r _ [65, 14, 86, 87, 88, 89, 90, 91, 92, 93, 94, 95, 96, 70, 71, 72, 73, 74, 75, 76, 77, 78, 79, 80, 81, 82, 83, 84, 85] (by decide +kernel) (by decide +kernel)
set_option maxRecDepth 20000 in
theorem gX4_absent_X0_awayMembers_n90 : GoodIn wsX4_absent (wsX0_awayMembers) := ggX4_absent_X0_awayMembers
theorem dX4_absent_0 : decode cX4_absent 0 = .ok (.aload_n 0, 1) := by decide +kernel
theorem dX4_absent_1 : decode cX4_absent 1 = .ok (.iload_n 1, 1) := by decide +kernel
theorem dX4_absent_2 : decode cX4_absent 2 = .ok (.invokevirtual 52, 3) := by decide +kernel
theorem dX4_absent_5 : decode cX4_absent 5 = .ok (.astore_n 2, 1) := by decide +kernel
theorem dX4_absent_6 : decode cX4_absent 6 = .ok (.aload_n 0, 1) := by decide +kernel
theorem dX4_absent_7 : decode cX4_absent 7 = .ok (.getfield 22, 3) := by decide +kernel
theorem dX4_absent_10 : decode cX4_absent 10 = .ok (.aload_n 0, 1) := by decide +kernel
theorem dX4_absent_11 : decode cX4_absent 11 = .ok (.getfield 10, 3) := by decide +kernel
theorem dX4_absent_14 : decode cX4_absent 14 = .ok (.invokevirtual 44, 3) := by decide +kernel
theorem dX4_absent_17 : decode cX4_absent 17 = .ok (.aload_n 2, 1) := by decide +kernel
theorem dX4_absent_18 : decode cX4_absent 18 = .ok (.aload_n 2, 1) := by decide +kernel
theorem dX4_absent_19 : decode cX4_absent 19 = .ok (.getfield 86, 3) := by decide +kernel
theorem dX4_absent_22 : decode cX4_absent 22 = .ok (.ifCond .ne 7, 3) := by decide +kernel
theorem dX4_absent_25 : decode cX4_absent 25 = .ok (.iconst 1, 1) := by decide +kernel
theorem dX4_absent_26 : decode cX4_absent 26 = .ok (.goto 4, 3) := by decide +kernel
theorem dX4_absent_29 : decode cX4_absent 29 = .ok (.iconst 0, 1) := by decide +kernel
theorem dX4_absent_30 : decode cX4_absent 30 = .ok (.putfield 86, 3) := by decide +kernel
theorem dX4_absent_33 : decode cX4_absent 33 = .ok (.aload_n 0, 1) := by decide +kernel
theorem dX4_absent_34 : decode cX4_absent 34 = .ok (.getfield 10, 3) := by decide +kernel
theorem dX4_absent_37 : decode cX4_absent 37 = .ok (.invokevirtual 90, 3) := by decide +kernel
theorem dX4_absent_40 : decode cX4_absent 40 = .ok (.ireturn, 1) := by decide +kernel
set_option maxRecDepth 20000 in
theorem ggX4_week_X0_mayEndWeek : GoodIn wsX4_week wsX0_mayEndWeek := goodIn_r _ [8, 9, 127, 128, 129, 130, 131, 132, 133, 134, 135, 136, 137] (by decide +kernel) (by decide +kernel)
set_option maxRecDepth 20000 in
theorem gX4_week_X0_mayEndWeek_n93 : GoodIn wsX4_week (wsX0_mayEndWeek) := ggX4_week_X0_mayEndWeek
set_option maxRecDepth 20000 in
theorem ggX4_week_X1_keep : GoodIn wsX4_week wsX1_keep := goodIn_r _ [13, 14, 15, 16, 17, 18, 19, 20, 21, 6, 22, 23, 24, 25, 26, 27, 28, 29, 30, 9, 31, 32, 33, 34, 35, 36, 37, 38, 39, 40, 41, 42, 43, 44, 45, 46, 47, 48, 49, 50, 51, 52, 53, 54, 55, 56, 57, 138, 139, 140, 127, 128, 129, 130, 131, 132, 133, 134, 135, 136, 137, 141, 142, 143, 144, 145, 146, 147, 148, 149, 150, 151, 152, 153, 154, 155, 156] (by decide +kernel) (by decide +kernel)
set_option maxRecDepth 20000 in
theorem gX4_week_X1_keep_n44 : GoodIn wsX4_week (wsX1_keep) := ggX4_week_X1_keep
set_option maxRecDepth 20000 in
theorem ggX4_week_X0_endWeek : GoodIn wsX4_week wsX0_endWeek := goodIn_r _ [60, 24, 9, 25, 32, 61, 39, 62, 63, 48, 64, 65, 66, 6, 67, 35, 36, 68, 69, 70, 46, 71, 72, 73, 74, 75, 47, 45, 76, 77, 78, 79, 37, 33, 80, 81, 82, 83, 84, 85, 86, 87, 88, 89, 90, 91, 92, 93, 94, 95, 96, 97, 98, 44, 99, 100, 101, 102, 103, 104, 105, 106, 107, 18, 19, 20, 108, 109, 110, 111, 112, 113, 114, 52, 53, 115, 116, 117, 118, 56, 119, 120, 121, 122, 127, 128, 129, 130, 131, 132, 133, 134, 135, 136, 137, 141, 142, 143, 144, 145, 146, 147, 148, 149, 150, 151, 152, 153, 154, 155, 156] (by decide +kernel) (by decide +kernel)
set_option maxRecDepth 20000 in
theorem gX4_week_X0_endWeek_n102 : GoodIn wsX4_week (wsX0_endWeek) := ggX4_week_X0_endWeek
theorem dX4_week_0 : decode cX4_week 0 = .ok (.aload_n 0, 1) := by decide +kernel
theorem dX4_week_1 : decode cX4_week 1 = .ok (.getfield 10, 3) := by decide +kernel
theorem dX4_week_4 : decode cX4_week 4 = .ok (.invokevirtual 93, 3) := by decide +kernel
theorem dX4_week_7 : decode cX4_week 7 = .ok (.ifCond .ne 13, 3) := by decide +kernel
theorem dX4_week_10 : decode cX4_week 10 = .ok (.new 37, 3) := by decide +kernel
theorem dX4_week_13 : decode cX4_week 13 = .ok (.dup, 1) := by decide +kernel
theorem dX4_week_14 : decode cX4_week 14 = .ok (.ldc 97, 2) := by decide +kernel
theorem dX4_week_16 : decode cX4_week 16 = .ok (.invokespecial 41, 3) := by decide +kernel
theorem dX4_week_19 : decode cX4_week 19 = .ok (.athrow, 1) := by decide +kernel
theorem dX4_week_20 : decode cX4_week 20 = .ok (.aload_n 0, 1) := by decide +kernel
theorem dX4_week_21 : decode cX4_week 21 = .ok (.getfield 22, 3) := by decide +kernel
theorem dX4_week_24 : decode cX4_week 24 = .ok (.aload_n 0, 1) := by decide +kernel
theorem dX4_week_25 : decode cX4_week 25 = .ok (.getfield 10, 3) := by decide +kernel
theorem dX4_week_28 : decode cX4_week 28 = .ok (.invokevirtual 44, 3) := by decide +kernel
theorem dX4_week_31 : decode cX4_week 31 = .ok (.aload_n 0, 1) := by decide +kernel
theorem dX4_week_32 : decode cX4_week 32 = .ok (.getfield 10, 3) := by decide +kernel
theorem dX4_week_35 : decode cX4_week 35 = .ok (.getfield 99, 3) := by decide +kernel
theorem dX4_week_38 : decode cX4_week 38 = .ok (.istore_n 1, 1) := by decide +kernel
theorem dX4_week_39 : decode cX4_week 39 = .ok (.aload_n 0, 1) := by decide +kernel
theorem dX4_week_40 : decode cX4_week 40 = .ok (.getfield 10, 3) := by decide +kernel
theorem dX4_week_43 : decode cX4_week 43 = .ok (.invokevirtual 102, 3) := by decide +kernel
theorem dX4_week_46 : decode cX4_week 46 = .ok (.aload_n 0, 1) := by decide +kernel
theorem dX4_week_47 : decode cX4_week 47 = .ok (.getfield 10, 3) := by decide +kernel
theorem dX4_week_50 : decode cX4_week 50 = .ok (.getfield 99, 3) := by decide +kernel
theorem dX4_week_53 : decode cX4_week 53 = .ok (.iload_n 1, 1) := by decide +kernel
theorem dX4_week_54 : decode cX4_week 54 = .ok (.isub, 1) := by decide +kernel
theorem dX4_week_55 : decode cX4_week 55 = .ok (.ireturn, 1) := by decide +kernel
set_option maxRecDepth 20000 in
theorem ggX4_payBack_X4_memberOrThrow : GoodIn wsX4_payBack wsX4_memberOrThrow := goodIn_ca (goodIn_r _ [9, 10, 11, 4, 12, 13, 14, 15, 16, 84, 85, 86, 87, 88, 89, 90, 91, 92, 93, 94, 95, 96, 97, 98, 99, 100, 101, 102, 103, 104, 105, 106, 107, 108, 109, 110, 111, 112, 113, 114] (by decide +kernel) (by decide +kernel)) (goodIn_sub (fun _ h => List.mem_cons_of_mem _ (List.mem_append_left _ (List.mem_append_right _ h))) (by decide +kernel))
set_option maxRecDepth 20000 in
theorem gX4_payBack_X4_memberOrThrow : GoodIn wsX4_payBack (wsV RX4 52 RX4 yX4_memberOrThrow wsX4_memberOrThrow) := goodIn_app (goodIn_of _ (by decide +kernel)) ggX4_payBack_X4_memberOrThrow
set_option maxRecDepth 20000 in
theorem ggX4_payBack_X4_checkMoney : GoodIn wsX4_payBack wsX4_checkMoney := goodIn_ca (goodIn_r _ [19, 20, 21] (by decide +kernel) (by decide +kernel)) (goodIn_sub (fun _ h => List.mem_cons_of_mem _ (List.mem_append_right _ h)) (by decide +kernel))
set_option maxRecDepth 20000 in
theorem gX4_payBack_X4_checkMoney : GoodIn wsX4_payBack (va_wsS RX4 105 yX4_checkMoney wsX4_checkMoney) := goodIn_app (goodIn_of _ (by decide +kernel)) ggX4_payBack_X4_checkMoney
set_option maxRecDepth 20000 in
theorem ggX4_payBack_X2_hasDebts : GoodIn wsX4_payBack wsX2_hasDebts := goodIn_r _ [25, 26, 27, 28, 29, 30, 23, 31, 32, 99, 100, 101, 102, 103, 104, 105, 106, 107, 108, 109, 110, 111, 112, 113, 114] (by decide +kernel) (by decide +kernel)
set_option maxRecDepth 20000 in
theorem gX4_payBack_X2_hasDebts_n109 : GoodIn wsX4_payBack (wsX2_hasDebts) := ggX4_payBack_X2_hasDebts
set_option maxRecDepth 20000 in
theorem ggX4_payBack_X1_keep : GoodIn wsX4_payBack wsX1_keep := goodIn_r _ [36, 37, 38, 39, 40, 41, 42, 43, 44, 13, 45, 46, 16, 47, 48, 49, 50, 51, 52, 53, 54, 55, 56, 57, 58, 59, 60, 61, 23, 62, 63, 64, 65, 66, 67, 68, 69, 70, 71, 72, 73, 26, 27, 74, 75, 32, 76, 115, 116, 117, 88, 89, 90, 91, 92, 93, 94, 95, 96, 97, 98, 99, 100, 101, 102, 103, 104, 105, 106, 107, 108, 109, 110, 111, 112, 113, 114] (by decide +kernel) (by decide +kernel)
set_option maxRecDepth 20000 in
theorem gX4_payBack_X1_keep_n44 : GoodIn wsX4_payBack (wsX1_keep) := ggX4_payBack_X1_keep
set_option maxRecDepth 20000 in
theorem ggX4_payBack_X0_takePayment : GoodIn wsX4_payBack wsX0_takePayment := goodIn_r _ [79, 80, 81, 82, 83, 59, 56, 99, 100, 101, 102, 103, 104, 105, 106, 107, 108, 109, 110, 111, 112, 113, 114, 88, 89, 90, 91, 92, 93, 94, 95, 96, 97, 98] (by decide +kernel) (by decide +kernel)
set_option maxRecDepth 20000 in
theorem gX4_payBack_X0_takePayment_n114 : GoodIn wsX4_payBack (wsX0_takePayment) := ggX4_payBack_X0_takePayment
theorem dX4_payBack_0 : decode cX4_payBack 0 = .ok (.aload_n 0, 1) := by decide +kernel
theorem dX4_payBack_1 : decode cX4_payBack 1 = .ok (.iload_n 1, 1) := by decide +kernel
theorem dX4_payBack_2 : decode cX4_payBack 2 = .ok (.invokevirtual 52, 3) := by decide +kernel
theorem dX4_payBack_5 : decode cX4_payBack 5 = .ok (.astore_n 3, 1) := by decide +kernel
theorem dX4_payBack_6 : decode cX4_payBack 6 = .ok (.iload_n 2, 1) := by decide +kernel
theorem dX4_payBack_7 : decode cX4_payBack 7 = .ok (.invokestatic 105, 3) := by decide +kernel
theorem dX4_payBack_10 : decode cX4_payBack 10 = .ok (.aload_n 3, 1) := by decide +kernel
theorem dX4_payBack_11 : decode cX4_payBack 11 = .ok (.invokevirtual 109, 3) := by decide +kernel
theorem dX4_payBack_14 : decode cX4_payBack 14 = .ok (.ifCond .ne 13, 3) := by decide +kernel
theorem dX4_payBack_17 : decode cX4_payBack 17 = .ok (.new 37, 3) := by decide +kernel
theorem dX4_payBack_20 : decode cX4_payBack 20 = .ok (.dup, 1) := by decide +kernel
theorem dX4_payBack_21 : decode cX4_payBack 21 = .ok (.ldc 112, 2) := by decide +kernel
theorem dX4_payBack_23 : decode cX4_payBack 23 = .ok (.invokespecial 41, 3) := by decide +kernel
theorem dX4_payBack_26 : decode cX4_payBack 26 = .ok (.athrow, 1) := by decide +kernel
theorem dX4_payBack_27 : decode cX4_payBack 27 = .ok (.aload_n 0, 1) := by decide +kernel
theorem dX4_payBack_28 : decode cX4_payBack 28 = .ok (.getfield 22, 3) := by decide +kernel
theorem dX4_payBack_31 : decode cX4_payBack 31 = .ok (.aload_n 0, 1) := by decide +kernel
theorem dX4_payBack_32 : decode cX4_payBack 32 = .ok (.getfield 10, 3) := by decide +kernel
theorem dX4_payBack_35 : decode cX4_payBack 35 = .ok (.invokevirtual 44, 3) := by decide +kernel
theorem dX4_payBack_38 : decode cX4_payBack 38 = .ok (.aload_n 0, 1) := by decide +kernel
theorem dX4_payBack_39 : decode cX4_payBack 39 = .ok (.getfield 10, 3) := by decide +kernel
theorem dX4_payBack_42 : decode cX4_payBack 42 = .ok (.aload_n 3, 1) := by decide +kernel
theorem dX4_payBack_43 : decode cX4_payBack 43 = .ok (.iload_n 2, 1) := by decide +kernel
theorem dX4_payBack_44 : decode cX4_payBack 44 = .ok (.invokevirtual 114, 3) := by decide +kernel
theorem dX4_payBack_47 : decode cX4_payBack 47 = .ok (.ireturn, 1) := by decide +kernel
set_option maxRecDepth 20000 in
theorem ggX4_help_X4_memberOrThrow : GoodIn wsX4_help wsX4_memberOrThrow := goodIn_ca (goodIn_r _ [9, 10, 11, 3, 12, 13, 14, 15, 16, 76, 77, 78, 79, 80, 81, 82, 83, 84, 85, 86, 87, 88, 89, 90, 91, 92, 93, 94, 95, 96, 97, 98, 99, 100, 101, 102, 103, 104, 105, 106] (by decide +kernel) (by decide +kernel)) (goodIn_sub (fun _ h => List.mem_cons_of_mem _ (List.mem_append_left _ (List.mem_append_right _ h))) (by decide +kernel))
set_option maxRecDepth 20000 in
theorem gX4_help_X4_memberOrThrow : GoodIn wsX4_help (wsV RX4 52 RX4 yX4_memberOrThrow wsX4_memberOrThrow) := goodIn_app (goodIn_of _ (by decide +kernel)) ggX4_help_X4_memberOrThrow
set_option maxRecDepth 20000 in
theorem ggX4_help_X4_checkMoney : GoodIn wsX4_help wsX4_checkMoney := goodIn_ca (goodIn_r _ [19, 20, 21] (by decide +kernel) (by decide +kernel)) (goodIn_sub (fun _ h => List.mem_cons_of_mem _ (List.mem_append_right _ h)) (by decide +kernel))
set_option maxRecDepth 20000 in
theorem gX4_help_X4_checkMoney : GoodIn wsX4_help (va_wsS RX4 105 yX4_checkMoney wsX4_checkMoney) := goodIn_app (goodIn_of _ (by decide +kernel)) ggX4_help_X4_checkMoney
set_option maxRecDepth 20000 in
theorem ggX4_help_X0_mayHelp : GoodIn wsX4_help wsX0_mayHelp := goodIn_r _ [24, 25, 26, 27, 80, 81, 82, 83, 84, 85, 86, 87, 88, 89, 90, 91, 92, 93, 94, 95, 96, 97, 98, 99, 100, 101, 102, 103, 104, 105, 106] (by decide +kernel) (by decide +kernel)
set_option maxRecDepth 20000 in
theorem gX4_help_X0_mayHelp_n118 : GoodIn wsX4_help (wsX0_mayHelp) := ggX4_help_X0_mayHelp
set_option maxRecDepth 20000 in
theorem ggX4_help_X1_keep : GoodIn wsX4_help wsX1_keep := goodIn_r _ [31, 32, 33, 34, 35, 36, 37, 38, 39, 13, 40, 41, 16, 27, 42, 43, 44, 45, 46, 47, 48, 25, 26, 49, 50, 51, 52, 53, 54, 55, 56, 57, 58, 59, 60, 61, 62, 63, 64, 65, 66, 67, 68, 69, 70, 71, 72, 107, 108, 109, 80, 81, 82, 83, 84, 85, 86, 87, 88, 89, 90, 91, 92, 93, 94, 95, 96, 97, 98, 99, 100, 101, 102, 103, 104, 105, 106] (by decide +kernel) (by decide +kernel)
set_option maxRecDepth 20000 in
theorem gX4_help_X1_keep_n44 : GoodIn wsX4_help (wsX1_keep) := ggX4_help_X1_keep
set_option maxRecDepth 20000 in
theorem ggX4_help_X0_grantHelp : GoodIn wsX4_help wsX0_grantHelp := goodIn_r _ [75, 26, 80, 81, 82, 83, 84, 85, 86, 87, 88, 89, 90, 91, 92, 93, 94, 95, 96, 97, 98, 99, 100, 101, 102, 103, 104, 105, 106] (by decide +kernel) (by decide +kernel)
set_option maxRecDepth 20000 in
theorem gX4_help_X0_grantHelp_n124 : GoodIn wsX4_help (wsX0_grantHelp) := ggX4_help_X0_grantHelp
theorem dX4_help_0 : decode cX4_help 0 = .ok (.aload_n 0, 1) := by decide +kernel
theorem dX4_help_1 : decode cX4_help 1 = .ok (.iload_n 1, 1) := by decide +kernel
theorem dX4_help_2 : decode cX4_help 2 = .ok (.invokevirtual 52, 3) := by decide +kernel
theorem dX4_help_5 : decode cX4_help 5 = .ok (.astore_n 3, 1) := by decide +kernel
theorem dX4_help_6 : decode cX4_help 6 = .ok (.iload_n 2, 1) := by decide +kernel
theorem dX4_help_7 : decode cX4_help 7 = .ok (.invokestatic 105, 3) := by decide +kernel
theorem dX4_help_10 : decode cX4_help 10 = .ok (.aload_n 0, 1) := by decide +kernel
theorem dX4_help_11 : decode cX4_help 11 = .ok (.getfield 10, 3) := by decide +kernel
theorem dX4_help_14 : decode cX4_help 14 = .ok (.aload_n 3, 1) := by decide +kernel
theorem dX4_help_15 : decode cX4_help 15 = .ok (.iload_n 2, 1) := by decide +kernel
theorem dX4_help_16 : decode cX4_help 16 = .ok (.invokevirtual 118, 3) := by decide +kernel
theorem dX4_help_19 : decode cX4_help 19 = .ok (.ifCond .ne 13, 3) := by decide +kernel
theorem dX4_help_22 : decode cX4_help 22 = .ok (.new 37, 3) := by decide +kernel
theorem dX4_help_25 : decode cX4_help 25 = .ok (.dup, 1) := by decide +kernel
theorem dX4_help_26 : decode cX4_help 26 = .ok (.ldc 122, 2) := by decide +kernel
theorem dX4_help_28 : decode cX4_help 28 = .ok (.invokespecial 41, 3) := by decide +kernel
theorem dX4_help_31 : decode cX4_help 31 = .ok (.athrow, 1) := by decide +kernel
theorem dX4_help_32 : decode cX4_help 32 = .ok (.aload_n 0, 1) := by decide +kernel
theorem dX4_help_33 : decode cX4_help 33 = .ok (.getfield 22, 3) := by decide +kernel
theorem dX4_help_36 : decode cX4_help 36 = .ok (.aload_n 0, 1) := by decide +kernel
theorem dX4_help_37 : decode cX4_help 37 = .ok (.getfield 10, 3) := by decide +kernel
theorem dX4_help_40 : decode cX4_help 40 = .ok (.invokevirtual 44, 3) := by decide +kernel
theorem dX4_help_43 : decode cX4_help 43 = .ok (.aload_n 0, 1) := by decide +kernel
theorem dX4_help_44 : decode cX4_help 44 = .ok (.getfield 10, 3) := by decide +kernel
theorem dX4_help_47 : decode cX4_help 47 = .ok (.aload_n 3, 1) := by decide +kernel
theorem dX4_help_48 : decode cX4_help 48 = .ok (.iload_n 2, 1) := by decide +kernel
theorem dX4_help_49 : decode cX4_help 49 = .ok (.invokevirtual 124, 3) := by decide +kernel
theorem dX4_help_52 : decode cX4_help 52 = .ok (.aload_n 0, 1) := by decide +kernel
theorem dX4_help_53 : decode cX4_help 53 = .ok (.getfield 10, 3) := by decide +kernel
theorem dX4_help_56 : decode cX4_help 56 = .ok (.getfield 128, 3) := by decide +kernel
theorem dX4_help_59 : decode cX4_help 59 = .ok (.ireturn, 1) := by decide +kernel
set_option maxRecDepth 20000 in
theorem ggX4_cycle_X0_mayBeginCycle : GoodIn wsX4_cycle wsX0_mayBeginCycle := goodIn_r _ [8, 9, 10, 11, 6, 12, 13, 14, 15, 16, 17, 18, 19, 20, 21, 84, 85, 86, 87, 88, 89, 90, 91, 92, 93, 94, 95, 96, 97, 98, 99, 100, 101, 102, 103, 104, 105, 106, 107, 108, 109, 110] (by decide +kernel) (by decide +kernel)
set_option maxRecDepth 20000 in
theorem gX4_cycle_X0_mayBeginCycle_n131 : GoodIn wsX4_cycle (wsX0_mayBeginCycle) := ggX4_cycle_X0_mayBeginCycle
set_option maxRecDepth 20000 in
theorem ggX4_cycle_X1_keep : GoodIn wsX4_cycle wsX1_keep := goodIn_r _ [25, 26, 27, 28, 29, 30, 31, 32, 33, 6, 34, 35, 13, 36, 37, 38, 39, 40, 41, 42, 43, 44, 45, 46, 47, 48, 49, 50, 51, 52, 53, 54, 55, 56, 57, 58, 59, 60, 61, 62, 63, 64, 65, 66, 67, 68, 69, 111, 112, 113, 84, 85, 86, 87, 88, 89, 90, 91, 92, 93, 94, 95, 96, 97, 98, 99, 100, 101, 102, 103, 104, 105, 106, 107, 108, 109, 110] (by decide +kernel) (by decide +kernel)
set_option maxRecDepth 20000 in
theorem gX4_cycle_X1_keep_n44 : GoodIn wsX4_cycle (wsX1_keep) := ggX4_cycle_X1_keep
set_option maxRecDepth 20000 in
theorem ggX4_cycle_X0_beginCycle : GoodIn wsX4_cycle wsX0_beginCycle := goodIn_r _ [72, 13, 43, 73, 51, 74, 75, 62, 55, 76, 77, 16, 78, 79, 15, 17, 84, 85, 86, 87, 88, 89, 90, 91, 92, 93, 94, 95, 96, 97, 98, 99, 100, 101, 102, 103, 104, 105, 106, 107, 108, 109, 110] (by decide +kernel) (by decide +kernel)
set_option maxRecDepth 20000 in
theorem gX4_cycle_X0_beginCycle_n136 : GoodIn wsX4_cycle (wsX0_beginCycle) := ggX4_cycle_X0_beginCycle
theorem dX4_cycle_0 : decode cX4_cycle 0 = .ok (.aload_n 0, 1) := by decide +kernel
theorem dX4_cycle_1 : decode cX4_cycle 1 = .ok (.getfield 10, 3) := by decide +kernel
theorem dX4_cycle_4 : decode cX4_cycle 4 = .ok (.invokevirtual 131, 3) := by decide +kernel
theorem dX4_cycle_7 : decode cX4_cycle 7 = .ok (.ifCond .ne 13, 3) := by decide +kernel
theorem dX4_cycle_10 : decode cX4_cycle 10 = .ok (.new 37, 3) := by decide +kernel
theorem dX4_cycle_13 : decode cX4_cycle 13 = .ok (.dup, 1) := by decide +kernel
theorem dX4_cycle_14 : decode cX4_cycle 14 = .ok (.ldc 134, 2) := by decide +kernel
theorem dX4_cycle_16 : decode cX4_cycle 16 = .ok (.invokespecial 41, 3) := by decide +kernel
theorem dX4_cycle_19 : decode cX4_cycle 19 = .ok (.athrow, 1) := by decide +kernel
theorem dX4_cycle_20 : decode cX4_cycle 20 = .ok (.aload_n 0, 1) := by decide +kernel
theorem dX4_cycle_21 : decode cX4_cycle 21 = .ok (.getfield 22, 3) := by decide +kernel
theorem dX4_cycle_24 : decode cX4_cycle 24 = .ok (.aload_n 0, 1) := by decide +kernel
theorem dX4_cycle_25 : decode cX4_cycle 25 = .ok (.getfield 10, 3) := by decide +kernel
theorem dX4_cycle_28 : decode cX4_cycle 28 = .ok (.invokevirtual 44, 3) := by decide +kernel
theorem dX4_cycle_31 : decode cX4_cycle 31 = .ok (.aload_n 0, 1) := by decide +kernel
theorem dX4_cycle_32 : decode cX4_cycle 32 = .ok (.getfield 10, 3) := by decide +kernel
theorem dX4_cycle_35 : decode cX4_cycle 35 = .ok (.invokevirtual 136, 3) := by decide +kernel
theorem dX4_cycle_38 : decode cX4_cycle 38 = .ok (.aload_n 0, 1) := by decide +kernel
theorem dX4_cycle_39 : decode cX4_cycle 39 = .ok (.getfield 10, 3) := by decide +kernel
theorem dX4_cycle_42 : decode cX4_cycle 42 = .ok (.getfield 139, 3) := by decide +kernel
theorem dX4_cycle_45 : decode cX4_cycle 45 = .ok (.ireturn, 1) := by decide +kernel
set_option maxRecDepth 20000 in
theorem ggX4_set_X4_checkSetting : GoodIn wsX4_set wsX4_checkSetting := goodIn_ca (goodIn_r _ [10, 11, 12] (by decide +kernel) (by decide +kernel)) (goodIn_sub (fun _ h => List.mem_cons_of_mem _ (List.mem_append_right _ h)) (by decide +kernel))
set_option maxRecDepth 20000 in
theorem gX4_set_X4_checkSetting : GoodIn wsX4_set (va_wsS RX4 142 yX4_checkSetting wsX4_checkSetting) := goodIn_app (goodIn_of _ (by decide +kernel)) ggX4_set_X4_checkSetting
set_option maxRecDepth 20000 in
theorem ggX4_set_X1_keep : GoodIn wsX4_set wsX1_keep := goodIn_r _ [16, 17, 18, 19, 20, 21, 22, 23, 24, 25, 26, 27, 28, 29, 30, 31, 32, 33, 34, 35, 36, 37, 38, 39, 40, 41, 42, 43, 44, 45, 46, 47, 48, 49, 50, 51, 52, 53, 54, 55, 56, 57, 58, 59, 60, 61, 62, 78, 79, 80, 67, 68, 69, 70, 71, 72, 73, 74, 75, 76, 77, 81, 82, 83, 84, 85, 86, 87, 88, 89, 90, 91, 92, 93, 94, 95, 96] (by decide +kernel) (by decide +kernel)
set_option maxRecDepth 20000 in
theorem gX4_set_X1_keep_n44 : GoodIn wsX4_set (wsX1_keep) := ggX4_set_X1_keep
theorem dX4_set_0 : decode cX4_set 0 = .ok (.iload_n 1, 1) := by decide +kernel
theorem dX4_set_1 : decode cX4_set 1 = .ok (.invokestatic 142, 3) := by decide +kernel
theorem dX4_set_4 : decode cX4_set 4 = .ok (.iload_n 2, 1) := by decide +kernel
theorem dX4_set_5 : decode cX4_set 5 = .ok (.getstatic 145, 3) := by decide +kernel
theorem dX4_set_8 : decode cX4_set 8 = .ok (.iload_n 1, 1) := by decide +kernel
theorem dX4_set_9 : decode cX4_set 9 = .ok (.iaload, 1) := by decide +kernel
theorem dX4_set_10 : decode cX4_set 10 = .ok (.if_icmp .lt 12, 3) := by decide +kernel
theorem dX4_set_13 : decode cX4_set 13 = .ok (.iload_n 2, 1) := by decide +kernel
theorem dX4_set_14 : decode cX4_set 14 = .ok (.getstatic 149, 3) := by decide +kernel
theorem dX4_set_17 : decode cX4_set 17 = .ok (.iload_n 1, 1) := by decide +kernel
theorem dX4_set_18 : decode cX4_set 18 = .ok (.iaload, 1) := by decide +kernel
theorem dX4_set_19 : decode cX4_set 19 = .ok (.if_icmp .le 13, 3) := by decide +kernel
theorem dX4_set_22 : decode cX4_set 22 = .ok (.new 66, 3) := by decide +kernel
theorem dX4_set_25 : decode cX4_set 25 = .ok (.dup, 1) := by decide +kernel
theorem dX4_set_26 : decode cX4_set 26 = .ok (.ldc 152, 2) := by decide +kernel
theorem dX4_set_28 : decode cX4_set 28 = .ok (.invokespecial 70, 3) := by decide +kernel
theorem dX4_set_31 : decode cX4_set 31 = .ok (.athrow, 1) := by decide +kernel
theorem dX4_set_32 : decode cX4_set 32 = .ok (.aload_n 0, 1) := by decide +kernel
theorem dX4_set_33 : decode cX4_set 33 = .ok (.getfield 22, 3) := by decide +kernel
theorem dX4_set_36 : decode cX4_set 36 = .ok (.aload_n 0, 1) := by decide +kernel
theorem dX4_set_37 : decode cX4_set 37 = .ok (.getfield 10, 3) := by decide +kernel
theorem dX4_set_40 : decode cX4_set 40 = .ok (.invokevirtual 44, 3) := by decide +kernel
theorem dX4_set_43 : decode cX4_set 43 = .ok (.aload_n 0, 1) := by decide +kernel
theorem dX4_set_44 : decode cX4_set 44 = .ok (.getfield 10, 3) := by decide +kernel
theorem dX4_set_47 : decode cX4_set 47 = .ok (.getfield 154, 3) := by decide +kernel
theorem dX4_set_50 : decode cX4_set 50 = .ok (.iload_n 1, 1) := by decide +kernel
theorem dX4_set_51 : decode cX4_set 51 = .ok (.iaload, 1) := by decide +kernel
theorem dX4_set_52 : decode cX4_set 52 = .ok (.istore_n 3, 1) := by decide +kernel
theorem dX4_set_53 : decode cX4_set 53 = .ok (.aload_n 0, 1) := by decide +kernel
theorem dX4_set_54 : decode cX4_set 54 = .ok (.getfield 10, 3) := by decide +kernel
theorem dX4_set_57 : decode cX4_set 57 = .ok (.getfield 154, 3) := by decide +kernel
theorem dX4_set_60 : decode cX4_set 60 = .ok (.iload_n 1, 1) := by decide +kernel
theorem dX4_set_61 : decode cX4_set 61 = .ok (.iload_n 2, 1) := by decide +kernel
theorem dX4_set_62 : decode cX4_set 62 = .ok (.iastore, 1) := by decide +kernel
theorem dX4_set_63 : decode cX4_set 63 = .ok (.iload_n 3, 1) := by decide +kernel
theorem dX4_set_64 : decode cX4_set 64 = .ok (.ireturn, 1) := by decide +kernel
set_option maxRecDepth 20000 in
theorem ggX4_append_X3_add : GoodIn wsX4_append wsX3_add := goodIn_r _ [9, 10, 11, 16, 17, 18, 19, 20, 21, 22] (by decide +kernel) (by decide +kernel)
set_option maxRecDepth 20000 in
theorem gX4_append_X3_add_n164 : GoodIn wsX4_append (wsX3_add) := ggX4_append_X3_add
theorem dX4_append_0 : decode cX4_append 0 = .ok (.iload_n 1, 1) := by decide +kernel
theorem dX4_append_1 : decode cX4_append 1 = .ok (.bipush 33, 2) := by decide +kernel
theorem dX4_append_3 : decode cX4_append 3 = .ok (.if_icmp .lt 9, 3) := by decide +kernel
theorem dX4_append_6 : decode cX4_append 6 = .ok (.iload_n 1, 1) := by decide +kernel
theorem dX4_append_7 : decode cX4_append 7 = .ok (.bipush 126, 2) := by decide +kernel
theorem dX4_append_9 : decode cX4_append 9 = .ok (.if_icmp .le 13, 3) := by decide +kernel
theorem dX4_append_12 : decode cX4_append 12 = .ok (.new 66, 3) := by decide +kernel
theorem dX4_append_15 : decode cX4_append 15 = .ok (.dup, 1) := by decide +kernel
theorem dX4_append_16 : decode cX4_append 16 = .ok (.ldc 157, 2) := by decide +kernel
theorem dX4_append_18 : decode cX4_append 18 = .ok (.invokespecial 70, 3) := by decide +kernel
theorem dX4_append_21 : decode cX4_append 21 = .ok (.athrow, 1) := by decide +kernel
theorem dX4_append_22 : decode cX4_append 22 = .ok (.aload_n 0, 1) := by decide +kernel
theorem dX4_append_23 : decode cX4_append 23 = .ok (.getfield 29, 3) := by decide +kernel
theorem dX4_append_26 : decode cX4_append 26 = .ok (.getfield 159, 3) := by decide +kernel
theorem dX4_append_29 : decode cX4_append 29 = .ok (.bipush 60, 2) := by decide +kernel
theorem dX4_append_31 : decode cX4_append 31 = .ok (.if_icmp .lt 13, 3) := by decide +kernel
theorem dX4_append_34 : decode cX4_append 34 = .ok (.new 37, 3) := by decide +kernel
theorem dX4_append_37 : decode cX4_append 37 = .ok (.dup, 1) := by decide +kernel
theorem dX4_append_38 : decode cX4_append 38 = .ok (.ldc 162, 2) := by decide +kernel
theorem dX4_append_40 : decode cX4_append 40 = .ok (.invokespecial 41, 3) := by decide +kernel
theorem dX4_append_43 : decode cX4_append 43 = .ok (.athrow, 1) := by decide +kernel
theorem dX4_append_44 : decode cX4_append 44 = .ok (.aload_n 0, 1) := by decide +kernel
theorem dX4_append_45 : decode cX4_append 45 = .ok (.getfield 29, 3) := by decide +kernel
theorem dX4_append_48 : decode cX4_append 48 = .ok (.iload_n 1, 1) := by decide +kernel
theorem dX4_append_49 : decode cX4_append 49 = .ok (.i2c, 1) := by decide +kernel
theorem dX4_append_50 : decode cX4_append 50 = .ok (.invokevirtual 164, 3) := by decide +kernel
theorem dX4_append_53 : decode cX4_append 53 = .ok (.aload_n 0, 1) := by decide +kernel
theorem dX4_append_54 : decode cX4_append 54 = .ok (.getfield 29, 3) := by decide +kernel
theorem dX4_append_57 : decode cX4_append 57 = .ok (.getfield 159, 3) := by decide +kernel
theorem dX4_append_60 : decode cX4_append 60 = .ok (.ireturn, 1) := by decide +kernel
set_option maxRecDepth 20000 in
theorem ggX4_clearBuffer_X3_clear : GoodIn wsX4_clearBuffer wsX3_clear := goodIn_r _ [5, 6, 11, 12, 13, 14, 15, 16, 17] (by decide +kernel) (by decide +kernel)
set_option maxRecDepth 20000 in
theorem gX4_clearBuffer_X3_clear_n168 : GoodIn wsX4_clearBuffer (wsX3_clear) := ggX4_clearBuffer_X3_clear
theorem dX4_clearBuffer_0 : decode cX4_clearBuffer 0 = .ok (.aload_n 0, 1) := by decide +kernel
theorem dX4_clearBuffer_1 : decode cX4_clearBuffer 1 = .ok (.getfield 29, 3) := by decide +kernel
theorem dX4_clearBuffer_4 : decode cX4_clearBuffer 4 = .ok (.getfield 159, 3) := by decide +kernel
theorem dX4_clearBuffer_7 : decode cX4_clearBuffer 7 = .ok (.istore_n 1, 1) := by decide +kernel
theorem dX4_clearBuffer_8 : decode cX4_clearBuffer 8 = .ok (.aload_n 0, 1) := by decide +kernel
theorem dX4_clearBuffer_9 : decode cX4_clearBuffer 9 = .ok (.getfield 29, 3) := by decide +kernel
theorem dX4_clearBuffer_12 : decode cX4_clearBuffer 12 = .ok (.invokevirtual 168, 3) := by decide +kernel
theorem dX4_clearBuffer_15 : decode cX4_clearBuffer 15 = .ok (.iload_n 1, 1) := by decide +kernel
theorem dX4_clearBuffer_16 : decode cX4_clearBuffer 16 = .ok (.ireturn, 1) := by decide +kernel
set_option maxRecDepth 20000 in
theorem ggX4_firstError_X3_readAll : GoodIn wsX4_firstError wsX3_readAll := goodIn_r _ [5, 6, 7, 8, 9, 10, 3, 11, 12, 13, 14, 15, 16, 17, 18, 19, 20, 21, 22, 23, 24, 25, 26, 27, 28, 29, 30, 31, 32, 33, 34, 35, 36, 37, 38, 39, 40, 41, 42, 43, 44, 45, 46, 47, 48, 49, 50, 51, 52, 53, 54, 55, 56, 57, 58, 59, 60, 61, 62, 63, 64, 65, 66, 67, 68, 69, 70, 71, 72, 73, 74, 75, 76, 77, 78, 79, 80, 81, 82, 83, 84, 85, 86, 87, 88, 89, 90, 91, 92, 93, 94, 95, 96, 97, 102, 103, 104, 105, 106, 107, 108] (by decide +kernel) (by decide +kernel)
set_option maxRecDepth 20000 in
theorem gX4_firstError_X3_readAll_n171 : GoodIn wsX4_firstError (wsX3_readAll) := ggX4_firstError_X3_readAll
theorem dX4_firstError_0 : decode cX4_firstError 0 = .ok (.aload_n 0, 1) := by decide +kernel
theorem dX4_firstError_1 : decode cX4_firstError 1 = .ok (.getfield 29, 3) := by decide +kernel
theorem dX4_firstError_4 : decode cX4_firstError 4 = .ok (.invokevirtual 171, 3) := by decide +kernel
theorem dX4_firstError_7 : decode cX4_firstError 7 = .ok (.pop, 1) := by decide +kernel
theorem dX4_firstError_8 : decode cX4_firstError 8 = .ok (.aload_n 0, 1) := by decide +kernel
theorem dX4_firstError_9 : decode cX4_firstError 9 = .ok (.getfield 29, 3) := by decide +kernel
theorem dX4_firstError_12 : decode cX4_firstError 12 = .ok (.getfield 174, 3) := by decide +kernel
theorem dX4_firstError_15 : decode cX4_firstError 15 = .ok (.ireturn, 1) := by decide +kernel
set_option maxRecDepth 20000 in
theorem ggX4_run_X3_readAll : GoodIn wsX4_run wsX3_readAll := goodIn_r _ [9, 10, 11, 12, 13, 14, 7, 15, 16, 17, 18, 19, 20, 21, 22, 23, 24, 25, 26, 27, 28, 29, 30, 31, 32, 33, 34, 35, 36, 37, 38, 39, 40, 41, 42, 43, 44, 45, 46, 47, 48, 49, 50, 51, 52, 53, 54, 55, 56, 57, 58, 59, 60, 61, 62, 63, 64, 65, 66, 67, 68, 69, 70, 71, 72, 73, 74, 75, 76, 77, 78, 79, 80, 81, 82, 83, 84, 85, 86, 87, 88, 89, 90, 91, 92, 93, 94, 95, 96, 97, 98, 99, 100, 101, 297, 298, 299, 300, 301, 302, 303] (by decide +kernel) (by decide +kernel)
set_option maxRecDepth 20000 in
theorem gX4_run_X3_readAll_n171 : GoodIn wsX4_run (wsX3_readAll) := ggX4_run_X3_readAll
set_option maxRecDepth 20000 in
theorem ggX4_run_X1_keep : GoodIn wsX4_run wsX1_keep := goodIn_r _ [105, 106, 107, 108, 109, 110, 111, 112, 113, 114, 115, 116, 117, 118, 119, 120, 121, 122, 123, 124, 125, 126, 127, 128, 129, 130, 131, 132, 133, 134, 135, 136, 137, 138, 139, 140, 141, 142, 143, 144, 145, 146, 147, 148, 149, 150, 151, 304, 305, 306, 307, 308, 309, 310, 311, 312, 313, 314, 315, 316, 317, 318, 319, 320, 321, 322, 323, 324, 325, 326, 327, 328, 329, 330, 331, 332, 333] (by decide +kernel) (by decide +kernel)
set_option maxRecDepth 20000 in
theorem gX4_run_X1_keep_n44 : GoodIn wsX4_run (wsX1_keep) := ggX4_run_X1_keep
set_option maxRecDepth 20000 in
theorem ggX4_run_X3_restart : GoodIn wsX4_run wsX3_restart := goodIn_r _ [15, 10, 297, 298, 299, 300, 301, 302, 303] (by decide +kernel) (by decide +kernel)
set_option maxRecDepth 20000 in
theorem gX4_run_X3_restart_n179 : GoodIn wsX4_run (wsX3_restart) := ggX4_run_X3_restart
set_option maxRecDepth 20000 in
theorem ggX4_run_X3_readOrder : GoodIn wsX4_run wsX3_readOrder := goodIn_r _ [19, 20, 21, 22, 23, 7, 24, 10, 11, 25, 26, 27, 28, 29, 30, 31, 32, 33, 34, 35, 36, 37, 38, 39, 40, 41, 42, 43, 44, 45, 46, 47, 48, 49, 50, 51, 52, 53, 54, 55, 56, 57, 58, 59, 60, 61, 62, 63, 64, 65, 66, 67, 68, 69, 70, 71, 72, 73, 74, 75, 76, 77, 78, 79, 80, 81, 82, 83, 84, 85, 86, 87, 88, 89, 90, 91, 92, 93, 94, 95, 96, 97, 98, 99, 100, 101, 297, 298, 299, 300, 301, 302, 303] (by decide +kernel) (by decide +kernel)
set_option maxRecDepth 20000 in
theorem gX4_run_X3_readOrder_n182 : GoodIn wsX4_run (wsX3_readOrder) := ggX4_run_X3_readOrder
set_option maxRecDepth 20000 in
theorem ggX4_run_X4_carryOut : GoodIn wsX4_run wsX4_carryOut := goodIn_r _ [156, 3, 5, 157, 158, 159, 155, 160, 161, 114, 162, 163, 124, 164, 165, 166, 117, 118, 126, 167, 133, 168, 169, 142, 170, 171, 172, 173, 129, 130, 174, 175, 176, 140, 177, 178, 179, 180, 181, 141, 139, 182, 183, 184, 185, 131, 127, 186, 187, 188, 189, 190, 191, 192, 193, 194, 195, 196, 197, 198, 199, 200, 201, 202, 203, 204, 138, 205, 206, 207, 208, 209, 210, 211, 212, 213, 110, 111, 112, 214, 215, 216, 217, 218, 219, 220, 146, 147, 221, 222, 223, 224, 150, 225, 226, 227, 228, 229, 230, 231, 232, 233, 234, 235, 236, 237, 238, 239, 240, 241, 242, 243, 244, 245, 246, 247, 248, 249, 125, 250, 251, 252, 144, 137, 253, 254, 255, 256, 257, 258, 259, 260, 261, 262, 263, 264, 265, 266, 267, 268, 269, 128, 270, 271, 272, 273, 274, 275, 276, 277, 278, 279, 280, 281, 282, 283, 284, 285, 286, 287, 288, 289, 293, 294, 295, 296, 297, 298, 299, 300, 301, 302, 303, 307, 308, 309, 310, 311, 312, 313, 314, 315, 316, 317, 318, 319, 320, 321, 322, 323, 324, 325, 326, 327, 328, 329, 330, 331, 332, 333] (by decide +kernel) (by decide +kernel)
set_option maxRecDepth 20000 in
theorem gX4_run_X4_carryOut : GoodIn wsX4_run (wsV RX4 185 RX4 yX4_carryOut wsX4_carryOut) := goodIn_app (goodIn_of _ (by decide +kernel)) ggX4_run_X4_carryOut
set_option maxRecDepth 20000 in
theorem ggX4_run_X3_readMark : GoodIn wsX4_run wsX3_readMark := goodIn_r _ [82, 10, 21, 22, 23, 7, 24, 11, 25, 297, 298, 299, 300, 301, 302, 303] (by decide +kernel) (by decide +kernel)
set_option maxRecDepth 20000 in
theorem gX4_run_X3_readMark_n188 : GoodIn wsX4_run (wsX3_readMark) := ggX4_run_X3_readMark
set_option maxRecDepth 20000 in
theorem ggX4_run_X3_clear : GoodIn wsX4_run wsX3_clear := goodIn_r _ [292, 11, 297, 298, 299, 300, 301, 302, 303] (by decide +kernel) (by decide +kernel)
set_option maxRecDepth 20000 in
theorem gX4_run_X3_clear_n168 : GoodIn wsX4_run (wsX3_clear) := ggX4_run_X3_clear
theorem dX4_run_0 : decode cX4_run 0 = .ok (.aload_n 0, 1) := by decide +kernel
theorem dX4_run_1 : decode cX4_run 1 = .ok (.getfield 29, 3) := by decide +kernel
theorem dX4_run_4 : decode cX4_run 4 = .ok (.invokevirtual 171, 3) := by decide +kernel
theorem dX4_run_7 : decode cX4_run 7 = .ok (.ifCond .ne 13, 3) := by decide +kernel
theorem dX4_run_10 : decode cX4_run 10 = .ok (.new 66, 3) := by decide +kernel
theorem dX4_run_13 : decode cX4_run 13 = .ok (.dup, 1) := by decide +kernel
theorem dX4_run_14 : decode cX4_run 14 = .ok (.ldc 177, 2) := by decide +kernel
theorem dX4_run_16 : decode cX4_run 16 = .ok (.invokespecial 70, 3) := by decide +kernel
theorem dX4_run_19 : decode cX4_run 19 = .ok (.athrow, 1) := by decide +kernel
theorem dX4_run_20 : decode cX4_run 20 = .ok (.aload_n 0, 1) := by decide +kernel
theorem dX4_run_21 : decode cX4_run 21 = .ok (.getfield 22, 3) := by decide +kernel
theorem dX4_run_24 : decode cX4_run 24 = .ok (.aload_n 0, 1) := by decide +kernel
theorem dX4_run_25 : decode cX4_run 25 = .ok (.getfield 10, 3) := by decide +kernel
theorem dX4_run_28 : decode cX4_run 28 = .ok (.invokevirtual 44, 3) := by decide +kernel
theorem dX4_run_31 : decode cX4_run 31 = .ok (.iconst 0, 1) := by decide +kernel
theorem dX4_run_32 : decode cX4_run 32 = .ok (.istore_n 1, 1) := by decide +kernel
theorem dX4_run_33 : decode cX4_run 33 = .ok (.aload_n 0, 1) := by decide +kernel
theorem dX4_run_34 : decode cX4_run 34 = .ok (.getfield 29, 3) := by decide +kernel
theorem dX4_run_37 : decode cX4_run 37 = .ok (.invokevirtual 179, 3) := by decide +kernel
theorem dX4_run_40 : decode cX4_run 40 = .ok (.iconst 0, 1) := by decide +kernel
theorem dX4_run_41 : decode cX4_run 41 = .ok (.istore_n 2, 1) := by decide +kernel
theorem dX4_run_42 : decode cX4_run 42 = .ok (.iload_n 2, 1) := by decide +kernel
theorem dX4_run_43 : decode cX4_run 43 = .ok (.bipush 60, 2) := by decide +kernel
theorem dX4_run_45 : decode cX4_run 45 = .ok (.if_icmp .ge 47, 3) := by decide +kernel
theorem dX4_run_48 : decode cX4_run 48 = .ok (.aload_n 0, 1) := by decide +kernel
theorem dX4_run_49 : decode cX4_run 49 = .ok (.getfield 29, 3) := by decide +kernel
theorem dX4_run_52 : decode cX4_run 52 = .ok (.invokevirtual 182, 3) := by decide +kernel
theorem dX4_run_55 : decode cX4_run 55 = .ok (.ifCond .eq 37, 3) := by decide +kernel
theorem dX4_run_58 : decode cX4_run 58 = .ok (.aload_n 0, 1) := by decide +kernel
theorem dX4_run_59 : decode cX4_run 59 = .ok (.invokevirtual 185, 3) := by decide +kernel
theorem dX4_run_62 : decode cX4_run 62 = .ok (.ifCond .ne 6, 3) := by decide +kernel
theorem dX4_run_65 : decode cX4_run 65 = .ok (.goto 27, 3) := by decide +kernel
theorem dX4_run_68 : decode cX4_run 68 = .ok (.iinc 1 1, 3) := by decide +kernel
theorem dX4_run_71 : decode cX4_run 71 = .ok (.aload_n 0, 1) := by decide +kernel
theorem dX4_run_72 : decode cX4_run 72 = .ok (.getfield 29, 3) := by decide +kernel
theorem dX4_run_75 : decode cX4_run 75 = .ok (.bipush 59, 2) := by decide +kernel
theorem dX4_run_77 : decode cX4_run 77 = .ok (.invokevirtual 188, 3) := by decide +kernel
theorem dX4_run_80 : decode cX4_run 80 = .ok (.ifCond .ne 6, 3) := by decide +kernel
theorem dX4_run_83 : decode cX4_run 83 = .ok (.goto 9, 3) := by decide +kernel
theorem dX4_run_86 : decode cX4_run 86 = .ok (.iinc 2 1, 3) := by decide +kernel
theorem dX4_run_89 : decode cX4_run 89 = .ok (.goto (-47), 3) := by decide +kernel
theorem dX4_run_92 : decode cX4_run 92 = .ok (.aload_n 0, 1) := by decide +kernel
theorem dX4_run_93 : decode cX4_run 93 = .ok (.getfield 29, 3) := by decide +kernel
theorem dX4_run_96 : decode cX4_run 96 = .ok (.invokevirtual 168, 3) := by decide +kernel
theorem dX4_run_99 : decode cX4_run 99 = .ok (.iload_n 1, 1) := by decide +kernel
theorem dX4_run_100 : decode cX4_run 100 = .ok (.ireturn, 1) := by decide +kernel
set_option maxRecDepth 20000 in
theorem ggX4_undo_X1_takeBack : GoodIn wsX4_undo wsX1_takeBack := goodIn_r _ [8, 9, 10, 11, 12, 13, 14, 15, 16, 17, 18, 19, 20, 21, 22, 23, 24, 25, 26, 27, 28, 29, 30, 31, 32, 33, 34, 35, 36, 37, 38, 39, 40, 41, 42, 43, 44, 45, 46, 47, 48, 49, 50, 51, 52, 53, 54, 59, 60, 61, 62, 63, 64, 65, 66, 67, 68, 69, 70, 71, 72, 73, 74, 75, 76, 77, 78, 79, 80, 81, 82, 83, 84, 85, 86, 87, 88] (by decide +kernel) (by decide +kernel)
set_option maxRecDepth 20000 in
theorem gX4_undo_X1_takeBack_n197 : GoodIn wsX4_undo (wsX1_takeBack) := ggX4_undo_X1_takeBack
theorem dX4_undo_0 : decode cX4_undo 0 = .ok (.aload_n 0, 1) := by decide +kernel
theorem dX4_undo_1 : decode cX4_undo 1 = .ok (.getfield 22, 3) := by decide +kernel
theorem dX4_undo_4 : decode cX4_undo 4 = .ok (.getfield 192, 3) := by decide +kernel
theorem dX4_undo_7 : decode cX4_undo 7 = .ok (.ifCond .gt 13, 3) := by decide +kernel
theorem dX4_undo_10 : decode cX4_undo 10 = .ok (.new 37, 3) := by decide +kernel
theorem dX4_undo_13 : decode cX4_undo 13 = .ok (.dup, 1) := by decide +kernel
theorem dX4_undo_14 : decode cX4_undo 14 = .ok (.ldc 195, 2) := by decide +kernel
theorem dX4_undo_16 : decode cX4_undo 16 = .ok (.invokespecial 41, 3) := by decide +kernel
theorem dX4_undo_19 : decode cX4_undo 19 = .ok (.athrow, 1) := by decide +kernel
theorem dX4_undo_20 : decode cX4_undo 20 = .ok (.aload_n 0, 1) := by decide +kernel
theorem dX4_undo_21 : decode cX4_undo 21 = .ok (.getfield 22, 3) := by decide +kernel
theorem dX4_undo_24 : decode cX4_undo 24 = .ok (.aload_n 0, 1) := by decide +kernel
theorem dX4_undo_25 : decode cX4_undo 25 = .ok (.getfield 10, 3) := by decide +kernel
theorem dX4_undo_28 : decode cX4_undo 28 = .ok (.invokevirtual 197, 3) := by decide +kernel
theorem dX4_undo_31 : decode cX4_undo 31 = .ok (.aload_n 0, 1) := by decide +kernel
theorem dX4_undo_32 : decode cX4_undo 32 = .ok (.getfield 22, 3) := by decide +kernel
theorem dX4_undo_35 : decode cX4_undo 35 = .ok (.getfield 192, 3) := by decide +kernel
theorem dX4_undo_38 : decode cX4_undo 38 = .ok (.ireturn, 1) := by decide +kernel
set_option maxRecDepth 20000 in
theorem ggX4_member_X4_memberOrThrow : GoodIn wsX4_member wsX4_memberOrThrow := goodIn_ca (goodIn_r _ [7, 8, 9, 10, 11, 12, 13, 14, 15, 57, 58, 59, 60, 61, 62, 63, 64, 65, 66, 67, 68, 69, 70, 71, 72, 73, 74, 75, 76, 77, 78, 79, 80, 81, 82, 83, 84, 85, 86, 87] (by decide +kernel) (by decide +kernel)) (goodIn_sub (fun _ h => List.mem_cons_of_mem _ (List.mem_append_right _ h)) (by decide +kernel))
set_option maxRecDepth 20000 in
theorem gX4_member_X4_memberOrThrow : GoodIn wsX4_member (wsV RX4 52 RX4 yX4_memberOrThrow wsX4_memberOrThrow) := goodIn_app (goodIn_of _ (by decide +kernel)) ggX4_member_X4_memberOrThrow
set_option maxRecDepth 20000 in
theorem ggX4_member_X4_propertyOf : GoodIn wsX4_member wsX4_propertyOf := goodIn_r _ [19, 10, 20, 12, 21, 22, 15, 23, 24, 25, 26, 27, 28, 29, 30, 31, 32, 33, 34, 35, 36, 37, 38, 39, 40, 41, 42, 43, 44, 45, 46, 47, 48, 49, 50, 51, 52, 53, 54, 55, 56, 57, 58, 59, 60, 61, 62, 63, 64, 65, 66, 67, 68, 69, 70, 71, 72, 73, 74, 75, 76, 77, 78, 79, 80, 81, 82, 83, 84, 85, 86, 87] (by decide +kernel) (by decide +kernel)
set_option maxRecDepth 20000 in
theorem gX4_member_X4_propertyOf : GoodIn wsX4_member (wsV RX4 202 RX4 yX4_propertyOf wsX4_propertyOf) := goodIn_app (goodIn_of _ (by decide +kernel)) ggX4_member_X4_propertyOf
theorem dX4_member_0 : decode cX4_member 0 = .ok (.aload_n 0, 1) := by decide +kernel
theorem dX4_member_1 : decode cX4_member 1 = .ok (.iload_n 1, 1) := by decide +kernel
theorem dX4_member_2 : decode cX4_member 2 = .ok (.invokevirtual 52, 3) := by decide +kernel
theorem dX4_member_5 : decode cX4_member 5 = .ok (.astore_n 3, 1) := by decide +kernel
theorem dX4_member_6 : decode cX4_member 6 = .ok (.iload_n 2, 1) := by decide +kernel
theorem dX4_member_7 : decode cX4_member 7 = .ok (.ifCond .lt 9, 3) := by decide +kernel
theorem dX4_member_10 : decode cX4_member 10 = .ok (.iload_n 2, 1) := by decide +kernel
theorem dX4_member_11 : decode cX4_member 11 = .ok (.bipush 14, 2) := by decide +kernel
theorem dX4_member_13 : decode cX4_member 13 = .ok (.if_icmp .lt 13, 3) := by decide +kernel
theorem dX4_member_16 : decode cX4_member 16 = .ok (.new 66, 3) := by decide +kernel
theorem dX4_member_19 : decode cX4_member 19 = .ok (.dup, 1) := by decide +kernel
theorem dX4_member_20 : decode cX4_member 20 = .ok (.ldc 200, 2) := by decide +kernel
theorem dX4_member_22 : decode cX4_member 22 = .ok (.invokespecial 70, 3) := by decide +kernel
theorem dX4_member_25 : decode cX4_member 25 = .ok (.athrow, 1) := by decide +kernel
theorem dX4_member_26 : decode cX4_member 26 = .ok (.aload_n 0, 1) := by decide +kernel
theorem dX4_member_27 : decode cX4_member 27 = .ok (.aload_n 3, 1) := by decide +kernel
theorem dX4_member_28 : decode cX4_member 28 = .ok (.iload_n 2, 1) := by decide +kernel
theorem dX4_member_29 : decode cX4_member 29 = .ok (.invokevirtual 202, 3) := by decide +kernel
theorem dX4_member_32 : decode cX4_member 32 = .ok (.ireturn, 1) := by decide +kernel
set_option maxRecDepth 20000 in
theorem ggX4_owes_X4_memberOrThrow : GoodIn wsX4_owes wsX4_memberOrThrow := goodIn_ca (goodIn_r _ [5, 6, 7, 8, 9, 10, 11, 12, 13, 30, 31, 32, 33, 34, 35, 36, 37, 38, 39, 40, 41, 42, 43, 44, 14, 15, 16, 17, 18, 19, 20, 21, 22, 23, 24, 25, 26, 27, 28, 29] (by decide +kernel) (by decide +kernel)) (goodIn_sub (fun _ h => List.mem_cons_of_mem _ (List.mem_append_right _ h)) (by decide +kernel))
set_option maxRecDepth 20000 in
theorem gX4_owes_X4_memberOrThrow : GoodIn wsX4_owes (wsV RX4 52 RX4 yX4_memberOrThrow wsX4_memberOrThrow) := goodIn_app (goodIn_of _ (by decide +kernel)) ggX4_owes_X4_memberOrThrow
theorem dX4_owes_0 : decode cX4_owes 0 = .ok (.aload_n 0, 1) := by decide +kernel
theorem dX4_owes_1 : decode cX4_owes 1 = .ok (.iload_n 1, 1) := by decide +kernel
theorem dX4_owes_2 : decode cX4_owes 2 = .ok (.invokevirtual 52, 3) := by decide +kernel
theorem dX4_owes_5 : decode cX4_owes 5 = .ok (.astore_n 3, 1) := by decide +kernel
theorem dX4_owes_6 : decode cX4_owes 6 = .ok (.aload_n 0, 1) := by decide +kernel
theorem dX4_owes_7 : decode cX4_owes 7 = .ok (.iload_n 2, 1) := by decide +kernel
theorem dX4_owes_8 : decode cX4_owes 8 = .ok (.invokevirtual 52, 3) := by decide +kernel
theorem dX4_owes_11 : decode cX4_owes 11 = .ok (.astore 4, 2) := by decide +kernel
theorem dX4_owes_13 : decode cX4_owes 13 = .ok (.aload_n 3, 1) := by decide +kernel
theorem dX4_owes_14 : decode cX4_owes 14 = .ok (.getfield 205, 3) := by decide +kernel
theorem dX4_owes_17 : decode cX4_owes 17 = .ok (.aload 4, 2) := by decide +kernel
theorem dX4_owes_19 : decode cX4_owes 19 = .ok (.getfield 208, 3) := by decide +kernel
theorem dX4_owes_22 : decode cX4_owes 22 = .ok (.iaload, 1) := by decide +kernel
theorem dX4_owes_23 : decode cX4_owes 23 = .ok (.ireturn, 1) := by decide +kernel
set_option maxRecDepth 20000 in
theorem ggX4_count_X4_numberOf : GoodIn wsX4_count wsX4_numberOf := goodIn_r _ [7, 8, 9, 10, 11, 12, 13, 14, 15, 16, 17, 18, 19, 20, 21, 22, 23, 24, 25, 26, 27, 28, 29, 30, 31, 32, 33, 34, 35, 36, 37, 38, 39, 40, 41, 42, 43, 44, 45, 46, 47, 48, 49, 50, 51, 52, 53, 54, 55, 56, 57, 58, 59, 60, 61, 62, 63, 64, 65, 66, 67, 68, 69, 70, 71, 72, 73, 74, 75, 76, 77, 78, 79, 80, 81, 82, 83, 84, 85] (by decide +kernel) (by decide +kernel)
set_option maxRecDepth 20000 in
theorem gX4_count_X4_numberOf : GoodIn wsX4_count (wsV RX4 213 RX4 yX4_numberOf wsX4_numberOf) := goodIn_app (goodIn_of _ (by decide +kernel)) ggX4_count_X4_numberOf
theorem dX4_count_0 : decode cX4_count 0 = .ok (.iload_n 1, 1) := by decide +kernel
theorem dX4_count_1 : decode cX4_count 1 = .ok (.ifCond .lt 9, 3) := by decide +kernel
theorem dX4_count_4 : decode cX4_count 4 = .ok (.iload_n 1, 1) := by decide +kernel
theorem dX4_count_5 : decode cX4_count 5 = .ok (.bipush 16, 2) := by decide +kernel
theorem dX4_count_7 : decode cX4_count 7 = .ok (.if_icmp .lt 13, 3) := by decide +kernel
theorem dX4_count_10 : decode cX4_count 10 = .ok (.new 66, 3) := by decide +kernel
theorem dX4_count_13 : decode cX4_count 13 = .ok (.dup, 1) := by decide +kernel
theorem dX4_count_14 : decode cX4_count 14 = .ok (.ldc 211, 2) := by decide +kernel
theorem dX4_count_16 : decode cX4_count 16 = .ok (.invokespecial 70, 3) := by decide +kernel
theorem dX4_count_19 : decode cX4_count 19 = .ok (.athrow, 1) := by decide +kernel
theorem dX4_count_20 : decode cX4_count 20 = .ok (.aload_n 0, 1) := by decide +kernel
theorem dX4_count_21 : decode cX4_count 21 = .ok (.iload_n 1, 1) := by decide +kernel
theorem dX4_count_22 : decode cX4_count 22 = .ok (.invokevirtual 213, 3) := by decide +kernel
theorem dX4_count_25 : decode cX4_count 25 = .ok (.ireturn, 1) := by decide +kernel
set_option maxRecDepth 20000 in
theorem ggX4_setting_X4_checkSetting : GoodIn wsX4_setting wsX4_checkSetting := goodIn_ca (goodIn_r _ [5, 6, 7] (by decide +kernel) (by decide +kernel)) (goodIn_sub (fun _ h => List.mem_cons_of_mem _ (List.mem_append_right _ h)) (by decide +kernel))
set_option maxRecDepth 20000 in
theorem gX4_setting_X4_checkSetting : GoodIn wsX4_setting (va_wsS RX4 142 yX4_checkSetting wsX4_checkSetting) := goodIn_app (goodIn_of _ (by decide +kernel)) ggX4_setting_X4_checkSetting
theorem dX4_setting_0 : decode cX4_setting 0 = .ok (.iload_n 1, 1) := by decide +kernel
theorem dX4_setting_1 : decode cX4_setting 1 = .ok (.invokestatic 142, 3) := by decide +kernel
theorem dX4_setting_4 : decode cX4_setting 4 = .ok (.aload_n 0, 1) := by decide +kernel
theorem dX4_setting_5 : decode cX4_setting 5 = .ok (.getfield 10, 3) := by decide +kernel
theorem dX4_setting_8 : decode cX4_setting 8 = .ok (.getfield 154, 3) := by decide +kernel
theorem dX4_setting_11 : decode cX4_setting 11 = .ok (.iload_n 1, 1) := by decide +kernel
theorem dX4_setting_12 : decode cX4_setting 12 = .ok (.iaload, 1) := by decide +kernel
theorem dX4_setting_13 : decode cX4_setting 13 = .ok (.ireturn, 1) := by decide +kernel
set_option maxRecDepth 20000 in
theorem ggX4_ifAbsent_X4_tryWeek : GoodIn wsX4_ifAbsent wsX4_tryWeek := goodIn_r _ [7, 8, 9, 10, 11, 12, 13, 14, 15, 16, 17, 18, 19, 20, 21, 22, 23, 24, 25, 26, 27, 28, 29, 30, 31, 32, 33, 34, 35, 36, 37, 38, 39, 40, 41, 42, 43, 44, 45, 46, 47, 48, 49, 50, 51, 52, 53, 54, 55, 56, 57, 58, 59, 60, 61, 62, 63, 64, 65, 66, 67, 68, 69, 70, 71, 72, 73, 74, 75, 76, 77, 78, 79, 80, 81, 82, 83, 84, 85, 86, 87, 88, 89, 90, 91, 92, 93, 94, 95, 96, 97, 98, 99, 100, 101, 102, 103, 104, 105, 106, 107, 108, 109, 110, 111, 112, 113, 114, 115, 116, 133, 134, 135, 136, 137, 138, 139, 140, 141, 142, 143, 144, 145, 146, 147, 148, 149, 150, 151, 152, 153, 154, 155, 156, 157, 158, 159, 160, 161, 162, 163] (by decide +kernel) (by decide +kernel)
set_option maxRecDepth 20000 in
theorem gX4_ifAbsent_X4_tryWeek : GoodIn wsX4_ifAbsent (wsV RX4 219 RX4 yX4_tryWeek wsX4_tryWeek) := goodIn_app (goodIn_of _ (by decide +kernel)) ggX4_ifAbsent_X4_tryWeek
set_option maxRecDepth 20000 in
theorem ggX4_ifAbsent_X4_outcome : GoodIn wsX4_ifAbsent wsX4_outcome := goodIn_r _ [120, 8, 9, 121, 11, 122, 123, 14, 124, 125, 126, 113, 30, 114, 115, 47, 127, 128, 129, 130, 131, 76, 132, 133, 134, 135, 136, 137, 138, 139, 140, 141, 142, 143, 144, 145, 146, 147, 148, 149, 150, 151, 152, 153, 154, 155, 156, 157, 158, 159, 160, 161, 162, 163] (by decide +kernel) (by decide +kernel)
set_option maxRecDepth 20000 in
theorem gX4_ifAbsent_X4_outcome : GoodIn wsX4_ifAbsent (wsV RX4 222 RX4 yX4_outcome wsX4_outcome) := goodIn_app (goodIn_of _ (by decide +kernel)) ggX4_ifAbsent_X4_outcome
theorem dX4_ifAbsent_0 : decode cX4_ifAbsent 0 = .ok (.iload_n 1, 1) := by decide +kernel
theorem dX4_ifAbsent_1 : decode cX4_ifAbsent 1 = .ok (.ifCond .lt 19, 3) := by decide +kernel
theorem dX4_ifAbsent_4 : decode cX4_ifAbsent 4 = .ok (.iload_n 1, 1) := by decide +kernel
theorem dX4_ifAbsent_5 : decode cX4_ifAbsent 5 = .ok (.sipush 255, 3) := by decide +kernel
theorem dX4_ifAbsent_8 : decode cX4_ifAbsent 8 = .ok (.if_icmp .gt 12, 3) := by decide +kernel
theorem dX4_ifAbsent_11 : decode cX4_ifAbsent 11 = .ok (.iload_n 2, 1) := by decide +kernel
theorem dX4_ifAbsent_12 : decode cX4_ifAbsent 12 = .ok (.ifCond .lt 8, 3) := by decide +kernel
theorem dX4_ifAbsent_15 : decode cX4_ifAbsent 15 = .ok (.iload_n 2, 1) := by decide +kernel
theorem dX4_ifAbsent_16 : decode cX4_ifAbsent 16 = .ok (.iconst 5, 1) := by decide +kernel
theorem dX4_ifAbsent_17 : decode cX4_ifAbsent 17 = .ok (.if_icmp .lt 13, 3) := by decide +kernel
theorem dX4_ifAbsent_20 : decode cX4_ifAbsent 20 = .ok (.new 66, 3) := by decide +kernel
theorem dX4_ifAbsent_23 : decode cX4_ifAbsent 23 = .ok (.dup, 1) := by decide +kernel
theorem dX4_ifAbsent_24 : decode cX4_ifAbsent 24 = .ok (.ldc 217, 2) := by decide +kernel
theorem dX4_ifAbsent_26 : decode cX4_ifAbsent 26 = .ok (.invokespecial 70, 3) := by decide +kernel
theorem dX4_ifAbsent_29 : decode cX4_ifAbsent 29 = .ok (.athrow, 1) := by decide +kernel
theorem dX4_ifAbsent_30 : decode cX4_ifAbsent 30 = .ok (.aload_n 0, 1) := by decide +kernel
theorem dX4_ifAbsent_31 : decode cX4_ifAbsent 31 = .ok (.iload_n 1, 1) := by decide +kernel
theorem dX4_ifAbsent_32 : decode cX4_ifAbsent 32 = .ok (.invokevirtual 219, 3) := by decide +kernel
theorem dX4_ifAbsent_35 : decode cX4_ifAbsent 35 = .ok (.aload_n 0, 1) := by decide +kernel
theorem dX4_ifAbsent_36 : decode cX4_ifAbsent 36 = .ok (.iload_n 2, 1) := by decide +kernel
theorem dX4_ifAbsent_37 : decode cX4_ifAbsent 37 = .ok (.invokevirtual 222, 3) := by decide +kernel
theorem dX4_ifAbsent_40 : decode cX4_ifAbsent 40 = .ok (.ireturn, 1) := by decide +kernel
set_option maxRecDepth 20000 in
theorem ggX4_fundLasts_X4_memberOrThrow : GoodIn wsX4_fundLasts wsX4_memberOrThrow := goodIn_ca (goodIn_r _ [6, 7, 8, 1, 9, 10, 11, 12, 13, 23, 24, 25, 26, 27, 28, 29, 30, 31, 32, 33, 34, 35, 36, 37, 38, 39, 40, 41, 42, 43, 44, 45, 46, 47, 48, 49, 50, 51, 52, 53] (by decide +kernel) (by decide +kernel)) (goodIn_sub (fun _ h => List.mem_cons_of_mem _ (List.mem_append_right _ h)) (by decide +kernel))
set_option maxRecDepth 20000 in
theorem gX4_fundLasts_X4_memberOrThrow : GoodIn wsX4_fundLasts (wsV RX4 52 RX4 yX4_memberOrThrow wsX4_memberOrThrow) := goodIn_app (goodIn_of _ (by decide +kernel)) ggX4_fundLasts_X4_memberOrThrow
set_option maxRecDepth 20000 in
theorem ggX4_fundLasts_X0_weeksOfFund : GoodIn wsX4_fundLasts wsX0_weeksOfFund := goodIn_r _ [16, 17, 18, 19, 20, 21, 10, 22, 13, 27, 28, 29, 30, 31, 32, 33, 34, 35, 36, 37, 38, 39, 40, 41, 42, 43, 44, 45, 46, 47, 48, 49, 50, 51, 52, 53] (by decide +kernel) (by decide +kernel)
set_option maxRecDepth 20000 in
theorem gX4_fundLasts_X0_weeksOfFund_n225 : GoodIn wsX4_fundLasts (wsX0_weeksOfFund) := ggX4_fundLasts_X0_weeksOfFund
theorem dX4_fundLasts_0 : decode cX4_fundLasts 0 = .ok (.aload_n 0, 1) := by decide +kernel
theorem dX4_fundLasts_1 : decode cX4_fundLasts 1 = .ok (.getfield 10, 3) := by decide +kernel
theorem dX4_fundLasts_4 : decode cX4_fundLasts 4 = .ok (.aload_n 0, 1) := by decide +kernel
theorem dX4_fundLasts_5 : decode cX4_fundLasts 5 = .ok (.iload_n 1, 1) := by decide +kernel
theorem dX4_fundLasts_6 : decode cX4_fundLasts 6 = .ok (.invokevirtual 52, 3) := by decide +kernel
theorem dX4_fundLasts_9 : decode cX4_fundLasts 9 = .ok (.invokevirtual 225, 3) := by decide +kernel
theorem dX4_fundLasts_12 : decode cX4_fundLasts 12 = .ok (.ireturn, 1) := by decide +kernel
set_option maxRecDepth 20000 in
theorem ggX4_weakest_X0_weakestNumber : GoodIn wsX4_weakest wsX0_weakestNumber := goodIn_r _ [5, 6, 7, 8, 9, 10, 3, 11, 12, 13, 14, 15, 16, 17, 18, 19, 20, 21, 22, 23, 24, 25, 26, 27, 32, 33, 34, 35, 36, 37, 38, 39, 40, 41, 42, 43, 44, 45, 46, 47, 48, 49, 50, 51, 52, 53, 54, 55, 56, 57, 58] (by decide +kernel) (by decide +kernel)
set_option maxRecDepth 20000 in
theorem gX4_weakest_X0_weakestNumber_n228 : GoodIn wsX4_weakest (wsX0_weakestNumber) := ggX4_weakest_X0_weakestNumber
theorem dX4_weakest_0 : decode cX4_weakest 0 = .ok (.aload_n 0, 1) := by decide +kernel
theorem dX4_weakest_1 : decode cX4_weakest 1 = .ok (.getfield 10, 3) := by decide +kernel
theorem dX4_weakest_4 : decode cX4_weakest 4 = .ok (.invokevirtual 228, 3) := by decide +kernel
theorem dX4_weakest_7 : decode cX4_weakest 7 = .ok (.ireturn, 1) := by decide +kernel
set_option maxRecDepth 20000 in
theorem ggX4_weeksToGo_X0_mostLoanWeeks : GoodIn wsX4_weeksToGo wsX0_mostLoanWeeks := goodIn_r _ [5, 6, 7, 8, 9, 10, 15, 16, 17, 18, 19, 20, 21, 22, 23, 24, 25, 26, 27, 28, 29, 30, 31, 32, 33, 34, 35, 36, 37, 38, 39, 40, 41] (by decide +kernel) (by decide +kernel)
set_option maxRecDepth 20000 in
theorem gX4_weeksToGo_X0_mostLoanWeeks_n231 : GoodIn wsX4_weeksToGo (wsX0_mostLoanWeeks) := ggX4_weeksToGo_X0_mostLoanWeeks
theorem dX4_weeksToGo_0 : decode cX4_weeksToGo 0 = .ok (.aload_n 0, 1) := by decide +kernel
theorem dX4_weeksToGo_1 : decode cX4_weeksToGo 1 = .ok (.getfield 10, 3) := by decide +kernel
theorem dX4_weeksToGo_4 : decode cX4_weeksToGo 4 = .ok (.invokevirtual 231, 3) := by decide +kernel
theorem dX4_weeksToGo_7 : decode cX4_weeksToGo 7 = .ok (.ireturn, 1) := by decide +kernel
set_option maxRecDepth 20000 in
theorem ggX4_ifCycle_X4_memberOrThrow : GoodIn wsX4_ifCycle wsX4_memberOrThrow := goodIn_ca (goodIn_r _ [5, 6, 7, 8, 9, 10, 11, 12, 13, 27, 28, 29, 30, 31, 32, 33, 34, 35, 36, 37, 38, 39, 40, 41, 42, 43, 44, 45, 46, 47, 48, 49, 50, 51, 52, 53, 54, 55, 56, 57] (by decide +kernel) (by decide +kernel)) (goodIn_sub (fun _ h => List.mem_cons_of_mem _ (List.mem_append_right _ h)) (by decide +kernel))
set_option maxRecDepth 20000 in
theorem gX4_ifCycle_X4_memberOrThrow : GoodIn wsX4_ifCycle (wsV RX4 52 RX4 yX4_memberOrThrow wsX4_memberOrThrow) := goodIn_app (goodIn_of _ (by decide +kernel)) ggX4_ifCycle_X4_memberOrThrow
set_option maxRecDepth 20000 in
theorem ggX4_ifCycle_X2_nextLimit : GoodIn wsX4_ifCycle wsX2_nextLimit := goodIn_r _ [17, 18, 19, 20, 21, 22, 23, 24, 25, 26, 42, 43, 44, 45, 46, 47, 48, 49, 50, 51, 52, 53, 54, 55, 56, 57] (by decide +kernel) (by decide +kernel)
set_option maxRecDepth 20000 in
theorem gX4_ifCycle_X2_nextLimit_n234 : GoodIn wsX4_ifCycle (wsX2_nextLimit) := ggX4_ifCycle_X2_nextLimit
theorem dX4_ifCycle_0 : decode cX4_ifCycle 0 = .ok (.aload_n 0, 1) := by decide +kernel
theorem dX4_ifCycle_1 : decode cX4_ifCycle 1 = .ok (.iload_n 1, 1) := by decide +kernel
theorem dX4_ifCycle_2 : decode cX4_ifCycle 2 = .ok (.invokevirtual 52, 3) := by decide +kernel
theorem dX4_ifCycle_5 : decode cX4_ifCycle 5 = .ok (.invokevirtual 234, 3) := by decide +kernel
theorem dX4_ifCycle_8 : decode cX4_ifCycle 8 = .ok (.ireturn, 1) := by decide +kernel
set_option maxRecDepth 20000 in
theorem ggX4_paidShare_X0_shareOfPaid : GoodIn wsX4_paidShare wsX0_shareOfPaid := goodIn_r _ [5, 6, 7, 8, 13, 14, 15, 16, 17, 18, 19, 20, 21, 22, 23] (by decide +kernel) (by decide +kernel)
set_option maxRecDepth 20000 in
theorem gX4_paidShare_X0_shareOfPaid_n237 : GoodIn wsX4_paidShare (wsX0_shareOfPaid) := ggX4_paidShare_X0_shareOfPaid
theorem dX4_paidShare_0 : decode cX4_paidShare 0 = .ok (.aload_n 0, 1) := by decide +kernel
theorem dX4_paidShare_1 : decode cX4_paidShare 1 = .ok (.getfield 10, 3) := by decide +kernel
theorem dX4_paidShare_4 : decode cX4_paidShare 4 = .ok (.invokevirtual 237, 3) := by decide +kernel
theorem dX4_paidShare_7 : decode cX4_paidShare 7 = .ok (.dreturn, 1) := by decide +kernel
set_option maxRecDepth 20000 in
theorem ggX4_digest_X4_numberOf : GoodIn wsX4_digest wsX4_numberOf := goodIn_r _ [7, 8, 2, 9, 10, 11, 12, 13, 14, 15, 16, 17, 18, 19, 20, 21, 22, 23, 24, 25, 26, 27, 28, 29, 30, 31, 32, 33, 34, 35, 36, 37, 38, 39, 40, 41, 42, 43, 44, 45, 46, 47, 48, 49, 50, 201, 202, 203, 204, 232, 233, 234, 205, 206, 207, 208, 209, 210, 211, 212, 213, 214, 215, 216, 217, 218, 219, 220, 221, 222, 223, 224, 225, 226, 227, 228, 229, 230, 231] (by decide +kernel) (by decide +kernel)
set_option maxRecDepth 20000 in
theorem gX4_digest_X4_numberOf : GoodIn wsX4_digest (wsV RX4 213 RX4 yX4_numberOf wsX4_numberOf) := goodIn_app (goodIn_of _ (by decide +kernel)) ggX4_digest_X4_numberOf
set_option maxRecDepth 20000 in
theorem ggX4_digest_X4_mixed : GoodIn wsX4_digest wsX4_mixed := goodIn_r _ [53, 54] (by decide +kernel) (by decide +kernel)
set_option maxRecDepth 20000 in
theorem gX4_digest_X4_mixed : GoodIn wsX4_digest (va_wsS RX4 243 yX4_mixed wsX4_mixed) := goodIn_app (goodIn_of _ (by decide +kernel)) ggX4_digest_X4_mixed
set_option maxRecDepth 20000 in
theorem ggX4_digest_X4_mixedWithMember : GoodIn wsX4_digest wsX4_mixedWithMember := goodIn_r _ [58, 2, 51, 52, 6, 53, 54, 59, 60, 61, 62, 63, 10, 64, 65, 25, 66, 43, 67, 68, 69, 70, 71, 72, 73, 74, 75, 76, 77, 78, 79, 80, 81, 82, 83, 84, 85, 86, 87, 88, 89, 90, 91, 92, 93, 94, 42, 44, 45, 46, 95, 96, 97, 16, 98, 21, 22, 23, 24, 99, 100, 101, 102, 103, 104, 105, 106, 107, 108, 216, 217, 218, 219, 220, 221, 222, 223, 224, 225, 226, 227, 228, 229, 230, 231, 201, 202, 203, 204, 205, 206, 207, 208, 209, 210, 211, 212, 213, 214, 215] (by decide +kernel) (by decide +kernel)
set_option maxRecDepth 20000 in
theorem gX4_digest_X4_mixedWithMember : GoodIn wsX4_digest (wsV RX4 254 RX4 yX4_mixedWithMember wsX4_mixedWithMember) := goodIn_app (goodIn_of _ (by decide +kernel)) ggX4_digest_X4_mixedWithMember
set_option maxRecDepth 20000 in
theorem ggX4_digest_X4_mixedWithOutcomes : GoodIn wsX4_digest wsX4_mixedWithOutcomes := goodIn_r _ [112, 113, 114, 115, 6, 116, 117, 2, 118, 10, 119, 120, 25, 98, 121, 122, 123, 124, 125, 13, 14, 15, 16, 17, 18, 19, 20, 126, 43, 127, 128, 129, 69, 70, 93, 84, 71, 72, 73, 74, 75, 76, 77, 78, 79, 46, 130, 131, 132, 133, 134, 135, 136, 86, 87, 88, 137, 138, 139, 140, 81, 82, 83, 85, 89, 90, 91, 92, 141, 142, 143, 144, 145, 103, 104, 105, 21, 22, 23, 24, 47, 48, 49, 50, 146, 147, 148, 149, 150, 151, 152, 153, 154, 155, 156, 157, 158, 159, 160, 161, 162, 163, 164, 165, 166, 167, 168, 169, 170, 171, 94, 42, 44, 45, 172, 173, 174, 175, 176, 31, 32, 33, 39, 40, 41, 177, 178, 179, 180, 107, 108, 51, 52, 53, 54, 201, 202, 203, 204, 205, 206, 207, 208, 209, 210, 211, 212, 213, 214, 215, 216, 217, 218, 219, 220, 221, 222, 223, 224, 225, 226, 227, 228, 229, 230, 231] (by decide +kernel) (by decide +kernel)
set_option maxRecDepth 20000 in
theorem gX4_digest_X4_mixedWithOutcomes : GoodIn wsX4_digest (wsV RX4 258 RX4 yX4_mixedWithOutcomes wsX4_mixedWithOutcomes) := goodIn_app (goodIn_of _ (by decide +kernel)) ggX4_digest_X4_mixedWithOutcomes
set_option maxRecDepth 20000 in
theorem ggX4_digest_X0_weakestNumber : GoodIn wsX4_digest wsX0_weakestNumber := goodIn_r _ [183, 25, 16, 21, 22, 23, 10, 24, 81, 43, 82, 83, 84, 85, 86, 87, 88, 72, 89, 90, 91, 92, 71, 93, 205, 206, 207, 208, 209, 210, 211, 212, 213, 214, 215, 216, 217, 218, 219, 220, 221, 222, 223, 224, 225, 226, 227, 228, 229, 230, 231] (by decide +kernel) (by decide +kernel)
set_option maxRecDepth 20000 in
theorem gX4_digest_X0_weakestNumber_n228 : GoodIn wsX4_digest (wsX0_weakestNumber) := ggX4_digest_X0_weakestNumber
set_option maxRecDepth 20000 in
theorem ggX4_digest_X0_mostLoanWeeks : GoodIn wsX4_digest wsX0_mostLoanWeeks := goodIn_r _ [186, 25, 180, 107, 104, 108, 205, 206, 207, 208, 209, 210, 211, 212, 213, 214, 215, 216, 217, 218, 219, 220, 221, 222, 223, 224, 225, 226, 227, 228, 229, 230, 231] (by decide +kernel) (by decide +kernel)
set_option maxRecDepth 20000 in
theorem gX4_digest_X0_mostLoanWeeks_n231 : GoodIn wsX4_digest (wsX0_mostLoanWeeks) := ggX4_digest_X0_mostLoanWeeks
set_option maxRecDepth 20000 in
theorem ggX4_digest_X0_shareOfPaid : GoodIn wsX4_digest wsX0_shareOfPaid := goodIn_r _ [189, 17, 18, 19, 205, 206, 207, 208, 209, 210, 211, 212, 213, 214, 215] (by decide +kernel) (by decide +kernel)
set_option maxRecDepth 20000 in
theorem gX4_digest_X0_shareOfPaid_n237 : GoodIn wsX4_digest (wsX0_shareOfPaid) := ggX4_digest_X0_shareOfPaid
set_option maxRecDepth 20000 in
theorem ggX4_digest_X4_bitsOf : GoodIn wsX4_digest wsX4_bitsOf := goodIn_r _ [192, 193, 194, 195] (by decide +kernel) (by decide +kernel)
set_option maxRecDepth 20000 in
theorem gX4_digest_X4_bitsOf : GoodIn wsX4_digest (va_wsS RX4 262 yX4_bitsOf wsX4_bitsOf) := goodIn_app (goodIn_of _ (by decide +kernel)) ggX4_digest_X4_bitsOf
set_option maxRecDepth 20000 in
theorem ggX4_digest_X4_mixedWithText : GoodIn wsX4_digest wsX4_mixedWithText := goodIn_r _ [199, 200, 51, 52, 6, 53, 54, 201, 202, 203, 204, 235, 236, 237, 238, 239, 240, 241] (by decide +kernel) (by decide +kernel)
set_option maxRecDepth 20000 in
theorem gX4_digest_X4_mixedWithText : GoodIn wsX4_digest (wsV RX4 266 RX4 yX4_mixedWithText wsX4_mixedWithText) := goodIn_app (goodIn_of _ (by decide +kernel)) ggX4_digest_X4_mixedWithText
theorem dX4_digest_0 : decode cX4_digest 0 = .ok (.ldc2_w 241, 3) := by decide +kernel
theorem dX4_digest_3 : decode cX4_digest 3 = .ok (.lstore_n 1, 1) := by decide +kernel
theorem dX4_digest_4 : decode cX4_digest 4 = .ok (.iconst 0, 1) := by decide +kernel
theorem dX4_digest_5 : decode cX4_digest 5 = .ok (.istore_n 3, 1) := by decide +kernel
theorem dX4_digest_6 : decode cX4_digest 6 = .ok (.iload_n 3, 1) := by decide +kernel
theorem dX4_digest_7 : decode cX4_digest 7 = .ok (.bipush 16, 2) := by decide +kernel
theorem dX4_digest_9 : decode cX4_digest 9 = .ok (.if_icmp .ge 20, 3) := by decide +kernel
theorem dX4_digest_12 : decode cX4_digest 12 = .ok (.lload_n 1, 1) := by decide +kernel
theorem dX4_digest_13 : decode cX4_digest 13 = .ok (.aload_n 0, 1) := by decide +kernel
theorem dX4_digest_14 : decode cX4_digest 14 = .ok (.iload_n 3, 1) := by decide +kernel
theorem dX4_digest_15 : decode cX4_digest 15 = .ok (.invokevirtual 213, 3) := by decide +kernel
theorem dX4_digest_18 : decode cX4_digest 18 = .ok (.i2l, 1) := by decide +kernel
theorem dX4_digest_19 : decode cX4_digest 19 = .ok (.invokestatic 243, 3) := by decide +kernel
theorem dX4_digest_22 : decode cX4_digest 22 = .ok (.lstore_n 1, 1) := by decide +kernel
theorem dX4_digest_23 : decode cX4_digest 23 = .ok (.iinc 3 1, 3) := by decide +kernel
theorem dX4_digest_26 : decode cX4_digest 26 = .ok (.goto (-20), 3) := by decide +kernel
theorem dX4_digest_29 : decode cX4_digest 29 = .ok (.iconst 0, 1) := by decide +kernel
theorem dX4_digest_30 : decode cX4_digest 30 = .ok (.istore_n 3, 1) := by decide +kernel
theorem dX4_digest_31 : decode cX4_digest 31 = .ok (.iload_n 3, 1) := by decide +kernel
theorem dX4_digest_32 : decode cX4_digest 32 = .ok (.iconst 4, 1) := by decide +kernel
theorem dX4_digest_33 : decode cX4_digest 33 = .ok (.if_icmp .ge 24, 3) := by decide +kernel
theorem dX4_digest_36 : decode cX4_digest 36 = .ok (.lload_n 1, 1) := by decide +kernel
theorem dX4_digest_37 : decode cX4_digest 37 = .ok (.aload_n 0, 1) := by decide +kernel
theorem dX4_digest_38 : decode cX4_digest 38 = .ok (.getfield 10, 3) := by decide +kernel
theorem dX4_digest_41 : decode cX4_digest 41 = .ok (.getfield 154, 3) := by decide +kernel
theorem dX4_digest_44 : decode cX4_digest 44 = .ok (.iload_n 3, 1) := by decide +kernel
theorem dX4_digest_45 : decode cX4_digest 45 = .ok (.iaload, 1) := by decide +kernel
theorem dX4_digest_46 : decode cX4_digest 46 = .ok (.i2l, 1) := by decide +kernel
theorem dX4_digest_47 : decode cX4_digest 47 = .ok (.invokestatic 243, 3) := by decide +kernel
theorem dX4_digest_50 : decode cX4_digest 50 = .ok (.lstore_n 1, 1) := by decide +kernel
theorem dX4_digest_51 : decode cX4_digest 51 = .ok (.iinc 3 1, 3) := by decide +kernel
theorem dX4_digest_54 : decode cX4_digest 54 = .ok (.goto (-23), 3) := by decide +kernel
theorem dX4_digest_57 : decode cX4_digest 57 = .ok (.aload_n 0, 1) := by decide +kernel
theorem dX4_digest_58 : decode cX4_digest 58 = .ok (.getfield 10, 3) := by decide +kernel
theorem dX4_digest_61 : decode cX4_digest 61 = .ok (.getfield 247, 3) := by decide +kernel
theorem dX4_digest_64 : decode cX4_digest 64 = .ok (.astore_n 3, 1) := by decide +kernel
theorem dX4_digest_65 : decode cX4_digest 65 = .ok (.aload_n 3, 1) := by decide +kernel
theorem dX4_digest_66 : decode cX4_digest 66 = .ok (.arraylength, 1) := by decide +kernel
theorem dX4_digest_67 : decode cX4_digest 67 = .ok (.istore 4, 2) := by decide +kernel
theorem dX4_digest_69 : decode cX4_digest 69 = .ok (.iconst 0, 1) := by decide +kernel
theorem dX4_digest_70 : decode cX4_digest 70 = .ok (.istore 5, 2) := by decide +kernel
theorem dX4_digest_72 : decode cX4_digest 72 = .ok (.iload 5, 2) := by decide +kernel
theorem dX4_digest_74 : decode cX4_digest 74 = .ok (.iload 4, 2) := by decide +kernel
theorem dX4_digest_76 : decode cX4_digest 76 = .ok (.if_icmp .ge 31, 3) := by decide +kernel
theorem dX4_digest_79 : decode cX4_digest 79 = .ok (.aload_n 3, 1) := by decide +kernel
theorem dX4_digest_80 : decode cX4_digest 80 = .ok (.iload 5, 2) := by decide +kernel
theorem dX4_digest_82 : decode cX4_digest 82 = .ok (.aaload, 1) := by decide +kernel
theorem dX4_digest_83 : decode cX4_digest 83 = .ok (.astore 6, 2) := by decide +kernel
theorem dX4_digest_85 : decode cX4_digest 85 = .ok (.aload 6, 2) := by decide +kernel
theorem dX4_digest_87 : decode cX4_digest 87 = .ok (.getfield 251, 3) := by decide +kernel
theorem dX4_digest_90 : decode cX4_digest 90 = .ok (.ifCond .eq 11, 3) := by decide +kernel
theorem dX4_digest_93 : decode cX4_digest 93 = .ok (.aload_n 0, 1) := by decide +kernel
theorem dX4_digest_94 : decode cX4_digest 94 = .ok (.lload_n 1, 1) := by decide +kernel
theorem dX4_digest_95 : decode cX4_digest 95 = .ok (.aload 6, 2) := by decide +kernel
theorem dX4_digest_97 : decode cX4_digest 97 = .ok (.invokevirtual 254, 3) := by decide +kernel
theorem dX4_digest_100 : decode cX4_digest 100 = .ok (.lstore_n 1, 1) := by decide +kernel
theorem dX4_digest_101 : decode cX4_digest 101 = .ok (.iinc 5 1, 3) := by decide +kernel
theorem dX4_digest_104 : decode cX4_digest 104 = .ok (.goto (-32), 3) := by decide +kernel
theorem dX4_digest_107 : decode cX4_digest 107 = .ok (.aload_n 0, 1) := by decide +kernel
theorem dX4_digest_108 : decode cX4_digest 108 = .ok (.lload_n 1, 1) := by decide +kernel
theorem dX4_digest_109 : decode cX4_digest 109 = .ok (.iconst 0, 1) := by decide +kernel
theorem dX4_digest_110 : decode cX4_digest 110 = .ok (.invokevirtual 258, 3) := by decide +kernel
theorem dX4_digest_113 : decode cX4_digest 113 = .ok (.lstore_n 1, 1) := by decide +kernel
theorem dX4_digest_114 : decode cX4_digest 114 = .ok (.aload_n 0, 1) := by decide +kernel
theorem dX4_digest_115 : decode cX4_digest 115 = .ok (.lload_n 1, 1) := by decide +kernel
theorem dX4_digest_116 : decode cX4_digest 116 = .ok (.iconst 1, 1) := by decide +kernel
theorem dX4_digest_117 : decode cX4_digest 117 = .ok (.invokevirtual 258, 3) := by decide +kernel
theorem dX4_digest_120 : decode cX4_digest 120 = .ok (.lstore_n 1, 1) := by decide +kernel
theorem dX4_digest_121 : decode cX4_digest 121 = .ok (.aload_n 0, 1) := by decide +kernel
theorem dX4_digest_122 : decode cX4_digest 122 = .ok (.lload_n 1, 1) := by decide +kernel
theorem dX4_digest_123 : decode cX4_digest 123 = .ok (.sipush 255, 3) := by decide +kernel
theorem dX4_digest_126 : decode cX4_digest 126 = .ok (.invokevirtual 258, 3) := by decide +kernel
theorem dX4_digest_129 : decode cX4_digest 129 = .ok (.lstore_n 1, 1) := by decide +kernel
theorem dX4_digest_130 : decode cX4_digest 130 = .ok (.lload_n 1, 1) := by decide +kernel
theorem dX4_digest_131 : decode cX4_digest 131 = .ok (.aload_n 0, 1) := by decide +kernel
theorem dX4_digest_132 : decode cX4_digest 132 = .ok (.getfield 10, 3) := by decide +kernel
theorem dX4_digest_135 : decode cX4_digest 135 = .ok (.invokevirtual 228, 3) := by decide +kernel
theorem dX4_digest_138 : decode cX4_digest 138 = .ok (.i2l, 1) := by decide +kernel
theorem dX4_digest_139 : decode cX4_digest 139 = .ok (.invokestatic 243, 3) := by decide +kernel
theorem dX4_digest_142 : decode cX4_digest 142 = .ok (.lstore_n 1, 1) := by decide +kernel
theorem dX4_digest_143 : decode cX4_digest 143 = .ok (.lload_n 1, 1) := by decide +kernel
theorem dX4_digest_144 : decode cX4_digest 144 = .ok (.aload_n 0, 1) := by decide +kernel
theorem dX4_digest_145 : decode cX4_digest 145 = .ok (.getfield 10, 3) := by decide +kernel
theorem dX4_digest_148 : decode cX4_digest 148 = .ok (.invokevirtual 231, 3) := by decide +kernel
theorem dX4_digest_151 : decode cX4_digest 151 = .ok (.i2l, 1) := by decide +kernel
theorem dX4_digest_152 : decode cX4_digest 152 = .ok (.invokestatic 243, 3) := by decide +kernel
theorem dX4_digest_155 : decode cX4_digest 155 = .ok (.lstore_n 1, 1) := by decide +kernel
theorem dX4_digest_156 : decode cX4_digest 156 = .ok (.lload_n 1, 1) := by decide +kernel
theorem dX4_digest_157 : decode cX4_digest 157 = .ok (.aload_n 0, 1) := by decide +kernel
theorem dX4_digest_158 : decode cX4_digest 158 = .ok (.getfield 10, 3) := by decide +kernel
