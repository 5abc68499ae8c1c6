theorem dX4_digest_161 : decode cX4_digest 161 = .ok (.invokevirtual 237, 3) := by decide +kernel
theorem dX4_digest_164 : decode cX4_digest 164 = .ok (.invokestatic 262, 3) := by decide +kernel
theorem dX4_digest_167 : decode cX4_digest 167 = .ok (.invokestatic 243, 3) := by decide +kernel
theorem dX4_digest_170 : decode cX4_digest 170 = .ok (.lstore_n 1, 1) := by decide +kernel
theorem dX4_digest_171 : decode cX4_digest 171 = .ok (.aload_n 0, 1) := by decide +kernel
theorem dX4_digest_172 : decode cX4_digest 172 = .ok (.lload_n 1, 1) := by decide +kernel
theorem dX4_digest_173 : decode cX4_digest 173 = .ok (.invokevirtual 266, 3) := by decide +kernel
theorem dX4_digest_176 : decode cX4_digest 176 = .ok (.lreturn, 1) := by decide +kernel
set_option maxRecDepth 20000 in
theorem ggX4_memberOrThrow_X0_find : GoodIn wsX4_memberOrThrow wsX0_find := goodIn_r _ [7, 8, 13, 14, 15, 16, 17, 18, 19, 20, 21, 22, 23, 24, 25, 26, 27, 28, 29, 30, 31, 32, 33, 34, 35, 36, 37, 38, 39] (by decide +kernel) (by decide +kernel)
set_option maxRecDepth 20000 in
theorem gX4_memberOrThrow_X0_find_n270 : GoodIn wsX4_memberOrThrow (wsX0_find) := ggX4_memberOrThrow_X0_find
theorem dX4_memberOrThrow_0 : decode cX4_memberOrThrow 0 = .ok (.aload_n 0, 1) := by decide +kernel
theorem dX4_memberOrThrow_1 : decode cX4_memberOrThrow 1 = .ok (.getfield 10, 3) := by decide +kernel
theorem dX4_memberOrThrow_4 : decode cX4_memberOrThrow 4 = .ok (.iload_n 1, 1) := by decide +kernel
theorem dX4_memberOrThrow_5 : decode cX4_memberOrThrow 5 = .ok (.invokevirtual 270, 3) := by decide +kernel
theorem dX4_memberOrThrow_8 : decode cX4_memberOrThrow 8 = .ok (.astore_n 2, 1) := by decide +kernel
theorem dX4_memberOrThrow_9 : decode cX4_memberOrThrow 9 = .ok (.aload_n 2, 1) := by decide +kernel
theorem dX4_memberOrThrow_10 : decode cX4_memberOrThrow 10 = .ok (.ifnonnull 14, 3) := by decide +kernel
theorem dX4_memberOrThrow_13 : decode cX4_memberOrThrow 13 = .ok (.new 273, 3) := by decide +kernel
theorem dX4_memberOrThrow_16 : decode cX4_memberOrThrow 16 = .ok (.dup, 1) := by decide +kernel
theorem dX4_memberOrThrow_17 : decode cX4_memberOrThrow 17 = .ok (.ldc_w 275, 3) := by decide +kernel
theorem dX4_memberOrThrow_20 : decode cX4_memberOrThrow 20 = .ok (.invokespecial 277, 3) := by decide +kernel
theorem dX4_memberOrThrow_23 : decode cX4_memberOrThrow 23 = .ok (.athrow, 1) := by decide +kernel
theorem dX4_memberOrThrow_24 : decode cX4_memberOrThrow 24 = .ok (.aload_n 2, 1) := by decide +kernel
theorem dX4_memberOrThrow_25 : decode cX4_memberOrThrow 25 = .ok (.areturn, 1) := by decide +kernel
theorem dX4_checkSetting_0 : decode cX4_checkSetting 0 = .ok (.iload_n 0, 1) := by decide +kernel
theorem dX4_checkSetting_1 : decode cX4_checkSetting 1 = .ok (.ifCond .lt 8, 3) := by decide +kernel
theorem dX4_checkSetting_4 : decode cX4_checkSetting 4 = .ok (.iload_n 0, 1) := by decide +kernel
theorem dX4_checkSetting_5 : decode cX4_checkSetting 5 = .ok (.iconst 4, 1) := by decide +kernel
theorem dX4_checkSetting_6 : decode cX4_checkSetting 6 = .ok (.if_icmp .lt 14, 3) := by decide +kernel
theorem dX4_checkSetting_9 : decode cX4_checkSetting 9 = .ok (.new 273, 3) := by decide +kernel
theorem dX4_checkSetting_12 : decode cX4_checkSetting 12 = .ok (.dup, 1) := by decide +kernel
theorem dX4_checkSetting_13 : decode cX4_checkSetting 13 = .ok (.ldc_w 278, 3) := by decide +kernel
theorem dX4_checkSetting_16 : decode cX4_checkSetting 16 = .ok (.invokespecial 277, 3) := by decide +kernel
theorem dX4_checkSetting_19 : decode cX4_checkSetting 19 = .ok (.athrow, 1) := by decide +kernel
theorem dX4_checkSetting_20 : decode cX4_checkSetting 20 = .ok (.return_, 1) := by decide +kernel
theorem dX4_checkMoney_0 : decode cX4_checkMoney 0 = .ok (.iload_n 0, 1) := by decide +kernel
theorem dX4_checkMoney_1 : decode cX4_checkMoney 1 = .ok (.iconst 1, 1) := by decide +kernel
theorem dX4_checkMoney_2 : decode cX4_checkMoney 2 = .ok (.if_icmp .lt 10, 3) := by decide +kernel
theorem dX4_checkMoney_5 : decode cX4_checkMoney 5 = .ok (.iload_n 0, 1) := by decide +kernel
theorem dX4_checkMoney_6 : decode cX4_checkMoney 6 = .ok (.sipush 2000, 3) := by decide +kernel
theorem dX4_checkMoney_9 : decode cX4_checkMoney 9 = .ok (.if_icmp .le 14, 3) := by decide +kernel
theorem dX4_checkMoney_12 : decode cX4_checkMoney 12 = .ok (.new 66, 3) := by decide +kernel
theorem dX4_checkMoney_15 : decode cX4_checkMoney 15 = .ok (.dup, 1) := by decide +kernel
theorem dX4_checkMoney_16 : decode cX4_checkMoney 16 = .ok (.ldc_w 280, 3) := by decide +kernel
theorem dX4_checkMoney_19 : decode cX4_checkMoney 19 = .ok (.invokespecial 70, 3) := by decide +kernel
theorem dX4_checkMoney_22 : decode cX4_checkMoney 22 = .ok (.athrow, 1) := by decide +kernel
theorem dX4_checkMoney_23 : decode cX4_checkMoney 23 = .ok (.return_, 1) := by decide +kernel
set_option maxRecDepth 20000 in
theorem ggX4_propertyOf_X0_owedTo : GoodIn wsX4_propertyOf wsX0_owedTo := goodIn_r _ [5, 6, 45, 46, 47, 48, 49, 50, 51, 52, 53, 54, 55, 56, 57, 58, 59, 60, 61, 62, 63, 64, 65, 66, 67, 68, 69, 70, 71] (by decide +kernel) (by decide +kernel)
set_option maxRecDepth 20000 in
theorem gX4_propertyOf_X0_owedTo_n282 : GoodIn wsX4_propertyOf (wsX0_owedTo) := ggX4_propertyOf_X0_owedTo
set_option maxRecDepth 20000 in
theorem ggX4_propertyOf_X2_property : GoodIn wsX4_propertyOf wsX2_property := goodIn_r _ [10, 11, 12, 13, 14, 15, 16, 17, 18, 19, 20, 21, 22, 23, 24, 8, 25, 26, 27, 28, 29, 30, 31, 32, 33, 34, 35, 36, 37, 38, 39, 40, 56, 57, 58, 59, 60, 61, 62, 63, 64, 65, 66, 67, 68, 69, 70, 71] (by decide +kernel) (by decide +kernel)
set_option maxRecDepth 20000 in
theorem gX4_propertyOf_X2_property_n285 : GoodIn wsX4_propertyOf (wsX2_property) := ggX4_propertyOf_X2_property
theorem dX4_propertyOf_0 : decode cX4_propertyOf 0 = .ok (.iload_n 2, 1) := by decide +kernel
theorem dX4_propertyOf_1 : decode cX4_propertyOf 1 = .ok (.bipush 11, 2) := by decide +kernel
theorem dX4_propertyOf_3 : decode cX4_propertyOf 3 = .ok (.if_icmp .ne 14, 3) := by decide +kernel
theorem dX4_propertyOf_6 : decode cX4_propertyOf 6 = .ok (.aload_n 0, 1) := by decide +kernel
theorem dX4_propertyOf_7 : decode cX4_propertyOf 7 = .ok (.getfield 10, 3) := by decide +kernel
theorem dX4_propertyOf_10 : decode cX4_propertyOf 10 = .ok (.aload_n 1, 1) := by decide +kernel
theorem dX4_propertyOf_11 : decode cX4_propertyOf 11 = .ok (.invokevirtual 282, 3) := by decide +kernel
theorem dX4_propertyOf_14 : decode cX4_propertyOf 14 = .ok (.goto 8, 3) := by decide +kernel
theorem dX4_propertyOf_17 : decode cX4_propertyOf 17 = .ok (.aload_n 1, 1) := by decide +kernel
theorem dX4_propertyOf_18 : decode cX4_propertyOf 18 = .ok (.iload_n 2, 1) := by decide +kernel
theorem dX4_propertyOf_19 : decode cX4_propertyOf 19 = .ok (.invokevirtual 285, 3) := by decide +kernel
theorem dX4_propertyOf_22 : decode cX4_propertyOf 22 = .ok (.ireturn, 1) := by decide +kernel
set_option maxRecDepth 20000 in
theorem ggX4_numberOf_X0_figure : GoodIn wsX4_numberOf wsX0_figure := goodIn_r _ [6, 7, 8, 9, 10, 11, 12, 13, 14, 15, 16, 17, 4, 18, 19, 20, 21, 22, 23, 24, 25, 26, 27, 28, 29, 30, 31, 32, 33, 34, 35, 36, 37, 38, 39, 40, 41, 42, 43, 44, 52, 53, 54, 55, 56, 57, 58, 59, 60, 61, 62, 63, 64, 65, 66, 67, 68, 69, 70, 71, 72, 73, 74, 75, 76, 77, 78] (by decide +kernel) (by decide +kernel)
set_option maxRecDepth 20000 in
theorem gX4_numberOf_X0_figure_n288 : GoodIn wsX4_numberOf (wsX0_figure) := ggX4_numberOf_X0_figure
theorem dX4_numberOf_0 : decode cX4_numberOf 0 = .ok (.iload_n 1, 1) := by decide +kernel
theorem dX4_numberOf_1 : decode cX4_numberOf 1 = .ok (.bipush 15, 2) := by decide +kernel
theorem dX4_numberOf_3 : decode cX4_numberOf 3 = .ok (.if_icmp .ne 13, 3) := by decide +kernel
theorem dX4_numberOf_6 : decode cX4_numberOf 6 = .ok (.aload_n 0, 1) := by decide +kernel
theorem dX4_numberOf_7 : decode cX4_numberOf 7 = .ok (.getfield 22, 3) := by decide +kernel
theorem dX4_numberOf_10 : decode cX4_numberOf 10 = .ok (.getfield 192, 3) := by decide +kernel
theorem dX4_numberOf_13 : decode cX4_numberOf 13 = .ok (.goto 11, 3) := by decide +kernel
theorem dX4_numberOf_16 : decode cX4_numberOf 16 = .ok (.aload_n 0, 1) := by decide +kernel
theorem dX4_numberOf_17 : decode cX4_numberOf 17 = .ok (.getfield 10, 3) := by decide +kernel
theorem dX4_numberOf_20 : decode cX4_numberOf 20 = .ok (.iload_n 1, 1) := by decide +kernel
theorem dX4_numberOf_21 : decode cX4_numberOf 21 = .ok (.invokevirtual 288, 3) := by decide +kernel
theorem dX4_numberOf_24 : decode cX4_numberOf 24 = .ok (.ireturn, 1) := by decide +kernel
set_option maxRecDepth 20000 in
theorem ggX4_carryOut_X4_carryOutWeek : GoodIn wsX4_carryOut wsX4_carryOutWeek := goodIn_r _ [7, 2, 8, 9, 10, 11, 12, 13, 14, 15, 16, 17, 18, 19, 20, 21, 22, 23, 24, 25, 26, 27, 28, 29, 30, 31, 32, 33, 34, 35, 36, 37, 38, 39, 40, 41, 42, 43, 44, 45, 46, 47, 48, 49, 50, 51, 52, 53, 54, 55, 56, 57, 58, 59, 60, 61, 62, 63, 64, 65, 66, 67, 68, 69, 70, 71, 72, 73, 74, 75, 76, 77, 78, 79, 80, 81, 82, 83, 84, 85, 86, 87, 88, 89, 90, 91, 92, 93, 94, 95, 96, 162, 163, 164, 165, 173, 174, 175, 176, 177, 178, 179, 180, 181, 182, 183, 184, 185, 186, 187, 188, 189, 190, 191, 192, 193, 194, 195, 196, 197, 198, 199] (by decide +kernel) (by decide +kernel)
set_option maxRecDepth 20000 in
theorem gX4_carryOut_X4_carryOutWeek : GoodIn wsX4_carryOut (wsV RX4 294 RX4 yX4_carryOutWeek wsX4_carryOutWeek) := goodIn_app (goodIn_of _ (by decide +kernel)) ggX4_carryOut_X4_carryOutWeek
set_option maxRecDepth 20000 in
theorem ggX4_carryOut_X4_carryOutCycle : GoodIn wsX4_carryOut wsX4_carryOutCycle := goodIn_r _ [100, 2, 101, 9, 102, 103, 104, 105, 106, 107, 16, 108, 109, 49, 110, 111, 112, 113, 114, 115, 116, 117, 118, 119, 20, 120, 121, 122, 123, 124, 48, 50, 125, 162, 163, 164, 165, 173, 174, 175, 176, 177, 178, 179, 180, 181, 182, 183, 184, 185, 186, 187, 188, 189, 190, 191, 192, 193, 194, 195, 196, 197, 198, 199] (by decide +kernel) (by decide +kernel)
set_option maxRecDepth 20000 in
theorem gX4_carryOut_X4_carryOutCycle : GoodIn wsX4_carryOut (wsV RX4 297 RX4 yX4_carryOutCycle wsX4_carryOutCycle) := goodIn_app (goodIn_of _ (by decide +kernel)) ggX4_carryOut_X4_carryOutCycle
set_option maxRecDepth 20000 in
theorem ggX4_carryOut_X0_find : GoodIn wsX4_carryOut wsX0_find := goodIn_r _ [82, 16, 173, 174, 175, 176, 177, 178, 179, 180, 181, 182, 183, 184, 185, 186, 187, 188, 189, 190, 191, 192, 193, 194, 195, 196, 197, 198, 199] (by decide +kernel) (by decide +kernel)
set_option maxRecDepth 20000 in
theorem gX4_carryOut_X0_find_n270 : GoodIn wsX4_carryOut (wsX0_find) := ggX4_carryOut_X0_find
set_option maxRecDepth 20000 in
theorem ggX4_carryOut_X4_carryOutFor : GoodIn wsX4_carryOut wsX4_carryOutFor := goodIn_r _ [129, 1, 130, 131, 132, 6, 133, 2, 134, 20, 135, 136, 123, 34, 19, 21, 22, 23, 137, 83, 84, 85, 86, 87, 88, 89, 90, 91, 92, 138, 9, 139, 140, 17, 141, 142, 143, 144, 66, 40, 33, 39, 145, 146, 147, 148, 149, 150, 151, 47, 48, 49, 50, 29, 46, 152, 153, 154, 155, 156, 157, 158, 18, 159, 160, 161, 162, 163, 164, 165, 166, 167, 168, 169, 170, 171, 172, 184, 185, 186, 187, 188, 189, 190, 191, 192, 193, 194, 195, 196, 197, 198, 199, 173, 174, 175, 176, 177, 178, 179, 180, 181, 182, 183] (by decide +kernel) (by decide +kernel)
set_option maxRecDepth 20000 in
theorem gX4_carryOut_X4_carryOutFor : GoodIn wsX4_carryOut (wsV RX4 303 RX4 yX4_carryOutFor wsX4_carryOutFor) := goodIn_app (goodIn_of _ (by decide +kernel)) ggX4_carryOut_X4_carryOutFor
theorem dX4_carryOut_0 : decode cX4_carryOut 0 = .ok (.aload_n 0, 1) := by decide +kernel
theorem dX4_carryOut_1 : decode cX4_carryOut 1 = .ok (.getfield 29, 3) := by decide +kernel
theorem dX4_carryOut_4 : decode cX4_carryOut 4 = .ok (.getfield 291, 3) := by decide +kernel
theorem dX4_carryOut_7 : decode cX4_carryOut 7 = .ok (.lookupswitch 35 #[(5, 25), (6, 30)], 25) := by decide +kernel
theorem dX4_carryOut_32 : decode cX4_carryOut 32 = .ok (.aload_n 0, 1) := by decide +kernel
theorem dX4_carryOut_33 : decode cX4_carryOut 33 = .ok (.invokevirtual 294, 3) := by decide +kernel
theorem dX4_carryOut_36 : decode cX4_carryOut 36 = .ok (.ireturn, 1) := by decide +kernel
theorem dX4_carryOut_37 : decode cX4_carryOut 37 = .ok (.aload_n 0, 1) := by decide +kernel
theorem dX4_carryOut_38 : decode cX4_carryOut 38 = .ok (.invokevirtual 297, 3) := by decide +kernel
theorem dX4_carryOut_41 : decode cX4_carryOut 41 = .ok (.ireturn, 1) := by decide +kernel
theorem dX4_carryOut_42 : decode cX4_carryOut 42 = .ok (.aload_n 0, 1) := by decide +kernel
theorem dX4_carryOut_43 : decode cX4_carryOut 43 = .ok (.getfield 10, 3) := by decide +kernel
theorem dX4_carryOut_46 : decode cX4_carryOut 46 = .ok (.aload_n 0, 1) := by decide +kernel
theorem dX4_carryOut_47 : decode cX4_carryOut 47 = .ok (.getfield 29, 3) := by decide +kernel
theorem dX4_carryOut_50 : decode cX4_carryOut 50 = .ok (.getfield 300, 3) := by decide +kernel
theorem dX4_carryOut_53 : decode cX4_carryOut 53 = .ok (.invokevirtual 270, 3) := by decide +kernel
theorem dX4_carryOut_56 : decode cX4_carryOut 56 = .ok (.astore_n 1, 1) := by decide +kernel
theorem dX4_carryOut_57 : decode cX4_carryOut 57 = .ok (.aload_n 1, 1) := by decide +kernel
theorem dX4_carryOut_58 : decode cX4_carryOut 58 = .ok (.ifnull 15, 3) := by decide +kernel
theorem dX4_carryOut_61 : decode cX4_carryOut 61 = .ok (.aload_n 0, 1) := by decide +kernel
theorem dX4_carryOut_62 : decode cX4_carryOut 62 = .ok (.aload_n 1, 1) := by decide +kernel
theorem dX4_carryOut_63 : decode cX4_carryOut 63 = .ok (.invokevirtual 303, 3) := by decide +kernel
theorem dX4_carryOut_66 : decode cX4_carryOut 66 = .ok (.ifCond .eq 7, 3) := by decide +kernel
theorem dX4_carryOut_69 : decode cX4_carryOut 69 = .ok (.iconst 1, 1) := by decide +kernel
theorem dX4_carryOut_70 : decode cX4_carryOut 70 = .ok (.goto 4, 3) := by decide +kernel
theorem dX4_carryOut_73 : decode cX4_carryOut 73 = .ok (.iconst 0, 1) := by decide +kernel
theorem dX4_carryOut_74 : decode cX4_carryOut 74 = .ok (.ireturn, 1) := by decide +kernel
set_option maxRecDepth 20000 in
theorem ggX4_carryOutWeek_X0_mayEndWeek : GoodIn wsX4_carryOutWeek wsX0_mayEndWeek := goodIn_r _ [5, 6, 95, 96, 97, 98, 99, 100, 101, 102, 103, 104, 105] (by decide +kernel) (by decide +kernel)
set_option maxRecDepth 20000 in
theorem gX4_carryOutWeek_X0_mayEndWeek_n93 : GoodIn wsX4_carryOutWeek (wsX0_mayEndWeek) := ggX4_carryOutWeek_X0_mayEndWeek
set_option maxRecDepth 20000 in
theorem ggX4_carryOutWeek_X0_endWeek : GoodIn wsX4_carryOutWeek wsX0_endWeek := goodIn_r _ [9, 10, 6, 11, 12, 13, 14, 15, 16, 17, 18, 19, 20, 3, 21, 22, 23, 24, 25, 26, 27, 28, 29, 30, 31, 32, 33, 34, 35, 36, 37, 38, 39, 40, 41, 42, 43, 44, 45, 46, 47, 48, 49, 50, 51, 52, 53, 54, 55, 56, 57, 58, 59, 60, 61, 62, 63, 64, 65, 66, 67, 68, 69, 70, 71, 72, 73, 74, 75, 76, 77, 78, 79, 80, 81, 82, 83, 84, 85, 86, 87, 88, 89, 90, 95, 96, 97, 98, 99, 100, 101, 102, 103, 104, 105, 106, 107, 108, 109, 110, 111, 112, 113, 114, 115, 116, 117, 118, 119, 120, 121] (by decide +kernel) (by decide +kernel)
set_option maxRecDepth 20000 in
theorem gX4_carryOutWeek_X0_endWeek_n102 : GoodIn wsX4_carryOutWeek (wsX0_endWeek) := ggX4_carryOutWeek_X0_endWeek
theorem dX4_carryOutWeek_0 : decode cX4_carryOutWeek 0 = .ok (.aload_n 0, 1) := by decide +kernel
theorem dX4_carryOutWeek_1 : decode cX4_carryOutWeek 1 = .ok (.getfield 10, 3) := by decide +kernel
theorem dX4_carryOutWeek_4 : decode cX4_carryOutWeek 4 = .ok (.invokevirtual 93, 3) := by decide +kernel
theorem dX4_carryOutWeek_7 : decode cX4_carryOutWeek 7 = .ok (.istore_n 1, 1) := by decide +kernel
theorem dX4_carryOutWeek_8 : decode cX4_carryOutWeek 8 = .ok (.iload_n 1, 1) := by decide +kernel
theorem dX4_carryOutWeek_9 : decode cX4_carryOutWeek 9 = .ok (.ifCond .eq 10, 3) := by decide +kernel
theorem dX4_carryOutWeek_12 : decode cX4_carryOutWeek 12 = .ok (.aload_n 0, 1) := by decide +kernel
theorem dX4_carryOutWeek_13 : decode cX4_carryOutWeek 13 = .ok (.getfield 10, 3) := by decide +kernel
theorem dX4_carryOutWeek_16 : decode cX4_carryOutWeek 16 = .ok (.invokevirtual 102, 3) := by decide +kernel
theorem dX4_carryOutWeek_19 : decode cX4_carryOutWeek 19 = .ok (.iload_n 1, 1) := by decide +kernel
theorem dX4_carryOutWeek_20 : decode cX4_carryOutWeek 20 = .ok (.ireturn, 1) := by decide +kernel
set_option maxRecDepth 20000 in
theorem ggX4_carryOutCycle_X0_mayBeginCycle : GoodIn wsX4_carryOutCycle wsX0_mayBeginCycle := goodIn_r _ [5, 6, 7, 8, 3, 9, 10, 11, 12, 13, 14, 15, 16, 17, 18, 37, 38, 39, 40, 41, 42, 43, 44, 45, 46, 47, 48, 49, 50, 51, 52, 53, 54, 55, 56, 57, 58, 59, 60, 61, 62, 63] (by decide +kernel) (by decide +kernel)
set_option maxRecDepth 20000 in
theorem gX4_carryOutCycle_X0_mayBeginCycle_n131 : GoodIn wsX4_carryOutCycle (wsX0_mayBeginCycle) := ggX4_carryOutCycle_X0_mayBeginCycle
set_option maxRecDepth 20000 in
theorem ggX4_carryOutCycle_X0_beginCycle : GoodIn wsX4_carryOutCycle wsX0_beginCycle := goodIn_r _ [21, 10, 22, 23, 24, 25, 26, 27, 28, 29, 30, 13, 31, 32, 12, 14, 37, 38, 39, 40, 41, 42, 43, 44, 45, 46, 47, 48, 49, 50, 51, 52, 53, 54, 55, 56, 57, 58, 59, 60, 61, 62, 63] (by decide +kernel) (by decide +kernel)
set_option maxRecDepth 20000 in
theorem gX4_carryOutCycle_X0_beginCycle_n136 : GoodIn wsX4_carryOutCycle (wsX0_beginCycle) := ggX4_carryOutCycle_X0_beginCycle
theorem dX4_carryOutCycle_0 : decode cX4_carryOutCycle 0 = .ok (.aload_n 0, 1) := by decide +kernel
theorem dX4_carryOutCycle_1 : decode cX4_carryOutCycle 1 = .ok (.getfield 10, 3) := by decide +kernel
theorem dX4_carryOutCycle_4 : decode cX4_carryOutCycle 4 = .ok (.invokevirtual 131, 3) := by decide +kernel
theorem dX4_carryOutCycle_7 : decode cX4_carryOutCycle 7 = .ok (.istore_n 1, 1) := by decide +kernel
theorem dX4_carryOutCycle_8 : decode cX4_carryOutCycle 8 = .ok (.iload_n 1, 1) := by decide +kernel
theorem dX4_carryOutCycle_9 : decode cX4_carryOutCycle 9 = .ok (.ifCond .eq 10, 3) := by decide +kernel
theorem dX4_carryOutCycle_12 : decode cX4_carryOutCycle 12 = .ok (.aload_n 0, 1) := by decide +kernel
theorem dX4_carryOutCycle_13 : decode cX4_carryOutCycle 13 = .ok (.getfield 10, 3) := by decide +kernel
theorem dX4_carryOutCycle_16 : decode cX4_carryOutCycle 16 = .ok (.invokevirtual 136, 3) := by decide +kernel
theorem dX4_carryOutCycle_19 : decode cX4_carryOutCycle 19 = .ok (.iload_n 1, 1) := by decide +kernel
theorem dX4_carryOutCycle_20 : decode cX4_carryOutCycle 20 = .ok (.ireturn, 1) := by decide +kernel
set_option maxRecDepth 20000 in
theorem ggX4_carryOutFor_X4_carryOutLoan : GoodIn wsX4_carryOutFor wsX4_carryOutLoan := goodIn_r _ [6, 1, 7, 8, 9, 10, 11, 12, 13, 14, 15, 16, 17, 18, 19, 20, 21, 22, 23, 24, 25, 26, 27, 28, 29, 30, 31, 32, 33, 34, 35, 36, 37, 38, 39, 40, 41, 66, 67, 68, 69, 70, 71, 72, 73, 74, 75, 76, 77, 78, 79, 80, 81, 82, 83, 84, 85, 86, 87, 88, 89, 90, 91, 92, 93, 94, 95, 96, 97, 98, 99, 100, 101, 102, 103] (by decide +kernel) (by decide +kernel)
set_option maxRecDepth 20000 in
theorem gX4_carryOutFor_X4_carryOutLoan : GoodIn wsX4_carryOutFor (wsV RX4 306 RX4 yX4_carryOutLoan wsX4_carryOutLoan) := goodIn_app (goodIn_of _ (by decide +kernel)) ggX4_carryOutFor_X4_carryOutLoan
set_option maxRecDepth 20000 in
theorem ggX4_carryOutFor_X4_carryOutPayment : GoodIn wsX4_carryOutFor wsX4_carryOutPayment := goodIn_r _ [45, 7, 1, 19, 9, 20, 21, 22, 23, 24, 25, 26, 27, 28, 46, 30, 47, 48, 49, 50, 51, 52, 53, 54, 66, 67, 68, 69, 70, 71, 72, 73, 74, 75, 76, 77, 78, 79, 80, 81, 82, 83, 84, 85, 86, 87, 88, 89, 90, 91, 92, 93, 94, 95, 96, 97, 98, 99, 100, 101, 102, 103] (by decide +kernel) (by decide +kernel)
set_option maxRecDepth 20000 in
theorem gX4_carryOutFor_X4_carryOutPayment : GoodIn wsX4_carryOutFor (wsV RX4 309 RX4 yX4_carryOutPayment wsX4_carryOutPayment) := goodIn_app (goodIn_of _ (by decide +kernel)) ggX4_carryOutFor_X4_carryOutPayment
set_option maxRecDepth 20000 in
theorem ggX4_carryOutFor_X4_carryOutHelp : GoodIn wsX4_carryOutFor wsX4_carryOutHelp := goodIn_r _ [58, 7, 1, 59, 30, 60, 61, 62, 54, 33, 63, 64, 65, 66, 67, 68, 69, 70, 71, 72, 73, 74, 75, 76, 93, 94, 95, 96, 97, 98, 99, 100, 101, 102, 103, 77, 78, 79, 80, 81, 82, 83, 84, 85, 86, 87, 88, 89, 90, 91, 92] (by decide +kernel) (by decide +kernel)
set_option maxRecDepth 20000 in
theorem gX4_carryOutFor_X4_carryOutHelp : GoodIn wsX4_carryOutFor (wsV RX4 312 RX4 yX4_carryOutHelp wsX4_carryOutHelp) := goodIn_app (goodIn_of _ (by decide +kernel)) ggX4_carryOutFor_X4_carryOutHelp
theorem dX4_carryOutFor_0 : decode cX4_carryOutFor 0 = .ok (.aload_n 0, 1) := by decide +kernel
theorem dX4_carryOutFor_1 : decode cX4_carryOutFor 1 = .ok (.getfield 29, 3) := by decide +kernel
theorem dX4_carryOutFor_4 : decode cX4_carryOutFor 4 = .ok (.getfield 291, 3) := by decide +kernel
theorem dX4_carryOutFor_7 : decode cX4_carryOutFor 7 = .ok (.tableswitch 54 1 4 #[29, 35, 42, 48], 29) := by decide +kernel
theorem dX4_carryOutFor_36 : decode cX4_carryOutFor 36 = .ok (.aload_n 0, 1) := by decide +kernel
theorem dX4_carryOutFor_37 : decode cX4_carryOutFor 37 = .ok (.aload_n 1, 1) := by decide +kernel
theorem dX4_carryOutFor_38 : decode cX4_carryOutFor 38 = .ok (.invokevirtual 306, 3) := by decide +kernel
theorem dX4_carryOutFor_41 : decode cX4_carryOutFor 41 = .ok (.ireturn, 1) := by decide +kernel
theorem dX4_carryOutFor_42 : decode cX4_carryOutFor 42 = .ok (.aload_n 1, 1) := by decide +kernel
theorem dX4_carryOutFor_43 : decode cX4_carryOutFor 43 = .ok (.iconst 1, 1) := by decide +kernel
theorem dX4_carryOutFor_44 : decode cX4_carryOutFor 44 = .ok (.putfield 86, 3) := by decide +kernel
theorem dX4_carryOutFor_47 : decode cX4_carryOutFor 47 = .ok (.iconst 1, 1) := by decide +kernel
theorem dX4_carryOutFor_48 : decode cX4_carryOutFor 48 = .ok (.ireturn, 1) := by decide +kernel
theorem dX4_carryOutFor_49 : decode cX4_carryOutFor 49 = .ok (.aload_n 0, 1) := by decide +kernel
theorem dX4_carryOutFor_50 : decode cX4_carryOutFor 50 = .ok (.aload_n 1, 1) := by decide +kernel
theorem dX4_carryOutFor_51 : decode cX4_carryOutFor 51 = .ok (.invokevirtual 309, 3) := by decide +kernel
theorem dX4_carryOutFor_54 : decode cX4_carryOutFor 54 = .ok (.ireturn, 1) := by decide +kernel
theorem dX4_carryOutFor_55 : decode cX4_carryOutFor 55 = .ok (.aload_n 0, 1) := by decide +kernel
theorem dX4_carryOutFor_56 : decode cX4_carryOutFor 56 = .ok (.aload_n 1, 1) := by decide +kernel
theorem dX4_carryOutFor_57 : decode cX4_carryOutFor 57 = .ok (.invokevirtual 312, 3) := by decide +kernel
theorem dX4_carryOutFor_60 : decode cX4_carryOutFor 60 = .ok (.ireturn, 1) := by decide +kernel
theorem dX4_carryOutFor_61 : decode cX4_carryOutFor 61 = .ok (.iconst 0, 1) := by decide +kernel
theorem dX4_carryOutFor_62 : decode cX4_carryOutFor 62 = .ok (.ireturn, 1) := by decide +kernel
set_option maxRecDepth 20000 in
theorem ggX4_carryOutLoan_X2_mayBorrow : GoodIn wsX4_carryOutLoan wsX2_mayBorrow := goodIn_r _ [6, 7, 8, 9, 10, 4, 11, 12, 13, 14, 15, 16, 17, 18, 19, 20, 21, 22, 23, 48, 49, 50, 51, 52, 53, 54, 55, 56, 57, 58, 59, 60, 61, 62, 63] (by decide +kernel) (by decide +kernel)
set_option maxRecDepth 20000 in
theorem gX4_carryOutLoan_X2_mayBorrow_n71 : GoodIn wsX4_carryOutLoan (wsX2_mayBorrow) := ggX4_carryOutLoan_X2_mayBorrow
set_option maxRecDepth 20000 in
theorem ggX4_carryOutLoan_X0_grantLoan : GoodIn wsX4_carryOutLoan wsX0_grantLoan := goodIn_r _ [27, 28, 29, 30, 4, 31, 32, 33, 34, 35, 36, 12, 64, 65, 66, 67, 68, 69, 70, 71, 72, 73, 74, 48, 49, 50, 51, 52, 53, 54, 55, 56, 57, 58, 59, 60, 61, 62, 63] (by decide +kernel) (by decide +kernel)
set_option maxRecDepth 20000 in
theorem gX4_carryOutLoan_X0_grantLoan_n79 : GoodIn wsX4_carryOutLoan (wsX0_grantLoan) := ggX4_carryOutLoan_X0_grantLoan
theorem dX4_carryOutLoan_0 : decode cX4_carryOutLoan 0 = .ok (.aload_n 1, 1) := by decide +kernel
theorem dX4_carryOutLoan_1 : decode cX4_carryOutLoan 1 = .ok (.aload_n 0, 1) := by decide +kernel
theorem dX4_carryOutLoan_2 : decode cX4_carryOutLoan 2 = .ok (.getfield 29, 3) := by decide +kernel
theorem dX4_carryOutLoan_5 : decode cX4_carryOutLoan 5 = .ok (.getfield 315, 3) := by decide +kernel
theorem dX4_carryOutLoan_8 : decode cX4_carryOutLoan 8 = .ok (.invokevirtual 71, 3) := by decide +kernel
theorem dX4_carryOutLoan_11 : decode cX4_carryOutLoan 11 = .ok (.istore_n 2, 1) := by decide +kernel
theorem dX4_carryOutLoan_12 : decode cX4_carryOutLoan 12 = .ok (.iload_n 2, 1) := by decide +kernel
theorem dX4_carryOutLoan_13 : decode cX4_carryOutLoan 13 = .ok (.ifCond .eq 25, 3) := by decide +kernel
theorem dX4_carryOutLoan_16 : decode cX4_carryOutLoan 16 = .ok (.aload_n 0, 1) := by decide +kernel
theorem dX4_carryOutLoan_17 : decode cX4_carryOutLoan 17 = .ok (.getfield 10, 3) := by decide +kernel
theorem dX4_carryOutLoan_20 : decode cX4_carryOutLoan 20 = .ok (.aload_n 1, 1) := by decide +kernel
theorem dX4_carryOutLoan_21 : decode cX4_carryOutLoan 21 = .ok (.aload_n 0, 1) := by decide +kernel
theorem dX4_carryOutLoan_22 : decode cX4_carryOutLoan 22 = .ok (.getfield 29, 3) := by decide +kernel
theorem dX4_carryOutLoan_25 : decode cX4_carryOutLoan 25 = .ok (.getfield 315, 3) := by decide +kernel
theorem dX4_carryOutLoan_28 : decode cX4_carryOutLoan 28 = .ok (.aload_n 0, 1) := by decide +kernel
theorem dX4_carryOutLoan_29 : decode cX4_carryOutLoan 29 = .ok (.getfield 29, 3) := by decide +kernel
theorem dX4_carryOutLoan_32 : decode cX4_carryOutLoan 32 = .ok (.getfield 318, 3) := by decide +kernel
theorem dX4_carryOutLoan_35 : decode cX4_carryOutLoan 35 = .ok (.invokevirtual 79, 3) := by decide +kernel
theorem dX4_carryOutLoan_38 : decode cX4_carryOutLoan 38 = .ok (.iload_n 2, 1) := by decide +kernel
theorem dX4_carryOutLoan_39 : decode cX4_carryOutLoan 39 = .ok (.ireturn, 1) := by decide +kernel
set_option maxRecDepth 20000 in
theorem ggX4_carryOutPayment_X2_hasDebts : GoodIn wsX4_carryOutPayment wsX2_hasDebts := goodIn_r _ [6, 7, 8, 9, 10, 11, 4, 12, 13, 35, 36, 37, 38, 39, 40, 41, 42, 43, 44, 45, 46, 47, 48, 49, 50] (by decide +kernel) (by decide +kernel)
set_option maxRecDepth 20000 in
theorem gX4_carryOutPayment_X2_hasDebts_n109 : GoodIn wsX4_carryOutPayment (wsX2_hasDebts) := ggX4_carryOutPayment_X2_hasDebts
set_option maxRecDepth 20000 in
theorem ggX4_carryOutPayment_X0_takePayment : GoodIn wsX4_carryOutPayment wsX0_takePayment := goodIn_r _ [17, 18, 19, 20, 21, 22, 23, 35, 36, 37, 38, 39, 40, 41, 42, 43, 44, 45, 46, 47, 48, 49, 50, 51, 52, 53, 54, 55, 56, 57, 58, 59, 60, 61] (by decide +kernel) (by decide +kernel)
set_option maxRecDepth 20000 in
theorem gX4_carryOutPayment_X0_takePayment_n114 : GoodIn wsX4_carryOutPayment (wsX0_takePayment) := ggX4_carryOutPayment_X0_takePayment
theorem dX4_carryOutPayment_0 : decode cX4_carryOutPayment 0 = .ok (.aload_n 1, 1) := by decide +kernel
theorem dX4_carryOutPayment_1 : decode cX4_carryOutPayment 1 = .ok (.invokevirtual 109, 3) := by decide +kernel
theorem dX4_carryOutPayment_4 : decode cX4_carryOutPayment 4 = .ok (.istore_n 2, 1) := by decide +kernel
theorem dX4_carryOutPayment_5 : decode cX4_carryOutPayment 5 = .ok (.iload_n 2, 1) := by decide +kernel
theorem dX4_carryOutPayment_6 : decode cX4_carryOutPayment 6 = .ok (.ifCond .eq 19, 3) := by decide +kernel
theorem dX4_carryOutPayment_9 : decode cX4_carryOutPayment 9 = .ok (.aload_n 0, 1) := by decide +kernel
theorem dX4_carryOutPayment_10 : decode cX4_carryOutPayment 10 = .ok (.getfield 10, 3) := by decide +kernel
theorem dX4_carryOutPayment_13 : decode cX4_carryOutPayment 13 = .ok (.aload_n 1, 1) := by decide +kernel
theorem dX4_carryOutPayment_14 : decode cX4_carryOutPayment 14 = .ok (.aload_n 0, 1) := by decide +kernel
theorem dX4_carryOutPayment_15 : decode cX4_carryOutPayment 15 = .ok (.getfield 29, 3) := by decide +kernel
theorem dX4_carryOutPayment_18 : decode cX4_carryOutPayment 18 = .ok (.getfield 315, 3) := by decide +kernel
theorem dX4_carryOutPayment_21 : decode cX4_carryOutPayment 21 = .ok (.invokevirtual 114, 3) := by decide +kernel
theorem dX4_carryOutPayment_24 : decode cX4_carryOutPayment 24 = .ok (.pop, 1) := by decide +kernel
theorem dX4_carryOutPayment_25 : decode cX4_carryOutPayment 25 = .ok (.iload_n 2, 1) := by decide +kernel
theorem dX4_carryOutPayment_26 : decode cX4_carryOutPayment 26 = .ok (.ireturn, 1) := by decide +kernel
set_option maxRecDepth 20000 in
theorem ggX4_carryOutHelp_X0_mayHelp : GoodIn wsX4_carryOutHelp wsX0_mayHelp := goodIn_r _ [6, 7, 8, 9, 24, 25, 26, 27, 28, 29, 30, 31, 32, 33, 34, 35, 36, 37, 38, 39, 40, 41, 42, 43, 44, 45, 46, 47, 48, 49, 50] (by decide +kernel) (by decide +kernel)
set_option maxRecDepth 20000 in
theorem gX4_carryOutHelp_X0_mayHelp_n118 : GoodIn wsX4_carryOutHelp (wsX0_mayHelp) := ggX4_carryOutHelp_X0_mayHelp
set_option maxRecDepth 20000 in
theorem ggX4_carryOutHelp_X0_grantHelp : GoodIn wsX4_carryOutHelp wsX0_grantHelp := goodIn_r _ [12, 8, 24, 25, 26, 27, 28, 29, 30, 31, 32, 33, 34, 35, 36, 37, 38, 39, 40, 41, 42, 43, 44, 45, 46, 47, 48, 49, 50] (by decide +kernel) (by decide +kernel)
set_option maxRecDepth 20000 in
theorem gX4_carryOutHelp_X0_grantHelp_n124 : GoodIn wsX4_carryOutHelp (wsX0_grantHelp) := ggX4_carryOutHelp_X0_grantHelp
theorem dX4_carryOutHelp_0 : decode cX4_carryOutHelp 0 = .ok (.aload_n 0, 1) := by decide +kernel
theorem dX4_carryOutHelp_1 : decode cX4_carryOutHelp 1 = .ok (.getfield 10, 3) := by decide +kernel
theorem dX4_carryOutHelp_4 : decode cX4_carryOutHelp 4 = .ok (.aload_n 1, 1) := by decide +kernel
theorem dX4_carryOutHelp_5 : decode cX4_carryOutHelp 5 = .ok (.aload_n 0, 1) := by decide +kernel
theorem dX4_carryOutHelp_6 : decode cX4_carryOutHelp 6 = .ok (.getfield 29, 3) := by decide +kernel
theorem dX4_carryOutHelp_9 : decode cX4_carryOutHelp 9 = .ok (.getfield 315, 3) := by decide +kernel
theorem dX4_carryOutHelp_12 : decode cX4_carryOutHelp 12 = .ok (.invokevirtual 118, 3) := by decide +kernel
theorem dX4_carryOutHelp_15 : decode cX4_carryOutHelp 15 = .ok (.istore_n 2, 1) := by decide +kernel
theorem dX4_carryOutHelp_16 : decode cX4_carryOutHelp 16 = .ok (.iload_n 2, 1) := by decide +kernel
theorem dX4_carryOutHelp_17 : decode cX4_carryOutHelp 17 = .ok (.ifCond .eq 18, 3) := by decide +kernel
theorem dX4_carryOutHelp_20 : decode cX4_carryOutHelp 20 = .ok (.aload_n 0, 1) := by decide +kernel
theorem dX4_carryOutHelp_21 : decode cX4_carryOutHelp 21 = .ok (.getfield 10, 3) := by decide +kernel
theorem dX4_carryOutHelp_24 : decode cX4_carryOutHelp 24 = .ok (.aload_n 1, 1) := by decide +kernel
theorem dX4_carryOutHelp_25 : decode cX4_carryOutHelp 25 = .ok (.aload_n 0, 1) := by decide +kernel
theorem dX4_carryOutHelp_26 : decode cX4_carryOutHelp 26 = .ok (.getfield 29, 3) := by decide +kernel
theorem dX4_carryOutHelp_29 : decode cX4_carryOutHelp 29 = .ok (.getfield 315, 3) := by decide +kernel
theorem dX4_carryOutHelp_32 : decode cX4_carryOutHelp 32 = .ok (.invokevirtual 124, 3) := by decide +kernel
theorem dX4_carryOutHelp_35 : decode cX4_carryOutHelp 35 = .ok (.iload_n 2, 1) := by decide +kernel
theorem dX4_carryOutHelp_36 : decode cX4_carryOutHelp 36 = .ok (.ireturn, 1) := by decide +kernel
set_option maxRecDepth 20000 in
theorem ggX4_tryWeek_X0_copyFrom : GoodIn wsX4_tryWeek wsX0_copyFrom := goodIn_r _ [6, 7, 8, 9, 10, 11, 12, 13, 14, 15, 16, 17, 18, 19, 20, 21, 22, 23, 24, 25, 26, 27, 28, 29, 30, 31, 32, 33, 34, 35, 36, 37, 38, 39, 40, 41, 114, 115, 116, 117, 118, 119, 120, 121, 122, 123, 124, 125, 126, 127, 128, 129, 130, 131, 132, 133, 134, 135, 136, 137, 138, 139, 140] (by decide +kernel) (by decide +kernel)
set_option maxRecDepth 20000 in
theorem gX4_tryWeek_X0_copyFrom_n321 : GoodIn wsX4_tryWeek (wsX0_copyFrom) := ggX4_tryWeek_X0_copyFrom
set_option maxRecDepth 20000 in
theorem ggX4_tryWeek_X0_letBeAway : GoodIn wsX4_tryWeek wsX0_letBeAway := goodIn_r _ [44, 7, 114, 115, 116, 117, 118, 119, 120, 121, 122, 123, 124, 125, 126, 127, 128, 129, 130, 131, 132, 133, 134, 135, 136, 137, 138, 139, 140] (by decide +kernel) (by decide +kernel)
set_option maxRecDepth 20000 in
theorem gX4_tryWeek_X0_letBeAway_n324 : GoodIn wsX4_tryWeek (wsX0_letBeAway) := ggX4_tryWeek_X0_letBeAway
set_option maxRecDepth 20000 in
theorem ggX4_tryWeek_X0_endWeek : GoodIn wsX4_tryWeek wsX0_endWeek := goodIn_r _ [47, 7, 14, 8, 16, 48, 23, 49, 50, 32, 51, 52, 53, 4, 54, 19, 20, 55, 56, 57, 30, 58, 59, 60, 61, 62, 31, 29, 63, 64, 65, 66, 21, 17, 67, 68, 69, 70, 71, 72, 73, 74, 75, 76, 77, 78, 79, 80, 81, 82, 83, 84, 85, 28, 86, 87, 88, 89, 90, 91, 92, 93, 94, 95, 96, 97, 98, 99, 100, 101, 102, 103, 104, 36, 37, 105, 106, 107, 108, 40, 109, 42, 43, 44, 114, 115, 116, 117, 118, 119, 120, 121, 122, 123, 124, 125, 126, 127, 128, 129, 130, 131, 132, 133, 134, 135, 136, 137, 138, 139, 140] (by decide +kernel) (by decide +kernel)
set_option maxRecDepth 20000 in
theorem gX4_tryWeek_X0_endWeek_n102 : GoodIn wsX4_tryWeek (wsX0_endWeek) := ggX4_tryWeek_X0_endWeek
theorem dX4_tryWeek_0 : decode cX4_tryWeek 0 = .ok (.aload_n 0, 1) := by decide +kernel
theorem dX4_tryWeek_1 : decode cX4_tryWeek 1 = .ok (.getfield 16, 3) := by decide +kernel
theorem dX4_tryWeek_4 : decode cX4_tryWeek 4 = .ok (.aload_n 0, 1) := by decide +kernel
theorem dX4_tryWeek_5 : decode cX4_tryWeek 5 = .ok (.getfield 10, 3) := by decide +kernel
theorem dX4_tryWeek_8 : decode cX4_tryWeek 8 = .ok (.invokevirtual 321, 3) := by decide +kernel
theorem dX4_tryWeek_11 : decode cX4_tryWeek 11 = .ok (.aload_n 0, 1) := by decide +kernel
theorem dX4_tryWeek_12 : decode cX4_tryWeek 12 = .ok (.getfield 16, 3) := by decide +kernel
theorem dX4_tryWeek_15 : decode cX4_tryWeek 15 = .ok (.iload_n 1, 1) := by decide +kernel
theorem dX4_tryWeek_16 : decode cX4_tryWeek 16 = .ok (.invokevirtual 324, 3) := by decide +kernel
theorem dX4_tryWeek_19 : decode cX4_tryWeek 19 = .ok (.aload_n 0, 1) := by decide +kernel
theorem dX4_tryWeek_20 : decode cX4_tryWeek 20 = .ok (.getfield 16, 3) := by decide +kernel
theorem dX4_tryWeek_23 : decode cX4_tryWeek 23 = .ok (.invokevirtual 102, 3) := by decide +kernel
theorem dX4_tryWeek_26 : decode cX4_tryWeek 26 = .ok (.return_, 1) := by decide +kernel
set_option maxRecDepth 20000 in
theorem ggX4_outcome_X0_bankDebts : GoodIn wsX4_outcome wsX0_bankDebts := goodIn_r _ [6, 7, 27, 28, 29, 30, 31, 32, 33, 34, 35, 36, 37, 38, 39, 40, 41, 42, 43, 44, 45, 46, 47, 48, 49, 50, 51, 52, 53] (by decide +kernel) (by decide +kernel)
set_option maxRecDepth 20000 in
theorem gX4_outcome_X0_bankDebts_n327 : GoodIn wsX4_outcome (wsX0_bankDebts) := ggX4_outcome_X0_bankDebts
set_option maxRecDepth 20000 in
theorem ggX4_outcome_X0_debtsAmongMembers : GoodIn wsX4_outcome wsX0_debtsAmongMembers := goodIn_r _ [10, 7, 11, 12, 13, 14, 15, 27, 28, 29, 30, 31, 32, 33, 34, 35, 36, 37, 38, 39, 40, 41, 42, 43, 44, 45, 46, 47, 48, 49, 50, 51, 52, 53] (by decide +kernel) (by decide +kernel)
set_option maxRecDepth 20000 in
theorem gX4_outcome_X0_debtsAmongMembers_n330 : GoodIn wsX4_outcome (wsX0_debtsAmongMembers) := ggX4_outcome_X0_debtsAmongMembers
set_option maxRecDepth 20000 in
theorem ggX4_outcome_X0_mostPaidForOthersSince : GoodIn wsX4_outcome wsX0_mostPaidForOthersSince := goodIn_r _ [18, 7, 19, 20, 21, 22, 27, 28, 29, 30, 31, 32, 33, 34, 35, 36, 37, 38, 39, 40, 41, 42, 43, 44, 45, 46, 47, 48, 49, 50, 51, 52, 53] (by decide +kernel) (by decide +kernel)
set_option maxRecDepth 20000 in
theorem gX4_outcome_X0_mostPaidForOthersSince_n333 : GoodIn wsX4_outcome (wsX0_mostPaidForOthersSince) := ggX4_outcome_X0_mostPaidForOthersSince
theorem dX4_outcome_0 : decode cX4_outcome 0 = .ok (.iload_n 1, 1) := by decide +kernel
theorem dX4_outcome_1 : decode cX4_outcome 1 = .ok (.tableswitch 71 0 3 #[31, 47, 55, 63], 31) := by decide +kernel
theorem dX4_outcome_32 : decode cX4_outcome 32 = .ok (.aload_n 0, 1) := by decide +kernel
theorem dX4_outcome_33 : decode cX4_outcome 33 = .ok (.getfield 16, 3) := by decide +kernel
theorem dX4_outcome_36 : decode cX4_outcome 36 = .ok (.getfield 99, 3) := by decide +kernel
theorem dX4_outcome_39 : decode cX4_outcome 39 = .ok (.aload_n 0, 1) := by decide +kernel
theorem dX4_outcome_40 : decode cX4_outcome 40 = .ok (.getfield 10, 3) := by decide +kernel
theorem dX4_outcome_43 : decode cX4_outcome 43 = .ok (.getfield 99, 3) := by decide +kernel
theorem dX4_outcome_46 : decode cX4_outcome 46 = .ok (.isub, 1) := by decide +kernel
theorem dX4_outcome_47 : decode cX4_outcome 47 = .ok (.ireturn, 1) := by decide +kernel
theorem dX4_outcome_48 : decode cX4_outcome 48 = .ok (.aload_n 0, 1) := by decide +kernel
theorem dX4_outcome_49 : decode cX4_outcome 49 = .ok (.getfield 16, 3) := by decide +kernel
theorem dX4_outcome_52 : decode cX4_outcome 52 = .ok (.getfield 128, 3) := by decide +kernel
theorem dX4_outcome_55 : decode cX4_outcome 55 = .ok (.ireturn, 1) := by decide +kernel
theorem dX4_outcome_56 : decode cX4_outcome 56 = .ok (.aload_n 0, 1) := by decide +kernel
theorem dX4_outcome_57 : decode cX4_outcome 57 = .ok (.getfield 16, 3) := by decide +kernel
theorem dX4_outcome_60 : decode cX4_outcome 60 = .ok (.invokevirtual 327, 3) := by decide +kernel
theorem dX4_outcome_63 : decode cX4_outcome 63 = .ok (.ireturn, 1) := by decide +kernel
theorem dX4_outcome_64 : decode cX4_outcome 64 = .ok (.aload_n 0, 1) := by decide +kernel
theorem dX4_outcome_65 : decode cX4_outcome 65 = .ok (.getfield 16, 3) := by decide +kernel
theorem dX4_outcome_68 : decode cX4_outcome 68 = .ok (.invokevirtual 330, 3) := by decide +kernel
theorem dX4_outcome_71 : decode cX4_outcome 71 = .ok (.ireturn, 1) := by decide +kernel
theorem dX4_outcome_72 : decode cX4_outcome 72 = .ok (.aload_n 0, 1) := by decide +kernel
theorem dX4_outcome_73 : decode cX4_outcome 73 = .ok (.getfield 16, 3) := by decide +kernel
theorem dX4_outcome_76 : decode cX4_outcome 76 = .ok (.aload_n 0, 1) := by decide +kernel
theorem dX4_outcome_77 : decode cX4_outcome 77 = .ok (.getfield 10, 3) := by decide +kernel
theorem dX4_outcome_80 : decode cX4_outcome 80 = .ok (.invokevirtual 333, 3) := by decide +kernel
theorem dX4_outcome_83 : decode cX4_outcome 83 = .ok (.ireturn, 1) := by decide +kernel
set_option maxRecDepth 20000 in
theorem ggX4_mixedWithMember_X4_mixed : GoodIn wsX4_mixedWithMember wsX4_mixed := goodIn_r _ [5, 6] (by decide +kernel) (by decide +kernel)
set_option maxRecDepth 20000 in
theorem gX4_mixedWithMember_X4_mixed : GoodIn wsX4_mixedWithMember (va_wsS RX4 243 yX4_mixed wsX4_mixed) := goodIn_app (goodIn_of _ (by decide +kernel)) ggX4_mixedWithMember_X4_mixed
set_option maxRecDepth 20000 in
theorem ggX4_mixedWithMember_X4_propertyOf : GoodIn wsX4_mixedWithMember wsX4_propertyOf := goodIn_r _ [10, 1, 11, 12, 13, 14, 15, 16, 17, 18, 19, 20, 21, 22, 23, 24, 25, 26, 27, 28, 29, 30, 31, 32, 33, 34, 35, 36, 37, 38, 39, 40, 41, 42, 43, 44, 45, 46, 47, 48, 49, 85, 86, 87, 88, 89, 90, 91, 92, 93, 94, 95, 96, 97, 98, 99, 69, 70, 71, 72, 73, 74, 75, 76, 77, 78, 79, 80, 81, 82, 83, 84] (by decide +kernel) (by decide +kernel)
set_option maxRecDepth 20000 in
theorem gX4_mixedWithMember_X4_propertyOf : GoodIn wsX4_mixedWithMember (wsV RX4 202 RX4 yX4_propertyOf wsX4_propertyOf) := goodIn_app (goodIn_of _ (by decide +kernel)) ggX4_mixedWithMember_X4_propertyOf
set_option maxRecDepth 20000 in
theorem ggX4_mixedWithMember_X0_weeksOfFund : GoodIn wsX4_mixedWithMember wsX0_weeksOfFund := goodIn_r _ [52, 53, 54, 55, 56, 57, 12, 58, 15, 89, 90, 91, 92, 93, 94, 95, 96, 97, 98, 99, 69, 70, 71, 72, 73, 74, 75, 76, 77, 78, 79, 80, 81, 82, 83, 84] (by decide +kernel) (by decide +kernel)
set_option maxRecDepth 20000 in
theorem gX4_mixedWithMember_X0_weeksOfFund_n225 : GoodIn wsX4_mixedWithMember (wsX0_weeksOfFund) := ggX4_mixedWithMember_X0_weeksOfFund
set_option maxRecDepth 20000 in
theorem ggX4_mixedWithMember_X2_nextLimit : GoodIn wsX4_mixedWithMember wsX2_nextLimit := goodIn_r _ [61, 25, 20, 62, 63, 64, 65, 66, 67, 68, 69, 70, 71, 72, 73, 74, 75, 76, 77, 78, 79, 80, 81, 82, 83, 84] (by decide +kernel) (by decide +kernel)
set_option maxRecDepth 20000 in
theorem gX4_mixedWithMember_X2_nextLimit_n234 : GoodIn wsX4_mixedWithMember (wsX2_nextLimit) := ggX4_mixedWithMember_X2_nextLimit
theorem dX4_mixedWithMember_0 : decode cX4_mixedWithMember 0 = .ok (.lload_n 1, 1) := by decide +kernel
theorem dX4_mixedWithMember_1 : decode cX4_mixedWithMember 1 = .ok (.aload_n 3, 1) := by decide +kernel
theorem dX4_mixedWithMember_2 : decode cX4_mixedWithMember 2 = .ok (.getfield 208, 3) := by decide +kernel
theorem dX4_mixedWithMember_5 : decode cX4_mixedWithMember 5 = .ok (.i2l, 1) := by decide +kernel
theorem dX4_mixedWithMember_6 : decode cX4_mixedWithMember 6 = .ok (.invokestatic 243, 3) := by decide +kernel
theorem dX4_mixedWithMember_9 : decode cX4_mixedWithMember 9 = .ok (.lstore 4, 2) := by decide +kernel
theorem dX4_mixedWithMember_11 : decode cX4_mixedWithMember 11 = .ok (.iconst 0, 1) := by decide +kernel
theorem dX4_mixedWithMember_12 : decode cX4_mixedWithMember 12 = .ok (.istore 6, 2) := by decide +kernel
theorem dX4_mixedWithMember_14 : decode cX4_mixedWithMember 14 = .ok (.iload 6, 2) := by decide +kernel
theorem dX4_mixedWithMember_16 : decode cX4_mixedWithMember 16 = .ok (.bipush 14, 2) := by decide +kernel
theorem dX4_mixedWithMember_18 : decode cX4_mixedWithMember 18 = .ok (.if_icmp .ge 24, 3) := by decide +kernel
theorem dX4_mixedWithMember_21 : decode cX4_mixedWithMember 21 = .ok (.lload 4, 2) := by decide +kernel
theorem dX4_mixedWithMember_23 : decode cX4_mixedWithMember 23 = .ok (.aload_n 0, 1) := by decide +kernel
theorem dX4_mixedWithMember_24 : decode cX4_mixedWithMember 24 = .ok (.aload_n 3, 1) := by decide +kernel
theorem dX4_mixedWithMember_25 : decode cX4_mixedWithMember 25 = .ok (.iload 6, 2) := by decide +kernel
theorem dX4_mixedWithMember_27 : decode cX4_mixedWithMember 27 = .ok (.invokevirtual 202, 3) := by decide +kernel
theorem dX4_mixedWithMember_30 : decode cX4_mixedWithMember 30 = .ok (.i2l, 1) := by decide +kernel
theorem dX4_mixedWithMember_31 : decode cX4_mixedWithMember 31 = .ok (.invokestatic 243, 3) := by decide +kernel
theorem dX4_mixedWithMember_34 : decode cX4_mixedWithMember 34 = .ok (.lstore 4, 2) := by decide +kernel
theorem dX4_mixedWithMember_36 : decode cX4_mixedWithMember 36 = .ok (.iinc 6 1, 3) := by decide +kernel
theorem dX4_mixedWithMember_39 : decode cX4_mixedWithMember 39 = .ok (.goto (-25), 3) := by decide +kernel
theorem dX4_mixedWithMember_42 : decode cX4_mixedWithMember 42 = .ok (.aload_n 0, 1) := by decide +kernel
theorem dX4_mixedWithMember_43 : decode cX4_mixedWithMember 43 = .ok (.getfield 10, 3) := by decide +kernel
theorem dX4_mixedWithMember_46 : decode cX4_mixedWithMember 46 = .ok (.getfield 247, 3) := by decide +kernel
theorem dX4_mixedWithMember_49 : decode cX4_mixedWithMember 49 = .ok (.astore 6, 2) := by decide +kernel
theorem dX4_mixedWithMember_51 : decode cX4_mixedWithMember 51 = .ok (.aload 6, 2) := by decide +kernel
theorem dX4_mixedWithMember_53 : decode cX4_mixedWithMember 53 = .ok (.arraylength, 1) := by decide +kernel
theorem dX4_mixedWithMember_54 : decode cX4_mixedWithMember 54 = .ok (.istore 7, 2) := by decide +kernel
theorem dX4_mixedWithMember_56 : decode cX4_mixedWithMember 56 = .ok (.iconst 0, 1) := by decide +kernel
theorem dX4_mixedWithMember_57 : decode cX4_mixedWithMember 57 = .ok (.istore 8, 2) := by decide +kernel
theorem dX4_mixedWithMember_59 : decode cX4_mixedWithMember 59 = .ok (.iload 8, 2) := by decide +kernel
theorem dX4_mixedWithMember_61 : decode cX4_mixedWithMember 61 = .ok (.iload 7, 2) := by decide +kernel
theorem dX4_mixedWithMember_63 : decode cX4_mixedWithMember 63 = .ok (.if_icmp .ge 42, 3) := by decide +kernel
theorem dX4_mixedWithMember_66 : decode cX4_mixedWithMember 66 = .ok (.aload 6, 2) := by decide +kernel
theorem dX4_mixedWithMember_68 : decode cX4_mixedWithMember 68 = .ok (.iload 8, 2) := by decide +kernel
theorem dX4_mixedWithMember_70 : decode cX4_mixedWithMember 70 = .ok (.aaload, 1) := by decide +kernel
theorem dX4_mixedWithMember_71 : decode cX4_mixedWithMember 71 = .ok (.astore 9, 2) := by decide +kernel
theorem dX4_mixedWithMember_73 : decode cX4_mixedWithMember 73 = .ok (.aload 9, 2) := by decide +kernel
theorem dX4_mixedWithMember_75 : decode cX4_mixedWithMember 75 = .ok (.getfield 251, 3) := by decide +kernel
theorem dX4_mixedWithMember_78 : decode cX4_mixedWithMember 78 = .ok (.ifCond .eq 21, 3) := by decide +kernel
theorem dX4_mixedWithMember_81 : decode cX4_mixedWithMember 81 = .ok (.lload 4, 2) := by decide +kernel
theorem dX4_mixedWithMember_83 : decode cX4_mixedWithMember 83 = .ok (.aload_n 3, 1) := by decide +kernel
theorem dX4_mixedWithMember_84 : decode cX4_mixedWithMember 84 = .ok (.getfield 205, 3) := by decide +kernel
theorem dX4_mixedWithMember_87 : decode cX4_mixedWithMember 87 = .ok (.aload 9, 2) := by decide +kernel
theorem dX4_mixedWithMember_89 : decode cX4_mixedWithMember 89 = .ok (.getfield 208, 3) := by decide +kernel
theorem dX4_mixedWithMember_92 : decode cX4_mixedWithMember 92 = .ok (.iaload, 1) := by decide +kernel
theorem dX4_mixedWithMember_93 : decode cX4_mixedWithMember 93 = .ok (.i2l, 1) := by decide +kernel
theorem dX4_mixedWithMember_94 : decode cX4_mixedWithMember 94 = .ok (.invokestatic 243, 3) := by decide +kernel
theorem dX4_mixedWithMember_97 : decode cX4_mixedWithMember 97 = .ok (.lstore 4, 2) := by decide +kernel
theorem dX4_mixedWithMember_99 : decode cX4_mixedWithMember 99 = .ok (.iinc 8 1, 3) := by decide +kernel
theorem dX4_mixedWithMember_102 : decode cX4_mixedWithMember 102 = .ok (.goto (-43), 3) := by decide +kernel
theorem dX4_mixedWithMember_105 : decode cX4_mixedWithMember 105 = .ok (.lload 4, 2) := by decide +kernel
theorem dX4_mixedWithMember_107 : decode cX4_mixedWithMember 107 = .ok (.aload_n 0, 1) := by decide +kernel
theorem dX4_mixedWithMember_108 : decode cX4_mixedWithMember 108 = .ok (.getfield 10, 3) := by decide +kernel
theorem dX4_mixedWithMember_111 : decode cX4_mixedWithMember 111 = .ok (.aload_n 3, 1) := by decide +kernel
theorem dX4_mixedWithMember_112 : decode cX4_mixedWithMember 112 = .ok (.invokevirtual 225, 3) := by decide +kernel
theorem dX4_mixedWithMember_115 : decode cX4_mixedWithMember 115 = .ok (.i2l, 1) := by decide +kernel
theorem dX4_mixedWithMember_116 : decode cX4_mixedWithMember 116 = .ok (.invokestatic 243, 3) := by decide +kernel
theorem dX4_mixedWithMember_119 : decode cX4_mixedWithMember 119 = .ok (.lstore 4, 2) := by decide +kernel
theorem dX4_mixedWithMember_121 : decode cX4_mixedWithMember 121 = .ok (.lload 4, 2) := by decide +kernel
theorem dX4_mixedWithMember_123 : decode cX4_mixedWithMember 123 = .ok (.aload_n 3, 1) := by decide +kernel
theorem dX4_mixedWithMember_124 : decode cX4_mixedWithMember 124 = .ok (.invokevirtual 234, 3) := by decide +kernel
theorem dX4_mixedWithMember_127 : decode cX4_mixedWithMember 127 = .ok (.i2l, 1) := by decide +kernel
theorem dX4_mixedWithMember_128 : decode cX4_mixedWithMember 128 = .ok (.invokestatic 243, 3) := by decide +kernel
theorem dX4_mixedWithMember_131 : decode cX4_mixedWithMember 131 = .ok (.lreturn, 1) := by decide +kernel
set_option maxRecDepth 20000 in
theorem ggX4_mixedWithOutcomes_X4_tryWeek : GoodIn wsX4_mixedWithOutcomes wsX4_tryWeek := goodIn_r _ [5, 6, 7, 8, 9, 10, 11, 12, 13, 14, 15, 16, 17, 18, 19, 20, 21, 22, 23, 24, 25, 26, 27, 28, 29, 30, 31, 32, 33, 34, 35, 36, 37, 38, 39, 40, 41, 42, 43, 44, 45, 46, 47, 48, 49, 50, 51, 52, 53, 54, 55, 56, 57, 58, 59, 60, 61, 62, 63, 64, 65, 66, 67, 68, 69, 70, 71, 72, 73, 74, 75, 76, 77, 78, 79, 80, 81, 82, 83, 84, 85, 86, 87, 88, 89, 90, 91, 92, 93, 94, 95, 96, 97, 98, 99, 100, 101, 102, 103, 104, 105, 106, 107, 108, 109, 110, 111, 112, 113, 114, 135, 136, 137, 138, 139, 140, 141, 142, 143, 144, 145, 146, 147, 148, 149, 150, 151, 152, 153, 154, 155, 156, 157, 158, 159, 160, 161, 162, 163, 164, 165] (by decide +kernel) (by decide +kernel)
set_option maxRecDepth 20000 in
theorem gX4_mixedWithOutcomes_X4_tryWeek : GoodIn wsX4_mixedWithOutcomes (wsV RX4 219 RX4 yX4_tryWeek wsX4_tryWeek) := goodIn_app (goodIn_of _ (by decide +kernel)) ggX4_mixedWithOutcomes_X4_tryWeek
set_option maxRecDepth 20000 in
theorem ggX4_mixedWithOutcomes_X4_outcome : GoodIn wsX4_mixedWithOutcomes wsX4_outcome := goodIn_r _ [118, 6, 7, 119, 9, 120, 121, 12, 122, 123, 124, 111, 28, 112, 113, 45, 125, 126, 127, 128, 129, 74, 130, 135, 136, 137, 138, 139, 140, 141, 142, 143, 144, 145, 146, 147, 148, 149, 150, 151, 152, 153, 154, 155, 156, 157, 158, 159, 160, 161, 162, 163, 164, 165] (by decide +kernel) (by decide +kernel)
set_option maxRecDepth 20000 in
theorem gX4_mixedWithOutcomes_X4_outcome : GoodIn wsX4_mixedWithOutcomes (wsV RX4 222 RX4 yX4_outcome wsX4_outcome) := goodIn_app (goodIn_of _ (by decide +kernel)) ggX4_mixedWithOutcomes_X4_outcome
set_option maxRecDepth 20000 in
theorem ggX4_mixedWithOutcomes_X4_mixed : GoodIn wsX4_mixedWithOutcomes wsX4_mixed := goodIn_r _ [133, 134] (by decide +kernel) (by decide +kernel)
set_option maxRecDepth 20000 in
theorem gX4_mixedWithOutcomes_X4_mixed : GoodIn wsX4_mixedWithOutcomes (va_wsS RX4 243 yX4_mixed wsX4_mixed) := goodIn_app (goodIn_of _ (by decide +kernel)) ggX4_mixedWithOutcomes_X4_mixed
theorem dX4_mixedWithOutcomes_0 : decode cX4_mixedWithOutcomes 0 = .ok (.lload_n 1, 1) := by decide +kernel
theorem dX4_mixedWithOutcomes_1 : decode cX4_mixedWithOutcomes 1 = .ok (.lstore 4, 2) := by decide +kernel
theorem dX4_mixedWithOutcomes_3 : decode cX4_mixedWithOutcomes 3 = .ok (.aload_n 0, 1) := by decide +kernel
theorem dX4_mixedWithOutcomes_4 : decode cX4_mixedWithOutcomes 4 = .ok (.iload_n 3, 1) := by decide +kernel
theorem dX4_mixedWithOutcomes_5 : decode cX4_mixedWithOutcomes 5 = .ok (.invokevirtual 219, 3) := by decide +kernel
theorem dX4_mixedWithOutcomes_8 : decode cX4_mixedWithOutcomes 8 = .ok (.iconst 0, 1) := by decide +kernel
theorem dX4_mixedWithOutcomes_9 : decode cX4_mixedWithOutcomes 9 = .ok (.istore 6, 2) := by decide +kernel
theorem dX4_mixedWithOutcomes_11 : decode cX4_mixedWithOutcomes 11 = .ok (.iload 6, 2) := by decide +kernel
theorem dX4_mixedWithOutcomes_13 : decode cX4_mixedWithOutcomes 13 = .ok (.iconst 5, 1) := by decide +kernel
theorem dX4_mixedWithOutcomes_14 : decode cX4_mixedWithOutcomes 14 = .ok (.if_icmp .ge 23, 3) := by decide +kernel
theorem dX4_mixedWithOutcomes_17 : decode cX4_mixedWithOutcomes 17 = .ok (.lload 4, 2) := by decide +kernel
theorem dX4_mixedWithOutcomes_19 : decode cX4_mixedWithOutcomes 19 = .ok (.aload_n 0, 1) := by decide +kernel
theorem dX4_mixedWithOutcomes_20 : decode cX4_mixedWithOutcomes 20 = .ok (.iload 6, 2) := by decide +kernel
theorem dX4_mixedWithOutcomes_22 : decode cX4_mixedWithOutcomes 22 = .ok (.invokevirtual 222, 3) := by decide +kernel
theorem dX4_mixedWithOutcomes_25 : decode cX4_mixedWithOutcomes 25 = .ok (.i2l, 1) := by decide +kernel
theorem dX4_mixedWithOutcomes_26 : decode cX4_mixedWithOutcomes 26 = .ok (.invokestatic 243, 3) := by decide +kernel
theorem dX4_mixedWithOutcomes_29 : decode cX4_mixedWithOutcomes 29 = .ok (.lstore 4, 2) := by decide +kernel
theorem dX4_mixedWithOutcomes_31 : decode cX4_mixedWithOutcomes 31 = .ok (.iinc 6 1, 3) := by decide +kernel
theorem dX4_mixedWithOutcomes_34 : decode cX4_mixedWithOutcomes 34 = .ok (.goto (-23), 3) := by decide +kernel
theorem dX4_mixedWithOutcomes_37 : decode cX4_mixedWithOutcomes 37 = .ok (.lload 4, 2) := by decide +kernel
theorem dX4_mixedWithOutcomes_39 : decode cX4_mixedWithOutcomes 39 = .ok (.lreturn, 1) := by decide +kernel
set_option maxRecDepth 20000 in
theorem ggX4_mixedWithText_X4_mixed : GoodIn wsX4_mixedWithText wsX4_mixed := goodIn_r _ [5, 6] (by decide +kernel) (by decide +kernel)
set_option maxRecDepth 20000 in
theorem gX4_mixedWithText_X4_mixed : GoodIn wsX4_mixedWithText (va_wsS RX4 243 yX4_mixed wsX4_mixed) := goodIn_app (goodIn_of _ (by decide +kernel)) ggX4_mixedWithText_X4_mixed
theorem dX4_mixedWithText_0 : decode cX4_mixedWithText 0 = .ok (.lload_n 1, 1) := by decide +kernel
theorem dX4_mixedWithText_1 : decode cX4_mixedWithText 1 = .ok (.aload_n 0, 1) := by decide +kernel
theorem dX4_mixedWithText_2 : decode cX4_mixedWithText 2 = .ok (.getfield 29, 3) := by decide +kernel
theorem dX4_mixedWithText_5 : decode cX4_mixedWithText 5 = .ok (.getfield 159, 3) := by decide +kernel
theorem dX4_mixedWithText_8 : decode cX4_mixedWithText 8 = .ok (.i2l, 1) := by decide +kernel
theorem dX4_mixedWithText_9 : decode cX4_mixedWithText 9 = .ok (.invokestatic 243, 3) := by decide +kernel
theorem dX4_mixedWithText_12 : decode cX4_mixedWithText 12 = .ok (.lstore_n 3, 1) := by decide +kernel
theorem dX4_mixedWithText_13 : decode cX4_mixedWithText 13 = .ok (.iconst 0, 1) := by decide +kernel
theorem dX4_mixedWithText_14 : decode cX4_mixedWithText 14 = .ok (.istore 5, 2) := by decide +kernel
theorem dX4_mixedWithText_16 : decode cX4_mixedWithText 16 = .ok (.iload 5, 2) := by decide +kernel
theorem dX4_mixedWithText_18 : decode cX4_mixedWithText 18 = .ok (.aload_n 0, 1) := by decide +kernel
theorem dX4_mixedWithText_19 : decode cX4_mixedWithText 19 = .ok (.getfield 29, 3) := by decide +kernel
theorem dX4_mixedWithText_22 : decode cX4_mixedWithText 22 = .ok (.getfield 159, 3) := by decide +kernel
theorem dX4_mixedWithText_25 : decode cX4_mixedWithText 25 = .ok (.if_icmp .ge 32, 3) := by decide +kernel
theorem dX4_mixedWithText_28 : decode cX4_mixedWithText 28 = .ok (.iload 5, 2) := by decide +kernel
theorem dX4_mixedWithText_30 : decode cX4_mixedWithText 30 = .ok (.bipush 60, 2) := by decide +kernel
theorem dX4_mixedWithText_32 : decode cX4_mixedWithText 32 = .ok (.if_icmp .ge 25, 3) := by decide +kernel
theorem dX4_mixedWithText_35 : decode cX4_mixedWithText 35 = .ok (.lload_n 3, 1) := by decide +kernel
theorem dX4_mixedWithText_36 : decode cX4_mixedWithText 36 = .ok (.aload_n 0, 1) := by decide +kernel
theorem dX4_mixedWithText_37 : decode cX4_mixedWithText 37 = .ok (.getfield 29, 3) := by decide +kernel
theorem dX4_mixedWithText_40 : decode cX4_mixedWithText 40 = .ok (.getfield 337, 3) := by decide +kernel
theorem dX4_mixedWithText_43 : decode cX4_mixedWithText 43 = .ok (.iload 5, 2) := by decide +kernel
theorem dX4_mixedWithText_45 : decode cX4_mixedWithText 45 = .ok (.caload, 1) := by decide +kernel
theorem dX4_mixedWithText_46 : decode cX4_mixedWithText 46 = .ok (.i2l, 1) := by decide +kernel
theorem dX4_mixedWithText_47 : decode cX4_mixedWithText 47 = .ok (.invokestatic 243, 3) := by decide +kernel
theorem dX4_mixedWithText_50 : decode cX4_mixedWithText 50 = .ok (.lstore_n 3, 1) := by decide +kernel
theorem dX4_mixedWithText_51 : decode cX4_mixedWithText 51 = .ok (.iinc 5 1, 3) := by decide +kernel
theorem dX4_mixedWithText_54 : decode cX4_mixedWithText 54 = .ok (.goto (-38), 3) := by decide +kernel
theorem dX4_mixedWithText_57 : decode cX4_mixedWithText 57 = .ok (.lload_n 3, 1) := by decide +kernel
theorem dX4_mixedWithText_58 : decode cX4_mixedWithText 58 = .ok (.lreturn, 1) := by decide +kernel
theorem dX4_mixed_0 : decode cX4_mixed 0 = .ok (.ldc2_w 341, 3) := by decide +kernel
theorem dX4_mixed_3 : decode cX4_mixed 3 = .ok (.lload_n 0, 1) := by decide +kernel
theorem dX4_mixed_4 : decode cX4_mixed 4 = .ok (.lmul, 1) := by decide +kernel
theorem dX4_mixed_5 : decode cX4_mixed 5 = .ok (.lload_n 2, 1) := by decide +kernel
theorem dX4_mixed_6 : decode cX4_mixed 6 = .ok (.ladd, 1) := by decide +kernel
theorem dX4_mixed_7 : decode cX4_mixed 7 = .ok (.lreturn, 1) := by decide +kernel
theorem dX4_bitsOf_0 : decode cX4_bitsOf 0 = .ok (.dload_n 0, 1) := by decide +kernel
theorem dX4_bitsOf_1 : decode cX4_bitsOf 1 = .ok (.dconst 0, 1) := by decide +kernel
theorem dX4_bitsOf_2 : decode cX4_bitsOf 2 = .ok (.dcmp .g, 1) := by decide +kernel
theorem dX4_bitsOf_3 : decode cX4_bitsOf 3 = .ok (.ifCond .gt 5, 3) := by decide +kernel
theorem dX4_bitsOf_6 : decode cX4_bitsOf 6 = .ok (.lconst 0, 1) := by decide +kernel
theorem dX4_bitsOf_7 : decode cX4_bitsOf 7 = .ok (.lreturn, 1) := by decide +kernel
theorem dX4_bitsOf_8 : decode cX4_bitsOf 8 = .ok (.dload_n 0, 1) := by decide +kernel
theorem dX4_bitsOf_9 : decode cX4_bitsOf 9 = .ok (.dstore_n 2, 1) := by decide +kernel
theorem dX4_bitsOf_10 : decode cX4_bitsOf 10 = .ok (.ldc2_w 343, 3) := by decide +kernel
theorem dX4_bitsOf_13 : decode cX4_bitsOf 13 = .ok (.lstore 4, 2) := by decide +kernel
theorem dX4_bitsOf_15 : decode cX4_bitsOf 15 = .ok (.dload_n 2, 1) := by decide +kernel
theorem dX4_bitsOf_16 : decode cX4_bitsOf 16 = .ok (.dconst 1, 1) := by decide +kernel
theorem dX4_bitsOf_17 : decode cX4_bitsOf 17 = .ok (.dcmp .g, 1) := by decide +kernel
theorem dX4_bitsOf_18 : decode cX4_bitsOf 18 = .ok (.ifCond .ge 25, 3) := by decide +kernel
theorem dX4_bitsOf_21 : decode cX4_bitsOf 21 = .ok (.lload 4, 2) := by decide +kernel
theorem dX4_bitsOf_23 : decode cX4_bitsOf 23 = .ok (.lconst 1, 1) := by decide +kernel
theorem dX4_bitsOf_24 : decode cX4_bitsOf 24 = .ok (.lcmp, 1) := by decide +kernel
theorem dX4_bitsOf_25 : decode cX4_bitsOf 25 = .ok (.ifCond .le 18, 3) := by decide +kernel
theorem dX4_bitsOf_28 : decode cX4_bitsOf 28 = .ok (.dload_n 2, 1) := by decide +kernel
theorem dX4_bitsOf_29 : decode cX4_bitsOf 29 = .ok (.ldc2_w 345, 3) := by decide +kernel
theorem dX4_bitsOf_32 : decode cX4_bitsOf 32 = .ok (.dmul, 1) := by decide +kernel
theorem dX4_bitsOf_33 : decode cX4_bitsOf 33 = .ok (.dstore_n 2, 1) := by decide +kernel
theorem dX4_bitsOf_34 : decode cX4_bitsOf 34 = .ok (.lload 4, 2) := by decide +kernel
theorem dX4_bitsOf_36 : decode cX4_bitsOf 36 = .ok (.lconst 1, 1) := by decide +kernel
theorem dX4_bitsOf_37 : decode cX4_bitsOf 37 = .ok (.lsub, 1) := by decide +kernel
theorem dX4_bitsOf_38 : decode cX4_bitsOf 38 = .ok (.lstore 4, 2) := by decide +kernel
theorem dX4_bitsOf_40 : decode cX4_bitsOf 40 = .ok (.goto (-25), 3) := by decide +kernel
theorem dX4_bitsOf_43 : decode cX4_bitsOf 43 = .ok (.dload_n 2, 1) := by decide +kernel
theorem dX4_bitsOf_44 : decode cX4_bitsOf 44 = .ok (.dconst 1, 1) := by decide +kernel
theorem dX4_bitsOf_45 : decode cX4_bitsOf 45 = .ok (.dsub, 1) := by decide +kernel
theorem dX4_bitsOf_46 : decode cX4_bitsOf 46 = .ok (.ldc2_w 347, 3) := by decide +kernel
theorem dX4_bitsOf_49 : decode cX4_bitsOf 49 = .ok (.dmul, 1) := by decide +kernel
theorem dX4_bitsOf_50 : decode cX4_bitsOf 50 = .ok (.d2l, 1) := by decide +kernel
theorem dX4_bitsOf_51 : decode cX4_bitsOf 51 = .ok (.lstore 6, 2) := by decide +kernel
theorem dX4_bitsOf_53 : decode cX4_bitsOf 53 = .ok (.lload 4, 2) := by decide +kernel
theorem dX4_bitsOf_55 : decode cX4_bitsOf 55 = .ok (.bipush 52, 2) := by decide +kernel
theorem dX4_bitsOf_57 : decode cX4_bitsOf 57 = .ok (.lshl, 1) := by decide +kernel
theorem dX4_bitsOf_58 : decode cX4_bitsOf 58 = .ok (.lload 6, 2) := by decide +kernel
theorem dX4_bitsOf_60 : decode cX4_bitsOf 60 = .ok (.ladd, 1) := by decide +kernel
theorem dX4_bitsOf_61 : decode cX4_bitsOf 61 = .ok (.lreturn, 1) := by decide +kernel
theorem dX5_init_0 : decode cX5_init 0 = .ok (.aload_n 0, 1) := by decide +kernel
theorem dX5_init_1 : decode cX5_init 1 = .ok (.invokespecial 1, 3) := by decide +kernel
theorem dX5_init_4 : decode cX5_init 4 = .ok (.aload_n 0, 1) := by decide +kernel
theorem dX5_init_5 : decode cX5_init 5 = .ok (.sipush 189, 3) := by decide +kernel
theorem dX5_init_8 : decode cX5_init 8 = .ok (.newarray .int, 2) := by decide +kernel
theorem dX5_init_10 : decode cX5_init 10 = .ok (.putfield 7, 3) := by decide +kernel
theorem dX5_init_13 : decode cX5_init 13 = .ok (.aload_n 0, 1) := by decide +kernel
theorem dX5_init_14 : decode cX5_init 14 = .ok (.sipush 189, 3) := by decide +kernel
theorem dX5_init_17 : decode cX5_init 17 = .ok (.newarray .int, 2) := by decide +kernel
theorem dX5_init_19 : decode cX5_init 19 = .ok (.putfield 13, 3) := by decide +kernel
theorem dX5_init_22 : decode cX5_init 22 = .ok (.aload_n 0, 1) := by decide +kernel
theorem dX5_init_23 : decode cX5_init 23 = .ok (.sipush 1134, 3) := by decide +kernel
theorem dX5_init_26 : decode cX5_init 26 = .ok (.newarray .int, 2) := by decide +kernel
theorem dX5_init_28 : decode cX5_init 28 = .ok (.putfield 16, 3) := by decide +kernel
theorem dX5_init_31 : decode cX5_init 31 = .ok (.aload_n 0, 1) := by decide +kernel
theorem dX5_init_32 : decode cX5_init 32 = .ok (.bipush 60, 2) := by decide +kernel
theorem dX5_init_34 : decode cX5_init 34 = .ok (.newarray .int, 2) := by decide +kernel
theorem dX5_init_36 : decode cX5_init 36 = .ok (.putfield 19, 3) := by decide +kernel
theorem dX5_init_39 : decode cX5_init 39 = .ok (.aload_n 0, 1) := by decide +kernel
theorem dX5_init_40 : decode cX5_init 40 = .ok (.bipush 64, 2) := by decide +kernel
theorem dX5_init_42 : decode cX5_init 42 = .ok (.newarray .int, 2) := by decide +kernel
theorem dX5_init_44 : decode cX5_init 44 = .ok (.putfield 22, 3) := by decide +kernel
theorem dX5_init_47 : decode cX5_init 47 = .ok (.aload_n 0, 1) := by decide +kernel
theorem dX5_init_48 : decode cX5_init 48 = .ok (.bipush 8, 2) := by decide +kernel
theorem dX5_init_50 : decode cX5_init 50 = .ok (.newarray .int, 2) := by decide +kernel
theorem dX5_init_52 : decode cX5_init 52 = .ok (.putfield 25, 3) := by decide +kernel
theorem dX5_init_55 : decode cX5_init 55 = .ok (.aload_n 0, 1) := by decide +kernel
theorem dX5_init_56 : decode cX5_init 56 = .ok (.getfield 7, 3) := by decide +kernel
theorem dX5_init_59 : decode cX5_init 59 = .ok (.iconst 2, 1) := by decide +kernel
theorem dX5_init_60 : decode cX5_init 60 = .ok (.iconst (-1), 1) := by decide +kernel
theorem dX5_init_61 : decode cX5_init 61 = .ok (.iastore, 1) := by decide +kernel
theorem dX5_init_62 : decode cX5_init 62 = .ok (.aload_n 0, 1) := by decide +kernel
theorem dX5_init_63 : decode cX5_init 63 = .ok (.getfield 7, 3) := by decide +kernel
theorem dX5_init_66 : decode cX5_init 66 = .ok (.iconst 4, 1) := by decide +kernel
theorem dX5_init_67 : decode cX5_init 67 = .ok (.iconst 5, 1) := by decide +kernel
theorem dX5_init_68 : decode cX5_init 68 = .ok (.iastore, 1) := by decide +kernel
theorem dX5_init_69 : decode cX5_init 69 = .ok (.aload_n 0, 1) := by decide +kernel
theorem dX5_init_70 : decode cX5_init 70 = .ok (.getfield 7, 3) := by decide +kernel
theorem dX5_init_73 : decode cX5_init 73 = .ok (.iconst 5, 1) := by decide +kernel
theorem dX5_init_74 : decode cX5_init 74 = .ok (.iconst 5, 1) := by decide +kernel
theorem dX5_init_75 : decode cX5_init 75 = .ok (.iastore, 1) := by decide +kernel
theorem dX5_init_76 : decode cX5_init 76 = .ok (.aload_n 0, 1) := by decide +kernel
theorem dX5_init_77 : decode cX5_init 77 = .ok (.getfield 7, 3) := by decide +kernel
theorem dX5_init_80 : decode cX5_init 80 = .ok (.bipush 6, 2) := by decide +kernel
theorem dX5_init_82 : decode cX5_init 82 = .ok (.iconst 4, 1) := by decide +kernel
theorem dX5_init_83 : decode cX5_init 83 = .ok (.iastore, 1) := by decide +kernel
theorem dX5_init_84 : decode cX5_init 84 = .ok (.aload_n 0, 1) := by decide +kernel
theorem dX5_init_85 : decode cX5_init 85 = .ok (.getfield 7, 3) := by decide +kernel
theorem dX5_init_88 : decode cX5_init 88 = .ok (.bipush 7, 2) := by decide +kernel
theorem dX5_init_90 : decode cX5_init 90 = .ok (.bipush 50, 2) := by decide +kernel
theorem dX5_init_92 : decode cX5_init 92 = .ok (.iastore, 1) := by decide +kernel
theorem dX5_init_93 : decode cX5_init 93 = .ok (.return_, 1) := by decide +kernel
theorem dX5_thrown_0 : decode cX5_thrown 0 = .ok (.aload_n 0, 1) := by decide +kernel
theorem dX5_thrown_1 : decode cX5_thrown 1 = .ok (.getfield 28, 3) := by decide +kernel
theorem dX5_thrown_4 : decode cX5_thrown 4 = .ok (.ireturn, 1) := by decide +kernel
theorem dX5_fails_0 : decode cX5_fails 0 = .ok (.aload_n 0, 1) := by decide +kernel
theorem dX5_fails_1 : decode cX5_fails 1 = .ok (.iload_n 1, 1) := by decide +kernel
theorem dX5_fails_2 : decode cX5_fails 2 = .ok (.putfield 28, 3) := by decide +kernel
theorem dX5_fails_5 : decode cX5_fails 5 = .ok (.iconst 0, 1) := by decide +kernel
theorem dX5_fails_6 : decode cX5_fails 6 = .ok (.ireturn, 1) := by decide +kernel
theorem dX5_in_0 : decode cX5_in 0 = .ok (.iload_n 0, 1) := by decide +kernel
theorem dX5_in_1 : decode cX5_in 1 = .ok (.iload_n 1, 1) := by decide +kernel
theorem dX5_in_2 : decode cX5_in 2 = .ok (.if_icmp .lt 12, 3) := by decide +kernel
theorem dX5_in_5 : decode cX5_in 5 = .ok (.iload_n 0, 1) := by decide +kernel
theorem dX5_in_6 : decode cX5_in 6 = .ok (.iload_n 2, 1) := by decide +kernel
theorem dX5_in_7 : decode cX5_in 7 = .ok (.if_icmp .gt 7, 3) := by decide +kernel
theorem dX5_in_10 : decode cX5_in 10 = .ok (.iconst 1, 1) := by decide +kernel
theorem dX5_in_11 : decode cX5_in 11 = .ok (.goto 4, 3) := by decide +kernel
theorem dX5_in_14 : decode cX5_in 14 = .ok (.iconst 0, 1) := by decide +kernel
theorem dX5_in_15 : decode cX5_in 15 = .ok (.ireturn, 1) := by decide +kernel
theorem dX5_of_0 : decode cX5_of 0 = .ok (.aload_n 0, 1) := by decide +kernel
theorem dX5_of_1 : decode cX5_of 1 = .ok (.bipush 13, 2) := by decide +kernel
theorem dX5_of_3 : decode cX5_of 3 = .ok (.bipush 14, 2) := by decide +kernel
theorem dX5_of_5 : decode cX5_of 5 = .ok (.iload_n 1, 1) := by decide +kernel
theorem dX5_of_6 : decode cX5_of 6 = .ok (.imul, 1) := by decide +kernel
theorem dX5_of_7 : decode cX5_of 7 = .ok (.iadd, 1) := by decide +kernel
theorem dX5_of_8 : decode cX5_of 8 = .ok (.iload_n 2, 1) := by decide +kernel
theorem dX5_of_9 : decode cX5_of 9 = .ok (.iadd, 1) := by decide +kernel
theorem dX5_of_10 : decode cX5_of 10 = .ok (.iaload, 1) := by decide +kernel
theorem dX5_of_11 : decode cX5_of 11 = .ok (.ireturn, 1) := by decide +kernel
theorem dX5_adds_0 : decode cX5_adds 0 = .ok (.aload_n 0, 1) := by decide +kernel
theorem dX5_adds_1 : decode cX5_adds 1 = .ok (.bipush 13, 2) := by decide +kernel
theorem dX5_adds_3 : decode cX5_adds 3 = .ok (.bipush 14, 2) := by decide +kernel
theorem dX5_adds_5 : decode cX5_adds 5 = .ok (.iload_n 1, 1) := by decide +kernel
theorem dX5_adds_6 : decode cX5_adds 6 = .ok (.imul, 1) := by decide +kernel
theorem dX5_adds_7 : decode cX5_adds 7 = .ok (.iadd, 1) := by decide +kernel
theorem dX5_adds_8 : decode cX5_adds 8 = .ok (.iload_n 2, 1) := by decide +kernel
theorem dX5_adds_9 : decode cX5_adds 9 = .ok (.iadd, 1) := by decide +kernel
theorem dX5_adds_10 : decode cX5_adds 10 = .ok (.dup2, 1) := by decide +kernel
theorem dX5_adds_11 : decode cX5_adds 11 = .ok (.iaload, 1) := by decide +kernel
theorem dX5_adds_12 : decode cX5_adds 12 = .ok (.iload_n 3, 1) := by decide +kernel
theorem dX5_adds_13 : decode cX5_adds 13 = .ok (.iadd, 1) := by decide +kernel
theorem dX5_adds_14 : decode cX5_adds 14 = .ok (.iastore, 1) := by decide +kernel
theorem dX5_adds_15 : decode cX5_adds 15 = .ok (.return_, 1) := by decide +kernel
set_option maxRecDepth 20000 in
theorem ggX5_isMember_X5_in : GoodIn wsX5_isMember wsX5_in := goodIn_r _ [5] (by decide +kernel) (by decide +kernel)
set_option maxRecDepth 20000 in
theorem gX5_isMember_X5_in : GoodIn wsX5_isMember (va_wsS RX5 32 yX5_in wsX5_in) := goodIn_app (goodIn_of _ (by decide +kernel)) ggX5_isMember_X5_in
set_option maxRecDepth 20000 in
theorem ggX5_isMember_X5_of : GoodIn wsX5_isMember wsX5_of := goodIn_r _ [8] (by decide +kernel) (by decide +kernel)
set_option maxRecDepth 20000 in
theorem gX5_isMember_X5_of : GoodIn wsX5_isMember (va_wsS RX5 36 yX5_of wsX5_of) := goodIn_app (goodIn_of _ (by decide +kernel)) ggX5_isMember_X5_of
theorem dX5_isMember_0 : decode cX5_isMember 0 = .ok (.iload_n 1, 1) := by decide +kernel
theorem dX5_isMember_1 : decode cX5_isMember 1 = .ok (.iconst 0, 1) := by decide +kernel
theorem dX5_isMember_2 : decode cX5_isMember 2 = .ok (.bipush 7, 2) := by decide +kernel
theorem dX5_isMember_4 : decode cX5_isMember 4 = .ok (.invokestatic 32, 3) := by decide +kernel
theorem dX5_isMember_7 : decode cX5_isMember 7 = .ok (.ifCond .eq 20, 3) := by decide +kernel
theorem dX5_isMember_10 : decode cX5_isMember 10 = .ok (.aload_n 0, 1) := by decide +kernel
theorem dX5_isMember_11 : decode cX5_isMember 11 = .ok (.getfield 7, 3) := by decide +kernel
theorem dX5_isMember_14 : decode cX5_isMember 14 = .ok (.iload_n 1, 1) := by decide +kernel
theorem dX5_isMember_15 : decode cX5_isMember 15 = .ok (.iconst 0, 1) := by decide +kernel
theorem dX5_isMember_16 : decode cX5_isMember 16 = .ok (.invokestatic 36, 3) := by decide +kernel
theorem dX5_isMember_19 : decode cX5_isMember 19 = .ok (.iconst 1, 1) := by decide +kernel
theorem dX5_isMember_20 : decode cX5_isMember 20 = .ok (.if_icmp .ne 7, 3) := by decide +kernel
theorem dX5_isMember_23 : decode cX5_isMember 23 = .ok (.iconst 1, 1) := by decide +kernel
theorem dX5_isMember_24 : decode cX5_isMember 24 = .ok (.goto 4, 3) := by decide +kernel
theorem dX5_isMember_27 : decode cX5_isMember 27 = .ok (.iconst 0, 1) := by decide +kernel
theorem dX5_isMember_28 : decode cX5_isMember 28 = .ok (.ireturn, 1) := by decide +kernel
theorem dX5_saves_0 : decode cX5_saves 0 = .ok (.aload_n 0, 1) := by decide +kernel
theorem dX5_saves_1 : decode cX5_saves 1 = .ok (.getfield 40, 3) := by decide +kernel
theorem dX5_saves_4 : decode cX5_saves 4 = .ok (.bipush 6, 2) := by decide +kernel
theorem dX5_saves_6 : decode cX5_saves 6 = .ok (.if_icmp .ne 44, 3) := by decide +kernel
theorem dX5_saves_9 : decode cX5_saves 9 = .ok (.iconst 0, 1) := by decide +kernel
theorem dX5_saves_10 : decode cX5_saves 10 = .ok (.istore_n 1, 1) := by decide +kernel
theorem dX5_saves_11 : decode cX5_saves 11 = .ok (.iload_n 1, 1) := by decide +kernel
theorem dX5_saves_12 : decode cX5_saves 12 = .ok (.sipush 945, 3) := by decide +kernel
theorem dX5_saves_15 : decode cX5_saves 15 = .ok (.if_icmp .ge 25, 3) := by decide +kernel
theorem dX5_saves_18 : decode cX5_saves 18 = .ok (.aload_n 0, 1) := by decide +kernel
theorem dX5_saves_19 : decode cX5_saves 19 = .ok (.getfield 16, 3) := by decide +kernel
theorem dX5_saves_22 : decode cX5_saves 22 = .ok (.iload_n 1, 1) := by decide +kernel
theorem dX5_saves_23 : decode cX5_saves 23 = .ok (.aload_n 0, 1) := by decide +kernel
theorem dX5_saves_24 : decode cX5_saves 24 = .ok (.getfield 16, 3) := by decide +kernel
theorem dX5_saves_27 : decode cX5_saves 27 = .ok (.iload_n 1, 1) := by decide +kernel
theorem dX5_saves_28 : decode cX5_saves 28 = .ok (.sipush 189, 3) := by decide +kernel
theorem dX5_saves_31 : decode cX5_saves 31 = .ok (.iadd, 1) := by decide +kernel
theorem dX5_saves_32 : decode cX5_saves 32 = .ok (.iaload, 1) := by decide +kernel
theorem dX5_saves_33 : decode cX5_saves 33 = .ok (.iastore, 1) := by decide +kernel
theorem dX5_saves_34 : decode cX5_saves 34 = .ok (.iinc 1 1, 3) := by decide +kernel
theorem dX5_saves_37 : decode cX5_saves 37 = .ok (.goto (-26), 3) := by decide +kernel
theorem dX5_saves_40 : decode cX5_saves 40 = .ok (.aload_n 0, 1) := by decide +kernel
theorem dX5_saves_41 : decode cX5_saves 41 = .ok (.dup, 1) := by decide +kernel
theorem dX5_saves_42 : decode cX5_saves 42 = .ok (.getfield 40, 3) := by decide +kernel
theorem dX5_saves_45 : decode cX5_saves 45 = .ok (.iconst 1, 1) := by decide +kernel
theorem dX5_saves_46 : decode cX5_saves 46 = .ok (.isub, 1) := by decide +kernel
theorem dX5_saves_47 : decode cX5_saves 47 = .ok (.putfield 40, 3) := by decide +kernel
theorem dX5_saves_50 : decode cX5_saves 50 = .ok (.iconst 0, 1) := by decide +kernel
theorem dX5_saves_51 : decode cX5_saves 51 = .ok (.istore_n 1, 1) := by decide +kernel
theorem dX5_saves_52 : decode cX5_saves 52 = .ok (.iload_n 1, 1) := by decide +kernel
theorem dX5_saves_53 : decode cX5_saves 53 = .ok (.sipush 189, 3) := by decide +kernel
theorem dX5_saves_56 : decode cX5_saves 56 = .ok (.if_icmp .ge 30, 3) := by decide +kernel
theorem dX5_saves_59 : decode cX5_saves 59 = .ok (.aload_n 0, 1) := by decide +kernel
theorem dX5_saves_60 : decode cX5_saves 60 = .ok (.getfield 16, 3) := by decide +kernel
theorem dX5_saves_63 : decode cX5_saves 63 = .ok (.sipush 189, 3) := by decide +kernel
theorem dX5_saves_66 : decode cX5_saves 66 = .ok (.aload_n 0, 1) := by decide +kernel
theorem dX5_saves_67 : decode cX5_saves 67 = .ok (.getfield 40, 3) := by decide +kernel
theorem dX5_saves_70 : decode cX5_saves 70 = .ok (.imul, 1) := by decide +kernel
theorem dX5_saves_71 : decode cX5_saves 71 = .ok (.iload_n 1, 1) := by decide +kernel
theorem dX5_saves_72 : decode cX5_saves 72 = .ok (.iadd, 1) := by decide +kernel
theorem dX5_saves_73 : decode cX5_saves 73 = .ok (.aload_n 0, 1) := by decide +kernel
theorem dX5_saves_74 : decode cX5_saves 74 = .ok (.getfield 7, 3) := by decide +kernel
theorem dX5_saves_77 : decode cX5_saves 77 = .ok (.iload_n 1, 1) := by decide +kernel
theorem dX5_saves_78 : decode cX5_saves 78 = .ok (.iaload, 1) := by decide +kernel
theorem dX5_saves_79 : decode cX5_saves 79 = .ok (.iastore, 1) := by decide +kernel
theorem dX5_saves_80 : decode cX5_saves 80 = .ok (.iinc 1 1, 3) := by decide +kernel
theorem dX5_saves_83 : decode cX5_saves 83 = .ok (.goto (-31), 3) := by decide +kernel
theorem dX5_saves_86 : decode cX5_saves 86 = .ok (.aload_n 0, 1) := by decide +kernel
theorem dX5_saves_87 : decode cX5_saves 87 = .ok (.dup, 1) := by decide +kernel
theorem dX5_saves_88 : decode cX5_saves 88 = .ok (.getfield 40, 3) := by decide +kernel
theorem dX5_saves_91 : decode cX5_saves 91 = .ok (.iconst 1, 1) := by decide +kernel
theorem dX5_saves_92 : decode cX5_saves 92 = .ok (.iadd, 1) := by decide +kernel
theorem dX5_saves_93 : decode cX5_saves 93 = .ok (.putfield 40, 3) := by decide +kernel
theorem dX5_saves_96 : decode cX5_saves 96 = .ok (.return_, 1) := by decide +kernel
set_option maxRecDepth 20000 in
theorem ggX5_undo_X5_fails : GoodIn wsX5_undo wsX5_fails := goodIn_r _ [9, 1, 10, 11, 12, 13, 14, 15, 16, 17, 18, 19, 20, 21, 22, 23] (by decide +kernel) (by decide +kernel)
set_option maxRecDepth 20000 in
theorem gX5_undo_X5_fails : GoodIn wsX5_undo (wsV RX5 43 RX5 yX5_fails wsX5_fails) := goodIn_app (goodIn_of _ (by decide +kernel)) ggX5_undo_X5_fails
theorem dX5_undo_0 : decode cX5_undo 0 = .ok (.aload_n 0, 1) := by decide +kernel
theorem dX5_undo_1 : decode cX5_undo 1 = .ok (.iconst 0, 1) := by decide +kernel
theorem dX5_undo_2 : decode cX5_undo 2 = .ok (.putfield 28, 3) := by decide +kernel
theorem dX5_undo_5 : decode cX5_undo 5 = .ok (.aload_n 0, 1) := by decide +kernel
theorem dX5_undo_6 : decode cX5_undo 6 = .ok (.getfield 40, 3) := by decide +kernel
theorem dX5_undo_9 : decode cX5_undo 9 = .ok (.ifCond .ne 9, 3) := by decide +kernel
theorem dX5_undo_12 : decode cX5_undo 12 = .ok (.aload_n 0, 1) := by decide +kernel
theorem dX5_undo_13 : decode cX5_undo 13 = .ok (.iconst 1, 1) := by decide +kernel
theorem dX5_undo_14 : decode cX5_undo 14 = .ok (.invokevirtual 43, 3) := by decide +kernel
theorem dX5_undo_17 : decode cX5_undo 17 = .ok (.ireturn, 1) := by decide +kernel
theorem dX5_undo_18 : decode cX5_undo 18 = .ok (.aload_n 0, 1) := by decide +kernel
theorem dX5_undo_19 : decode cX5_undo 19 = .ok (.dup, 1) := by decide +kernel
theorem dX5_undo_20 : decode cX5_undo 20 = .ok (.getfield 40, 3) := by decide +kernel
theorem dX5_undo_23 : decode cX5_undo 23 = .ok (.iconst 1, 1) := by decide +kernel
theorem dX5_undo_24 : decode cX5_undo 24 = .ok (.isub, 1) := by decide +kernel
theorem dX5_undo_25 : decode cX5_undo 25 = .ok (.putfield 40, 3) := by decide +kernel
theorem dX5_undo_28 : decode cX5_undo 28 = .ok (.iconst 0, 1) := by decide +kernel
theorem dX5_undo_29 : decode cX5_undo 29 = .ok (.istore_n 1, 1) := by decide +kernel
theorem dX5_undo_30 : decode cX5_undo 30 = .ok (.iload_n 1, 1) := by decide +kernel
theorem dX5_undo_31 : decode cX5_undo 31 = .ok (.sipush 189, 3) := by decide +kernel
theorem dX5_undo_34 : decode cX5_undo 34 = .ok (.if_icmp .ge 30, 3) := by decide +kernel
theorem dX5_undo_37 : decode cX5_undo 37 = .ok (.aload_n 0, 1) := by decide +kernel
theorem dX5_undo_38 : decode cX5_undo 38 = .ok (.getfield 7, 3) := by decide +kernel
theorem dX5_undo_41 : decode cX5_undo 41 = .ok (.iload_n 1, 1) := by decide +kernel
theorem dX5_undo_42 : decode cX5_undo 42 = .ok (.aload_n 0, 1) := by decide +kernel
theorem dX5_undo_43 : decode cX5_undo 43 = .ok (.getfield 16, 3) := by decide +kernel
theorem dX5_undo_46 : decode cX5_undo 46 = .ok (.sipush 189, 3) := by decide +kernel
theorem dX5_undo_49 : decode cX5_undo 49 = .ok (.aload_n 0, 1) := by decide +kernel
theorem dX5_undo_50 : decode cX5_undo 50 = .ok (.getfield 40, 3) := by decide +kernel
theorem dX5_undo_53 : decode cX5_undo 53 = .ok (.imul, 1) := by decide +kernel
theorem dX5_undo_54 : decode cX5_undo 54 = .ok (.iload_n 1, 1) := by decide +kernel
theorem dX5_undo_55 : decode cX5_undo 55 = .ok (.iadd, 1) := by decide +kernel
theorem dX5_undo_56 : decode cX5_undo 56 = .ok (.iaload, 1) := by decide +kernel
theorem dX5_undo_57 : decode cX5_undo 57 = .ok (.iastore, 1) := by decide +kernel
theorem dX5_undo_58 : decode cX5_undo 58 = .ok (.iinc 1 1, 3) := by decide +kernel
theorem dX5_undo_61 : decode cX5_undo 61 = .ok (.goto (-31), 3) := by decide +kernel
theorem dX5_undo_64 : decode cX5_undo 64 = .ok (.aload_n 0, 1) := by decide +kernel
theorem dX5_undo_65 : decode cX5_undo 65 = .ok (.getfield 40, 3) := by decide +kernel
theorem dX5_undo_68 : decode cX5_undo 68 = .ok (.ireturn, 1) := by decide +kernel
theorem dX5_tries_0 : decode cX5_tries 0 = .ok (.iconst 0, 1) := by decide +kernel
theorem dX5_tries_1 : decode cX5_tries 1 = .ok (.istore_n 1, 1) := by decide +kernel
theorem dX5_tries_2 : decode cX5_tries 2 = .ok (.iload_n 1, 1) := by decide +kernel
theorem dX5_tries_3 : decode cX5_tries 3 = .ok (.sipush 189, 3) := by decide +kernel
theorem dX5_tries_6 : decode cX5_tries 6 = .ok (.if_icmp .ge 21, 3) := by decide +kernel
theorem dX5_tries_9 : decode cX5_tries 9 = .ok (.aload_n 0, 1) := by decide +kernel
theorem dX5_tries_10 : decode cX5_tries 10 = .ok (.getfield 13, 3) := by decide +kernel
theorem dX5_tries_13 : decode cX5_tries 13 = .ok (.iload_n 1, 1) := by decide +kernel
theorem dX5_tries_14 : decode cX5_tries 14 = .ok (.aload_n 0, 1) := by decide +kernel
theorem dX5_tries_15 : decode cX5_tries 15 = .ok (.getfield 7, 3) := by decide +kernel
theorem dX5_tries_18 : decode cX5_tries 18 = .ok (.iload_n 1, 1) := by decide +kernel
theorem dX5_tries_19 : decode cX5_tries 19 = .ok (.iaload, 1) := by decide +kernel
theorem dX5_tries_20 : decode cX5_tries 20 = .ok (.iastore, 1) := by decide +kernel
theorem dX5_tries_21 : decode cX5_tries 21 = .ok (.iinc 1 1, 3) := by decide +kernel
theorem dX5_tries_24 : decode cX5_tries 24 = .ok (.goto (-22), 3) := by decide +kernel
theorem dX5_tries_27 : decode cX5_tries 27 = .ok (.return_, 1) := by decide +kernel
theorem dX5_debt_0 : decode cX5_debt 0 = .ok (.aload_n 0, 1) := by decide +kernel
theorem dX5_debt_1 : decode cX5_debt 1 = .ok (.bipush 125, 2) := by decide +kernel
theorem dX5_debt_3 : decode cX5_debt 3 = .ok (.bipush 8, 2) := by decide +kernel
theorem dX5_debt_5 : decode cX5_debt 5 = .ok (.iload_n 1, 1) := by decide +kernel
theorem dX5_debt_6 : decode cX5_debt 6 = .ok (.imul, 1) := by decide +kernel
theorem dX5_debt_7 : decode cX5_debt 7 = .ok (.iadd, 1) := by decide +kernel
theorem dX5_debt_8 : decode cX5_debt 8 = .ok (.iload_n 2, 1) := by decide +kernel
theorem dX5_debt_9 : decode cX5_debt 9 = .ok (.iadd, 1) := by decide +kernel
theorem dX5_debt_10 : decode cX5_debt 10 = .ok (.iaload, 1) := by decide +kernel
theorem dX5_debt_11 : decode cX5_debt 11 = .ok (.ireturn, 1) := by decide +kernel
set_option maxRecDepth 20000 in
theorem ggX5_toOthers_X5_debt : GoodIn wsX5_toOthers wsX5_debt := goodIn_r _ [4] (by decide +kernel) (by decide +kernel)
set_option maxRecDepth 20000 in
theorem gX5_toOthers_X5_debt : GoodIn wsX5_toOthers (va_wsS RX5 47 yX5_debt wsX5_debt) := goodIn_app (goodIn_of _ (by decide +kernel)) ggX5_toOthers_X5_debt
theorem dX5_toOthers_0 : decode cX5_toOthers 0 = .ok (.iconst 0, 1) := by decide +kernel
theorem dX5_toOthers_1 : decode cX5_toOthers 1 = .ok (.istore_n 2, 1) := by decide +kernel
theorem dX5_toOthers_2 : decode cX5_toOthers 2 = .ok (.iconst 0, 1) := by decide +kernel
theorem dX5_toOthers_3 : decode cX5_toOthers 3 = .ok (.istore_n 3, 1) := by decide +kernel
theorem dX5_toOthers_4 : decode cX5_toOthers 4 = .ok (.iload_n 3, 1) := by decide +kernel
theorem dX5_toOthers_5 : decode cX5_toOthers 5 = .ok (.bipush 8, 2) := by decide +kernel
theorem dX5_toOthers_7 : decode cX5_toOthers 7 = .ok (.if_icmp .ge 18, 3) := by decide +kernel
theorem dX5_toOthers_10 : decode cX5_toOthers 10 = .ok (.iload_n 2, 1) := by decide +kernel
theorem dX5_toOthers_11 : decode cX5_toOthers 11 = .ok (.aload_n 0, 1) := by decide +kernel
theorem dX5_toOthers_12 : decode cX5_toOthers 12 = .ok (.iload_n 1, 1) := by decide +kernel
theorem dX5_toOthers_13 : decode cX5_toOthers 13 = .ok (.iload_n 3, 1) := by decide +kernel
theorem dX5_toOthers_14 : decode cX5_toOthers 14 = .ok (.invokestatic 47, 3) := by decide +kernel
theorem dX5_toOthers_17 : decode cX5_toOthers 17 = .ok (.iadd, 1) := by decide +kernel
theorem dX5_toOthers_18 : decode cX5_toOthers 18 = .ok (.istore_n 2, 1) := by decide +kernel
theorem dX5_toOthers_19 : decode cX5_toOthers 19 = .ok (.iinc 3 1, 3) := by decide +kernel
theorem dX5_toOthers_22 : decode cX5_toOthers 22 = .ok (.goto (-18), 3) := by decide +kernel
theorem dX5_toOthers_25 : decode cX5_toOthers 25 = .ok (.iload_n 2, 1) := by decide +kernel
theorem dX5_toOthers_26 : decode cX5_toOthers 26 = .ok (.ireturn, 1) := by decide +kernel
set_option maxRecDepth 20000 in
theorem ggX5_fromOthers_X5_debt : GoodIn wsX5_fromOthers wsX5_debt := goodIn_r _ [4] (by decide +kernel) (by decide +kernel)
set_option maxRecDepth 20000 in
theorem gX5_fromOthers_X5_debt : GoodIn wsX5_fromOthers (va_wsS RX5 47 yX5_debt wsX5_debt) := goodIn_app (goodIn_of _ (by decide +kernel)) ggX5_fromOthers_X5_debt
theorem dX5_fromOthers_0 : decode cX5_fromOthers 0 = .ok (.iconst 0, 1) := by decide +kernel
theorem dX5_fromOthers_1 : decode cX5_fromOthers 1 = .ok (.istore_n 2, 1) := by decide +kernel
theorem dX5_fromOthers_2 : decode cX5_fromOthers 2 = .ok (.iconst 0, 1) := by decide +kernel
theorem dX5_fromOthers_3 : decode cX5_fromOthers 3 = .ok (.istore_n 3, 1) := by decide +kernel
theorem dX5_fromOthers_4 : decode cX5_fromOthers 4 = .ok (.iload_n 3, 1) := by decide +kernel
theorem dX5_fromOthers_5 : decode cX5_fromOthers 5 = .ok (.bipush 8, 2) := by decide +kernel
theorem dX5_fromOthers_7 : decode cX5_fromOthers 7 = .ok (.if_icmp .ge 18, 3) := by decide +kernel
theorem dX5_fromOthers_10 : decode cX5_fromOthers 10 = .ok (.iload_n 2, 1) := by decide +kernel
theorem dX5_fromOthers_11 : decode cX5_fromOthers 11 = .ok (.aload_n 0, 1) := by decide +kernel
theorem dX5_fromOthers_12 : decode cX5_fromOthers 12 = .ok (.iload_n 3, 1) := by decide +kernel
theorem dX5_fromOthers_13 : decode cX5_fromOthers 13 = .ok (.iload_n 1, 1) := by decide +kernel
theorem dX5_fromOthers_14 : decode cX5_fromOthers 14 = .ok (.invokestatic 47, 3) := by decide +kernel
theorem dX5_fromOthers_17 : decode cX5_fromOthers 17 = .ok (.iadd, 1) := by decide +kernel
theorem dX5_fromOthers_18 : decode cX5_fromOthers 18 = .ok (.istore_n 2, 1) := by decide +kernel
theorem dX5_fromOthers_19 : decode cX5_fromOthers 19 = .ok (.iinc 3 1, 3) := by decide +kernel
theorem dX5_fromOthers_22 : decode cX5_fromOthers 22 = .ok (.goto (-18), 3) := by decide +kernel
theorem dX5_fromOthers_25 : decode cX5_fromOthers 25 = .ok (.iload_n 2, 1) := by decide +kernel
theorem dX5_fromOthers_26 : decode cX5_fromOthers 26 = .ok (.ireturn, 1) := by decide +kernel
set_option maxRecDepth 20000 in
theorem ggX5_debts_X5_of : GoodIn wsX5_debts wsX5_of := goodIn_r _ [4] (by decide +kernel) (by decide +kernel)
set_option maxRecDepth 20000 in
theorem gX5_debts_X5_of : GoodIn wsX5_debts (va_wsS RX5 36 yX5_of wsX5_of) := goodIn_app (goodIn_of _ (by decide +kernel)) ggX5_debts_X5_of
set_option maxRecDepth 20000 in
theorem ggX5_debts_X5_toOthers : GoodIn wsX5_debts wsX5_toOthers := goodIn_r _ [7, 8, 9, 3, 10] (by decide +kernel) (by decide +kernel)
set_option maxRecDepth 20000 in
theorem gX5_debts_X5_toOthers : GoodIn wsX5_debts (va_wsS RX5 50 yX5_toOthers wsX5_toOthers) := goodIn_app (goodIn_of _ (by decide +kernel)) ggX5_debts_X5_toOthers
theorem dX5_debts_0 : decode cX5_debts 0 = .ok (.aload_n 0, 1) := by decide +kernel
theorem dX5_debts_1 : decode cX5_debts 1 = .ok (.iload_n 1, 1) := by decide +kernel
theorem dX5_debts_2 : decode cX5_debts 2 = .ok (.bipush 10, 2) := by decide +kernel
theorem dX5_debts_4 : decode cX5_debts 4 = .ok (.invokestatic 36, 3) := by decide +kernel
theorem dX5_debts_7 : decode cX5_debts 7 = .ok (.aload_n 0, 1) := by decide +kernel
theorem dX5_debts_8 : decode cX5_debts 8 = .ok (.iload_n 1, 1) := by decide +kernel
theorem dX5_debts_9 : decode cX5_debts 9 = .ok (.bipush 11, 2) := by decide +kernel
theorem dX5_debts_11 : decode cX5_debts 11 = .ok (.invokestatic 36, 3) := by decide +kernel
theorem dX5_debts_14 : decode cX5_debts 14 = .ok (.iadd, 1) := by decide +kernel
theorem dX5_debts_15 : decode cX5_debts 15 = .ok (.aload_n 0, 1) := by decide +kernel
theorem dX5_debts_16 : decode cX5_debts 16 = .ok (.iload_n 1, 1) := by decide +kernel
theorem dX5_debts_17 : decode cX5_debts 17 = .ok (.invokestatic 50, 3) := by decide +kernel
theorem dX5_debts_20 : decode cX5_debts 20 = .ok (.iadd, 1) := by decide +kernel
theorem dX5_debts_21 : decode cX5_debts 21 = .ok (.ireturn, 1) := by decide +kernel
set_option maxRecDepth 20000 in
theorem ggX5_partOf_X5_of : GoodIn wsX5_partOf wsX5_of := goodIn_r _ [4] (by decide +kernel) (by decide +kernel)
set_option maxRecDepth 20000 in
theorem gX5_partOf_X5_of : GoodIn wsX5_partOf (va_wsS RX5 36 yX5_of wsX5_of) := goodIn_app (goodIn_of _ (by decide +kernel)) ggX5_partOf_X5_of
theorem dX5_partOf_0 : decode cX5_partOf 0 = .ok (.aload_n 0, 1) := by decide +kernel
theorem dX5_partOf_1 : decode cX5_partOf 1 = .ok (.iload_n 1, 1) := by decide +kernel
theorem dX5_partOf_2 : decode cX5_partOf 2 = .ok (.iconst 4, 1) := by decide +kernel
theorem dX5_partOf_3 : decode cX5_partOf 3 = .ok (.invokestatic 36, 3) := by decide +kernel
theorem dX5_partOf_6 : decode cX5_partOf 6 = .ok (.iconst 1, 1) := by decide +kernel
theorem dX5_partOf_7 : decode cX5_partOf 7 = .ok (.if_icmp .ne 12, 3) := by decide +kernel
theorem dX5_partOf_10 : decode cX5_partOf 10 = .ok (.aload_n 0, 1) := by decide +kernel
theorem dX5_partOf_11 : decode cX5_partOf 11 = .ok (.iload_n 1, 1) := by decide +kernel
theorem dX5_partOf_12 : decode cX5_partOf 12 = .ok (.iconst 3, 1) := by decide +kernel
theorem dX5_partOf_13 : decode cX5_partOf 13 = .ok (.invokestatic 36, 3) := by decide +kernel
theorem dX5_partOf_16 : decode cX5_partOf 16 = .ok (.goto 9, 3) := by decide +kernel
theorem dX5_partOf_19 : decode cX5_partOf 19 = .ok (.aload_n 0, 1) := by decide +kernel
theorem dX5_partOf_20 : decode cX5_partOf 20 = .ok (.iload_n 1, 1) := by decide +kernel
theorem dX5_partOf_21 : decode cX5_partOf 21 = .ok (.iconst 5, 1) := by decide +kernel
theorem dX5_partOf_22 : decode cX5_partOf 22 = .ok (.invokestatic 36, 3) := by decide +kernel
theorem dX5_partOf_25 : decode cX5_partOf 25 = .ok (.ireturn, 1) := by decide +kernel
set_option maxRecDepth 20000 in
theorem ggX5_due_X5_of : GoodIn wsX5_due wsX5_of := goodIn_r _ [4] (by decide +kernel) (by decide +kernel)
set_option maxRecDepth 20000 in
theorem gX5_due_X5_of : GoodIn wsX5_due (va_wsS RX5 36 yX5_of wsX5_of) := goodIn_app (goodIn_of _ (by decide +kernel)) ggX5_due_X5_of
set_option maxRecDepth 20000 in
theorem ggX5_due_X5_partOf : GoodIn wsX5_due wsX5_partOf := goodIn_r _ [7, 1, 2, 3, 4] (by decide +kernel) (by decide +kernel)
set_option maxRecDepth 20000 in
theorem gX5_due_X5_partOf : GoodIn wsX5_due (va_wsS RX5 54 yX5_partOf wsX5_partOf) := goodIn_app (goodIn_of _ (by decide +kernel)) ggX5_due_X5_partOf
theorem dX5_due_0 : decode cX5_due 0 = .ok (.aload_n 0, 1) := by decide +kernel
theorem dX5_due_1 : decode cX5_due 1 = .ok (.iload_n 1, 1) := by decide +kernel
theorem dX5_due_2 : decode cX5_due 2 = .ok (.iconst 4, 1) := by decide +kernel
theorem dX5_due_3 : decode cX5_due 3 = .ok (.invokestatic 36, 3) := by decide +kernel
theorem dX5_due_6 : decode cX5_due 6 = .ok (.ifCond .ne 7, 3) := by decide +kernel
theorem dX5_due_9 : decode cX5_due 9 = .ok (.iconst 0, 1) := by decide +kernel
theorem dX5_due_10 : decode cX5_due 10 = .ok (.goto 16, 3) := by decide +kernel
theorem dX5_due_13 : decode cX5_due 13 = .ok (.aload_n 0, 1) := by decide +kernel
theorem dX5_due_14 : decode cX5_due 14 = .ok (.iload_n 1, 1) := by decide +kernel
theorem dX5_due_15 : decode cX5_due 15 = .ok (.invokestatic 54, 3) := by decide +kernel
theorem dX5_due_18 : decode cX5_due 18 = .ok (.aload_n 0, 1) := by decide +kernel
theorem dX5_due_19 : decode cX5_due 19 = .ok (.iload_n 1, 1) := by decide +kernel
theorem dX5_due_20 : decode cX5_due 20 = .ok (.bipush 6, 2) := by decide +kernel
theorem dX5_due_22 : decode cX5_due 22 = .ok (.invokestatic 36, 3) := by decide +kernel
theorem dX5_due_25 : decode cX5_due 25 = .ok (.iadd, 1) := by decide +kernel
theorem dX5_due_26 : decode cX5_due 26 = .ok (.ireturn, 1) := by decide +kernel
set_option maxRecDepth 20000 in
theorem ggX5_helpers_X5_of : GoodIn wsX5_helpers wsX5_of := goodIn_r _ [4] (by decide +kernel) (by decide +kernel)
set_option maxRecDepth 20000 in
theorem gX5_helpers_X5_of : GoodIn wsX5_helpers (va_wsS RX5 36 yX5_of wsX5_of) := goodIn_app (goodIn_of _ (by decide +kernel)) ggX5_helpers_X5_of
theorem dX5_helpers_0 : decode cX5_helpers 0 = .ok (.iconst 0, 1) := by decide +kernel
theorem dX5_helpers_1 : decode cX5_helpers 1 = .ok (.istore_n 1, 1) := by decide +kernel
theorem dX5_helpers_2 : decode cX5_helpers 2 = .ok (.iconst 0, 1) := by decide +kernel
theorem dX5_helpers_3 : decode cX5_helpers 3 = .ok (.istore_n 2, 1) := by decide +kernel
theorem dX5_helpers_4 : decode cX5_helpers 4 = .ok (.iload_n 2, 1) := by decide +kernel
theorem dX5_helpers_5 : decode cX5_helpers 5 = .ok (.bipush 8, 2) := by decide +kernel
theorem dX5_helpers_7 : decode cX5_helpers 7 = .ok (.if_icmp .ge 37, 3) := by decide +kernel
theorem dX5_helpers_10 : decode cX5_helpers 10 = .ok (.iload_n 1, 1) := by decide +kernel
theorem dX5_helpers_11 : decode cX5_helpers 11 = .ok (.aload_n 0, 1) := by decide +kernel
theorem dX5_helpers_12 : decode cX5_helpers 12 = .ok (.iload_n 2, 1) := by decide +kernel
theorem dX5_helpers_13 : decode cX5_helpers 13 = .ok (.iconst 0, 1) := by decide +kernel
theorem dX5_helpers_14 : decode cX5_helpers 14 = .ok (.invokestatic 36, 3) := by decide +kernel
theorem dX5_helpers_17 : decode cX5_helpers 17 = .ok (.iconst 1, 1) := by decide +kernel
theorem dX5_helpers_18 : decode cX5_helpers 18 = .ok (.if_icmp .ne 17, 3) := by decide +kernel
theorem dX5_helpers_21 : decode cX5_helpers 21 = .ok (.aload_n 0, 1) := by decide +kernel
theorem dX5_helpers_22 : decode cX5_helpers 22 = .ok (.iload_n 2, 1) := by decide +kernel
theorem dX5_helpers_23 : decode cX5_helpers 23 = .ok (.bipush 7, 2) := by decide +kernel
theorem dX5_helpers_25 : decode cX5_helpers 25 = .ok (.invokestatic 36, 3) := by decide +kernel
theorem dX5_helpers_28 : decode cX5_helpers 28 = .ok (.ifCond .ne 7, 3) := by decide +kernel
theorem dX5_helpers_31 : decode cX5_helpers 31 = .ok (.iconst 1, 1) := by decide +kernel
theorem dX5_helpers_32 : decode cX5_helpers 32 = .ok (.goto 4, 3) := by decide +kernel
theorem dX5_helpers_35 : decode cX5_helpers 35 = .ok (.iconst 0, 1) := by decide +kernel
theorem dX5_helpers_36 : decode cX5_helpers 36 = .ok (.iadd, 1) := by decide +kernel
theorem dX5_helpers_37 : decode cX5_helpers 37 = .ok (.istore_n 1, 1) := by decide +kernel
theorem dX5_helpers_38 : decode cX5_helpers 38 = .ok (.iinc 2 1, 3) := by decide +kernel
theorem dX5_helpers_41 : decode cX5_helpers 41 = .ok (.goto (-37), 3) := by decide +kernel
theorem dX5_helpers_44 : decode cX5_helpers 44 = .ok (.iload_n 1, 1) := by decide +kernel
theorem dX5_helpers_45 : decode cX5_helpers 45 = .ok (.ireturn, 1) := by decide +kernel
set_option maxRecDepth 20000 in
theorem ggX5_misses_X5_due : GoodIn wsX5_misses wsX5_due := goodIn_r _ [6, 7, 8, 5, 9, 10, 11, 12] (by decide +kernel) (by decide +kernel)
set_option maxRecDepth 20000 in
theorem gX5_misses_X5_due : GoodIn wsX5_misses (va_wsS RX5 57 yX5_due wsX5_due) := goodIn_app (goodIn_of _ (by decide +kernel)) ggX5_misses_X5_due
set_option maxRecDepth 20000 in
theorem ggX5_misses_X5_adds : GoodIn wsX5_misses wsX5_adds := goodIn_r _ [15] (by decide +kernel) (by decide +kernel)
set_option maxRecDepth 20000 in
theorem gX5_misses_X5_adds : GoodIn wsX5_misses (va_wsS RX5 60 yX5_adds wsX5_adds) := goodIn_app (goodIn_of _ (by decide +kernel)) ggX5_misses_X5_adds
set_option maxRecDepth 20000 in
theorem ggX5_misses_X5_helpers : GoodIn wsX5_misses wsX5_helpers := goodIn_r _ [18, 7, 8, 5, 9] (by decide +kernel) (by decide +kernel)
set_option maxRecDepth 20000 in
theorem gX5_misses_X5_helpers : GoodIn wsX5_misses (va_wsS RX5 64 yX5_helpers wsX5_helpers) := goodIn_app (goodIn_of _ (by decide +kernel)) ggX5_misses_X5_helpers
set_option maxRecDepth 20000 in
theorem ggX5_misses_X5_of : GoodIn wsX5_misses wsX5_of := goodIn_r _ [9] (by decide +kernel) (by decide +kernel)
set_option maxRecDepth 20000 in
theorem gX5_misses_X5_of : GoodIn wsX5_misses (va_wsS RX5 36 yX5_of wsX5_of) := goodIn_app (goodIn_of _ (by decide +kernel)) ggX5_misses_X5_of
theorem dX5_misses_0 : decode cX5_misses 0 = .ok (.aload_n 1, 1) := by decide +kernel
theorem dX5_misses_1 : decode cX5_misses 1 = .ok (.iload_n 2, 1) := by decide +kernel
theorem dX5_misses_2 : decode cX5_misses 2 = .ok (.invokestatic 57, 3) := by decide +kernel
theorem dX5_misses_5 : decode cX5_misses 5 = .ok (.istore_n 3, 1) := by decide +kernel
theorem dX5_misses_6 : decode cX5_misses 6 = .ok (.aload_n 1, 1) := by decide +kernel
theorem dX5_misses_7 : decode cX5_misses 7 = .ok (.iload_n 2, 1) := by decide +kernel
theorem dX5_misses_8 : decode cX5_misses 8 = .ok (.bipush 8, 2) := by decide +kernel
theorem dX5_misses_10 : decode cX5_misses 10 = .ok (.iconst 1, 1) := by decide +kernel
theorem dX5_misses_11 : decode cX5_misses 11 = .ok (.invokestatic 60, 3) := by decide +kernel
theorem dX5_misses_14 : decode cX5_misses 14 = .ok (.aload_n 1, 1) := by decide +kernel
theorem dX5_misses_15 : decode cX5_misses 15 = .ok (.iload_n 2, 1) := by decide +kernel
theorem dX5_misses_16 : decode cX5_misses 16 = .ok (.bipush 9, 2) := by decide +kernel
theorem dX5_misses_18 : decode cX5_misses 18 = .ok (.iconst 1, 1) := by decide +kernel
theorem dX5_misses_19 : decode cX5_misses 19 = .ok (.invokestatic 60, 3) := by decide +kernel
theorem dX5_misses_22 : decode cX5_misses 22 = .ok (.aload_n 1, 1) := by decide +kernel
theorem dX5_misses_23 : decode cX5_misses 23 = .ok (.bipush 12, 2) := by decide +kernel
theorem dX5_misses_25 : decode cX5_misses 25 = .ok (.dup2, 1) := by decide +kernel
theorem dX5_misses_26 : decode cX5_misses 26 = .ok (.iaload, 1) := by decide +kernel
theorem dX5_misses_27 : decode cX5_misses 27 = .ok (.iconst 1, 1) := by decide +kernel
theorem dX5_misses_28 : decode cX5_misses 28 = .ok (.iadd, 1) := by decide +kernel
theorem dX5_misses_29 : decode cX5_misses 29 = .ok (.iastore, 1) := by decide +kernel
theorem dX5_misses_30 : decode cX5_misses 30 = .ok (.aload_n 1, 1) := by decide +kernel
theorem dX5_misses_31 : decode cX5_misses 31 = .ok (.bipush 8, 2) := by decide +kernel
theorem dX5_misses_33 : decode cX5_misses 33 = .ok (.iaload, 1) := by decide +kernel
theorem dX5_misses_34 : decode cX5_misses 34 = .ok (.iload_n 3, 1) := by decide +kernel
theorem dX5_misses_35 : decode cX5_misses 35 = .ok (.if_icmp .ge 10, 3) := by decide +kernel
theorem dX5_misses_38 : decode cX5_misses 38 = .ok (.aload_n 1, 1) := by decide +kernel
theorem dX5_misses_39 : decode cX5_misses 39 = .ok (.bipush 8, 2) := by decide +kernel
theorem dX5_misses_41 : decode cX5_misses 41 = .ok (.iaload, 1) := by decide +kernel
theorem dX5_misses_42 : decode cX5_misses 42 = .ok (.goto 4, 3) := by decide +kernel
theorem dX5_misses_45 : decode cX5_misses 45 = .ok (.iload_n 3, 1) := by decide +kernel
theorem dX5_misses_46 : decode cX5_misses 46 = .ok (.istore 4, 2) := by decide +kernel
theorem dX5_misses_48 : decode cX5_misses 48 = .ok (.aload_n 1, 1) := by decide +kernel
theorem dX5_misses_49 : decode cX5_misses 49 = .ok (.bipush 8, 2) := by decide +kernel
theorem dX5_misses_51 : decode cX5_misses 51 = .ok (.dup2, 1) := by decide +kernel
theorem dX5_misses_52 : decode cX5_misses 52 = .ok (.iaload, 1) := by decide +kernel
theorem dX5_misses_53 : decode cX5_misses 53 = .ok (.iload 4, 2) := by decide +kernel
theorem dX5_misses_55 : decode cX5_misses 55 = .ok (.isub, 1) := by decide +kernel
theorem dX5_misses_56 : decode cX5_misses 56 = .ok (.iastore, 1) := by decide +kernel
theorem dX5_misses_57 : decode cX5_misses 57 = .ok (.aload_n 1, 1) := by decide +kernel
theorem dX5_misses_58 : decode cX5_misses 58 = .ok (.iload_n 2, 1) := by decide +kernel
theorem dX5_misses_59 : decode cX5_misses 59 = .ok (.bipush 11, 2) := by decide +kernel
theorem dX5_misses_61 : decode cX5_misses 61 = .ok (.iload 4, 2) := by decide +kernel
theorem dX5_misses_63 : decode cX5_misses 63 = .ok (.invokestatic 60, 3) := by decide +kernel
theorem dX5_misses_66 : decode cX5_misses 66 = .ok (.iload_n 3, 1) := by decide +kernel
theorem dX5_misses_67 : decode cX5_misses 67 = .ok (.iload 4, 2) := by decide +kernel
theorem dX5_misses_69 : decode cX5_misses 69 = .ok (.isub, 1) := by decide +kernel
theorem dX5_misses_70 : decode cX5_misses 70 = .ok (.istore 5, 2) := by decide +kernel
theorem dX5_misses_72 : decode cX5_misses 72 = .ok (.aload_n 1, 1) := by decide +kernel
theorem dX5_misses_73 : decode cX5_misses 73 = .ok (.invokestatic 64, 3) := by decide +kernel
theorem dX5_misses_76 : decode cX5_misses 76 = .ok (.istore 6, 2) := by decide +kernel
theorem dX5_misses_78 : decode cX5_misses 78 = .ok (.iload 6, 2) := by decide +kernel
theorem dX5_misses_80 : decode cX5_misses 80 = .ok (.ifCond .ne 36, 3) := by decide +kernel
theorem dX5_misses_83 : decode cX5_misses 83 = .ok (.aload_n 1, 1) := by decide +kernel
theorem dX5_misses_84 : decode cX5_misses 84 = .ok (.iload_n 2, 1) := by decide +kernel
theorem dX5_misses_85 : decode cX5_misses 85 = .ok (.bipush 10, 2) := by decide +kernel
theorem dX5_misses_87 : decode cX5_misses 87 = .ok (.iload 5, 2) := by decide +kernel
theorem dX5_misses_89 : decode cX5_misses 89 = .ok (.invokestatic 60, 3) := by decide +kernel
theorem dX5_misses_92 : decode cX5_misses 92 = .ok (.aload_n 0, 1) := by decide +kernel
theorem dX5_misses_93 : decode cX5_misses 93 = .ok (.aload_n 0, 1) := by decide +kernel
theorem dX5_misses_94 : decode cX5_misses 94 = .ok (.getfield 68, 3) := by decide +kernel
theorem dX5_misses_97 : decode cX5_misses 97 = .ok (.ifCond .ne 8, 3) := by decide +kernel
theorem dX5_misses_100 : decode cX5_misses 100 = .ok (.iload 5, 2) := by decide +kernel
theorem dX5_misses_102 : decode cX5_misses 102 = .ok (.ifCond .le 7, 3) := by decide +kernel
theorem dX5_misses_105 : decode cX5_misses 105 = .ok (.iconst 1, 1) := by decide +kernel
theorem dX5_misses_106 : decode cX5_misses 106 = .ok (.goto 4, 3) := by decide +kernel
theorem dX5_misses_109 : decode cX5_misses 109 = .ok (.iconst 0, 1) := by decide +kernel
theorem dX5_misses_110 : decode cX5_misses 110 = .ok (.putfield 68, 3) := by decide +kernel
theorem dX5_misses_113 : decode cX5_misses 113 = .ok (.iload 4, 2) := by decide +kernel
theorem dX5_misses_115 : decode cX5_misses 115 = .ok (.ireturn, 1) := by decide +kernel
theorem dX5_misses_116 : decode cX5_misses 116 = .ok (.iconst 0, 1) := by decide +kernel
theorem dX5_misses_117 : decode cX5_misses 117 = .ok (.istore 7, 2) := by decide +kernel
theorem dX5_misses_119 : decode cX5_misses 119 = .ok (.iconst 0, 1) := by decide +kernel
theorem dX5_misses_120 : decode cX5_misses 120 = .ok (.istore 8, 2) := by decide +kernel
theorem dX5_misses_122 : decode cX5_misses 122 = .ok (.iload 8, 2) := by decide +kernel
theorem dX5_misses_124 : decode cX5_misses 124 = .ok (.bipush 8, 2) := by decide +kernel
theorem dX5_misses_126 : decode cX5_misses 126 = .ok (.if_icmp .ge 96, 3) := by decide +kernel
theorem dX5_misses_129 : decode cX5_misses 129 = .ok (.aload_n 1, 1) := by decide +kernel
theorem dX5_misses_130 : decode cX5_misses 130 = .ok (.iload 8, 2) := by decide +kernel
theorem dX5_misses_132 : decode cX5_misses 132 = .ok (.iconst 0, 1) := by decide +kernel
theorem dX5_misses_133 : decode cX5_misses 133 = .ok (.invokestatic 36, 3) := by decide +kernel
theorem dX5_misses_136 : decode cX5_misses 136 = .ok (.iconst 1, 1) := by decide +kernel
theorem dX5_misses_137 : decode cX5_misses 137 = .ok (.if_icmp .ne 79, 3) := by decide +kernel
theorem dX5_misses_140 : decode cX5_misses 140 = .ok (.aload_n 1, 1) := by decide +kernel
theorem dX5_misses_141 : decode cX5_misses 141 = .ok (.iload 8, 2) := by decide +kernel
theorem dX5_misses_143 : decode cX5_misses 143 = .ok (.bipush 7, 2) := by decide +kernel
theorem dX5_misses_145 : decode cX5_misses 145 = .ok (.invokestatic 36, 3) := by decide +kernel
theorem dX5_misses_148 : decode cX5_misses 148 = .ok (.ifCond .ne 68, 3) := by decide +kernel
theorem dX5_misses_151 : decode cX5_misses 151 = .ok (.iload 5, 2) := by decide +kernel
theorem dX5_misses_153 : decode cX5_misses 153 = .ok (.iload 6, 2) := by decide +kernel
theorem dX5_misses_155 : decode cX5_misses 155 = .ok (.idiv, 1) := by decide +kernel
theorem dX5_misses_156 : decode cX5_misses 156 = .ok (.iload 7, 2) := by decide +kernel
theorem dX5_misses_158 : decode cX5_misses 158 = .ok (.iload 5, 2) := by decide +kernel
theorem dX5_misses_160 : decode cX5_misses 160 = .ok (.iload 6, 2) := by decide +kernel
theorem dX5_misses_162 : decode cX5_misses 162 = .ok (.irem, 1) := by decide +kernel
theorem dX5_misses_163 : decode cX5_misses 163 = .ok (.if_icmp .ge 7, 3) := by decide +kernel
theorem dX5_misses_166 : decode cX5_misses 166 = .ok (.iconst 1, 1) := by decide +kernel
theorem dX5_misses_167 : decode cX5_misses 167 = .ok (.goto 4, 3) := by decide +kernel
theorem dX5_misses_170 : decode cX5_misses 170 = .ok (.iconst 0, 1) := by decide +kernel
theorem dX5_misses_171 : decode cX5_misses 171 = .ok (.iadd, 1) := by decide +kernel
theorem dX5_misses_172 : decode cX5_misses 172 = .ok (.istore 9, 2) := by decide +kernel
theorem dX5_misses_174 : decode cX5_misses 174 = .ok (.aload_n 1, 1) := by decide +kernel
theorem dX5_misses_175 : decode cX5_misses 175 = .ok (.bipush 125, 2) := by decide +kernel
theorem dX5_misses_177 : decode cX5_misses 177 = .ok (.bipush 8, 2) := by decide +kernel
theorem dX5_misses_179 : decode cX5_misses 179 = .ok (.iload_n 2, 1) := by decide +kernel
theorem dX5_misses_180 : decode cX5_misses 180 = .ok (.imul, 1) := by decide +kernel
theorem dX5_misses_181 : decode cX5_misses 181 = .ok (.iadd, 1) := by decide +kernel
theorem dX5_misses_182 : decode cX5_misses 182 = .ok (.iload 8, 2) := by decide +kernel
theorem dX5_misses_184 : decode cX5_misses 184 = .ok (.iadd, 1) := by decide +kernel
theorem dX5_misses_185 : decode cX5_misses 185 = .ok (.dup2, 1) := by decide +kernel
theorem dX5_misses_186 : decode cX5_misses 186 = .ok (.iaload, 1) := by decide +kernel
theorem dX5_misses_187 : decode cX5_misses 187 = .ok (.iload 9, 2) := by decide +kernel
theorem dX5_misses_189 : decode cX5_misses 189 = .ok (.iadd, 1) := by decide +kernel
theorem dX5_misses_190 : decode cX5_misses 190 = .ok (.iastore, 1) := by decide +kernel
theorem dX5_misses_191 : decode cX5_misses 191 = .ok (.aload_n 1, 1) := by decide +kernel
theorem dX5_misses_192 : decode cX5_misses 192 = .ok (.iload 8, 2) := by decide +kernel
theorem dX5_misses_194 : decode cX5_misses 194 = .ok (.bipush 13, 2) := by decide +kernel
theorem dX5_misses_196 : decode cX5_misses 196 = .ok (.iload 9, 2) := by decide +kernel
theorem dX5_misses_198 : decode cX5_misses 198 = .ok (.invokestatic 60, 3) := by decide +kernel
theorem dX5_misses_201 : decode cX5_misses 201 = .ok (.aload_n 0, 1) := by decide +kernel
theorem dX5_misses_202 : decode cX5_misses 202 = .ok (.getfield 25, 3) := by decide +kernel
theorem dX5_misses_205 : decode cX5_misses 205 = .ok (.iload 8, 2) := by decide +kernel
theorem dX5_misses_207 : decode cX5_misses 207 = .ok (.dup2, 1) := by decide +kernel
theorem dX5_misses_208 : decode cX5_misses 208 = .ok (.iaload, 1) := by decide +kernel
theorem dX5_misses_209 : decode cX5_misses 209 = .ok (.iload 9, 2) := by decide +kernel
theorem dX5_misses_211 : decode cX5_misses 211 = .ok (.iadd, 1) := by decide +kernel
theorem dX5_misses_212 : decode cX5_misses 212 = .ok (.iastore, 1) := by decide +kernel
theorem dX5_misses_213 : decode cX5_misses 213 = .ok (.iinc 7 1, 3) := by decide +kernel
theorem dX5_misses_216 : decode cX5_misses 216 = .ok (.iinc 8 1, 3) := by decide +kernel
theorem dX5_misses_219 : decode cX5_misses 219 = .ok (.goto (-97), 3) := by decide +kernel
theorem dX5_misses_222 : decode cX5_misses 222 = .ok (.iload_n 3, 1) := by decide +kernel
theorem dX5_misses_223 : decode cX5_misses 223 = .ok (.ireturn, 1) := by decide +kernel
theorem dX5_loanEnds_0 : decode cX5_loanEnds 0 = .ok (.iconst 2, 1) := by decide +kernel
theorem dX5_loanEnds_1 : decode cX5_loanEnds 1 = .ok (.istore_n 2, 1) := by decide +kernel
theorem dX5_loanEnds_2 : decode cX5_loanEnds 2 = .ok (.iload_n 2, 1) := by decide +kernel
theorem dX5_loanEnds_3 : decode cX5_loanEnds 3 = .ok (.bipush 6, 2) := by decide +kernel
theorem dX5_loanEnds_5 : decode cX5_loanEnds 5 = .ok (.if_icmp .gt 21, 3) := by decide +kernel
theorem dX5_loanEnds_8 : decode cX5_loanEnds 8 = .ok (.aload_n 0, 1) := by decide +kernel
theorem dX5_loanEnds_9 : decode cX5_loanEnds 9 = .ok (.bipush 13, 2) := by decide +kernel
theorem dX5_loanEnds_11 : decode cX5_loanEnds 11 = .ok (.bipush 14, 2) := by decide +kernel
theorem dX5_loanEnds_13 : decode cX5_loanEnds 13 = .ok (.iload_n 1, 1) := by decide +kernel
theorem dX5_loanEnds_14 : decode cX5_loanEnds 14 = .ok (.imul, 1) := by decide +kernel
theorem dX5_loanEnds_15 : decode cX5_loanEnds 15 = .ok (.iadd, 1) := by decide +kernel
theorem dX5_loanEnds_16 : decode cX5_loanEnds 16 = .ok (.iload_n 2, 1) := by decide +kernel
theorem dX5_loanEnds_17 : decode cX5_loanEnds 17 = .ok (.iadd, 1) := by decide +kernel
theorem dX5_loanEnds_18 : decode cX5_loanEnds 18 = .ok (.iconst 0, 1) := by decide +kernel
theorem dX5_loanEnds_19 : decode cX5_loanEnds 19 = .ok (.iastore, 1) := by decide +kernel
theorem dX5_loanEnds_20 : decode cX5_loanEnds 20 = .ok (.iinc 2 1, 3) := by decide +kernel
theorem dX5_loanEnds_23 : decode cX5_loanEnds 23 = .ok (.goto (-21), 3) := by decide +kernel
theorem dX5_loanEnds_26 : decode cX5_loanEnds 26 = .ok (.return_, 1) := by decide +kernel
set_option maxRecDepth 20000 in
theorem ggX5_nextChair_X5_of : GoodIn wsX5_nextChair wsX5_of := goodIn_r _ [4] (by decide +kernel) (by decide +kernel)
set_option maxRecDepth 20000 in
theorem gX5_nextChair_X5_of : GoodIn wsX5_nextChair (va_wsS RX5 36 yX5_of wsX5_of) := goodIn_app (goodIn_of _ (by decide +kernel)) ggX5_nextChair_X5_of
set_option maxRecDepth 20000 in
theorem ggX5_nextChair_X5_debts : GoodIn wsX5_nextChair wsX5_debts := goodIn_r _ [7, 1, 2, 3, 4, 8, 9, 10, 11, 12, 13] (by decide +kernel) (by decide +kernel)
set_option maxRecDepth 20000 in
theorem gX5_nextChair_X5_debts : GoodIn wsX5_nextChair (va_wsS RX5 72 yX5_debts wsX5_debts) := goodIn_app (goodIn_of _ (by decide +kernel)) ggX5_nextChair_X5_debts
theorem dX5_nextChair_0 : decode cX5_nextChair 0 = .ok (.iconst 1, 1) := by decide +kernel
theorem dX5_nextChair_1 : decode cX5_nextChair 1 = .ok (.istore_n 2, 1) := by decide +kernel
theorem dX5_nextChair_2 : decode cX5_nextChair 2 = .ok (.iload_n 2, 1) := by decide +kernel
theorem dX5_nextChair_3 : decode cX5_nextChair 3 = .ok (.bipush 8, 2) := by decide +kernel
theorem dX5_nextChair_5 : decode cX5_nextChair 5 = .ok (.if_icmp .gt 36, 3) := by decide +kernel
theorem dX5_nextChair_8 : decode cX5_nextChair 8 = .ok (.iload_n 1, 1) := by decide +kernel
theorem dX5_nextChair_9 : decode cX5_nextChair 9 = .ok (.iload_n 2, 1) := by decide +kernel
theorem dX5_nextChair_10 : decode cX5_nextChair 10 = .ok (.iadd, 1) := by decide +kernel
theorem dX5_nextChair_11 : decode cX5_nextChair 11 = .ok (.bipush 8, 2) := by decide +kernel
theorem dX5_nextChair_13 : decode cX5_nextChair 13 = .ok (.irem, 1) := by decide +kernel
theorem dX5_nextChair_14 : decode cX5_nextChair 14 = .ok (.istore_n 3, 1) := by decide +kernel
theorem dX5_nextChair_15 : decode cX5_nextChair 15 = .ok (.aload_n 0, 1) := by decide +kernel
theorem dX5_nextChair_16 : decode cX5_nextChair 16 = .ok (.iload_n 3, 1) := by decide +kernel
theorem dX5_nextChair_17 : decode cX5_nextChair 17 = .ok (.iconst 0, 1) := by decide +kernel
theorem dX5_nextChair_18 : decode cX5_nextChair 18 = .ok (.invokestatic 36, 3) := by decide +kernel
theorem dX5_nextChair_21 : decode cX5_nextChair 21 = .ok (.iconst 1, 1) := by decide +kernel
theorem dX5_nextChair_22 : decode cX5_nextChair 22 = .ok (.if_icmp .ne 13, 3) := by decide +kernel
theorem dX5_nextChair_25 : decode cX5_nextChair 25 = .ok (.aload_n 0, 1) := by decide +kernel
theorem dX5_nextChair_26 : decode cX5_nextChair 26 = .ok (.iload_n 3, 1) := by decide +kernel
theorem dX5_nextChair_27 : decode cX5_nextChair 27 = .ok (.invokestatic 72, 3) := by decide +kernel
theorem dX5_nextChair_30 : decode cX5_nextChair 30 = .ok (.ifCond .ne 5, 3) := by decide +kernel
theorem dX5_nextChair_33 : decode cX5_nextChair 33 = .ok (.iload_n 3, 1) := by decide +kernel
theorem dX5_nextChair_34 : decode cX5_nextChair 34 = .ok (.ireturn, 1) := by decide +kernel
theorem dX5_nextChair_35 : decode cX5_nextChair 35 = .ok (.iinc 2 1, 3) := by decide +kernel
theorem dX5_nextChair_38 : decode cX5_nextChair 38 = .ok (.goto (-36), 3) := by decide +kernel
theorem dX5_nextChair_41 : decode cX5_nextChair 41 = .ok (.iconst (-1), 1) := by decide +kernel
theorem dX5_nextChair_42 : decode cX5_nextChair 42 = .ok (.ireturn, 1) := by decide +kernel
set_option maxRecDepth 20000 in
theorem ggX5_ends_X5_of : GoodIn wsX5_ends wsX5_of := goodIn_r _ [6] (by decide +kernel) (by decide +kernel)
set_option maxRecDepth 20000 in
theorem gX5_ends_X5_of : GoodIn wsX5_ends (va_wsS RX5 36 yX5_of wsX5_of) := goodIn_app (goodIn_of _ (by decide +kernel)) ggX5_ends_X5_of
set_option maxRecDepth 20000 in
theorem ggX5_ends_X5_due : GoodIn wsX5_ends wsX5_due := goodIn_r _ [9, 3, 4, 5, 6, 10, 11, 12] (by decide +kernel) (by decide +kernel)
set_option maxRecDepth 20000 in
theorem gX5_ends_X5_due : GoodIn wsX5_ends (va_wsS RX5 57 yX5_due wsX5_due) := goodIn_app (goodIn_of _ (by decide +kernel)) ggX5_ends_X5_due
set_option maxRecDepth 20000 in
theorem ggX5_ends_X5_misses : GoodIn wsX5_ends wsX5_misses := goodIn_r _ [16, 1, 2, 7, 8, 5, 9, 3, 4, 6, 10, 11, 12, 17, 18, 19, 20, 21, 22, 38, 39, 40, 41, 42, 43, 44, 45, 46, 47, 48, 49, 50, 51] (by decide +kernel) (by decide +kernel)
set_option maxRecDepth 20000 in
theorem gX5_ends_X5_misses : GoodIn wsX5_ends (wsV RX5 75 RX5 yX5_misses wsX5_misses) := goodIn_app (goodIn_of _ (by decide +kernel)) ggX5_ends_X5_misses
set_option maxRecDepth 20000 in
theorem ggX5_ends_X5_partOf : GoodIn wsX5_ends wsX5_partOf := goodIn_r _ [12, 3, 4, 5, 6] (by decide +kernel) (by decide +kernel)
set_option maxRecDepth 20000 in
theorem gX5_ends_X5_partOf : GoodIn wsX5_ends (va_wsS RX5 54 yX5_partOf wsX5_partOf) := goodIn_app (goodIn_of _ (by decide +kernel)) ggX5_ends_X5_partOf
set_option maxRecDepth 20000 in
theorem ggX5_ends_X5_adds : GoodIn wsX5_ends wsX5_adds := goodIn_r _ [19] (by decide +kernel) (by decide +kernel)
set_option maxRecDepth 20000 in
theorem gX5_ends_X5_adds : GoodIn wsX5_ends (va_wsS RX5 60 yX5_adds wsX5_adds) := goodIn_app (goodIn_of _ (by decide +kernel)) ggX5_ends_X5_adds
set_option maxRecDepth 20000 in
theorem ggX5_ends_X5_loanEnds : GoodIn wsX5_ends wsX5_loanEnds := goodIn_r _ [25] (by decide +kernel) (by decide +kernel)
set_option maxRecDepth 20000 in
theorem gX5_ends_X5_loanEnds : GoodIn wsX5_ends (va_wsS RX5 78 yX5_loanEnds wsX5_loanEnds) := goodIn_app (goodIn_of _ (by decide +kernel)) ggX5_ends_X5_loanEnds
set_option maxRecDepth 20000 in
theorem ggX5_ends_X5_nextChair : GoodIn wsX5_ends wsX5_nextChair := goodIn_r _ [28, 3, 4, 5, 6, 29, 30, 31, 32, 33, 34, 35, 36, 37] (by decide +kernel) (by decide +kernel)
set_option maxRecDepth 20000 in
theorem gX5_ends_X5_nextChair : GoodIn wsX5_ends (va_wsS RX5 82 yX5_nextChair wsX5_nextChair) := goodIn_app (goodIn_of _ (by decide +kernel)) ggX5_ends_X5_nextChair
theorem dX5_ends_0 : decode cX5_ends 0 = .ok (.iconst 0, 1) := by decide +kernel
theorem dX5_ends_1 : decode cX5_ends 1 = .ok (.istore_n 2, 1) := by decide +kernel
theorem dX5_ends_2 : decode cX5_ends 2 = .ok (.aload_n 0, 1) := by decide +kernel
theorem dX5_ends_3 : decode cX5_ends 3 = .ok (.iconst 0, 1) := by decide +kernel
theorem dX5_ends_4 : decode cX5_ends 4 = .ok (.putfield 68, 3) := by decide +kernel
theorem dX5_ends_7 : decode cX5_ends 7 = .ok (.iconst 0, 1) := by decide +kernel
theorem dX5_ends_8 : decode cX5_ends 8 = .ok (.istore_n 3, 1) := by decide +kernel
theorem dX5_ends_9 : decode cX5_ends 9 = .ok (.iload_n 3, 1) := by decide +kernel
theorem dX5_ends_10 : decode cX5_ends 10 = .ok (.bipush 8, 2) := by decide +kernel
theorem dX5_ends_12 : decode cX5_ends 12 = .ok (.if_icmp .ge 16, 3) := by decide +kernel
theorem dX5_ends_15 : decode cX5_ends 15 = .ok (.aload_n 0, 1) := by decide +kernel
theorem dX5_ends_16 : decode cX5_ends 16 = .ok (.getfield 25, 3) := by decide +kernel
theorem dX5_ends_19 : decode cX5_ends 19 = .ok (.iload_n 3, 1) := by decide +kernel
theorem dX5_ends_20 : decode cX5_ends 20 = .ok (.iconst 0, 1) := by decide +kernel
theorem dX5_ends_21 : decode cX5_ends 21 = .ok (.iastore, 1) := by decide +kernel
theorem dX5_ends_22 : decode cX5_ends 22 = .ok (.iinc 3 1, 3) := by decide +kernel
theorem dX5_ends_25 : decode cX5_ends 25 = .ok (.goto (-16), 3) := by decide +kernel
theorem dX5_ends_28 : decode cX5_ends 28 = .ok (.iconst 0, 1) := by decide +kernel
theorem dX5_ends_29 : decode cX5_ends 29 = .ok (.istore_n 3, 1) := by decide +kernel
theorem dX5_ends_30 : decode cX5_ends 30 = .ok (.iload_n 3, 1) := by decide +kernel
theorem dX5_ends_31 : decode cX5_ends 31 = .ok (.bipush 8, 2) := by decide +kernel
theorem dX5_ends_33 : decode cX5_ends 33 = .ok (.if_icmp .ge 102, 3) := by decide +kernel
theorem dX5_ends_36 : decode cX5_ends 36 = .ok (.aload_n 1, 1) := by decide +kernel
theorem dX5_ends_37 : decode cX5_ends 37 = .ok (.iload_n 3, 1) := by decide +kernel
theorem dX5_ends_38 : decode cX5_ends 38 = .ok (.iconst 0, 1) := by decide +kernel
theorem dX5_ends_39 : decode cX5_ends 39 = .ok (.invokestatic 36, 3) := by decide +kernel
theorem dX5_ends_42 : decode cX5_ends 42 = .ok (.iconst 1, 1) := by decide +kernel
theorem dX5_ends_43 : decode cX5_ends 43 = .ok (.if_icmp .ne 86, 3) := by decide +kernel
theorem dX5_ends_46 : decode cX5_ends 46 = .ok (.aload_n 1, 1) := by decide +kernel
theorem dX5_ends_47 : decode cX5_ends 47 = .ok (.iload_n 3, 1) := by decide +kernel
theorem dX5_ends_48 : decode cX5_ends 48 = .ok (.iconst 4, 1) := by decide +kernel
theorem dX5_ends_49 : decode cX5_ends 49 = .ok (.invokestatic 36, 3) := by decide +kernel
theorem dX5_ends_52 : decode cX5_ends 52 = .ok (.ifCond .le 77, 3) := by decide +kernel
theorem dX5_ends_55 : decode cX5_ends 55 = .ok (.aload_n 1, 1) := by decide +kernel
theorem dX5_ends_56 : decode cX5_ends 56 = .ok (.bipush 10, 2) := by decide +kernel
theorem dX5_ends_58 : decode cX5_ends 58 = .ok (.dup2, 1) := by decide +kernel
theorem dX5_ends_59 : decode cX5_ends 59 = .ok (.iaload, 1) := by decide +kernel
theorem dX5_ends_60 : decode cX5_ends 60 = .ok (.aload_n 1, 1) := by decide +kernel
theorem dX5_ends_61 : decode cX5_ends 61 = .ok (.iload_n 3, 1) := by decide +kernel
theorem dX5_ends_62 : decode cX5_ends 62 = .ok (.bipush 6, 2) := by decide +kernel
theorem dX5_ends_64 : decode cX5_ends 64 = .ok (.invokestatic 36, 3) := by decide +kernel
theorem dX5_ends_67 : decode cX5_ends 67 = .ok (.iadd, 1) := by decide +kernel
theorem dX5_ends_68 : decode cX5_ends 68 = .ok (.iastore, 1) := by decide +kernel
theorem dX5_ends_69 : decode cX5_ends 69 = .ok (.iload_n 2, 1) := by decide +kernel
theorem dX5_ends_70 : decode cX5_ends 70 = .ok (.aload_n 1, 1) := by decide +kernel
theorem dX5_ends_71 : decode cX5_ends 71 = .ok (.iload_n 3, 1) := by decide +kernel
theorem dX5_ends_72 : decode cX5_ends 72 = .ok (.bipush 7, 2) := by decide +kernel
theorem dX5_ends_74 : decode cX5_ends 74 = .ok (.invokestatic 36, 3) := by decide +kernel
theorem dX5_ends_77 : decode cX5_ends 77 = .ok (.ifCond .ne 11, 3) := by decide +kernel
theorem dX5_ends_80 : decode cX5_ends 80 = .ok (.aload_n 1, 1) := by decide +kernel
theorem dX5_ends_81 : decode cX5_ends 81 = .ok (.iload_n 3, 1) := by decide +kernel
theorem dX5_ends_82 : decode cX5_ends 82 = .ok (.invokestatic 57, 3) := by decide +kernel
theorem dX5_ends_85 : decode cX5_ends 85 = .ok (.goto 9, 3) := by decide +kernel
theorem dX5_ends_88 : decode cX5_ends 88 = .ok (.aload_n 0, 1) := by decide +kernel
theorem dX5_ends_89 : decode cX5_ends 89 = .ok (.aload_n 1, 1) := by decide +kernel
theorem dX5_ends_90 : decode cX5_ends 90 = .ok (.iload_n 3, 1) := by decide +kernel
theorem dX5_ends_91 : decode cX5_ends 91 = .ok (.invokevirtual 75, 3) := by decide +kernel
theorem dX5_ends_94 : decode cX5_ends 94 = .ok (.iadd, 1) := by decide +kernel
theorem dX5_ends_95 : decode cX5_ends 95 = .ok (.istore_n 2, 1) := by decide +kernel
theorem dX5_ends_96 : decode cX5_ends 96 = .ok (.aload_n 1, 1) := by decide +kernel
theorem dX5_ends_97 : decode cX5_ends 97 = .ok (.iload_n 3, 1) := by decide +kernel
theorem dX5_ends_98 : decode cX5_ends 98 = .ok (.iconst 3, 1) := by decide +kernel
theorem dX5_ends_99 : decode cX5_ends 99 = .ok (.aload_n 1, 1) := by decide +kernel
theorem dX5_ends_100 : decode cX5_ends 100 = .ok (.iload_n 3, 1) := by decide +kernel
theorem dX5_ends_101 : decode cX5_ends 101 = .ok (.invokestatic 54, 3) := by decide +kernel
theorem dX5_ends_104 : decode cX5_ends 104 = .ok (.ineg, 1) := by decide +kernel
theorem dX5_ends_105 : decode cX5_ends 105 = .ok (.invokestatic 60, 3) := by decide +kernel
theorem dX5_ends_108 : decode cX5_ends 108 = .ok (.aload_n 1, 1) := by decide +kernel
theorem dX5_ends_109 : decode cX5_ends 109 = .ok (.iload_n 3, 1) := by decide +kernel
theorem dX5_ends_110 : decode cX5_ends 110 = .ok (.iconst 4, 1) := by decide +kernel
theorem dX5_ends_111 : decode cX5_ends 111 = .ok (.iconst (-1), 1) := by decide +kernel
theorem dX5_ends_112 : decode cX5_ends 112 = .ok (.invokestatic 60, 3) := by decide +kernel
theorem dX5_ends_115 : decode cX5_ends 115 = .ok (.aload_n 1, 1) := by decide +kernel
theorem dX5_ends_116 : decode cX5_ends 116 = .ok (.iload_n 3, 1) := by decide +kernel
theorem dX5_ends_117 : decode cX5_ends 117 = .ok (.iconst 4, 1) := by decide +kernel
theorem dX5_ends_118 : decode cX5_ends 118 = .ok (.invokestatic 36, 3) := by decide +kernel
theorem dX5_ends_121 : decode cX5_ends 121 = .ok (.ifCond .ne 8, 3) := by decide +kernel
theorem dX5_ends_124 : decode cX5_ends 124 = .ok (.aload_n 1, 1) := by decide +kernel
theorem dX5_ends_125 : decode cX5_ends 125 = .ok (.iload_n 3, 1) := by decide +kernel
theorem dX5_ends_126 : decode cX5_ends 126 = .ok (.invokestatic 78, 3) := by decide +kernel
theorem dX5_ends_129 : decode cX5_ends 129 = .ok (.iinc 3 1, 3) := by decide +kernel
theorem dX5_ends_132 : decode cX5_ends 132 = .ok (.goto (-102), 3) := by decide +kernel
theorem dX5_ends_135 : decode cX5_ends 135 = .ok (.aload_n 1, 1) := by decide +kernel
theorem dX5_ends_136 : decode cX5_ends 136 = .ok (.bipush 11, 2) := by decide +kernel
theorem dX5_ends_138 : decode cX5_ends 138 = .ok (.dup2, 1) := by decide +kernel
theorem dX5_ends_139 : decode cX5_ends 139 = .ok (.iaload, 1) := by decide +kernel
theorem dX5_ends_140 : decode cX5_ends 140 = .ok (.iload_n 2, 1) := by decide +kernel
theorem dX5_ends_141 : decode cX5_ends 141 = .ok (.iadd, 1) := by decide +kernel
theorem dX5_ends_142 : decode cX5_ends 142 = .ok (.iastore, 1) := by decide +kernel
theorem dX5_ends_143 : decode cX5_ends 143 = .ok (.iconst 0, 1) := by decide +kernel
theorem dX5_ends_144 : decode cX5_ends 144 = .ok (.istore_n 3, 1) := by decide +kernel
theorem dX5_ends_145 : decode cX5_ends 145 = .ok (.iload_n 3, 1) := by decide +kernel
theorem dX5_ends_146 : decode cX5_ends 146 = .ok (.bipush 8, 2) := by decide +kernel
theorem dX5_ends_148 : decode cX5_ends 148 = .ok (.if_icmp .ge 49, 3) := by decide +kernel
theorem dX5_ends_151 : decode cX5_ends 151 = .ok (.aload_n 1, 1) := by decide +kernel
theorem dX5_ends_152 : decode cX5_ends 152 = .ok (.iload_n 3, 1) := by decide +kernel
theorem dX5_ends_153 : decode cX5_ends 153 = .ok (.iconst 0, 1) := by decide +kernel
theorem dX5_ends_154 : decode cX5_ends 154 = .ok (.invokestatic 36, 3) := by decide +kernel
theorem dX5_ends_157 : decode cX5_ends 157 = .ok (.iconst 1, 1) := by decide +kernel
theorem dX5_ends_158 : decode cX5_ends 158 = .ok (.if_icmp .ne 33, 3) := by decide +kernel
theorem dX5_ends_161 : decode cX5_ends 161 = .ok (.aload_n 1, 1) := by decide +kernel
theorem dX5_ends_162 : decode cX5_ends 162 = .ok (.iload_n 3, 1) := by decide +kernel
theorem dX5_ends_163 : decode cX5_ends 163 = .ok (.bipush 7, 2) := by decide +kernel
theorem dX5_ends_165 : decode cX5_ends 165 = .ok (.invokestatic 36, 3) := by decide +kernel
theorem dX5_ends_168 : decode cX5_ends 168 = .ok (.ifCond .ne 23, 3) := by decide +kernel
theorem dX5_ends_171 : decode cX5_ends 171 = .ok (.aload_n 1, 1) := by decide +kernel
theorem dX5_ends_172 : decode cX5_ends 172 = .ok (.bipush 8, 2) := by decide +kernel
theorem dX5_ends_174 : decode cX5_ends 174 = .ok (.dup2, 1) := by decide +kernel
theorem dX5_ends_175 : decode cX5_ends 175 = .ok (.iaload, 1) := by decide +kernel
theorem dX5_ends_176 : decode cX5_ends 176 = .ok (.aload_n 1, 1) := by decide +kernel
theorem dX5_ends_177 : decode cX5_ends 177 = .ok (.iconst 5, 1) := by decide +kernel
theorem dX5_ends_178 : decode cX5_ends 178 = .ok (.iaload, 1) := by decide +kernel
theorem dX5_ends_179 : decode cX5_ends 179 = .ok (.iadd, 1) := by decide +kernel
theorem dX5_ends_180 : decode cX5_ends 180 = .ok (.iastore, 1) := by decide +kernel
theorem dX5_ends_181 : decode cX5_ends 181 = .ok (.aload_n 1, 1) := by decide +kernel
theorem dX5_ends_182 : decode cX5_ends 182 = .ok (.iload_n 3, 1) := by decide +kernel
theorem dX5_ends_183 : decode cX5_ends 183 = .ok (.bipush 12, 2) := by decide +kernel
theorem dX5_ends_185 : decode cX5_ends 185 = .ok (.aload_n 1, 1) := by decide +kernel
theorem dX5_ends_186 : decode cX5_ends 186 = .ok (.iconst 5, 1) := by decide +kernel
theorem dX5_ends_187 : decode cX5_ends 187 = .ok (.iaload, 1) := by decide +kernel
theorem dX5_ends_188 : decode cX5_ends 188 = .ok (.invokestatic 60, 3) := by decide +kernel
theorem dX5_ends_191 : decode cX5_ends 191 = .ok (.iinc 3 1, 3) := by decide +kernel
theorem dX5_ends_194 : decode cX5_ends 194 = .ok (.goto (-49), 3) := by decide +kernel
theorem dX5_ends_197 : decode cX5_ends 197 = .ok (.aload_n 1, 1) := by decide +kernel
theorem dX5_ends_198 : decode cX5_ends 198 = .ok (.iconst 0, 1) := by decide +kernel
theorem dX5_ends_199 : decode cX5_ends 199 = .ok (.iaload, 1) := by decide +kernel
theorem dX5_ends_200 : decode cX5_ends 200 = .ok (.iconst 1, 1) := by decide +kernel
theorem dX5_ends_201 : decode cX5_ends 201 = .ok (.iadd, 1) := by decide +kernel
theorem dX5_ends_202 : decode cX5_ends 202 = .ok (.aload_n 1, 1) := by decide +kernel
theorem dX5_ends_203 : decode cX5_ends 203 = .ok (.bipush 6, 2) := by decide +kernel
theorem dX5_ends_205 : decode cX5_ends 205 = .ok (.iaload, 1) := by decide +kernel
theorem dX5_ends_206 : decode cX5_ends 206 = .ok (.irem, 1) := by decide +kernel
theorem dX5_ends_207 : decode cX5_ends 207 = .ok (.ifCond .ne 13, 3) := by decide +kernel
theorem dX5_ends_210 : decode cX5_ends 210 = .ok (.aload_n 1, 1) := by decide +kernel
theorem dX5_ends_211 : decode cX5_ends 211 = .ok (.iconst 2, 1) := by decide +kernel
theorem dX5_ends_212 : decode cX5_ends 212 = .ok (.aload_n 1, 1) := by decide +kernel
theorem dX5_ends_213 : decode cX5_ends 213 = .ok (.aload_n 1, 1) := by decide +kernel
theorem dX5_ends_214 : decode cX5_ends 214 = .ok (.iconst 2, 1) := by decide +kernel
theorem dX5_ends_215 : decode cX5_ends 215 = .ok (.iaload, 1) := by decide +kernel
theorem dX5_ends_216 : decode cX5_ends 216 = .ok (.invokestatic 82, 3) := by decide +kernel
theorem dX5_ends_219 : decode cX5_ends 219 = .ok (.iastore, 1) := by decide +kernel
theorem dX5_ends_220 : decode cX5_ends 220 = .ok (.aload_n 1, 1) := by decide +kernel
theorem dX5_ends_221 : decode cX5_ends 221 = .ok (.iconst 0, 1) := by decide +kernel
theorem dX5_ends_222 : decode cX5_ends 222 = .ok (.dup2, 1) := by decide +kernel
theorem dX5_ends_223 : decode cX5_ends 223 = .ok (.iaload, 1) := by decide +kernel
theorem dX5_ends_224 : decode cX5_ends 224 = .ok (.iconst 1, 1) := by decide +kernel
theorem dX5_ends_225 : decode cX5_ends 225 = .ok (.iadd, 1) := by decide +kernel
theorem dX5_ends_226 : decode cX5_ends 226 = .ok (.iastore, 1) := by decide +kernel
theorem dX5_ends_227 : decode cX5_ends 227 = .ok (.iconst 0, 1) := by decide +kernel
theorem dX5_ends_228 : decode cX5_ends 228 = .ok (.istore_n 3, 1) := by decide +kernel
theorem dX5_ends_229 : decode cX5_ends 229 = .ok (.iload_n 3, 1) := by decide +kernel
theorem dX5_ends_230 : decode cX5_ends 230 = .ok (.bipush 8, 2) := by decide +kernel
theorem dX5_ends_232 : decode cX5_ends 232 = .ok (.if_icmp .ge 22, 3) := by decide +kernel
theorem dX5_ends_235 : decode cX5_ends 235 = .ok (.aload_n 1, 1) := by decide +kernel
theorem dX5_ends_236 : decode cX5_ends 236 = .ok (.bipush 13, 2) := by decide +kernel
theorem dX5_ends_238 : decode cX5_ends 238 = .ok (.bipush 14, 2) := by decide +kernel
theorem dX5_ends_240 : decode cX5_ends 240 = .ok (.iload_n 3, 1) := by decide +kernel
theorem dX5_ends_241 : decode cX5_ends 241 = .ok (.imul, 1) := by decide +kernel
theorem dX5_ends_242 : decode cX5_ends 242 = .ok (.iadd, 1) := by decide +kernel
theorem dX5_ends_243 : decode cX5_ends 243 = .ok (.bipush 7, 2) := by decide +kernel
theorem dX5_ends_245 : decode cX5_ends 245 = .ok (.iadd, 1) := by decide +kernel
theorem dX5_ends_246 : decode cX5_ends 246 = .ok (.iconst 0, 1) := by decide +kernel
theorem dX5_ends_247 : decode cX5_ends 247 = .ok (.iastore, 1) := by decide +kernel
theorem dX5_ends_248 : decode cX5_ends 248 = .ok (.iinc 3 1, 3) := by decide +kernel
theorem dX5_ends_251 : decode cX5_ends 251 = .ok (.goto (-22), 3) := by decide +kernel
theorem dX5_ends_254 : decode cX5_ends 254 = .ok (.iload_n 2, 1) := by decide +kernel
theorem dX5_ends_255 : decode cX5_ends 255 = .ok (.ireturn, 1) := by decide +kernel
set_option maxRecDepth 20000 in
theorem ggX5_members_X5_of : GoodIn wsX5_members wsX5_of := goodIn_r _ [5] (by decide +kernel) (by decide +kernel)
set_option maxRecDepth 20000 in
theorem gX5_members_X5_of : GoodIn wsX5_members (va_wsS RX5 36 yX5_of wsX5_of) := goodIn_app (goodIn_of _ (by decide +kernel)) ggX5_members_X5_of
theorem dX5_members_0 : decode cX5_members 0 = .ok (.iconst 0, 1) := by decide +kernel
theorem dX5_members_1 : decode cX5_members 1 = .ok (.istore_n 1, 1) := by decide +kernel
theorem dX5_members_2 : decode cX5_members 2 = .ok (.iconst 0, 1) := by decide +kernel
theorem dX5_members_3 : decode cX5_members 3 = .ok (.istore_n 2, 1) := by decide +kernel
theorem dX5_members_4 : decode cX5_members 4 = .ok (.iload_n 2, 1) := by decide +kernel
theorem dX5_members_5 : decode cX5_members 5 = .ok (.bipush 8, 2) := by decide +kernel
theorem dX5_members_7 : decode cX5_members 7 = .ok (.if_icmp .ge 21, 3) := by decide +kernel
theorem dX5_members_10 : decode cX5_members 10 = .ok (.iload_n 1, 1) := by decide +kernel
theorem dX5_members_11 : decode cX5_members 11 = .ok (.aload_n 0, 1) := by decide +kernel
theorem dX5_members_12 : decode cX5_members 12 = .ok (.getfield 7, 3) := by decide +kernel
theorem dX5_members_15 : decode cX5_members 15 = .ok (.iload_n 2, 1) := by decide +kernel
theorem dX5_members_16 : decode cX5_members 16 = .ok (.iconst 0, 1) := by decide +kernel
theorem dX5_members_17 : decode cX5_members 17 = .ok (.invokestatic 36, 3) := by decide +kernel
theorem dX5_members_20 : decode cX5_members 20 = .ok (.iadd, 1) := by decide +kernel
theorem dX5_members_21 : decode cX5_members 21 = .ok (.istore_n 1, 1) := by decide +kernel
theorem dX5_members_22 : decode cX5_members 22 = .ok (.iinc 2 1, 3) := by decide +kernel
theorem dX5_members_25 : decode cX5_members 25 = .ok (.goto (-21), 3) := by decide +kernel
theorem dX5_members_28 : decode cX5_members 28 = .ok (.iload_n 1, 1) := by decide +kernel
theorem dX5_members_29 : decode cX5_members 29 = .ok (.ireturn, 1) := by decide +kernel
set_option maxRecDepth 20000 in
theorem ggX5_join_X5_fails : GoodIn wsX5_join wsX5_fails := goodIn_r _ [7, 1, 24, 25, 26, 27, 28, 29, 30, 31, 32, 33, 34, 35, 36, 37] (by decide +kernel) (by decide +kernel)
set_option maxRecDepth 20000 in
theorem gX5_join_X5_fails : GoodIn wsX5_join (wsV RX5 43 RX5 yX5_fails wsX5_fails) := goodIn_app (goodIn_of _ (by decide +kernel)) ggX5_join_X5_fails
set_option maxRecDepth 20000 in
theorem ggX5_join_X5_saves : GoodIn wsX5_join wsX5_saves := goodIn_r _ [11, 12, 13, 2, 24, 25, 26, 27, 28, 29, 30, 31, 32, 33, 34, 35, 36, 37] (by decide +kernel) (by decide +kernel)
set_option maxRecDepth 20000 in
theorem gX5_join_X5_saves : GoodIn wsX5_join (wsV RX5 85 RX5 yX5_saves wsX5_saves) := goodIn_app (goodIn_of _ (by decide +kernel)) ggX5_join_X5_saves
set_option maxRecDepth 20000 in
theorem ggX5_join_X5_members : GoodIn wsX5_join wsX5_members := goodIn_r _ [17, 2, 18, 19, 6, 20, 24, 25, 26, 27, 28, 29, 30, 31, 32, 33, 34, 35, 36, 37] (by decide +kernel) (by decide +kernel)
set_option maxRecDepth 20000 in
theorem gX5_join_X5_members : GoodIn wsX5_join (wsV RX5 88 RX5 yX5_members wsX5_members) := goodIn_app (goodIn_of _ (by decide +kernel)) ggX5_join_X5_members
set_option maxRecDepth 20000 in
theorem ggX5_join_X5_adds : GoodIn wsX5_join wsX5_adds := goodIn_r _ [23] (by decide +kernel) (by decide +kernel)
set_option maxRecDepth 20000 in
theorem gX5_join_X5_adds : GoodIn wsX5_join (va_wsS RX5 60 yX5_adds wsX5_adds) := goodIn_app (goodIn_of _ (by decide +kernel)) ggX5_join_X5_adds
theorem dX5_join_0 : decode cX5_join 0 = .ok (.aload_n 0, 1) := by decide +kernel
theorem dX5_join_1 : decode cX5_join 1 = .ok (.iconst 0, 1) := by decide +kernel
theorem dX5_join_2 : decode cX5_join 2 = .ok (.putfield 28, 3) := by decide +kernel
theorem dX5_join_5 : decode cX5_join 5 = .ok (.aload_n 0, 1) := by decide +kernel
theorem dX5_join_6 : decode cX5_join 6 = .ok (.getfield 7, 3) := by decide +kernel
theorem dX5_join_9 : decode cX5_join 9 = .ok (.iconst 3, 1) := by decide +kernel
theorem dX5_join_10 : decode cX5_join 10 = .ok (.iaload, 1) := by decide +kernel
theorem dX5_join_11 : decode cX5_join 11 = .ok (.bipush 8, 2) := by decide +kernel
theorem dX5_join_13 : decode cX5_join 13 = .ok (.if_icmp .ne 9, 3) := by decide +kernel
theorem dX5_join_16 : decode cX5_join 16 = .ok (.aload_n 0, 1) := by decide +kernel
theorem dX5_join_17 : decode cX5_join 17 = .ok (.iconst 1, 1) := by decide +kernel
theorem dX5_join_18 : decode cX5_join 18 = .ok (.invokevirtual 43, 3) := by decide +kernel
theorem dX5_join_21 : decode cX5_join 21 = .ok (.ireturn, 1) := by decide +kernel
theorem dX5_join_22 : decode cX5_join 22 = .ok (.aload_n 0, 1) := by decide +kernel
theorem dX5_join_23 : decode cX5_join 23 = .ok (.invokevirtual 85, 3) := by decide +kernel
theorem dX5_join_26 : decode cX5_join 26 = .ok (.aload_n 0, 1) := by decide +kernel
theorem dX5_join_27 : decode cX5_join 27 = .ok (.getfield 7, 3) := by decide +kernel
theorem dX5_join_30 : decode cX5_join 30 = .ok (.iconst 3, 1) := by decide +kernel
theorem dX5_join_31 : decode cX5_join 31 = .ok (.iaload, 1) := by decide +kernel
theorem dX5_join_32 : decode cX5_join 32 = .ok (.istore_n 1, 1) := by decide +kernel
theorem dX5_join_33 : decode cX5_join 33 = .ok (.aload_n 0, 1) := by decide +kernel
theorem dX5_join_34 : decode cX5_join 34 = .ok (.getfield 7, 3) := by decide +kernel
theorem dX5_join_37 : decode cX5_join 37 = .ok (.iconst 2, 1) := by decide +kernel
theorem dX5_join_38 : decode cX5_join 38 = .ok (.aload_n 0, 1) := by decide +kernel
theorem dX5_join_39 : decode cX5_join 39 = .ok (.invokevirtual 88, 3) := by decide +kernel
theorem dX5_join_42 : decode cX5_join 42 = .ok (.ifCond .ne 7, 3) := by decide +kernel
theorem dX5_join_45 : decode cX5_join 45 = .ok (.iload_n 1, 1) := by decide +kernel
theorem dX5_join_46 : decode cX5_join 46 = .ok (.goto 9, 3) := by decide +kernel
theorem dX5_join_49 : decode cX5_join 49 = .ok (.aload_n 0, 1) := by decide +kernel
theorem dX5_join_50 : decode cX5_join 50 = .ok (.getfield 7, 3) := by decide +kernel
theorem dX5_join_53 : decode cX5_join 53 = .ok (.iconst 2, 1) := by decide +kernel
theorem dX5_join_54 : decode cX5_join 54 = .ok (.iaload, 1) := by decide +kernel
theorem dX5_join_55 : decode cX5_join 55 = .ok (.iastore, 1) := by decide +kernel
theorem dX5_join_56 : decode cX5_join 56 = .ok (.aload_n 0, 1) := by decide +kernel
theorem dX5_join_57 : decode cX5_join 57 = .ok (.getfield 7, 3) := by decide +kernel
theorem dX5_join_60 : decode cX5_join 60 = .ok (.iload_n 1, 1) := by decide +kernel
theorem dX5_join_61 : decode cX5_join 61 = .ok (.iconst 0, 1) := by decide +kernel
theorem dX5_join_62 : decode cX5_join 62 = .ok (.iconst 1, 1) := by decide +kernel
theorem dX5_join_63 : decode cX5_join 63 = .ok (.invokestatic 60, 3) := by decide +kernel
theorem dX5_join_66 : decode cX5_join 66 = .ok (.aload_n 0, 1) := by decide +kernel
theorem dX5_join_67 : decode cX5_join 67 = .ok (.getfield 7, 3) := by decide +kernel
theorem dX5_join_70 : decode cX5_join 70 = .ok (.iload_n 1, 1) := by decide +kernel
theorem dX5_join_71 : decode cX5_join 71 = .ok (.iconst 1, 1) := by decide +kernel
theorem dX5_join_72 : decode cX5_join 72 = .ok (.sipush 200, 3) := by decide +kernel
theorem dX5_join_75 : decode cX5_join 75 = .ok (.invokestatic 60, 3) := by decide +kernel
theorem dX5_join_78 : decode cX5_join 78 = .ok (.aload_n 0, 1) := by decide +kernel
theorem dX5_join_79 : decode cX5_join 79 = .ok (.getfield 7, 3) := by decide +kernel
theorem dX5_join_82 : decode cX5_join 82 = .ok (.iconst 3, 1) := by decide +kernel
theorem dX5_join_83 : decode cX5_join 83 = .ok (.dup2, 1) := by decide +kernel
theorem dX5_join_84 : decode cX5_join 84 = .ok (.iaload, 1) := by decide +kernel
theorem dX5_join_85 : decode cX5_join 85 = .ok (.iconst 1, 1) := by decide +kernel
theorem dX5_join_86 : decode cX5_join 86 = .ok (.iadd, 1) := by decide +kernel
theorem dX5_join_87 : decode cX5_join 87 = .ok (.iastore, 1) := by decide +kernel
theorem dX5_join_88 : decode cX5_join 88 = .ok (.iload_n 1, 1) := by decide +kernel
theorem dX5_join_89 : decode cX5_join 89 = .ok (.ireturn, 1) := by decide +kernel
set_option maxRecDepth 20000 in
theorem ggX5_leave_X5_isMember : GoodIn wsX5_leave wsX5_isMember := goodIn_r _ [7, 2, 8, 9, 6, 10, 11, 12, 13, 39, 40, 41, 42, 43, 44, 45, 46, 47, 48, 49, 50, 51, 52] (by decide +kernel) (by decide +kernel)
set_option maxRecDepth 20000 in
theorem gX5_leave_X5_isMember : GoodIn wsX5_leave (wsV RX5 92 RX5 yX5_isMember wsX5_isMember) := goodIn_app (goodIn_of _ (by decide +kernel)) ggX5_leave_X5_isMember
set_option maxRecDepth 20000 in
theorem ggX5_leave_X5_fails : GoodIn wsX5_leave wsX5_fails := goodIn_r _ [17, 1, 39, 40, 41, 42, 43, 44, 45, 46, 47, 48, 49, 50, 51, 52] (by decide +kernel) (by decide +kernel)
set_option maxRecDepth 20000 in
theorem gX5_leave_X5_fails : GoodIn wsX5_leave (wsV RX5 43 RX5 yX5_fails wsX5_fails) := goodIn_app (goodIn_of _ (by decide +kernel)) ggX5_leave_X5_fails
set_option maxRecDepth 20000 in
theorem ggX5_leave_X5_of : GoodIn wsX5_leave wsX5_of := goodIn_r _ [13] (by decide +kernel) (by decide +kernel)
set_option maxRecDepth 20000 in
theorem gX5_leave_X5_of : GoodIn wsX5_leave (va_wsS RX5 36 yX5_of wsX5_of) := goodIn_app (goodIn_of _ (by decide +kernel)) ggX5_leave_X5_of
set_option maxRecDepth 20000 in
theorem ggX5_leave_X5_debts : GoodIn wsX5_leave wsX5_debts := goodIn_r _ [20, 11, 12, 6, 13, 21, 22, 23, 24, 25, 26] (by decide +kernel) (by decide +kernel)
set_option maxRecDepth 20000 in
theorem gX5_leave_X5_debts : GoodIn wsX5_leave (va_wsS RX5 72 yX5_debts wsX5_debts) := goodIn_app (goodIn_of _ (by decide +kernel)) ggX5_leave_X5_debts
set_option maxRecDepth 20000 in
theorem ggX5_leave_X5_fromOthers : GoodIn wsX5_leave wsX5_fromOthers := goodIn_r _ [29, 24, 25, 6, 26] (by decide +kernel) (by decide +kernel)
set_option maxRecDepth 20000 in
theorem gX5_leave_X5_fromOthers : GoodIn wsX5_leave (va_wsS RX5 96 yX5_fromOthers wsX5_fromOthers) := goodIn_app (goodIn_of _ (by decide +kernel)) ggX5_leave_X5_fromOthers
set_option maxRecDepth 20000 in
theorem ggX5_leave_X5_saves : GoodIn wsX5_leave wsX5_saves := goodIn_r _ [33, 34, 35, 2, 39, 40, 41, 42, 43, 44, 45, 46, 47, 48, 49, 50, 51, 52] (by decide +kernel) (by decide +kernel)
set_option maxRecDepth 20000 in
theorem gX5_leave_X5_saves : GoodIn wsX5_leave (wsV RX5 85 RX5 yX5_saves wsX5_saves) := goodIn_app (goodIn_of _ (by decide +kernel)) ggX5_leave_X5_saves
set_option maxRecDepth 20000 in
theorem ggX5_leave_X5_nextChair : GoodIn wsX5_leave wsX5_nextChair := goodIn_r _ [38, 11, 12, 6, 13, 18, 19, 20, 21, 22, 23, 24, 25, 26] (by decide +kernel) (by decide +kernel)
set_option maxRecDepth 20000 in
theorem gX5_leave_X5_nextChair : GoodIn wsX5_leave (va_wsS RX5 82 yX5_nextChair wsX5_nextChair) := goodIn_app (goodIn_of _ (by decide +kernel)) ggX5_leave_X5_nextChair
theorem dX5_leave_0 : decode cX5_leave 0 = .ok (.aload_n 0, 1) := by decide +kernel
theorem dX5_leave_1 : decode cX5_leave 1 = .ok (.iconst 0, 1) := by decide +kernel
theorem dX5_leave_2 : decode cX5_leave 2 = .ok (.putfield 28, 3) := by decide +kernel
theorem dX5_leave_5 : decode cX5_leave 5 = .ok (.aload_n 0, 1) := by decide +kernel
