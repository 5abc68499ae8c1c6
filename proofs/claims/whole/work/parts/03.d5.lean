theorem dX5_isOrder_322 : decode cX5_isOrder 322 = .ok (.ifCond .eq 34, 3) := by decide +kernel
theorem dX5_isOrder_325 : decode cX5_isOrder 325 = .ok (.aload_n 0, 1) := by decide +kernel
theorem dX5_isOrder_326 : decode cX5_isOrder 326 = .ok (.bipush 99, 2) := by decide +kernel
theorem dX5_isOrder_328 : decode cX5_isOrder 328 = .ok (.invokevirtual 172, 3) := by decide +kernel
theorem dX5_isOrder_331 : decode cX5_isOrder 331 = .ok (.ifCond .eq 25, 3) := by decide +kernel
theorem dX5_isOrder_334 : decode cX5_isOrder 334 = .ok (.aload_n 0, 1) := by decide +kernel
theorem dX5_isOrder_335 : decode cX5_isOrder 335 = .ok (.bipush 108, 2) := by decide +kernel
theorem dX5_isOrder_337 : decode cX5_isOrder 337 = .ok (.invokevirtual 172, 3) := by decide +kernel
theorem dX5_isOrder_340 : decode cX5_isOrder 340 = .ok (.ifCond .eq 16, 3) := by decide +kernel
theorem dX5_isOrder_343 : decode cX5_isOrder 343 = .ok (.aload_n 0, 1) := by decide +kernel
theorem dX5_isOrder_344 : decode cX5_isOrder 344 = .ok (.bipush 101, 2) := by decide +kernel
theorem dX5_isOrder_346 : decode cX5_isOrder 346 = .ok (.invokevirtual 172, 3) := by decide +kernel
theorem dX5_isOrder_349 : decode cX5_isOrder 349 = .ok (.ifCond .eq 7, 3) := by decide +kernel
theorem dX5_isOrder_352 : decode cX5_isOrder 352 = .ok (.iconst 1, 1) := by decide +kernel
theorem dX5_isOrder_353 : decode cX5_isOrder 353 = .ok (.goto 4, 3) := by decide +kernel
theorem dX5_isOrder_356 : decode cX5_isOrder 356 = .ok (.iconst 0, 1) := by decide +kernel
theorem dX5_isOrder_357 : decode cX5_isOrder 357 = .ok (.ireturn, 1) := by decide +kernel
theorem dX5_isOrder_358 : decode cX5_isOrder 358 = .ok (.aload_n 0, 1) := by decide +kernel
theorem dX5_isOrder_359 : decode cX5_isOrder 359 = .ok (.invokevirtual 157, 3) := by decide +kernel
theorem dX5_isOrder_362 : decode cX5_isOrder 362 = .ok (.ireturn, 1) := by decide +kernel
set_option maxRecDepth 20000 in
theorem ggX5_isText_X5_isOrder : GoodIn wsX5_isText wsX5_isOrder := goodIn_r _ [9, 1, 4, 10, 11, 12, 13, 8, 14, 15, 2, 16, 17, 18, 19, 20, 21, 22, 23, 24, 25, 26, 27, 28, 29, 30, 3, 31, 32, 33, 34, 35, 36, 37, 38, 39, 40, 41, 42, 43, 44, 45, 46, 47, 48, 49, 50, 51, 52, 53, 54, 55, 56, 57, 58, 59, 60, 61, 62, 63, 64] (by decide +kernel) (by decide +kernel)
set_option maxRecDepth 20000 in
theorem gX5_isText_X5_isOrder : GoodIn wsX5_isText (wsV RX5 187 RX5 yX5_isOrder wsX5_isOrder) := goodIn_app (goodIn_of _ (by decide +kernel)) ggX5_isText_X5_isOrder
set_option maxRecDepth 20000 in
theorem ggX5_isText_X5_isAt : GoodIn wsX5_isText wsX5_isAt := goodIn_r _ [23, 1, 4, 10, 24, 25, 8, 26, 51, 52, 53, 54, 55, 56, 57, 58, 59, 60, 61, 62, 63, 64] (by decide +kernel) (by decide +kernel)
set_option maxRecDepth 20000 in
theorem gX5_isText_X5_isAt : GoodIn wsX5_isText (wsV RX5 154 RX5 yX5_isAt wsX5_isAt) := goodIn_app (goodIn_of _ (by decide +kernel)) ggX5_isText_X5_isAt
theorem dX5_isText_0 : decode cX5_isText 0 = .ok (.aload_n 0, 1) := by decide +kernel
theorem dX5_isText_1 : decode cX5_isText 1 = .ok (.iconst 0, 1) := by decide +kernel
theorem dX5_isText_2 : decode cX5_isText 2 = .ok (.putfield 148, 3) := by decide +kernel
theorem dX5_isText_5 : decode cX5_isText 5 = .ok (.aload_n 0, 1) := by decide +kernel
theorem dX5_isText_6 : decode cX5_isText 6 = .ok (.iconst 0, 1) := by decide +kernel
theorem dX5_isText_7 : decode cX5_isText 7 = .ok (.putfield 166, 3) := by decide +kernel
theorem dX5_isText_10 : decode cX5_isText 10 = .ok (.aload_n 0, 1) := by decide +kernel
theorem dX5_isText_11 : decode cX5_isText 11 = .ok (.iconst 0, 1) := by decide +kernel
theorem dX5_isText_12 : decode cX5_isText 12 = .ok (.putfield 151, 3) := by decide +kernel
theorem dX5_isText_15 : decode cX5_isText 15 = .ok (.iconst 1, 1) := by decide +kernel
theorem dX5_isText_16 : decode cX5_isText 16 = .ok (.istore_n 1, 1) := by decide +kernel
theorem dX5_isText_17 : decode cX5_isText 17 = .ok (.iload_n 1, 1) := by decide +kernel
theorem dX5_isText_18 : decode cX5_isText 18 = .ok (.ifCond .eq 52, 3) := by decide +kernel
theorem dX5_isText_21 : decode cX5_isText 21 = .ok (.aload_n 0, 1) := by decide +kernel
theorem dX5_isText_22 : decode cX5_isText 22 = .ok (.invokevirtual 187, 3) := by decide +kernel
theorem dX5_isText_25 : decode cX5_isText 25 = .ok (.ifCond .ne 5, 3) := by decide +kernel
theorem dX5_isText_28 : decode cX5_isText 28 = .ok (.iconst 0, 1) := by decide +kernel
theorem dX5_isText_29 : decode cX5_isText 29 = .ok (.ireturn, 1) := by decide +kernel
theorem dX5_isText_30 : decode cX5_isText 30 = .ok (.aload_n 0, 1) := by decide +kernel
theorem dX5_isText_31 : decode cX5_isText 31 = .ok (.dup, 1) := by decide +kernel
theorem dX5_isText_32 : decode cX5_isText 32 = .ok (.getfield 166, 3) := by decide +kernel
theorem dX5_isText_35 : decode cX5_isText 35 = .ok (.iconst 1, 1) := by decide +kernel
theorem dX5_isText_36 : decode cX5_isText 36 = .ok (.iadd, 1) := by decide +kernel
theorem dX5_isText_37 : decode cX5_isText 37 = .ok (.putfield 166, 3) := by decide +kernel
theorem dX5_isText_40 : decode cX5_isText 40 = .ok (.aload_n 0, 1) := by decide +kernel
theorem dX5_isText_41 : decode cX5_isText 41 = .ok (.bipush 59, 2) := by decide +kernel
theorem dX5_isText_43 : decode cX5_isText 43 = .ok (.bipush 59, 2) := by decide +kernel
theorem dX5_isText_45 : decode cX5_isText 45 = .ok (.invokevirtual 154, 3) := by decide +kernel
theorem dX5_isText_48 : decode cX5_isText 48 = .ok (.istore_n 1, 1) := by decide +kernel
theorem dX5_isText_49 : decode cX5_isText 49 = .ok (.aload_n 0, 1) := by decide +kernel
theorem dX5_isText_50 : decode cX5_isText 50 = .ok (.dup, 1) := by decide +kernel
theorem dX5_isText_51 : decode cX5_isText 51 = .ok (.getfield 148, 3) := by decide +kernel
theorem dX5_isText_54 : decode cX5_isText 54 = .ok (.iload_n 1, 1) := by decide +kernel
theorem dX5_isText_55 : decode cX5_isText 55 = .ok (.ifCond .eq 7, 3) := by decide +kernel
theorem dX5_isText_58 : decode cX5_isText 58 = .ok (.iconst 1, 1) := by decide +kernel
theorem dX5_isText_59 : decode cX5_isText 59 = .ok (.goto 4, 3) := by decide +kernel
theorem dX5_isText_62 : decode cX5_isText 62 = .ok (.iconst 0, 1) := by decide +kernel
theorem dX5_isText_63 : decode cX5_isText 63 = .ok (.iadd, 1) := by decide +kernel
theorem dX5_isText_64 : decode cX5_isText 64 = .ok (.putfield 148, 3) := by decide +kernel
theorem dX5_isText_67 : decode cX5_isText 67 = .ok (.goto (-50), 3) := by decide +kernel
theorem dX5_isText_70 : decode cX5_isText 70 = .ok (.aload_n 0, 1) := by decide +kernel
theorem dX5_isText_71 : decode cX5_isText 71 = .ok (.aload_n 0, 1) := by decide +kernel
theorem dX5_isText_72 : decode cX5_isText 72 = .ok (.getfield 148, 3) := by decide +kernel
theorem dX5_isText_75 : decode cX5_isText 75 = .ok (.aload_n 0, 1) := by decide +kernel
theorem dX5_isText_76 : decode cX5_isText 76 = .ok (.getfield 145, 3) := by decide +kernel
theorem dX5_isText_79 : decode cX5_isText 79 = .ok (.if_icmp .ge 7, 3) := by decide +kernel
theorem dX5_isText_82 : decode cX5_isText 82 = .ok (.iconst 1, 1) := by decide +kernel
theorem dX5_isText_83 : decode cX5_isText 83 = .ok (.goto 4, 3) := by decide +kernel
theorem dX5_isText_86 : decode cX5_isText 86 = .ok (.iconst 0, 1) := by decide +kernel
theorem dX5_isText_87 : decode cX5_isText 87 = .ok (.putfield 151, 3) := by decide +kernel
theorem dX5_isText_90 : decode cX5_isText 90 = .ok (.aload_n 0, 1) := by decide +kernel
theorem dX5_isText_91 : decode cX5_isText 91 = .ok (.getfield 148, 3) := by decide +kernel
theorem dX5_isText_94 : decode cX5_isText 94 = .ok (.aload_n 0, 1) := by decide +kernel
theorem dX5_isText_95 : decode cX5_isText 95 = .ok (.getfield 145, 3) := by decide +kernel
theorem dX5_isText_98 : decode cX5_isText 98 = .ok (.if_icmp .ne 7, 3) := by decide +kernel
theorem dX5_isText_101 : decode cX5_isText 101 = .ok (.iconst 1, 1) := by decide +kernel
theorem dX5_isText_102 : decode cX5_isText 102 = .ok (.goto 4, 3) := by decide +kernel
theorem dX5_isText_105 : decode cX5_isText 105 = .ok (.iconst 0, 1) := by decide +kernel
theorem dX5_isText_106 : decode cX5_isText 106 = .ok (.ireturn, 1) := by decide +kernel
set_option maxRecDepth 20000 in
theorem ggX5_firstError_X5_isText : GoodIn wsX5_firstError wsX5_isText := goodIn_r _ [9, 3, 10, 2, 4, 11, 12, 13, 8, 14, 15, 16, 17, 18, 19, 20, 21, 22, 23, 24, 25, 26, 27, 28, 29, 30, 31, 32, 33, 34, 35, 36, 37, 38, 39, 40, 41, 42, 43, 44, 45, 46, 47, 48, 49, 50, 51, 52, 53, 54, 55, 56, 57, 58, 59, 60, 61, 62, 63, 64, 65, 66, 67, 68, 69] (by decide +kernel) (by decide +kernel)
set_option maxRecDepth 20000 in
theorem gX5_firstError_X5_isText : GoodIn wsX5_firstError (wsV RX5 190 RX5 yX5_isText wsX5_isText) := goodIn_app (goodIn_of _ (by decide +kernel)) ggX5_firstError_X5_isText
theorem dX5_firstError_0 : decode cX5_firstError 0 = .ok (.aload_n 0, 1) := by decide +kernel
theorem dX5_firstError_1 : decode cX5_firstError 1 = .ok (.iconst 0, 1) := by decide +kernel
theorem dX5_firstError_2 : decode cX5_firstError 2 = .ok (.putfield 28, 3) := by decide +kernel
theorem dX5_firstError_5 : decode cX5_firstError 5 = .ok (.aload_n 0, 1) := by decide +kernel
theorem dX5_firstError_6 : decode cX5_firstError 6 = .ok (.invokevirtual 190, 3) := by decide +kernel
theorem dX5_firstError_9 : decode cX5_firstError 9 = .ok (.istore_n 1, 1) := by decide +kernel
theorem dX5_firstError_10 : decode cX5_firstError 10 = .ok (.iload_n 1, 1) := by decide +kernel
theorem dX5_firstError_11 : decode cX5_firstError 11 = .ok (.ifCond .ne 17, 3) := by decide +kernel
theorem dX5_firstError_14 : decode cX5_firstError 14 = .ok (.aload_n 0, 1) := by decide +kernel
theorem dX5_firstError_15 : decode cX5_firstError 15 = .ok (.getfield 151, 3) := by decide +kernel
theorem dX5_firstError_18 : decode cX5_firstError 18 = .ok (.ifCond .eq 10, 3) := by decide +kernel
theorem dX5_firstError_21 : decode cX5_firstError 21 = .ok (.aload_n 0, 1) := by decide +kernel
theorem dX5_firstError_22 : decode cX5_firstError 22 = .ok (.getfield 148, 3) := by decide +kernel
theorem dX5_firstError_25 : decode cX5_firstError 25 = .ok (.goto 7, 3) := by decide +kernel
theorem dX5_firstError_28 : decode cX5_firstError 28 = .ok (.aload_n 0, 1) := by decide +kernel
theorem dX5_firstError_29 : decode cX5_firstError 29 = .ok (.getfield 145, 3) := by decide +kernel
theorem dX5_firstError_32 : decode cX5_firstError 32 = .ok (.ireturn, 1) := by decide +kernel
set_option maxRecDepth 20000 in
theorem ggX5_may_X5_mayLend : GoodIn wsX5_may wsX5_mayLend := goodIn_r _ [6, 1, 7, 8, 9, 5, 10, 11, 12, 13, 14, 15, 16, 17, 18, 19, 20, 21, 22, 23, 24, 25, 42, 43, 44, 45, 46, 47, 48, 49, 50, 51, 52, 53, 54, 55] (by decide +kernel) (by decide +kernel)
set_option maxRecDepth 20000 in
theorem gX5_may_X5_mayLend : GoodIn wsX5_may (wsV RX5 99 RX5 yX5_mayLend wsX5_mayLend) := goodIn_app (goodIn_of _ (by decide +kernel)) ggX5_may_X5_mayLend
set_option maxRecDepth 20000 in
theorem ggX5_may_X5_isMember : GoodIn wsX5_may wsX5_isMember := goodIn_r _ [10, 1, 11, 12, 5, 13, 14, 15, 16, 42, 43, 44, 45, 46, 47, 48, 49, 50, 51, 52, 53, 54, 55] (by decide +kernel) (by decide +kernel)
set_option maxRecDepth 20000 in
theorem gX5_may_X5_isMember : GoodIn wsX5_may (wsV RX5 92 RX5 yX5_isMember wsX5_isMember) := goodIn_app (goodIn_of _ (by decide +kernel)) ggX5_may_X5_isMember
set_option maxRecDepth 20000 in
theorem ggX5_may_X5_mayPay : GoodIn wsX5_may wsX5_mayPay := goodIn_r _ [29, 1, 7, 8, 9, 5, 10, 11, 12, 13, 14, 15, 16, 17, 18, 19, 20, 21, 22, 23, 24, 25, 42, 43, 44, 45, 46, 47, 48, 49, 50, 51, 52, 53, 54, 55] (by decide +kernel) (by decide +kernel)
set_option maxRecDepth 20000 in
theorem gX5_may_X5_mayPay : GoodIn wsX5_may (wsV RX5 116 RX5 yX5_mayPay wsX5_mayPay) := goodIn_app (goodIn_of _ (by decide +kernel)) ggX5_may_X5_mayPay
set_option maxRecDepth 20000 in
theorem ggX5_may_X5_mayHelp : GoodIn wsX5_may wsX5_mayHelp := goodIn_r _ [33, 1, 7, 8, 9, 5, 10, 11, 12, 13, 14, 15, 16, 42, 43, 44, 45, 46, 47, 48, 49, 50, 51, 52, 53, 54, 55] (by decide +kernel) (by decide +kernel)
set_option maxRecDepth 20000 in
theorem gX5_may_X5_mayHelp : GoodIn wsX5_may (wsV RX5 122 RX5 yX5_mayHelp wsX5_mayHelp) := goodIn_app (goodIn_of _ (by decide +kernel)) ggX5_may_X5_mayHelp
set_option maxRecDepth 20000 in
theorem ggX5_may_X5_mayCycle : GoodIn wsX5_may wsX5_mayCycle := goodIn_r _ [37, 38, 39, 40, 5, 41, 1, 14, 15, 16, 42, 43, 44, 45, 46, 47, 48, 49, 50, 51, 52, 53, 54, 55] (by decide +kernel) (by decide +kernel)
set_option maxRecDepth 20000 in
theorem gX5_may_X5_mayCycle : GoodIn wsX5_may (wsV RX5 134 RX5 yX5_mayCycle wsX5_mayCycle) := goodIn_app (goodIn_of _ (by decide +kernel)) ggX5_may_X5_mayCycle
theorem dX5_may_0 : decode cX5_may 0 = .ok (.iload_n 1, 1) := by decide +kernel
theorem dX5_may_1 : decode cX5_may 1 = .ok (.tableswitch 106 0 4 #[35, 52, 58, 73, 88], 35) := by decide +kernel
theorem dX5_may_36 : decode cX5_may 36 = .ok (.aload_n 0, 1) := by decide +kernel
theorem dX5_may_37 : decode cX5_may 37 = .ok (.iload_n 2, 1) := by decide +kernel
theorem dX5_may_38 : decode cX5_may 38 = .ok (.iload_n 3, 1) := by decide +kernel
theorem dX5_may_39 : decode cX5_may 39 = .ok (.iload 4, 2) := by decide +kernel
theorem dX5_may_41 : decode cX5_may 41 = .ok (.invokevirtual 99, 3) := by decide +kernel
theorem dX5_may_44 : decode cX5_may 44 = .ok (.ifCond .ne 7, 3) := by decide +kernel
theorem dX5_may_47 : decode cX5_may 47 = .ok (.iconst 1, 1) := by decide +kernel
theorem dX5_may_48 : decode cX5_may 48 = .ok (.goto 4, 3) := by decide +kernel
theorem dX5_may_51 : decode cX5_may 51 = .ok (.iconst 0, 1) := by decide +kernel
theorem dX5_may_52 : decode cX5_may 52 = .ok (.ireturn, 1) := by decide +kernel
theorem dX5_may_53 : decode cX5_may 53 = .ok (.aload_n 0, 1) := by decide +kernel
theorem dX5_may_54 : decode cX5_may 54 = .ok (.iload_n 2, 1) := by decide +kernel
theorem dX5_may_55 : decode cX5_may 55 = .ok (.invokevirtual 92, 3) := by decide +kernel
theorem dX5_may_58 : decode cX5_may 58 = .ok (.ireturn, 1) := by decide +kernel
theorem dX5_may_59 : decode cX5_may 59 = .ok (.aload_n 0, 1) := by decide +kernel
theorem dX5_may_60 : decode cX5_may 60 = .ok (.iload_n 2, 1) := by decide +kernel
theorem dX5_may_61 : decode cX5_may 61 = .ok (.iload_n 3, 1) := by decide +kernel
theorem dX5_may_62 : decode cX5_may 62 = .ok (.invokevirtual 116, 3) := by decide +kernel
theorem dX5_may_65 : decode cX5_may 65 = .ok (.ifCond .ne 7, 3) := by decide +kernel
theorem dX5_may_68 : decode cX5_may 68 = .ok (.iconst 1, 1) := by decide +kernel
theorem dX5_may_69 : decode cX5_may 69 = .ok (.goto 4, 3) := by decide +kernel
theorem dX5_may_72 : decode cX5_may 72 = .ok (.iconst 0, 1) := by decide +kernel
theorem dX5_may_73 : decode cX5_may 73 = .ok (.ireturn, 1) := by decide +kernel
theorem dX5_may_74 : decode cX5_may 74 = .ok (.aload_n 0, 1) := by decide +kernel
theorem dX5_may_75 : decode cX5_may 75 = .ok (.iload_n 2, 1) := by decide +kernel
theorem dX5_may_76 : decode cX5_may 76 = .ok (.iload_n 3, 1) := by decide +kernel
theorem dX5_may_77 : decode cX5_may 77 = .ok (.invokevirtual 122, 3) := by decide +kernel
theorem dX5_may_80 : decode cX5_may 80 = .ok (.ifCond .ne 7, 3) := by decide +kernel
theorem dX5_may_83 : decode cX5_may 83 = .ok (.iconst 1, 1) := by decide +kernel
theorem dX5_may_84 : decode cX5_may 84 = .ok (.goto 4, 3) := by decide +kernel
theorem dX5_may_87 : decode cX5_may 87 = .ok (.iconst 0, 1) := by decide +kernel
theorem dX5_may_88 : decode cX5_may 88 = .ok (.ireturn, 1) := by decide +kernel
theorem dX5_may_89 : decode cX5_may 89 = .ok (.aload_n 0, 1) := by decide +kernel
theorem dX5_may_90 : decode cX5_may 90 = .ok (.getfield 7, 3) := by decide +kernel
theorem dX5_may_93 : decode cX5_may 93 = .ok (.iconst 0, 1) := by decide +kernel
theorem dX5_may_94 : decode cX5_may 94 = .ok (.iaload, 1) := by decide +kernel
theorem dX5_may_95 : decode cX5_may 95 = .ok (.sipush 999, 3) := by decide +kernel
theorem dX5_may_98 : decode cX5_may 98 = .ok (.if_icmp .ge 7, 3) := by decide +kernel
theorem dX5_may_101 : decode cX5_may 101 = .ok (.iconst 1, 1) := by decide +kernel
theorem dX5_may_102 : decode cX5_may 102 = .ok (.goto 4, 3) := by decide +kernel
theorem dX5_may_105 : decode cX5_may 105 = .ok (.iconst 0, 1) := by decide +kernel
theorem dX5_may_106 : decode cX5_may 106 = .ok (.ireturn, 1) := by decide +kernel
theorem dX5_may_107 : decode cX5_may 107 = .ok (.aload_n 0, 1) := by decide +kernel
theorem dX5_may_108 : decode cX5_may 108 = .ok (.invokevirtual 134, 3) := by decide +kernel
theorem dX5_may_111 : decode cX5_may 111 = .ok (.ireturn, 1) := by decide +kernel
set_option maxRecDepth 20000 in
theorem ggX5_does_X5_may : GoodIn wsX5_does wsX5_may := goodIn_r _ [7, 2, 8, 9, 10, 6, 11, 12, 13, 14, 15, 16, 17, 18, 19, 20, 21, 22, 23, 24, 25, 26, 27, 28, 29, 30, 31, 32, 33, 34, 35, 36, 37, 38, 39, 40, 41, 42, 43, 44, 45, 46, 98, 99, 100, 101, 102, 103, 104, 105, 106, 107, 108, 109, 110, 111] (by decide +kernel) (by decide +kernel)
set_option maxRecDepth 20000 in
theorem gX5_does_X5_may : GoodIn wsX5_does (wsV RX5 193 RX5 yX5_may wsX5_may) := goodIn_app (goodIn_of _ (by decide +kernel)) ggX5_does_X5_may
set_option maxRecDepth 20000 in
theorem ggX5_does_X5_lends : GoodIn wsX5_does wsX5_lends := goodIn_r _ [50, 2, 51, 52, 6, 53, 54, 55, 56, 19, 20, 21, 57, 58, 59, 98, 99, 100, 101, 102, 103, 104, 105, 106, 107, 108, 109, 110, 111] (by decide +kernel) (by decide +kernel)
set_option maxRecDepth 20000 in
theorem gX5_does_X5_lends : GoodIn wsX5_does (wsV RX5 103 RX5 yX5_lends wsX5_lends) := goodIn_app (goodIn_of _ (by decide +kernel)) ggX5_does_X5_lends
set_option maxRecDepth 20000 in
theorem ggX5_does_X5_pays : GoodIn wsX5_does wsX5_pays := goodIn_r _ [63, 2, 19, 20, 6, 21, 64, 65, 66, 51, 52, 53, 28, 29, 30, 98, 99, 100, 101, 102, 103, 104, 105, 106, 107, 108, 109, 110, 111] (by decide +kernel) (by decide +kernel)
set_option maxRecDepth 20000 in
theorem gX5_does_X5_pays : GoodIn wsX5_does (wsV RX5 119 RX5 yX5_pays wsX5_pays) := goodIn_app (goodIn_of _ (by decide +kernel)) ggX5_does_X5_pays
set_option maxRecDepth 20000 in
theorem ggX5_does_X5_helps : GoodIn wsX5_does wsX5_helps := goodIn_r _ [70, 2, 51, 52, 6, 53, 98, 99, 100, 101, 102, 103, 104, 105, 106, 107, 108, 109, 110, 111] (by decide +kernel) (by decide +kernel)
set_option maxRecDepth 20000 in
theorem gX5_does_X5_helps : GoodIn wsX5_does (wsV RX5 125 RX5 yX5_helps wsX5_helps) := goodIn_app (goodIn_of _ (by decide +kernel)) ggX5_does_X5_helps
set_option maxRecDepth 20000 in
theorem ggX5_does_X5_ends : GoodIn wsX5_does wsX5_ends := goodIn_r _ [74, 75, 76, 19, 20, 6, 21, 54, 55, 56, 57, 58, 59, 77, 78, 79, 80, 51, 52, 53, 81, 82, 83, 84, 85, 86, 87, 88, 89, 22, 23, 24, 25, 26, 27, 28, 29, 30, 98, 99, 100, 101, 102, 103, 104, 105, 106, 107, 108, 109, 110, 111] (by decide +kernel) (by decide +kernel)
set_option maxRecDepth 20000 in
theorem gX5_does_X5_ends : GoodIn wsX5_does (wsV RX5 109 RX5 yX5_ends wsX5_ends) := goodIn_app (goodIn_of _ (by decide +kernel)) ggX5_does_X5_ends
set_option maxRecDepth 20000 in
theorem ggX5_does_X5_cycles : GoodIn wsX5_does wsX5_cycles := goodIn_r _ [93, 2, 19, 20, 6, 21, 94, 95, 96, 97, 64, 65, 66, 98, 99, 100, 101, 102, 103, 104, 105, 106, 107, 108, 109, 110, 111] (by decide +kernel) (by decide +kernel)
set_option maxRecDepth 20000 in
theorem gX5_does_X5_cycles : GoodIn wsX5_does (wsV RX5 138 RX5 yX5_cycles wsX5_cycles) := goodIn_app (goodIn_of _ (by decide +kernel)) ggX5_does_X5_cycles
theorem dX5_does_0 : decode cX5_does 0 = .ok (.aload_n 0, 1) := by decide +kernel
theorem dX5_does_1 : decode cX5_does 1 = .ok (.getfield 22, 3) := by decide +kernel
theorem dX5_does_4 : decode cX5_does 4 = .ok (.iconst 4, 1) := by decide +kernel
theorem dX5_does_5 : decode cX5_does 5 = .ok (.iload_n 1, 1) := by decide +kernel
theorem dX5_does_6 : decode cX5_does 6 = .ok (.imul, 1) := by decide +kernel
theorem dX5_does_7 : decode cX5_does 7 = .ok (.iconst 1, 1) := by decide +kernel
theorem dX5_does_8 : decode cX5_does 8 = .ok (.iadd, 1) := by decide +kernel
theorem dX5_does_9 : decode cX5_does 9 = .ok (.iaload, 1) := by decide +kernel
theorem dX5_does_10 : decode cX5_does 10 = .ok (.istore_n 2, 1) := by decide +kernel
theorem dX5_does_11 : decode cX5_does 11 = .ok (.aload_n 0, 1) := by decide +kernel
theorem dX5_does_12 : decode cX5_does 12 = .ok (.getfield 22, 3) := by decide +kernel
theorem dX5_does_15 : decode cX5_does 15 = .ok (.iconst 4, 1) := by decide +kernel
theorem dX5_does_16 : decode cX5_does 16 = .ok (.iload_n 1, 1) := by decide +kernel
theorem dX5_does_17 : decode cX5_does 17 = .ok (.imul, 1) := by decide +kernel
theorem dX5_does_18 : decode cX5_does 18 = .ok (.iconst 2, 1) := by decide +kernel
theorem dX5_does_19 : decode cX5_does 19 = .ok (.iadd, 1) := by decide +kernel
theorem dX5_does_20 : decode cX5_does 20 = .ok (.iaload, 1) := by decide +kernel
theorem dX5_does_21 : decode cX5_does 21 = .ok (.istore_n 3, 1) := by decide +kernel
theorem dX5_does_22 : decode cX5_does 22 = .ok (.aload_n 0, 1) := by decide +kernel
theorem dX5_does_23 : decode cX5_does 23 = .ok (.getfield 22, 3) := by decide +kernel
theorem dX5_does_26 : decode cX5_does 26 = .ok (.iconst 4, 1) := by decide +kernel
theorem dX5_does_27 : decode cX5_does 27 = .ok (.iload_n 1, 1) := by decide +kernel
theorem dX5_does_28 : decode cX5_does 28 = .ok (.imul, 1) := by decide +kernel
theorem dX5_does_29 : decode cX5_does 29 = .ok (.iconst 3, 1) := by decide +kernel
theorem dX5_does_30 : decode cX5_does 30 = .ok (.iadd, 1) := by decide +kernel
theorem dX5_does_31 : decode cX5_does 31 = .ok (.iaload, 1) := by decide +kernel
theorem dX5_does_32 : decode cX5_does 32 = .ok (.istore 4, 2) := by decide +kernel
theorem dX5_does_34 : decode cX5_does 34 = .ok (.aload_n 0, 1) := by decide +kernel
theorem dX5_does_35 : decode cX5_does 35 = .ok (.aload_n 0, 1) := by decide +kernel
theorem dX5_does_36 : decode cX5_does 36 = .ok (.getfield 22, 3) := by decide +kernel
theorem dX5_does_39 : decode cX5_does 39 = .ok (.iconst 4, 1) := by decide +kernel
theorem dX5_does_40 : decode cX5_does 40 = .ok (.iload_n 1, 1) := by decide +kernel
theorem dX5_does_41 : decode cX5_does 41 = .ok (.imul, 1) := by decide +kernel
theorem dX5_does_42 : decode cX5_does 42 = .ok (.iaload, 1) := by decide +kernel
theorem dX5_does_43 : decode cX5_does 43 = .ok (.iload_n 2, 1) := by decide +kernel
theorem dX5_does_44 : decode cX5_does 44 = .ok (.iload_n 3, 1) := by decide +kernel
theorem dX5_does_45 : decode cX5_does 45 = .ok (.iload 4, 2) := by decide +kernel
theorem dX5_does_47 : decode cX5_does 47 = .ok (.invokevirtual 193, 3) := by decide +kernel
theorem dX5_does_50 : decode cX5_does 50 = .ok (.ifCond .ne 5, 3) := by decide +kernel
theorem dX5_does_53 : decode cX5_does 53 = .ok (.iconst 0, 1) := by decide +kernel
theorem dX5_does_54 : decode cX5_does 54 = .ok (.ireturn, 1) := by decide +kernel
theorem dX5_does_55 : decode cX5_does 55 = .ok (.aload_n 0, 1) := by decide +kernel
theorem dX5_does_56 : decode cX5_does 56 = .ok (.getfield 22, 3) := by decide +kernel
theorem dX5_does_59 : decode cX5_does 59 = .ok (.iconst 4, 1) := by decide +kernel
theorem dX5_does_60 : decode cX5_does 60 = .ok (.iload_n 1, 1) := by decide +kernel
theorem dX5_does_61 : decode cX5_does 61 = .ok (.imul, 1) := by decide +kernel
theorem dX5_does_62 : decode cX5_does 62 = .ok (.iaload, 1) := by decide +kernel
theorem dX5_does_63 : decode cX5_does 63 = .ok (.tableswitch 96 0 4 #[33, 45, 64, 74, 84], 33) := by decide +kernel
theorem dX5_does_96 : decode cX5_does 96 = .ok (.aload_n 0, 1) := by decide +kernel
theorem dX5_does_97 : decode cX5_does 97 = .ok (.iload_n 2, 1) := by decide +kernel
theorem dX5_does_98 : decode cX5_does 98 = .ok (.iload_n 3, 1) := by decide +kernel
theorem dX5_does_99 : decode cX5_does 99 = .ok (.iload 4, 2) := by decide +kernel
theorem dX5_does_101 : decode cX5_does 101 = .ok (.invokevirtual 103, 3) := by decide +kernel
theorem dX5_does_104 : decode cX5_does 104 = .ok (.pop, 1) := by decide +kernel
theorem dX5_does_105 : decode cX5_does 105 = .ok (.goto 59, 3) := by decide +kernel
theorem dX5_does_108 : decode cX5_does 108 = .ok (.aload_n 0, 1) := by decide +kernel
theorem dX5_does_109 : decode cX5_does 109 = .ok (.getfield 7, 3) := by decide +kernel
theorem dX5_does_112 : decode cX5_does 112 = .ok (.bipush 13, 2) := by decide +kernel
theorem dX5_does_114 : decode cX5_does 114 = .ok (.bipush 14, 2) := by decide +kernel
theorem dX5_does_116 : decode cX5_does 116 = .ok (.iload_n 2, 1) := by decide +kernel
theorem dX5_does_117 : decode cX5_does 117 = .ok (.imul, 1) := by decide +kernel
theorem dX5_does_118 : decode cX5_does 118 = .ok (.iadd, 1) := by decide +kernel
theorem dX5_does_119 : decode cX5_does 119 = .ok (.bipush 7, 2) := by decide +kernel
theorem dX5_does_121 : decode cX5_does 121 = .ok (.iadd, 1) := by decide +kernel
theorem dX5_does_122 : decode cX5_does 122 = .ok (.iconst 1, 1) := by decide +kernel
theorem dX5_does_123 : decode cX5_does 123 = .ok (.iastore, 1) := by decide +kernel
theorem dX5_does_124 : decode cX5_does 124 = .ok (.goto 40, 3) := by decide +kernel
theorem dX5_does_127 : decode cX5_does 127 = .ok (.aload_n 0, 1) := by decide +kernel
theorem dX5_does_128 : decode cX5_does 128 = .ok (.iload_n 2, 1) := by decide +kernel
theorem dX5_does_129 : decode cX5_does 129 = .ok (.iload_n 3, 1) := by decide +kernel
theorem dX5_does_130 : decode cX5_does 130 = .ok (.invokevirtual 119, 3) := by decide +kernel
theorem dX5_does_133 : decode cX5_does 133 = .ok (.pop, 1) := by decide +kernel
theorem dX5_does_134 : decode cX5_does 134 = .ok (.goto 30, 3) := by decide +kernel
theorem dX5_does_137 : decode cX5_does 137 = .ok (.aload_n 0, 1) := by decide +kernel
theorem dX5_does_138 : decode cX5_does 138 = .ok (.iload_n 2, 1) := by decide +kernel
theorem dX5_does_139 : decode cX5_does 139 = .ok (.iload_n 3, 1) := by decide +kernel
theorem dX5_does_140 : decode cX5_does 140 = .ok (.invokevirtual 125, 3) := by decide +kernel
theorem dX5_does_143 : decode cX5_does 143 = .ok (.pop, 1) := by decide +kernel
theorem dX5_does_144 : decode cX5_does 144 = .ok (.goto 20, 3) := by decide +kernel
theorem dX5_does_147 : decode cX5_does 147 = .ok (.aload_n 0, 1) := by decide +kernel
theorem dX5_does_148 : decode cX5_does 148 = .ok (.aload_n 0, 1) := by decide +kernel
theorem dX5_does_149 : decode cX5_does 149 = .ok (.getfield 7, 3) := by decide +kernel
theorem dX5_does_152 : decode cX5_does 152 = .ok (.invokevirtual 109, 3) := by decide +kernel
theorem dX5_does_155 : decode cX5_does 155 = .ok (.pop, 1) := by decide +kernel
theorem dX5_does_156 : decode cX5_does 156 = .ok (.goto 8, 3) := by decide +kernel
theorem dX5_does_159 : decode cX5_does 159 = .ok (.aload_n 0, 1) := by decide +kernel
theorem dX5_does_160 : decode cX5_does 160 = .ok (.invokevirtual 138, 3) := by decide +kernel
theorem dX5_does_163 : decode cX5_does 163 = .ok (.pop, 1) := by decide +kernel
theorem dX5_does_164 : decode cX5_does 164 = .ok (.iconst 1, 1) := by decide +kernel
theorem dX5_does_165 : decode cX5_does 165 = .ok (.ireturn, 1) := by decide +kernel
set_option maxRecDepth 20000 in
theorem ggX5_run_X5_isText : GoodIn wsX5_run wsX5_isText := goodIn_r _ [8, 9, 3, 10, 2, 11, 12, 13, 7, 14, 15, 16, 17, 18, 19, 20, 21, 22, 23, 24, 25, 26, 27, 28, 29, 30, 31, 32, 33, 34, 35, 36, 37, 38, 39, 40, 41, 42, 43, 44, 45, 46, 47, 48, 49, 50, 51, 52, 53, 54, 55, 162, 163, 164, 165, 166, 167, 168, 169, 170, 171, 172, 173, 174, 175] (by decide +kernel) (by decide +kernel)
set_option maxRecDepth 20000 in
theorem gX5_run_X5_isText : GoodIn wsX5_run (wsV RX5 190 RX5 yX5_isText wsX5_isText) := goodIn_app (goodIn_of _ (by decide +kernel)) ggX5_run_X5_isText
set_option maxRecDepth 20000 in
theorem ggX5_run_X5_fails : GoodIn wsX5_run wsX5_fails := goodIn_r _ [59, 1, 162, 163, 164, 165, 166, 167, 168, 169, 170, 171, 172, 173, 174, 175] (by decide +kernel) (by decide +kernel)
set_option maxRecDepth 20000 in
theorem gX5_run_X5_fails : GoodIn wsX5_run (wsV RX5 43 RX5 yX5_fails wsX5_fails) := goodIn_app (goodIn_of _ (by decide +kernel)) ggX5_run_X5_fails
set_option maxRecDepth 20000 in
theorem ggX5_run_X5_saves : GoodIn wsX5_run wsX5_saves := goodIn_r _ [63, 64, 65, 66, 162, 163, 164, 165, 166, 167, 168, 169, 170, 171, 172, 173, 174, 175] (by decide +kernel) (by decide +kernel)
set_option maxRecDepth 20000 in
theorem gX5_run_X5_saves : GoodIn wsX5_run (wsV RX5 85 RX5 yX5_saves wsX5_saves) := goodIn_app (goodIn_of _ (by decide +kernel)) ggX5_run_X5_saves
set_option maxRecDepth 20000 in
theorem ggX5_run_X5_does : GoodIn wsX5_run wsX5_does := goodIn_r _ [70, 20, 66, 71, 72, 73, 7, 74, 75, 76, 77, 78, 79, 80, 81, 82, 29, 30, 31, 83, 84, 85, 86, 87, 88, 89, 90, 91, 92, 93, 94, 95, 96, 97, 98, 99, 100, 101, 102, 103, 104, 105, 106, 107, 108, 109, 110, 111, 112, 113, 114, 115, 116, 117, 118, 119, 120, 121, 122, 123, 124, 125, 126, 127, 128, 129, 130, 131, 132, 133, 134, 135, 136, 137, 138, 139, 140, 141, 142, 143, 144, 145, 146, 147, 148, 149, 150, 151, 152, 153, 154, 155, 156, 157, 158, 159, 160, 161, 162, 163, 164, 165, 166, 167, 168, 169, 170, 171, 172, 173, 174, 175] (by decide +kernel) (by decide +kernel)
set_option maxRecDepth 20000 in
theorem gX5_run_X5_does : GoodIn wsX5_run (wsV RX5 197 RX5 yX5_does wsX5_does) := goodIn_app (goodIn_of _ (by decide +kernel)) ggX5_run_X5_does
theorem dX5_run_0 : decode cX5_run 0 = .ok (.aload_n 0, 1) := by decide +kernel
theorem dX5_run_1 : decode cX5_run 1 = .ok (.iconst 0, 1) := by decide +kernel
theorem dX5_run_2 : decode cX5_run 2 = .ok (.putfield 28, 3) := by decide +kernel
theorem dX5_run_5 : decode cX5_run 5 = .ok (.aload_n 0, 1) := by decide +kernel
theorem dX5_run_6 : decode cX5_run 6 = .ok (.invokevirtual 190, 3) := by decide +kernel
theorem dX5_run_9 : decode cX5_run 9 = .ok (.ifCond .ne 9, 3) := by decide +kernel
theorem dX5_run_12 : decode cX5_run 12 = .ok (.aload_n 0, 1) := by decide +kernel
theorem dX5_run_13 : decode cX5_run 13 = .ok (.iconst 1, 1) := by decide +kernel
theorem dX5_run_14 : decode cX5_run 14 = .ok (.invokevirtual 43, 3) := by decide +kernel
theorem dX5_run_17 : decode cX5_run 17 = .ok (.ireturn, 1) := by decide +kernel
theorem dX5_run_18 : decode cX5_run 18 = .ok (.aload_n 0, 1) := by decide +kernel
theorem dX5_run_19 : decode cX5_run 19 = .ok (.invokevirtual 85, 3) := by decide +kernel
theorem dX5_run_22 : decode cX5_run 22 = .ok (.aload_n 0, 1) := by decide +kernel
theorem dX5_run_23 : decode cX5_run 23 = .ok (.iconst 0, 1) := by decide +kernel
theorem dX5_run_24 : decode cX5_run 24 = .ok (.putfield 145, 3) := by decide +kernel
theorem dX5_run_27 : decode cX5_run 27 = .ok (.iconst 0, 1) := by decide +kernel
theorem dX5_run_28 : decode cX5_run 28 = .ok (.istore_n 1, 1) := by decide +kernel
theorem dX5_run_29 : decode cX5_run 29 = .ok (.iload_n 1, 1) := by decide +kernel
theorem dX5_run_30 : decode cX5_run 30 = .ok (.aload_n 0, 1) := by decide +kernel
theorem dX5_run_31 : decode cX5_run 31 = .ok (.getfield 166, 3) := by decide +kernel
theorem dX5_run_34 : decode cX5_run 34 = .ok (.if_icmp .ge 17, 3) := by decide +kernel
theorem dX5_run_37 : decode cX5_run 37 = .ok (.aload_n 0, 1) := by decide +kernel
theorem dX5_run_38 : decode cX5_run 38 = .ok (.iload_n 1, 1) := by decide +kernel
theorem dX5_run_39 : decode cX5_run 39 = .ok (.invokevirtual 197, 3) := by decide +kernel
theorem dX5_run_42 : decode cX5_run 42 = .ok (.ifCond .eq 9, 3) := by decide +kernel
theorem dX5_run_45 : decode cX5_run 45 = .ok (.iinc 1 1, 3) := by decide +kernel
theorem dX5_run_48 : decode cX5_run 48 = .ok (.goto (-19), 3) := by decide +kernel
theorem dX5_run_51 : decode cX5_run 51 = .ok (.iload_n 1, 1) := by decide +kernel
theorem dX5_run_52 : decode cX5_run 52 = .ok (.ireturn, 1) := by decide +kernel
set_option maxRecDepth 20000 in
theorem ggX5_ofMember_X5_of : GoodIn wsX5_ofMember wsX5_of := goodIn_r _ [5] (by decide +kernel) (by decide +kernel)
set_option maxRecDepth 20000 in
theorem gX5_ofMember_X5_of : GoodIn wsX5_ofMember (va_wsS RX5 36 yX5_of wsX5_of) := goodIn_app (goodIn_of _ (by decide +kernel)) ggX5_ofMember_X5_of
set_option maxRecDepth 20000 in
theorem ggX5_ofMember_X5_due : GoodIn wsX5_ofMember wsX5_due := goodIn_r _ [8, 2, 3, 4, 5, 9, 10, 11] (by decide +kernel) (by decide +kernel)
set_option maxRecDepth 20000 in
theorem gX5_ofMember_X5_due : GoodIn wsX5_ofMember (va_wsS RX5 57 yX5_due wsX5_due) := goodIn_app (goodIn_of _ (by decide +kernel)) ggX5_ofMember_X5_due
set_option maxRecDepth 20000 in
theorem ggX5_ofMember_X5_toOthers : GoodIn wsX5_ofMember wsX5_toOthers := goodIn_r _ [14, 15, 16, 4, 17] (by decide +kernel) (by decide +kernel)
set_option maxRecDepth 20000 in
theorem gX5_ofMember_X5_toOthers : GoodIn wsX5_ofMember (va_wsS RX5 50 yX5_toOthers wsX5_toOthers) := goodIn_app (goodIn_of _ (by decide +kernel)) ggX5_ofMember_X5_toOthers
set_option maxRecDepth 20000 in
theorem ggX5_ofMember_X5_fromOthers : GoodIn wsX5_ofMember wsX5_fromOthers := goodIn_r _ [20, 15, 16, 4, 17] (by decide +kernel) (by decide +kernel)
set_option maxRecDepth 20000 in
theorem gX5_ofMember_X5_fromOthers : GoodIn wsX5_ofMember (va_wsS RX5 96 yX5_fromOthers wsX5_fromOthers) := goodIn_app (goodIn_of _ (by decide +kernel)) ggX5_ofMember_X5_fromOthers
theorem dX5_ofMember_0 : decode cX5_ofMember 0 = .ok (.iload_n 2, 1) := by decide +kernel
theorem dX5_ofMember_1 : decode cX5_ofMember 1 = .ok (.iconst 4, 1) := by decide +kernel
theorem dX5_ofMember_2 : decode cX5_ofMember 2 = .ok (.if_icmp .ge 15, 3) := by decide +kernel
theorem dX5_ofMember_5 : decode cX5_ofMember 5 = .ok (.aload_n 0, 1) := by decide +kernel
theorem dX5_ofMember_6 : decode cX5_ofMember 6 = .ok (.getfield 7, 3) := by decide +kernel
theorem dX5_ofMember_9 : decode cX5_ofMember 9 = .ok (.iload_n 1, 1) := by decide +kernel
theorem dX5_ofMember_10 : decode cX5_ofMember 10 = .ok (.iconst 1, 1) := by decide +kernel
theorem dX5_ofMember_11 : decode cX5_ofMember 11 = .ok (.iload_n 2, 1) := by decide +kernel
theorem dX5_ofMember_12 : decode cX5_ofMember 12 = .ok (.iadd, 1) := by decide +kernel
theorem dX5_ofMember_13 : decode cX5_ofMember 13 = .ok (.invokestatic 36, 3) := by decide +kernel
theorem dX5_ofMember_16 : decode cX5_ofMember 16 = .ok (.ireturn, 1) := by decide +kernel
theorem dX5_ofMember_17 : decode cX5_ofMember 17 = .ok (.iload_n 2, 1) := by decide +kernel
theorem dX5_ofMember_18 : decode cX5_ofMember 18 = .ok (.bipush 10, 2) := by decide +kernel
theorem dX5_ofMember_20 : decode cX5_ofMember 20 = .ok (.if_icmp .ge 45, 3) := by decide +kernel
theorem dX5_ofMember_23 : decode cX5_ofMember 23 = .ok (.iload_n 2, 1) := by decide +kernel
theorem dX5_ofMember_24 : decode cX5_ofMember 24 = .ok (.iconst 4, 1) := by decide +kernel
theorem dX5_ofMember_25 : decode cX5_ofMember 25 = .ok (.if_icmp .ne 14, 3) := by decide +kernel
theorem dX5_ofMember_28 : decode cX5_ofMember 28 = .ok (.aload_n 0, 1) := by decide +kernel
theorem dX5_ofMember_29 : decode cX5_ofMember 29 = .ok (.getfield 7, 3) := by decide +kernel
theorem dX5_ofMember_32 : decode cX5_ofMember 32 = .ok (.iload_n 1, 1) := by decide +kernel
theorem dX5_ofMember_33 : decode cX5_ofMember 33 = .ok (.invokestatic 57, 3) := by decide +kernel
theorem dX5_ofMember_36 : decode cX5_ofMember 36 = .ok (.goto 28, 3) := by decide +kernel
theorem dX5_ofMember_39 : decode cX5_ofMember 39 = .ok (.aload_n 0, 1) := by decide +kernel
theorem dX5_ofMember_40 : decode cX5_ofMember 40 = .ok (.getfield 7, 3) := by decide +kernel
theorem dX5_ofMember_43 : decode cX5_ofMember 43 = .ok (.iload_n 1, 1) := by decide +kernel
theorem dX5_ofMember_44 : decode cX5_ofMember 44 = .ok (.iload_n 2, 1) := by decide +kernel
theorem dX5_ofMember_45 : decode cX5_ofMember 45 = .ok (.bipush 9, 2) := by decide +kernel
theorem dX5_ofMember_47 : decode cX5_ofMember 47 = .ok (.if_icmp .ne 8, 3) := by decide +kernel
theorem dX5_ofMember_50 : decode cX5_ofMember 50 = .ok (.bipush 11, 2) := by decide +kernel
theorem dX5_ofMember_52 : decode cX5_ofMember 52 = .ok (.goto 9, 3) := by decide +kernel
theorem dX5_ofMember_55 : decode cX5_ofMember 55 = .ok (.bipush 7, 2) := by decide +kernel
theorem dX5_ofMember_57 : decode cX5_ofMember 57 = .ok (.iload_n 2, 1) := by decide +kernel
theorem dX5_ofMember_58 : decode cX5_ofMember 58 = .ok (.iadd, 1) := by decide +kernel
theorem dX5_ofMember_59 : decode cX5_ofMember 59 = .ok (.iconst 5, 1) := by decide +kernel
theorem dX5_ofMember_60 : decode cX5_ofMember 60 = .ok (.isub, 1) := by decide +kernel
theorem dX5_ofMember_61 : decode cX5_ofMember 61 = .ok (.invokestatic 36, 3) := by decide +kernel
theorem dX5_ofMember_64 : decode cX5_ofMember 64 = .ok (.ireturn, 1) := by decide +kernel
theorem dX5_ofMember_65 : decode cX5_ofMember 65 = .ok (.iload_n 2, 1) := by decide +kernel
theorem dX5_ofMember_66 : decode cX5_ofMember 66 = .ok (.bipush 10, 2) := by decide +kernel
theorem dX5_ofMember_68 : decode cX5_ofMember 68 = .ok (.if_icmp .ne 14, 3) := by decide +kernel
theorem dX5_ofMember_71 : decode cX5_ofMember 71 = .ok (.aload_n 0, 1) := by decide +kernel
theorem dX5_ofMember_72 : decode cX5_ofMember 72 = .ok (.getfield 7, 3) := by decide +kernel
theorem dX5_ofMember_75 : decode cX5_ofMember 75 = .ok (.iload_n 1, 1) := by decide +kernel
theorem dX5_ofMember_76 : decode cX5_ofMember 76 = .ok (.invokestatic 50, 3) := by decide +kernel
theorem dX5_ofMember_79 : decode cX5_ofMember 79 = .ok (.goto 29, 3) := by decide +kernel
theorem dX5_ofMember_82 : decode cX5_ofMember 82 = .ok (.iload_n 2, 1) := by decide +kernel
theorem dX5_ofMember_83 : decode cX5_ofMember 83 = .ok (.bipush 11, 2) := by decide +kernel
theorem dX5_ofMember_85 : decode cX5_ofMember 85 = .ok (.if_icmp .ne 14, 3) := by decide +kernel
theorem dX5_ofMember_88 : decode cX5_ofMember 88 = .ok (.aload_n 0, 1) := by decide +kernel
theorem dX5_ofMember_89 : decode cX5_ofMember 89 = .ok (.getfield 7, 3) := by decide +kernel
theorem dX5_ofMember_92 : decode cX5_ofMember 92 = .ok (.iload_n 1, 1) := by decide +kernel
theorem dX5_ofMember_93 : decode cX5_ofMember 93 = .ok (.invokestatic 96, 3) := by decide +kernel
theorem dX5_ofMember_96 : decode cX5_ofMember 96 = .ok (.goto 12, 3) := by decide +kernel
theorem dX5_ofMember_99 : decode cX5_ofMember 99 = .ok (.aload_n 0, 1) := by decide +kernel
theorem dX5_ofMember_100 : decode cX5_ofMember 100 = .ok (.getfield 7, 3) := by decide +kernel
theorem dX5_ofMember_103 : decode cX5_ofMember 103 = .ok (.iload_n 1, 1) := by decide +kernel
theorem dX5_ofMember_104 : decode cX5_ofMember 104 = .ok (.iload_n 2, 1) := by decide +kernel
theorem dX5_ofMember_105 : decode cX5_ofMember 105 = .ok (.invokestatic 36, 3) := by decide +kernel
theorem dX5_ofMember_108 : decode cX5_ofMember 108 = .ok (.ireturn, 1) := by decide +kernel
set_option maxRecDepth 20000 in
theorem ggX5_member_X5_isMember : GoodIn wsX5_member wsX5_isMember := goodIn_r _ [6, 7, 8, 9, 5, 10, 11, 12, 13, 37, 38, 39, 40, 41, 42, 43, 44, 45, 46, 47, 48, 49, 50] (by decide +kernel) (by decide +kernel)
set_option maxRecDepth 20000 in
theorem gX5_member_X5_isMember : GoodIn wsX5_member (wsV RX5 92 RX5 yX5_isMember wsX5_isMember) := goodIn_app (goodIn_of _ (by decide +kernel)) ggX5_member_X5_isMember
set_option maxRecDepth 20000 in
theorem ggX5_member_X5_fails : GoodIn wsX5_member wsX5_fails := goodIn_r _ [17, 1, 37, 38, 39, 40, 41, 42, 43, 44, 45, 46, 47, 48, 49, 50] (by decide +kernel) (by decide +kernel)
set_option maxRecDepth 20000 in
theorem gX5_member_X5_fails : GoodIn wsX5_member (wsV RX5 43 RX5 yX5_fails wsX5_fails) := goodIn_app (goodIn_of _ (by decide +kernel)) ggX5_member_X5_fails
set_option maxRecDepth 20000 in
theorem ggX5_member_X5_in : GoodIn wsX5_member wsX5_in := goodIn_r _ [10] (by decide +kernel) (by decide +kernel)
set_option maxRecDepth 20000 in
theorem gX5_member_X5_in : GoodIn wsX5_member (va_wsS RX5 32 yX5_in wsX5_in) := goodIn_app (goodIn_of _ (by decide +kernel)) ggX5_member_X5_in
set_option maxRecDepth 20000 in
theorem ggX5_member_X5_ofMember : GoodIn wsX5_member wsX5_ofMember := goodIn_r _ [21, 7, 11, 12, 5, 13, 22, 23, 24, 25, 26, 27, 28, 29, 30, 31, 32, 33, 34, 35, 36, 37, 38, 39, 40, 41, 42, 43, 44, 45, 46, 47, 48, 49, 50] (by decide +kernel) (by decide +kernel)
set_option maxRecDepth 20000 in
theorem gX5_member_X5_ofMember : GoodIn wsX5_member (wsV RX5 200 RX5 yX5_ofMember wsX5_ofMember) := goodIn_app (goodIn_of _ (by decide +kernel)) ggX5_member_X5_ofMember
theorem dX5_member_0 : decode cX5_member 0 = .ok (.aload_n 0, 1) := by decide +kernel
theorem dX5_member_1 : decode cX5_member 1 = .ok (.iconst 0, 1) := by decide +kernel
theorem dX5_member_2 : decode cX5_member 2 = .ok (.putfield 28, 3) := by decide +kernel
theorem dX5_member_5 : decode cX5_member 5 = .ok (.aload_n 0, 1) := by decide +kernel
theorem dX5_member_6 : decode cX5_member 6 = .ok (.iload_n 1, 1) := by decide +kernel
theorem dX5_member_7 : decode cX5_member 7 = .ok (.invokevirtual 92, 3) := by decide +kernel
theorem dX5_member_10 : decode cX5_member 10 = .ok (.ifCond .ne 9, 3) := by decide +kernel
theorem dX5_member_13 : decode cX5_member 13 = .ok (.aload_n 0, 1) := by decide +kernel
theorem dX5_member_14 : decode cX5_member 14 = .ok (.iconst 1, 1) := by decide +kernel
theorem dX5_member_15 : decode cX5_member 15 = .ok (.invokevirtual 43, 3) := by decide +kernel
theorem dX5_member_18 : decode cX5_member 18 = .ok (.ireturn, 1) := by decide +kernel
theorem dX5_member_19 : decode cX5_member 19 = .ok (.iload_n 2, 1) := by decide +kernel
theorem dX5_member_20 : decode cX5_member 20 = .ok (.iconst 0, 1) := by decide +kernel
theorem dX5_member_21 : decode cX5_member 21 = .ok (.bipush 13, 2) := by decide +kernel
theorem dX5_member_23 : decode cX5_member 23 = .ok (.invokestatic 32, 3) := by decide +kernel
theorem dX5_member_26 : decode cX5_member 26 = .ok (.ifCond .eq 12, 3) := by decide +kernel
theorem dX5_member_29 : decode cX5_member 29 = .ok (.aload_n 0, 1) := by decide +kernel
theorem dX5_member_30 : decode cX5_member 30 = .ok (.iload_n 1, 1) := by decide +kernel
theorem dX5_member_31 : decode cX5_member 31 = .ok (.iload_n 2, 1) := by decide +kernel
theorem dX5_member_32 : decode cX5_member 32 = .ok (.invokevirtual 200, 3) := by decide +kernel
theorem dX5_member_35 : decode cX5_member 35 = .ok (.goto 8, 3) := by decide +kernel
theorem dX5_member_38 : decode cX5_member 38 = .ok (.aload_n 0, 1) := by decide +kernel
theorem dX5_member_39 : decode cX5_member 39 = .ok (.iconst 2, 1) := by decide +kernel
theorem dX5_member_40 : decode cX5_member 40 = .ok (.invokevirtual 43, 3) := by decide +kernel
theorem dX5_member_43 : decode cX5_member 43 = .ok (.ireturn, 1) := by decide +kernel
set_option maxRecDepth 20000 in
theorem ggX5_owes_X5_isMember : GoodIn wsX5_owes wsX5_isMember := goodIn_r _ [7, 2, 8, 9, 6, 10, 11, 12, 13, 21, 22, 23, 24, 25, 26, 27, 28, 29, 30, 31, 32, 33, 34] (by decide +kernel) (by decide +kernel)
set_option maxRecDepth 20000 in
theorem gX5_owes_X5_isMember : GoodIn wsX5_owes (wsV RX5 92 RX5 yX5_isMember wsX5_isMember) := goodIn_app (goodIn_of _ (by decide +kernel)) ggX5_owes_X5_isMember
set_option maxRecDepth 20000 in
theorem ggX5_owes_X5_debt : GoodIn wsX5_owes wsX5_debt := goodIn_r _ [16] (by decide +kernel) (by decide +kernel)
set_option maxRecDepth 20000 in
theorem gX5_owes_X5_debt : GoodIn wsX5_owes (va_wsS RX5 47 yX5_debt wsX5_debt) := goodIn_app (goodIn_of _ (by decide +kernel)) ggX5_owes_X5_debt
set_option maxRecDepth 20000 in
theorem ggX5_owes_X5_fails : GoodIn wsX5_owes wsX5_fails := goodIn_r _ [20, 1, 21, 22, 23, 24, 25, 26, 27, 28, 29, 30, 31, 32, 33, 34] (by decide +kernel) (by decide +kernel)
set_option maxRecDepth 20000 in
theorem gX5_owes_X5_fails : GoodIn wsX5_owes (wsV RX5 43 RX5 yX5_fails wsX5_fails) := goodIn_app (goodIn_of _ (by decide +kernel)) ggX5_owes_X5_fails
theorem dX5_owes_0 : decode cX5_owes 0 = .ok (.aload_n 0, 1) := by decide +kernel
theorem dX5_owes_1 : decode cX5_owes 1 = .ok (.iconst 0, 1) := by decide +kernel
theorem dX5_owes_2 : decode cX5_owes 2 = .ok (.putfield 28, 3) := by decide +kernel
theorem dX5_owes_5 : decode cX5_owes 5 = .ok (.aload_n 0, 1) := by decide +kernel
theorem dX5_owes_6 : decode cX5_owes 6 = .ok (.iload_n 1, 1) := by decide +kernel
theorem dX5_owes_7 : decode cX5_owes 7 = .ok (.invokevirtual 92, 3) := by decide +kernel
theorem dX5_owes_10 : decode cX5_owes 10 = .ok (.ifCond .eq 23, 3) := by decide +kernel
theorem dX5_owes_13 : decode cX5_owes 13 = .ok (.aload_n 0, 1) := by decide +kernel
theorem dX5_owes_14 : decode cX5_owes 14 = .ok (.iload_n 2, 1) := by decide +kernel
theorem dX5_owes_15 : decode cX5_owes 15 = .ok (.invokevirtual 92, 3) := by decide +kernel
theorem dX5_owes_18 : decode cX5_owes 18 = .ok (.ifCond .eq 15, 3) := by decide +kernel
theorem dX5_owes_21 : decode cX5_owes 21 = .ok (.aload_n 0, 1) := by decide +kernel
theorem dX5_owes_22 : decode cX5_owes 22 = .ok (.getfield 7, 3) := by decide +kernel
theorem dX5_owes_25 : decode cX5_owes 25 = .ok (.iload_n 1, 1) := by decide +kernel
theorem dX5_owes_26 : decode cX5_owes 26 = .ok (.iload_n 2, 1) := by decide +kernel
theorem dX5_owes_27 : decode cX5_owes 27 = .ok (.invokestatic 47, 3) := by decide +kernel
theorem dX5_owes_30 : decode cX5_owes 30 = .ok (.goto 8, 3) := by decide +kernel
theorem dX5_owes_33 : decode cX5_owes 33 = .ok (.aload_n 0, 1) := by decide +kernel
theorem dX5_owes_34 : decode cX5_owes 34 = .ok (.iconst 1, 1) := by decide +kernel
theorem dX5_owes_35 : decode cX5_owes 35 = .ok (.invokevirtual 43, 3) := by decide +kernel
theorem dX5_owes_38 : decode cX5_owes 38 = .ok (.ireturn, 1) := by decide +kernel
set_option maxRecDepth 20000 in
theorem ggX5_among_X5_toOthers : GoodIn wsX5_among wsX5_toOthers := goodIn_r _ [4, 5, 6, 3, 7] (by decide +kernel) (by decide +kernel)
set_option maxRecDepth 20000 in
theorem gX5_among_X5_toOthers : GoodIn wsX5_among (va_wsS RX5 50 yX5_toOthers wsX5_toOthers) := goodIn_app (goodIn_of _ (by decide +kernel)) ggX5_among_X5_toOthers
theorem dX5_among_0 : decode cX5_among 0 = .ok (.iconst 0, 1) := by decide +kernel
theorem dX5_among_1 : decode cX5_among 1 = .ok (.istore_n 1, 1) := by decide +kernel
theorem dX5_among_2 : decode cX5_among 2 = .ok (.iconst 0, 1) := by decide +kernel
theorem dX5_among_3 : decode cX5_among 3 = .ok (.istore_n 2, 1) := by decide +kernel
theorem dX5_among_4 : decode cX5_among 4 = .ok (.iload_n 2, 1) := by decide +kernel
theorem dX5_among_5 : decode cX5_among 5 = .ok (.bipush 8, 2) := by decide +kernel
theorem dX5_among_7 : decode cX5_among 7 = .ok (.if_icmp .ge 17, 3) := by decide +kernel
theorem dX5_among_10 : decode cX5_among 10 = .ok (.iload_n 1, 1) := by decide +kernel
theorem dX5_among_11 : decode cX5_among 11 = .ok (.aload_n 0, 1) := by decide +kernel
theorem dX5_among_12 : decode cX5_among 12 = .ok (.iload_n 2, 1) := by decide +kernel
theorem dX5_among_13 : decode cX5_among 13 = .ok (.invokestatic 50, 3) := by decide +kernel
theorem dX5_among_16 : decode cX5_among 16 = .ok (.iadd, 1) := by decide +kernel
theorem dX5_among_17 : decode cX5_among 17 = .ok (.istore_n 1, 1) := by decide +kernel
theorem dX5_among_18 : decode cX5_among 18 = .ok (.iinc 2 1, 3) := by decide +kernel
theorem dX5_among_21 : decode cX5_among 21 = .ok (.goto (-17), 3) := by decide +kernel
theorem dX5_among_24 : decode cX5_among 24 = .ok (.iload_n 1, 1) := by decide +kernel
theorem dX5_among_25 : decode cX5_among 25 = .ok (.ireturn, 1) := by decide +kernel
set_option maxRecDepth 20000 in
theorem ggX5_counted_X5_members : GoodIn wsX5_counted wsX5_members := goodIn_r _ [7, 1, 8, 9, 6, 10, 28, 29, 30, 31, 32, 33, 34, 35, 36, 37, 38, 39, 40, 41] (by decide +kernel) (by decide +kernel)
set_option maxRecDepth 20000 in
theorem gX5_counted_X5_members : GoodIn wsX5_counted (wsV RX5 88 RX5 yX5_members wsX5_members) := goodIn_app (goodIn_of _ (by decide +kernel)) ggX5_counted_X5_members
set_option maxRecDepth 20000 in
theorem ggX5_counted_X5_sumOf : GoodIn wsX5_counted wsX5_sumOf := goodIn_r _ [14, 1, 8, 9, 6, 10, 28, 29, 30, 31, 32, 33, 34, 35, 36, 37, 38, 39, 40, 41] (by decide +kernel) (by decide +kernel)
set_option maxRecDepth 20000 in
theorem gX5_counted_X5_sumOf : GoodIn wsX5_counted (wsV RX5 128 RX5 yX5_sumOf wsX5_sumOf) := goodIn_app (goodIn_of _ (by decide +kernel)) ggX5_counted_X5_sumOf
set_option maxRecDepth 20000 in
theorem ggX5_counted_X5_among : GoodIn wsX5_counted wsX5_among := goodIn_r _ [17, 18, 19, 6, 20, 21, 22, 23] (by decide +kernel) (by decide +kernel)
set_option maxRecDepth 20000 in
theorem gX5_counted_X5_among : GoodIn wsX5_counted (va_wsS RX5 203 yX5_among wsX5_among) := goodIn_app (goodIn_of _ (by decide +kernel)) ggX5_counted_X5_among
set_option maxRecDepth 20000 in
theorem ggX5_counted_X5_absents : GoodIn wsX5_counted wsX5_absents := goodIn_r _ [27, 1, 8, 9, 6, 10, 28, 29, 30, 31, 32, 33, 34, 35, 36, 37, 38, 39, 40, 41] (by decide +kernel) (by decide +kernel)
set_option maxRecDepth 20000 in
theorem gX5_counted_X5_absents : GoodIn wsX5_counted (wsV RX5 106 RX5 yX5_absents wsX5_absents) := goodIn_app (goodIn_of _ (by decide +kernel)) ggX5_counted_X5_absents
theorem dX5_counted_0 : decode cX5_counted 0 = .ok (.iload_n 1, 1) := by decide +kernel
theorem dX5_counted_1 : decode cX5_counted 1 = .ok (.iconst 5, 1) := by decide +kernel
theorem dX5_counted_2 : decode cX5_counted 2 = .ok (.if_icmp .ge 37, 3) := by decide +kernel
theorem dX5_counted_5 : decode cX5_counted 5 = .ok (.iload_n 1, 1) := by decide +kernel
theorem dX5_counted_6 : decode cX5_counted 6 = .ok (.iconst 3, 1) := by decide +kernel
theorem dX5_counted_7 : decode cX5_counted 7 = .ok (.if_icmp .ge 12, 3) := by decide +kernel
theorem dX5_counted_10 : decode cX5_counted 10 = .ok (.aload_n 0, 1) := by decide +kernel
theorem dX5_counted_11 : decode cX5_counted 11 = .ok (.getfield 7, 3) := by decide +kernel
theorem dX5_counted_14 : decode cX5_counted 14 = .ok (.iload_n 1, 1) := by decide +kernel
theorem dX5_counted_15 : decode cX5_counted 15 = .ok (.iaload, 1) := by decide +kernel
theorem dX5_counted_16 : decode cX5_counted 16 = .ok (.goto 22, 3) := by decide +kernel
theorem dX5_counted_19 : decode cX5_counted 19 = .ok (.iload_n 1, 1) := by decide +kernel
theorem dX5_counted_20 : decode cX5_counted 20 = .ok (.iconst 3, 1) := by decide +kernel
theorem dX5_counted_21 : decode cX5_counted 21 = .ok (.if_icmp .ne 10, 3) := by decide +kernel
theorem dX5_counted_24 : decode cX5_counted 24 = .ok (.aload_n 0, 1) := by decide +kernel
theorem dX5_counted_25 : decode cX5_counted 25 = .ok (.invokevirtual 88, 3) := by decide +kernel
theorem dX5_counted_28 : decode cX5_counted 28 = .ok (.goto 10, 3) := by decide +kernel
theorem dX5_counted_31 : decode cX5_counted 31 = .ok (.aload_n 0, 1) := by decide +kernel
theorem dX5_counted_32 : decode cX5_counted 32 = .ok (.getfield 7, 3) := by decide +kernel
theorem dX5_counted_35 : decode cX5_counted 35 = .ok (.bipush 8, 2) := by decide +kernel
theorem dX5_counted_37 : decode cX5_counted 37 = .ok (.iaload, 1) := by decide +kernel
theorem dX5_counted_38 : decode cX5_counted 38 = .ok (.ireturn, 1) := by decide +kernel
theorem dX5_counted_39 : decode cX5_counted 39 = .ok (.iload_n 1, 1) := by decide +kernel
theorem dX5_counted_40 : decode cX5_counted 40 = .ok (.bipush 9, 2) := by decide +kernel
theorem dX5_counted_42 : decode cX5_counted 42 = .ok (.if_icmp .ge 54, 3) := by decide +kernel
theorem dX5_counted_45 : decode cX5_counted 45 = .ok (.iload_n 1, 1) := by decide +kernel
theorem dX5_counted_46 : decode cX5_counted 46 = .ok (.iconst 5, 1) := by decide +kernel
theorem dX5_counted_47 : decode cX5_counted 47 = .ok (.if_icmp .ne 11, 3) := by decide +kernel
theorem dX5_counted_50 : decode cX5_counted 50 = .ok (.aload_n 0, 1) := by decide +kernel
theorem dX5_counted_51 : decode cX5_counted 51 = .ok (.iconst 3, 1) := by decide +kernel
theorem dX5_counted_52 : decode cX5_counted 52 = .ok (.invokevirtual 128, 3) := by decide +kernel
theorem dX5_counted_55 : decode cX5_counted 55 = .ok (.goto 40, 3) := by decide +kernel
theorem dX5_counted_58 : decode cX5_counted 58 = .ok (.iload_n 1, 1) := by decide +kernel
theorem dX5_counted_59 : decode cX5_counted 59 = .ok (.bipush 6, 2) := by decide +kernel
theorem dX5_counted_61 : decode cX5_counted 61 = .ok (.if_icmp .ne 12, 3) := by decide +kernel
theorem dX5_counted_64 : decode cX5_counted 64 = .ok (.aload_n 0, 1) := by decide +kernel
theorem dX5_counted_65 : decode cX5_counted 65 = .ok (.bipush 10, 2) := by decide +kernel
theorem dX5_counted_67 : decode cX5_counted 67 = .ok (.invokevirtual 128, 3) := by decide +kernel
theorem dX5_counted_70 : decode cX5_counted 70 = .ok (.goto 25, 3) := by decide +kernel
theorem dX5_counted_73 : decode cX5_counted 73 = .ok (.iload_n 1, 1) := by decide +kernel
theorem dX5_counted_74 : decode cX5_counted 74 = .ok (.bipush 7, 2) := by decide +kernel
theorem dX5_counted_76 : decode cX5_counted 76 = .ok (.if_icmp .ne 12, 3) := by decide +kernel
theorem dX5_counted_79 : decode cX5_counted 79 = .ok (.aload_n 0, 1) := by decide +kernel
theorem dX5_counted_80 : decode cX5_counted 80 = .ok (.bipush 11, 2) := by decide +kernel
theorem dX5_counted_82 : decode cX5_counted 82 = .ok (.invokevirtual 128, 3) := by decide +kernel
theorem dX5_counted_85 : decode cX5_counted 85 = .ok (.goto 10, 3) := by decide +kernel
theorem dX5_counted_88 : decode cX5_counted 88 = .ok (.aload_n 0, 1) := by decide +kernel
theorem dX5_counted_89 : decode cX5_counted 89 = .ok (.getfield 7, 3) := by decide +kernel
theorem dX5_counted_92 : decode cX5_counted 92 = .ok (.invokestatic 203, 3) := by decide +kernel
theorem dX5_counted_95 : decode cX5_counted 95 = .ok (.ireturn, 1) := by decide +kernel
theorem dX5_counted_96 : decode cX5_counted 96 = .ok (.iload_n 1, 1) := by decide +kernel
theorem dX5_counted_97 : decode cX5_counted 97 = .ok (.bipush 12, 2) := by decide +kernel
theorem dX5_counted_99 : decode cX5_counted 99 = .ok (.if_icmp .ge 16, 3) := by decide +kernel
theorem dX5_counted_102 : decode cX5_counted 102 = .ok (.aload_n 0, 1) := by decide +kernel
theorem dX5_counted_103 : decode cX5_counted 103 = .ok (.getfield 7, 3) := by decide +kernel
theorem dX5_counted_106 : decode cX5_counted 106 = .ok (.bipush 9, 2) := by decide +kernel
theorem dX5_counted_108 : decode cX5_counted 108 = .ok (.iload_n 1, 1) := by decide +kernel
theorem dX5_counted_109 : decode cX5_counted 109 = .ok (.iadd, 1) := by decide +kernel
theorem dX5_counted_110 : decode cX5_counted 110 = .ok (.bipush 9, 2) := by decide +kernel
theorem dX5_counted_112 : decode cX5_counted 112 = .ok (.isub, 1) := by decide +kernel
theorem dX5_counted_113 : decode cX5_counted 113 = .ok (.iaload, 1) := by decide +kernel
theorem dX5_counted_114 : decode cX5_counted 114 = .ok (.ireturn, 1) := by decide +kernel
theorem dX5_counted_115 : decode cX5_counted 115 = .ok (.iload_n 1, 1) := by decide +kernel
theorem dX5_counted_116 : decode cX5_counted 116 = .ok (.bipush 12, 2) := by decide +kernel
theorem dX5_counted_118 : decode cX5_counted 118 = .ok (.if_icmp .ne 29, 3) := by decide +kernel
theorem dX5_counted_121 : decode cX5_counted 121 = .ok (.aload_n 0, 1) := by decide +kernel
theorem dX5_counted_122 : decode cX5_counted 122 = .ok (.getfield 7, 3) := by decide +kernel
theorem dX5_counted_125 : decode cX5_counted 125 = .ok (.bipush 9, 2) := by decide +kernel
theorem dX5_counted_127 : decode cX5_counted 127 = .ok (.iaload, 1) := by decide +kernel
theorem dX5_counted_128 : decode cX5_counted 128 = .ok (.aload_n 0, 1) := by decide +kernel
theorem dX5_counted_129 : decode cX5_counted 129 = .ok (.getfield 7, 3) := by decide +kernel
theorem dX5_counted_132 : decode cX5_counted 132 = .ok (.bipush 10, 2) := by decide +kernel
theorem dX5_counted_134 : decode cX5_counted 134 = .ok (.iaload, 1) := by decide +kernel
theorem dX5_counted_135 : decode cX5_counted 135 = .ok (.iadd, 1) := by decide +kernel
theorem dX5_counted_136 : decode cX5_counted 136 = .ok (.aload_n 0, 1) := by decide +kernel
theorem dX5_counted_137 : decode cX5_counted 137 = .ok (.getfield 7, 3) := by decide +kernel
theorem dX5_counted_140 : decode cX5_counted 140 = .ok (.bipush 11, 2) := by decide +kernel
theorem dX5_counted_142 : decode cX5_counted 142 = .ok (.iaload, 1) := by decide +kernel
theorem dX5_counted_143 : decode cX5_counted 143 = .ok (.isub, 1) := by decide +kernel
theorem dX5_counted_144 : decode cX5_counted 144 = .ok (.goto 36, 3) := by decide +kernel
theorem dX5_counted_147 : decode cX5_counted 147 = .ok (.iload_n 1, 1) := by decide +kernel
theorem dX5_counted_148 : decode cX5_counted 148 = .ok (.bipush 13, 2) := by decide +kernel
theorem dX5_counted_150 : decode cX5_counted 150 = .ok (.if_icmp .ne 13, 3) := by decide +kernel
theorem dX5_counted_153 : decode cX5_counted 153 = .ok (.aload_n 0, 1) := by decide +kernel
theorem dX5_counted_154 : decode cX5_counted 154 = .ok (.getfield 7, 3) := by decide +kernel
theorem dX5_counted_157 : decode cX5_counted 157 = .ok (.bipush 12, 2) := by decide +kernel
theorem dX5_counted_159 : decode cX5_counted 159 = .ok (.iaload, 1) := by decide +kernel
theorem dX5_counted_160 : decode cX5_counted 160 = .ok (.goto 20, 3) := by decide +kernel
theorem dX5_counted_163 : decode cX5_counted 163 = .ok (.iload_n 1, 1) := by decide +kernel
theorem dX5_counted_164 : decode cX5_counted 164 = .ok (.bipush 14, 2) := by decide +kernel
theorem dX5_counted_166 : decode cX5_counted 166 = .ok (.if_icmp .ne 10, 3) := by decide +kernel
theorem dX5_counted_169 : decode cX5_counted 169 = .ok (.aload_n 0, 1) := by decide +kernel
theorem dX5_counted_170 : decode cX5_counted 170 = .ok (.invokevirtual 106, 3) := by decide +kernel
theorem dX5_counted_173 : decode cX5_counted 173 = .ok (.goto 7, 3) := by decide +kernel
theorem dX5_counted_176 : decode cX5_counted 176 = .ok (.aload_n 0, 1) := by decide +kernel
theorem dX5_counted_177 : decode cX5_counted 177 = .ok (.getfield 40, 3) := by decide +kernel
theorem dX5_counted_180 : decode cX5_counted 180 = .ok (.ireturn, 1) := by decide +kernel
set_option maxRecDepth 20000 in
theorem ggX5_count_X5_in : GoodIn wsX5_count wsX5_in := goodIn_r _ [5] (by decide +kernel) (by decide +kernel)
set_option maxRecDepth 20000 in
theorem gX5_count_X5_in : GoodIn wsX5_count (va_wsS RX5 32 yX5_in wsX5_in) := goodIn_app (goodIn_of _ (by decide +kernel)) ggX5_count_X5_in
set_option maxRecDepth 20000 in
theorem ggX5_count_X5_counted : GoodIn wsX5_count wsX5_counted := goodIn_r _ [9, 10, 11, 12, 13, 14, 4, 15, 16, 17, 18, 19, 20, 21, 22, 23, 24, 25, 26, 27, 28, 29, 30, 31, 32, 33, 34, 35, 40, 41, 42, 43, 44, 45, 46, 47, 48, 49, 50, 51, 52, 53] (by decide +kernel) (by decide +kernel)
set_option maxRecDepth 20000 in
theorem gX5_count_X5_counted : GoodIn wsX5_count (wsV RX5 206 RX5 yX5_counted wsX5_counted) := goodIn_app (goodIn_of _ (by decide +kernel)) ggX5_count_X5_counted
set_option maxRecDepth 20000 in
theorem ggX5_count_X5_fails : GoodIn wsX5_count wsX5_fails := goodIn_r _ [39, 1, 40, 41, 42, 43, 44, 45, 46, 47, 48, 49, 50, 51, 52, 53] (by decide +kernel) (by decide +kernel)
set_option maxRecDepth 20000 in
theorem gX5_count_X5_fails : GoodIn wsX5_count (wsV RX5 43 RX5 yX5_fails wsX5_fails) := goodIn_app (goodIn_of _ (by decide +kernel)) ggX5_count_X5_fails
theorem dX5_count_0 : decode cX5_count 0 = .ok (.aload_n 0, 1) := by decide +kernel
theorem dX5_count_1 : decode cX5_count 1 = .ok (.iconst 0, 1) := by decide +kernel
theorem dX5_count_2 : decode cX5_count 2 = .ok (.putfield 28, 3) := by decide +kernel
theorem dX5_count_5 : decode cX5_count 5 = .ok (.iload_n 1, 1) := by decide +kernel
theorem dX5_count_6 : decode cX5_count 6 = .ok (.iconst 0, 1) := by decide +kernel
theorem dX5_count_7 : decode cX5_count 7 = .ok (.bipush 15, 2) := by decide +kernel
theorem dX5_count_9 : decode cX5_count 9 = .ok (.invokestatic 32, 3) := by decide +kernel
theorem dX5_count_12 : decode cX5_count 12 = .ok (.ifCond .eq 11, 3) := by decide +kernel
theorem dX5_count_15 : decode cX5_count 15 = .ok (.aload_n 0, 1) := by decide +kernel
theorem dX5_count_16 : decode cX5_count 16 = .ok (.iload_n 1, 1) := by decide +kernel
theorem dX5_count_17 : decode cX5_count 17 = .ok (.invokevirtual 206, 3) := by decide +kernel
theorem dX5_count_20 : decode cX5_count 20 = .ok (.goto 8, 3) := by decide +kernel
theorem dX5_count_23 : decode cX5_count 23 = .ok (.aload_n 0, 1) := by decide +kernel
theorem dX5_count_24 : decode cX5_count 24 = .ok (.iconst 1, 1) := by decide +kernel
theorem dX5_count_25 : decode cX5_count 25 = .ok (.invokevirtual 43, 3) := by decide +kernel
theorem dX5_count_28 : decode cX5_count 28 = .ok (.ireturn, 1) := by decide +kernel
set_option maxRecDepth 20000 in
theorem ggX5_setting_X5_in : GoodIn wsX5_setting wsX5_in := goodIn_r _ [6] (by decide +kernel) (by decide +kernel)
set_option maxRecDepth 20000 in
theorem gX5_setting_X5_in : GoodIn wsX5_setting (va_wsS RX5 32 yX5_in wsX5_in) := goodIn_app (goodIn_of _ (by decide +kernel)) ggX5_setting_X5_in
set_option maxRecDepth 20000 in
theorem ggX5_setting_X5_fails : GoodIn wsX5_setting wsX5_fails := goodIn_r _ [10, 1, 11, 12, 13, 14, 15, 16, 17, 18, 19, 20, 21, 22, 23, 24] (by decide +kernel) (by decide +kernel)
set_option maxRecDepth 20000 in
theorem gX5_setting_X5_fails : GoodIn wsX5_setting (wsV RX5 43 RX5 yX5_fails wsX5_fails) := goodIn_app (goodIn_of _ (by decide +kernel)) ggX5_setting_X5_fails
theorem dX5_setting_0 : decode cX5_setting 0 = .ok (.aload_n 0, 1) := by decide +kernel
theorem dX5_setting_1 : decode cX5_setting 1 = .ok (.iconst 0, 1) := by decide +kernel
theorem dX5_setting_2 : decode cX5_setting 2 = .ok (.putfield 28, 3) := by decide +kernel
theorem dX5_setting_5 : decode cX5_setting 5 = .ok (.iload_n 1, 1) := by decide +kernel
theorem dX5_setting_6 : decode cX5_setting 6 = .ok (.iconst 0, 1) := by decide +kernel
theorem dX5_setting_7 : decode cX5_setting 7 = .ok (.iconst 3, 1) := by decide +kernel
theorem dX5_setting_8 : decode cX5_setting 8 = .ok (.invokestatic 32, 3) := by decide +kernel
theorem dX5_setting_11 : decode cX5_setting 11 = .ok (.ifCond .eq 14, 3) := by decide +kernel
theorem dX5_setting_14 : decode cX5_setting 14 = .ok (.aload_n 0, 1) := by decide +kernel
theorem dX5_setting_15 : decode cX5_setting 15 = .ok (.getfield 7, 3) := by decide +kernel
theorem dX5_setting_18 : decode cX5_setting 18 = .ok (.iconst 4, 1) := by decide +kernel
theorem dX5_setting_19 : decode cX5_setting 19 = .ok (.iload_n 1, 1) := by decide +kernel
theorem dX5_setting_20 : decode cX5_setting 20 = .ok (.iadd, 1) := by decide +kernel
theorem dX5_setting_21 : decode cX5_setting 21 = .ok (.iaload, 1) := by decide +kernel
theorem dX5_setting_22 : decode cX5_setting 22 = .ok (.goto 8, 3) := by decide +kernel
theorem dX5_setting_25 : decode cX5_setting 25 = .ok (.aload_n 0, 1) := by decide +kernel
theorem dX5_setting_26 : decode cX5_setting 26 = .ok (.iconst 1, 1) := by decide +kernel
theorem dX5_setting_27 : decode cX5_setting 27 = .ok (.invokevirtual 43, 3) := by decide +kernel
theorem dX5_setting_30 : decode cX5_setting 30 = .ok (.ireturn, 1) := by decide +kernel
set_option maxRecDepth 20000 in
theorem ggX5_endsWith_X5_ends : GoodIn wsX5_endsWith wsX5_ends := goodIn_r _ [6, 7, 8, 9, 10, 5, 11, 12, 13, 14, 15, 16, 17, 18, 19, 20, 21, 22, 23, 24, 25, 26, 27, 28, 29, 30, 31, 32, 33, 34, 35, 36, 37, 38, 39, 40, 41, 42, 43, 44, 45, 46, 47, 48, 49, 50, 51, 52, 53, 54, 55, 56] (by decide +kernel) (by decide +kernel)
set_option maxRecDepth 20000 in
theorem gX5_endsWith_X5_ends : GoodIn wsX5_endsWith (wsV RX5 109 RX5 yX5_ends wsX5_ends) := goodIn_app (goodIn_of _ (by decide +kernel)) ggX5_endsWith_X5_ends
theorem dX5_endsWith_0 : decode cX5_endsWith 0 = .ok (.iconst 0, 1) := by decide +kernel
theorem dX5_endsWith_1 : decode cX5_endsWith 1 = .ok (.istore_n 2, 1) := by decide +kernel
theorem dX5_endsWith_2 : decode cX5_endsWith 2 = .ok (.iload_n 2, 1) := by decide +kernel
theorem dX5_endsWith_3 : decode cX5_endsWith 3 = .ok (.bipush 8, 2) := by decide +kernel
theorem dX5_endsWith_5 : decode cX5_endsWith 5 = .ok (.if_icmp .ge 29, 3) := by decide +kernel
theorem dX5_endsWith_8 : decode cX5_endsWith 8 = .ok (.aload_n 0, 1) := by decide +kernel
theorem dX5_endsWith_9 : decode cX5_endsWith 9 = .ok (.getfield 13, 3) := by decide +kernel
theorem dX5_endsWith_12 : decode cX5_endsWith 12 = .ok (.bipush 13, 2) := by decide +kernel
theorem dX5_endsWith_14 : decode cX5_endsWith 14 = .ok (.bipush 14, 2) := by decide +kernel
theorem dX5_endsWith_16 : decode cX5_endsWith 16 = .ok (.iload_n 2, 1) := by decide +kernel
theorem dX5_endsWith_17 : decode cX5_endsWith 17 = .ok (.imul, 1) := by decide +kernel
theorem dX5_endsWith_18 : decode cX5_endsWith 18 = .ok (.iadd, 1) := by decide +kernel
theorem dX5_endsWith_19 : decode cX5_endsWith 19 = .ok (.bipush 7, 2) := by decide +kernel
theorem dX5_endsWith_21 : decode cX5_endsWith 21 = .ok (.iadd, 1) := by decide +kernel
theorem dX5_endsWith_22 : decode cX5_endsWith 22 = .ok (.iload_n 1, 1) := by decide +kernel
theorem dX5_endsWith_23 : decode cX5_endsWith 23 = .ok (.iload_n 2, 1) := by decide +kernel
theorem dX5_endsWith_24 : decode cX5_endsWith 24 = .ok (.ishr, 1) := by decide +kernel
theorem dX5_endsWith_25 : decode cX5_endsWith 25 = .ok (.iconst 1, 1) := by decide +kernel
theorem dX5_endsWith_26 : decode cX5_endsWith 26 = .ok (.iand, 1) := by decide +kernel
theorem dX5_endsWith_27 : decode cX5_endsWith 27 = .ok (.iastore, 1) := by decide +kernel
theorem dX5_endsWith_28 : decode cX5_endsWith 28 = .ok (.iinc 2 1, 3) := by decide +kernel
theorem dX5_endsWith_31 : decode cX5_endsWith 31 = .ok (.goto (-29), 3) := by decide +kernel
theorem dX5_endsWith_34 : decode cX5_endsWith 34 = .ok (.aload_n 0, 1) := by decide +kernel
theorem dX5_endsWith_35 : decode cX5_endsWith 35 = .ok (.aload_n 0, 1) := by decide +kernel
theorem dX5_endsWith_36 : decode cX5_endsWith 36 = .ok (.getfield 13, 3) := by decide +kernel
theorem dX5_endsWith_39 : decode cX5_endsWith 39 = .ok (.invokevirtual 109, 3) := by decide +kernel
theorem dX5_endsWith_42 : decode cX5_endsWith 42 = .ok (.ireturn, 1) := by decide +kernel
theorem dX5_shared_0 : decode cX5_shared 0 = .ok (.iconst 0, 1) := by decide +kernel
theorem dX5_shared_1 : decode cX5_shared 1 = .ok (.istore_n 2, 1) := by decide +kernel
theorem dX5_shared_2 : decode cX5_shared 2 = .ok (.iconst 0, 1) := by decide +kernel
theorem dX5_shared_3 : decode cX5_shared 3 = .ok (.istore_n 3, 1) := by decide +kernel
theorem dX5_shared_4 : decode cX5_shared 4 = .ok (.iconst 0, 1) := by decide +kernel
theorem dX5_shared_5 : decode cX5_shared 5 = .ok (.istore 4, 2) := by decide +kernel
theorem dX5_shared_7 : decode cX5_shared 7 = .ok (.iload 4, 2) := by decide +kernel
theorem dX5_shared_9 : decode cX5_shared 9 = .ok (.bipush 8, 2) := by decide +kernel
theorem dX5_shared_11 : decode cX5_shared 11 = .ok (.if_icmp .ge 42, 3) := by decide +kernel
theorem dX5_shared_14 : decode cX5_shared 14 = .ok (.iload_n 2, 1) := by decide +kernel
theorem dX5_shared_15 : decode cX5_shared 15 = .ok (.aload_n 0, 1) := by decide +kernel
theorem dX5_shared_16 : decode cX5_shared 16 = .ok (.getfield 25, 3) := by decide +kernel
theorem dX5_shared_19 : decode cX5_shared 19 = .ok (.iload 4, 2) := by decide +kernel
theorem dX5_shared_21 : decode cX5_shared 21 = .ok (.iaload, 1) := by decide +kernel
theorem dX5_shared_22 : decode cX5_shared 22 = .ok (.iadd, 1) := by decide +kernel
theorem dX5_shared_23 : decode cX5_shared 23 = .ok (.istore_n 2, 1) := by decide +kernel
theorem dX5_shared_24 : decode cX5_shared 24 = .ok (.aload_n 0, 1) := by decide +kernel
theorem dX5_shared_25 : decode cX5_shared 25 = .ok (.getfield 25, 3) := by decide +kernel
theorem dX5_shared_28 : decode cX5_shared 28 = .ok (.iload 4, 2) := by decide +kernel
theorem dX5_shared_30 : decode cX5_shared 30 = .ok (.iaload, 1) := by decide +kernel
theorem dX5_shared_31 : decode cX5_shared 31 = .ok (.iload_n 3, 1) := by decide +kernel
theorem dX5_shared_32 : decode cX5_shared 32 = .ok (.if_icmp .le 13, 3) := by decide +kernel
theorem dX5_shared_35 : decode cX5_shared 35 = .ok (.aload_n 0, 1) := by decide +kernel
theorem dX5_shared_36 : decode cX5_shared 36 = .ok (.getfield 25, 3) := by decide +kernel
theorem dX5_shared_39 : decode cX5_shared 39 = .ok (.iload 4, 2) := by decide +kernel
theorem dX5_shared_41 : decode cX5_shared 41 = .ok (.iaload, 1) := by decide +kernel
theorem dX5_shared_42 : decode cX5_shared 42 = .ok (.goto 4, 3) := by decide +kernel
theorem dX5_shared_45 : decode cX5_shared 45 = .ok (.iload_n 3, 1) := by decide +kernel
theorem dX5_shared_46 : decode cX5_shared 46 = .ok (.istore_n 3, 1) := by decide +kernel
theorem dX5_shared_47 : decode cX5_shared 47 = .ok (.iinc 4 1, 3) := by decide +kernel
theorem dX5_shared_50 : decode cX5_shared 50 = .ok (.goto (-43), 3) := by decide +kernel
theorem dX5_shared_53 : decode cX5_shared 53 = .ok (.iload_n 1, 1) := by decide +kernel
theorem dX5_shared_54 : decode cX5_shared 54 = .ok (.ifCond .eq 7, 3) := by decide +kernel
theorem dX5_shared_57 : decode cX5_shared 57 = .ok (.iload_n 3, 1) := by decide +kernel
theorem dX5_shared_58 : decode cX5_shared 58 = .ok (.goto 4, 3) := by decide +kernel
theorem dX5_shared_61 : decode cX5_shared 61 = .ok (.iload_n 2, 1) := by decide +kernel
theorem dX5_shared_62 : decode cX5_shared 62 = .ok (.ireturn, 1) := by decide +kernel
set_option maxRecDepth 20000 in
theorem ggX5_bringsBy_X5_tries : GoodIn wsX5_bringsBy wsX5_tries := goodIn_r _ [6, 1, 7, 59, 60, 61, 62, 63, 64, 65, 66, 67, 68, 69, 70, 71, 72] (by decide +kernel) (by decide +kernel)
set_option maxRecDepth 20000 in
theorem gX5_bringsBy_X5_tries : GoodIn wsX5_bringsBy (wsV RX5 209 RX5 yX5_tries wsX5_tries) := goodIn_app (goodIn_of _ (by decide +kernel)) ggX5_bringsBy_X5_tries
set_option maxRecDepth 20000 in
theorem ggX5_bringsBy_X5_endsWith : GoodIn wsX5_bringsBy wsX5_endsWith := goodIn_r _ [11, 1, 12, 13, 14, 5, 15, 16, 17, 18, 19, 20, 21, 22, 23, 24, 25, 26, 27, 28, 29, 30, 31, 32, 33, 34, 35, 36, 37, 38, 39, 40, 41, 42, 43, 44, 45, 46, 47, 48, 49, 50, 51, 59, 60, 61, 62, 63, 64, 65, 66, 67, 68, 69, 70, 71, 72] (by decide +kernel) (by decide +kernel)
set_option maxRecDepth 20000 in
theorem gX5_bringsBy_X5_endsWith : GoodIn wsX5_bringsBy (wsV RX5 212 RX5 yX5_endsWith wsX5_endsWith) := goodIn_app (goodIn_of _ (by decide +kernel)) ggX5_bringsBy_X5_endsWith
set_option maxRecDepth 20000 in
theorem ggX5_bringsBy_X5_of : GoodIn wsX5_bringsBy wsX5_of := goodIn_r _ [20] (by decide +kernel) (by decide +kernel)
set_option maxRecDepth 20000 in
theorem gX5_bringsBy_X5_of : GoodIn wsX5_bringsBy (va_wsS RX5 36 yX5_of wsX5_of) := goodIn_app (goodIn_of _ (by decide +kernel)) ggX5_bringsBy_X5_of
set_option maxRecDepth 20000 in
theorem ggX5_bringsBy_X5_among : GoodIn wsX5_bringsBy wsX5_among := goodIn_r _ [54, 46, 47, 5, 48, 49, 50, 51] (by decide +kernel) (by decide +kernel)
set_option maxRecDepth 20000 in
theorem gX5_bringsBy_X5_among : GoodIn wsX5_bringsBy (va_wsS RX5 203 yX5_among wsX5_among) := goodIn_app (goodIn_of _ (by decide +kernel)) ggX5_bringsBy_X5_among
set_option maxRecDepth 20000 in
theorem ggX5_bringsBy_X5_shared : GoodIn wsX5_bringsBy wsX5_shared := goodIn_r _ [58, 17, 59, 60, 61, 62, 63, 64, 65, 66, 67, 68, 69, 70, 71, 72] (by decide +kernel) (by decide +kernel)
set_option maxRecDepth 20000 in
theorem gX5_bringsBy_X5_shared : GoodIn wsX5_bringsBy (wsV RX5 215 RX5 yX5_shared wsX5_shared) := goodIn_app (goodIn_of _ (by decide +kernel)) ggX5_bringsBy_X5_shared
theorem dX5_bringsBy_0 : decode cX5_bringsBy 0 = .ok (.aload_n 0, 1) := by decide +kernel
theorem dX5_bringsBy_1 : decode cX5_bringsBy 1 = .ok (.invokevirtual 209, 3) := by decide +kernel
theorem dX5_bringsBy_4 : decode cX5_bringsBy 4 = .ok (.aload_n 0, 1) := by decide +kernel
theorem dX5_bringsBy_5 : decode cX5_bringsBy 5 = .ok (.iload_n 1, 1) := by decide +kernel
theorem dX5_bringsBy_6 : decode cX5_bringsBy 6 = .ok (.invokevirtual 212, 3) := by decide +kernel
theorem dX5_bringsBy_9 : decode cX5_bringsBy 9 = .ok (.istore_n 3, 1) := by decide +kernel
theorem dX5_bringsBy_10 : decode cX5_bringsBy 10 = .ok (.iload_n 2, 1) := by decide +kernel
theorem dX5_bringsBy_11 : decode cX5_bringsBy 11 = .ok (.iconst 2, 1) := by decide +kernel
theorem dX5_bringsBy_12 : decode cX5_bringsBy 12 = .ok (.if_icmp .ge 19, 3) := by decide +kernel
theorem dX5_bringsBy_15 : decode cX5_bringsBy 15 = .ok (.iload_n 2, 1) := by decide +kernel
theorem dX5_bringsBy_16 : decode cX5_bringsBy 16 = .ok (.ifCond .ne 7, 3) := by decide +kernel
theorem dX5_bringsBy_19 : decode cX5_bringsBy 19 = .ok (.iload_n 3, 1) := by decide +kernel
theorem dX5_bringsBy_20 : decode cX5_bringsBy 20 = .ok (.goto 10, 3) := by decide +kernel
theorem dX5_bringsBy_23 : decode cX5_bringsBy 23 = .ok (.aload_n 0, 1) := by decide +kernel
theorem dX5_bringsBy_24 : decode cX5_bringsBy 24 = .ok (.getfield 13, 3) := by decide +kernel
theorem dX5_bringsBy_27 : decode cX5_bringsBy 27 = .ok (.bipush 8, 2) := by decide +kernel
theorem dX5_bringsBy_29 : decode cX5_bringsBy 29 = .ok (.iaload, 1) := by decide +kernel
theorem dX5_bringsBy_30 : decode cX5_bringsBy 30 = .ok (.ireturn, 1) := by decide +kernel
theorem dX5_bringsBy_31 : decode cX5_bringsBy 31 = .ok (.iconst 0, 1) := by decide +kernel
theorem dX5_bringsBy_32 : decode cX5_bringsBy 32 = .ok (.istore 4, 2) := by decide +kernel
theorem dX5_bringsBy_34 : decode cX5_bringsBy 34 = .ok (.iconst 0, 1) := by decide +kernel
theorem dX5_bringsBy_35 : decode cX5_bringsBy 35 = .ok (.istore 5, 2) := by decide +kernel
theorem dX5_bringsBy_37 : decode cX5_bringsBy 37 = .ok (.iload 5, 2) := by decide +kernel
theorem dX5_bringsBy_39 : decode cX5_bringsBy 39 = .ok (.bipush 8, 2) := by decide +kernel
theorem dX5_bringsBy_41 : decode cX5_bringsBy 41 = .ok (.if_icmp .ge 25, 3) := by decide +kernel
theorem dX5_bringsBy_44 : decode cX5_bringsBy 44 = .ok (.iload 4, 2) := by decide +kernel
theorem dX5_bringsBy_46 : decode cX5_bringsBy 46 = .ok (.aload_n 0, 1) := by decide +kernel
theorem dX5_bringsBy_47 : decode cX5_bringsBy 47 = .ok (.getfield 13, 3) := by decide +kernel
theorem dX5_bringsBy_50 : decode cX5_bringsBy 50 = .ok (.iload 5, 2) := by decide +kernel
theorem dX5_bringsBy_52 : decode cX5_bringsBy 52 = .ok (.bipush 10, 2) := by decide +kernel
theorem dX5_bringsBy_54 : decode cX5_bringsBy 54 = .ok (.invokestatic 36, 3) := by decide +kernel
theorem dX5_bringsBy_57 : decode cX5_bringsBy 57 = .ok (.iadd, 1) := by decide +kernel
theorem dX5_bringsBy_58 : decode cX5_bringsBy 58 = .ok (.istore 4, 2) := by decide +kernel
theorem dX5_bringsBy_60 : decode cX5_bringsBy 60 = .ok (.iinc 5 1, 3) := by decide +kernel
theorem dX5_bringsBy_63 : decode cX5_bringsBy 63 = .ok (.goto (-26), 3) := by decide +kernel
theorem dX5_bringsBy_66 : decode cX5_bringsBy 66 = .ok (.iload_n 2, 1) := by decide +kernel
theorem dX5_bringsBy_67 : decode cX5_bringsBy 67 = .ok (.iconst 2, 1) := by decide +kernel
theorem dX5_bringsBy_68 : decode cX5_bringsBy 68 = .ok (.if_icmp .ne 8, 3) := by decide +kernel
theorem dX5_bringsBy_71 : decode cX5_bringsBy 71 = .ok (.iload 4, 2) := by decide +kernel
theorem dX5_bringsBy_73 : decode cX5_bringsBy 73 = .ok (.goto 23, 3) := by decide +kernel
theorem dX5_bringsBy_76 : decode cX5_bringsBy 76 = .ok (.iload_n 2, 1) := by decide +kernel
theorem dX5_bringsBy_77 : decode cX5_bringsBy 77 = .ok (.iconst 3, 1) := by decide +kernel
theorem dX5_bringsBy_78 : decode cX5_bringsBy 78 = .ok (.if_icmp .ne 13, 3) := by decide +kernel
theorem dX5_bringsBy_81 : decode cX5_bringsBy 81 = .ok (.aload_n 0, 1) := by decide +kernel
theorem dX5_bringsBy_82 : decode cX5_bringsBy 82 = .ok (.getfield 13, 3) := by decide +kernel
theorem dX5_bringsBy_85 : decode cX5_bringsBy 85 = .ok (.invokestatic 203, 3) := by decide +kernel
theorem dX5_bringsBy_88 : decode cX5_bringsBy 88 = .ok (.goto 8, 3) := by decide +kernel
theorem dX5_bringsBy_91 : decode cX5_bringsBy 91 = .ok (.aload_n 0, 1) := by decide +kernel
theorem dX5_bringsBy_92 : decode cX5_bringsBy 92 = .ok (.iconst 1, 1) := by decide +kernel
theorem dX5_bringsBy_93 : decode cX5_bringsBy 93 = .ok (.invokevirtual 215, 3) := by decide +kernel
theorem dX5_bringsBy_96 : decode cX5_bringsBy 96 = .ok (.ireturn, 1) := by decide +kernel
set_option maxRecDepth 20000 in
theorem ggX5_ifAbsent_X5_in : GoodIn wsX5_ifAbsent wsX5_in := goodIn_r _ [5] (by decide +kernel) (by decide +kernel)
set_option maxRecDepth 20000 in
theorem gX5_ifAbsent_X5_in : GoodIn wsX5_ifAbsent (va_wsS RX5 32 yX5_in wsX5_in) := goodIn_app (goodIn_of _ (by decide +kernel)) ggX5_ifAbsent_X5_in
set_option maxRecDepth 20000 in
theorem ggX5_ifAbsent_X5_bringsBy : GoodIn wsX5_ifAbsent wsX5_bringsBy := goodIn_r _ [9, 10, 11, 12, 13, 4, 14, 15, 16, 17, 18, 19, 20, 21, 22, 23, 24, 25, 26, 27, 28, 29, 30, 31, 32, 33, 34, 35, 36, 37, 38, 39, 40, 41, 42, 43, 44, 45, 46, 47, 48, 49, 50, 51, 52, 53, 54, 55, 56, 57, 58, 59, 60, 61, 62, 63, 64, 65, 66, 71, 72, 73, 74, 75, 76, 77, 78, 79, 80, 81, 82, 83, 84] (by decide +kernel) (by decide +kernel)
set_option maxRecDepth 20000 in
theorem gX5_ifAbsent_X5_bringsBy : GoodIn wsX5_ifAbsent (wsV RX5 219 RX5 yX5_bringsBy wsX5_bringsBy) := goodIn_app (goodIn_of _ (by decide +kernel)) ggX5_ifAbsent_X5_bringsBy
set_option maxRecDepth 20000 in
theorem ggX5_ifAbsent_X5_fails : GoodIn wsX5_ifAbsent wsX5_fails := goodIn_r _ [70, 1, 71, 72, 73, 74, 75, 76, 77, 78, 79, 80, 81, 82, 83, 84] (by decide +kernel) (by decide +kernel)
set_option maxRecDepth 20000 in
theorem gX5_ifAbsent_X5_fails : GoodIn wsX5_ifAbsent (wsV RX5 43 RX5 yX5_fails wsX5_fails) := goodIn_app (goodIn_of _ (by decide +kernel)) ggX5_ifAbsent_X5_fails
theorem dX5_ifAbsent_0 : decode cX5_ifAbsent 0 = .ok (.aload_n 0, 1) := by decide +kernel
theorem dX5_ifAbsent_1 : decode cX5_ifAbsent 1 = .ok (.iconst 0, 1) := by decide +kernel
theorem dX5_ifAbsent_2 : decode cX5_ifAbsent 2 = .ok (.putfield 28, 3) := by decide +kernel
theorem dX5_ifAbsent_5 : decode cX5_ifAbsent 5 = .ok (.iload_n 1, 1) := by decide +kernel
theorem dX5_ifAbsent_6 : decode cX5_ifAbsent 6 = .ok (.iconst 0, 1) := by decide +kernel
theorem dX5_ifAbsent_7 : decode cX5_ifAbsent 7 = .ok (.sipush 255, 3) := by decide +kernel
theorem dX5_ifAbsent_10 : decode cX5_ifAbsent 10 = .ok (.invokestatic 32, 3) := by decide +kernel
theorem dX5_ifAbsent_13 : decode cX5_ifAbsent 13 = .ok (.ifCond .eq 21, 3) := by decide +kernel
theorem dX5_ifAbsent_16 : decode cX5_ifAbsent 16 = .ok (.iload_n 2, 1) := by decide +kernel
theorem dX5_ifAbsent_17 : decode cX5_ifAbsent 17 = .ok (.iconst 0, 1) := by decide +kernel
theorem dX5_ifAbsent_18 : decode cX5_ifAbsent 18 = .ok (.iconst 4, 1) := by decide +kernel
theorem dX5_ifAbsent_19 : decode cX5_ifAbsent 19 = .ok (.invokestatic 32, 3) := by decide +kernel
theorem dX5_ifAbsent_22 : decode cX5_ifAbsent 22 = .ok (.ifCond .eq 12, 3) := by decide +kernel
theorem dX5_ifAbsent_25 : decode cX5_ifAbsent 25 = .ok (.aload_n 0, 1) := by decide +kernel
theorem dX5_ifAbsent_26 : decode cX5_ifAbsent 26 = .ok (.iload_n 1, 1) := by decide +kernel
theorem dX5_ifAbsent_27 : decode cX5_ifAbsent 27 = .ok (.iload_n 2, 1) := by decide +kernel
theorem dX5_ifAbsent_28 : decode cX5_ifAbsent 28 = .ok (.invokevirtual 219, 3) := by decide +kernel
theorem dX5_ifAbsent_31 : decode cX5_ifAbsent 31 = .ok (.goto 8, 3) := by decide +kernel
theorem dX5_ifAbsent_34 : decode cX5_ifAbsent 34 = .ok (.aload_n 0, 1) := by decide +kernel
theorem dX5_ifAbsent_35 : decode cX5_ifAbsent 35 = .ok (.iconst 1, 1) := by decide +kernel
theorem dX5_ifAbsent_36 : decode cX5_ifAbsent 36 = .ok (.invokevirtual 43, 3) := by decide +kernel
theorem dX5_ifAbsent_39 : decode cX5_ifAbsent 39 = .ok (.ireturn, 1) := by decide +kernel
set_option maxRecDepth 20000 in
theorem ggX5_lasts_X5_tries : GoodIn wsX5_lasts wsX5_tries := goodIn_r _ [6, 7, 8, 56, 57, 58, 59, 60, 61, 62, 63, 64, 65, 66, 67, 68, 69] (by decide +kernel) (by decide +kernel)
set_option maxRecDepth 20000 in
theorem gX5_lasts_X5_tries : GoodIn wsX5_lasts (wsV RX5 209 RX5 yX5_tries wsX5_tries) := goodIn_app (goodIn_of _ (by decide +kernel)) ggX5_lasts_X5_tries
set_option maxRecDepth 20000 in
theorem ggX5_lasts_X5_endsWith : GoodIn wsX5_lasts wsX5_endsWith := goodIn_r _ [12, 7, 13, 14, 15, 5, 16, 1, 17, 18, 19, 20, 21, 22, 23, 24, 25, 26, 27, 28, 29, 30, 31, 32, 33, 34, 35, 36, 37, 38, 39, 40, 41, 42, 43, 44, 45, 46, 47, 48, 49, 50, 51, 56, 57, 58, 59, 60, 61, 62, 63, 64, 65, 66, 67, 68, 69] (by decide +kernel) (by decide +kernel)
set_option maxRecDepth 20000 in
theorem gX5_lasts_X5_endsWith : GoodIn wsX5_lasts (wsV RX5 212 RX5 yX5_endsWith wsX5_endsWith) := goodIn_app (goodIn_of _ (by decide +kernel)) ggX5_lasts_X5_endsWith
set_option maxRecDepth 20000 in
theorem ggX5_lasts_X5_shared : GoodIn wsX5_lasts wsX5_shared := goodIn_r _ [55, 17, 56, 57, 58, 59, 60, 61, 62, 63, 64, 65, 66, 67, 68, 69] (by decide +kernel) (by decide +kernel)
set_option maxRecDepth 20000 in
theorem gX5_lasts_X5_shared : GoodIn wsX5_lasts (wsV RX5 215 RX5 yX5_shared wsX5_shared) := goodIn_app (goodIn_of _ (by decide +kernel)) ggX5_lasts_X5_shared
theorem dX5_lasts_0 : decode cX5_lasts 0 = .ok (.aload_n 0, 1) := by decide +kernel
theorem dX5_lasts_1 : decode cX5_lasts 1 = .ok (.invokevirtual 209, 3) := by decide +kernel
theorem dX5_lasts_4 : decode cX5_lasts 4 = .ok (.iconst 0, 1) := by decide +kernel
theorem dX5_lasts_5 : decode cX5_lasts 5 = .ok (.istore_n 2, 1) := by decide +kernel
theorem dX5_lasts_6 : decode cX5_lasts 6 = .ok (.iload_n 2, 1) := by decide +kernel
theorem dX5_lasts_7 : decode cX5_lasts 7 = .ok (.bipush 100, 2) := by decide +kernel
theorem dX5_lasts_9 : decode cX5_lasts 9 = .ok (.if_icmp .gt 34, 3) := by decide +kernel
theorem dX5_lasts_12 : decode cX5_lasts 12 = .ok (.aload_n 0, 1) := by decide +kernel
theorem dX5_lasts_13 : decode cX5_lasts 13 = .ok (.iconst 1, 1) := by decide +kernel
theorem dX5_lasts_14 : decode cX5_lasts 14 = .ok (.iload_n 1, 1) := by decide +kernel
theorem dX5_lasts_15 : decode cX5_lasts 15 = .ok (.ishl, 1) := by decide +kernel
theorem dX5_lasts_16 : decode cX5_lasts 16 = .ok (.invokevirtual 212, 3) := by decide +kernel
theorem dX5_lasts_19 : decode cX5_lasts 19 = .ok (.pop, 1) := by decide +kernel
theorem dX5_lasts_20 : decode cX5_lasts 20 = .ok (.aload_n 0, 1) := by decide +kernel
theorem dX5_lasts_21 : decode cX5_lasts 21 = .ok (.getfield 68, 3) := by decide +kernel
theorem dX5_lasts_24 : decode cX5_lasts 24 = .ok (.ifCond .ne 11, 3) := by decide +kernel
theorem dX5_lasts_27 : decode cX5_lasts 27 = .ok (.aload_n 0, 1) := by decide +kernel
theorem dX5_lasts_28 : decode cX5_lasts 28 = .ok (.iconst 0, 1) := by decide +kernel
theorem dX5_lasts_29 : decode cX5_lasts 29 = .ok (.invokevirtual 215, 3) := by decide +kernel
theorem dX5_lasts_32 : decode cX5_lasts 32 = .ok (.ifCond .le 5, 3) := by decide +kernel
theorem dX5_lasts_35 : decode cX5_lasts 35 = .ok (.iload_n 2, 1) := by decide +kernel
theorem dX5_lasts_36 : decode cX5_lasts 36 = .ok (.ireturn, 1) := by decide +kernel
theorem dX5_lasts_37 : decode cX5_lasts 37 = .ok (.iinc 2 1, 3) := by decide +kernel
theorem dX5_lasts_40 : decode cX5_lasts 40 = .ok (.goto (-34), 3) := by decide +kernel
theorem dX5_lasts_43 : decode cX5_lasts 43 = .ok (.iconst (-1), 1) := by decide +kernel
theorem dX5_lasts_44 : decode cX5_lasts 44 = .ok (.ireturn, 1) := by decide +kernel
set_option maxRecDepth 20000 in
theorem ggX5_fundLasts_X5_isMember : GoodIn wsX5_fundLasts wsX5_isMember := goodIn_r _ [6, 7, 8, 9, 5, 10, 11, 12, 13, 72, 73, 74, 75, 76, 77, 78, 79, 80, 81, 82, 83, 84, 85] (by decide +kernel) (by decide +kernel)
set_option maxRecDepth 20000 in
theorem gX5_fundLasts_X5_isMember : GoodIn wsX5_fundLasts (wsV RX5 92 RX5 yX5_isMember wsX5_isMember) := goodIn_app (goodIn_of _ (by decide +kernel)) ggX5_fundLasts_X5_isMember
set_option maxRecDepth 20000 in
theorem ggX5_fundLasts_X5_lasts : GoodIn wsX5_fundLasts wsX5_lasts := goodIn_r _ [17, 18, 19, 20, 21, 5, 22, 23, 7, 24, 25, 26, 27, 28, 29, 30, 31, 32, 11, 12, 13, 33, 34, 35, 36, 37, 38, 39, 40, 41, 42, 43, 44, 45, 46, 47, 48, 49, 50, 51, 52, 53, 54, 55, 56, 57, 58, 59, 60, 61, 62, 63, 64, 65, 66, 67, 72, 73, 74, 75, 76, 77, 78, 79, 80, 81, 82, 83, 84, 85] (by decide +kernel) (by decide +kernel)
set_option maxRecDepth 20000 in
theorem gX5_fundLasts_X5_lasts : GoodIn wsX5_fundLasts (wsV RX5 222 RX5 yX5_lasts wsX5_lasts) := goodIn_app (goodIn_of _ (by decide +kernel)) ggX5_fundLasts_X5_lasts
set_option maxRecDepth 20000 in
theorem ggX5_fundLasts_X5_fails : GoodIn wsX5_fundLasts wsX5_fails := goodIn_r _ [71, 1, 72, 73, 74, 75, 76, 77, 78, 79, 80, 81, 82, 83, 84, 85] (by decide +kernel) (by decide +kernel)
set_option maxRecDepth 20000 in
theorem gX5_fundLasts_X5_fails : GoodIn wsX5_fundLasts (wsV RX5 43 RX5 yX5_fails wsX5_fails) := goodIn_app (goodIn_of _ (by decide +kernel)) ggX5_fundLasts_X5_fails
theorem dX5_fundLasts_0 : decode cX5_fundLasts 0 = .ok (.aload_n 0, 1) := by decide +kernel
theorem dX5_fundLasts_1 : decode cX5_fundLasts 1 = .ok (.iconst 0, 1) := by decide +kernel
theorem dX5_fundLasts_2 : decode cX5_fundLasts 2 = .ok (.putfield 28, 3) := by decide +kernel
theorem dX5_fundLasts_5 : decode cX5_fundLasts 5 = .ok (.aload_n 0, 1) := by decide +kernel
theorem dX5_fundLasts_6 : decode cX5_fundLasts 6 = .ok (.iload_n 1, 1) := by decide +kernel
theorem dX5_fundLasts_7 : decode cX5_fundLasts 7 = .ok (.invokevirtual 92, 3) := by decide +kernel
theorem dX5_fundLasts_10 : decode cX5_fundLasts 10 = .ok (.ifCond .eq 11, 3) := by decide +kernel
theorem dX5_fundLasts_13 : decode cX5_fundLasts 13 = .ok (.aload_n 0, 1) := by decide +kernel
theorem dX5_fundLasts_14 : decode cX5_fundLasts 14 = .ok (.iload_n 1, 1) := by decide +kernel
theorem dX5_fundLasts_15 : decode cX5_fundLasts 15 = .ok (.invokevirtual 222, 3) := by decide +kernel
theorem dX5_fundLasts_18 : decode cX5_fundLasts 18 = .ok (.goto 8, 3) := by decide +kernel
theorem dX5_fundLasts_21 : decode cX5_fundLasts 21 = .ok (.aload_n 0, 1) := by decide +kernel
theorem dX5_fundLasts_22 : decode cX5_fundLasts 22 = .ok (.iconst 1, 1) := by decide +kernel
theorem dX5_fundLasts_23 : decode cX5_fundLasts 23 = .ok (.invokevirtual 43, 3) := by decide +kernel
theorem dX5_fundLasts_26 : decode cX5_fundLasts 26 = .ok (.ireturn, 1) := by decide +kernel
set_option maxRecDepth 20000 in
theorem ggX5_weakestOf_X5_of : GoodIn wsX5_weakestOf wsX5_of := goodIn_r _ [5] (by decide +kernel) (by decide +kernel)
set_option maxRecDepth 20000 in
theorem gX5_weakestOf_X5_of : GoodIn wsX5_weakestOf (va_wsS RX5 36 yX5_of wsX5_of) := goodIn_app (goodIn_of _ (by decide +kernel)) ggX5_weakestOf_X5_of
set_option maxRecDepth 20000 in
theorem ggX5_weakestOf_X5_tries : GoodIn wsX5_weakestOf wsX5_tries := goodIn_r _ [9, 10, 1, 56, 57, 58, 59, 60, 61, 62, 63, 64, 65, 66, 67, 68, 69] (by decide +kernel) (by decide +kernel)
set_option maxRecDepth 20000 in
theorem gX5_weakestOf_X5_tries : GoodIn wsX5_weakestOf (wsV RX5 209 RX5 yX5_tries wsX5_tries) := goodIn_app (goodIn_of _ (by decide +kernel)) ggX5_weakestOf_X5_tries
set_option maxRecDepth 20000 in
theorem ggX5_weakestOf_X5_endsWith : GoodIn wsX5_weakestOf wsX5_endsWith := goodIn_r _ [14, 10, 15, 16, 17, 4, 18, 19, 20, 2, 3, 5, 21, 22, 23, 24, 25, 26, 27, 28, 29, 30, 31, 32, 33, 34, 35, 36, 37, 38, 39, 40, 41, 42, 43, 44, 45, 46, 47, 48, 49, 50, 51, 56, 57, 58, 59, 60, 61, 62, 63, 64, 65, 66, 67, 68, 69] (by decide +kernel) (by decide +kernel)
set_option maxRecDepth 20000 in
theorem gX5_weakestOf_X5_endsWith : GoodIn wsX5_weakestOf (wsV RX5 212 RX5 yX5_endsWith wsX5_endsWith) := goodIn_app (goodIn_of _ (by decide +kernel)) ggX5_weakestOf_X5_endsWith
set_option maxRecDepth 20000 in
theorem ggX5_weakestOf_X5_shared : GoodIn wsX5_weakestOf wsX5_shared := goodIn_r _ [55, 20, 56, 57, 58, 59, 60, 61, 62, 63, 64, 65, 66, 67, 68, 69] (by decide +kernel) (by decide +kernel)
set_option maxRecDepth 20000 in
theorem gX5_weakestOf_X5_shared : GoodIn wsX5_weakestOf (wsV RX5 215 RX5 yX5_shared wsX5_shared) := goodIn_app (goodIn_of _ (by decide +kernel)) ggX5_weakestOf_X5_shared
theorem dX5_weakestOf_0 : decode cX5_weakestOf 0 = .ok (.iconst (-1), 1) := by decide +kernel
theorem dX5_weakestOf_1 : decode cX5_weakestOf 1 = .ok (.istore_n 1, 1) := by decide +kernel
theorem dX5_weakestOf_2 : decode cX5_weakestOf 2 = .ok (.iconst 0, 1) := by decide +kernel
theorem dX5_weakestOf_3 : decode cX5_weakestOf 3 = .ok (.istore_n 2, 1) := by decide +kernel
theorem dX5_weakestOf_4 : decode cX5_weakestOf 4 = .ok (.iconst 0, 1) := by decide +kernel
theorem dX5_weakestOf_5 : decode cX5_weakestOf 5 = .ok (.istore_n 3, 1) := by decide +kernel
theorem dX5_weakestOf_6 : decode cX5_weakestOf 6 = .ok (.iload_n 3, 1) := by decide +kernel
theorem dX5_weakestOf_7 : decode cX5_weakestOf 7 = .ok (.bipush 8, 2) := by decide +kernel
theorem dX5_weakestOf_9 : decode cX5_weakestOf 9 = .ok (.if_icmp .ge 66, 3) := by decide +kernel
theorem dX5_weakestOf_12 : decode cX5_weakestOf 12 = .ok (.aload_n 0, 1) := by decide +kernel
theorem dX5_weakestOf_13 : decode cX5_weakestOf 13 = .ok (.getfield 7, 3) := by decide +kernel
theorem dX5_weakestOf_16 : decode cX5_weakestOf 16 = .ok (.iload_n 3, 1) := by decide +kernel
theorem dX5_weakestOf_17 : decode cX5_weakestOf 17 = .ok (.iconst 0, 1) := by decide +kernel
theorem dX5_weakestOf_18 : decode cX5_weakestOf 18 = .ok (.invokestatic 36, 3) := by decide +kernel
theorem dX5_weakestOf_21 : decode cX5_weakestOf 21 = .ok (.iconst 1, 1) := by decide +kernel
theorem dX5_weakestOf_22 : decode cX5_weakestOf 22 = .ok (.if_icmp .ne 47, 3) := by decide +kernel
theorem dX5_weakestOf_25 : decode cX5_weakestOf 25 = .ok (.aload_n 0, 1) := by decide +kernel
theorem dX5_weakestOf_26 : decode cX5_weakestOf 26 = .ok (.invokevirtual 209, 3) := by decide +kernel
theorem dX5_weakestOf_29 : decode cX5_weakestOf 29 = .ok (.aload_n 0, 1) := by decide +kernel
theorem dX5_weakestOf_30 : decode cX5_weakestOf 30 = .ok (.iconst 1, 1) := by decide +kernel
theorem dX5_weakestOf_31 : decode cX5_weakestOf 31 = .ok (.iload_n 3, 1) := by decide +kernel
theorem dX5_weakestOf_32 : decode cX5_weakestOf 32 = .ok (.ishl, 1) := by decide +kernel
theorem dX5_weakestOf_33 : decode cX5_weakestOf 33 = .ok (.invokevirtual 212, 3) := by decide +kernel
theorem dX5_weakestOf_36 : decode cX5_weakestOf 36 = .ok (.pop, 1) := by decide +kernel
theorem dX5_weakestOf_37 : decode cX5_weakestOf 37 = .ok (.aload_n 0, 1) := by decide +kernel
theorem dX5_weakestOf_38 : decode cX5_weakestOf 38 = .ok (.iconst 0, 1) := by decide +kernel
theorem dX5_weakestOf_39 : decode cX5_weakestOf 39 = .ok (.invokevirtual 215, 3) := by decide +kernel
theorem dX5_weakestOf_42 : decode cX5_weakestOf 42 = .ok (.istore 4, 2) := by decide +kernel
theorem dX5_weakestOf_44 : decode cX5_weakestOf 44 = .ok (.iload 4, 2) := by decide +kernel
theorem dX5_weakestOf_46 : decode cX5_weakestOf 46 = .ok (.iload_n 2, 1) := by decide +kernel
theorem dX5_weakestOf_47 : decode cX5_weakestOf 47 = .ok (.if_icmp .le 7, 3) := by decide +kernel
theorem dX5_weakestOf_50 : decode cX5_weakestOf 50 = .ok (.iload_n 3, 1) := by decide +kernel
theorem dX5_weakestOf_51 : decode cX5_weakestOf 51 = .ok (.goto 4, 3) := by decide +kernel
theorem dX5_weakestOf_54 : decode cX5_weakestOf 54 = .ok (.iload_n 1, 1) := by decide +kernel
theorem dX5_weakestOf_55 : decode cX5_weakestOf 55 = .ok (.istore_n 1, 1) := by decide +kernel
theorem dX5_weakestOf_56 : decode cX5_weakestOf 56 = .ok (.iload 4, 2) := by decide +kernel
theorem dX5_weakestOf_58 : decode cX5_weakestOf 58 = .ok (.iload_n 2, 1) := by decide +kernel
theorem dX5_weakestOf_59 : decode cX5_weakestOf 59 = .ok (.if_icmp .le 8, 3) := by decide +kernel
theorem dX5_weakestOf_62 : decode cX5_weakestOf 62 = .ok (.iload 4, 2) := by decide +kernel
theorem dX5_weakestOf_64 : decode cX5_weakestOf 64 = .ok (.goto 4, 3) := by decide +kernel
theorem dX5_weakestOf_67 : decode cX5_weakestOf 67 = .ok (.iload_n 2, 1) := by decide +kernel
theorem dX5_weakestOf_68 : decode cX5_weakestOf 68 = .ok (.istore_n 2, 1) := by decide +kernel
theorem dX5_weakestOf_69 : decode cX5_weakestOf 69 = .ok (.iinc 3 1, 3) := by decide +kernel
theorem dX5_weakestOf_72 : decode cX5_weakestOf 72 = .ok (.goto (-66), 3) := by decide +kernel
theorem dX5_weakestOf_75 : decode cX5_weakestOf 75 = .ok (.iload_n 1, 1) := by decide +kernel
theorem dX5_weakestOf_76 : decode cX5_weakestOf 76 = .ok (.ireturn, 1) := by decide +kernel
set_option maxRecDepth 20000 in
theorem ggX5_weakest_X5_weakestOf : GoodIn wsX5_weakest wsX5_weakestOf := goodIn_r _ [6, 7, 8, 9, 5, 10, 11, 12, 13, 14, 15, 16, 17, 18, 19, 20, 21, 22, 23, 24, 25, 26, 27, 28, 29, 30, 31, 32, 33, 34, 35, 36, 37, 38, 39, 40, 41, 42, 43, 44, 45, 46, 47, 48, 49, 50, 51, 52, 53, 54, 55, 56, 57, 58, 59, 60, 61, 62, 63, 64, 65, 66, 67, 68, 69, 70, 71, 72, 73, 74] (by decide +kernel) (by decide +kernel)
set_option maxRecDepth 20000 in
theorem gX5_weakest_X5_weakestOf : GoodIn wsX5_weakest (wsV RX5 225 RX5 yX5_weakestOf wsX5_weakestOf) := goodIn_app (goodIn_of _ (by decide +kernel)) ggX5_weakest_X5_weakestOf
theorem dX5_weakest_0 : decode cX5_weakest 0 = .ok (.aload_n 0, 1) := by decide +kernel
theorem dX5_weakest_1 : decode cX5_weakest 1 = .ok (.iconst 0, 1) := by decide +kernel
theorem dX5_weakest_2 : decode cX5_weakest 2 = .ok (.putfield 28, 3) := by decide +kernel
theorem dX5_weakest_5 : decode cX5_weakest 5 = .ok (.aload_n 0, 1) := by decide +kernel
theorem dX5_weakest_6 : decode cX5_weakest 6 = .ok (.invokevirtual 225, 3) := by decide +kernel
theorem dX5_weakest_9 : decode cX5_weakest 9 = .ok (.ireturn, 1) := by decide +kernel
set_option maxRecDepth 20000 in
theorem ggX5_longest_X5_of : GoodIn wsX5_longest wsX5_of := goodIn_r _ [5] (by decide +kernel) (by decide +kernel)
set_option maxRecDepth 20000 in
theorem gX5_longest_X5_of : GoodIn wsX5_longest (va_wsS RX5 36 yX5_of wsX5_of) := goodIn_app (goodIn_of _ (by decide +kernel)) ggX5_longest_X5_of
theorem dX5_longest_0 : decode cX5_longest 0 = .ok (.iconst 0, 1) := by decide +kernel
theorem dX5_longest_1 : decode cX5_longest 1 = .ok (.istore_n 1, 1) := by decide +kernel
theorem dX5_longest_2 : decode cX5_longest 2 = .ok (.iconst 0, 1) := by decide +kernel
theorem dX5_longest_3 : decode cX5_longest 3 = .ok (.istore_n 2, 1) := by decide +kernel
theorem dX5_longest_4 : decode cX5_longest 4 = .ok (.iload_n 2, 1) := by decide +kernel
theorem dX5_longest_5 : decode cX5_longest 5 = .ok (.bipush 8, 2) := by decide +kernel
theorem dX5_longest_7 : decode cX5_longest 7 = .ok (.if_icmp .ge 36, 3) := by decide +kernel
theorem dX5_longest_10 : decode cX5_longest 10 = .ok (.aload_n 0, 1) := by decide +kernel
theorem dX5_longest_11 : decode cX5_longest 11 = .ok (.getfield 7, 3) := by decide +kernel
theorem dX5_longest_14 : decode cX5_longest 14 = .ok (.iload_n 2, 1) := by decide +kernel
theorem dX5_longest_15 : decode cX5_longest 15 = .ok (.iconst 4, 1) := by decide +kernel
theorem dX5_longest_16 : decode cX5_longest 16 = .ok (.invokestatic 36, 3) := by decide +kernel
theorem dX5_longest_19 : decode cX5_longest 19 = .ok (.iload_n 1, 1) := by decide +kernel
theorem dX5_longest_20 : decode cX5_longest 20 = .ok (.if_icmp .le 15, 3) := by decide +kernel
theorem dX5_longest_23 : decode cX5_longest 23 = .ok (.aload_n 0, 1) := by decide +kernel
theorem dX5_longest_24 : decode cX5_longest 24 = .ok (.getfield 7, 3) := by decide +kernel
theorem dX5_longest_27 : decode cX5_longest 27 = .ok (.iload_n 2, 1) := by decide +kernel
theorem dX5_longest_28 : decode cX5_longest 28 = .ok (.iconst 4, 1) := by decide +kernel
theorem dX5_longest_29 : decode cX5_longest 29 = .ok (.invokestatic 36, 3) := by decide +kernel
theorem dX5_longest_32 : decode cX5_longest 32 = .ok (.goto 4, 3) := by decide +kernel
theorem dX5_longest_35 : decode cX5_longest 35 = .ok (.iload_n 1, 1) := by decide +kernel
theorem dX5_longest_36 : decode cX5_longest 36 = .ok (.istore_n 1, 1) := by decide +kernel
theorem dX5_longest_37 : decode cX5_longest 37 = .ok (.iinc 2 1, 3) := by decide +kernel
theorem dX5_longest_40 : decode cX5_longest 40 = .ok (.goto (-36), 3) := by decide +kernel
theorem dX5_longest_43 : decode cX5_longest 43 = .ok (.iload_n 1, 1) := by decide +kernel
theorem dX5_longest_44 : decode cX5_longest 44 = .ok (.ireturn, 1) := by decide +kernel
set_option maxRecDepth 20000 in
theorem ggX5_weeksToGo_X5_longest : GoodIn wsX5_weeksToGo wsX5_longest := goodIn_r _ [6, 7, 8, 9, 5, 10, 11, 12, 13, 14, 15, 16, 17, 18, 19, 20, 21, 22, 23, 24] (by decide +kernel) (by decide +kernel)
set_option maxRecDepth 20000 in
theorem gX5_weeksToGo_X5_longest : GoodIn wsX5_weeksToGo (wsV RX5 228 RX5 yX5_longest wsX5_longest) := goodIn_app (goodIn_of _ (by decide +kernel)) ggX5_weeksToGo_X5_longest
theorem dX5_weeksToGo_0 : decode cX5_weeksToGo 0 = .ok (.aload_n 0, 1) := by decide +kernel
theorem dX5_weeksToGo_1 : decode cX5_weeksToGo 1 = .ok (.iconst 0, 1) := by decide +kernel
theorem dX5_weeksToGo_2 : decode cX5_weeksToGo 2 = .ok (.putfield 28, 3) := by decide +kernel
theorem dX5_weeksToGo_5 : decode cX5_weeksToGo 5 = .ok (.aload_n 0, 1) := by decide +kernel
theorem dX5_weeksToGo_6 : decode cX5_weeksToGo 6 = .ok (.invokevirtual 228, 3) := by decide +kernel
theorem dX5_weeksToGo_9 : decode cX5_weeksToGo 9 = .ok (.ireturn, 1) := by decide +kernel
set_option maxRecDepth 20000 in
theorem ggX5_ifCycle_X5_isMember : GoodIn wsX5_ifCycle wsX5_isMember := goodIn_r _ [6, 7, 8, 9, 5, 10, 11, 12, 13, 25, 26, 27, 28, 29, 30, 31, 32, 33, 34, 35, 36, 37, 38] (by decide +kernel) (by decide +kernel)
set_option maxRecDepth 20000 in
theorem gX5_ifCycle_X5_isMember : GoodIn wsX5_ifCycle (wsV RX5 92 RX5 yX5_isMember wsX5_isMember) := goodIn_app (goodIn_of _ (by decide +kernel)) ggX5_ifCycle_X5_isMember
set_option maxRecDepth 20000 in
theorem ggX5_ifCycle_X5_limitThen : GoodIn wsX5_ifCycle wsX5_limitThen := goodIn_r _ [17, 7, 11, 12, 5, 13, 18, 19, 20, 25, 26, 27, 28, 29, 30, 31, 32, 33, 34, 35, 36, 37, 38] (by decide +kernel) (by decide +kernel)
set_option maxRecDepth 20000 in
theorem gX5_ifCycle_X5_limitThen : GoodIn wsX5_ifCycle (wsV RX5 131 RX5 yX5_limitThen wsX5_limitThen) := goodIn_app (goodIn_of _ (by decide +kernel)) ggX5_ifCycle_X5_limitThen
set_option maxRecDepth 20000 in
theorem ggX5_ifCycle_X5_fails : GoodIn wsX5_ifCycle wsX5_fails := goodIn_r _ [24, 1, 25, 26, 27, 28, 29, 30, 31, 32, 33, 34, 35, 36, 37, 38] (by decide +kernel) (by decide +kernel)
set_option maxRecDepth 20000 in
theorem gX5_ifCycle_X5_fails : GoodIn wsX5_ifCycle (wsV RX5 43 RX5 yX5_fails wsX5_fails) := goodIn_app (goodIn_of _ (by decide +kernel)) ggX5_ifCycle_X5_fails
theorem dX5_ifCycle_0 : decode cX5_ifCycle 0 = .ok (.aload_n 0, 1) := by decide +kernel
theorem dX5_ifCycle_1 : decode cX5_ifCycle 1 = .ok (.iconst 0, 1) := by decide +kernel
theorem dX5_ifCycle_2 : decode cX5_ifCycle 2 = .ok (.putfield 28, 3) := by decide +kernel
theorem dX5_ifCycle_5 : decode cX5_ifCycle 5 = .ok (.aload_n 0, 1) := by decide +kernel
theorem dX5_ifCycle_6 : decode cX5_ifCycle 6 = .ok (.iload_n 1, 1) := by decide +kernel
theorem dX5_ifCycle_7 : decode cX5_ifCycle 7 = .ok (.invokevirtual 92, 3) := by decide +kernel
theorem dX5_ifCycle_10 : decode cX5_ifCycle 10 = .ok (.ifCond .eq 11, 3) := by decide +kernel
theorem dX5_ifCycle_13 : decode cX5_ifCycle 13 = .ok (.aload_n 0, 1) := by decide +kernel
theorem dX5_ifCycle_14 : decode cX5_ifCycle 14 = .ok (.iload_n 1, 1) := by decide +kernel
theorem dX5_ifCycle_15 : decode cX5_ifCycle 15 = .ok (.invokevirtual 131, 3) := by decide +kernel
theorem dX5_ifCycle_18 : decode cX5_ifCycle 18 = .ok (.goto 8, 3) := by decide +kernel
theorem dX5_ifCycle_21 : decode cX5_ifCycle 21 = .ok (.aload_n 0, 1) := by decide +kernel
theorem dX5_ifCycle_22 : decode cX5_ifCycle 22 = .ok (.iconst 1, 1) := by decide +kernel
theorem dX5_ifCycle_23 : decode cX5_ifCycle 23 = .ok (.invokevirtual 43, 3) := by decide +kernel
theorem dX5_ifCycle_26 : decode cX5_ifCycle 26 = .ok (.ireturn, 1) := by decide +kernel
theorem dX5_share_0 : decode cX5_share 0 = .ok (.aload_n 0, 1) := by decide +kernel
theorem dX5_share_1 : decode cX5_share 1 = .ok (.getfield 7, 3) := by decide +kernel
theorem dX5_share_4 : decode cX5_share 4 = .ok (.bipush 9, 2) := by decide +kernel
theorem dX5_share_6 : decode cX5_share 6 = .ok (.iaload, 1) := by decide +kernel
theorem dX5_share_7 : decode cX5_share 7 = .ok (.aload_n 0, 1) := by decide +kernel
theorem dX5_share_8 : decode cX5_share 8 = .ok (.getfield 7, 3) := by decide +kernel
theorem dX5_share_11 : decode cX5_share 11 = .ok (.bipush 10, 2) := by decide +kernel
theorem dX5_share_13 : decode cX5_share 13 = .ok (.iaload, 1) := by decide +kernel
theorem dX5_share_14 : decode cX5_share 14 = .ok (.iadd, 1) := by decide +kernel
theorem dX5_share_15 : decode cX5_share 15 = .ok (.istore_n 1, 1) := by decide +kernel
theorem dX5_share_16 : decode cX5_share 16 = .ok (.iload_n 1, 1) := by decide +kernel
theorem dX5_share_17 : decode cX5_share 17 = .ok (.ifCond .ne 7, 3) := by decide +kernel
theorem dX5_share_20 : decode cX5_share 20 = .ok (.dconst 1, 1) := by decide +kernel
theorem dX5_share_21 : decode cX5_share 21 = .ok (.goto 14, 3) := by decide +kernel
theorem dX5_share_24 : decode cX5_share 24 = .ok (.aload_n 0, 1) := by decide +kernel
theorem dX5_share_25 : decode cX5_share 25 = .ok (.getfield 7, 3) := by decide +kernel
theorem dX5_share_28 : decode cX5_share 28 = .ok (.bipush 11, 2) := by decide +kernel
theorem dX5_share_30 : decode cX5_share 30 = .ok (.iaload, 1) := by decide +kernel
theorem dX5_share_31 : decode cX5_share 31 = .ok (.i2d, 1) := by decide +kernel
theorem dX5_share_32 : decode cX5_share 32 = .ok (.iload_n 1, 1) := by decide +kernel
theorem dX5_share_33 : decode cX5_share 33 = .ok (.i2d, 1) := by decide +kernel
theorem dX5_share_34 : decode cX5_share 34 = .ok (.ddiv, 1) := by decide +kernel
theorem dX5_share_35 : decode cX5_share 35 = .ok (.dreturn, 1) := by decide +kernel
set_option maxRecDepth 20000 in
theorem ggX5_paidShare_X5_share : GoodIn wsX5_paidShare wsX5_share := goodIn_r _ [6, 7, 8, 9, 10, 11, 12, 13, 14, 15, 16, 17, 18, 19, 20, 21] (by decide +kernel) (by decide +kernel)
set_option maxRecDepth 20000 in
theorem gX5_paidShare_X5_share : GoodIn wsX5_paidShare (wsV RX5 231 RX5 yX5_share wsX5_share) := goodIn_app (goodIn_of _ (by decide +kernel)) ggX5_paidShare_X5_share
theorem dX5_paidShare_0 : decode cX5_paidShare 0 = .ok (.aload_n 0, 1) := by decide +kernel
theorem dX5_paidShare_1 : decode cX5_paidShare 1 = .ok (.iconst 0, 1) := by decide +kernel
theorem dX5_paidShare_2 : decode cX5_paidShare 2 = .ok (.putfield 28, 3) := by decide +kernel
theorem dX5_paidShare_5 : decode cX5_paidShare 5 = .ok (.aload_n 0, 1) := by decide +kernel
theorem dX5_paidShare_6 : decode cX5_paidShare 6 = .ok (.invokevirtual 231, 3) := by decide +kernel
theorem dX5_paidShare_9 : decode cX5_paidShare 9 = .ok (.dreturn, 1) := by decide +kernel
set_option maxRecDepth 20000 in
theorem ggX5_digest_X5_counted : GoodIn wsX5_digest wsX5_counted := goodIn_r _ [11, 4, 12, 13, 14, 15, 10, 16, 17, 18, 19, 20, 21, 22, 23, 24, 25, 26, 27, 28, 29, 30, 31, 32, 33, 34, 35, 36, 127, 128, 129, 130, 131, 132, 133, 134, 135, 136, 137, 138, 139, 140] (by decide +kernel) (by decide +kernel)
set_option maxRecDepth 20000 in
theorem gX5_digest_X5_counted : GoodIn wsX5_digest (wsV RX5 206 RX5 yX5_counted wsX5_counted) := goodIn_app (goodIn_of _ (by decide +kernel)) ggX5_digest_X5_counted
set_option maxRecDepth 20000 in
theorem ggX5_digest_X5_of : GoodIn wsX5_digest wsX5_of := goodIn_r _ [19] (by decide +kernel) (by decide +kernel)
set_option maxRecDepth 20000 in
theorem gX5_digest_X5_of : GoodIn wsX5_digest (va_wsS RX5 36 yX5_of wsX5_of) := goodIn_app (goodIn_of _ (by decide +kernel)) ggX5_digest_X5_of
set_option maxRecDepth 20000 in
theorem ggX5_digest_X5_ofMember : GoodIn wsX5_digest wsX5_ofMember := goodIn_r _ [40, 4, 17, 18, 10, 19, 41, 42, 43, 44, 45, 46, 27, 28, 29, 30, 31, 32, 47, 48, 49, 127, 128, 129, 130, 131, 132, 133, 134, 135, 136, 137, 138, 139, 140] (by decide +kernel) (by decide +kernel)
set_option maxRecDepth 20000 in
theorem gX5_digest_X5_ofMember : GoodIn wsX5_digest (wsV RX5 200 RX5 yX5_ofMember wsX5_ofMember) := goodIn_app (goodIn_of _ (by decide +kernel)) ggX5_digest_X5_ofMember
set_option maxRecDepth 20000 in
theorem ggX5_digest_X5_debt : GoodIn wsX5_digest wsX5_debt := goodIn_r _ [32] (by decide +kernel) (by decide +kernel)
set_option maxRecDepth 20000 in
theorem gX5_digest_X5_debt : GoodIn wsX5_digest (va_wsS RX5 47 yX5_debt wsX5_debt) := goodIn_app (goodIn_of _ (by decide +kernel)) ggX5_digest_X5_debt
set_option maxRecDepth 20000 in
theorem ggX5_digest_X5_lasts : GoodIn wsX5_digest wsX5_lasts := goodIn_r _ [53, 54, 55, 56, 57, 10, 58, 59, 4, 60, 61, 62, 63, 64, 65, 66, 67, 68, 17, 18, 19, 41, 42, 43, 44, 45, 46, 69, 70, 71, 72, 73, 74, 75, 76, 77, 78, 79, 80, 81, 82, 83, 84, 85, 86, 87, 27, 28, 29, 30, 31, 32, 88, 89, 90, 91, 127, 128, 129, 130, 131, 132, 133, 134, 135, 136, 137, 138, 139, 140] (by decide +kernel) (by decide +kernel)
set_option maxRecDepth 20000 in
theorem gX5_digest_X5_lasts : GoodIn wsX5_digest (wsV RX5 222 RX5 yX5_lasts wsX5_lasts) := goodIn_app (goodIn_of _ (by decide +kernel)) ggX5_digest_X5_lasts
set_option maxRecDepth 20000 in
theorem ggX5_digest_X5_limitThen : GoodIn wsX5_digest wsX5_limitThen := goodIn_r _ [95, 4, 17, 18, 10, 19, 96, 97, 98, 127, 128, 129, 130, 131, 132, 133, 134, 135, 136, 137, 138, 139, 140] (by decide +kernel) (by decide +kernel)
set_option maxRecDepth 20000 in
theorem gX5_digest_X5_limitThen : GoodIn wsX5_digest (wsV RX5 131 RX5 yX5_limitThen wsX5_limitThen) := goodIn_app (goodIn_of _ (by decide +kernel)) ggX5_digest_X5_limitThen
set_option maxRecDepth 20000 in
theorem ggX5_digest_X5_bringsBy : GoodIn wsX5_digest wsX5_bringsBy := goodIn_r _ [102, 59, 55, 56, 57, 10, 58, 4, 60, 61, 62, 63, 64, 65, 66, 67, 54, 68, 17, 18, 19, 41, 42, 43, 44, 45, 46, 69, 70, 71, 72, 73, 74, 75, 76, 77, 78, 79, 80, 81, 82, 83, 84, 85, 86, 87, 27, 28, 29, 30, 31, 32, 24, 25, 26, 88, 89, 90, 91, 127, 128, 129, 130, 131, 132, 133, 134, 135, 136, 137, 138, 139, 140] (by decide +kernel) (by decide +kernel)
set_option maxRecDepth 20000 in
theorem gX5_digest_X5_bringsBy : GoodIn wsX5_digest (wsV RX5 219 RX5 yX5_bringsBy wsX5_bringsBy) := goodIn_app (goodIn_of _ (by decide +kernel)) ggX5_digest_X5_bringsBy
set_option maxRecDepth 20000 in
theorem ggX5_digest_X5_weakestOf : GoodIn wsX5_digest wsX5_weakestOf := goodIn_r _ [106, 4, 17, 18, 10, 19, 55, 56, 57, 58, 59, 60, 61, 62, 63, 64, 65, 66, 67, 54, 68, 41, 42, 43, 44, 45, 46, 69, 70, 71, 72, 73, 74, 75, 76, 77, 78, 79, 80, 81, 82, 83, 84, 85, 86, 87, 27, 28, 29, 30, 31, 32, 88, 89, 90, 91, 127, 128, 129, 130, 131, 132, 133, 134, 135, 136, 137, 138, 139, 140] (by decide +kernel) (by decide +kernel)
set_option maxRecDepth 20000 in
theorem gX5_digest_X5_weakestOf : GoodIn wsX5_digest (wsV RX5 225 RX5 yX5_weakestOf wsX5_weakestOf) := goodIn_app (goodIn_of _ (by decide +kernel)) ggX5_digest_X5_weakestOf
set_option maxRecDepth 20000 in
theorem ggX5_digest_X5_longest : GoodIn wsX5_digest wsX5_longest := goodIn_r _ [110, 4, 17, 18, 10, 19, 127, 128, 129, 130, 131, 132, 133, 134, 135, 136, 137, 138, 139, 140] (by decide +kernel) (by decide +kernel)
set_option maxRecDepth 20000 in
theorem gX5_digest_X5_longest : GoodIn wsX5_digest (wsV RX5 228 RX5 yX5_longest wsX5_longest) := goodIn_app (goodIn_of _ (by decide +kernel)) ggX5_digest_X5_longest
set_option maxRecDepth 20000 in
theorem ggX5_digest_X5_share : GoodIn wsX5_digest wsX5_share := goodIn_r _ [114, 4, 127, 128, 129, 130, 131, 132, 133, 134, 135, 136, 137, 138, 139, 140] (by decide +kernel) (by decide +kernel)
set_option maxRecDepth 20000 in
theorem gX5_digest_X5_share : GoodIn wsX5_digest (wsV RX5 231 RX5 yX5_share wsX5_share) := goodIn_app (goodIn_of _ (by decide +kernel)) ggX5_digest_X5_share
set_option maxRecDepth 20000 in
theorem ggX5_digest_Jxe99ae_doubleToLongBits_ccdee : GoodIn wsX5_digest wsJxe99ae_doubleToLongBits_ccdee := goodIn_r _ [118, 119, 120, 121, 122, 123, 124, 125, 117, 126] (by decide +kernel) (by decide +kernel)
set_option maxRecDepth 20000 in
theorem gX5_digest_Jxe99ae_doubleToLongBits_ccdee : GoodIn wsX5_digest (va_wsS RX5 239 yJxe99ae_doubleToLongBits_ccdee wsJxe99ae_doubleToLongBits_ccdee) := goodIn_app (goodIn_of _ (by decide +kernel)) ggX5_digest_Jxe99ae_doubleToLongBits_ccdee
theorem dX5_digest_0 : decode cX5_digest 0 = .ok (.aload_n 0, 1) := by decide +kernel
theorem dX5_digest_1 : decode cX5_digest 1 = .ok (.iconst 0, 1) := by decide +kernel
theorem dX5_digest_2 : decode cX5_digest 2 = .ok (.putfield 28, 3) := by decide +kernel
theorem dX5_digest_5 : decode cX5_digest 5 = .ok (.ldc2_w 235, 3) := by decide +kernel
theorem dX5_digest_8 : decode cX5_digest 8 = .ok (.lstore_n 1, 1) := by decide +kernel
theorem dX5_digest_9 : decode cX5_digest 9 = .ok (.iconst 0, 1) := by decide +kernel
theorem dX5_digest_10 : decode cX5_digest 10 = .ok (.istore_n 3, 1) := by decide +kernel
theorem dX5_digest_11 : decode cX5_digest 11 = .ok (.iload_n 3, 1) := by decide +kernel
theorem dX5_digest_12 : decode cX5_digest 12 = .ok (.bipush 16, 2) := by decide +kernel
theorem dX5_digest_14 : decode cX5_digest 14 = .ok (.if_icmp .ge 22, 3) := by decide +kernel
theorem dX5_digest_17 : decode cX5_digest 17 = .ok (.ldc2_w 237, 3) := by decide +kernel
theorem dX5_digest_20 : decode cX5_digest 20 = .ok (.lload_n 1, 1) := by decide +kernel
theorem dX5_digest_21 : decode cX5_digest 21 = .ok (.lmul, 1) := by decide +kernel
theorem dX5_digest_22 : decode cX5_digest 22 = .ok (.aload_n 0, 1) := by decide +kernel
theorem dX5_digest_23 : decode cX5_digest 23 = .ok (.iload_n 3, 1) := by decide +kernel
theorem dX5_digest_24 : decode cX5_digest 24 = .ok (.invokevirtual 206, 3) := by decide +kernel
theorem dX5_digest_27 : decode cX5_digest 27 = .ok (.i2l, 1) := by decide +kernel
theorem dX5_digest_28 : decode cX5_digest 28 = .ok (.ladd, 1) := by decide +kernel
theorem dX5_digest_29 : decode cX5_digest 29 = .ok (.lstore_n 1, 1) := by decide +kernel
theorem dX5_digest_30 : decode cX5_digest 30 = .ok (.iinc 3 1, 3) := by decide +kernel
theorem dX5_digest_33 : decode cX5_digest 33 = .ok (.goto (-22), 3) := by decide +kernel
theorem dX5_digest_36 : decode cX5_digest 36 = .ok (.iconst 0, 1) := by decide +kernel
theorem dX5_digest_37 : decode cX5_digest 37 = .ok (.istore_n 3, 1) := by decide +kernel
theorem dX5_digest_38 : decode cX5_digest 38 = .ok (.iload_n 3, 1) := by decide +kernel
theorem dX5_digest_39 : decode cX5_digest 39 = .ok (.iconst 4, 1) := by decide +kernel
theorem dX5_digest_40 : decode cX5_digest 40 = .ok (.if_icmp .ge 25, 3) := by decide +kernel
theorem dX5_digest_43 : decode cX5_digest 43 = .ok (.ldc2_w 237, 3) := by decide +kernel
theorem dX5_digest_46 : decode cX5_digest 46 = .ok (.lload_n 1, 1) := by decide +kernel
theorem dX5_digest_47 : decode cX5_digest 47 = .ok (.lmul, 1) := by decide +kernel
theorem dX5_digest_48 : decode cX5_digest 48 = .ok (.aload_n 0, 1) := by decide +kernel
theorem dX5_digest_49 : decode cX5_digest 49 = .ok (.getfield 7, 3) := by decide +kernel
theorem dX5_digest_52 : decode cX5_digest 52 = .ok (.iconst 4, 1) := by decide +kernel
theorem dX5_digest_53 : decode cX5_digest 53 = .ok (.iload_n 3, 1) := by decide +kernel
theorem dX5_digest_54 : decode cX5_digest 54 = .ok (.iadd, 1) := by decide +kernel
theorem dX5_digest_55 : decode cX5_digest 55 = .ok (.iaload, 1) := by decide +kernel
theorem dX5_digest_56 : decode cX5_digest 56 = .ok (.i2l, 1) := by decide +kernel
theorem dX5_digest_57 : decode cX5_digest 57 = .ok (.ladd, 1) := by decide +kernel
theorem dX5_digest_58 : decode cX5_digest 58 = .ok (.lstore_n 1, 1) := by decide +kernel
theorem dX5_digest_59 : decode cX5_digest 59 = .ok (.iinc 3 1, 3) := by decide +kernel
theorem dX5_digest_62 : decode cX5_digest 62 = .ok (.goto (-24), 3) := by decide +kernel
theorem dX5_digest_65 : decode cX5_digest 65 = .ok (.iconst 0, 1) := by decide +kernel
theorem dX5_digest_66 : decode cX5_digest 66 = .ok (.istore_n 3, 1) := by decide +kernel
theorem dX5_digest_67 : decode cX5_digest 67 = .ok (.iload_n 3, 1) := by decide +kernel
theorem dX5_digest_68 : decode cX5_digest 68 = .ok (.bipush 8, 2) := by decide +kernel
theorem dX5_digest_70 : decode cX5_digest 70 = .ok (.if_icmp .ge 138, 3) := by decide +kernel
theorem dX5_digest_73 : decode cX5_digest 73 = .ok (.aload_n 0, 1) := by decide +kernel
theorem dX5_digest_74 : decode cX5_digest 74 = .ok (.getfield 7, 3) := by decide +kernel
theorem dX5_digest_77 : decode cX5_digest 77 = .ok (.iload_n 3, 1) := by decide +kernel
theorem dX5_digest_78 : decode cX5_digest 78 = .ok (.iconst 0, 1) := by decide +kernel
theorem dX5_digest_79 : decode cX5_digest 79 = .ok (.invokestatic 36, 3) := by decide +kernel
theorem dX5_digest_82 : decode cX5_digest 82 = .ok (.iconst 1, 1) := by decide +kernel
theorem dX5_digest_83 : decode cX5_digest 83 = .ok (.if_icmp .ne 119, 3) := by decide +kernel
theorem dX5_digest_86 : decode cX5_digest 86 = .ok (.ldc2_w 237, 3) := by decide +kernel
theorem dX5_digest_89 : decode cX5_digest 89 = .ok (.lload_n 1, 1) := by decide +kernel
theorem dX5_digest_90 : decode cX5_digest 90 = .ok (.lmul, 1) := by decide +kernel
theorem dX5_digest_91 : decode cX5_digest 91 = .ok (.iload_n 3, 1) := by decide +kernel
theorem dX5_digest_92 : decode cX5_digest 92 = .ok (.i2l, 1) := by decide +kernel
theorem dX5_digest_93 : decode cX5_digest 93 = .ok (.ladd, 1) := by decide +kernel
theorem dX5_digest_94 : decode cX5_digest 94 = .ok (.lstore_n 1, 1) := by decide +kernel
theorem dX5_digest_95 : decode cX5_digest 95 = .ok (.iconst 0, 1) := by decide +kernel
theorem dX5_digest_96 : decode cX5_digest 96 = .ok (.istore 4, 2) := by decide +kernel
theorem dX5_digest_98 : decode cX5_digest 98 = .ok (.iload 4, 2) := by decide +kernel
theorem dX5_digest_100 : decode cX5_digest 100 = .ok (.bipush 14, 2) := by decide +kernel
theorem dX5_digest_102 : decode cX5_digest 102 = .ok (.if_icmp .ge 24, 3) := by decide +kernel
theorem dX5_digest_105 : decode cX5_digest 105 = .ok (.ldc2_w 237, 3) := by decide +kernel
theorem dX5_digest_108 : decode cX5_digest 108 = .ok (.lload_n 1, 1) := by decide +kernel
theorem dX5_digest_109 : decode cX5_digest 109 = .ok (.lmul, 1) := by decide +kernel
theorem dX5_digest_110 : decode cX5_digest 110 = .ok (.aload_n 0, 1) := by decide +kernel
theorem dX5_digest_111 : decode cX5_digest 111 = .ok (.iload_n 3, 1) := by decide +kernel
theorem dX5_digest_112 : decode cX5_digest 112 = .ok (.iload 4, 2) := by decide +kernel
theorem dX5_digest_114 : decode cX5_digest 114 = .ok (.invokevirtual 200, 3) := by decide +kernel
theorem dX5_digest_117 : decode cX5_digest 117 = .ok (.i2l, 1) := by decide +kernel
theorem dX5_digest_118 : decode cX5_digest 118 = .ok (.ladd, 1) := by decide +kernel
theorem dX5_digest_119 : decode cX5_digest 119 = .ok (.lstore_n 1, 1) := by decide +kernel
theorem dX5_digest_120 : decode cX5_digest 120 = .ok (.iinc 4 1, 3) := by decide +kernel
theorem dX5_digest_123 : decode cX5_digest 123 = .ok (.goto (-25), 3) := by decide +kernel
theorem dX5_digest_126 : decode cX5_digest 126 = .ok (.iconst 0, 1) := by decide +kernel
theorem dX5_digest_127 : decode cX5_digest 127 = .ok (.istore 4, 2) := by decide +kernel
theorem dX5_digest_129 : decode cX5_digest 129 = .ok (.iload 4, 2) := by decide +kernel
theorem dX5_digest_131 : decode cX5_digest 131 = .ok (.bipush 8, 2) := by decide +kernel
theorem dX5_digest_133 : decode cX5_digest 133 = .ok (.if_icmp .ge 45, 3) := by decide +kernel
theorem dX5_digest_136 : decode cX5_digest 136 = .ok (.aload_n 0, 1) := by decide +kernel
theorem dX5_digest_137 : decode cX5_digest 137 = .ok (.getfield 7, 3) := by decide +kernel
theorem dX5_digest_140 : decode cX5_digest 140 = .ok (.iload 4, 2) := by decide +kernel
theorem dX5_digest_142 : decode cX5_digest 142 = .ok (.iconst 0, 1) := by decide +kernel
theorem dX5_digest_143 : decode cX5_digest 143 = .ok (.invokestatic 36, 3) := by decide +kernel
theorem dX5_digest_146 : decode cX5_digest 146 = .ok (.iconst 1, 1) := by decide +kernel
theorem dX5_digest_147 : decode cX5_digest 147 = .ok (.if_icmp .ne 23, 3) := by decide +kernel
theorem dX5_digest_150 : decode cX5_digest 150 = .ok (.ldc2_w 237, 3) := by decide +kernel
theorem dX5_digest_153 : decode cX5_digest 153 = .ok (.lload_n 1, 1) := by decide +kernel
theorem dX5_digest_154 : decode cX5_digest 154 = .ok (.lmul, 1) := by decide +kernel
theorem dX5_digest_155 : decode cX5_digest 155 = .ok (.aload_n 0, 1) := by decide +kernel
theorem dX5_digest_156 : decode cX5_digest 156 = .ok (.getfield 7, 3) := by decide +kernel
theorem dX5_digest_159 : decode cX5_digest 159 = .ok (.iload_n 3, 1) := by decide +kernel
theorem dX5_digest_160 : decode cX5_digest 160 = .ok (.iload 4, 2) := by decide +kernel
theorem dX5_digest_162 : decode cX5_digest 162 = .ok (.invokestatic 47, 3) := by decide +kernel
theorem dX5_digest_165 : decode cX5_digest 165 = .ok (.i2l, 1) := by decide +kernel
theorem dX5_digest_166 : decode cX5_digest 166 = .ok (.ladd, 1) := by decide +kernel
theorem dX5_digest_167 : decode cX5_digest 167 = .ok (.goto 4, 3) := by decide +kernel
theorem dX5_digest_170 : decode cX5_digest 170 = .ok (.lload_n 1, 1) := by decide +kernel
theorem dX5_digest_171 : decode cX5_digest 171 = .ok (.lstore_n 1, 1) := by decide +kernel
theorem dX5_digest_172 : decode cX5_digest 172 = .ok (.iinc 4 1, 3) := by decide +kernel
theorem dX5_digest_175 : decode cX5_digest 175 = .ok (.goto (-46), 3) := by decide +kernel
theorem dX5_digest_178 : decode cX5_digest 178 = .ok (.ldc2_w 237, 3) := by decide +kernel
theorem dX5_digest_181 : decode cX5_digest 181 = .ok (.ldc2_w 237, 3) := by decide +kernel
theorem dX5_digest_184 : decode cX5_digest 184 = .ok (.lload_n 1, 1) := by decide +kernel
theorem dX5_digest_185 : decode cX5_digest 185 = .ok (.lmul, 1) := by decide +kernel
theorem dX5_digest_186 : decode cX5_digest 186 = .ok (.aload_n 0, 1) := by decide +kernel
theorem dX5_digest_187 : decode cX5_digest 187 = .ok (.iload_n 3, 1) := by decide +kernel
theorem dX5_digest_188 : decode cX5_digest 188 = .ok (.invokevirtual 222, 3) := by decide +kernel
theorem dX5_digest_191 : decode cX5_digest 191 = .ok (.i2l, 1) := by decide +kernel
theorem dX5_digest_192 : decode cX5_digest 192 = .ok (.ladd, 1) := by decide +kernel
theorem dX5_digest_193 : decode cX5_digest 193 = .ok (.lmul, 1) := by decide +kernel
theorem dX5_digest_194 : decode cX5_digest 194 = .ok (.aload_n 0, 1) := by decide +kernel
theorem dX5_digest_195 : decode cX5_digest 195 = .ok (.iload_n 3, 1) := by decide +kernel
theorem dX5_digest_196 : decode cX5_digest 196 = .ok (.invokevirtual 131, 3) := by decide +kernel
theorem dX5_digest_199 : decode cX5_digest 199 = .ok (.i2l, 1) := by decide +kernel
theorem dX5_digest_200 : decode cX5_digest 200 = .ok (.ladd, 1) := by decide +kernel
theorem dX5_digest_201 : decode cX5_digest 201 = .ok (.lstore_n 1, 1) := by decide +kernel
theorem dX5_digest_202 : decode cX5_digest 202 = .ok (.iinc 3 1, 3) := by decide +kernel
theorem dX5_digest_205 : decode cX5_digest 205 = .ok (.goto (-138), 3) := by decide +kernel
theorem dX5_digest_208 : decode cX5_digest 208 = .ok (.iconst 0, 1) := by decide +kernel
theorem dX5_digest_209 : decode cX5_digest 209 = .ok (.istore_n 3, 1) := by decide +kernel
theorem dX5_digest_210 : decode cX5_digest 210 = .ok (.iload_n 3, 1) := by decide +kernel
theorem dX5_digest_211 : decode cX5_digest 211 = .ok (.iconst 3, 1) := by decide +kernel
theorem dX5_digest_212 : decode cX5_digest 212 = .ok (.if_icmp .ge 50, 3) := by decide +kernel
theorem dX5_digest_215 : decode cX5_digest 215 = .ok (.iconst 0, 1) := by decide +kernel
theorem dX5_digest_216 : decode cX5_digest 216 = .ok (.istore 4, 2) := by decide +kernel
theorem dX5_digest_218 : decode cX5_digest 218 = .ok (.iload 4, 2) := by decide +kernel
theorem dX5_digest_220 : decode cX5_digest 220 = .ok (.iconst 5, 1) := by decide +kernel
theorem dX5_digest_221 : decode cX5_digest 221 = .ok (.if_icmp .ge 35, 3) := by decide +kernel
theorem dX5_digest_224 : decode cX5_digest 224 = .ok (.ldc2_w 237, 3) := by decide +kernel
theorem dX5_digest_227 : decode cX5_digest 227 = .ok (.lload_n 1, 1) := by decide +kernel
theorem dX5_digest_228 : decode cX5_digest 228 = .ok (.lmul, 1) := by decide +kernel
theorem dX5_digest_229 : decode cX5_digest 229 = .ok (.aload_n 0, 1) := by decide +kernel
theorem dX5_digest_230 : decode cX5_digest 230 = .ok (.iload_n 3, 1) := by decide +kernel
theorem dX5_digest_231 : decode cX5_digest 231 = .ok (.iconst 2, 1) := by decide +kernel
theorem dX5_digest_232 : decode cX5_digest 232 = .ok (.if_icmp .ge 7, 3) := by decide +kernel
theorem dX5_digest_235 : decode cX5_digest 235 = .ok (.iload_n 3, 1) := by decide +kernel
theorem dX5_digest_236 : decode cX5_digest 236 = .ok (.goto 6, 3) := by decide +kernel
theorem dX5_digest_239 : decode cX5_digest 239 = .ok (.sipush 255, 3) := by decide +kernel
theorem dX5_digest_242 : decode cX5_digest 242 = .ok (.iload 4, 2) := by decide +kernel
theorem dX5_digest_244 : decode cX5_digest 244 = .ok (.invokevirtual 219, 3) := by decide +kernel
theorem dX5_digest_247 : decode cX5_digest 247 = .ok (.i2l, 1) := by decide +kernel
theorem dX5_digest_248 : decode cX5_digest 248 = .ok (.ladd, 1) := by decide +kernel
theorem dX5_digest_249 : decode cX5_digest 249 = .ok (.lstore_n 1, 1) := by decide +kernel
theorem dX5_digest_250 : decode cX5_digest 250 = .ok (.iinc 4 1, 3) := by decide +kernel
theorem dX5_digest_253 : decode cX5_digest 253 = .ok (.goto (-35), 3) := by decide +kernel
theorem dX5_digest_256 : decode cX5_digest 256 = .ok (.iinc 3 1, 3) := by decide +kernel
theorem dX5_digest_259 : decode cX5_digest 259 = .ok (.goto (-49), 3) := by decide +kernel
theorem dX5_digest_262 : decode cX5_digest 262 = .ok (.ldc2_w 237, 3) := by decide +kernel
theorem dX5_digest_265 : decode cX5_digest 265 = .ok (.ldc2_w 237, 3) := by decide +kernel
theorem dX5_digest_268 : decode cX5_digest 268 = .ok (.lload_n 1, 1) := by decide +kernel
theorem dX5_digest_269 : decode cX5_digest 269 = .ok (.lmul, 1) := by decide +kernel
theorem dX5_digest_270 : decode cX5_digest 270 = .ok (.aload_n 0, 1) := by decide +kernel
theorem dX5_digest_271 : decode cX5_digest 271 = .ok (.invokevirtual 225, 3) := by decide +kernel
theorem dX5_digest_274 : decode cX5_digest 274 = .ok (.i2l, 1) := by decide +kernel
theorem dX5_digest_275 : decode cX5_digest 275 = .ok (.ladd, 1) := by decide +kernel
theorem dX5_digest_276 : decode cX5_digest 276 = .ok (.lmul, 1) := by decide +kernel
theorem dX5_digest_277 : decode cX5_digest 277 = .ok (.aload_n 0, 1) := by decide +kernel
theorem dX5_digest_278 : decode cX5_digest 278 = .ok (.invokevirtual 228, 3) := by decide +kernel
theorem dX5_digest_281 : decode cX5_digest 281 = .ok (.i2l, 1) := by decide +kernel
theorem dX5_digest_282 : decode cX5_digest 282 = .ok (.ladd, 1) := by decide +kernel
theorem dX5_digest_283 : decode cX5_digest 283 = .ok (.lstore_n 1, 1) := by decide +kernel
theorem dX5_digest_284 : decode cX5_digest 284 = .ok (.ldc2_w 237, 3) := by decide +kernel
theorem dX5_digest_287 : decode cX5_digest 287 = .ok (.ldc2_w 237, 3) := by decide +kernel
theorem dX5_digest_290 : decode cX5_digest 290 = .ok (.lload_n 1, 1) := by decide +kernel
theorem dX5_digest_291 : decode cX5_digest 291 = .ok (.lmul, 1) := by decide +kernel
theorem dX5_digest_292 : decode cX5_digest 292 = .ok (.aload_n 0, 1) := by decide +kernel
theorem dX5_digest_293 : decode cX5_digest 293 = .ok (.invokevirtual 231, 3) := by decide +kernel
theorem dX5_digest_296 : decode cX5_digest 296 = .ok (.invokestatic 239, 3) := by decide +kernel
theorem dX5_digest_299 : decode cX5_digest 299 = .ok (.ladd, 1) := by decide +kernel
theorem dX5_digest_300 : decode cX5_digest 300 = .ok (.lmul, 1) := by decide +kernel
theorem dX5_digest_301 : decode cX5_digest 301 = .ok (.aload_n 0, 1) := by decide +kernel
theorem dX5_digest_302 : decode cX5_digest 302 = .ok (.getfield 145, 3) := by decide +kernel
theorem dX5_digest_305 : decode cX5_digest 305 = .ok (.i2l, 1) := by decide +kernel
theorem dX5_digest_306 : decode cX5_digest 306 = .ok (.ladd, 1) := by decide +kernel
theorem dX5_digest_307 : decode cX5_digest 307 = .ok (.lstore_n 1, 1) := by decide +kernel
theorem dX5_digest_308 : decode cX5_digest 308 = .ok (.iconst 0, 1) := by decide +kernel
theorem dX5_digest_309 : decode cX5_digest 309 = .ok (.istore_n 3, 1) := by decide +kernel
theorem dX5_digest_310 : decode cX5_digest 310 = .ok (.iload_n 3, 1) := by decide +kernel
theorem dX5_digest_311 : decode cX5_digest 311 = .ok (.aload_n 0, 1) := by decide +kernel
theorem dX5_digest_312 : decode cX5_digest 312 = .ok (.getfield 145, 3) := by decide +kernel
theorem dX5_digest_315 : decode cX5_digest 315 = .ok (.if_icmp .ge 23, 3) := by decide +kernel
theorem dX5_digest_318 : decode cX5_digest 318 = .ok (.ldc2_w 237, 3) := by decide +kernel
theorem dX5_digest_321 : decode cX5_digest 321 = .ok (.lload_n 1, 1) := by decide +kernel
theorem dX5_digest_322 : decode cX5_digest 322 = .ok (.lmul, 1) := by decide +kernel
theorem dX5_digest_323 : decode cX5_digest 323 = .ok (.aload_n 0, 1) := by decide +kernel
theorem dX5_digest_324 : decode cX5_digest 324 = .ok (.getfield 19, 3) := by decide +kernel
theorem dX5_digest_327 : decode cX5_digest 327 = .ok (.iload_n 3, 1) := by decide +kernel
theorem dX5_digest_328 : decode cX5_digest 328 = .ok (.iaload, 1) := by decide +kernel
theorem dX5_digest_329 : decode cX5_digest 329 = .ok (.i2l, 1) := by decide +kernel
theorem dX5_digest_330 : decode cX5_digest 330 = .ok (.ladd, 1) := by decide +kernel
theorem dX5_digest_331 : decode cX5_digest 331 = .ok (.lstore_n 1, 1) := by decide +kernel
theorem dX5_digest_332 : decode cX5_digest 332 = .ok (.iinc 3 1, 3) := by decide +kernel
theorem dX5_digest_335 : decode cX5_digest 335 = .ok (.goto (-25), 3) := by decide +kernel
theorem dX5_digest_338 : decode cX5_digest 338 = .ok (.lload_n 1, 1) := by decide +kernel
theorem dX5_digest_339 : decode cX5_digest 339 = .ok (.lreturn, 1) := by decide +kernel
theorem dJxe99ae_isNaN_b9ae7_0 : decode cJxe99ae_isNaN_b9ae7 0 = .ok (.dload_n 0, 1) := by decide +kernel
theorem dJxe99ae_isNaN_b9ae7_1 : decode cJxe99ae_isNaN_b9ae7 1 = .ok (.dload_n 0, 1) := by decide +kernel
theorem dJxe99ae_isNaN_b9ae7_2 : decode cJxe99ae_isNaN_b9ae7 2 = .ok (.dcmp .l, 1) := by decide +kernel
theorem dJxe99ae_isNaN_b9ae7_3 : decode cJxe99ae_isNaN_b9ae7 3 = .ok (.ifCond .eq 7, 3) := by decide +kernel
theorem dJxe99ae_isNaN_b9ae7_6 : decode cJxe99ae_isNaN_b9ae7 6 = .ok (.iconst 1, 1) := by decide +kernel
theorem dJxe99ae_isNaN_b9ae7_7 : decode cJxe99ae_isNaN_b9ae7 7 = .ok (.goto 4, 3) := by decide +kernel
theorem dJxe99ae_isNaN_b9ae7_10 : decode cJxe99ae_isNaN_b9ae7 10 = .ok (.iconst 0, 1) := by decide +kernel
theorem dJxe99ae_isNaN_b9ae7_11 : decode cJxe99ae_isNaN_b9ae7 11 = .ok (.ireturn, 1) := by decide +kernel
set_option maxRecDepth 20000 in
theorem ggJxe99ae_doubleToLongBits_ccdee_Jxe99ae_isNaN_b9ae7 : GoodIn wsJxe99ae_doubleToLongBits_ccdee wsJxe99ae_isNaN_b9ae7 := goodIn_r _ [9] (by decide +kernel) (by decide +kernel)
set_option maxRecDepth 20000 in
theorem gJxe99ae_doubleToLongBits_ccdee_Jxe99ae_isNaN_b9ae7 : GoodIn wsJxe99ae_doubleToLongBits_ccdee (va_wsS RJxe99ae 122 yJxe99ae_isNaN_b9ae7 wsJxe99ae_isNaN_b9ae7) := goodIn_app (goodIn_of _ (by decide +kernel)) ggJxe99ae_doubleToLongBits_ccdee_Jxe99ae_isNaN_b9ae7
theorem dJxe99ae_doubleToLongBits_ccdee_0 : decode cJxe99ae_doubleToLongBits_ccdee 0 = .ok (.dload_n 0, 1) := by decide +kernel
theorem dJxe99ae_doubleToLongBits_ccdee_1 : decode cJxe99ae_doubleToLongBits_ccdee 1 = .ok (.invokestatic 122, 3) := by decide +kernel
theorem dJxe99ae_doubleToLongBits_ccdee_4 : decode cJxe99ae_doubleToLongBits_ccdee 4 = .ok (.ifCond .ne 8, 3) := by decide +kernel
theorem dJxe99ae_doubleToLongBits_ccdee_7 : decode cJxe99ae_doubleToLongBits_ccdee 7 = .ok (.dload_n 0, 1) := by decide +kernel
theorem dJxe99ae_doubleToLongBits_ccdee_8 : decode cJxe99ae_doubleToLongBits_ccdee 8 = .ok (.invokestatic 134, 3) := by decide +kernel
theorem dJxe99ae_doubleToLongBits_ccdee_11 : decode cJxe99ae_doubleToLongBits_ccdee 11 = .ok (.lreturn, 1) := by decide +kernel
theorem dJxe99ae_doubleToLongBits_ccdee_12 : decode cJxe99ae_doubleToLongBits_ccdee 12 = .ok (.ldc2_w 137, 3) := by decide +kernel
theorem dJxe99ae_doubleToLongBits_ccdee_15 : decode cJxe99ae_doubleToLongBits_ccdee 15 = .ok (.lreturn, 1) := by decide +kernel
theorem dJ9_floorMod_7cf53_0 : decode cJ9_floorMod_7cf53 0 = .ok (.iload_n 0, 1) := by decide +kernel
theorem dJ9_floorMod_7cf53_1 : decode cJ9_floorMod_7cf53 1 = .ok (.iload_n 1, 1) := by decide +kernel
theorem dJ9_floorMod_7cf53_2 : decode cJ9_floorMod_7cf53 2 = .ok (.irem, 1) := by decide +kernel
theorem dJ9_floorMod_7cf53_3 : decode cJ9_floorMod_7cf53 3 = .ok (.istore_n 2, 1) := by decide +kernel
theorem dJ9_floorMod_7cf53_4 : decode cJ9_floorMod_7cf53 4 = .ok (.iload_n 0, 1) := by decide +kernel
theorem dJ9_floorMod_7cf53_5 : decode cJ9_floorMod_7cf53 5 = .ok (.iload_n 1, 1) := by decide +kernel
theorem dJ9_floorMod_7cf53_6 : decode cJ9_floorMod_7cf53 6 = .ok (.ixor, 1) := by decide +kernel
theorem dJ9_floorMod_7cf53_7 : decode cJ9_floorMod_7cf53 7 = .ok (.ifCond .ge 11, 3) := by decide +kernel
theorem dJ9_floorMod_7cf53_10 : decode cJ9_floorMod_7cf53 10 = .ok (.iload_n 2, 1) := by decide +kernel
theorem dJ9_floorMod_7cf53_11 : decode cJ9_floorMod_7cf53 11 = .ok (.ifCond .eq 7, 3) := by decide +kernel
theorem dJ9_floorMod_7cf53_14 : decode cJ9_floorMod_7cf53 14 = .ok (.iload_n 2, 1) := by decide +kernel
theorem dJ9_floorMod_7cf53_15 : decode cJ9_floorMod_7cf53 15 = .ok (.iload_n 1, 1) := by decide +kernel
theorem dJ9_floorMod_7cf53_16 : decode cJ9_floorMod_7cf53 16 = .ok (.iadd, 1) := by decide +kernel
theorem dJ9_floorMod_7cf53_17 : decode cJ9_floorMod_7cf53 17 = .ok (.ireturn, 1) := by decide +kernel
theorem dJ9_floorMod_7cf53_18 : decode cJ9_floorMod_7cf53 18 = .ok (.iload_n 2, 1) := by decide +kernel
theorem dJ9_floorMod_7cf53_19 : decode cJ9_floorMod_7cf53 19 = .ok (.ireturn, 1) := by decide +kernel
theorem dJ9_max_7cf53_0 : decode cJ9_max_7cf53 0 = .ok (.iload_n 0, 1) := by decide +kernel
theorem dJ9_max_7cf53_1 : decode cJ9_max_7cf53 1 = .ok (.iload_n 1, 1) := by decide +kernel
theorem dJ9_max_7cf53_2 : decode cJ9_max_7cf53 2 = .ok (.if_icmp .lt 7, 3) := by decide +kernel
theorem dJ9_max_7cf53_5 : decode cJ9_max_7cf53 5 = .ok (.iload_n 0, 1) := by decide +kernel
theorem dJ9_max_7cf53_6 : decode cJ9_max_7cf53 6 = .ok (.goto 4, 3) := by decide +kernel
theorem dJ9_max_7cf53_9 : decode cJ9_max_7cf53 9 = .ok (.iload_n 1, 1) := by decide +kernel
theorem dJ9_max_7cf53_10 : decode cJ9_max_7cf53 10 = .ok (.ireturn, 1) := by decide +kernel
theorem dJ9_min_7cf53_0 : decode cJ9_min_7cf53 0 = .ok (.iload_n 0, 1) := by decide +kernel
theorem dJ9_min_7cf53_1 : decode cJ9_min_7cf53 1 = .ok (.iload_n 1, 1) := by decide +kernel
theorem dJ9_min_7cf53_2 : decode cJ9_min_7cf53 2 = .ok (.if_icmp .gt 7, 3) := by decide +kernel
theorem dJ9_min_7cf53_5 : decode cJ9_min_7cf53 5 = .ok (.iload_n 0, 1) := by decide +kernel
theorem dJ9_min_7cf53_6 : decode cJ9_min_7cf53 6 = .ok (.goto 4, 3) := by decide +kernel
theorem dJ9_min_7cf53_9 : decode cJ9_min_7cf53 9 = .ok (.iload_n 1, 1) := by decide +kernel
theorem dJ9_min_7cf53_10 : decode cJ9_min_7cf53 10 = .ok (.ireturn, 1) := by decide +kernel
set_option maxRecDepth 20000 in
theorem ggJ0_length_8abf5_J0_coder_7d493 : GoodIn wsJ0_length_8abf5 wsJ0_coder_7d493 := goodIn_r _ [6, 7, 8] (by decide +kernel) (by decide +kernel)
set_option maxRecDepth 20000 in
theorem gJ0_length_8abf5_J0_coder_7d493 : GoodIn wsJ0_length_8abf5 (wsV RJ0 335 RJ0 yJ0_coder_7d493 wsJ0_coder_7d493) := goodIn_app (goodIn_of _ (by decide +kernel)) ggJ0_length_8abf5_J0_coder_7d493
theorem dJ0_length_8abf5_0 : decode cJ0_length_8abf5 0 = .ok (.aload_n 0, 1) := by decide +kernel
theorem dJ0_length_8abf5_1 : decode cJ0_length_8abf5 1 = .ok (.getfield 9, 3) := by decide +kernel
theorem dJ0_length_8abf5_4 : decode cJ0_length_8abf5 4 = .ok (.arraylength, 1) := by decide +kernel
theorem dJ0_length_8abf5_5 : decode cJ0_length_8abf5 5 = .ok (.aload_n 0, 1) := by decide +kernel
theorem dJ0_length_8abf5_6 : decode cJ0_length_8abf5 6 = .ok (.invokevirtual 335, 3) := by decide +kernel
theorem dJ0_length_8abf5_9 : decode cJ0_length_8abf5 9 = .ok (.ishr, 1) := by decide +kernel
theorem dJ0_length_8abf5_10 : decode cJ0_length_8abf5 10 = .ok (.ireturn, 1) := by decide +kernel
set_option maxRecDepth 20000 in
theorem ggJ0_charAt_5068e_J0_isLatin1_aae02 : GoodIn wsJ0_charAt_5068e wsJ0_isLatin1_aae02 := goodIn_r _ [6, 7, 8] (by decide +kernel) (by decide +kernel)
set_option maxRecDepth 20000 in
theorem gJ0_charAt_5068e_J0_isLatin1_aae02 : GoodIn wsJ0_charAt_5068e (wsV RJ0 492 RJ0 yJ0_isLatin1_aae02 wsJ0_isLatin1_aae02) := goodIn_app (goodIn_of _ (by decide +kernel)) ggJ0_charAt_5068e_J0_isLatin1_aae02
set_option maxRecDepth 20000 in
theorem ggJ0_charAt_5068e_J1_charAt_3b067 : GoodIn wsJ0_charAt_5068e wsJ1_charAt_3b067 := goodIn_r _ [12, 13, 14, 5, 15, 16, 17, 18, 19, 20] (by decide +kernel) (by decide +kernel)
set_option maxRecDepth 20000 in
theorem gJ0_charAt_5068e_J1_charAt_3b067 : GoodIn wsJ0_charAt_5068e (va_wsS RJ0 495 yJ1_charAt_3b067 wsJ1_charAt_3b067) := goodIn_app (goodIn_of _ (by decide +kernel)) ggJ0_charAt_5068e_J1_charAt_3b067
set_option maxRecDepth 20000 in
theorem ggJ0_charAt_5068e_J2_charAt_3b067 : GoodIn wsJ0_charAt_5068e wsJ2_charAt_3b067 := goodIn_r _ [24, 25, 26, 23, 27, 28, 29, 30, 31, 14, 5, 15, 16, 17, 18, 19, 20, 32, 33, 34, 35, 36, 37] (by decide +kernel) (by decide +kernel)
set_option maxRecDepth 20000 in
theorem gJ0_charAt_5068e_J2_charAt_3b067 : GoodIn wsJ0_charAt_5068e (va_wsS RJ0 498 yJ2_charAt_3b067 wsJ2_charAt_3b067) := goodIn_app (goodIn_of _ (by decide +kernel)) ggJ0_charAt_5068e_J2_charAt_3b067
theorem dJ0_charAt_5068e_0 : decode cJ0_charAt_5068e 0 = .ok (.aload_n 0, 1) := by decide +kernel
theorem dJ0_charAt_5068e_1 : decode cJ0_charAt_5068e 1 = .ok (.invokevirtual 492, 3) := by decide +kernel
theorem dJ0_charAt_5068e_4 : decode cJ0_charAt_5068e 4 = .ok (.ifCond .eq 12, 3) := by decide +kernel
theorem dJ0_charAt_5068e_7 : decode cJ0_charAt_5068e 7 = .ok (.aload_n 0, 1) := by decide +kernel
theorem dJ0_charAt_5068e_8 : decode cJ0_charAt_5068e 8 = .ok (.getfield 9, 3) := by decide +kernel
theorem dJ0_charAt_5068e_11 : decode cJ0_charAt_5068e 11 = .ok (.iload_n 1, 1) := by decide +kernel
theorem dJ0_charAt_5068e_12 : decode cJ0_charAt_5068e 12 = .ok (.invokestatic 495, 3) := by decide +kernel
theorem dJ0_charAt_5068e_15 : decode cJ0_charAt_5068e 15 = .ok (.ireturn, 1) := by decide +kernel
theorem dJ0_charAt_5068e_16 : decode cJ0_charAt_5068e 16 = .ok (.aload_n 0, 1) := by decide +kernel
theorem dJ0_charAt_5068e_17 : decode cJ0_charAt_5068e 17 = .ok (.getfield 9, 3) := by decide +kernel
theorem dJ0_charAt_5068e_20 : decode cJ0_charAt_5068e 20 = .ok (.iload_n 1, 1) := by decide +kernel
theorem dJ0_charAt_5068e_21 : decode cJ0_charAt_5068e 21 = .ok (.invokestatic 498, 3) := by decide +kernel
theorem dJ0_charAt_5068e_24 : decode cJ0_charAt_5068e 24 = .ok (.ireturn, 1) := by decide +kernel
theorem dJ0_coder_7d493_0 : decode cJ0_coder_7d493 0 = .ok (.getstatic 38, 3) := by decide +kernel
theorem dJ0_coder_7d493_3 : decode cJ0_coder_7d493 3 = .ok (.ifCond .eq 10, 3) := by decide +kernel
theorem dJ0_coder_7d493_6 : decode cJ0_coder_7d493 6 = .ok (.aload_n 0, 1) := by decide +kernel
theorem dJ0_coder_7d493_7 : decode cJ0_coder_7d493 7 = .ok (.getfield 15, 3) := by decide +kernel
theorem dJ0_coder_7d493_10 : decode cJ0_coder_7d493 10 = .ok (.goto 4, 3) := by decide +kernel
theorem dJ0_coder_7d493_13 : decode cJ0_coder_7d493 13 = .ok (.iconst 1, 1) := by decide +kernel
theorem dJ0_coder_7d493_14 : decode cJ0_coder_7d493 14 = .ok (.ireturn, 1) := by decide +kernel
theorem dJ0_isLatin1_aae02_0 : decode cJ0_isLatin1_aae02 0 = .ok (.getstatic 38, 3) := by decide +kernel
theorem dJ0_isLatin1_aae02_3 : decode cJ0_isLatin1_aae02 3 = .ok (.ifCond .eq 14, 3) := by decide +kernel
theorem dJ0_isLatin1_aae02_6 : decode cJ0_isLatin1_aae02 6 = .ok (.aload_n 0, 1) := by decide +kernel
theorem dJ0_isLatin1_aae02_7 : decode cJ0_isLatin1_aae02 7 = .ok (.getfield 15, 3) := by decide +kernel
theorem dJ0_isLatin1_aae02_10 : decode cJ0_isLatin1_aae02 10 = .ok (.ifCond .ne 7, 3) := by decide +kernel
theorem dJ0_isLatin1_aae02_13 : decode cJ0_isLatin1_aae02 13 = .ok (.iconst 1, 1) := by decide +kernel
theorem dJ0_isLatin1_aae02_14 : decode cJ0_isLatin1_aae02 14 = .ok (.goto 4, 3) := by decide +kernel
theorem dJ0_isLatin1_aae02_17 : decode cJ0_isLatin1_aae02 17 = .ok (.iconst 0, 1) := by decide +kernel
theorem dJ0_isLatin1_aae02_18 : decode cJ0_isLatin1_aae02 18 = .ok (.ireturn, 1) := by decide +kernel
set_option maxRecDepth 20000 in
theorem ggJ0_checkIndex_df160_J3_checkIndex_8e157 : GoodIn wsJ0_checkIndex_df160 wsJ3_checkIndex_8e157 := goodIn_r _ [5] (by decide +kernel) (by decide +kernel)
set_option maxRecDepth 20000 in
theorem gJ0_checkIndex_df160_J3_checkIndex_8e157 : GoodIn wsJ0_checkIndex_df160 (va_wsS RJ0 1059 yJ3_checkIndex_8e157 wsJ3_checkIndex_8e157) := goodIn_app (goodIn_of _ (by decide +kernel)) ggJ0_checkIndex_df160_J3_checkIndex_8e157
theorem dJ0_checkIndex_df160_0 : decode cJ0_checkIndex_df160 0 = .ok (.iload_n 0, 1) := by decide +kernel
theorem dJ0_checkIndex_df160_1 : decode cJ0_checkIndex_df160 1 = .ok (.iload_n 1, 1) := by decide +kernel
theorem dJ0_checkIndex_df160_2 : decode cJ0_checkIndex_df160 2 = .ok (.getstatic 1053, 3) := by decide +kernel
theorem dJ0_checkIndex_df160_5 : decode cJ0_checkIndex_df160 5 = .ok (.invokestatic 1059, 3) := by decide +kernel
theorem dJ0_checkIndex_df160_8 : decode cJ0_checkIndex_df160 8 = .ok (.pop, 1) := by decide +kernel
theorem dJ0_checkIndex_df160_9 : decode cJ0_checkIndex_df160 9 = .ok (.return_, 1) := by decide +kernel
set_option maxRecDepth 20000 in
theorem ggJ1_charAt_3b067_J0_checkIndex_df160 : GoodIn wsJ1_charAt_3b067 wsJ0_checkIndex_df160 := goodIn_r _ [4, 5, 6, 7, 8, 9] (by decide +kernel) (by decide +kernel)
set_option maxRecDepth 20000 in
theorem gJ1_charAt_3b067_J0_checkIndex_df160 : GoodIn wsJ1_charAt_3b067 (va_wsS RJ1 9 yJ0_checkIndex_df160 wsJ0_checkIndex_df160) := goodIn_app (goodIn_of _ (by decide +kernel)) ggJ1_charAt_3b067_J0_checkIndex_df160
theorem dJ1_charAt_3b067_0 : decode cJ1_charAt_3b067 0 = .ok (.iload_n 1, 1) := by decide +kernel
theorem dJ1_charAt_3b067_1 : decode cJ1_charAt_3b067 1 = .ok (.aload_n 0, 1) := by decide +kernel
theorem dJ1_charAt_3b067_2 : decode cJ1_charAt_3b067 2 = .ok (.arraylength, 1) := by decide +kernel
