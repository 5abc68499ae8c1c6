set_option maxRecDepth 20000 in
theorem ggX0_init_X2_init : GoodIn wsX0_init wsX2_init := goodIn_r _ [12, 13, 2, 3, 6, 14, 15, 27, 28, 29, 30, 31, 32, 33, 34, 35, 36, 37, 38, 39, 40, 41, 42] (by decide +kernel) (by decide +kernel)
set_option maxRecDepth 20000 in
theorem gX0_init_X2_init_n25 : GoodIn wsX0_init (wsX2_init) := ggX0_init_X2_init
theorem dX0_init_0 : decode cX0_init 0 = .ok (.aload_n 0, 1) := by decide +kernel
theorem dX0_init_1 : decode cX0_init 1 = .ok (.invokespecial 3, 3) := by decide +kernel
theorem dX0_init_4 : decode cX0_init 4 = .ok (.aload_n 0, 1) := by decide +kernel
theorem dX0_init_5 : decode cX0_init 5 = .ok (.bipush 8, 2) := by decide +kernel
theorem dX0_init_7 : decode cX0_init 7 = .ok (.anewarray 9, 3) := by decide +kernel
theorem dX0_init_10 : decode cX0_init 10 = .ok (.putfield 11, 3) := by decide +kernel
theorem dX0_init_13 : decode cX0_init 13 = .ok (.aload_n 0, 1) := by decide +kernel
theorem dX0_init_14 : decode cX0_init 14 = .ok (.iconst 4, 1) := by decide +kernel
theorem dX0_init_15 : decode cX0_init 15 = .ok (.newarray .int, 2) := by decide +kernel
theorem dX0_init_17 : decode cX0_init 17 = .ok (.putfield 17, 3) := by decide +kernel
theorem dX0_init_20 : decode cX0_init 20 = .ok (.aload_n 0, 1) := by decide +kernel
theorem dX0_init_21 : decode cX0_init 21 = .ok (.iconst (-1), 1) := by decide +kernel
theorem dX0_init_22 : decode cX0_init 22 = .ok (.putfield 21, 3) := by decide +kernel
theorem dX0_init_25 : decode cX0_init 25 = .ok (.iconst 0, 1) := by decide +kernel
theorem dX0_init_26 : decode cX0_init 26 = .ok (.istore_n 1, 1) := by decide +kernel
theorem dX0_init_27 : decode cX0_init 27 = .ok (.iload_n 1, 1) := by decide +kernel
theorem dX0_init_28 : decode cX0_init 28 = .ok (.bipush 8, 2) := by decide +kernel
theorem dX0_init_30 : decode cX0_init 30 = .ok (.if_icmp .ge 23, 3) := by decide +kernel
theorem dX0_init_33 : decode cX0_init 33 = .ok (.aload_n 0, 1) := by decide +kernel
theorem dX0_init_34 : decode cX0_init 34 = .ok (.getfield 11, 3) := by decide +kernel
theorem dX0_init_37 : decode cX0_init 37 = .ok (.iload_n 1, 1) := by decide +kernel
theorem dX0_init_38 : decode cX0_init 38 = .ok (.new 9, 3) := by decide +kernel
theorem dX0_init_41 : decode cX0_init 41 = .ok (.dup, 1) := by decide +kernel
theorem dX0_init_42 : decode cX0_init 42 = .ok (.iload_n 1, 1) := by decide +kernel
theorem dX0_init_43 : decode cX0_init 43 = .ok (.invokespecial 25, 3) := by decide +kernel
theorem dX0_init_46 : decode cX0_init 46 = .ok (.aastore, 1) := by decide +kernel
theorem dX0_init_47 : decode cX0_init 47 = .ok (.iinc 1 1, 3) := by decide +kernel
theorem dX0_init_50 : decode cX0_init 50 = .ok (.goto (-23), 3) := by decide +kernel
theorem dX0_init_53 : decode cX0_init 53 = .ok (.aload_n 0, 1) := by decide +kernel
theorem dX0_init_54 : decode cX0_init 54 = .ok (.getfield 17, 3) := by decide +kernel
theorem dX0_init_57 : decode cX0_init 57 = .ok (.iconst 0, 1) := by decide +kernel
theorem dX0_init_58 : decode cX0_init 58 = .ok (.iconst 5, 1) := by decide +kernel
theorem dX0_init_59 : decode cX0_init 59 = .ok (.iastore, 1) := by decide +kernel
theorem dX0_init_60 : decode cX0_init 60 = .ok (.aload_n 0, 1) := by decide +kernel
theorem dX0_init_61 : decode cX0_init 61 = .ok (.getfield 17, 3) := by decide +kernel
theorem dX0_init_64 : decode cX0_init 64 = .ok (.iconst 1, 1) := by decide +kernel
theorem dX0_init_65 : decode cX0_init 65 = .ok (.iconst 5, 1) := by decide +kernel
theorem dX0_init_66 : decode cX0_init 66 = .ok (.iastore, 1) := by decide +kernel
theorem dX0_init_67 : decode cX0_init 67 = .ok (.aload_n 0, 1) := by decide +kernel
theorem dX0_init_68 : decode cX0_init 68 = .ok (.getfield 17, 3) := by decide +kernel
theorem dX0_init_71 : decode cX0_init 71 = .ok (.iconst 2, 1) := by decide +kernel
theorem dX0_init_72 : decode cX0_init 72 = .ok (.iconst 4, 1) := by decide +kernel
theorem dX0_init_73 : decode cX0_init 73 = .ok (.iastore, 1) := by decide +kernel
theorem dX0_init_74 : decode cX0_init 74 = .ok (.aload_n 0, 1) := by decide +kernel
theorem dX0_init_75 : decode cX0_init 75 = .ok (.getfield 17, 3) := by decide +kernel
theorem dX0_init_78 : decode cX0_init 78 = .ok (.iconst 3, 1) := by decide +kernel
theorem dX0_init_79 : decode cX0_init 79 = .ok (.bipush 50, 2) := by decide +kernel
theorem dX0_init_81 : decode cX0_init 81 = .ok (.iastore, 1) := by decide +kernel
theorem dX0_init_82 : decode cX0_init 82 = .ok (.return_, 1) := by decide +kernel
set_option maxRecDepth 20000 in
theorem ggX0_copyFrom_X2_copyFrom : GoodIn wsX0_copyFrom wsX2_copyFrom := goodIn_r _ [19, 20, 21, 22, 23, 24, 25, 26, 27, 28, 29, 30, 31, 32, 33, 34, 35, 4, 5, 6, 47, 48, 49, 50, 51, 52, 53, 54, 55, 56, 57, 58, 59, 60, 61, 62] (by decide +kernel) (by decide +kernel)
set_option maxRecDepth 20000 in
theorem gX0_copyFrom_X2_copyFrom_n28 : GoodIn wsX0_copyFrom (wsX2_copyFrom) := ggX0_copyFrom_X2_copyFrom
theorem dX0_copyFrom_0 : decode cX0_copyFrom 0 = .ok (.iconst 0, 1) := by decide +kernel
theorem dX0_copyFrom_1 : decode cX0_copyFrom 1 = .ok (.istore_n 2, 1) := by decide +kernel
theorem dX0_copyFrom_2 : decode cX0_copyFrom 2 = .ok (.iload_n 2, 1) := by decide +kernel
theorem dX0_copyFrom_3 : decode cX0_copyFrom 3 = .ok (.bipush 8, 2) := by decide +kernel
theorem dX0_copyFrom_5 : decode cX0_copyFrom 5 = .ok (.if_icmp .ge 24, 3) := by decide +kernel
theorem dX0_copyFrom_8 : decode cX0_copyFrom 8 = .ok (.aload_n 0, 1) := by decide +kernel
theorem dX0_copyFrom_9 : decode cX0_copyFrom 9 = .ok (.getfield 11, 3) := by decide +kernel
theorem dX0_copyFrom_12 : decode cX0_copyFrom 12 = .ok (.iload_n 2, 1) := by decide +kernel
theorem dX0_copyFrom_13 : decode cX0_copyFrom 13 = .ok (.aaload, 1) := by decide +kernel
theorem dX0_copyFrom_14 : decode cX0_copyFrom 14 = .ok (.aload_n 1, 1) := by decide +kernel
theorem dX0_copyFrom_15 : decode cX0_copyFrom 15 = .ok (.getfield 11, 3) := by decide +kernel
theorem dX0_copyFrom_18 : decode cX0_copyFrom 18 = .ok (.iload_n 2, 1) := by decide +kernel
theorem dX0_copyFrom_19 : decode cX0_copyFrom 19 = .ok (.aaload, 1) := by decide +kernel
theorem dX0_copyFrom_20 : decode cX0_copyFrom 20 = .ok (.invokevirtual 28, 3) := by decide +kernel
theorem dX0_copyFrom_23 : decode cX0_copyFrom 23 = .ok (.iinc 2 1, 3) := by decide +kernel
theorem dX0_copyFrom_26 : decode cX0_copyFrom 26 = .ok (.goto (-24), 3) := by decide +kernel
theorem dX0_copyFrom_29 : decode cX0_copyFrom 29 = .ok (.aload_n 1, 1) := by decide +kernel
theorem dX0_copyFrom_30 : decode cX0_copyFrom 30 = .ok (.getfield 17, 3) := by decide +kernel
theorem dX0_copyFrom_33 : decode cX0_copyFrom 33 = .ok (.iconst 0, 1) := by decide +kernel
theorem dX0_copyFrom_34 : decode cX0_copyFrom 34 = .ok (.aload_n 0, 1) := by decide +kernel
theorem dX0_copyFrom_35 : decode cX0_copyFrom 35 = .ok (.getfield 17, 3) := by decide +kernel
theorem dX0_copyFrom_38 : decode cX0_copyFrom 38 = .ok (.iconst 0, 1) := by decide +kernel
theorem dX0_copyFrom_39 : decode cX0_copyFrom 39 = .ok (.iconst 4, 1) := by decide +kernel
theorem dX0_copyFrom_40 : decode cX0_copyFrom 40 = .ok (.invokestatic 32, 3) := by decide +kernel
theorem dX0_copyFrom_43 : decode cX0_copyFrom 43 = .ok (.aload_n 0, 1) := by decide +kernel
theorem dX0_copyFrom_44 : decode cX0_copyFrom 44 = .ok (.aload_n 1, 1) := by decide +kernel
theorem dX0_copyFrom_45 : decode cX0_copyFrom 45 = .ok (.getfield 38, 3) := by decide +kernel
theorem dX0_copyFrom_48 : decode cX0_copyFrom 48 = .ok (.putfield 38, 3) := by decide +kernel
theorem dX0_copyFrom_51 : decode cX0_copyFrom 51 = .ok (.aload_n 0, 1) := by decide +kernel
theorem dX0_copyFrom_52 : decode cX0_copyFrom 52 = .ok (.aload_n 1, 1) := by decide +kernel
theorem dX0_copyFrom_53 : decode cX0_copyFrom 53 = .ok (.getfield 41, 3) := by decide +kernel
theorem dX0_copyFrom_56 : decode cX0_copyFrom 56 = .ok (.putfield 41, 3) := by decide +kernel
theorem dX0_copyFrom_59 : decode cX0_copyFrom 59 = .ok (.aload_n 0, 1) := by decide +kernel
theorem dX0_copyFrom_60 : decode cX0_copyFrom 60 = .ok (.aload_n 1, 1) := by decide +kernel
theorem dX0_copyFrom_61 : decode cX0_copyFrom 61 = .ok (.getfield 44, 3) := by decide +kernel
theorem dX0_copyFrom_64 : decode cX0_copyFrom 64 = .ok (.putfield 44, 3) := by decide +kernel
theorem dX0_copyFrom_67 : decode cX0_copyFrom 67 = .ok (.aload_n 0, 1) := by decide +kernel
theorem dX0_copyFrom_68 : decode cX0_copyFrom 68 = .ok (.aload_n 1, 1) := by decide +kernel
theorem dX0_copyFrom_69 : decode cX0_copyFrom 69 = .ok (.getfield 21, 3) := by decide +kernel
theorem dX0_copyFrom_72 : decode cX0_copyFrom 72 = .ok (.putfield 21, 3) := by decide +kernel
theorem dX0_copyFrom_75 : decode cX0_copyFrom 75 = .ok (.aload_n 0, 1) := by decide +kernel
theorem dX0_copyFrom_76 : decode cX0_copyFrom 76 = .ok (.aload_n 1, 1) := by decide +kernel
theorem dX0_copyFrom_77 : decode cX0_copyFrom 77 = .ok (.getfield 47, 3) := by decide +kernel
theorem dX0_copyFrom_80 : decode cX0_copyFrom 80 = .ok (.putfield 47, 3) := by decide +kernel
theorem dX0_copyFrom_83 : decode cX0_copyFrom 83 = .ok (.aload_n 0, 1) := by decide +kernel
theorem dX0_copyFrom_84 : decode cX0_copyFrom 84 = .ok (.aload_n 1, 1) := by decide +kernel
theorem dX0_copyFrom_85 : decode cX0_copyFrom 85 = .ok (.getfield 50, 3) := by decide +kernel
theorem dX0_copyFrom_88 : decode cX0_copyFrom 88 = .ok (.putfield 50, 3) := by decide +kernel
theorem dX0_copyFrom_91 : decode cX0_copyFrom 91 = .ok (.aload_n 0, 1) := by decide +kernel
theorem dX0_copyFrom_92 : decode cX0_copyFrom 92 = .ok (.aload_n 1, 1) := by decide +kernel
theorem dX0_copyFrom_93 : decode cX0_copyFrom 93 = .ok (.getfield 53, 3) := by decide +kernel
theorem dX0_copyFrom_96 : decode cX0_copyFrom 96 = .ok (.putfield 53, 3) := by decide +kernel
theorem dX0_copyFrom_99 : decode cX0_copyFrom 99 = .ok (.aload_n 0, 1) := by decide +kernel
theorem dX0_copyFrom_100 : decode cX0_copyFrom 100 = .ok (.aload_n 1, 1) := by decide +kernel
theorem dX0_copyFrom_101 : decode cX0_copyFrom 101 = .ok (.getfield 56, 3) := by decide +kernel
theorem dX0_copyFrom_104 : decode cX0_copyFrom 104 = .ok (.putfield 56, 3) := by decide +kernel
theorem dX0_copyFrom_107 : decode cX0_copyFrom 107 = .ok (.aload_n 0, 1) := by decide +kernel
theorem dX0_copyFrom_108 : decode cX0_copyFrom 108 = .ok (.aload_n 1, 1) := by decide +kernel
theorem dX0_copyFrom_109 : decode cX0_copyFrom 109 = .ok (.getfield 59, 3) := by decide +kernel
theorem dX0_copyFrom_112 : decode cX0_copyFrom 112 = .ok (.putfield 59, 3) := by decide +kernel
theorem dX0_copyFrom_115 : decode cX0_copyFrom 115 = .ok (.return_, 1) := by decide +kernel
theorem dX0_find_0 : decode cX0_find 0 = .ok (.iload_n 1, 1) := by decide +kernel
theorem dX0_find_1 : decode cX0_find 1 = .ok (.ifCond .lt 21, 3) := by decide +kernel
theorem dX0_find_4 : decode cX0_find 4 = .ok (.iload_n 1, 1) := by decide +kernel
theorem dX0_find_5 : decode cX0_find 5 = .ok (.bipush 8, 2) := by decide +kernel
theorem dX0_find_7 : decode cX0_find 7 = .ok (.if_icmp .ge 15, 3) := by decide +kernel
theorem dX0_find_10 : decode cX0_find 10 = .ok (.aload_n 0, 1) := by decide +kernel
theorem dX0_find_11 : decode cX0_find 11 = .ok (.getfield 11, 3) := by decide +kernel
theorem dX0_find_14 : decode cX0_find 14 = .ok (.iload_n 1, 1) := by decide +kernel
theorem dX0_find_15 : decode cX0_find 15 = .ok (.aaload, 1) := by decide +kernel
theorem dX0_find_16 : decode cX0_find 16 = .ok (.getfield 62, 3) := by decide +kernel
theorem dX0_find_19 : decode cX0_find 19 = .ok (.ifCond .ne 5, 3) := by decide +kernel
theorem dX0_find_22 : decode cX0_find 22 = .ok (.aconst_null, 1) := by decide +kernel
theorem dX0_find_23 : decode cX0_find 23 = .ok (.areturn, 1) := by decide +kernel
theorem dX0_find_24 : decode cX0_find 24 = .ok (.aload_n 0, 1) := by decide +kernel
theorem dX0_find_25 : decode cX0_find 25 = .ok (.getfield 11, 3) := by decide +kernel
theorem dX0_find_28 : decode cX0_find 28 = .ok (.iload_n 1, 1) := by decide +kernel
theorem dX0_find_29 : decode cX0_find 29 = .ok (.aaload, 1) := by decide +kernel
theorem dX0_find_30 : decode cX0_find 30 = .ok (.areturn, 1) := by decide +kernel
theorem dX0_memberCount_0 : decode cX0_memberCount 0 = .ok (.iconst 0, 1) := by decide +kernel
theorem dX0_memberCount_1 : decode cX0_memberCount 1 = .ok (.istore_n 1, 1) := by decide +kernel
theorem dX0_memberCount_2 : decode cX0_memberCount 2 = .ok (.aload_n 0, 1) := by decide +kernel
theorem dX0_memberCount_3 : decode cX0_memberCount 3 = .ok (.getfield 11, 3) := by decide +kernel
theorem dX0_memberCount_6 : decode cX0_memberCount 6 = .ok (.astore_n 2, 1) := by decide +kernel
theorem dX0_memberCount_7 : decode cX0_memberCount 7 = .ok (.aload_n 2, 1) := by decide +kernel
theorem dX0_memberCount_8 : decode cX0_memberCount 8 = .ok (.arraylength, 1) := by decide +kernel
theorem dX0_memberCount_9 : decode cX0_memberCount 9 = .ok (.istore_n 3, 1) := by decide +kernel
theorem dX0_memberCount_10 : decode cX0_memberCount 10 = .ok (.iconst 0, 1) := by decide +kernel
theorem dX0_memberCount_11 : decode cX0_memberCount 11 = .ok (.istore 4, 2) := by decide +kernel
theorem dX0_memberCount_13 : decode cX0_memberCount 13 = .ok (.iload 4, 2) := by decide +kernel
theorem dX0_memberCount_15 : decode cX0_memberCount 15 = .ok (.iload_n 3, 1) := by decide +kernel
theorem dX0_memberCount_16 : decode cX0_memberCount 16 = .ok (.if_icmp .ge 31, 3) := by decide +kernel
theorem dX0_memberCount_19 : decode cX0_memberCount 19 = .ok (.aload_n 2, 1) := by decide +kernel
theorem dX0_memberCount_20 : decode cX0_memberCount 20 = .ok (.iload 4, 2) := by decide +kernel
theorem dX0_memberCount_22 : decode cX0_memberCount 22 = .ok (.aaload, 1) := by decide +kernel
theorem dX0_memberCount_23 : decode cX0_memberCount 23 = .ok (.astore 5, 2) := by decide +kernel
theorem dX0_memberCount_25 : decode cX0_memberCount 25 = .ok (.iload_n 1, 1) := by decide +kernel
theorem dX0_memberCount_26 : decode cX0_memberCount 26 = .ok (.aload 5, 2) := by decide +kernel
theorem dX0_memberCount_28 : decode cX0_memberCount 28 = .ok (.getfield 62, 3) := by decide +kernel
theorem dX0_memberCount_31 : decode cX0_memberCount 31 = .ok (.ifCond .eq 7, 3) := by decide +kernel
theorem dX0_memberCount_34 : decode cX0_memberCount 34 = .ok (.iconst 1, 1) := by decide +kernel
theorem dX0_memberCount_35 : decode cX0_memberCount 35 = .ok (.goto 4, 3) := by decide +kernel
theorem dX0_memberCount_38 : decode cX0_memberCount 38 = .ok (.iconst 0, 1) := by decide +kernel
theorem dX0_memberCount_39 : decode cX0_memberCount 39 = .ok (.iadd, 1) := by decide +kernel
theorem dX0_memberCount_40 : decode cX0_memberCount 40 = .ok (.istore_n 1, 1) := by decide +kernel
theorem dX0_memberCount_41 : decode cX0_memberCount 41 = .ok (.iinc 4 1, 3) := by decide +kernel
theorem dX0_memberCount_44 : decode cX0_memberCount 44 = .ok (.goto (-31), 3) := by decide +kernel
theorem dX0_memberCount_47 : decode cX0_memberCount 47 = .ok (.iload_n 1, 1) := by decide +kernel
theorem dX0_memberCount_48 : decode cX0_memberCount 48 = .ok (.ireturn, 1) := by decide +kernel
theorem dX0_awayMembers_0 : decode cX0_awayMembers 0 = .ok (.iconst 0, 1) := by decide +kernel
theorem dX0_awayMembers_1 : decode cX0_awayMembers 1 = .ok (.istore_n 1, 1) := by decide +kernel
theorem dX0_awayMembers_2 : decode cX0_awayMembers 2 = .ok (.aload_n 0, 1) := by decide +kernel
theorem dX0_awayMembers_3 : decode cX0_awayMembers 3 = .ok (.getfield 11, 3) := by decide +kernel
theorem dX0_awayMembers_6 : decode cX0_awayMembers 6 = .ok (.astore_n 2, 1) := by decide +kernel
theorem dX0_awayMembers_7 : decode cX0_awayMembers 7 = .ok (.aload_n 2, 1) := by decide +kernel
theorem dX0_awayMembers_8 : decode cX0_awayMembers 8 = .ok (.arraylength, 1) := by decide +kernel
theorem dX0_awayMembers_9 : decode cX0_awayMembers 9 = .ok (.istore_n 3, 1) := by decide +kernel
theorem dX0_awayMembers_10 : decode cX0_awayMembers 10 = .ok (.iconst 0, 1) := by decide +kernel
theorem dX0_awayMembers_11 : decode cX0_awayMembers 11 = .ok (.istore 4, 2) := by decide +kernel
theorem dX0_awayMembers_13 : decode cX0_awayMembers 13 = .ok (.iload 4, 2) := by decide +kernel
theorem dX0_awayMembers_15 : decode cX0_awayMembers 15 = .ok (.iload_n 3, 1) := by decide +kernel
theorem dX0_awayMembers_16 : decode cX0_awayMembers 16 = .ok (.if_icmp .ge 39, 3) := by decide +kernel
theorem dX0_awayMembers_19 : decode cX0_awayMembers 19 = .ok (.aload_n 2, 1) := by decide +kernel
theorem dX0_awayMembers_20 : decode cX0_awayMembers 20 = .ok (.iload 4, 2) := by decide +kernel
theorem dX0_awayMembers_22 : decode cX0_awayMembers 22 = .ok (.aaload, 1) := by decide +kernel
theorem dX0_awayMembers_23 : decode cX0_awayMembers 23 = .ok (.astore 5, 2) := by decide +kernel
theorem dX0_awayMembers_25 : decode cX0_awayMembers 25 = .ok (.iload_n 1, 1) := by decide +kernel
theorem dX0_awayMembers_26 : decode cX0_awayMembers 26 = .ok (.aload 5, 2) := by decide +kernel
theorem dX0_awayMembers_28 : decode cX0_awayMembers 28 = .ok (.getfield 62, 3) := by decide +kernel
theorem dX0_awayMembers_31 : decode cX0_awayMembers 31 = .ok (.ifCond .eq 15, 3) := by decide +kernel
theorem dX0_awayMembers_34 : decode cX0_awayMembers 34 = .ok (.aload 5, 2) := by decide +kernel
theorem dX0_awayMembers_36 : decode cX0_awayMembers 36 = .ok (.getfield 66, 3) := by decide +kernel
theorem dX0_awayMembers_39 : decode cX0_awayMembers 39 = .ok (.ifCond .eq 7, 3) := by decide +kernel
theorem dX0_awayMembers_42 : decode cX0_awayMembers 42 = .ok (.iconst 1, 1) := by decide +kernel
theorem dX0_awayMembers_43 : decode cX0_awayMembers 43 = .ok (.goto 4, 3) := by decide +kernel
theorem dX0_awayMembers_46 : decode cX0_awayMembers 46 = .ok (.iconst 0, 1) := by decide +kernel
theorem dX0_awayMembers_47 : decode cX0_awayMembers 47 = .ok (.iadd, 1) := by decide +kernel
theorem dX0_awayMembers_48 : decode cX0_awayMembers 48 = .ok (.istore_n 1, 1) := by decide +kernel
theorem dX0_awayMembers_49 : decode cX0_awayMembers 49 = .ok (.iinc 4 1, 3) := by decide +kernel
theorem dX0_awayMembers_52 : decode cX0_awayMembers 52 = .ok (.goto (-39), 3) := by decide +kernel
theorem dX0_awayMembers_55 : decode cX0_awayMembers 55 = .ok (.iload_n 1, 1) := by decide +kernel
theorem dX0_awayMembers_56 : decode cX0_awayMembers 56 = .ok (.ireturn, 1) := by decide +kernel
set_option maxRecDepth 20000 in
theorem ggX0_admit_X0_memberCount : GoodIn wsX0_admit wsX0_memberCount := goodIn_r _ [8, 3, 9, 10, 11, 12, 13, 14, 15, 16, 17, 18, 19, 20, 21, 22, 23, 24, 25, 26, 27, 28, 29, 30, 31, 32, 33, 34, 35] (by decide +kernel) (by decide +kernel)
set_option maxRecDepth 20000 in
theorem gX0_admit_X0_memberCount : GoodIn wsX0_admit (wsV RX0 69 RX0 yX0_memberCount wsX0_memberCount) := goodIn_app (goodIn_of _ (by decide +kernel)) ggX0_admit_X0_memberCount
theorem dX0_admit_0 : decode cX0_admit 0 = .ok (.aload_n 0, 1) := by decide +kernel
theorem dX0_admit_1 : decode cX0_admit 1 = .ok (.getfield 38, 3) := by decide +kernel
theorem dX0_admit_4 : decode cX0_admit 4 = .ok (.istore_n 1, 1) := by decide +kernel
theorem dX0_admit_5 : decode cX0_admit 5 = .ok (.iload_n 1, 1) := by decide +kernel
theorem dX0_admit_6 : decode cX0_admit 6 = .ok (.ifCond .lt 9, 3) := by decide +kernel
theorem dX0_admit_9 : decode cX0_admit 9 = .ok (.iload_n 1, 1) := by decide +kernel
theorem dX0_admit_10 : decode cX0_admit 10 = .ok (.bipush 8, 2) := by decide +kernel
theorem dX0_admit_12 : decode cX0_admit 12 = .ok (.if_icmp .lt 5, 3) := by decide +kernel
theorem dX0_admit_15 : decode cX0_admit 15 = .ok (.iconst (-1), 1) := by decide +kernel
theorem dX0_admit_16 : decode cX0_admit 16 = .ok (.ireturn, 1) := by decide +kernel
theorem dX0_admit_17 : decode cX0_admit 17 = .ok (.aload_n 0, 1) := by decide +kernel
theorem dX0_admit_18 : decode cX0_admit 18 = .ok (.invokevirtual 69, 3) := by decide +kernel
theorem dX0_admit_21 : decode cX0_admit 21 = .ok (.ifCond .ne 8, 3) := by decide +kernel
theorem dX0_admit_24 : decode cX0_admit 24 = .ok (.aload_n 0, 1) := by decide +kernel
theorem dX0_admit_25 : decode cX0_admit 25 = .ok (.iload_n 1, 1) := by decide +kernel
theorem dX0_admit_26 : decode cX0_admit 26 = .ok (.putfield 21, 3) := by decide +kernel
theorem dX0_admit_29 : decode cX0_admit 29 = .ok (.aload_n 0, 1) := by decide +kernel
theorem dX0_admit_30 : decode cX0_admit 30 = .ok (.getfield 11, 3) := by decide +kernel
theorem dX0_admit_33 : decode cX0_admit 33 = .ok (.iload_n 1, 1) := by decide +kernel
theorem dX0_admit_34 : decode cX0_admit 34 = .ok (.aaload, 1) := by decide +kernel
theorem dX0_admit_35 : decode cX0_admit 35 = .ok (.iconst 1, 1) := by decide +kernel
theorem dX0_admit_36 : decode cX0_admit 36 = .ok (.putfield 62, 3) := by decide +kernel
theorem dX0_admit_39 : decode cX0_admit 39 = .ok (.aload_n 0, 1) := by decide +kernel
theorem dX0_admit_40 : decode cX0_admit 40 = .ok (.getfield 11, 3) := by decide +kernel
theorem dX0_admit_43 : decode cX0_admit 43 = .ok (.iload_n 1, 1) := by decide +kernel
theorem dX0_admit_44 : decode cX0_admit 44 = .ok (.aaload, 1) := by decide +kernel
theorem dX0_admit_45 : decode cX0_admit 45 = .ok (.sipush 200, 3) := by decide +kernel
theorem dX0_admit_48 : decode cX0_admit 48 = .ok (.putfield 73, 3) := by decide +kernel
theorem dX0_admit_51 : decode cX0_admit 51 = .ok (.aload_n 0, 1) := by decide +kernel
theorem dX0_admit_52 : decode cX0_admit 52 = .ok (.dup, 1) := by decide +kernel
theorem dX0_admit_53 : decode cX0_admit 53 = .ok (.getfield 38, 3) := by decide +kernel
theorem dX0_admit_56 : decode cX0_admit 56 = .ok (.iconst 1, 1) := by decide +kernel
theorem dX0_admit_57 : decode cX0_admit 57 = .ok (.iadd, 1) := by decide +kernel
theorem dX0_admit_58 : decode cX0_admit 58 = .ok (.putfield 38, 3) := by decide +kernel
theorem dX0_admit_61 : decode cX0_admit 61 = .ok (.iload_n 1, 1) := by decide +kernel
theorem dX0_admit_62 : decode cX0_admit 62 = .ok (.ireturn, 1) := by decide +kernel
set_option maxRecDepth 20000 in
theorem ggX0_mayGo_X2_hasLoan : GoodIn wsX0_mayGo wsX2_hasLoan := goodIn_r _ [5, 6, 34, 35, 36, 37, 38, 39, 40, 41, 42, 43, 44, 45, 46, 47, 48, 49] (by decide +kernel) (by decide +kernel)
set_option maxRecDepth 20000 in
theorem gX0_mayGo_X2_hasLoan_n76 : GoodIn wsX0_mayGo (wsX2_hasLoan) := ggX0_mayGo_X2_hasLoan
set_option maxRecDepth 20000 in
theorem ggX0_mayGo_X2_hasDebts : GoodIn wsX0_mayGo wsX2_hasDebts := goodIn_r _ [9, 10, 11, 12, 13, 14, 3, 15, 16, 34, 35, 36, 37, 38, 39, 40, 41, 42, 43, 44, 45, 46, 47, 48, 49] (by decide +kernel) (by decide +kernel)
set_option maxRecDepth 20000 in
theorem gX0_mayGo_X2_hasDebts_n80 : GoodIn wsX0_mayGo (wsX2_hasDebts) := ggX0_mayGo_X2_hasDebts
set_option maxRecDepth 20000 in
theorem ggX0_mayGo_X0_owedTo : GoodIn wsX0_mayGo wsX0_owedTo := goodIn_r _ [21, 22, 23, 24, 25, 26, 27, 28, 29, 30, 31, 32, 33, 34, 35, 36, 37, 38, 39, 40, 41, 42, 43, 44, 45, 46, 47, 48, 49] (by decide +kernel) (by decide +kernel)
set_option maxRecDepth 20000 in
theorem gX0_mayGo_X0_owedTo : GoodIn wsX0_mayGo (wsV RX0 83 RX0 yX0_owedTo wsX0_owedTo) := goodIn_app (goodIn_of _ (by decide +kernel)) ggX0_mayGo_X0_owedTo
theorem dX0_mayGo_0 : decode cX0_mayGo 0 = .ok (.aload_n 1, 1) := by decide +kernel
theorem dX0_mayGo_1 : decode cX0_mayGo 1 = .ok (.invokevirtual 76, 3) := by decide +kernel
theorem dX0_mayGo_4 : decode cX0_mayGo 4 = .ok (.ifCond .ne 33, 3) := by decide +kernel
theorem dX0_mayGo_7 : decode cX0_mayGo 7 = .ok (.aload_n 1, 1) := by decide +kernel
theorem dX0_mayGo_8 : decode cX0_mayGo 8 = .ok (.invokevirtual 80, 3) := by decide +kernel
theorem dX0_mayGo_11 : decode cX0_mayGo 11 = .ok (.ifCond .ne 26, 3) := by decide +kernel
theorem dX0_mayGo_14 : decode cX0_mayGo 14 = .ok (.aload_n 0, 1) := by decide +kernel
theorem dX0_mayGo_15 : decode cX0_mayGo 15 = .ok (.aload_n 1, 1) := by decide +kernel
theorem dX0_mayGo_16 : decode cX0_mayGo 16 = .ok (.invokevirtual 83, 3) := by decide +kernel
theorem dX0_mayGo_19 : decode cX0_mayGo 19 = .ok (.ifCond .ne 18, 3) := by decide +kernel
theorem dX0_mayGo_22 : decode cX0_mayGo 22 = .ok (.aload_n 0, 1) := by decide +kernel
theorem dX0_mayGo_23 : decode cX0_mayGo 23 = .ok (.getfield 47, 3) := by decide +kernel
theorem dX0_mayGo_26 : decode cX0_mayGo 26 = .ok (.aload_n 1, 1) := by decide +kernel
theorem dX0_mayGo_27 : decode cX0_mayGo 27 = .ok (.getfield 87, 3) := by decide +kernel
theorem dX0_mayGo_30 : decode cX0_mayGo 30 = .ok (.if_icmp .lt 7, 3) := by decide +kernel
theorem dX0_mayGo_33 : decode cX0_mayGo 33 = .ok (.iconst 1, 1) := by decide +kernel
theorem dX0_mayGo_34 : decode cX0_mayGo 34 = .ok (.goto 4, 3) := by decide +kernel
theorem dX0_mayGo_37 : decode cX0_mayGo 37 = .ok (.iconst 0, 1) := by decide +kernel
theorem dX0_mayGo_38 : decode cX0_mayGo 38 = .ok (.ireturn, 1) := by decide +kernel
set_option maxRecDepth 20000 in
theorem ggX0_dismiss_X0_nextChair : GoodIn wsX0_dismiss wsX0_nextChair := goodIn_r _ [7, 2, 8, 9, 10, 11, 12, 13, 14, 6, 15, 16, 17, 18, 19, 20, 21, 22, 23, 24, 25, 26, 27, 28, 29, 30, 31, 32, 33, 34, 35, 36, 37, 38, 39, 40, 41, 42, 43, 44, 45, 46, 47, 48, 49, 50, 51, 52, 53, 54] (by decide +kernel) (by decide +kernel)
set_option maxRecDepth 20000 in
theorem gX0_dismiss_X0_nextChair : GoodIn wsX0_dismiss (wsV RX0 93 RX0 yX0_nextChair wsX0_nextChair) := goodIn_app (goodIn_of _ (by decide +kernel)) ggX0_dismiss_X0_nextChair
theorem dX0_dismiss_0 : decode cX0_dismiss 0 = .ok (.aload_n 0, 1) := by decide +kernel
theorem dX0_dismiss_1 : decode cX0_dismiss 1 = .ok (.dup, 1) := by decide +kernel
theorem dX0_dismiss_2 : decode cX0_dismiss 2 = .ok (.getfield 47, 3) := by decide +kernel
theorem dX0_dismiss_5 : decode cX0_dismiss 5 = .ok (.aload_n 1, 1) := by decide +kernel
theorem dX0_dismiss_6 : decode cX0_dismiss 6 = .ok (.getfield 87, 3) := by decide +kernel
theorem dX0_dismiss_9 : decode cX0_dismiss 9 = .ok (.isub, 1) := by decide +kernel
theorem dX0_dismiss_10 : decode cX0_dismiss 10 = .ok (.putfield 47, 3) := by decide +kernel
theorem dX0_dismiss_13 : decode cX0_dismiss 13 = .ok (.aload_n 1, 1) := by decide +kernel
theorem dX0_dismiss_14 : decode cX0_dismiss 14 = .ok (.iconst 0, 1) := by decide +kernel
theorem dX0_dismiss_15 : decode cX0_dismiss 15 = .ok (.putfield 62, 3) := by decide +kernel
theorem dX0_dismiss_18 : decode cX0_dismiss 18 = .ok (.aload_n 0, 1) := by decide +kernel
theorem dX0_dismiss_19 : decode cX0_dismiss 19 = .ok (.getfield 21, 3) := by decide +kernel
theorem dX0_dismiss_22 : decode cX0_dismiss 22 = .ok (.aload_n 1, 1) := by decide +kernel
theorem dX0_dismiss_23 : decode cX0_dismiss 23 = .ok (.getfield 90, 3) := by decide +kernel
theorem dX0_dismiss_26 : decode cX0_dismiss 26 = .ok (.if_icmp .ne 11, 3) := by decide +kernel
theorem dX0_dismiss_29 : decode cX0_dismiss 29 = .ok (.aload_n 0, 1) := by decide +kernel
theorem dX0_dismiss_30 : decode cX0_dismiss 30 = .ok (.aload_n 0, 1) := by decide +kernel
theorem dX0_dismiss_31 : decode cX0_dismiss 31 = .ok (.invokevirtual 93, 3) := by decide +kernel
theorem dX0_dismiss_34 : decode cX0_dismiss 34 = .ok (.putfield 21, 3) := by decide +kernel
theorem dX0_dismiss_37 : decode cX0_dismiss 37 = .ok (.aload_n 1, 1) := by decide +kernel
theorem dX0_dismiss_38 : decode cX0_dismiss 38 = .ok (.getfield 87, 3) := by decide +kernel
theorem dX0_dismiss_41 : decode cX0_dismiss 41 = .ok (.ireturn, 1) := by decide +kernel
set_option maxRecDepth 20000 in
theorem ggX0_nextChair_J9_floorMod_7cf53 : GoodIn wsX0_nextChair wsJ9_floorMod_7cf53 := goodIn_r _ [5] (by decide +kernel) (by decide +kernel)
set_option maxRecDepth 20000 in
theorem gX0_nextChair_J9_floorMod_7cf53 : GoodIn wsX0_nextChair (va_wsS RX0 96 yJ9_floorMod_7cf53 wsJ9_floorMod_7cf53) := goodIn_app (goodIn_of _ (by decide +kernel)) ggX0_nextChair_J9_floorMod_7cf53
set_option maxRecDepth 20000 in
theorem ggX0_nextChair_X0_find : GoodIn wsX0_nextChair wsX0_find := goodIn_r _ [10, 11, 23, 24, 25, 26, 27, 28, 29, 30, 31, 32, 33, 34, 35, 36, 37, 38, 39, 40, 41, 42, 43, 44, 45, 46, 47, 48, 49] (by decide +kernel) (by decide +kernel)
set_option maxRecDepth 20000 in
theorem gX0_nextChair_X0_find : GoodIn wsX0_nextChair (wsV RX0 102 RX0 yX0_find wsX0_find) := goodIn_app (goodIn_of _ (by decide +kernel)) ggX0_nextChair_X0_find
set_option maxRecDepth 20000 in
theorem ggX0_nextChair_X2_hasDebts : GoodIn wsX0_nextChair wsX2_hasDebts := goodIn_r _ [15, 16, 17, 18, 19, 20, 13, 21, 22, 34, 35, 36, 37, 38, 39, 40, 41, 42, 43, 44, 45, 46, 47, 48, 49] (by decide +kernel) (by decide +kernel)
set_option maxRecDepth 20000 in
theorem gX0_nextChair_X2_hasDebts_n80 : GoodIn wsX0_nextChair (wsX2_hasDebts) := ggX0_nextChair_X2_hasDebts
theorem dX0_nextChair_0 : decode cX0_nextChair 0 = .ok (.iconst 1, 1) := by decide +kernel
theorem dX0_nextChair_1 : decode cX0_nextChair 1 = .ok (.istore_n 1, 1) := by decide +kernel
theorem dX0_nextChair_2 : decode cX0_nextChair 2 = .ok (.iload_n 1, 1) := by decide +kernel
theorem dX0_nextChair_3 : decode cX0_nextChair 3 = .ok (.bipush 8, 2) := by decide +kernel
theorem dX0_nextChair_5 : decode cX0_nextChair 5 = .ok (.if_icmp .gt 41, 3) := by decide +kernel
theorem dX0_nextChair_8 : decode cX0_nextChair 8 = .ok (.aload_n 0, 1) := by decide +kernel
theorem dX0_nextChair_9 : decode cX0_nextChair 9 = .ok (.aload_n 0, 1) := by decide +kernel
theorem dX0_nextChair_10 : decode cX0_nextChair 10 = .ok (.getfield 21, 3) := by decide +kernel
theorem dX0_nextChair_13 : decode cX0_nextChair 13 = .ok (.iload_n 1, 1) := by decide +kernel
theorem dX0_nextChair_14 : decode cX0_nextChair 14 = .ok (.iadd, 1) := by decide +kernel
theorem dX0_nextChair_15 : decode cX0_nextChair 15 = .ok (.bipush 8, 2) := by decide +kernel
theorem dX0_nextChair_17 : decode cX0_nextChair 17 = .ok (.invokestatic 96, 3) := by decide +kernel
theorem dX0_nextChair_20 : decode cX0_nextChair 20 = .ok (.invokevirtual 102, 3) := by decide +kernel
theorem dX0_nextChair_23 : decode cX0_nextChair 23 = .ok (.astore_n 2, 1) := by decide +kernel
theorem dX0_nextChair_24 : decode cX0_nextChair 24 = .ok (.aload_n 2, 1) := by decide +kernel
theorem dX0_nextChair_25 : decode cX0_nextChair 25 = .ok (.ifnull 15, 3) := by decide +kernel
theorem dX0_nextChair_28 : decode cX0_nextChair 28 = .ok (.aload_n 2, 1) := by decide +kernel
theorem dX0_nextChair_29 : decode cX0_nextChair 29 = .ok (.invokevirtual 80, 3) := by decide +kernel
theorem dX0_nextChair_32 : decode cX0_nextChair 32 = .ok (.ifCond .ne 8, 3) := by decide +kernel
theorem dX0_nextChair_35 : decode cX0_nextChair 35 = .ok (.aload_n 2, 1) := by decide +kernel
theorem dX0_nextChair_36 : decode cX0_nextChair 36 = .ok (.getfield 90, 3) := by decide +kernel
theorem dX0_nextChair_39 : decode cX0_nextChair 39 = .ok (.ireturn, 1) := by decide +kernel
theorem dX0_nextChair_40 : decode cX0_nextChair 40 = .ok (.iinc 1 1, 3) := by decide +kernel
theorem dX0_nextChair_43 : decode cX0_nextChair 43 = .ok (.goto (-41), 3) := by decide +kernel
theorem dX0_nextChair_46 : decode cX0_nextChair 46 = .ok (.iconst (-1), 1) := by decide +kernel
theorem dX0_nextChair_47 : decode cX0_nextChair 47 = .ok (.ireturn, 1) := by decide +kernel
set_option maxRecDepth 20000 in
theorem ggX0_grantLoan_X2_borrow : GoodIn wsX0_grantLoan wsX2_borrow := goodIn_r _ [6, 7, 8, 9, 10, 11, 23, 24, 25, 26, 27, 28, 29, 30, 31, 32, 33, 34, 35, 36, 37, 38] (by decide +kernel) (by decide +kernel)
set_option maxRecDepth 20000 in
theorem gX0_grantLoan_X2_borrow_n106 : GoodIn wsX0_grantLoan (wsX2_borrow) := ggX0_grantLoan_X2_borrow
theorem dX0_grantLoan_0 : decode cX0_grantLoan 0 = .ok (.aload_n 1, 1) := by decide +kernel
theorem dX0_grantLoan_1 : decode cX0_grantLoan 1 = .ok (.iload_n 2, 1) := by decide +kernel
theorem dX0_grantLoan_2 : decode cX0_grantLoan 2 = .ok (.iload_n 3, 1) := by decide +kernel
theorem dX0_grantLoan_3 : decode cX0_grantLoan 3 = .ok (.iload_n 2, 1) := by decide +kernel
theorem dX0_grantLoan_4 : decode cX0_grantLoan 4 = .ok (.aload_n 0, 1) := by decide +kernel
theorem dX0_grantLoan_5 : decode cX0_grantLoan 5 = .ok (.getfield 17, 3) := by decide +kernel
theorem dX0_grantLoan_8 : decode cX0_grantLoan 8 = .ok (.iconst 0, 1) := by decide +kernel
theorem dX0_grantLoan_9 : decode cX0_grantLoan 9 = .ok (.iaload, 1) := by decide +kernel
theorem dX0_grantLoan_10 : decode cX0_grantLoan 10 = .ok (.imul, 1) := by decide +kernel
theorem dX0_grantLoan_11 : decode cX0_grantLoan 11 = .ok (.sipush 1000, 3) := by decide +kernel
theorem dX0_grantLoan_14 : decode cX0_grantLoan 14 = .ok (.idiv, 1) := by decide +kernel
theorem dX0_grantLoan_15 : decode cX0_grantLoan 15 = .ok (.invokevirtual 106, 3) := by decide +kernel
theorem dX0_grantLoan_18 : decode cX0_grantLoan 18 = .ok (.aload_n 0, 1) := by decide +kernel
theorem dX0_grantLoan_19 : decode cX0_grantLoan 19 = .ok (.dup, 1) := by decide +kernel
theorem dX0_grantLoan_20 : decode cX0_grantLoan 20 = .ok (.getfield 50, 3) := by decide +kernel
theorem dX0_grantLoan_23 : decode cX0_grantLoan 23 = .ok (.iload_n 2, 1) := by decide +kernel
theorem dX0_grantLoan_24 : decode cX0_grantLoan 24 = .ok (.iadd, 1) := by decide +kernel
theorem dX0_grantLoan_25 : decode cX0_grantLoan 25 = .ok (.putfield 50, 3) := by decide +kernel
theorem dX0_grantLoan_28 : decode cX0_grantLoan 28 = .ok (.return_, 1) := by decide +kernel
theorem dX0_takePayment_0 : decode cX0_takePayment 0 = .ok (.iload_n 2, 1) := by decide +kernel
theorem dX0_takePayment_1 : decode cX0_takePayment 1 = .ok (.aload_n 1, 1) := by decide +kernel
theorem dX0_takePayment_2 : decode cX0_takePayment 2 = .ok (.getfield 110, 3) := by decide +kernel
theorem dX0_takePayment_5 : decode cX0_takePayment 5 = .ok (.invokestatic 113, 3) := by decide +kernel
theorem dX0_takePayment_8 : decode cX0_takePayment 8 = .ok (.istore_n 3, 1) := by decide +kernel
theorem dX0_takePayment_9 : decode cX0_takePayment 9 = .ok (.aload_n 1, 1) := by decide +kernel
theorem dX0_takePayment_10 : decode cX0_takePayment 10 = .ok (.dup, 1) := by decide +kernel
theorem dX0_takePayment_11 : decode cX0_takePayment 11 = .ok (.getfield 110, 3) := by decide +kernel
theorem dX0_takePayment_14 : decode cX0_takePayment 14 = .ok (.iload_n 3, 1) := by decide +kernel
theorem dX0_takePayment_15 : decode cX0_takePayment 15 = .ok (.isub, 1) := by decide +kernel
theorem dX0_takePayment_16 : decode cX0_takePayment 16 = .ok (.putfield 110, 3) := by decide +kernel
theorem dX0_takePayment_19 : decode cX0_takePayment 19 = .ok (.aload_n 0, 1) := by decide +kernel
theorem dX0_takePayment_20 : decode cX0_takePayment 20 = .ok (.dup, 1) := by decide +kernel
theorem dX0_takePayment_21 : decode cX0_takePayment 21 = .ok (.getfield 56, 3) := by decide +kernel
theorem dX0_takePayment_24 : decode cX0_takePayment 24 = .ok (.iload_n 3, 1) := by decide +kernel
theorem dX0_takePayment_25 : decode cX0_takePayment 25 = .ok (.iadd, 1) := by decide +kernel
theorem dX0_takePayment_26 : decode cX0_takePayment 26 = .ok (.putfield 56, 3) := by decide +kernel
theorem dX0_takePayment_29 : decode cX0_takePayment 29 = .ok (.iload_n 2, 1) := by decide +kernel
theorem dX0_takePayment_30 : decode cX0_takePayment 30 = .ok (.iload_n 3, 1) := by decide +kernel
theorem dX0_takePayment_31 : decode cX0_takePayment 31 = .ok (.isub, 1) := by decide +kernel
theorem dX0_takePayment_32 : decode cX0_takePayment 32 = .ok (.istore 4, 2) := by decide +kernel
theorem dX0_takePayment_34 : decode cX0_takePayment 34 = .ok (.iload 4, 2) := by decide +kernel
theorem dX0_takePayment_36 : decode cX0_takePayment 36 = .ok (.aload_n 1, 1) := by decide +kernel
theorem dX0_takePayment_37 : decode cX0_takePayment 37 = .ok (.getfield 116, 3) := by decide +kernel
theorem dX0_takePayment_40 : decode cX0_takePayment 40 = .ok (.invokestatic 113, 3) := by decide +kernel
theorem dX0_takePayment_43 : decode cX0_takePayment 43 = .ok (.istore 5, 2) := by decide +kernel
theorem dX0_takePayment_45 : decode cX0_takePayment 45 = .ok (.aload_n 1, 1) := by decide +kernel
theorem dX0_takePayment_46 : decode cX0_takePayment 46 = .ok (.dup, 1) := by decide +kernel
theorem dX0_takePayment_47 : decode cX0_takePayment 47 = .ok (.getfield 116, 3) := by decide +kernel
theorem dX0_takePayment_50 : decode cX0_takePayment 50 = .ok (.iload 5, 2) := by decide +kernel
theorem dX0_takePayment_52 : decode cX0_takePayment 52 = .ok (.isub, 1) := by decide +kernel
theorem dX0_takePayment_53 : decode cX0_takePayment 53 = .ok (.putfield 116, 3) := by decide +kernel
theorem dX0_takePayment_56 : decode cX0_takePayment 56 = .ok (.aload_n 0, 1) := by decide +kernel
theorem dX0_takePayment_57 : decode cX0_takePayment 57 = .ok (.dup, 1) := by decide +kernel
theorem dX0_takePayment_58 : decode cX0_takePayment 58 = .ok (.getfield 47, 3) := by decide +kernel
theorem dX0_takePayment_61 : decode cX0_takePayment 61 = .ok (.iload 5, 2) := by decide +kernel
theorem dX0_takePayment_63 : decode cX0_takePayment 63 = .ok (.iadd, 1) := by decide +kernel
theorem dX0_takePayment_64 : decode cX0_takePayment 64 = .ok (.putfield 47, 3) := by decide +kernel
theorem dX0_takePayment_67 : decode cX0_takePayment 67 = .ok (.iload 4, 2) := by decide +kernel
theorem dX0_takePayment_69 : decode cX0_takePayment 69 = .ok (.iload 5, 2) := by decide +kernel
theorem dX0_takePayment_71 : decode cX0_takePayment 71 = .ok (.isub, 1) := by decide +kernel
theorem dX0_takePayment_72 : decode cX0_takePayment 72 = .ok (.istore 4, 2) := by decide +kernel
theorem dX0_takePayment_74 : decode cX0_takePayment 74 = .ok (.iconst 0, 1) := by decide +kernel
theorem dX0_takePayment_75 : decode cX0_takePayment 75 = .ok (.istore 6, 2) := by decide +kernel
theorem dX0_takePayment_77 : decode cX0_takePayment 77 = .ok (.iload 6, 2) := by decide +kernel
theorem dX0_takePayment_79 : decode cX0_takePayment 79 = .ok (.bipush 8, 2) := by decide +kernel
theorem dX0_takePayment_81 : decode cX0_takePayment 81 = .ok (.if_icmp .ge 42, 3) := by decide +kernel
theorem dX0_takePayment_84 : decode cX0_takePayment 84 = .ok (.iload 4, 2) := by decide +kernel
theorem dX0_takePayment_86 : decode cX0_takePayment 86 = .ok (.aload_n 1, 1) := by decide +kernel
theorem dX0_takePayment_87 : decode cX0_takePayment 87 = .ok (.getfield 119, 3) := by decide +kernel
theorem dX0_takePayment_90 : decode cX0_takePayment 90 = .ok (.iload 6, 2) := by decide +kernel
theorem dX0_takePayment_92 : decode cX0_takePayment 92 = .ok (.iaload, 1) := by decide +kernel
theorem dX0_takePayment_93 : decode cX0_takePayment 93 = .ok (.invokestatic 113, 3) := by decide +kernel
theorem dX0_takePayment_96 : decode cX0_takePayment 96 = .ok (.istore 7, 2) := by decide +kernel
theorem dX0_takePayment_98 : decode cX0_takePayment 98 = .ok (.aload_n 1, 1) := by decide +kernel
theorem dX0_takePayment_99 : decode cX0_takePayment 99 = .ok (.getfield 119, 3) := by decide +kernel
theorem dX0_takePayment_102 : decode cX0_takePayment 102 = .ok (.iload 6, 2) := by decide +kernel
theorem dX0_takePayment_104 : decode cX0_takePayment 104 = .ok (.dup2, 1) := by decide +kernel
theorem dX0_takePayment_105 : decode cX0_takePayment 105 = .ok (.iaload, 1) := by decide +kernel
theorem dX0_takePayment_106 : decode cX0_takePayment 106 = .ok (.iload 7, 2) := by decide +kernel
theorem dX0_takePayment_108 : decode cX0_takePayment 108 = .ok (.isub, 1) := by decide +kernel
theorem dX0_takePayment_109 : decode cX0_takePayment 109 = .ok (.iastore, 1) := by decide +kernel
theorem dX0_takePayment_110 : decode cX0_takePayment 110 = .ok (.iload 4, 2) := by decide +kernel
theorem dX0_takePayment_112 : decode cX0_takePayment 112 = .ok (.iload 7, 2) := by decide +kernel
theorem dX0_takePayment_114 : decode cX0_takePayment 114 = .ok (.isub, 1) := by decide +kernel
theorem dX0_takePayment_115 : decode cX0_takePayment 115 = .ok (.istore 4, 2) := by decide +kernel
theorem dX0_takePayment_117 : decode cX0_takePayment 117 = .ok (.iinc 6 1, 3) := by decide +kernel
theorem dX0_takePayment_120 : decode cX0_takePayment 120 = .ok (.goto (-43), 3) := by decide +kernel
theorem dX0_takePayment_123 : decode cX0_takePayment 123 = .ok (.iload_n 2, 1) := by decide +kernel
theorem dX0_takePayment_124 : decode cX0_takePayment 124 = .ok (.iload 4, 2) := by decide +kernel
theorem dX0_takePayment_126 : decode cX0_takePayment 126 = .ok (.isub, 1) := by decide +kernel
theorem dX0_takePayment_127 : decode cX0_takePayment 127 = .ok (.ireturn, 1) := by decide +kernel
theorem dX0_mayHelp_0 : decode cX0_mayHelp 0 = .ok (.aload_n 0, 1) := by decide +kernel
theorem dX0_mayHelp_1 : decode cX0_mayHelp 1 = .ok (.getfield 21, 3) := by decide +kernel
theorem dX0_mayHelp_4 : decode cX0_mayHelp 4 = .ok (.iconst (-1), 1) := by decide +kernel
theorem dX0_mayHelp_5 : decode cX0_mayHelp 5 = .ok (.if_icmp .eq 43, 3) := by decide +kernel
theorem dX0_mayHelp_8 : decode cX0_mayHelp 8 = .ok (.aload_n 0, 1) := by decide +kernel
theorem dX0_mayHelp_9 : decode cX0_mayHelp 9 = .ok (.getfield 21, 3) := by decide +kernel
theorem dX0_mayHelp_12 : decode cX0_mayHelp 12 = .ok (.aload_n 1, 1) := by decide +kernel
theorem dX0_mayHelp_13 : decode cX0_mayHelp 13 = .ok (.getfield 90, 3) := by decide +kernel
theorem dX0_mayHelp_16 : decode cX0_mayHelp 16 = .ok (.if_icmp .eq 32, 3) := by decide +kernel
theorem dX0_mayHelp_19 : decode cX0_mayHelp 19 = .ok (.aload_n 1, 1) := by decide +kernel
theorem dX0_mayHelp_20 : decode cX0_mayHelp 20 = .ok (.getfield 116, 3) := by decide +kernel
theorem dX0_mayHelp_23 : decode cX0_mayHelp 23 = .ok (.ifCond .ne 25, 3) := by decide +kernel
theorem dX0_mayHelp_26 : decode cX0_mayHelp 26 = .ok (.iload_n 2, 1) := by decide +kernel
theorem dX0_mayHelp_27 : decode cX0_mayHelp 27 = .ok (.aload_n 0, 1) := by decide +kernel
theorem dX0_mayHelp_28 : decode cX0_mayHelp 28 = .ok (.getfield 47, 3) := by decide +kernel
theorem dX0_mayHelp_31 : decode cX0_mayHelp 31 = .ok (.aload_n 0, 1) := by decide +kernel
theorem dX0_mayHelp_32 : decode cX0_mayHelp 32 = .ok (.getfield 17, 3) := by decide +kernel
theorem dX0_mayHelp_35 : decode cX0_mayHelp 35 = .ok (.iconst 3, 1) := by decide +kernel
theorem dX0_mayHelp_36 : decode cX0_mayHelp 36 = .ok (.iaload, 1) := by decide +kernel
theorem dX0_mayHelp_37 : decode cX0_mayHelp 37 = .ok (.imul, 1) := by decide +kernel
theorem dX0_mayHelp_38 : decode cX0_mayHelp 38 = .ok (.bipush 100, 2) := by decide +kernel
theorem dX0_mayHelp_40 : decode cX0_mayHelp 40 = .ok (.idiv, 1) := by decide +kernel
theorem dX0_mayHelp_41 : decode cX0_mayHelp 41 = .ok (.if_icmp .gt 7, 3) := by decide +kernel
theorem dX0_mayHelp_44 : decode cX0_mayHelp 44 = .ok (.iconst 1, 1) := by decide +kernel
theorem dX0_mayHelp_45 : decode cX0_mayHelp 45 = .ok (.goto 4, 3) := by decide +kernel
theorem dX0_mayHelp_48 : decode cX0_mayHelp 48 = .ok (.iconst 0, 1) := by decide +kernel
theorem dX0_mayHelp_49 : decode cX0_mayHelp 49 = .ok (.ireturn, 1) := by decide +kernel
theorem dX0_grantHelp_0 : decode cX0_grantHelp 0 = .ok (.aload_n 0, 1) := by decide +kernel
theorem dX0_grantHelp_1 : decode cX0_grantHelp 1 = .ok (.dup, 1) := by decide +kernel
theorem dX0_grantHelp_2 : decode cX0_grantHelp 2 = .ok (.getfield 47, 3) := by decide +kernel
theorem dX0_grantHelp_5 : decode cX0_grantHelp 5 = .ok (.iload_n 2, 1) := by decide +kernel
