theorem dX0_init_0 : decode cX0_init 0 = .ok (.aload_n 0, 1) := by decide +kernel
theorem dX0_init_1 : decode cX0_init 1 = .ok (.invokespecial 3, 3) := by decide +kernel
theorem dX0_init_4 : decode cX0_init 4 = .ok (.aload_n 0, 1) := by decide +kernel
theorem dX0_init_5 : decode cX0_init 5 = .ok (.bipush 8, 2) := by decide +kernel
theorem dX0_init_7 : decode cX0_init 7 = .ok (.anewarray 9, 3) := by decide +kernel
theorem dX0_init_10 : decode cX0_init 10 = .ok (.putfield 11, 3) := by decide +kernel
theorem dX0_init_13 : decode cX0_init 13 = .ok (.aload_n 0, 1) := by decide +kernel
theorem dX0_init_14 : decode cX0_init 14 = .ok (.iconst 4, 1) := by decide +kernel
theorem dX0_init_15 : decode cX0_init 15 = .ok (.newarray .int, 2) := by decide +kernel
theorem dX0_init_17 : decode cX0_init 17 = .ok (.putfield 17, 3) := by decide +kernel
theorem dX0_init_20 : decode cX0_init 20 = .ok (.aload_n 0, 1) := by decide +kernel
theorem dX0_init_21 : decode cX0_init 21 = .ok (.iconst (-1), 1) := by decide +kernel
theorem dX0_init_22 : decode cX0_init 22 = .ok (.putfield 21, 3) := by decide +kernel
theorem dX0_init_25 : decode cX0_init 25 = .ok (.iconst 0, 1) := by decide +kernel
theorem dX0_init_26 : decode cX0_init 26 = .ok (.istore_n 1, 1) := by decide +kernel
theorem dX0_init_27 : decode cX0_init 27 = .ok (.iload_n 1, 1) := by decide +kernel
theorem dX0_init_28 : decode cX0_init 28 = .ok (.bipush 8, 2) := by decide +kernel
theorem dX0_init_30 : decode cX0_init 30 = .ok (.if_icmp .ge 23, 3) := by decide +kernel
theorem dX0_init_33 : decode cX0_init 33 = .ok (.aload_n 0, 1) := by decide +kernel
theorem dX0_init_34 : decode cX0_init 34 = .ok (.getfield 11, 3) := by decide +kernel
theorem dX0_init_37 : decode cX0_init 37 = .ok (.iload_n 1, 1) := by decide +kernel
theorem dX0_init_38 : decode cX0_init 38 = .ok (.new 9, 3) := by decide +kernel
theorem dX0_init_41 : decode cX0_init 41 = .ok (.dup, 1) := by decide +kernel
theorem dX0_init_42 : decode cX0_init 42 = .ok (.iload_n 1, 1) := by decide +kernel
theorem dX0_init_43 : decode cX0_init 43 = .ok (.invokespecial 25, 3) := by decide +kernel
theorem dX0_init_46 : decode cX0_init 46 = .ok (.aastore, 1) := by decide +kernel
theorem dX0_init_47 : decode cX0_init 47 = .ok (.iinc 1 1, 3) := by decide +kernel
theorem dX0_init_50 : decode cX0_init 50 = .ok (.goto (-23), 3) := by decide +kernel
theorem dX0_init_53 : decode cX0_init 53 = .ok (.aload_n 0, 1) := by decide +kernel
theorem dX0_init_54 : decode cX0_init 54 = .ok (.getfield 17, 3) := by decide +kernel
theorem dX0_init_57 : decode cX0_init 57 = .ok (.iconst 0, 1) := by decide +kernel
theorem dX0_init_58 : decode cX0_init 58 = .ok (.iconst 5, 1) := by decide +kernel
theorem dX0_init_59 : decode cX0_init 59 = .ok (.iastore, 1) := by decide +kernel
theorem dX0_init_60 : decode cX0_init 60 = .ok (.aload_n 0, 1) := by decide +kernel
theorem dX0_init_61 : decode cX0_init 61 = .ok (.getfield 17, 3) := by decide +kernel
theorem dX0_init_64 : decode cX0_init 64 = .ok (.iconst 1, 1) := by decide +kernel
theorem dX0_init_65 : decode cX0_init 65 = .ok (.iconst 5, 1) := by decide +kernel
theorem dX0_init_66 : decode cX0_init 66 = .ok (.iastore, 1) := by decide +kernel
theorem dX0_init_67 : decode cX0_init 67 = .ok (.aload_n 0, 1) := by decide +kernel
theorem dX0_init_68 : decode cX0_init 68 = .ok (.getfield 17, 3) := by decide +kernel
theorem dX0_init_71 : decode cX0_init 71 = .ok (.iconst 2, 1) := by decide +kernel
theorem dX0_init_72 : decode cX0_init 72 = .ok (.iconst 4, 1) := by decide +kernel
theorem dX0_init_73 : decode cX0_init 73 = .ok (.iastore, 1) := by decide +kernel
theorem dX0_init_74 : decode cX0_init 74 = .ok (.aload_n 0, 1) := by decide +kernel
theorem dX0_init_75 : decode cX0_init 75 = .ok (.getfield 17, 3) := by decide +kernel
theorem dX0_init_78 : decode cX0_init 78 = .ok (.iconst 3, 1) := by decide +kernel
theorem dX0_init_79 : decode cX0_init 79 = .ok (.bipush 50, 2) := by decide +kernel
theorem dX0_init_81 : decode cX0_init 81 = .ok (.iastore, 1) := by decide +kernel
theorem dX0_init_82 : decode cX0_init 82 = .ok (.return_, 1) := by decide +kernel
set_option maxRecDepth 20000 in
theorem ggX0_copyFrom_X2_copyFrom : GoodIn wsX0_copyFrom wsX2_copyFrom := goodIn_r _ [19, 20, 21, 22, 23, 24, 25, 26, 27, 28, 29, 30, 31, 32, 33, 34, 35, 4, 5, 6, 47, 48, 49, 50, 51, 52, 53, 54, 55, 56, 57, 58, 59, 60, 61, 62] (by decide +kernel) (by decide +kernel)
set_option maxRecDepth 20000 in
theorem gX0_copyFrom_X2_copyFrom_n28 : GoodIn wsX0_copyFrom (wsX2_copyFrom) := ggX0_copyFrom_X2_copyFrom
theorem dX0_copyFrom_0 : decode cX0_copyFrom 0 = .ok (.iconst 0, 1) := by decide +kernel
theorem dX0_copyFrom_1 : decode cX0_copyFrom 1 = .ok (.istore_n 2, 1) := by decide +kernel
theorem dX0_copyFrom_2 : decode cX0_copyFrom 2 = .ok (.iload_n 2, 1) := by decide +kernel
theorem dX0_copyFrom_3 : decode cX0_copyFrom 3 = .ok (.bipush 8, 2) := by decide +kernel
theorem dX0_copyFrom_5 : decode cX0_copyFrom 5 = .ok (.if_icmp .ge 24, 3) := by decide +kernel
theorem dX0_copyFrom_8 : decode cX0_copyFrom 8 = .ok (.aload_n 0, 1) := by decide +kernel
theorem dX0_copyFrom_9 : decode cX0_copyFrom 9 = .ok (.getfield 11, 3) := by decide +kernel
theorem dX0_copyFrom_12 : decode cX0_copyFrom 12 = .ok (.iload_n 2, 1) := by decide +kernel
theorem dX0_copyFrom_13 : decode cX0_copyFrom 13 = .ok (.aaload, 1) := by decide +kernel
theorem dX0_copyFrom_14 : decode cX0_copyFrom 14 = .ok (.aload_n 1, 1) := by decide +kernel
theorem dX0_copyFrom_15 : decode cX0_copyFrom 15 = .ok (.getfield 11, 3) := by decide +kernel
theorem dX0_copyFrom_18 : decode cX0_copyFrom 18 = .ok (.iload_n 2, 1) := by decide +kernel
theorem dX0_copyFrom_19 : decode cX0_copyFrom 19 = .ok (.aaload, 1) := by decide +kernel
theorem dX0_copyFrom_20 : decode cX0_copyFrom 20 = .ok (.invokevirtual 28, 3) := by decide +kernel
theorem dX0_copyFrom_23 : decode cX0_copyFrom 23 = .ok (.iinc 2 1, 3) := by decide +kernel
theorem dX0_copyFrom_26 : decode cX0_copyFrom 26 = .ok (.goto (-24), 3) := by decide +kernel
theorem dX0_copyFrom_29 : decode cX0_copyFrom 29 = .ok (.aload_n 1, 1) := by decide +kernel
theorem dX0_copyFrom_30 : decode cX0_copyFrom 30 = .ok (.getfield 17, 3) := by decide +kernel
theorem dX0_copyFrom_33 : decode cX0_copyFrom 33 = .ok (.iconst 0, 1) := by decide +kernel
theorem dX0_copyFrom_34 : decode cX0_copyFrom 34 = .ok (.aload_n 0, 1) := by decide +kernel
theorem dX0_copyFrom_35 : decode cX0_copyFrom 35 = .ok (.getfield 17, 3) := by decide +kernel
theorem dX0_copyFrom_38 : decode cX0_copyFrom 38 = .ok (.iconst 0, 1) := by decide +kernel
theorem dX0_copyFrom_39 : decode cX0_copyFrom 39 = .ok (.iconst 4, 1) := by decide +kernel
theorem dX0_copyFrom_40 : decode cX0_copyFrom 40 = .ok (.invokestatic 32, 3) := by decide +kernel
theorem dX0_copyFrom_43 : decode cX0_copyFrom 43 = .ok (.aload_n 0, 1) := by decide +kernel
theorem dX0_copyFrom_44 : decode cX0_copyFrom 44 = .ok (.aload_n 1, 1) := by decide +kernel
theorem dX0_copyFrom_45 : decode cX0_copyFrom 45 = .ok (.getfield 38, 3) := by decide +kernel
theorem dX0_copyFrom_48 : decode cX0_copyFrom 48 = .ok (.putfield 38, 3) := by decide +kernel
theorem dX0_copyFrom_51 : decode cX0_copyFrom 51 = .ok (.aload_n 0, 1) := by decide +kernel
theorem dX0_copyFrom_52 : decode cX0_copyFrom 52 = .ok (.aload_n 1, 1) := by decide +kernel
theorem dX0_copyFrom_53 : decode cX0_copyFrom 53 = .ok (.getfield 41, 3) := by decide +kernel
theorem dX0_copyFrom_56 : decode cX0_copyFrom 56 = .ok (.putfield 41, 3) := by decide +kernel
theorem dX0_copyFrom_59 : decode cX0_copyFrom 59 = .ok (.aload_n 0, 1) := by decide +kernel
theorem dX0_copyFrom_60 : decode cX0_copyFrom 60 = .ok (.aload_n 1, 1) := by decide +kernel
theorem dX0_copyFrom_61 : decode cX0_copyFrom 61 = .ok (.getfield 44, 3) := by decide +kernel
theorem dX0_copyFrom_64 : decode cX0_copyFrom 64 = .ok (.putfield 44, 3) := by decide +kernel
theorem dX0_copyFrom_67 : decode cX0_copyFrom 67 = .ok (.aload_n 0, 1) := by decide +kernel
theorem dX0_copyFrom_68 : decode cX0_copyFrom 68 = .ok (.aload_n 1, 1) := by decide +kernel
theorem dX0_copyFrom_69 : decode cX0_copyFrom 69 = .ok (.getfield 21, 3) := by decide +kernel
theorem dX0_copyFrom_72 : decode cX0_copyFrom 72 = .ok (.putfield 21, 3) := by decide +kernel
theorem dX0_copyFrom_75 : decode cX0_copyFrom 75 = .ok (.aload_n 0, 1) := by decide +kernel
theorem dX0_copyFrom_76 : decode cX0_copyFrom 76 = .ok (.aload_n 1, 1) := by decide +kernel
theorem dX0_copyFrom_77 : decode cX0_copyFrom 77 = .ok (.getfield 47, 3) := by decide +kernel
theorem dX0_copyFrom_80 : decode cX0_copyFrom 80 = .ok (.putfield 47, 3) := by decide +kernel
theorem dX0_copyFrom_83 : decode cX0_copyFrom 83 = .ok (.aload_n 0, 1) := by decide +kernel
theorem dX0_copyFrom_84 : decode cX0_copyFrom 84 = .ok (.aload_n 1, 1) := by decide +kernel
theorem dX0_copyFrom_85 : decode cX0_copyFrom 85 = .ok (.getfield 50, 3) := by decide +kernel
theorem dX0_copyFrom_88 : decode cX0_copyFrom 88 = .ok (.putfield 50, 3) := by decide +kernel
theorem dX0_copyFrom_91 : decode cX0_copyFrom 91 = .ok (.aload_n 0, 1) := by decide +kernel
theorem dX0_copyFrom_92 : decode cX0_copyFrom 92 = .ok (.aload_n 1, 1) := by decide +kernel
theorem dX0_copyFrom_93 : decode cX0_copyFrom 93 = .ok (.getfield 53, 3) := by decide +kernel
theorem dX0_copyFrom_96 : decode cX0_copyFrom 96 = .ok (.putfield 53, 3) := by decide +kernel
theorem dX0_copyFrom_99 : decode cX0_copyFrom 99 = .ok (.aload_n 0, 1) := by decide +kernel
theorem dX0_copyFrom_100 : decode cX0_copyFrom 100 = .ok (.aload_n 1, 1) := by decide +kernel
theorem dX0_copyFrom_101 : decode cX0_copyFrom 101 = .ok (.getfield 56, 3) := by decide +kernel
theorem dX0_copyFrom_104 : decode cX0_copyFrom 104 = .ok (.putfield 56, 3) := by decide +kernel
theorem dX0_copyFrom_107 : decode cX0_copyFrom 107 = .ok (.aload_n 0, 1) := by decide +kernel
theorem dX0_copyFrom_108 : decode cX0_copyFrom 108 = .ok (.aload_n 1, 1) := by decide +kernel
theorem dX0_copyFrom_109 : decode cX0_copyFrom 109 = .ok (.getfield 59, 3) := by decide +kernel
theorem dX0_copyFrom_112 : decode cX0_copyFrom 112 = .ok (.putfield 59, 3) := by decide +kernel
theorem dX0_copyFrom_115 : decode cX0_copyFrom 115 = .ok (.return_, 1) := by decide +kernel
theorem dX0_find_0 : decode cX0_find 0 = .ok (.iload_n 1, 1) := by decide +kernel
theorem dX0_find_1 : decode cX0_find 1 = .ok (.ifCond .lt 21, 3) := by decide +kernel
theorem dX0_find_4 : decode cX0_find 4 = .ok (.iload_n 1, 1) := by decide +kernel
theorem dX0_find_5 : decode cX0_find 5 = .ok (.bipush 8, 2) := by decide +kernel
theorem dX0_find_7 : decode cX0_find 7 = .ok (.if_icmp .ge 15, 3) := by decide +kernel
theorem dX0_find_10 : decode cX0_find 10 = .ok (.aload_n 0, 1) := by decide +kernel
theorem dX0_find_11 : decode cX0_find 11 = .ok (.getfield 11, 3) := by decide +kernel
theorem dX0_find_14 : decode cX0_find 14 = .ok (.iload_n 1, 1) := by decide +kernel
theorem dX0_find_15 : decode cX0_find 15 = .ok (.aaload, 1) := by decide +kernel
theorem dX0_find_16 : decode cX0_find 16 = .ok (.getfield 62, 3) := by decide +kernel
theorem dX0_find_19 : decode cX0_find 19 = .ok (.ifCond .ne 5, 3) := by decide +kernel
theorem dX0_find_22 : decode cX0_find 22 = .ok (.aconst_null, 1) := by decide +kernel
theorem dX0_find_23 : decode cX0_find 23 = .ok (.areturn, 1) := by decide +kernel
theorem dX0_find_24 : decode cX0_find 24 = .ok (.aload_n 0, 1) := by decide +kernel
theorem dX0_find_25 : decode cX0_find 25 = .ok (.getfield 11, 3) := by decide +kernel
theorem dX0_find_28 : decode cX0_find 28 = .ok (.iload_n 1, 1) := by decide +kernel
theorem dX0_find_29 : decode cX0_find 29 = .ok (.aaload, 1) := by decide +kernel
theorem dX0_find_30 : decode cX0_find 30 = .ok (.areturn, 1) := by decide +kernel
theorem dX0_memberCount_0 : decode cX0_memberCount 0 = .ok (.iconst 0, 1) := by decide +kernel
theorem dX0_memberCount_1 : decode cX0_memberCount 1 = .ok (.istore_n 1, 1) := by decide +kernel
theorem dX0_memberCount_2 : decode cX0_memberCount 2 = .ok (.aload_n 0, 1) := by decide +kernel
theorem dX0_memberCount_3 : decode cX0_memberCount 3 = .ok (.getfield 11, 3) := by decide +kernel
theorem dX0_memberCount_6 : decode cX0_memberCount 6 = .ok (.astore_n 2, 1) := by decide +kernel
theorem dX0_memberCount_7 : decode cX0_memberCount 7 = .ok (.aload_n 2, 1) := by decide +kernel
theorem dX0_memberCount_8 : decode cX0_memberCount 8 = .ok (.arraylength, 1) := by decide +kernel
theorem dX0_memberCount_9 : decode cX0_memberCount 9 = .ok (.istore_n 3, 1) := by decide +kernel
theorem dX0_memberCount_10 : decode cX0_memberCount 10 = .ok (.iconst 0, 1) := by decide +kernel
theorem dX0_memberCount_11 : decode cX0_memberCount 11 = .ok (.istore 4, 2) := by decide +kernel
theorem dX0_memberCount_13 : decode cX0_memberCount 13 = .ok (.iload 4, 2) := by decide +kernel
theorem dX0_memberCount_15 : decode cX0_memberCount 15 = .ok (.iload_n 3, 1) := by decide +kernel
theorem dX0_memberCount_16 : decode cX0_memberCount 16 = .ok (.if_icmp .ge 31, 3) := by decide +kernel
theorem dX0_memberCount_19 : decode cX0_memberCount 19 = .ok (.aload_n 2, 1) := by decide +kernel
theorem dX0_memberCount_20 : decode cX0_memberCount 20 = .ok (.iload 4, 2) := by decide +kernel
theorem dX0_memberCount_22 : decode cX0_memberCount 22 = .ok (.aaload, 1) := by decide +kernel
theorem dX0_memberCount_23 : decode cX0_memberCount 23 = .ok (.astore 5, 2) := by decide +kernel
theorem dX0_memberCount_25 : decode cX0_memberCount 25 = .ok (.iload_n 1, 1) := by decide +kernel
theorem dX0_memberCount_26 : decode cX0_memberCount 26 = .ok (.aload 5, 2) := by decide +kernel
theorem dX0_memberCount_28 : decode cX0_memberCount 28 = .ok (.getfield 62, 3) := by decide +kernel
theorem dX0_memberCount_31 : decode cX0_memberCount 31 = .ok (.ifCond .eq 7, 3) := by decide +kernel
theorem dX0_memberCount_34 : decode cX0_memberCount 34 = .ok (.iconst 1, 1) := by decide +kernel
theorem dX0_memberCount_35 : decode cX0_memberCount 35 = .ok (.goto 4, 3) := by decide +kernel
theorem dX0_memberCount_38 : decode cX0_memberCount 38 = .ok (.iconst 0, 1) := by decide +kernel
theorem dX0_memberCount_39 : decode cX0_memberCount 39 = .ok (.iadd, 1) := by decide +kernel
theorem dX0_memberCount_40 : decode cX0_memberCount 40 = .ok (.istore_n 1, 1) := by decide +kernel
theorem dX0_memberCount_41 : decode cX0_memberCount 41 = .ok (.iinc 4 1, 3) := by decide +kernel
theorem dX0_memberCount_44 : decode cX0_memberCount 44 = .ok (.goto (-31), 3) := by decide +kernel
theorem dX0_memberCount_47 : decode cX0_memberCount 47 = .ok (.iload_n 1, 1) := by decide +kernel
theorem dX0_memberCount_48 : decode cX0_memberCount 48 = .ok (.ireturn, 1) := by decide +kernel
theorem dX0_awayMembers_0 : decode cX0_awayMembers 0 = .ok (.iconst 0, 1) := by decide +kernel
theorem dX0_awayMembers_1 : decode cX0_awayMembers 1 = .ok (.istore_n 1, 1) := by decide +kernel
theorem dX0_awayMembers_2 : decode cX0_awayMembers 2 = .ok (.aload_n 0, 1) := by decide +kernel
theorem dX0_awayMembers_3 : decode cX0_awayMembers 3 = .ok (.getfield 11, 3) := by decide +kernel
theorem dX0_awayMembers_6 : decode cX0_awayMembers 6 = .ok (.astore_n 2, 1) := by decide +kernel
theorem dX0_awayMembers_7 : decode cX0_awayMembers 7 = .ok (.aload_n 2, 1) := by decide +kernel
theorem dX0_awayMembers_8 : decode cX0_awayMembers 8 = .ok (.arraylength, 1) := by decide +kernel
theorem dX0_awayMembers_9 : decode cX0_awayMembers 9 = .ok (.istore_n 3, 1) := by decide +kernel
theorem dX0_awayMembers_10 : decode cX0_awayMembers 10 = .ok (.iconst 0, 1) := by decide +kernel
theorem dX0_awayMembers_11 : decode cX0_awayMembers 11 = .ok (.istore 4, 2) := by decide +kernel
theorem dX0_awayMembers_13 : decode cX0_awayMembers 13 = .ok (.iload 4, 2) := by decide +kernel
theorem dX0_awayMembers_15 : decode cX0_awayMembers 15 = .ok (.iload_n 3, 1) := by decide +kernel
theorem dX0_awayMembers_16 : decode cX0_awayMembers 16 = .ok (.if_icmp .ge 39, 3) := by decide +kernel
theorem dX0_awayMembers_19 : decode cX0_awayMembers 19 = .ok (.aload_n 2, 1) := by decide +kernel
theorem dX0_awayMembers_20 : decode cX0_awayMembers 20 = .ok (.iload 4, 2) := by decide +kernel
theorem dX0_awayMembers_22 : decode cX0_awayMembers 22 = .ok (.aaload, 1) := by decide +kernel
theorem dX0_awayMembers_23 : decode cX0_awayMembers 23 = .ok (.astore 5, 2) := by decide +kernel
theorem dX0_awayMembers_25 : decode cX0_awayMembers 25 = .ok (.iload_n 1, 1) := by decide +kernel
theorem dX0_awayMembers_26 : decode cX0_awayMembers 26 = .ok (.aload 5, 2) := by decide +kernel
theorem dX0_awayMembers_28 : decode cX0_awayMembers 28 = .ok (.getfield 62, 3) := by decide +kernel
theorem dX0_awayMembers_31 : decode cX0_awayMembers 31 = .ok (.ifCond .eq 15, 3) := by decide +kernel
theorem dX0_awayMembers_34 : decode cX0_awayMembers 34 = .ok (.aload 5, 2) := by decide +kernel
theorem dX0_awayMembers_36 : decode cX0_awayMembers 36 = .ok (.getfield 66, 3) := by decide +kernel
theorem dX0_awayMembers_39 : decode cX0_awayMembers 39 = .ok (.ifCond .eq 7, 3) := by decide +kernel
theorem dX0_awayMembers_42 : decode cX0_awayMembers 42 = .ok (.iconst 1, 1) := by decide +kernel
theorem dX0_awayMembers_43 : decode cX0_awayMembers 43 = .ok (.goto 4, 3) := by decide +kernel
theorem dX0_awayMembers_46 : decode cX0_awayMembers 46 = .ok (.iconst 0, 1) := by decide +kernel
theorem dX0_awayMembers_47 : decode cX0_awayMembers 47 = .ok (.iadd, 1) := by decide +kernel
theorem dX0_awayMembers_48 : decode cX0_awayMembers 48 = .ok (.istore_n 1, 1) := by decide +kernel
theorem dX0_awayMembers_49 : decode cX0_awayMembers 49 = .ok (.iinc 4 1, 3) := by decide +kernel
theorem dX0_awayMembers_52 : decode cX0_awayMembers 52 = .ok (.goto (-39), 3) := by decide +kernel
theorem dX0_awayMembers_55 : decode cX0_awayMembers 55 = .ok (.iload_n 1, 1) := by decide +kernel
theorem dX0_awayMembers_56 : decode cX0_awayMembers 56 = .ok (.ireturn, 1) := by decide +kernel
set_option maxRecDepth 20000 in
theorem ggX0_admit_X0_memberCount : GoodIn wsX0_admit wsX0_memberCount := goodIn_r _ [8, 3, 9, 10, 11, 12, 13, 14, 15, 16, 17, 18, 19, 20, 21, 22, 23, 24, 25, 26, 27, 28, 29, 30, 31, 32, 33, 34, 35] (by decide +kernel) (by decide +kernel)
set_option maxRecDepth 20000 in
theorem gX0_admit_X0_memberCount : GoodIn wsX0_admit (wsV RX0 69 RX0 yX0_memberCount wsX0_memberCount) := goodIn_app (goodIn_of _ (by decide +kernel)) ggX0_admit_X0_memberCount
theorem dX0_admit_0 : decode cX0_admit 0 = .ok (.aload_n 0, 1) := by decide +kernel
theorem dX0_admit_1 : decode cX0_admit 1 = .ok (.getfield 38, 3) := by decide +kernel
theorem dX0_admit_4 : decode cX0_admit 4 = .ok (.istore_n 1, 1) := by decide +kernel
theorem dX0_admit_5 : decode cX0_admit 5 = .ok (.iload_n 1, 1) := by decide +kernel
theorem dX0_admit_6 : decode cX0_admit 6 = .ok (.ifCond .lt 9, 3) := by decide +kernel
theorem dX0_admit_9 : decode cX0_admit 9 = .ok (.iload_n 1, 1) := by decide +kernel
theorem dX0_admit_10 : decode cX0_admit 10 = .ok (.bipush 8, 2) := by decide +kernel
theorem dX0_admit_12 : decode cX0_admit 12 = .ok (.if_icmp .lt 5, 3) := by decide +kernel
theorem dX0_admit_15 : decode cX0_admit 15 = .ok (.iconst (-1), 1) := by decide +kernel
theorem dX0_admit_16 : decode cX0_admit 16 = .ok (.ireturn, 1) := by decide +kernel
theorem dX0_admit_17 : decode cX0_admit 17 = .ok (.aload_n 0, 1) := by decide +kernel
theorem dX0_admit_18 : decode cX0_admit 18 = .ok (.invokevirtual 69, 3) := by decide +kernel
theorem dX0_admit_21 : decode cX0_admit 21 = .ok (.ifCond .ne 8, 3) := by decide +kernel
theorem dX0_admit_24 : decode cX0_admit 24 = .ok (.aload_n 0, 1) := by decide +kernel
theorem dX0_admit_25 : decode cX0_admit 25 = .ok (.iload_n 1, 1) := by decide +kernel
theorem dX0_admit_26 : decode cX0_admit 26 = .ok (.putfield 21, 3) := by decide +kernel
theorem dX0_admit_29 : decode cX0_admit 29 = .ok (.aload_n 0, 1) := by decide +kernel
theorem dX0_admit_30 : decode cX0_admit 30 = .ok (.getfield 11, 3) := by decide +kernel
theorem dX0_admit_33 : decode cX0_admit 33 = .ok (.iload_n 1, 1) := by decide +kernel
theorem dX0_admit_34 : decode cX0_admit 34 = .ok (.aaload, 1) := by decide +kernel
theorem dX0_admit_35 : decode cX0_admit 35 = .ok (.iconst 1, 1) := by decide +kernel
theorem dX0_admit_36 : decode cX0_admit 36 = .ok (.putfield 62, 3) := by decide +kernel
theorem dX0_admit_39 : decode cX0_admit 39 = .ok (.aload_n 0, 1) := by decide +kernel
theorem dX0_admit_40 : decode cX0_admit 40 = .ok (.getfield 11, 3) := by decide +kernel
theorem dX0_admit_43 : decode cX0_admit 43 = .ok (.iload_n 1, 1) := by decide +kernel
theorem dX0_admit_44 : decode cX0_admit 44 = .ok (.aaload, 1) := by decide +kernel
theorem dX0_admit_45 : decode cX0_admit 45 = .ok (.sipush 200, 3) := by decide +kernel
theorem dX0_admit_48 : decode cX0_admit 48 = .ok (.putfield 73, 3) := by decide +kernel
theorem dX0_admit_51 : decode cX0_admit 51 = .ok (.aload_n 0, 1) := by decide +kernel
theorem dX0_admit_52 : decode cX0_admit 52 = .ok (.dup, 1) := by decide +kernel
theorem dX0_admit_53 : decode cX0_admit 53 = .ok (.getfield 38, 3) := by decide +kernel
theorem dX0_admit_56 : decode cX0_admit 56 = .ok (.iconst 1, 1) := by decide +kernel
theorem dX0_admit_57 : decode cX0_admit 57 = .ok (.iadd, 1) := by decide +kernel
theorem dX0_admit_58 : decode cX0_admit 58 = .ok (.putfield 38, 3) := by decide +kernel
theorem dX0_admit_61 : decode cX0_admit 61 = .ok (.iload_n 1, 1) := by decide +kernel
theorem dX0_admit_62 : decode cX0_admit 62 = .ok (.ireturn, 1) := by decide +kernel
set_option maxRecDepth 20000 in
theorem ggX0_mayGo_X2_hasLoan : GoodIn wsX0_mayGo wsX2_hasLoan := goodIn_r _ [5, 6, 34, 35, 36, 37, 38, 39, 40, 41, 42, 43, 44, 45, 46, 47, 48, 49] (by decide +kernel) (by decide +kernel)
set_option maxRecDepth 20000 in
theorem gX0_mayGo_X2_hasLoan_n76 : GoodIn wsX0_mayGo (wsX2_hasLoan) := ggX0_mayGo_X2_hasLoan
set_option maxRecDepth 20000 in
theorem ggX0_mayGo_X2_hasDebts : GoodIn wsX0_mayGo wsX2_hasDebts := goodIn_r _ [9, 10, 11, 12, 13, 14, 3, 15, 16, 34, 35, 36, 37, 38, 39, 40, 41, 42, 43, 44, 45, 46, 47, 48, 49] (by decide +kernel) (by decide +kernel)
set_option maxRecDepth 20000 in
theorem gX0_mayGo_X2_hasDebts_n80 : GoodIn wsX0_mayGo (wsX2_hasDebts) := ggX0_mayGo_X2_hasDebts
set_option maxRecDepth 20000 in
theorem ggX0_mayGo_X0_owedTo : GoodIn wsX0_mayGo wsX0_owedTo := goodIn_r _ [21, 22, 23, 24, 25, 26, 27, 28, 29, 30, 31, 32, 33, 34, 35, 36, 37, 38, 39, 40, 41, 42, 43, 44, 45, 46, 47, 48, 49] (by decide +kernel) (by decide +kernel)
set_option maxRecDepth 20000 in
theorem gX0_mayGo_X0_owedTo : GoodIn wsX0_mayGo (wsV RX0 83 RX0 yX0_owedTo wsX0_owedTo) := goodIn_app (goodIn_of _ (by decide +kernel)) ggX0_mayGo_X0_owedTo
theorem dX0_mayGo_0 : decode cX0_mayGo 0 = .ok (.aload_n 1, 1) := by decide +kernel
theorem dX0_mayGo_1 : decode cX0_mayGo 1 = .ok (.invokevirtual 76, 3) := by decide +kernel
theorem dX0_mayGo_4 : decode cX0_mayGo 4 = .ok (.ifCond .ne 33, 3) := by decide +kernel
theorem dX0_mayGo_7 : decode cX0_mayGo 7 = .ok (.aload_n 1, 1) := by decide +kernel
theorem dX0_mayGo_8 : decode cX0_mayGo 8 = .ok (.invokevirtual 80, 3) := by decide +kernel
theorem dX0_mayGo_11 : decode cX0_mayGo 11 = .ok (.ifCond .ne 26, 3) := by decide +kernel
theorem dX0_mayGo_14 : decode cX0_mayGo 14 = .ok (.aload_n 0, 1) := by decide +kernel
theorem dX0_mayGo_15 : decode cX0_mayGo 15 = .ok (.aload_n 1, 1) := by decide +kernel
theorem dX0_mayGo_16 : decode cX0_mayGo 16 = .ok (.invokevirtual 83, 3) := by decide +kernel
theorem dX0_mayGo_19 : decode cX0_mayGo 19 = .ok (.ifCond .ne 18, 3) := by decide +kernel
theorem dX0_mayGo_22 : decode cX0_mayGo 22 = .ok (.aload_n 0, 1) := by decide +kernel
theorem dX0_mayGo_23 : decode cX0_mayGo 23 = .ok (.getfield 47, 3) := by decide +kernel
theorem dX0_mayGo_26 : decode cX0_mayGo 26 = .ok (.aload_n 1, 1) := by decide +kernel
theorem dX0_mayGo_27 : decode cX0_mayGo 27 = .ok (.getfield 87, 3) := by decide +kernel
theorem dX0_mayGo_30 : decode cX0_mayGo 30 = .ok (.if_icmp .lt 7, 3) := by decide +kernel
theorem dX0_mayGo_33 : decode cX0_mayGo 33 = .ok (.iconst 1, 1) := by decide +kernel
theorem dX0_mayGo_34 : decode cX0_mayGo 34 = .ok (.goto 4, 3) := by decide +kernel
theorem dX0_mayGo_37 : decode cX0_mayGo 37 = .ok (.iconst 0, 1) := by decide +kernel
theorem dX0_mayGo_38 : decode cX0_mayGo 38 = .ok (.ireturn, 1) := by decide +kernel
set_option maxRecDepth 20000 in
theorem ggX0_dismiss_X0_nextChair : GoodIn wsX0_dismiss wsX0_nextChair := goodIn_r _ [7, 2, 8, 9, 10, 11, 12, 13, 14, 6, 15, 16, 17, 18, 19, 20, 21, 22, 23, 24, 25, 26, 27, 28, 29, 30, 31, 32, 33, 34, 35, 36, 37, 38, 39, 40, 41, 42, 43, 44, 45, 46, 47, 48, 49, 50, 51, 52, 53, 54] (by decide +kernel) (by decide +kernel)
set_option maxRecDepth 20000 in
theorem gX0_dismiss_X0_nextChair : GoodIn wsX0_dismiss (wsV RX0 93 RX0 yX0_nextChair wsX0_nextChair) := goodIn_app (goodIn_of _ (by decide +kernel)) ggX0_dismiss_X0_nextChair
theorem dX0_dismiss_0 : decode cX0_dismiss 0 = .ok (.aload_n 0, 1) := by decide +kernel
theorem dX0_dismiss_1 : decode cX0_dismiss 1 = .ok (.dup, 1) := by decide +kernel
theorem dX0_dismiss_2 : decode cX0_dismiss 2 = .ok (.getfield 47, 3) := by decide +kernel
theorem dX0_dismiss_5 : decode cX0_dismiss 5 = .ok (.aload_n 1, 1) := by decide +kernel
theorem dX0_dismiss_6 : decode cX0_dismiss 6 = .ok (.getfield 87, 3) := by decide +kernel
theorem dX0_dismiss_9 : decode cX0_dismiss 9 = .ok (.isub, 1) := by decide +kernel
theorem dX0_dismiss_10 : decode cX0_dismiss 10 = .ok (.putfield 47, 3) := by decide +kernel
theorem dX0_dismiss_13 : decode cX0_dismiss 13 = .ok (.aload_n 1, 1) := by decide +kernel
theorem dX0_dismiss_14 : decode cX0_dismiss 14 = .ok (.iconst 0, 1) := by decide +kernel
theorem dX0_dismiss_15 : decode cX0_dismiss 15 = .ok (.putfield 62, 3) := by decide +kernel
theorem dX0_dismiss_18 : decode cX0_dismiss 18 = .ok (.aload_n 0, 1) := by decide +kernel
theorem dX0_dismiss_19 : decode cX0_dismiss 19 = .ok (.getfield 21, 3) := by decide +kernel
theorem dX0_dismiss_22 : decode cX0_dismiss 22 = .ok (.aload_n 1, 1) := by decide +kernel
theorem dX0_dismiss_23 : decode cX0_dismiss 23 = .ok (.getfield 90, 3) := by decide +kernel
theorem dX0_dismiss_26 : decode cX0_dismiss 26 = .ok (.if_icmp .ne 11, 3) := by decide +kernel
theorem dX0_dismiss_29 : decode cX0_dismiss 29 = .ok (.aload_n 0, 1) := by decide +kernel
theorem dX0_dismiss_30 : decode cX0_dismiss 30 = .ok (.aload_n 0, 1) := by decide +kernel
theorem dX0_dismiss_31 : decode cX0_dismiss 31 = .ok (.invokevirtual 93, 3) := by decide +kernel
theorem dX0_dismiss_34 : decode cX0_dismiss 34 = .ok (.putfield 21, 3) := by decide +kernel
theorem dX0_dismiss_37 : decode cX0_dismiss 37 = .ok (.aload_n 1, 1) := by decide +kernel
theorem dX0_dismiss_38 : decode cX0_dismiss 38 = .ok (.getfield 87, 3) := by decide +kernel
theorem dX0_dismiss_41 : decode cX0_dismiss 41 = .ok (.ireturn, 1) := by decide +kernel
set_option maxRecDepth 20000 in
theorem ggX0_nextChair_J9_floorMod_7cf53 : GoodIn wsX0_nextChair wsJ9_floorMod_7cf53 := goodIn_r _ [5] (by decide +kernel) (by decide +kernel)
set_option maxRecDepth 20000 in
theorem gX0_nextChair_J9_floorMod_7cf53 : GoodIn wsX0_nextChair (va_wsS RX0 96 yJ9_floorMod_7cf53 wsJ9_floorMod_7cf53) := goodIn_app (goodIn_of _ (by decide +kernel)) ggX0_nextChair_J9_floorMod_7cf53
set_option maxRecDepth 20000 in
theorem ggX0_nextChair_X0_find : GoodIn wsX0_nextChair wsX0_find := goodIn_r _ [10, 11, 23, 24, 25, 26, 27, 28, 29, 30, 31, 32, 33, 34, 35, 36, 37, 38, 39, 40, 41, 42, 43, 44, 45, 46, 47, 48, 49] (by decide +kernel) (by decide +kernel)
set_option maxRecDepth 20000 in
theorem gX0_nextChair_X0_find : GoodIn wsX0_nextChair (wsV RX0 102 RX0 yX0_find wsX0_find) := goodIn_app (goodIn_of _ (by decide +kernel)) ggX0_nextChair_X0_find
set_option maxRecDepth 20000 in
theorem ggX0_nextChair_X2_hasDebts : GoodIn wsX0_nextChair wsX2_hasDebts := goodIn_r _ [15, 16, 17, 18, 19, 20, 13, 21, 22, 34, 35, 36, 37, 38, 39, 40, 41, 42, 43, 44, 45, 46, 47, 48, 49] (by decide +kernel) (by decide +kernel)
set_option maxRecDepth 20000 in
theorem gX0_nextChair_X2_hasDebts_n80 : GoodIn wsX0_nextChair (wsX2_hasDebts) := ggX0_nextChair_X2_hasDebts
theorem dX0_nextChair_0 : decode cX0_nextChair 0 = .ok (.iconst 1, 1) := by decide +kernel
theorem dX0_nextChair_1 : decode cX0_nextChair 1 = .ok (.istore_n 1, 1) := by decide +kernel
theorem dX0_nextChair_2 : decode cX0_nextChair 2 = .ok (.iload_n 1, 1) := by decide +kernel
theorem dX0_nextChair_3 : decode cX0_nextChair 3 = .ok (.bipush 8, 2) := by decide +kernel
theorem dX0_nextChair_5 : decode cX0_nextChair 5 = .ok (.if_icmp .gt 41, 3) := by decide +kernel
theorem dX0_nextChair_8 : decode cX0_nextChair 8 = .ok (.aload_n 0, 1) := by decide +kernel
theorem dX0_nextChair_9 : decode cX0_nextChair 9 = .ok (.aload_n 0, 1) := by decide +kernel
theorem dX0_nextChair_10 : decode cX0_nextChair 10 = .ok (.getfield 21, 3) := by decide +kernel
theorem dX0_nextChair_13 : decode cX0_nextChair 13 = .ok (.iload_n 1, 1) := by decide +kernel
theorem dX0_nextChair_14 : decode cX0_nextChair 14 = .ok (.iadd, 1) := by decide +kernel
theorem dX0_nextChair_15 : decode cX0_nextChair 15 = .ok (.bipush 8, 2) := by decide +kernel
theorem dX0_nextChair_17 : decode cX0_nextChair 17 = .ok (.invokestatic 96, 3) := by decide +kernel
theorem dX0_nextChair_20 : decode cX0_nextChair 20 = .ok (.invokevirtual 102, 3) := by decide +kernel
theorem dX0_nextChair_23 : decode cX0_nextChair 23 = .ok (.astore_n 2, 1) := by decide +kernel
theorem dX0_nextChair_24 : decode cX0_nextChair 24 = .ok (.aload_n 2, 1) := by decide +kernel
theorem dX0_nextChair_25 : decode cX0_nextChair 25 = .ok (.ifnull 15, 3) := by decide +kernel
theorem dX0_nextChair_28 : decode cX0_nextChair 28 = .ok (.aload_n 2, 1) := by decide +kernel
theorem dX0_nextChair_29 : decode cX0_nextChair 29 = .ok (.invokevirtual 80, 3) := by decide +kernel
theorem dX0_nextChair_32 : decode cX0_nextChair 32 = .ok (.ifCond .ne 8, 3) := by decide +kernel
theorem dX0_nextChair_35 : decode cX0_nextChair 35 = .ok (.aload_n 2, 1) := by decide +kernel
theorem dX0_nextChair_36 : decode cX0_nextChair 36 = .ok (.getfield 90, 3) := by decide +kernel
theorem dX0_nextChair_39 : decode cX0_nextChair 39 = .ok (.ireturn, 1) := by decide +kernel
theorem dX0_nextChair_40 : decode cX0_nextChair 40 = .ok (.iinc 1 1, 3) := by decide +kernel
theorem dX0_nextChair_43 : decode cX0_nextChair 43 = .ok (.goto (-41), 3) := by decide +kernel
theorem dX0_nextChair_46 : decode cX0_nextChair 46 = .ok (.iconst (-1), 1) := by decide +kernel
theorem dX0_nextChair_47 : decode cX0_nextChair 47 = .ok (.ireturn, 1) := by decide +kernel
set_option maxRecDepth 20000 in
theorem ggX0_grantLoan_X2_borrow : GoodIn wsX0_grantLoan wsX2_borrow := goodIn_r _ [6, 7, 8, 9, 10, 11, 23, 24, 25, 26, 27, 28, 29, 30, 31, 32, 33, 34, 35, 36, 37, 38] (by decide +kernel) (by decide +kernel)
set_option maxRecDepth 20000 in
theorem gX0_grantLoan_X2_borrow_n106 : GoodIn wsX0_grantLoan (wsX2_borrow) := ggX0_grantLoan_X2_borrow
theorem dX0_grantLoan_0 : decode cX0_grantLoan 0 = .ok (.aload_n 1, 1) := by decide +kernel
theorem dX0_grantLoan_1 : decode cX0_grantLoan 1 = .ok (.iload_n 2, 1) := by decide +kernel
theorem dX0_grantLoan_2 : decode cX0_grantLoan 2 = .ok (.iload_n 3, 1) := by decide +kernel
theorem dX0_grantLoan_3 : decode cX0_grantLoan 3 = .ok (.iload_n 2, 1) := by decide +kernel
theorem dX0_grantLoan_4 : decode cX0_grantLoan 4 = .ok (.aload_n 0, 1) := by decide +kernel
theorem dX0_grantLoan_5 : decode cX0_grantLoan 5 = .ok (.getfield 17, 3) := by decide +kernel
theorem dX0_grantLoan_8 : decode cX0_grantLoan 8 = .ok (.iconst 0, 1) := by decide +kernel
theorem dX0_grantLoan_9 : decode cX0_grantLoan 9 = .ok (.iaload, 1) := by decide +kernel
theorem dX0_grantLoan_10 : decode cX0_grantLoan 10 = .ok (.imul, 1) := by decide +kernel
theorem dX0_grantLoan_11 : decode cX0_grantLoan 11 = .ok (.sipush 1000, 3) := by decide +kernel
theorem dX0_grantLoan_14 : decode cX0_grantLoan 14 = .ok (.idiv, 1) := by decide +kernel
theorem dX0_grantLoan_15 : decode cX0_grantLoan 15 = .ok (.invokevirtual 106, 3) := by decide +kernel
theorem dX0_grantLoan_18 : decode cX0_grantLoan 18 = .ok (.aload_n 0, 1) := by decide +kernel
theorem dX0_grantLoan_19 : decode cX0_grantLoan 19 = .ok (.dup, 1) := by decide +kernel
theorem dX0_grantLoan_20 : decode cX0_grantLoan 20 = .ok (.getfield 50, 3) := by decide +kernel
theorem dX0_grantLoan_23 : decode cX0_grantLoan 23 = .ok (.iload_n 2, 1) := by decide +kernel
theorem dX0_grantLoan_24 : decode cX0_grantLoan 24 = .ok (.iadd, 1) := by decide +kernel
theorem dX0_grantLoan_25 : decode cX0_grantLoan 25 = .ok (.putfield 50, 3) := by decide +kernel
theorem dX0_grantLoan_28 : decode cX0_grantLoan 28 = .ok (.return_, 1) := by decide +kernel
theorem dX0_takePayment_0 : decode cX0_takePayment 0 = .ok (.iload_n 2, 1) := by decide +kernel
theorem dX0_takePayment_1 : decode cX0_takePayment 1 = .ok (.aload_n 1, 1) := by decide +kernel
theorem dX0_takePayment_2 : decode cX0_takePayment 2 = .ok (.getfield 110, 3) := by decide +kernel
theorem dX0_takePayment_5 : decode cX0_takePayment 5 = .ok (.invokestatic 113, 3) := by decide +kernel
theorem dX0_takePayment_8 : decode cX0_takePayment 8 = .ok (.istore_n 3, 1) := by decide +kernel
theorem dX0_takePayment_9 : decode cX0_takePayment 9 = .ok (.aload_n 1, 1) := by decide +kernel
theorem dX0_takePayment_10 : decode cX0_takePayment 10 = .ok (.dup, 1) := by decide +kernel
theorem dX0_takePayment_11 : decode cX0_takePayment 11 = .ok (.getfield 110, 3) := by decide +kernel
theorem dX0_takePayment_14 : decode cX0_takePayment 14 = .ok (.iload_n 3, 1) := by decide +kernel
theorem dX0_takePayment_15 : decode cX0_takePayment 15 = .ok (.isub, 1) := by decide +kernel
theorem dX0_takePayment_16 : decode cX0_takePayment 16 = .ok (.putfield 110, 3) := by decide +kernel
theorem dX0_takePayment_19 : decode cX0_takePayment 19 = .ok (.aload_n 0, 1) := by decide +kernel
theorem dX0_takePayment_20 : decode cX0_takePayment 20 = .ok (.dup, 1) := by decide +kernel
theorem dX0_takePayment_21 : decode cX0_takePayment 21 = .ok (.getfield 56, 3) := by decide +kernel
theorem dX0_takePayment_24 : decode cX0_takePayment 24 = .ok (.iload_n 3, 1) := by decide +kernel
theorem dX0_takePayment_25 : decode cX0_takePayment 25 = .ok (.iadd, 1) := by decide +kernel
theorem dX0_takePayment_26 : decode cX0_takePayment 26 = .ok (.putfield 56, 3) := by decide +kernel
theorem dX0_takePayment_29 : decode cX0_takePayment 29 = .ok (.iload_n 2, 1) := by decide +kernel
theorem dX0_takePayment_30 : decode cX0_takePayment 30 = .ok (.iload_n 3, 1) := by decide +kernel
theorem dX0_takePayment_31 : decode cX0_takePayment 31 = .ok (.isub, 1) := by decide +kernel
theorem dX0_takePayment_32 : decode cX0_takePayment 32 = .ok (.istore 4, 2) := by decide +kernel
theorem dX0_takePayment_34 : decode cX0_takePayment 34 = .ok (.iload 4, 2) := by decide +kernel
theorem dX0_takePayment_36 : decode cX0_takePayment 36 = .ok (.aload_n 1, 1) := by decide +kernel
theorem dX0_takePayment_37 : decode cX0_takePayment 37 = .ok (.getfield 116, 3) := by decide +kernel
theorem dX0_takePayment_40 : decode cX0_takePayment 40 = .ok (.invokestatic 113, 3) := by decide +kernel
theorem dX0_takePayment_43 : decode cX0_takePayment 43 = .ok (.istore 5, 2) := by decide +kernel
theorem dX0_takePayment_45 : decode cX0_takePayment 45 = .ok (.aload_n 1, 1) := by decide +kernel
theorem dX0_takePayment_46 : decode cX0_takePayment 46 = .ok (.dup, 1) := by decide +kernel
theorem dX0_takePayment_47 : decode cX0_takePayment 47 = .ok (.getfield 116, 3) := by decide +kernel
theorem dX0_takePayment_50 : decode cX0_takePayment 50 = .ok (.iload 5, 2) := by decide +kernel
theorem dX0_takePayment_52 : decode cX0_takePayment 52 = .ok (.isub, 1) := by decide +kernel
theorem dX0_takePayment_53 : decode cX0_takePayment 53 = .ok (.putfield 116, 3) := by decide +kernel
theorem dX0_takePayment_56 : decode cX0_takePayment 56 = .ok (.aload_n 0, 1) := by decide +kernel
theorem dX0_takePayment_57 : decode cX0_takePayment 57 = .ok (.dup, 1) := by decide +kernel
theorem dX0_takePayment_58 : decode cX0_takePayment 58 = .ok (.getfield 47, 3) := by decide +kernel
theorem dX0_takePayment_61 : decode cX0_takePayment 61 = .ok (.iload 5, 2) := by decide +kernel
theorem dX0_takePayment_63 : decode cX0_takePayment 63 = .ok (.iadd, 1) := by decide +kernel
theorem dX0_takePayment_64 : decode cX0_takePayment 64 = .ok (.putfield 47, 3) := by decide +kernel
theorem dX0_takePayment_67 : decode cX0_takePayment 67 = .ok (.iload 4, 2) := by decide +kernel
theorem dX0_takePayment_69 : decode cX0_takePayment 69 = .ok (.iload 5, 2) := by decide +kernel
theorem dX0_takePayment_71 : decode cX0_takePayment 71 = .ok (.isub, 1) := by decide +kernel
theorem dX0_takePayment_72 : decode cX0_takePayment 72 = .ok (.istore 4, 2) := by decide +kernel
theorem dX0_takePayment_74 : decode cX0_takePayment 74 = .ok (.iconst 0, 1) := by decide +kernel
theorem dX0_takePayment_75 : decode cX0_takePayment 75 = .ok (.istore 6, 2) := by decide +kernel
theorem dX0_takePayment_77 : decode cX0_takePayment 77 = .ok (.iload 6, 2) := by decide +kernel
theorem dX0_takePayment_79 : decode cX0_takePayment 79 = .ok (.bipush 8, 2) := by decide +kernel
theorem dX0_takePayment_81 : decode cX0_takePayment 81 = .ok (.if_icmp .ge 42, 3) := by decide +kernel
theorem dX0_takePayment_84 : decode cX0_takePayment 84 = .ok (.iload 4, 2) := by decide +kernel
theorem dX0_takePayment_86 : decode cX0_takePayment 86 = .ok (.aload_n 1, 1) := by decide +kernel
theorem dX0_takePayment_87 : decode cX0_takePayment 87 = .ok (.getfield 119, 3) := by decide +kernel
theorem dX0_takePayment_90 : decode cX0_takePayment 90 = .ok (.iload 6, 2) := by decide +kernel
theorem dX0_takePayment_92 : decode cX0_takePayment 92 = .ok (.iaload, 1) := by decide +kernel
theorem dX0_takePayment_93 : decode cX0_takePayment 93 = .ok (.invokestatic 113, 3) := by decide +kernel
theorem dX0_takePayment_96 : decode cX0_takePayment 96 = .ok (.istore 7, 2) := by decide +kernel
theorem dX0_takePayment_98 : decode cX0_takePayment 98 = .ok (.aload_n 1, 1) := by decide +kernel
theorem dX0_takePayment_99 : decode cX0_takePayment 99 = .ok (.getfield 119, 3) := by decide +kernel
theorem dX0_takePayment_102 : decode cX0_takePayment 102 = .ok (.iload 6, 2) := by decide +kernel
theorem dX0_takePayment_104 : decode cX0_takePayment 104 = .ok (.dup2, 1) := by decide +kernel
theorem dX0_takePayment_105 : decode cX0_takePayment 105 = .ok (.iaload, 1) := by decide +kernel
theorem dX0_takePayment_106 : decode cX0_takePayment 106 = .ok (.iload 7, 2) := by decide +kernel
theorem dX0_takePayment_108 : decode cX0_takePayment 108 = .ok (.isub, 1) := by decide +kernel
theorem dX0_takePayment_109 : decode cX0_takePayment 109 = .ok (.iastore, 1) := by decide +kernel
theorem dX0_takePayment_110 : decode cX0_takePayment 110 = .ok (.iload 4, 2) := by decide +kernel
theorem dX0_takePayment_112 : decode cX0_takePayment 112 = .ok (.iload 7, 2) := by decide +kernel
theorem dX0_takePayment_114 : decode cX0_takePayment 114 = .ok (.isub, 1) := by decide +kernel
theorem dX0_takePayment_115 : decode cX0_takePayment 115 = .ok (.istore 4, 2) := by decide +kernel
theorem dX0_takePayment_117 : decode cX0_takePayment 117 = .ok (.iinc 6 1, 3) := by decide +kernel
theorem dX0_takePayment_120 : decode cX0_takePayment 120 = .ok (.goto (-43), 3) := by decide +kernel
theorem dX0_takePayment_123 : decode cX0_takePayment 123 = .ok (.iload_n 2, 1) := by decide +kernel
theorem dX0_takePayment_124 : decode cX0_takePayment 124 = .ok (.iload 4, 2) := by decide +kernel
theorem dX0_takePayment_126 : decode cX0_takePayment 126 = .ok (.isub, 1) := by decide +kernel
theorem dX0_takePayment_127 : decode cX0_takePayment 127 = .ok (.ireturn, 1) := by decide +kernel
theorem dX0_mayHelp_0 : decode cX0_mayHelp 0 = .ok (.aload_n 0, 1) := by decide +kernel
theorem dX0_mayHelp_1 : decode cX0_mayHelp 1 = .ok (.getfield 21, 3) := by decide +kernel
theorem dX0_mayHelp_4 : decode cX0_mayHelp 4 = .ok (.iconst (-1), 1) := by decide +kernel
theorem dX0_mayHelp_5 : decode cX0_mayHelp 5 = .ok (.if_icmp .eq 43, 3) := by decide +kernel
theorem dX0_mayHelp_8 : decode cX0_mayHelp 8 = .ok (.aload_n 0, 1) := by decide +kernel
theorem dX0_mayHelp_9 : decode cX0_mayHelp 9 = .ok (.getfield 21, 3) := by decide +kernel
theorem dX0_mayHelp_12 : decode cX0_mayHelp 12 = .ok (.aload_n 1, 1) := by decide +kernel
theorem dX0_mayHelp_13 : decode cX0_mayHelp 13 = .ok (.getfield 90, 3) := by decide +kernel
theorem dX0_mayHelp_16 : decode cX0_mayHelp 16 = .ok (.if_icmp .eq 32, 3) := by decide +kernel
theorem dX0_mayHelp_19 : decode cX0_mayHelp 19 = .ok (.aload_n 1, 1) := by decide +kernel
theorem dX0_mayHelp_20 : decode cX0_mayHelp 20 = .ok (.getfield 116, 3) := by decide +kernel
theorem dX0_mayHelp_23 : decode cX0_mayHelp 23 = .ok (.ifCond .ne 25, 3) := by decide +kernel
theorem dX0_mayHelp_26 : decode cX0_mayHelp 26 = .ok (.iload_n 2, 1) := by decide +kernel
theorem dX0_mayHelp_27 : decode cX0_mayHelp 27 = .ok (.aload_n 0, 1) := by decide +kernel
theorem dX0_mayHelp_28 : decode cX0_mayHelp 28 = .ok (.getfield 47, 3) := by decide +kernel
theorem dX0_mayHelp_31 : decode cX0_mayHelp 31 = .ok (.aload_n 0, 1) := by decide +kernel
theorem dX0_mayHelp_32 : decode cX0_mayHelp 32 = .ok (.getfield 17, 3) := by decide +kernel
theorem dX0_mayHelp_35 : decode cX0_mayHelp 35 = .ok (.iconst 3, 1) := by decide +kernel
theorem dX0_mayHelp_36 : decode cX0_mayHelp 36 = .ok (.iaload, 1) := by decide +kernel
theorem dX0_mayHelp_37 : decode cX0_mayHelp 37 = .ok (.imul, 1) := by decide +kernel
theorem dX0_mayHelp_38 : decode cX0_mayHelp 38 = .ok (.bipush 100, 2) := by decide +kernel
theorem dX0_mayHelp_40 : decode cX0_mayHelp 40 = .ok (.idiv, 1) := by decide +kernel
theorem dX0_mayHelp_41 : decode cX0_mayHelp 41 = .ok (.if_icmp .gt 7, 3) := by decide +kernel
theorem dX0_mayHelp_44 : decode cX0_mayHelp 44 = .ok (.iconst 1, 1) := by decide +kernel
theorem dX0_mayHelp_45 : decode cX0_mayHelp 45 = .ok (.goto 4, 3) := by decide +kernel
theorem dX0_mayHelp_48 : decode cX0_mayHelp 48 = .ok (.iconst 0, 1) := by decide +kernel
theorem dX0_mayHelp_49 : decode cX0_mayHelp 49 = .ok (.ireturn, 1) := by decide +kernel
theorem dX0_grantHelp_0 : decode cX0_grantHelp 0 = .ok (.aload_n 0, 1) := by decide +kernel
theorem dX0_grantHelp_1 : decode cX0_grantHelp 1 = .ok (.dup, 1) := by decide +kernel
theorem dX0_grantHelp_2 : decode cX0_grantHelp 2 = .ok (.getfield 47, 3) := by decide +kernel
theorem dX0_grantHelp_5 : decode cX0_grantHelp 5 = .ok (.iload_n 2, 1) := by decide +kernel
theorem dX0_grantHelp_6 : decode cX0_grantHelp 6 = .ok (.isub, 1) := by decide +kernel
theorem dX0_grantHelp_7 : decode cX0_grantHelp 7 = .ok (.putfield 47, 3) := by decide +kernel
theorem dX0_grantHelp_10 : decode cX0_grantHelp 10 = .ok (.aload_n 1, 1) := by decide +kernel
theorem dX0_grantHelp_11 : decode cX0_grantHelp 11 = .ok (.dup, 1) := by decide +kernel
theorem dX0_grantHelp_12 : decode cX0_grantHelp 12 = .ok (.getfield 116, 3) := by decide +kernel
theorem dX0_grantHelp_15 : decode cX0_grantHelp 15 = .ok (.iload_n 2, 1) := by decide +kernel
theorem dX0_grantHelp_16 : decode cX0_grantHelp 16 = .ok (.iadd, 1) := by decide +kernel
theorem dX0_grantHelp_17 : decode cX0_grantHelp 17 = .ok (.putfield 116, 3) := by decide +kernel
theorem dX0_grantHelp_20 : decode cX0_grantHelp 20 = .ok (.return_, 1) := by decide +kernel
set_option maxRecDepth 20000 in
theorem ggX0_mayBeginCycle_X0_mostLoanWeeks : GoodIn wsX0_mayBeginCycle wsX0_mostLoanWeeks := goodIn_r _ [5, 6, 7, 8, 9, 10, 15, 16, 17, 18, 19, 20, 21, 22, 23, 24, 25, 26, 27, 28, 29, 30, 31, 32, 33, 34, 35, 36, 37, 38, 39, 40, 41] (by decide +kernel) (by decide +kernel)
set_option maxRecDepth 20000 in
theorem gX0_mayBeginCycle_X0_mostLoanWeeks : GoodIn wsX0_mayBeginCycle (wsV RX0 122 RX0 yX0_mostLoanWeeks wsX0_mostLoanWeeks) := goodIn_app (goodIn_of _ (by decide +kernel)) ggX0_mayBeginCycle_X0_mostLoanWeeks
set_option maxRecDepth 20000 in
theorem ggX0_mayBeginCycle_X0_bankDebts : GoodIn wsX0_mayBeginCycle wsX0_bankDebts := goodIn_r _ [14, 6, 15, 16, 17, 18, 19, 20, 21, 22, 23, 24, 25, 26, 27, 28, 29, 30, 31, 32, 33, 34, 35, 36, 37, 38, 39, 40, 41] (by decide +kernel) (by decide +kernel)
set_option maxRecDepth 20000 in
theorem gX0_mayBeginCycle_X0_bankDebts : GoodIn wsX0_mayBeginCycle (wsV RX0 125 RX0 yX0_bankDebts wsX0_bankDebts) := goodIn_app (goodIn_of _ (by decide +kernel)) ggX0_mayBeginCycle_X0_bankDebts
theorem dX0_mayBeginCycle_0 : decode cX0_mayBeginCycle 0 = .ok (.aload_n 0, 1) := by decide +kernel
theorem dX0_mayBeginCycle_1 : decode cX0_mayBeginCycle 1 = .ok (.invokevirtual 122, 3) := by decide +kernel
theorem dX0_mayBeginCycle_4 : decode cX0_mayBeginCycle 4 = .ok (.ifCond .ne 14, 3) := by decide +kernel
theorem dX0_mayBeginCycle_7 : decode cX0_mayBeginCycle 7 = .ok (.aload_n 0, 1) := by decide +kernel
theorem dX0_mayBeginCycle_8 : decode cX0_mayBeginCycle 8 = .ok (.invokevirtual 125, 3) := by decide +kernel
theorem dX0_mayBeginCycle_11 : decode cX0_mayBeginCycle 11 = .ok (.ifCond .ne 7, 3) := by decide +kernel
theorem dX0_mayBeginCycle_14 : decode cX0_mayBeginCycle 14 = .ok (.iconst 1, 1) := by decide +kernel
theorem dX0_mayBeginCycle_15 : decode cX0_mayBeginCycle 15 = .ok (.goto 4, 3) := by decide +kernel
theorem dX0_mayBeginCycle_18 : decode cX0_mayBeginCycle 18 = .ok (.iconst 0, 1) := by decide +kernel
theorem dX0_mayBeginCycle_19 : decode cX0_mayBeginCycle 19 = .ok (.ireturn, 1) := by decide +kernel
set_option maxRecDepth 20000 in
theorem ggX0_beginCycle_X2_nextLimit : GoodIn wsX0_beginCycle wsX2_nextLimit := goodIn_r _ [6, 7, 8, 9, 10, 11, 12, 13, 14, 15, 27, 28, 29, 30, 31, 32, 33, 34, 35, 36, 37, 38, 39, 40, 41, 42] (by decide +kernel) (by decide +kernel)
set_option maxRecDepth 20000 in
theorem gX0_beginCycle_X2_nextLimit_n128 : GoodIn wsX0_beginCycle (wsX2_nextLimit) := ggX0_beginCycle_X2_nextLimit
theorem dX0_beginCycle_0 : decode cX0_beginCycle 0 = .ok (.aload_n 0, 1) := by decide +kernel
theorem dX0_beginCycle_1 : decode cX0_beginCycle 1 = .ok (.getfield 11, 3) := by decide +kernel
theorem dX0_beginCycle_4 : decode cX0_beginCycle 4 = .ok (.astore_n 1, 1) := by decide +kernel
theorem dX0_beginCycle_5 : decode cX0_beginCycle 5 = .ok (.aload_n 1, 1) := by decide +kernel
theorem dX0_beginCycle_6 : decode cX0_beginCycle 6 = .ok (.arraylength, 1) := by decide +kernel
theorem dX0_beginCycle_7 : decode cX0_beginCycle 7 = .ok (.istore_n 2, 1) := by decide +kernel
theorem dX0_beginCycle_8 : decode cX0_beginCycle 8 = .ok (.iconst 0, 1) := by decide +kernel
theorem dX0_beginCycle_9 : decode cX0_beginCycle 9 = .ok (.istore_n 3, 1) := by decide +kernel
theorem dX0_beginCycle_10 : decode cX0_beginCycle 10 = .ok (.iload_n 3, 1) := by decide +kernel
theorem dX0_beginCycle_11 : decode cX0_beginCycle 11 = .ok (.iload_n 2, 1) := by decide +kernel
theorem dX0_beginCycle_12 : decode cX0_beginCycle 12 = .ok (.if_icmp .ge 30, 3) := by decide +kernel
theorem dX0_beginCycle_15 : decode cX0_beginCycle 15 = .ok (.aload_n 1, 1) := by decide +kernel
theorem dX0_beginCycle_16 : decode cX0_beginCycle 16 = .ok (.iload_n 3, 1) := by decide +kernel
theorem dX0_beginCycle_17 : decode cX0_beginCycle 17 = .ok (.aaload, 1) := by decide +kernel
theorem dX0_beginCycle_18 : decode cX0_beginCycle 18 = .ok (.astore 4, 2) := by decide +kernel
theorem dX0_beginCycle_20 : decode cX0_beginCycle 20 = .ok (.aload 4, 2) := by decide +kernel
theorem dX0_beginCycle_22 : decode cX0_beginCycle 22 = .ok (.aload 4, 2) := by decide +kernel
theorem dX0_beginCycle_24 : decode cX0_beginCycle 24 = .ok (.invokevirtual 128, 3) := by decide +kernel
theorem dX0_beginCycle_27 : decode cX0_beginCycle 27 = .ok (.putfield 73, 3) := by decide +kernel
theorem dX0_beginCycle_30 : decode cX0_beginCycle 30 = .ok (.aload 4, 2) := by decide +kernel
theorem dX0_beginCycle_32 : decode cX0_beginCycle 32 = .ok (.iconst 0, 1) := by decide +kernel
theorem dX0_beginCycle_33 : decode cX0_beginCycle 33 = .ok (.putfield 131, 3) := by decide +kernel
theorem dX0_beginCycle_36 : decode cX0_beginCycle 36 = .ok (.iinc 3 1, 3) := by decide +kernel
theorem dX0_beginCycle_39 : decode cX0_beginCycle 39 = .ok (.goto (-29), 3) := by decide +kernel
theorem dX0_beginCycle_42 : decode cX0_beginCycle 42 = .ok (.aload_n 0, 1) := by decide +kernel
theorem dX0_beginCycle_43 : decode cX0_beginCycle 43 = .ok (.dup, 1) := by decide +kernel
theorem dX0_beginCycle_44 : decode cX0_beginCycle 44 = .ok (.getfield 44, 3) := by decide +kernel
theorem dX0_beginCycle_47 : decode cX0_beginCycle 47 = .ok (.iconst 1, 1) := by decide +kernel
theorem dX0_beginCycle_48 : decode cX0_beginCycle 48 = .ok (.iadd, 1) := by decide +kernel
theorem dX0_beginCycle_49 : decode cX0_beginCycle 49 = .ok (.putfield 44, 3) := by decide +kernel
theorem dX0_beginCycle_52 : decode cX0_beginCycle 52 = .ok (.return_, 1) := by decide +kernel
theorem dX0_mayEndWeek_0 : decode cX0_mayEndWeek 0 = .ok (.aload_n 0, 1) := by decide +kernel
theorem dX0_mayEndWeek_1 : decode cX0_mayEndWeek 1 = .ok (.getfield 41, 3) := by decide +kernel
theorem dX0_mayEndWeek_4 : decode cX0_mayEndWeek 4 = .ok (.sipush 999, 3) := by decide +kernel
theorem dX0_mayEndWeek_7 : decode cX0_mayEndWeek 7 = .ok (.if_icmp .ge 7, 3) := by decide +kernel
theorem dX0_mayEndWeek_10 : decode cX0_mayEndWeek 10 = .ok (.iconst 1, 1) := by decide +kernel
theorem dX0_mayEndWeek_11 : decode cX0_mayEndWeek 11 = .ok (.goto 4, 3) := by decide +kernel
theorem dX0_mayEndWeek_14 : decode cX0_mayEndWeek 14 = .ok (.iconst 0, 1) := by decide +kernel
theorem dX0_mayEndWeek_15 : decode cX0_mayEndWeek 15 = .ok (.ireturn, 1) := by decide +kernel
set_option maxRecDepth 20000 in
theorem ggX0_endWeek_X2_hasLoan : GoodIn wsX0_endWeek wsX2_hasLoan := goodIn_r _ [8, 9, 95, 96, 97, 98, 99, 100, 101, 102, 103, 104, 105, 106, 107, 108, 109, 110] (by decide +kernel) (by decide +kernel)
set_option maxRecDepth 20000 in
theorem gX0_endWeek_X2_hasLoan_n76 : GoodIn wsX0_endWeek (wsX2_hasLoan) := ggX0_endWeek_X2_hasLoan
set_option maxRecDepth 20000 in
theorem ggX0_endWeek_X0_settleDue : GoodIn wsX0_endWeek wsX0_settleDue := goodIn_r _ [14, 15, 16, 17, 6, 18, 19, 20, 21, 5, 7, 8, 9, 22, 23, 24, 25, 26, 27, 28, 29, 30, 13, 31, 32, 33, 34, 35, 36, 37, 38, 39, 40, 41, 1, 42, 43, 44, 45, 46, 47, 48, 49, 50, 51, 52, 53, 84, 85, 86, 87, 88, 89, 90, 91, 92, 93, 94, 95, 96, 97, 98, 99, 100, 101, 102, 103, 104, 105, 106, 107, 108, 109, 110] (by decide +kernel) (by decide +kernel)
set_option maxRecDepth 20000 in
theorem gX0_endWeek_X0_settleDue : GoodIn wsX0_endWeek (wsV RX0 134 RX0 yX0_settleDue wsX0_settleDue) := goodIn_app (goodIn_of _ (by decide +kernel)) ggX0_endWeek_X0_settleDue
set_option maxRecDepth 20000 in
theorem ggX0_endWeek_X0_saveMoney : GoodIn wsX0_endWeek wsX0_saveMoney := goodIn_r _ [57, 1, 3, 33, 84, 85, 86, 87, 88, 89, 90, 91, 92, 93, 94, 95, 96, 97, 98, 99, 100, 101, 102, 103, 104, 105, 106, 107, 108, 109, 110] (by decide +kernel) (by decide +kernel)
set_option maxRecDepth 20000 in
theorem gX0_endWeek_X0_saveMoney : GoodIn wsX0_endWeek (wsV RX0 137 RX0 yX0_saveMoney wsX0_saveMoney) := goodIn_app (goodIn_of _ (by decide +kernel)) ggX0_endWeek_X0_saveMoney
set_option maxRecDepth 20000 in
theorem ggX0_endWeek_X0_nextChair : GoodIn wsX0_endWeek wsX0_nextChair := goodIn_r _ [61, 4, 62, 63, 64, 65, 66, 67, 68, 13, 69, 1, 70, 6, 71, 72, 73, 74, 75, 76, 77, 78, 79, 84, 85, 86, 87, 88, 89, 90, 91, 92, 93, 94, 95, 96, 97, 98, 99, 100, 101, 102, 103, 104, 105, 106, 107, 108, 109, 110] (by decide +kernel) (by decide +kernel)
set_option maxRecDepth 20000 in
theorem gX0_endWeek_X0_nextChair : GoodIn wsX0_endWeek (wsV RX0 93 RX0 yX0_nextChair wsX0_nextChair) := goodIn_app (goodIn_of _ (by decide +kernel)) ggX0_endWeek_X0_nextChair
set_option maxRecDepth 20000 in
theorem ggX0_endWeek_X0_letBeAway : GoodIn wsX0_endWeek wsX0_letBeAway := goodIn_r _ [83, 1, 84, 85, 86, 87, 88, 89, 90, 91, 92, 93, 94, 95, 96, 97, 98, 99, 100, 101, 102, 103, 104, 105, 106, 107, 108, 109, 110] (by decide +kernel) (by decide +kernel)
set_option maxRecDepth 20000 in
theorem gX0_endWeek_X0_letBeAway : GoodIn wsX0_endWeek (wsV RX0 140 RX0 yX0_letBeAway wsX0_letBeAway) := goodIn_app (goodIn_of _ (by decide +kernel)) ggX0_endWeek_X0_letBeAway
theorem dX0_endWeek_0 : decode cX0_endWeek 0 = .ok (.aload_n 0, 1) := by decide +kernel
theorem dX0_endWeek_1 : decode cX0_endWeek 1 = .ok (.getfield 11, 3) := by decide +kernel
theorem dX0_endWeek_4 : decode cX0_endWeek 4 = .ok (.astore_n 1, 1) := by decide +kernel
theorem dX0_endWeek_5 : decode cX0_endWeek 5 = .ok (.aload_n 1, 1) := by decide +kernel
theorem dX0_endWeek_6 : decode cX0_endWeek 6 = .ok (.arraylength, 1) := by decide +kernel
theorem dX0_endWeek_7 : decode cX0_endWeek 7 = .ok (.istore_n 2, 1) := by decide +kernel
theorem dX0_endWeek_8 : decode cX0_endWeek 8 = .ok (.iconst 0, 1) := by decide +kernel
theorem dX0_endWeek_9 : decode cX0_endWeek 9 = .ok (.istore_n 3, 1) := by decide +kernel
theorem dX0_endWeek_10 : decode cX0_endWeek 10 = .ok (.iload_n 3, 1) := by decide +kernel
theorem dX0_endWeek_11 : decode cX0_endWeek 11 = .ok (.iload_n 2, 1) := by decide +kernel
theorem dX0_endWeek_12 : decode cX0_endWeek 12 = .ok (.if_icmp .ge 36, 3) := by decide +kernel
theorem dX0_endWeek_15 : decode cX0_endWeek 15 = .ok (.aload_n 1, 1) := by decide +kernel
theorem dX0_endWeek_16 : decode cX0_endWeek 16 = .ok (.iload_n 3, 1) := by decide +kernel
theorem dX0_endWeek_17 : decode cX0_endWeek 17 = .ok (.aaload, 1) := by decide +kernel
theorem dX0_endWeek_18 : decode cX0_endWeek 18 = .ok (.astore 4, 2) := by decide +kernel
theorem dX0_endWeek_20 : decode cX0_endWeek 20 = .ok (.aload 4, 2) := by decide +kernel
theorem dX0_endWeek_22 : decode cX0_endWeek 22 = .ok (.getfield 62, 3) := by decide +kernel
theorem dX0_endWeek_25 : decode cX0_endWeek 25 = .ok (.ifCond .eq 17, 3) := by decide +kernel
theorem dX0_endWeek_28 : decode cX0_endWeek 28 = .ok (.aload 4, 2) := by decide +kernel
theorem dX0_endWeek_30 : decode cX0_endWeek 30 = .ok (.invokevirtual 76, 3) := by decide +kernel
theorem dX0_endWeek_33 : decode cX0_endWeek 33 = .ok (.ifCond .eq 9, 3) := by decide +kernel
theorem dX0_endWeek_36 : decode cX0_endWeek 36 = .ok (.aload_n 0, 1) := by decide +kernel
theorem dX0_endWeek_37 : decode cX0_endWeek 37 = .ok (.aload 4, 2) := by decide +kernel
theorem dX0_endWeek_39 : decode cX0_endWeek 39 = .ok (.invokevirtual 134, 3) := by decide +kernel
theorem dX0_endWeek_42 : decode cX0_endWeek 42 = .ok (.iinc 3 1, 3) := by decide +kernel
theorem dX0_endWeek_45 : decode cX0_endWeek 45 = .ok (.goto (-35), 3) := by decide +kernel
theorem dX0_endWeek_48 : decode cX0_endWeek 48 = .ok (.aload_n 0, 1) := by decide +kernel
theorem dX0_endWeek_49 : decode cX0_endWeek 49 = .ok (.invokevirtual 137, 3) := by decide +kernel
theorem dX0_endWeek_52 : decode cX0_endWeek 52 = .ok (.aload_n 0, 1) := by decide +kernel
theorem dX0_endWeek_53 : decode cX0_endWeek 53 = .ok (.dup, 1) := by decide +kernel
theorem dX0_endWeek_54 : decode cX0_endWeek 54 = .ok (.getfield 41, 3) := by decide +kernel
theorem dX0_endWeek_57 : decode cX0_endWeek 57 = .ok (.iconst 1, 1) := by decide +kernel
theorem dX0_endWeek_58 : decode cX0_endWeek 58 = .ok (.iadd, 1) := by decide +kernel
theorem dX0_endWeek_59 : decode cX0_endWeek 59 = .ok (.putfield 41, 3) := by decide +kernel
theorem dX0_endWeek_62 : decode cX0_endWeek 62 = .ok (.aload_n 0, 1) := by decide +kernel
theorem dX0_endWeek_63 : decode cX0_endWeek 63 = .ok (.getfield 17, 3) := by decide +kernel
theorem dX0_endWeek_66 : decode cX0_endWeek 66 = .ok (.iconst 2, 1) := by decide +kernel
theorem dX0_endWeek_67 : decode cX0_endWeek 67 = .ok (.iaload, 1) := by decide +kernel
theorem dX0_endWeek_68 : decode cX0_endWeek 68 = .ok (.ifCond .le 25, 3) := by decide +kernel
theorem dX0_endWeek_71 : decode cX0_endWeek 71 = .ok (.aload_n 0, 1) := by decide +kernel
theorem dX0_endWeek_72 : decode cX0_endWeek 72 = .ok (.getfield 41, 3) := by decide +kernel
theorem dX0_endWeek_75 : decode cX0_endWeek 75 = .ok (.aload_n 0, 1) := by decide +kernel
theorem dX0_endWeek_76 : decode cX0_endWeek 76 = .ok (.getfield 17, 3) := by decide +kernel
theorem dX0_endWeek_79 : decode cX0_endWeek 79 = .ok (.iconst 2, 1) := by decide +kernel
theorem dX0_endWeek_80 : decode cX0_endWeek 80 = .ok (.iaload, 1) := by decide +kernel
theorem dX0_endWeek_81 : decode cX0_endWeek 81 = .ok (.irem, 1) := by decide +kernel
theorem dX0_endWeek_82 : decode cX0_endWeek 82 = .ok (.ifCond .ne 11, 3) := by decide +kernel
theorem dX0_endWeek_85 : decode cX0_endWeek 85 = .ok (.aload_n 0, 1) := by decide +kernel
theorem dX0_endWeek_86 : decode cX0_endWeek 86 = .ok (.aload_n 0, 1) := by decide +kernel
theorem dX0_endWeek_87 : decode cX0_endWeek 87 = .ok (.invokevirtual 93, 3) := by decide +kernel
theorem dX0_endWeek_90 : decode cX0_endWeek 90 = .ok (.putfield 21, 3) := by decide +kernel
theorem dX0_endWeek_93 : decode cX0_endWeek 93 = .ok (.aload_n 0, 1) := by decide +kernel
theorem dX0_endWeek_94 : decode cX0_endWeek 94 = .ok (.iconst 0, 1) := by decide +kernel
theorem dX0_endWeek_95 : decode cX0_endWeek 95 = .ok (.invokevirtual 140, 3) := by decide +kernel
theorem dX0_endWeek_98 : decode cX0_endWeek 98 = .ok (.return_, 1) := by decide +kernel
set_option maxRecDepth 20000 in
theorem ggX0_settleDue_X2_due : GoodIn wsX0_settleDue wsX2_due := goodIn_r _ [6, 7, 8, 9, 10, 4, 11, 12, 13, 14, 15, 16, 17, 18, 58, 59, 60, 61, 62, 63, 64, 65, 66, 67, 68, 69, 70, 71, 72, 73] (by decide +kernel) (by decide +kernel)
set_option maxRecDepth 20000 in
theorem gX0_settleDue_X2_due_n143 : GoodIn wsX0_settleDue (wsX2_due) := ggX0_settleDue_X2_due
set_option maxRecDepth 20000 in
theorem ggX0_settleDue_X0_coverMissed : GoodIn wsX0_settleDue wsX0_coverMissed := goodIn_r _ [23, 24, 25, 26, 27, 28, 29, 2, 30, 31, 32, 22, 33, 34, 35, 36, 37, 38, 39, 40, 41, 42, 58, 59, 60, 61, 62, 63, 64, 65, 66, 67, 68, 69, 70, 71, 72, 73, 47, 48, 49, 50, 51, 52, 53, 54, 55, 56, 57] (by decide +kernel) (by decide +kernel)
set_option maxRecDepth 20000 in
theorem gX0_settleDue_X0_coverMissed : GoodIn wsX0_settleDue (wsV RX0 149 RX0 yX0_coverMissed wsX0_coverMissed) := goodIn_app (goodIn_of _ (by decide +kernel)) ggX0_settleDue_X0_coverMissed
set_option maxRecDepth 20000 in
theorem ggX0_settleDue_X2_lessenLoan : GoodIn wsX0_settleDue wsX2_lessenLoan := goodIn_r _ [45, 17, 12, 46, 18, 7, 13, 14, 15, 4, 16, 58, 59, 60, 61, 62, 63, 64, 65, 66, 67, 68, 69, 70, 71, 72, 73] (by decide +kernel) (by decide +kernel)
set_option maxRecDepth 20000 in
theorem gX0_settleDue_X2_lessenLoan_n153 : GoodIn wsX0_settleDue (wsX2_lessenLoan) := ggX0_settleDue_X2_lessenLoan
theorem dX0_settleDue_0 : decode cX0_settleDue 0 = .ok (.aload_n 1, 1) := by decide +kernel
theorem dX0_settleDue_1 : decode cX0_settleDue 1 = .ok (.invokevirtual 143, 3) := by decide +kernel
theorem dX0_settleDue_4 : decode cX0_settleDue 4 = .ok (.istore_n 2, 1) := by decide +kernel
theorem dX0_settleDue_5 : decode cX0_settleDue 5 = .ok (.aload_n 0, 1) := by decide +kernel
theorem dX0_settleDue_6 : decode cX0_settleDue 6 = .ok (.dup, 1) := by decide +kernel
theorem dX0_settleDue_7 : decode cX0_settleDue 7 = .ok (.getfield 53, 3) := by decide +kernel
theorem dX0_settleDue_10 : decode cX0_settleDue 10 = .ok (.aload_n 1, 1) := by decide +kernel
theorem dX0_settleDue_11 : decode cX0_settleDue 11 = .ok (.getfield 146, 3) := by decide +kernel
theorem dX0_settleDue_14 : decode cX0_settleDue 14 = .ok (.iadd, 1) := by decide +kernel
theorem dX0_settleDue_15 : decode cX0_settleDue 15 = .ok (.putfield 53, 3) := by decide +kernel
theorem dX0_settleDue_18 : decode cX0_settleDue 18 = .ok (.aload_n 1, 1) := by decide +kernel
theorem dX0_settleDue_19 : decode cX0_settleDue 19 = .ok (.getfield 66, 3) := by decide +kernel
theorem dX0_settleDue_22 : decode cX0_settleDue 22 = .ok (.ifCond .eq 12, 3) := by decide +kernel
theorem dX0_settleDue_25 : decode cX0_settleDue 25 = .ok (.aload_n 0, 1) := by decide +kernel
theorem dX0_settleDue_26 : decode cX0_settleDue 26 = .ok (.aload_n 1, 1) := by decide +kernel
theorem dX0_settleDue_27 : decode cX0_settleDue 27 = .ok (.iload_n 2, 1) := by decide +kernel
theorem dX0_settleDue_28 : decode cX0_settleDue 28 = .ok (.invokevirtual 149, 3) := by decide +kernel
theorem dX0_settleDue_31 : decode cX0_settleDue 31 = .ok (.goto 13, 3) := by decide +kernel
theorem dX0_settleDue_34 : decode cX0_settleDue 34 = .ok (.aload_n 0, 1) := by decide +kernel
theorem dX0_settleDue_35 : decode cX0_settleDue 35 = .ok (.dup, 1) := by decide +kernel
theorem dX0_settleDue_36 : decode cX0_settleDue 36 = .ok (.getfield 56, 3) := by decide +kernel
theorem dX0_settleDue_39 : decode cX0_settleDue 39 = .ok (.iload_n 2, 1) := by decide +kernel
theorem dX0_settleDue_40 : decode cX0_settleDue 40 = .ok (.iadd, 1) := by decide +kernel
theorem dX0_settleDue_41 : decode cX0_settleDue 41 = .ok (.putfield 56, 3) := by decide +kernel
theorem dX0_settleDue_44 : decode cX0_settleDue 44 = .ok (.aload_n 1, 1) := by decide +kernel
theorem dX0_settleDue_45 : decode cX0_settleDue 45 = .ok (.invokevirtual 153, 3) := by decide +kernel
theorem dX0_settleDue_48 : decode cX0_settleDue 48 = .ok (.return_, 1) := by decide +kernel
set_option maxRecDepth 20000 in
theorem ggX0_coverMissed_X0_memberCount : GoodIn wsX0_coverMissed wsX0_memberCount := goodIn_r _ [12, 13, 38, 39, 40, 41, 42, 43, 44, 45, 46, 47, 48, 22, 23, 24, 25, 26, 27, 28, 29, 30, 31, 32, 33, 34, 35, 36, 37] (by decide +kernel) (by decide +kernel)
set_option maxRecDepth 20000 in
theorem gX0_coverMissed_X0_memberCount : GoodIn wsX0_coverMissed (wsV RX0 69 RX0 yX0_memberCount wsX0_memberCount) := goodIn_app (goodIn_of _ (by decide +kernel)) ggX0_coverMissed_X0_memberCount
set_option maxRecDepth 20000 in
theorem ggX0_coverMissed_X0_awayMembers : GoodIn wsX0_coverMissed wsX0_awayMembers := goodIn_r _ [17, 13, 38, 39, 40, 41, 42, 43, 44, 45, 46, 47, 48, 22, 23, 24, 25, 26, 27, 28, 29, 30, 31, 32, 33, 34, 35, 36, 37] (by decide +kernel) (by decide +kernel)
set_option maxRecDepth 20000 in
theorem gX0_coverMissed_X0_awayMembers : GoodIn wsX0_coverMissed (wsV RX0 157 RX0 yX0_awayMembers wsX0_awayMembers) := goodIn_app (goodIn_of _ (by decide +kernel)) ggX0_coverMissed_X0_awayMembers
set_option maxRecDepth 20000 in
theorem ggX0_coverMissed_X0_shareRest : GoodIn wsX0_coverMissed wsX0_shareRest := goodIn_r _ [21, 13, 7, 38, 39, 40, 41, 42, 43, 44, 45, 46, 47, 48, 22, 23, 24, 25, 26, 27, 28, 29, 30, 31, 32, 33, 34, 35, 36, 37] (by decide +kernel) (by decide +kernel)
set_option maxRecDepth 20000 in
theorem gX0_coverMissed_X0_shareRest : GoodIn wsX0_coverMissed (wsV RX0 160 RX0 yX0_shareRest wsX0_shareRest) := goodIn_app (goodIn_of _ (by decide +kernel)) ggX0_coverMissed_X0_shareRest
theorem dX0_coverMissed_0 : decode cX0_coverMissed 0 = .ok (.aload_n 1, 1) := by decide +kernel
theorem dX0_coverMissed_1 : decode cX0_coverMissed 1 = .ok (.dup, 1) := by decide +kernel
theorem dX0_coverMissed_2 : decode cX0_coverMissed 2 = .ok (.getfield 131, 3) := by decide +kernel
theorem dX0_coverMissed_5 : decode cX0_coverMissed 5 = .ok (.iconst 1, 1) := by decide +kernel
theorem dX0_coverMissed_6 : decode cX0_coverMissed 6 = .ok (.iadd, 1) := by decide +kernel
theorem dX0_coverMissed_7 : decode cX0_coverMissed 7 = .ok (.putfield 131, 3) := by decide +kernel
theorem dX0_coverMissed_10 : decode cX0_coverMissed 10 = .ok (.aload_n 1, 1) := by decide +kernel
theorem dX0_coverMissed_11 : decode cX0_coverMissed 11 = .ok (.dup, 1) := by decide +kernel
theorem dX0_coverMissed_12 : decode cX0_coverMissed 12 = .ok (.getfield 156, 3) := by decide +kernel
theorem dX0_coverMissed_15 : decode cX0_coverMissed 15 = .ok (.iconst 1, 1) := by decide +kernel
theorem dX0_coverMissed_16 : decode cX0_coverMissed 16 = .ok (.iadd, 1) := by decide +kernel
theorem dX0_coverMissed_17 : decode cX0_coverMissed 17 = .ok (.putfield 156, 3) := by decide +kernel
theorem dX0_coverMissed_20 : decode cX0_coverMissed 20 = .ok (.aload_n 0, 1) := by decide +kernel
theorem dX0_coverMissed_21 : decode cX0_coverMissed 21 = .ok (.dup, 1) := by decide +kernel
theorem dX0_coverMissed_22 : decode cX0_coverMissed 22 = .ok (.getfield 59, 3) := by decide +kernel
theorem dX0_coverMissed_25 : decode cX0_coverMissed 25 = .ok (.iconst 1, 1) := by decide +kernel
theorem dX0_coverMissed_26 : decode cX0_coverMissed 26 = .ok (.iadd, 1) := by decide +kernel
theorem dX0_coverMissed_27 : decode cX0_coverMissed 27 = .ok (.putfield 59, 3) := by decide +kernel
theorem dX0_coverMissed_30 : decode cX0_coverMissed 30 = .ok (.iload_n 2, 1) := by decide +kernel
theorem dX0_coverMissed_31 : decode cX0_coverMissed 31 = .ok (.aload_n 0, 1) := by decide +kernel
theorem dX0_coverMissed_32 : decode cX0_coverMissed 32 = .ok (.getfield 47, 3) := by decide +kernel
theorem dX0_coverMissed_35 : decode cX0_coverMissed 35 = .ok (.invokestatic 113, 3) := by decide +kernel
theorem dX0_coverMissed_38 : decode cX0_coverMissed 38 = .ok (.istore_n 3, 1) := by decide +kernel
theorem dX0_coverMissed_39 : decode cX0_coverMissed 39 = .ok (.aload_n 0, 1) := by decide +kernel
theorem dX0_coverMissed_40 : decode cX0_coverMissed 40 = .ok (.dup, 1) := by decide +kernel
theorem dX0_coverMissed_41 : decode cX0_coverMissed 41 = .ok (.getfield 47, 3) := by decide +kernel
theorem dX0_coverMissed_44 : decode cX0_coverMissed 44 = .ok (.iload_n 3, 1) := by decide +kernel
theorem dX0_coverMissed_45 : decode cX0_coverMissed 45 = .ok (.isub, 1) := by decide +kernel
theorem dX0_coverMissed_46 : decode cX0_coverMissed 46 = .ok (.putfield 47, 3) := by decide +kernel
theorem dX0_coverMissed_49 : decode cX0_coverMissed 49 = .ok (.aload_n 1, 1) := by decide +kernel
theorem dX0_coverMissed_50 : decode cX0_coverMissed 50 = .ok (.dup, 1) := by decide +kernel
theorem dX0_coverMissed_51 : decode cX0_coverMissed 51 = .ok (.getfield 116, 3) := by decide +kernel
theorem dX0_coverMissed_54 : decode cX0_coverMissed 54 = .ok (.iload_n 3, 1) := by decide +kernel
theorem dX0_coverMissed_55 : decode cX0_coverMissed 55 = .ok (.iadd, 1) := by decide +kernel
theorem dX0_coverMissed_56 : decode cX0_coverMissed 56 = .ok (.putfield 116, 3) := by decide +kernel
theorem dX0_coverMissed_59 : decode cX0_coverMissed 59 = .ok (.aload_n 0, 1) := by decide +kernel
theorem dX0_coverMissed_60 : decode cX0_coverMissed 60 = .ok (.dup, 1) := by decide +kernel
theorem dX0_coverMissed_61 : decode cX0_coverMissed 61 = .ok (.getfield 56, 3) := by decide +kernel
theorem dX0_coverMissed_64 : decode cX0_coverMissed 64 = .ok (.iload_n 3, 1) := by decide +kernel
theorem dX0_coverMissed_65 : decode cX0_coverMissed 65 = .ok (.iadd, 1) := by decide +kernel
theorem dX0_coverMissed_66 : decode cX0_coverMissed 66 = .ok (.putfield 56, 3) := by decide +kernel
theorem dX0_coverMissed_69 : decode cX0_coverMissed 69 = .ok (.iload_n 2, 1) := by decide +kernel
theorem dX0_coverMissed_70 : decode cX0_coverMissed 70 = .ok (.iload_n 3, 1) := by decide +kernel
theorem dX0_coverMissed_71 : decode cX0_coverMissed 71 = .ok (.isub, 1) := by decide +kernel
theorem dX0_coverMissed_72 : decode cX0_coverMissed 72 = .ok (.istore 4, 2) := by decide +kernel
theorem dX0_coverMissed_74 : decode cX0_coverMissed 74 = .ok (.aload_n 0, 1) := by decide +kernel
theorem dX0_coverMissed_75 : decode cX0_coverMissed 75 = .ok (.invokevirtual 69, 3) := by decide +kernel
theorem dX0_coverMissed_78 : decode cX0_coverMissed 78 = .ok (.aload_n 0, 1) := by decide +kernel
theorem dX0_coverMissed_79 : decode cX0_coverMissed 79 = .ok (.invokevirtual 157, 3) := by decide +kernel
theorem dX0_coverMissed_82 : decode cX0_coverMissed 82 = .ok (.isub, 1) := by decide +kernel
theorem dX0_coverMissed_83 : decode cX0_coverMissed 83 = .ok (.istore 5, 2) := by decide +kernel
theorem dX0_coverMissed_85 : decode cX0_coverMissed 85 = .ok (.iload 5, 2) := by decide +kernel
theorem dX0_coverMissed_87 : decode cX0_coverMissed 87 = .ok (.ifCond .le 15, 3) := by decide +kernel
theorem dX0_coverMissed_90 : decode cX0_coverMissed 90 = .ok (.aload_n 0, 1) := by decide +kernel
theorem dX0_coverMissed_91 : decode cX0_coverMissed 91 = .ok (.aload_n 1, 1) := by decide +kernel
theorem dX0_coverMissed_92 : decode cX0_coverMissed 92 = .ok (.iload 4, 2) := by decide +kernel
theorem dX0_coverMissed_94 : decode cX0_coverMissed 94 = .ok (.iload 5, 2) := by decide +kernel
theorem dX0_coverMissed_96 : decode cX0_coverMissed 96 = .ok (.invokevirtual 160, 3) := by decide +kernel
theorem dX0_coverMissed_99 : decode cX0_coverMissed 99 = .ok (.goto 14, 3) := by decide +kernel
theorem dX0_coverMissed_102 : decode cX0_coverMissed 102 = .ok (.aload_n 1, 1) := by decide +kernel
theorem dX0_coverMissed_103 : decode cX0_coverMissed 103 = .ok (.dup, 1) := by decide +kernel
theorem dX0_coverMissed_104 : decode cX0_coverMissed 104 = .ok (.getfield 110, 3) := by decide +kernel
theorem dX0_coverMissed_107 : decode cX0_coverMissed 107 = .ok (.iload 4, 2) := by decide +kernel
theorem dX0_coverMissed_109 : decode cX0_coverMissed 109 = .ok (.iadd, 1) := by decide +kernel
theorem dX0_coverMissed_110 : decode cX0_coverMissed 110 = .ok (.putfield 110, 3) := by decide +kernel
theorem dX0_coverMissed_113 : decode cX0_coverMissed 113 = .ok (.return_, 1) := by decide +kernel
theorem dX0_shareRest_0 : decode cX0_shareRest 0 = .ok (.iload_n 3, 1) := by decide +kernel
theorem dX0_shareRest_1 : decode cX0_shareRest 1 = .ok (.ifCond .gt 4, 3) := by decide +kernel
theorem dX0_shareRest_4 : decode cX0_shareRest 4 = .ok (.return_, 1) := by decide +kernel
theorem dX0_shareRest_5 : decode cX0_shareRest 5 = .ok (.iload_n 2, 1) := by decide +kernel
theorem dX0_shareRest_6 : decode cX0_shareRest 6 = .ok (.iload_n 3, 1) := by decide +kernel
theorem dX0_shareRest_7 : decode cX0_shareRest 7 = .ok (.idiv, 1) := by decide +kernel
theorem dX0_shareRest_8 : decode cX0_shareRest 8 = .ok (.istore 4, 2) := by decide +kernel
theorem dX0_shareRest_10 : decode cX0_shareRest 10 = .ok (.iload_n 2, 1) := by decide +kernel
theorem dX0_shareRest_11 : decode cX0_shareRest 11 = .ok (.iload_n 3, 1) := by decide +kernel
theorem dX0_shareRest_12 : decode cX0_shareRest 12 = .ok (.irem, 1) := by decide +kernel
theorem dX0_shareRest_13 : decode cX0_shareRest 13 = .ok (.istore 5, 2) := by decide +kernel
theorem dX0_shareRest_15 : decode cX0_shareRest 15 = .ok (.aload_n 0, 1) := by decide +kernel
theorem dX0_shareRest_16 : decode cX0_shareRest 16 = .ok (.getfield 11, 3) := by decide +kernel
theorem dX0_shareRest_19 : decode cX0_shareRest 19 = .ok (.astore 6, 2) := by decide +kernel
theorem dX0_shareRest_21 : decode cX0_shareRest 21 = .ok (.aload 6, 2) := by decide +kernel
theorem dX0_shareRest_23 : decode cX0_shareRest 23 = .ok (.arraylength, 1) := by decide +kernel
theorem dX0_shareRest_24 : decode cX0_shareRest 24 = .ok (.istore 7, 2) := by decide +kernel
theorem dX0_shareRest_26 : decode cX0_shareRest 26 = .ok (.iconst 0, 1) := by decide +kernel
theorem dX0_shareRest_27 : decode cX0_shareRest 27 = .ok (.istore 8, 2) := by decide +kernel
theorem dX0_shareRest_29 : decode cX0_shareRest 29 = .ok (.iload 8, 2) := by decide +kernel
theorem dX0_shareRest_31 : decode cX0_shareRest 31 = .ok (.iload 7, 2) := by decide +kernel
theorem dX0_shareRest_33 : decode cX0_shareRest 33 = .ok (.if_icmp .ge 78, 3) := by decide +kernel
theorem dX0_shareRest_36 : decode cX0_shareRest 36 = .ok (.aload 6, 2) := by decide +kernel
theorem dX0_shareRest_38 : decode cX0_shareRest 38 = .ok (.iload 8, 2) := by decide +kernel
theorem dX0_shareRest_40 : decode cX0_shareRest 40 = .ok (.aaload, 1) := by decide +kernel
theorem dX0_shareRest_41 : decode cX0_shareRest 41 = .ok (.astore 9, 2) := by decide +kernel
theorem dX0_shareRest_43 : decode cX0_shareRest 43 = .ok (.aload 9, 2) := by decide +kernel
theorem dX0_shareRest_45 : decode cX0_shareRest 45 = .ok (.getfield 62, 3) := by decide +kernel
theorem dX0_shareRest_48 : decode cX0_shareRest 48 = .ok (.ifCond .eq 57, 3) := by decide +kernel
theorem dX0_shareRest_51 : decode cX0_shareRest 51 = .ok (.aload 9, 2) := by decide +kernel
theorem dX0_shareRest_53 : decode cX0_shareRest 53 = .ok (.getfield 66, 3) := by decide +kernel
theorem dX0_shareRest_56 : decode cX0_shareRest 56 = .ok (.ifCond .ne 49, 3) := by decide +kernel
theorem dX0_shareRest_59 : decode cX0_shareRest 59 = .ok (.iload 5, 2) := by decide +kernel
theorem dX0_shareRest_61 : decode cX0_shareRest 61 = .ok (.ifCond .le 10, 3) := by decide +kernel
theorem dX0_shareRest_64 : decode cX0_shareRest 64 = .ok (.iload 4, 2) := by decide +kernel
theorem dX0_shareRest_66 : decode cX0_shareRest 66 = .ok (.iconst 1, 1) := by decide +kernel
theorem dX0_shareRest_67 : decode cX0_shareRest 67 = .ok (.iadd, 1) := by decide +kernel
theorem dX0_shareRest_68 : decode cX0_shareRest 68 = .ok (.goto 5, 3) := by decide +kernel
theorem dX0_shareRest_71 : decode cX0_shareRest 71 = .ok (.iload 4, 2) := by decide +kernel
theorem dX0_shareRest_73 : decode cX0_shareRest 73 = .ok (.istore 10, 2) := by decide +kernel
theorem dX0_shareRest_75 : decode cX0_shareRest 75 = .ok (.iinc 5 (-1), 3) := by decide +kernel
theorem dX0_shareRest_78 : decode cX0_shareRest 78 = .ok (.aload_n 1, 1) := by decide +kernel
theorem dX0_shareRest_79 : decode cX0_shareRest 79 = .ok (.getfield 119, 3) := by decide +kernel
theorem dX0_shareRest_82 : decode cX0_shareRest 82 = .ok (.aload 9, 2) := by decide +kernel
theorem dX0_shareRest_84 : decode cX0_shareRest 84 = .ok (.getfield 90, 3) := by decide +kernel
theorem dX0_shareRest_87 : decode cX0_shareRest 87 = .ok (.dup2, 1) := by decide +kernel
theorem dX0_shareRest_88 : decode cX0_shareRest 88 = .ok (.iaload, 1) := by decide +kernel
theorem dX0_shareRest_89 : decode cX0_shareRest 89 = .ok (.iload 10, 2) := by decide +kernel
theorem dX0_shareRest_91 : decode cX0_shareRest 91 = .ok (.iadd, 1) := by decide +kernel
theorem dX0_shareRest_92 : decode cX0_shareRest 92 = .ok (.iastore, 1) := by decide +kernel
theorem dX0_shareRest_93 : decode cX0_shareRest 93 = .ok (.aload 9, 2) := by decide +kernel
theorem dX0_shareRest_95 : decode cX0_shareRest 95 = .ok (.dup, 1) := by decide +kernel
theorem dX0_shareRest_96 : decode cX0_shareRest 96 = .ok (.getfield 164, 3) := by decide +kernel
theorem dX0_shareRest_99 : decode cX0_shareRest 99 = .ok (.iload 10, 2) := by decide +kernel
theorem dX0_shareRest_101 : decode cX0_shareRest 101 = .ok (.iadd, 1) := by decide +kernel
theorem dX0_shareRest_102 : decode cX0_shareRest 102 = .ok (.putfield 164, 3) := by decide +kernel
theorem dX0_shareRest_105 : decode cX0_shareRest 105 = .ok (.iinc 8 1, 3) := by decide +kernel
theorem dX0_shareRest_108 : decode cX0_shareRest 108 = .ok (.goto (-79), 3) := by decide +kernel
theorem dX0_shareRest_111 : decode cX0_shareRest 111 = .ok (.aload_n 0, 1) := by decide +kernel
theorem dX0_shareRest_112 : decode cX0_shareRest 112 = .ok (.dup, 1) := by decide +kernel
theorem dX0_shareRest_113 : decode cX0_shareRest 113 = .ok (.getfield 56, 3) := by decide +kernel
theorem dX0_shareRest_116 : decode cX0_shareRest 116 = .ok (.iload_n 2, 1) := by decide +kernel
theorem dX0_shareRest_117 : decode cX0_shareRest 117 = .ok (.iadd, 1) := by decide +kernel
theorem dX0_shareRest_118 : decode cX0_shareRest 118 = .ok (.putfield 56, 3) := by decide +kernel
theorem dX0_shareRest_121 : decode cX0_shareRest 121 = .ok (.return_, 1) := by decide +kernel
theorem dX0_saveMoney_0 : decode cX0_saveMoney 0 = .ok (.aload_n 0, 1) := by decide +kernel
theorem dX0_saveMoney_1 : decode cX0_saveMoney 1 = .ok (.getfield 11, 3) := by decide +kernel
theorem dX0_saveMoney_4 : decode cX0_saveMoney 4 = .ok (.astore_n 1, 1) := by decide +kernel
theorem dX0_saveMoney_5 : decode cX0_saveMoney 5 = .ok (.aload_n 1, 1) := by decide +kernel
theorem dX0_saveMoney_6 : decode cX0_saveMoney 6 = .ok (.arraylength, 1) := by decide +kernel
theorem dX0_saveMoney_7 : decode cX0_saveMoney 7 = .ok (.istore_n 2, 1) := by decide +kernel
theorem dX0_saveMoney_8 : decode cX0_saveMoney 8 = .ok (.iconst 0, 1) := by decide +kernel
theorem dX0_saveMoney_9 : decode cX0_saveMoney 9 = .ok (.istore_n 3, 1) := by decide +kernel
theorem dX0_saveMoney_10 : decode cX0_saveMoney 10 = .ok (.iload_n 3, 1) := by decide +kernel
theorem dX0_saveMoney_11 : decode cX0_saveMoney 11 = .ok (.iload_n 2, 1) := by decide +kernel
theorem dX0_saveMoney_12 : decode cX0_saveMoney 12 = .ok (.if_icmp .ge 61, 3) := by decide +kernel
theorem dX0_saveMoney_15 : decode cX0_saveMoney 15 = .ok (.aload_n 1, 1) := by decide +kernel
theorem dX0_saveMoney_16 : decode cX0_saveMoney 16 = .ok (.iload_n 3, 1) := by decide +kernel
theorem dX0_saveMoney_17 : decode cX0_saveMoney 17 = .ok (.aaload, 1) := by decide +kernel
theorem dX0_saveMoney_18 : decode cX0_saveMoney 18 = .ok (.astore 4, 2) := by decide +kernel
theorem dX0_saveMoney_20 : decode cX0_saveMoney 20 = .ok (.aload 4, 2) := by decide +kernel
theorem dX0_saveMoney_22 : decode cX0_saveMoney 22 = .ok (.getfield 62, 3) := by decide +kernel
theorem dX0_saveMoney_25 : decode cX0_saveMoney 25 = .ok (.ifCond .eq 42, 3) := by decide +kernel
theorem dX0_saveMoney_28 : decode cX0_saveMoney 28 = .ok (.aload 4, 2) := by decide +kernel
theorem dX0_saveMoney_30 : decode cX0_saveMoney 30 = .ok (.getfield 66, 3) := by decide +kernel
theorem dX0_saveMoney_33 : decode cX0_saveMoney 33 = .ok (.ifCond .ne 34, 3) := by decide +kernel
theorem dX0_saveMoney_36 : decode cX0_saveMoney 36 = .ok (.aload 4, 2) := by decide +kernel
theorem dX0_saveMoney_38 : decode cX0_saveMoney 38 = .ok (.dup, 1) := by decide +kernel
theorem dX0_saveMoney_39 : decode cX0_saveMoney 39 = .ok (.getfield 87, 3) := by decide +kernel
theorem dX0_saveMoney_42 : decode cX0_saveMoney 42 = .ok (.aload_n 0, 1) := by decide +kernel
theorem dX0_saveMoney_43 : decode cX0_saveMoney 43 = .ok (.getfield 17, 3) := by decide +kernel
theorem dX0_saveMoney_46 : decode cX0_saveMoney 46 = .ok (.iconst 1, 1) := by decide +kernel
theorem dX0_saveMoney_47 : decode cX0_saveMoney 47 = .ok (.iaload, 1) := by decide +kernel
theorem dX0_saveMoney_48 : decode cX0_saveMoney 48 = .ok (.iadd, 1) := by decide +kernel
theorem dX0_saveMoney_49 : decode cX0_saveMoney 49 = .ok (.putfield 87, 3) := by decide +kernel
theorem dX0_saveMoney_52 : decode cX0_saveMoney 52 = .ok (.aload_n 0, 1) := by decide +kernel
theorem dX0_saveMoney_53 : decode cX0_saveMoney 53 = .ok (.dup, 1) := by decide +kernel
theorem dX0_saveMoney_54 : decode cX0_saveMoney 54 = .ok (.getfield 47, 3) := by decide +kernel
theorem dX0_saveMoney_57 : decode cX0_saveMoney 57 = .ok (.aload_n 0, 1) := by decide +kernel
theorem dX0_saveMoney_58 : decode cX0_saveMoney 58 = .ok (.getfield 17, 3) := by decide +kernel
theorem dX0_saveMoney_61 : decode cX0_saveMoney 61 = .ok (.iconst 1, 1) := by decide +kernel
theorem dX0_saveMoney_62 : decode cX0_saveMoney 62 = .ok (.iaload, 1) := by decide +kernel
theorem dX0_saveMoney_63 : decode cX0_saveMoney 63 = .ok (.iadd, 1) := by decide +kernel
theorem dX0_saveMoney_64 : decode cX0_saveMoney 64 = .ok (.putfield 47, 3) := by decide +kernel
theorem dX0_saveMoney_67 : decode cX0_saveMoney 67 = .ok (.iinc 3 1, 3) := by decide +kernel
theorem dX0_saveMoney_70 : decode cX0_saveMoney 70 = .ok (.goto (-60), 3) := by decide +kernel
theorem dX0_saveMoney_73 : decode cX0_saveMoney 73 = .ok (.return_, 1) := by decide +kernel
theorem dX0_letBeAway_0 : decode cX0_letBeAway 0 = .ok (.iconst 0, 1) := by decide +kernel
theorem dX0_letBeAway_1 : decode cX0_letBeAway 1 = .ok (.istore_n 2, 1) := by decide +kernel
theorem dX0_letBeAway_2 : decode cX0_letBeAway 2 = .ok (.iload_n 2, 1) := by decide +kernel
theorem dX0_letBeAway_3 : decode cX0_letBeAway 3 = .ok (.bipush 8, 2) := by decide +kernel
theorem dX0_letBeAway_5 : decode cX0_letBeAway 5 = .ok (.if_icmp .ge 32, 3) := by decide +kernel
theorem dX0_letBeAway_8 : decode cX0_letBeAway 8 = .ok (.aload_n 0, 1) := by decide +kernel
theorem dX0_letBeAway_9 : decode cX0_letBeAway 9 = .ok (.getfield 11, 3) := by decide +kernel
theorem dX0_letBeAway_12 : decode cX0_letBeAway 12 = .ok (.iload_n 2, 1) := by decide +kernel
theorem dX0_letBeAway_13 : decode cX0_letBeAway 13 = .ok (.aaload, 1) := by decide +kernel
theorem dX0_letBeAway_14 : decode cX0_letBeAway 14 = .ok (.iload_n 1, 1) := by decide +kernel
theorem dX0_letBeAway_15 : decode cX0_letBeAway 15 = .ok (.iload_n 2, 1) := by decide +kernel
theorem dX0_letBeAway_16 : decode cX0_letBeAway 16 = .ok (.ishr, 1) := by decide +kernel
theorem dX0_letBeAway_17 : decode cX0_letBeAway 17 = .ok (.iconst 1, 1) := by decide +kernel
theorem dX0_letBeAway_18 : decode cX0_letBeAway 18 = .ok (.iand, 1) := by decide +kernel
theorem dX0_letBeAway_19 : decode cX0_letBeAway 19 = .ok (.iconst 1, 1) := by decide +kernel
theorem dX0_letBeAway_20 : decode cX0_letBeAway 20 = .ok (.if_icmp .ne 7, 3) := by decide +kernel
theorem dX0_letBeAway_23 : decode cX0_letBeAway 23 = .ok (.iconst 1, 1) := by decide +kernel
theorem dX0_letBeAway_24 : decode cX0_letBeAway 24 = .ok (.goto 4, 3) := by decide +kernel
theorem dX0_letBeAway_27 : decode cX0_letBeAway 27 = .ok (.iconst 0, 1) := by decide +kernel
theorem dX0_letBeAway_28 : decode cX0_letBeAway 28 = .ok (.putfield 66, 3) := by decide +kernel
theorem dX0_letBeAway_31 : decode cX0_letBeAway 31 = .ok (.iinc 2 1, 3) := by decide +kernel
theorem dX0_letBeAway_34 : decode cX0_letBeAway 34 = .ok (.goto (-32), 3) := by decide +kernel
theorem dX0_letBeAway_37 : decode cX0_letBeAway 37 = .ok (.return_, 1) := by decide +kernel
theorem dX0_owedTo_0 : decode cX0_owedTo 0 = .ok (.iconst 0, 1) := by decide +kernel
theorem dX0_owedTo_1 : decode cX0_owedTo 1 = .ok (.istore_n 2, 1) := by decide +kernel
theorem dX0_owedTo_2 : decode cX0_owedTo 2 = .ok (.aload_n 0, 1) := by decide +kernel
theorem dX0_owedTo_3 : decode cX0_owedTo 3 = .ok (.getfield 11, 3) := by decide +kernel
theorem dX0_owedTo_6 : decode cX0_owedTo 6 = .ok (.astore_n 3, 1) := by decide +kernel
theorem dX0_owedTo_7 : decode cX0_owedTo 7 = .ok (.aload_n 3, 1) := by decide +kernel
theorem dX0_owedTo_8 : decode cX0_owedTo 8 = .ok (.arraylength, 1) := by decide +kernel
theorem dX0_owedTo_9 : decode cX0_owedTo 9 = .ok (.istore 4, 2) := by decide +kernel
theorem dX0_owedTo_11 : decode cX0_owedTo 11 = .ok (.iconst 0, 1) := by decide +kernel
theorem dX0_owedTo_12 : decode cX0_owedTo 12 = .ok (.istore 5, 2) := by decide +kernel
theorem dX0_owedTo_14 : decode cX0_owedTo 14 = .ok (.iload 5, 2) := by decide +kernel
theorem dX0_owedTo_16 : decode cX0_owedTo 16 = .ok (.iload 4, 2) := by decide +kernel
theorem dX0_owedTo_18 : decode cX0_owedTo 18 = .ok (.if_icmp .ge 28, 3) := by decide +kernel
theorem dX0_owedTo_21 : decode cX0_owedTo 21 = .ok (.aload_n 3, 1) := by decide +kernel
theorem dX0_owedTo_22 : decode cX0_owedTo 22 = .ok (.iload 5, 2) := by decide +kernel
theorem dX0_owedTo_24 : decode cX0_owedTo 24 = .ok (.aaload, 1) := by decide +kernel
theorem dX0_owedTo_25 : decode cX0_owedTo 25 = .ok (.astore 6, 2) := by decide +kernel
theorem dX0_owedTo_27 : decode cX0_owedTo 27 = .ok (.iload_n 2, 1) := by decide +kernel
theorem dX0_owedTo_28 : decode cX0_owedTo 28 = .ok (.aload 6, 2) := by decide +kernel
theorem dX0_owedTo_30 : decode cX0_owedTo 30 = .ok (.getfield 119, 3) := by decide +kernel
theorem dX0_owedTo_33 : decode cX0_owedTo 33 = .ok (.aload_n 1, 1) := by decide +kernel
theorem dX0_owedTo_34 : decode cX0_owedTo 34 = .ok (.getfield 90, 3) := by decide +kernel
theorem dX0_owedTo_37 : decode cX0_owedTo 37 = .ok (.iaload, 1) := by decide +kernel
theorem dX0_owedTo_38 : decode cX0_owedTo 38 = .ok (.iadd, 1) := by decide +kernel
theorem dX0_owedTo_39 : decode cX0_owedTo 39 = .ok (.istore_n 2, 1) := by decide +kernel
theorem dX0_owedTo_40 : decode cX0_owedTo 40 = .ok (.iinc 5 1, 3) := by decide +kernel
theorem dX0_owedTo_43 : decode cX0_owedTo 43 = .ok (.goto (-29), 3) := by decide +kernel
theorem dX0_owedTo_46 : decode cX0_owedTo 46 = .ok (.iload_n 2, 1) := by decide +kernel
theorem dX0_owedTo_47 : decode cX0_owedTo 47 = .ok (.ireturn, 1) := by decide +kernel
theorem dX0_loansLeft_0 : decode cX0_loansLeft 0 = .ok (.iconst 0, 1) := by decide +kernel
theorem dX0_loansLeft_1 : decode cX0_loansLeft 1 = .ok (.istore_n 1, 1) := by decide +kernel
theorem dX0_loansLeft_2 : decode cX0_loansLeft 2 = .ok (.aload_n 0, 1) := by decide +kernel
theorem dX0_loansLeft_3 : decode cX0_loansLeft 3 = .ok (.getfield 11, 3) := by decide +kernel
theorem dX0_loansLeft_6 : decode cX0_loansLeft 6 = .ok (.astore_n 2, 1) := by decide +kernel
theorem dX0_loansLeft_7 : decode cX0_loansLeft 7 = .ok (.aload_n 2, 1) := by decide +kernel
theorem dX0_loansLeft_8 : decode cX0_loansLeft 8 = .ok (.arraylength, 1) := by decide +kernel
theorem dX0_loansLeft_9 : decode cX0_loansLeft 9 = .ok (.istore_n 3, 1) := by decide +kernel
theorem dX0_loansLeft_10 : decode cX0_loansLeft 10 = .ok (.iconst 0, 1) := by decide +kernel
theorem dX0_loansLeft_11 : decode cX0_loansLeft 11 = .ok (.istore 4, 2) := by decide +kernel
theorem dX0_loansLeft_13 : decode cX0_loansLeft 13 = .ok (.iload 4, 2) := by decide +kernel
theorem dX0_loansLeft_15 : decode cX0_loansLeft 15 = .ok (.iload_n 3, 1) := by decide +kernel
theorem dX0_loansLeft_16 : decode cX0_loansLeft 16 = .ok (.if_icmp .ge 23, 3) := by decide +kernel
theorem dX0_loansLeft_19 : decode cX0_loansLeft 19 = .ok (.aload_n 2, 1) := by decide +kernel
theorem dX0_loansLeft_20 : decode cX0_loansLeft 20 = .ok (.iload 4, 2) := by decide +kernel
theorem dX0_loansLeft_22 : decode cX0_loansLeft 22 = .ok (.aaload, 1) := by decide +kernel
theorem dX0_loansLeft_23 : decode cX0_loansLeft 23 = .ok (.astore 5, 2) := by decide +kernel
theorem dX0_loansLeft_25 : decode cX0_loansLeft 25 = .ok (.iload_n 1, 1) := by decide +kernel
theorem dX0_loansLeft_26 : decode cX0_loansLeft 26 = .ok (.aload 5, 2) := by decide +kernel
theorem dX0_loansLeft_28 : decode cX0_loansLeft 28 = .ok (.getfield 167, 3) := by decide +kernel
theorem dX0_loansLeft_31 : decode cX0_loansLeft 31 = .ok (.iadd, 1) := by decide +kernel
theorem dX0_loansLeft_32 : decode cX0_loansLeft 32 = .ok (.istore_n 1, 1) := by decide +kernel
theorem dX0_loansLeft_33 : decode cX0_loansLeft 33 = .ok (.iinc 4 1, 3) := by decide +kernel
theorem dX0_loansLeft_36 : decode cX0_loansLeft 36 = .ok (.goto (-23), 3) := by decide +kernel
theorem dX0_loansLeft_39 : decode cX0_loansLeft 39 = .ok (.iload_n 1, 1) := by decide +kernel
theorem dX0_loansLeft_40 : decode cX0_loansLeft 40 = .ok (.ireturn, 1) := by decide +kernel
theorem dX0_bankDebts_0 : decode cX0_bankDebts 0 = .ok (.iconst 0, 1) := by decide +kernel
theorem dX0_bankDebts_1 : decode cX0_bankDebts 1 = .ok (.istore_n 1, 1) := by decide +kernel
theorem dX0_bankDebts_2 : decode cX0_bankDebts 2 = .ok (.aload_n 0, 1) := by decide +kernel
theorem dX0_bankDebts_3 : decode cX0_bankDebts 3 = .ok (.getfield 11, 3) := by decide +kernel
theorem dX0_bankDebts_6 : decode cX0_bankDebts 6 = .ok (.astore_n 2, 1) := by decide +kernel
theorem dX0_bankDebts_7 : decode cX0_bankDebts 7 = .ok (.aload_n 2, 1) := by decide +kernel
theorem dX0_bankDebts_8 : decode cX0_bankDebts 8 = .ok (.arraylength, 1) := by decide +kernel
theorem dX0_bankDebts_9 : decode cX0_bankDebts 9 = .ok (.istore_n 3, 1) := by decide +kernel
theorem dX0_bankDebts_10 : decode cX0_bankDebts 10 = .ok (.iconst 0, 1) := by decide +kernel
theorem dX0_bankDebts_11 : decode cX0_bankDebts 11 = .ok (.istore 4, 2) := by decide +kernel
theorem dX0_bankDebts_13 : decode cX0_bankDebts 13 = .ok (.iload 4, 2) := by decide +kernel
theorem dX0_bankDebts_15 : decode cX0_bankDebts 15 = .ok (.iload_n 3, 1) := by decide +kernel
theorem dX0_bankDebts_16 : decode cX0_bankDebts 16 = .ok (.if_icmp .ge 23, 3) := by decide +kernel
theorem dX0_bankDebts_19 : decode cX0_bankDebts 19 = .ok (.aload_n 2, 1) := by decide +kernel
theorem dX0_bankDebts_20 : decode cX0_bankDebts 20 = .ok (.iload 4, 2) := by decide +kernel
theorem dX0_bankDebts_22 : decode cX0_bankDebts 22 = .ok (.aaload, 1) := by decide +kernel
theorem dX0_bankDebts_23 : decode cX0_bankDebts 23 = .ok (.astore 5, 2) := by decide +kernel
theorem dX0_bankDebts_25 : decode cX0_bankDebts 25 = .ok (.iload_n 1, 1) := by decide +kernel
theorem dX0_bankDebts_26 : decode cX0_bankDebts 26 = .ok (.aload 5, 2) := by decide +kernel
theorem dX0_bankDebts_28 : decode cX0_bankDebts 28 = .ok (.getfield 110, 3) := by decide +kernel
theorem dX0_bankDebts_31 : decode cX0_bankDebts 31 = .ok (.iadd, 1) := by decide +kernel
theorem dX0_bankDebts_32 : decode cX0_bankDebts 32 = .ok (.istore_n 1, 1) := by decide +kernel
theorem dX0_bankDebts_33 : decode cX0_bankDebts 33 = .ok (.iinc 4 1, 3) := by decide +kernel
theorem dX0_bankDebts_36 : decode cX0_bankDebts 36 = .ok (.goto (-23), 3) := by decide +kernel
theorem dX0_bankDebts_39 : decode cX0_bankDebts 39 = .ok (.iload_n 1, 1) := by decide +kernel
theorem dX0_bankDebts_40 : decode cX0_bankDebts 40 = .ok (.ireturn, 1) := by decide +kernel
theorem dX0_fundDebts_0 : decode cX0_fundDebts 0 = .ok (.iconst 0, 1) := by decide +kernel
theorem dX0_fundDebts_1 : decode cX0_fundDebts 1 = .ok (.istore_n 1, 1) := by decide +kernel
theorem dX0_fundDebts_2 : decode cX0_fundDebts 2 = .ok (.aload_n 0, 1) := by decide +kernel
theorem dX0_fundDebts_3 : decode cX0_fundDebts 3 = .ok (.getfield 11, 3) := by decide +kernel
theorem dX0_fundDebts_6 : decode cX0_fundDebts 6 = .ok (.astore_n 2, 1) := by decide +kernel
theorem dX0_fundDebts_7 : decode cX0_fundDebts 7 = .ok (.aload_n 2, 1) := by decide +kernel
theorem dX0_fundDebts_8 : decode cX0_fundDebts 8 = .ok (.arraylength, 1) := by decide +kernel
theorem dX0_fundDebts_9 : decode cX0_fundDebts 9 = .ok (.istore_n 3, 1) := by decide +kernel
theorem dX0_fundDebts_10 : decode cX0_fundDebts 10 = .ok (.iconst 0, 1) := by decide +kernel
theorem dX0_fundDebts_11 : decode cX0_fundDebts 11 = .ok (.istore 4, 2) := by decide +kernel
theorem dX0_fundDebts_13 : decode cX0_fundDebts 13 = .ok (.iload 4, 2) := by decide +kernel
theorem dX0_fundDebts_15 : decode cX0_fundDebts 15 = .ok (.iload_n 3, 1) := by decide +kernel
theorem dX0_fundDebts_16 : decode cX0_fundDebts 16 = .ok (.if_icmp .ge 23, 3) := by decide +kernel
theorem dX0_fundDebts_19 : decode cX0_fundDebts 19 = .ok (.aload_n 2, 1) := by decide +kernel
theorem dX0_fundDebts_20 : decode cX0_fundDebts 20 = .ok (.iload 4, 2) := by decide +kernel
theorem dX0_fundDebts_22 : decode cX0_fundDebts 22 = .ok (.aaload, 1) := by decide +kernel
theorem dX0_fundDebts_23 : decode cX0_fundDebts 23 = .ok (.astore 5, 2) := by decide +kernel
theorem dX0_fundDebts_25 : decode cX0_fundDebts 25 = .ok (.iload_n 1, 1) := by decide +kernel
theorem dX0_fundDebts_26 : decode cX0_fundDebts 26 = .ok (.aload 5, 2) := by decide +kernel
theorem dX0_fundDebts_28 : decode cX0_fundDebts 28 = .ok (.getfield 116, 3) := by decide +kernel
theorem dX0_fundDebts_31 : decode cX0_fundDebts 31 = .ok (.iadd, 1) := by decide +kernel
theorem dX0_fundDebts_32 : decode cX0_fundDebts 32 = .ok (.istore_n 1, 1) := by decide +kernel
theorem dX0_fundDebts_33 : decode cX0_fundDebts 33 = .ok (.iinc 4 1, 3) := by decide +kernel
theorem dX0_fundDebts_36 : decode cX0_fundDebts 36 = .ok (.goto (-23), 3) := by decide +kernel
theorem dX0_fundDebts_39 : decode cX0_fundDebts 39 = .ok (.iload_n 1, 1) := by decide +kernel
theorem dX0_fundDebts_40 : decode cX0_fundDebts 40 = .ok (.ireturn, 1) := by decide +kernel
set_option maxRecDepth 20000 in
theorem ggX0_debtsAmongMembers_X2_debtToMembers : GoodIn wsX0_debtsAmongMembers wsX2_debtToMembers := goodIn_r _ [5, 6, 18, 19, 20, 21, 22, 23, 24, 25, 26, 27, 28, 29, 30, 31, 32, 33] (by decide +kernel) (by decide +kernel)
set_option maxRecDepth 20000 in
theorem gX0_debtsAmongMembers_X2_debtToMembers_n170 : GoodIn wsX0_debtsAmongMembers (wsX2_debtToMembers) := ggX0_debtsAmongMembers_X2_debtToMembers
theorem dX0_debtsAmongMembers_0 : decode cX0_debtsAmongMembers 0 = .ok (.iconst 0, 1) := by decide +kernel
theorem dX0_debtsAmongMembers_1 : decode cX0_debtsAmongMembers 1 = .ok (.istore_n 1, 1) := by decide +kernel
theorem dX0_debtsAmongMembers_2 : decode cX0_debtsAmongMembers 2 = .ok (.aload_n 0, 1) := by decide +kernel
theorem dX0_debtsAmongMembers_3 : decode cX0_debtsAmongMembers 3 = .ok (.getfield 11, 3) := by decide +kernel
theorem dX0_debtsAmongMembers_6 : decode cX0_debtsAmongMembers 6 = .ok (.astore_n 2, 1) := by decide +kernel
theorem dX0_debtsAmongMembers_7 : decode cX0_debtsAmongMembers 7 = .ok (.aload_n 2, 1) := by decide +kernel
theorem dX0_debtsAmongMembers_8 : decode cX0_debtsAmongMembers 8 = .ok (.arraylength, 1) := by decide +kernel
theorem dX0_debtsAmongMembers_9 : decode cX0_debtsAmongMembers 9 = .ok (.istore_n 3, 1) := by decide +kernel
theorem dX0_debtsAmongMembers_10 : decode cX0_debtsAmongMembers 10 = .ok (.iconst 0, 1) := by decide +kernel
theorem dX0_debtsAmongMembers_11 : decode cX0_debtsAmongMembers 11 = .ok (.istore 4, 2) := by decide +kernel
theorem dX0_debtsAmongMembers_13 : decode cX0_debtsAmongMembers 13 = .ok (.iload 4, 2) := by decide +kernel
theorem dX0_debtsAmongMembers_15 : decode cX0_debtsAmongMembers 15 = .ok (.iload_n 3, 1) := by decide +kernel
theorem dX0_debtsAmongMembers_16 : decode cX0_debtsAmongMembers 16 = .ok (.if_icmp .ge 23, 3) := by decide +kernel
theorem dX0_debtsAmongMembers_19 : decode cX0_debtsAmongMembers 19 = .ok (.aload_n 2, 1) := by decide +kernel
theorem dX0_debtsAmongMembers_20 : decode cX0_debtsAmongMembers 20 = .ok (.iload 4, 2) := by decide +kernel
theorem dX0_debtsAmongMembers_22 : decode cX0_debtsAmongMembers 22 = .ok (.aaload, 1) := by decide +kernel
theorem dX0_debtsAmongMembers_23 : decode cX0_debtsAmongMembers 23 = .ok (.astore 5, 2) := by decide +kernel
theorem dX0_debtsAmongMembers_25 : decode cX0_debtsAmongMembers 25 = .ok (.iload_n 1, 1) := by decide +kernel
theorem dX0_debtsAmongMembers_26 : decode cX0_debtsAmongMembers 26 = .ok (.aload 5, 2) := by decide +kernel
theorem dX0_debtsAmongMembers_28 : decode cX0_debtsAmongMembers 28 = .ok (.invokevirtual 170, 3) := by decide +kernel
theorem dX0_debtsAmongMembers_31 : decode cX0_debtsAmongMembers 31 = .ok (.iadd, 1) := by decide +kernel
theorem dX0_debtsAmongMembers_32 : decode cX0_debtsAmongMembers 32 = .ok (.istore_n 1, 1) := by decide +kernel
theorem dX0_debtsAmongMembers_33 : decode cX0_debtsAmongMembers 33 = .ok (.iinc 4 1, 3) := by decide +kernel
theorem dX0_debtsAmongMembers_36 : decode cX0_debtsAmongMembers 36 = .ok (.goto (-23), 3) := by decide +kernel
theorem dX0_debtsAmongMembers_39 : decode cX0_debtsAmongMembers 39 = .ok (.iload_n 1, 1) := by decide +kernel
theorem dX0_debtsAmongMembers_40 : decode cX0_debtsAmongMembers 40 = .ok (.ireturn, 1) := by decide +kernel
set_option maxRecDepth 20000 in
theorem ggX0_figure_X0_memberCount : GoodIn wsX0_figure wsX0_memberCount := goodIn_r _ [13, 14, 40, 41, 42, 43, 44, 45, 46, 47, 48, 49, 50, 51, 52, 53, 54, 55, 56, 57, 58, 59, 60, 61, 62, 63, 64, 65, 66] (by decide +kernel) (by decide +kernel)
set_option maxRecDepth 20000 in
theorem gX0_figure_X0_memberCount : GoodIn wsX0_figure (wsV RX0 69 RX0 yX0_memberCount wsX0_memberCount) := goodIn_app (goodIn_of _ (by decide +kernel)) ggX0_figure_X0_memberCount
set_option maxRecDepth 20000 in
theorem ggX0_figure_X0_loansLeft : GoodIn wsX0_figure wsX0_loansLeft := goodIn_r _ [18, 14, 40, 41, 42, 43, 44, 45, 46, 47, 48, 49, 50, 51, 52, 53, 54, 55, 56, 57, 58, 59, 60, 61, 62, 63, 64, 65, 66] (by decide +kernel) (by decide +kernel)
set_option maxRecDepth 20000 in
theorem gX0_figure_X0_loansLeft : GoodIn wsX0_figure (wsV RX0 173 RX0 yX0_loansLeft wsX0_loansLeft) := goodIn_app (goodIn_of _ (by decide +kernel)) ggX0_figure_X0_loansLeft
set_option maxRecDepth 20000 in
theorem ggX0_figure_X0_bankDebts : GoodIn wsX0_figure wsX0_bankDebts := goodIn_r _ [22, 14, 40, 41, 42, 43, 44, 45, 46, 47, 48, 49, 50, 51, 52, 53, 54, 55, 56, 57, 58, 59, 60, 61, 62, 63, 64, 65, 66] (by decide +kernel) (by decide +kernel)
set_option maxRecDepth 20000 in
theorem gX0_figure_X0_bankDebts : GoodIn wsX0_figure (wsV RX0 125 RX0 yX0_bankDebts wsX0_bankDebts) := goodIn_app (goodIn_of _ (by decide +kernel)) ggX0_figure_X0_bankDebts
set_option maxRecDepth 20000 in
theorem ggX0_figure_X0_fundDebts : GoodIn wsX0_figure wsX0_fundDebts := goodIn_r _ [26, 14, 40, 41, 42, 43, 44, 45, 46, 47, 48, 49, 50, 51, 52, 53, 54, 55, 56, 57, 58, 59, 60, 61, 62, 63, 64, 65, 66] (by decide +kernel) (by decide +kernel)
set_option maxRecDepth 20000 in
theorem gX0_figure_X0_fundDebts : GoodIn wsX0_figure (wsV RX0 176 RX0 yX0_fundDebts wsX0_fundDebts) := goodIn_app (goodIn_of _ (by decide +kernel)) ggX0_figure_X0_fundDebts
set_option maxRecDepth 20000 in
theorem ggX0_figure_X0_debtsAmongMembers : GoodIn wsX0_figure wsX0_debtsAmongMembers := goodIn_r _ [30, 14, 31, 32, 33, 34, 35, 40, 41, 42, 43, 44, 45, 46, 47, 48, 49, 50, 51, 52, 53, 54, 55, 56, 57, 58, 59, 60, 61, 62, 63, 64, 65, 66] (by decide +kernel) (by decide +kernel)
set_option maxRecDepth 20000 in
theorem gX0_figure_X0_debtsAmongMembers : GoodIn wsX0_figure (wsV RX0 179 RX0 yX0_debtsAmongMembers wsX0_debtsAmongMembers) := goodIn_app (goodIn_of _ (by decide +kernel)) ggX0_figure_X0_debtsAmongMembers
set_option maxRecDepth 20000 in
theorem ggX0_figure_X0_awayMembers : GoodIn wsX0_figure wsX0_awayMembers := goodIn_r _ [39, 14, 40, 41, 42, 43, 44, 45, 46, 47, 48, 49, 50, 51, 52, 53, 54, 55, 56, 57, 58, 59, 60, 61, 62, 63, 64, 65, 66] (by decide +kernel) (by decide +kernel)
set_option maxRecDepth 20000 in
theorem gX0_figure_X0_awayMembers : GoodIn wsX0_figure (wsV RX0 157 RX0 yX0_awayMembers wsX0_awayMembers) := goodIn_app (goodIn_of _ (by decide +kernel)) ggX0_figure_X0_awayMembers
theorem dX0_figure_0 : decode cX0_figure 0 = .ok (.iload_n 1, 1) := by decide +kernel
theorem dX0_figure_1 : decode cX0_figure 1 = .ok (.tableswitch 151 0 13 #[71, 76, 81, 86, 91, 96, 101, 106, 111, 116, 121, 126, 131, 146], 71) := by decide +kernel
theorem dX0_figure_72 : decode cX0_figure 72 = .ok (.aload_n 0, 1) := by decide +kernel
theorem dX0_figure_73 : decode cX0_figure 73 = .ok (.getfield 41, 3) := by decide +kernel
theorem dX0_figure_76 : decode cX0_figure 76 = .ok (.ireturn, 1) := by decide +kernel
theorem dX0_figure_77 : decode cX0_figure 77 = .ok (.aload_n 0, 1) := by decide +kernel
theorem dX0_figure_78 : decode cX0_figure 78 = .ok (.getfield 44, 3) := by decide +kernel
theorem dX0_figure_81 : decode cX0_figure 81 = .ok (.ireturn, 1) := by decide +kernel
theorem dX0_figure_82 : decode cX0_figure 82 = .ok (.aload_n 0, 1) := by decide +kernel
theorem dX0_figure_83 : decode cX0_figure 83 = .ok (.getfield 21, 3) := by decide +kernel
theorem dX0_figure_86 : decode cX0_figure 86 = .ok (.ireturn, 1) := by decide +kernel
theorem dX0_figure_87 : decode cX0_figure 87 = .ok (.aload_n 0, 1) := by decide +kernel
theorem dX0_figure_88 : decode cX0_figure 88 = .ok (.invokevirtual 69, 3) := by decide +kernel
theorem dX0_figure_91 : decode cX0_figure 91 = .ok (.ireturn, 1) := by decide +kernel
theorem dX0_figure_92 : decode cX0_figure 92 = .ok (.aload_n 0, 1) := by decide +kernel
theorem dX0_figure_93 : decode cX0_figure 93 = .ok (.getfield 47, 3) := by decide +kernel
theorem dX0_figure_96 : decode cX0_figure 96 = .ok (.ireturn, 1) := by decide +kernel
theorem dX0_figure_97 : decode cX0_figure 97 = .ok (.aload_n 0, 1) := by decide +kernel
theorem dX0_figure_98 : decode cX0_figure 98 = .ok (.invokevirtual 173, 3) := by decide +kernel
theorem dX0_figure_101 : decode cX0_figure 101 = .ok (.ireturn, 1) := by decide +kernel
theorem dX0_figure_102 : decode cX0_figure 102 = .ok (.aload_n 0, 1) := by decide +kernel
theorem dX0_figure_103 : decode cX0_figure 103 = .ok (.invokevirtual 125, 3) := by decide +kernel
theorem dX0_figure_106 : decode cX0_figure 106 = .ok (.ireturn, 1) := by decide +kernel
theorem dX0_figure_107 : decode cX0_figure 107 = .ok (.aload_n 0, 1) := by decide +kernel
theorem dX0_figure_108 : decode cX0_figure 108 = .ok (.invokevirtual 176, 3) := by decide +kernel
theorem dX0_figure_111 : decode cX0_figure 111 = .ok (.ireturn, 1) := by decide +kernel
theorem dX0_figure_112 : decode cX0_figure 112 = .ok (.aload_n 0, 1) := by decide +kernel
theorem dX0_figure_113 : decode cX0_figure 113 = .ok (.invokevirtual 179, 3) := by decide +kernel
theorem dX0_figure_116 : decode cX0_figure 116 = .ok (.ireturn, 1) := by decide +kernel
theorem dX0_figure_117 : decode cX0_figure 117 = .ok (.aload_n 0, 1) := by decide +kernel
theorem dX0_figure_118 : decode cX0_figure 118 = .ok (.getfield 50, 3) := by decide +kernel
theorem dX0_figure_121 : decode cX0_figure 121 = .ok (.ireturn, 1) := by decide +kernel
theorem dX0_figure_122 : decode cX0_figure 122 = .ok (.aload_n 0, 1) := by decide +kernel
theorem dX0_figure_123 : decode cX0_figure 123 = .ok (.getfield 53, 3) := by decide +kernel
theorem dX0_figure_126 : decode cX0_figure 126 = .ok (.ireturn, 1) := by decide +kernel
theorem dX0_figure_127 : decode cX0_figure 127 = .ok (.aload_n 0, 1) := by decide +kernel
theorem dX0_figure_128 : decode cX0_figure 128 = .ok (.getfield 56, 3) := by decide +kernel
theorem dX0_figure_131 : decode cX0_figure 131 = .ok (.ireturn, 1) := by decide +kernel
theorem dX0_figure_132 : decode cX0_figure 132 = .ok (.aload_n 0, 1) := by decide +kernel
theorem dX0_figure_133 : decode cX0_figure 133 = .ok (.getfield 50, 3) := by decide +kernel
theorem dX0_figure_136 : decode cX0_figure 136 = .ok (.aload_n 0, 1) := by decide +kernel
theorem dX0_figure_137 : decode cX0_figure 137 = .ok (.getfield 53, 3) := by decide +kernel
theorem dX0_figure_140 : decode cX0_figure 140 = .ok (.iadd, 1) := by decide +kernel
theorem dX0_figure_141 : decode cX0_figure 141 = .ok (.aload_n 0, 1) := by decide +kernel
theorem dX0_figure_142 : decode cX0_figure 142 = .ok (.getfield 56, 3) := by decide +kernel
theorem dX0_figure_145 : decode cX0_figure 145 = .ok (.isub, 1) := by decide +kernel
theorem dX0_figure_146 : decode cX0_figure 146 = .ok (.ireturn, 1) := by decide +kernel
theorem dX0_figure_147 : decode cX0_figure 147 = .ok (.aload_n 0, 1) := by decide +kernel
theorem dX0_figure_148 : decode cX0_figure 148 = .ok (.getfield 59, 3) := by decide +kernel
theorem dX0_figure_151 : decode cX0_figure 151 = .ok (.ireturn, 1) := by decide +kernel
theorem dX0_figure_152 : decode cX0_figure 152 = .ok (.aload_n 0, 1) := by decide +kernel
theorem dX0_figure_153 : decode cX0_figure 153 = .ok (.invokevirtual 157, 3) := by decide +kernel
theorem dX0_figure_156 : decode cX0_figure 156 = .ok (.ireturn, 1) := by decide +kernel
theorem dX0_mostPaidForOthersSince_0 : decode cX0_mostPaidForOthersSince 0 = .ok (.iconst 0, 1) := by decide +kernel
theorem dX0_mostPaidForOthersSince_1 : decode cX0_mostPaidForOthersSince 1 = .ok (.istore_n 2, 1) := by decide +kernel
theorem dX0_mostPaidForOthersSince_2 : decode cX0_mostPaidForOthersSince 2 = .ok (.iconst 0, 1) := by decide +kernel
theorem dX0_mostPaidForOthersSince_3 : decode cX0_mostPaidForOthersSince 3 = .ok (.istore_n 3, 1) := by decide +kernel
theorem dX0_mostPaidForOthersSince_4 : decode cX0_mostPaidForOthersSince 4 = .ok (.iload_n 3, 1) := by decide +kernel
theorem dX0_mostPaidForOthersSince_5 : decode cX0_mostPaidForOthersSince 5 = .ok (.bipush 8, 2) := by decide +kernel
theorem dX0_mostPaidForOthersSince_7 : decode cX0_mostPaidForOthersSince 7 = .ok (.if_icmp .ge 33, 3) := by decide +kernel
theorem dX0_mostPaidForOthersSince_10 : decode cX0_mostPaidForOthersSince 10 = .ok (.iload_n 2, 1) := by decide +kernel
theorem dX0_mostPaidForOthersSince_11 : decode cX0_mostPaidForOthersSince 11 = .ok (.aload_n 0, 1) := by decide +kernel
theorem dX0_mostPaidForOthersSince_12 : decode cX0_mostPaidForOthersSince 12 = .ok (.getfield 11, 3) := by decide +kernel
theorem dX0_mostPaidForOthersSince_15 : decode cX0_mostPaidForOthersSince 15 = .ok (.iload_n 3, 1) := by decide +kernel
theorem dX0_mostPaidForOthersSince_16 : decode cX0_mostPaidForOthersSince 16 = .ok (.aaload, 1) := by decide +kernel
theorem dX0_mostPaidForOthersSince_17 : decode cX0_mostPaidForOthersSince 17 = .ok (.getfield 164, 3) := by decide +kernel
theorem dX0_mostPaidForOthersSince_20 : decode cX0_mostPaidForOthersSince 20 = .ok (.aload_n 1, 1) := by decide +kernel
theorem dX0_mostPaidForOthersSince_21 : decode cX0_mostPaidForOthersSince 21 = .ok (.getfield 11, 3) := by decide +kernel
theorem dX0_mostPaidForOthersSince_24 : decode cX0_mostPaidForOthersSince 24 = .ok (.iload_n 3, 1) := by decide +kernel
theorem dX0_mostPaidForOthersSince_25 : decode cX0_mostPaidForOthersSince 25 = .ok (.aaload, 1) := by decide +kernel
theorem dX0_mostPaidForOthersSince_26 : decode cX0_mostPaidForOthersSince 26 = .ok (.getfield 164, 3) := by decide +kernel
theorem dX0_mostPaidForOthersSince_29 : decode cX0_mostPaidForOthersSince 29 = .ok (.isub, 1) := by decide +kernel
theorem dX0_mostPaidForOthersSince_30 : decode cX0_mostPaidForOthersSince 30 = .ok (.invokestatic 182, 3) := by decide +kernel
theorem dX0_mostPaidForOthersSince_33 : decode cX0_mostPaidForOthersSince 33 = .ok (.istore_n 2, 1) := by decide +kernel
theorem dX0_mostPaidForOthersSince_34 : decode cX0_mostPaidForOthersSince 34 = .ok (.iinc 3 1, 3) := by decide +kernel
theorem dX0_mostPaidForOthersSince_37 : decode cX0_mostPaidForOthersSince 37 = .ok (.goto (-33), 3) := by decide +kernel
theorem dX0_mostPaidForOthersSince_40 : decode cX0_mostPaidForOthersSince 40 = .ok (.iload_n 2, 1) := by decide +kernel
theorem dX0_mostPaidForOthersSince_41 : decode cX0_mostPaidForOthersSince 41 = .ok (.ireturn, 1) := by decide +kernel
set_option maxRecDepth 20000 in
theorem ggX0_weeksOfFund_X0_memberCount : GoodIn wsX0_weeksOfFund wsX0_memberCount := goodIn_r _ [7, 8, 9, 10, 11, 12, 13, 14, 15, 16, 17, 18, 19, 20, 21, 22, 23, 24, 25, 26, 27, 28, 29, 30, 31, 32, 33, 34, 35] (by decide +kernel) (by decide +kernel)
set_option maxRecDepth 20000 in
theorem gX0_weeksOfFund_X0_memberCount : GoodIn wsX0_weeksOfFund (wsV RX0 69 RX0 yX0_memberCount wsX0_memberCount) := goodIn_app (goodIn_of _ (by decide +kernel)) ggX0_weeksOfFund_X0_memberCount
theorem dX0_weeksOfFund_0 : decode cX0_weeksOfFund 0 = .ok (.aload_n 0, 1) := by decide +kernel
theorem dX0_weeksOfFund_1 : decode cX0_weeksOfFund 1 = .ok (.getfield 47, 3) := by decide +kernel
theorem dX0_weeksOfFund_4 : decode cX0_weeksOfFund 4 = .ok (.istore_n 2, 1) := by decide +kernel
theorem dX0_weeksOfFund_5 : decode cX0_weeksOfFund 5 = .ok (.aload_n 1, 1) := by decide +kernel
theorem dX0_weeksOfFund_6 : decode cX0_weeksOfFund 6 = .ok (.getfield 167, 3) := by decide +kernel
theorem dX0_weeksOfFund_9 : decode cX0_weeksOfFund 9 = .ok (.istore_n 3, 1) := by decide +kernel
theorem dX0_weeksOfFund_10 : decode cX0_weeksOfFund 10 = .ok (.aload_n 0, 1) := by decide +kernel
theorem dX0_weeksOfFund_11 : decode cX0_weeksOfFund 11 = .ok (.invokevirtual 69, 3) := by decide +kernel
theorem dX0_weeksOfFund_14 : decode cX0_weeksOfFund 14 = .ok (.iconst 1, 1) := by decide +kernel
theorem dX0_weeksOfFund_15 : decode cX0_weeksOfFund 15 = .ok (.isub, 1) := by decide +kernel
theorem dX0_weeksOfFund_16 : decode cX0_weeksOfFund 16 = .ok (.aload_n 0, 1) := by decide +kernel
theorem dX0_weeksOfFund_17 : decode cX0_weeksOfFund 17 = .ok (.getfield 17, 3) := by decide +kernel
theorem dX0_weeksOfFund_20 : decode cX0_weeksOfFund 20 = .ok (.iconst 1, 1) := by decide +kernel
theorem dX0_weeksOfFund_21 : decode cX0_weeksOfFund 21 = .ok (.iaload, 1) := by decide +kernel
theorem dX0_weeksOfFund_22 : decode cX0_weeksOfFund 22 = .ok (.imul, 1) := by decide +kernel
theorem dX0_weeksOfFund_23 : decode cX0_weeksOfFund 23 = .ok (.istore 4, 2) := by decide +kernel
theorem dX0_weeksOfFund_25 : decode cX0_weeksOfFund 25 = .ok (.iconst 0, 1) := by decide +kernel
theorem dX0_weeksOfFund_26 : decode cX0_weeksOfFund 26 = .ok (.istore 5, 2) := by decide +kernel
theorem dX0_weeksOfFund_28 : decode cX0_weeksOfFund 28 = .ok (.iload 5, 2) := by decide +kernel
theorem dX0_weeksOfFund_30 : decode cX0_weeksOfFund 30 = .ok (.aload_n 1, 1) := by decide +kernel
theorem dX0_weeksOfFund_31 : decode cX0_weeksOfFund 31 = .ok (.getfield 185, 3) := by decide +kernel
theorem dX0_weeksOfFund_34 : decode cX0_weeksOfFund 34 = .ok (.if_icmp .ge 61, 3) := by decide +kernel
theorem dX0_weeksOfFund_37 : decode cX0_weeksOfFund 37 = .ok (.iload 5, 2) := by decide +kernel
theorem dX0_weeksOfFund_39 : decode cX0_weeksOfFund 39 = .ok (.aload_n 1, 1) := by decide +kernel
theorem dX0_weeksOfFund_40 : decode cX0_weeksOfFund 40 = .ok (.getfield 185, 3) := by decide +kernel
theorem dX0_weeksOfFund_43 : decode cX0_weeksOfFund 43 = .ok (.iconst 1, 1) := by decide +kernel
theorem dX0_weeksOfFund_44 : decode cX0_weeksOfFund 44 = .ok (.isub, 1) := by decide +kernel
theorem dX0_weeksOfFund_45 : decode cX0_weeksOfFund 45 = .ok (.if_icmp .ne 7, 3) := by decide +kernel
theorem dX0_weeksOfFund_48 : decode cX0_weeksOfFund 48 = .ok (.iload_n 3, 1) := by decide +kernel
theorem dX0_weeksOfFund_49 : decode cX0_weeksOfFund 49 = .ok (.goto 7, 3) := by decide +kernel
theorem dX0_weeksOfFund_52 : decode cX0_weeksOfFund 52 = .ok (.aload_n 1, 1) := by decide +kernel
theorem dX0_weeksOfFund_53 : decode cX0_weeksOfFund 53 = .ok (.getfield 188, 3) := by decide +kernel
theorem dX0_weeksOfFund_56 : decode cX0_weeksOfFund 56 = .ok (.istore 6, 2) := by decide +kernel
theorem dX0_weeksOfFund_58 : decode cX0_weeksOfFund 58 = .ok (.iload 6, 2) := by decide +kernel
theorem dX0_weeksOfFund_60 : decode cX0_weeksOfFund 60 = .ok (.aload_n 1, 1) := by decide +kernel
theorem dX0_weeksOfFund_61 : decode cX0_weeksOfFund 61 = .ok (.getfield 146, 3) := by decide +kernel
theorem dX0_weeksOfFund_64 : decode cX0_weeksOfFund 64 = .ok (.iadd, 1) := by decide +kernel
theorem dX0_weeksOfFund_65 : decode cX0_weeksOfFund 65 = .ok (.istore 7, 2) := by decide +kernel
theorem dX0_weeksOfFund_67 : decode cX0_weeksOfFund 67 = .ok (.iload 7, 2) := by decide +kernel
theorem dX0_weeksOfFund_69 : decode cX0_weeksOfFund 69 = .ok (.iload_n 2, 1) := by decide +kernel
theorem dX0_weeksOfFund_70 : decode cX0_weeksOfFund 70 = .ok (.if_icmp .le 6, 3) := by decide +kernel
theorem dX0_weeksOfFund_73 : decode cX0_weeksOfFund 73 = .ok (.iload 5, 2) := by decide +kernel
theorem dX0_weeksOfFund_75 : decode cX0_weeksOfFund 75 = .ok (.ireturn, 1) := by decide +kernel
theorem dX0_weeksOfFund_76 : decode cX0_weeksOfFund 76 = .ok (.iload_n 2, 1) := by decide +kernel
theorem dX0_weeksOfFund_77 : decode cX0_weeksOfFund 77 = .ok (.iload 4, 2) := by decide +kernel
theorem dX0_weeksOfFund_79 : decode cX0_weeksOfFund 79 = .ok (.iload 7, 2) := by decide +kernel
theorem dX0_weeksOfFund_81 : decode cX0_weeksOfFund 81 = .ok (.isub, 1) := by decide +kernel
theorem dX0_weeksOfFund_82 : decode cX0_weeksOfFund 82 = .ok (.iadd, 1) := by decide +kernel
theorem dX0_weeksOfFund_83 : decode cX0_weeksOfFund 83 = .ok (.istore_n 2, 1) := by decide +kernel
theorem dX0_weeksOfFund_84 : decode cX0_weeksOfFund 84 = .ok (.iload_n 3, 1) := by decide +kernel
theorem dX0_weeksOfFund_85 : decode cX0_weeksOfFund 85 = .ok (.iload 6, 2) := by decide +kernel
theorem dX0_weeksOfFund_87 : decode cX0_weeksOfFund 87 = .ok (.isub, 1) := by decide +kernel
theorem dX0_weeksOfFund_88 : decode cX0_weeksOfFund 88 = .ok (.istore_n 3, 1) := by decide +kernel
theorem dX0_weeksOfFund_89 : decode cX0_weeksOfFund 89 = .ok (.iinc 5 1, 3) := by decide +kernel
theorem dX0_weeksOfFund_92 : decode cX0_weeksOfFund 92 = .ok (.goto (-64), 3) := by decide +kernel
theorem dX0_weeksOfFund_95 : decode cX0_weeksOfFund 95 = .ok (.iconst (-1), 1) := by decide +kernel
theorem dX0_weeksOfFund_96 : decode cX0_weeksOfFund 96 = .ok (.ireturn, 1) := by decide +kernel
set_option maxRecDepth 20000 in
theorem ggX0_weakestNumber_X0_memberCount : GoodIn wsX0_weakestNumber wsX0_memberCount := goodIn_r _ [7, 1, 24, 25, 26, 27, 28, 29, 30, 31, 32, 33, 34, 35, 36, 37, 38, 39, 40, 41, 42, 43, 44, 45, 46, 47, 48, 49, 50] (by decide +kernel) (by decide +kernel)
set_option maxRecDepth 20000 in
theorem gX0_weakestNumber_X0_memberCount : GoodIn wsX0_weakestNumber (wsV RX0 69 RX0 yX0_memberCount wsX0_memberCount) := goodIn_app (goodIn_of _ (by decide +kernel)) ggX0_weakestNumber_X0_memberCount
set_option maxRecDepth 20000 in
theorem ggX0_weakestNumber_X2_due : GoodIn wsX0_weakestNumber wsX2_due := goodIn_r _ [11, 12, 13, 14, 15, 9, 16, 17, 18, 19, 20, 21, 22, 23, 35, 36, 37, 38, 39, 40, 41, 42, 43, 44, 45, 46, 47, 48, 49, 50] (by decide +kernel) (by decide +kernel)
set_option maxRecDepth 20000 in
theorem gX0_weakestNumber_X2_due_n143 : GoodIn wsX0_weakestNumber (wsX2_due) := ggX0_weakestNumber_X2_due
theorem dX0_weakestNumber_0 : decode cX0_weakestNumber 0 = .ok (.iconst (-1), 1) := by decide +kernel
theorem dX0_weakestNumber_1 : decode cX0_weakestNumber 1 = .ok (.istore_n 1, 1) := by decide +kernel
theorem dX0_weakestNumber_2 : decode cX0_weakestNumber 2 = .ok (.iconst 0, 1) := by decide +kernel
theorem dX0_weakestNumber_3 : decode cX0_weakestNumber 3 = .ok (.istore_n 2, 1) := by decide +kernel
theorem dX0_weakestNumber_4 : decode cX0_weakestNumber 4 = .ok (.aload_n 0, 1) := by decide +kernel
theorem dX0_weakestNumber_5 : decode cX0_weakestNumber 5 = .ok (.invokevirtual 69, 3) := by decide +kernel
theorem dX0_weakestNumber_8 : decode cX0_weakestNumber 8 = .ok (.iconst 2, 1) := by decide +kernel
theorem dX0_weakestNumber_9 : decode cX0_weakestNumber 9 = .ok (.if_icmp .ge 5, 3) := by decide +kernel
theorem dX0_weakestNumber_12 : decode cX0_weakestNumber 12 = .ok (.iconst (-1), 1) := by decide +kernel
theorem dX0_weakestNumber_13 : decode cX0_weakestNumber 13 = .ok (.ireturn, 1) := by decide +kernel
theorem dX0_weakestNumber_14 : decode cX0_weakestNumber 14 = .ok (.aload_n 0, 1) := by decide +kernel
theorem dX0_weakestNumber_15 : decode cX0_weakestNumber 15 = .ok (.getfield 11, 3) := by decide +kernel
theorem dX0_weakestNumber_18 : decode cX0_weakestNumber 18 = .ok (.astore_n 3, 1) := by decide +kernel
theorem dX0_weakestNumber_19 : decode cX0_weakestNumber 19 = .ok (.aload_n 3, 1) := by decide +kernel
theorem dX0_weakestNumber_20 : decode cX0_weakestNumber 20 = .ok (.arraylength, 1) := by decide +kernel
theorem dX0_weakestNumber_21 : decode cX0_weakestNumber 21 = .ok (.istore 4, 2) := by decide +kernel
theorem dX0_weakestNumber_23 : decode cX0_weakestNumber 23 = .ok (.iconst 0, 1) := by decide +kernel
theorem dX0_weakestNumber_24 : decode cX0_weakestNumber 24 = .ok (.istore 5, 2) := by decide +kernel
theorem dX0_weakestNumber_26 : decode cX0_weakestNumber 26 = .ok (.iload 5, 2) := by decide +kernel
theorem dX0_weakestNumber_28 : decode cX0_weakestNumber 28 = .ok (.iload 4, 2) := by decide +kernel
theorem dX0_weakestNumber_30 : decode cX0_weakestNumber 30 = .ok (.if_icmp .ge 42, 3) := by decide +kernel
theorem dX0_weakestNumber_33 : decode cX0_weakestNumber 33 = .ok (.aload_n 3, 1) := by decide +kernel
theorem dX0_weakestNumber_34 : decode cX0_weakestNumber 34 = .ok (.iload 5, 2) := by decide +kernel
theorem dX0_weakestNumber_36 : decode cX0_weakestNumber 36 = .ok (.aaload, 1) := by decide +kernel
theorem dX0_weakestNumber_37 : decode cX0_weakestNumber 37 = .ok (.astore 6, 2) := by decide +kernel
theorem dX0_weakestNumber_39 : decode cX0_weakestNumber 39 = .ok (.aload 6, 2) := by decide +kernel
theorem dX0_weakestNumber_41 : decode cX0_weakestNumber 41 = .ok (.invokevirtual 143, 3) := by decide +kernel
theorem dX0_weakestNumber_44 : decode cX0_weakestNumber 44 = .ok (.aload_n 0, 1) := by decide +kernel
theorem dX0_weakestNumber_45 : decode cX0_weakestNumber 45 = .ok (.getfield 47, 3) := by decide +kernel
theorem dX0_weakestNumber_48 : decode cX0_weakestNumber 48 = .ok (.isub, 1) := by decide +kernel
theorem dX0_weakestNumber_49 : decode cX0_weakestNumber 49 = .ok (.istore 7, 2) := by decide +kernel
theorem dX0_weakestNumber_51 : decode cX0_weakestNumber 51 = .ok (.iload 7, 2) := by decide +kernel
theorem dX0_weakestNumber_53 : decode cX0_weakestNumber 53 = .ok (.iload_n 2, 1) := by decide +kernel
theorem dX0_weakestNumber_54 : decode cX0_weakestNumber 54 = .ok (.if_icmp .le 12, 3) := by decide +kernel
theorem dX0_weakestNumber_57 : decode cX0_weakestNumber 57 = .ok (.iload 7, 2) := by decide +kernel
theorem dX0_weakestNumber_59 : decode cX0_weakestNumber 59 = .ok (.istore_n 2, 1) := by decide +kernel
theorem dX0_weakestNumber_60 : decode cX0_weakestNumber 60 = .ok (.aload 6, 2) := by decide +kernel
theorem dX0_weakestNumber_62 : decode cX0_weakestNumber 62 = .ok (.getfield 90, 3) := by decide +kernel
theorem dX0_weakestNumber_65 : decode cX0_weakestNumber 65 = .ok (.istore_n 1, 1) := by decide +kernel
theorem dX0_weakestNumber_66 : decode cX0_weakestNumber 66 = .ok (.iinc 5 1, 3) := by decide +kernel
theorem dX0_weakestNumber_69 : decode cX0_weakestNumber 69 = .ok (.goto (-43), 3) := by decide +kernel
theorem dX0_weakestNumber_72 : decode cX0_weakestNumber 72 = .ok (.iload_n 1, 1) := by decide +kernel
theorem dX0_weakestNumber_73 : decode cX0_weakestNumber 73 = .ok (.ireturn, 1) := by decide +kernel
theorem dX0_mostLoanWeeks_0 : decode cX0_mostLoanWeeks 0 = .ok (.iconst 0, 1) := by decide +kernel
theorem dX0_mostLoanWeeks_1 : decode cX0_mostLoanWeeks 1 = .ok (.istore_n 1, 1) := by decide +kernel
theorem dX0_mostLoanWeeks_2 : decode cX0_mostLoanWeeks 2 = .ok (.aload_n 0, 1) := by decide +kernel
theorem dX0_mostLoanWeeks_3 : decode cX0_mostLoanWeeks 3 = .ok (.getfield 11, 3) := by decide +kernel
theorem dX0_mostLoanWeeks_6 : decode cX0_mostLoanWeeks 6 = .ok (.astore_n 2, 1) := by decide +kernel
theorem dX0_mostLoanWeeks_7 : decode cX0_mostLoanWeeks 7 = .ok (.aload_n 2, 1) := by decide +kernel
theorem dX0_mostLoanWeeks_8 : decode cX0_mostLoanWeeks 8 = .ok (.arraylength, 1) := by decide +kernel
theorem dX0_mostLoanWeeks_9 : decode cX0_mostLoanWeeks 9 = .ok (.istore_n 3, 1) := by decide +kernel
theorem dX0_mostLoanWeeks_10 : decode cX0_mostLoanWeeks 10 = .ok (.iconst 0, 1) := by decide +kernel
theorem dX0_mostLoanWeeks_11 : decode cX0_mostLoanWeeks 11 = .ok (.istore 4, 2) := by decide +kernel
theorem dX0_mostLoanWeeks_13 : decode cX0_mostLoanWeeks 13 = .ok (.iload 4, 2) := by decide +kernel
theorem dX0_mostLoanWeeks_15 : decode cX0_mostLoanWeeks 15 = .ok (.iload_n 3, 1) := by decide +kernel
theorem dX0_mostLoanWeeks_16 : decode cX0_mostLoanWeeks 16 = .ok (.if_icmp .ge 25, 3) := by decide +kernel
theorem dX0_mostLoanWeeks_19 : decode cX0_mostLoanWeeks 19 = .ok (.aload_n 2, 1) := by decide +kernel
theorem dX0_mostLoanWeeks_20 : decode cX0_mostLoanWeeks 20 = .ok (.iload 4, 2) := by decide +kernel
theorem dX0_mostLoanWeeks_22 : decode cX0_mostLoanWeeks 22 = .ok (.aaload, 1) := by decide +kernel
theorem dX0_mostLoanWeeks_23 : decode cX0_mostLoanWeeks 23 = .ok (.astore 5, 2) := by decide +kernel
theorem dX0_mostLoanWeeks_25 : decode cX0_mostLoanWeeks 25 = .ok (.iload_n 1, 1) := by decide +kernel
theorem dX0_mostLoanWeeks_26 : decode cX0_mostLoanWeeks 26 = .ok (.aload 5, 2) := by decide +kernel
theorem dX0_mostLoanWeeks_28 : decode cX0_mostLoanWeeks 28 = .ok (.getfield 185, 3) := by decide +kernel
theorem dX0_mostLoanWeeks_31 : decode cX0_mostLoanWeeks 31 = .ok (.invokestatic 182, 3) := by decide +kernel
theorem dX0_mostLoanWeeks_34 : decode cX0_mostLoanWeeks 34 = .ok (.istore_n 1, 1) := by decide +kernel
theorem dX0_mostLoanWeeks_35 : decode cX0_mostLoanWeeks 35 = .ok (.iinc 4 1, 3) := by decide +kernel
theorem dX0_mostLoanWeeks_38 : decode cX0_mostLoanWeeks 38 = .ok (.goto (-25), 3) := by decide +kernel
theorem dX0_mostLoanWeeks_41 : decode cX0_mostLoanWeeks 41 = .ok (.iload_n 1, 1) := by decide +kernel
theorem dX0_mostLoanWeeks_42 : decode cX0_mostLoanWeeks 42 = .ok (.ireturn, 1) := by decide +kernel
theorem dX0_shareOfPaid_0 : decode cX0_shareOfPaid 0 = .ok (.aload_n 0, 1) := by decide +kernel
theorem dX0_shareOfPaid_1 : decode cX0_shareOfPaid 1 = .ok (.getfield 50, 3) := by decide +kernel
theorem dX0_shareOfPaid_4 : decode cX0_shareOfPaid 4 = .ok (.aload_n 0, 1) := by decide +kernel
theorem dX0_shareOfPaid_5 : decode cX0_shareOfPaid 5 = .ok (.getfield 53, 3) := by decide +kernel
theorem dX0_shareOfPaid_8 : decode cX0_shareOfPaid 8 = .ok (.iadd, 1) := by decide +kernel
theorem dX0_shareOfPaid_9 : decode cX0_shareOfPaid 9 = .ok (.istore_n 1, 1) := by decide +kernel
theorem dX0_shareOfPaid_10 : decode cX0_shareOfPaid 10 = .ok (.iload_n 1, 1) := by decide +kernel
theorem dX0_shareOfPaid_11 : decode cX0_shareOfPaid 11 = .ok (.ifCond .le 14, 3) := by decide +kernel
theorem dX0_shareOfPaid_14 : decode cX0_shareOfPaid 14 = .ok (.aload_n 0, 1) := by decide +kernel
theorem dX0_shareOfPaid_15 : decode cX0_shareOfPaid 15 = .ok (.getfield 56, 3) := by decide +kernel
theorem dX0_shareOfPaid_18 : decode cX0_shareOfPaid 18 = .ok (.i2d, 1) := by decide +kernel
theorem dX0_shareOfPaid_19 : decode cX0_shareOfPaid 19 = .ok (.iload_n 1, 1) := by decide +kernel
theorem dX0_shareOfPaid_20 : decode cX0_shareOfPaid 20 = .ok (.i2d, 1) := by decide +kernel
theorem dX0_shareOfPaid_21 : decode cX0_shareOfPaid 21 = .ok (.ddiv, 1) := by decide +kernel
theorem dX0_shareOfPaid_22 : decode cX0_shareOfPaid 22 = .ok (.goto 4, 3) := by decide +kernel
theorem dX0_shareOfPaid_25 : decode cX0_shareOfPaid 25 = .ok (.dconst 1, 1) := by decide +kernel
theorem dX0_shareOfPaid_26 : decode cX0_shareOfPaid 26 = .ok (.dreturn, 1) := by decide +kernel
set_option maxRecDepth 20000 in
theorem ggX1_init_X0_init : GoodIn wsX1_init wsX0_init := goodIn_r _ [9, 10, 2, 3, 11, 12, 13, 14, 15, 16, 17, 18, 19, 20, 21, 22, 26, 27, 28, 29, 30, 31, 32, 33, 34, 35, 36, 37, 38, 39, 40, 41, 42, 43, 44, 45, 46, 47, 48, 49, 50, 51, 52] (by decide +kernel) (by decide +kernel)
set_option maxRecDepth 20000 in
theorem gX1_init_X0_init_n17 : GoodIn wsX1_init (wsX0_init) := ggX1_init_X0_init
theorem dX1_init_0 : decode cX1_init 0 = .ok (.aload_n 0, 1) := by decide +kernel
theorem dX1_init_1 : decode cX1_init 1 = .ok (.invokespecial 3, 3) := by decide +kernel
theorem dX1_init_4 : decode cX1_init 4 = .ok (.aload_n 0, 1) := by decide +kernel
theorem dX1_init_5 : decode cX1_init 5 = .ok (.bipush 6, 2) := by decide +kernel
theorem dX1_init_7 : decode cX1_init 7 = .ok (.anewarray 9, 3) := by decide +kernel
theorem dX1_init_10 : decode cX1_init 10 = .ok (.putfield 11, 3) := by decide +kernel
theorem dX1_init_13 : decode cX1_init 13 = .ok (.iconst 0, 1) := by decide +kernel
theorem dX1_init_14 : decode cX1_init 14 = .ok (.istore_n 1, 1) := by decide +kernel
theorem dX1_init_15 : decode cX1_init 15 = .ok (.iload_n 1, 1) := by decide +kernel
theorem dX1_init_16 : decode cX1_init 16 = .ok (.bipush 6, 2) := by decide +kernel
theorem dX1_init_18 : decode cX1_init 18 = .ok (.if_icmp .ge 22, 3) := by decide +kernel
theorem dX1_init_21 : decode cX1_init 21 = .ok (.aload_n 0, 1) := by decide +kernel
theorem dX1_init_22 : decode cX1_init 22 = .ok (.getfield 11, 3) := by decide +kernel
theorem dX1_init_25 : decode cX1_init 25 = .ok (.iload_n 1, 1) := by decide +kernel
theorem dX1_init_26 : decode cX1_init 26 = .ok (.new 9, 3) := by decide +kernel
theorem dX1_init_29 : decode cX1_init 29 = .ok (.dup, 1) := by decide +kernel
theorem dX1_init_30 : decode cX1_init 30 = .ok (.invokespecial 17, 3) := by decide +kernel
theorem dX1_init_33 : decode cX1_init 33 = .ok (.aastore, 1) := by decide +kernel
theorem dX1_init_34 : decode cX1_init 34 = .ok (.iinc 1 1, 3) := by decide +kernel
theorem dX1_init_37 : decode cX1_init 37 = .ok (.goto (-22), 3) := by decide +kernel
theorem dX1_init_40 : decode cX1_init 40 = .ok (.return_, 1) := by decide +kernel
set_option maxRecDepth 20000 in
theorem ggX1_keep_J9_floorMod_7cf53 : GoodIn wsX1_keep wsJ9_floorMod_7cf53 := goodIn_r _ [7] (by decide +kernel) (by decide +kernel)
set_option maxRecDepth 20000 in
theorem gX1_keep_J9_floorMod_7cf53 : GoodIn wsX1_keep (va_wsS RX1 25 yJ9_floorMod_7cf53 wsJ9_floorMod_7cf53) := goodIn_app (goodIn_of _ (by decide +kernel)) ggX1_keep_J9_floorMod_7cf53
set_option maxRecDepth 20000 in
theorem ggX1_keep_X0_copyFrom : GoodIn wsX1_keep wsX0_copyFrom := goodIn_r _ [11, 12, 13, 14, 15, 16, 17, 18, 19, 20, 21, 22, 23, 24, 25, 26, 27, 28, 29, 30, 31, 32, 33, 34, 35, 36, 37, 38, 39, 40, 41, 42, 43, 44, 45, 46, 50, 51, 52, 53, 54, 55, 56, 57, 58, 59, 60, 61, 62, 63, 64, 65, 66, 67, 68, 69, 70, 71, 72, 73, 74, 75, 76] (by decide +kernel) (by decide +kernel)
set_option maxRecDepth 20000 in
theorem gX1_keep_X0_copyFrom_n31 : GoodIn wsX1_keep (wsX0_copyFrom) := ggX1_keep_X0_copyFrom
theorem dX1_keep_0 : decode cX1_keep 0 = .ok (.aload_n 0, 1) := by decide +kernel
theorem dX1_keep_1 : decode cX1_keep 1 = .ok (.getfield 11, 3) := by decide +kernel
theorem dX1_keep_4 : decode cX1_keep 4 = .ok (.aload_n 0, 1) := by decide +kernel
theorem dX1_keep_5 : decode cX1_keep 5 = .ok (.getfield 18, 3) := by decide +kernel
theorem dX1_keep_8 : decode cX1_keep 8 = .ok (.aload_n 0, 1) := by decide +kernel
theorem dX1_keep_9 : decode cX1_keep 9 = .ok (.getfield 22, 3) := by decide +kernel
theorem dX1_keep_12 : decode cX1_keep 12 = .ok (.iadd, 1) := by decide +kernel
theorem dX1_keep_13 : decode cX1_keep 13 = .ok (.bipush 6, 2) := by decide +kernel
theorem dX1_keep_15 : decode cX1_keep 15 = .ok (.invokestatic 25, 3) := by decide +kernel
theorem dX1_keep_18 : decode cX1_keep 18 = .ok (.aaload, 1) := by decide +kernel
theorem dX1_keep_19 : decode cX1_keep 19 = .ok (.aload_n 1, 1) := by decide +kernel
theorem dX1_keep_20 : decode cX1_keep 20 = .ok (.invokevirtual 31, 3) := by decide +kernel
theorem dX1_keep_23 : decode cX1_keep 23 = .ok (.aload_n 0, 1) := by decide +kernel
theorem dX1_keep_24 : decode cX1_keep 24 = .ok (.getfield 22, 3) := by decide +kernel
theorem dX1_keep_27 : decode cX1_keep 27 = .ok (.bipush 6, 2) := by decide +kernel
theorem dX1_keep_29 : decode cX1_keep 29 = .ok (.if_icmp .ge 16, 3) := by decide +kernel
theorem dX1_keep_32 : decode cX1_keep 32 = .ok (.aload_n 0, 1) := by decide +kernel
theorem dX1_keep_33 : decode cX1_keep 33 = .ok (.dup, 1) := by decide +kernel
theorem dX1_keep_34 : decode cX1_keep 34 = .ok (.getfield 22, 3) := by decide +kernel
theorem dX1_keep_37 : decode cX1_keep 37 = .ok (.iconst 1, 1) := by decide +kernel
theorem dX1_keep_38 : decode cX1_keep 38 = .ok (.iadd, 1) := by decide +kernel
theorem dX1_keep_39 : decode cX1_keep 39 = .ok (.putfield 22, 3) := by decide +kernel
theorem dX1_keep_42 : decode cX1_keep 42 = .ok (.goto 18, 3) := by decide +kernel
theorem dX1_keep_45 : decode cX1_keep 45 = .ok (.aload_n 0, 1) := by decide +kernel
theorem dX1_keep_46 : decode cX1_keep 46 = .ok (.aload_n 0, 1) := by decide +kernel
theorem dX1_keep_47 : decode cX1_keep 47 = .ok (.getfield 18, 3) := by decide +kernel
theorem dX1_keep_50 : decode cX1_keep 50 = .ok (.iconst 1, 1) := by decide +kernel
theorem dX1_keep_51 : decode cX1_keep 51 = .ok (.iadd, 1) := by decide +kernel
theorem dX1_keep_52 : decode cX1_keep 52 = .ok (.bipush 6, 2) := by decide +kernel
theorem dX1_keep_54 : decode cX1_keep 54 = .ok (.invokestatic 25, 3) := by decide +kernel
theorem dX1_keep_57 : decode cX1_keep 57 = .ok (.putfield 18, 3) := by decide +kernel
theorem dX1_keep_60 : decode cX1_keep 60 = .ok (.return_, 1) := by decide +kernel
set_option maxRecDepth 20000 in
theorem ggX1_takeBack_J9_floorMod_7cf53 : GoodIn wsX1_takeBack wsJ9_floorMod_7cf53 := goodIn_r _ [7] (by decide +kernel) (by decide +kernel)
set_option maxRecDepth 20000 in
theorem gX1_takeBack_J9_floorMod_7cf53 : GoodIn wsX1_takeBack (va_wsS RX1 25 yJ9_floorMod_7cf53 wsJ9_floorMod_7cf53) := goodIn_app (goodIn_of _ (by decide +kernel)) ggX1_takeBack_J9_floorMod_7cf53
set_option maxRecDepth 20000 in
theorem ggX1_takeBack_X0_copyFrom : GoodIn wsX1_takeBack wsX0_copyFrom := goodIn_r _ [11, 12, 13, 14, 15, 16, 17, 18, 19, 20, 21, 22, 23, 24, 25, 26, 27, 28, 29, 30, 31, 32, 33, 34, 35, 36, 37, 38, 39, 40, 41, 42, 43, 44, 45, 46, 50, 51, 52, 53, 54, 55, 56, 57, 58, 59, 60, 61, 62, 63, 64, 65, 66, 67, 68, 69, 70, 71, 72, 73, 74, 75, 76] (by decide +kernel) (by decide +kernel)
set_option maxRecDepth 20000 in
theorem gX1_takeBack_X0_copyFrom_n31 : GoodIn wsX1_takeBack (wsX0_copyFrom) := ggX1_takeBack_X0_copyFrom
theorem dX1_takeBack_0 : decode cX1_takeBack 0 = .ok (.aload_n 0, 1) := by decide +kernel
theorem dX1_takeBack_1 : decode cX1_takeBack 1 = .ok (.getfield 22, 3) := by decide +kernel
theorem dX1_takeBack_4 : decode cX1_takeBack 4 = .ok (.ifCond .gt 4, 3) := by decide +kernel
theorem dX1_takeBack_7 : decode cX1_takeBack 7 = .ok (.return_, 1) := by decide +kernel
theorem dX1_takeBack_8 : decode cX1_takeBack 8 = .ok (.aload_n 0, 1) := by decide +kernel
theorem dX1_takeBack_9 : decode cX1_takeBack 9 = .ok (.dup, 1) := by decide +kernel
theorem dX1_takeBack_10 : decode cX1_takeBack 10 = .ok (.getfield 22, 3) := by decide +kernel
theorem dX1_takeBack_13 : decode cX1_takeBack 13 = .ok (.iconst 1, 1) := by decide +kernel
theorem dX1_takeBack_14 : decode cX1_takeBack 14 = .ok (.isub, 1) := by decide +kernel
theorem dX1_takeBack_15 : decode cX1_takeBack 15 = .ok (.putfield 22, 3) := by decide +kernel
theorem dX1_takeBack_18 : decode cX1_takeBack 18 = .ok (.aload_n 1, 1) := by decide +kernel
theorem dX1_takeBack_19 : decode cX1_takeBack 19 = .ok (.aload_n 0, 1) := by decide +kernel
theorem dX1_takeBack_20 : decode cX1_takeBack 20 = .ok (.getfield 11, 3) := by decide +kernel
theorem dX1_takeBack_23 : decode cX1_takeBack 23 = .ok (.aload_n 0, 1) := by decide +kernel
theorem dX1_takeBack_24 : decode cX1_takeBack 24 = .ok (.getfield 18, 3) := by decide +kernel
theorem dX1_takeBack_27 : decode cX1_takeBack 27 = .ok (.aload_n 0, 1) := by decide +kernel
theorem dX1_takeBack_28 : decode cX1_takeBack 28 = .ok (.getfield 22, 3) := by decide +kernel
theorem dX1_takeBack_31 : decode cX1_takeBack 31 = .ok (.iadd, 1) := by decide +kernel
theorem dX1_takeBack_32 : decode cX1_takeBack 32 = .ok (.bipush 6, 2) := by decide +kernel
theorem dX1_takeBack_34 : decode cX1_takeBack 34 = .ok (.invokestatic 25, 3) := by decide +kernel
theorem dX1_takeBack_37 : decode cX1_takeBack 37 = .ok (.aaload, 1) := by decide +kernel
theorem dX1_takeBack_38 : decode cX1_takeBack 38 = .ok (.invokevirtual 31, 3) := by decide +kernel
theorem dX1_takeBack_41 : decode cX1_takeBack 41 = .ok (.return_, 1) := by decide +kernel
theorem dX2_init_0 : decode cX2_init 0 = .ok (.aload_n 0, 1) := by decide +kernel
theorem dX2_init_1 : decode cX2_init 1 = .ok (.invokespecial 3, 3) := by decide +kernel
theorem dX2_init_4 : decode cX2_init 4 = .ok (.aload_n 0, 1) := by decide +kernel
theorem dX2_init_5 : decode cX2_init 5 = .ok (.bipush 8, 2) := by decide +kernel
theorem dX2_init_7 : decode cX2_init 7 = .ok (.newarray .int, 2) := by decide +kernel
theorem dX2_init_9 : decode cX2_init 9 = .ok (.putfield 9, 3) := by decide +kernel
theorem dX2_init_12 : decode cX2_init 12 = .ok (.aload_n 0, 1) := by decide +kernel
theorem dX2_init_13 : decode cX2_init 13 = .ok (.iload_n 1, 1) := by decide +kernel
theorem dX2_init_14 : decode cX2_init 14 = .ok (.putfield 15, 3) := by decide +kernel
theorem dX2_init_17 : decode cX2_init 17 = .ok (.return_, 1) := by decide +kernel
theorem dX2_hasLoan_0 : decode cX2_hasLoan 0 = .ok (.aload_n 0, 1) := by decide +kernel
theorem dX2_hasLoan_1 : decode cX2_hasLoan 1 = .ok (.getfield 19, 3) := by decide +kernel
theorem dX2_hasLoan_4 : decode cX2_hasLoan 4 = .ok (.ifCond .le 7, 3) := by decide +kernel
theorem dX2_hasLoan_7 : decode cX2_hasLoan 7 = .ok (.iconst 1, 1) := by decide +kernel
theorem dX2_hasLoan_8 : decode cX2_hasLoan 8 = .ok (.goto 4, 3) := by decide +kernel
theorem dX2_hasLoan_11 : decode cX2_hasLoan 11 = .ok (.iconst 0, 1) := by decide +kernel
theorem dX2_hasLoan_12 : decode cX2_hasLoan 12 = .ok (.ireturn, 1) := by decide +kernel
theorem dX2_part_0 : decode cX2_part 0 = .ok (.aload_n 0, 1) := by decide +kernel
theorem dX2_part_1 : decode cX2_part 1 = .ok (.getfield 19, 3) := by decide +kernel
theorem dX2_part_4 : decode cX2_part 4 = .ok (.iconst 1, 1) := by decide +kernel
theorem dX2_part_5 : decode cX2_part 5 = .ok (.if_icmp .ne 10, 3) := by decide +kernel
theorem dX2_part_8 : decode cX2_part 8 = .ok (.aload_n 0, 1) := by decide +kernel
theorem dX2_part_9 : decode cX2_part 9 = .ok (.getfield 22, 3) := by decide +kernel
theorem dX2_part_12 : decode cX2_part 12 = .ok (.goto 7, 3) := by decide +kernel
theorem dX2_part_15 : decode cX2_part 15 = .ok (.aload_n 0, 1) := by decide +kernel
theorem dX2_part_16 : decode cX2_part 16 = .ok (.getfield 25, 3) := by decide +kernel
theorem dX2_part_19 : decode cX2_part 19 = .ok (.ireturn, 1) := by decide +kernel
set_option maxRecDepth 20000 in
theorem ggX2_due_X2_hasLoan : GoodIn wsX2_due wsX2_hasLoan := goodIn_r _ [6, 7, 14, 15, 16, 17, 18, 19, 20, 21, 22, 23, 24, 25, 26, 27, 28, 29] (by decide +kernel) (by decide +kernel)
set_option maxRecDepth 20000 in
theorem gX2_due_X2_hasLoan : GoodIn wsX2_due (wsV RX2 28 RX2 yX2_hasLoan wsX2_hasLoan) := goodIn_app (goodIn_of _ (by decide +kernel)) ggX2_due_X2_hasLoan
set_option maxRecDepth 20000 in
theorem ggX2_due_X2_part : GoodIn wsX2_due wsX2_part := goodIn_r _ [11, 7, 12, 13, 14, 15, 16, 17, 18, 19, 20, 21, 22, 23, 24, 25, 26, 27, 28, 29] (by decide +kernel) (by decide +kernel)
set_option maxRecDepth 20000 in
theorem gX2_due_X2_part : GoodIn wsX2_due (wsV RX2 32 RX2 yX2_part wsX2_part) := goodIn_app (goodIn_of _ (by decide +kernel)) ggX2_due_X2_part
theorem dX2_due_0 : decode cX2_due 0 = .ok (.aload_n 0, 1) := by decide +kernel
theorem dX2_due_1 : decode cX2_due 1 = .ok (.invokevirtual 28, 3) := by decide +kernel
theorem dX2_due_4 : decode cX2_due 4 = .ok (.ifCond .eq 15, 3) := by decide +kernel
theorem dX2_due_7 : decode cX2_due 7 = .ok (.aload_n 0, 1) := by decide +kernel
theorem dX2_due_8 : decode cX2_due 8 = .ok (.invokevirtual 32, 3) := by decide +kernel
theorem dX2_due_11 : decode cX2_due 11 = .ok (.aload_n 0, 1) := by decide +kernel
theorem dX2_due_12 : decode cX2_due 12 = .ok (.getfield 36, 3) := by decide +kernel
theorem dX2_due_15 : decode cX2_due 15 = .ok (.iadd, 1) := by decide +kernel
theorem dX2_due_16 : decode cX2_due 16 = .ok (.goto 4, 3) := by decide +kernel
theorem dX2_due_19 : decode cX2_due 19 = .ok (.iconst 0, 1) := by decide +kernel
theorem dX2_due_20 : decode cX2_due 20 = .ok (.ireturn, 1) := by decide +kernel
theorem dX2_debtToMembers_0 : decode cX2_debtToMembers 0 = .ok (.iconst 0, 1) := by decide +kernel
theorem dX2_debtToMembers_1 : decode cX2_debtToMembers 1 = .ok (.istore_n 1, 1) := by decide +kernel
theorem dX2_debtToMembers_2 : decode cX2_debtToMembers 2 = .ok (.aload_n 0, 1) := by decide +kernel
theorem dX2_debtToMembers_3 : decode cX2_debtToMembers 3 = .ok (.getfield 9, 3) := by decide +kernel
theorem dX2_debtToMembers_6 : decode cX2_debtToMembers 6 = .ok (.astore_n 2, 1) := by decide +kernel
theorem dX2_debtToMembers_7 : decode cX2_debtToMembers 7 = .ok (.aload_n 2, 1) := by decide +kernel
theorem dX2_debtToMembers_8 : decode cX2_debtToMembers 8 = .ok (.arraylength, 1) := by decide +kernel
theorem dX2_debtToMembers_9 : decode cX2_debtToMembers 9 = .ok (.istore_n 3, 1) := by decide +kernel
theorem dX2_debtToMembers_10 : decode cX2_debtToMembers 10 = .ok (.iconst 0, 1) := by decide +kernel
theorem dX2_debtToMembers_11 : decode cX2_debtToMembers 11 = .ok (.istore 4, 2) := by decide +kernel
theorem dX2_debtToMembers_13 : decode cX2_debtToMembers 13 = .ok (.iload 4, 2) := by decide +kernel
theorem dX2_debtToMembers_15 : decode cX2_debtToMembers 15 = .ok (.iload_n 3, 1) := by decide +kernel
theorem dX2_debtToMembers_16 : decode cX2_debtToMembers 16 = .ok (.if_icmp .ge 20, 3) := by decide +kernel
theorem dX2_debtToMembers_19 : decode cX2_debtToMembers 19 = .ok (.aload_n 2, 1) := by decide +kernel
theorem dX2_debtToMembers_20 : decode cX2_debtToMembers 20 = .ok (.iload 4, 2) := by decide +kernel
theorem dX2_debtToMembers_22 : decode cX2_debtToMembers 22 = .ok (.iaload, 1) := by decide +kernel
theorem dX2_debtToMembers_23 : decode cX2_debtToMembers 23 = .ok (.istore 5, 2) := by decide +kernel
theorem dX2_debtToMembers_25 : decode cX2_debtToMembers 25 = .ok (.iload_n 1, 1) := by decide +kernel
theorem dX2_debtToMembers_26 : decode cX2_debtToMembers 26 = .ok (.iload 5, 2) := by decide +kernel
theorem dX2_debtToMembers_28 : decode cX2_debtToMembers 28 = .ok (.iadd, 1) := by decide +kernel
theorem dX2_debtToMembers_29 : decode cX2_debtToMembers 29 = .ok (.istore_n 1, 1) := by decide +kernel
theorem dX2_debtToMembers_30 : decode cX2_debtToMembers 30 = .ok (.iinc 4 1, 3) := by decide +kernel
theorem dX2_debtToMembers_33 : decode cX2_debtToMembers 33 = .ok (.goto (-20), 3) := by decide +kernel
theorem dX2_debtToMembers_36 : decode cX2_debtToMembers 36 = .ok (.iload_n 1, 1) := by decide +kernel
theorem dX2_debtToMembers_37 : decode cX2_debtToMembers 37 = .ok (.ireturn, 1) := by decide +kernel
set_option maxRecDepth 20000 in
theorem ggX2_hasDebts_X2_debtToMembers : GoodIn wsX2_hasDebts wsX2_debtToMembers := goodIn_r _ [7, 8, 9, 10, 11, 12, 13, 14, 15, 16, 17, 18, 19, 20, 21, 22, 23, 24] (by decide +kernel) (by decide +kernel)
set_option maxRecDepth 20000 in
theorem gX2_hasDebts_X2_debtToMembers : GoodIn wsX2_hasDebts (wsV RX2 45 RX2 yX2_debtToMembers wsX2_debtToMembers) := goodIn_app (goodIn_of _ (by decide +kernel)) ggX2_hasDebts_X2_debtToMembers
theorem dX2_hasDebts_0 : decode cX2_hasDebts 0 = .ok (.aload_n 0, 1) := by decide +kernel
theorem dX2_hasDebts_1 : decode cX2_hasDebts 1 = .ok (.getfield 39, 3) := by decide +kernel
theorem dX2_hasDebts_4 : decode cX2_hasDebts 4 = .ok (.ifCond .gt 17, 3) := by decide +kernel
theorem dX2_hasDebts_7 : decode cX2_hasDebts 7 = .ok (.aload_n 0, 1) := by decide +kernel
theorem dX2_hasDebts_8 : decode cX2_hasDebts 8 = .ok (.getfield 42, 3) := by decide +kernel
theorem dX2_hasDebts_11 : decode cX2_hasDebts 11 = .ok (.ifCond .gt 10, 3) := by decide +kernel
theorem dX2_hasDebts_14 : decode cX2_hasDebts 14 = .ok (.aload_n 0, 1) := by decide +kernel
theorem dX2_hasDebts_15 : decode cX2_hasDebts 15 = .ok (.invokevirtual 45, 3) := by decide +kernel
theorem dX2_hasDebts_18 : decode cX2_hasDebts 18 = .ok (.ifCond .le 7, 3) := by decide +kernel
theorem dX2_hasDebts_21 : decode cX2_hasDebts 21 = .ok (.iconst 1, 1) := by decide +kernel
theorem dX2_hasDebts_22 : decode cX2_hasDebts 22 = .ok (.goto 4, 3) := by decide +kernel
theorem dX2_hasDebts_25 : decode cX2_hasDebts 25 = .ok (.iconst 0, 1) := by decide +kernel
theorem dX2_hasDebts_26 : decode cX2_hasDebts 26 = .ok (.ireturn, 1) := by decide +kernel
set_option maxRecDepth 20000 in
theorem ggX2_mayBorrow_X2_hasLoan : GoodIn wsX2_mayBorrow wsX2_hasLoan := goodIn_r _ [6, 7, 19, 20, 21, 22, 23, 24, 25, 26, 27, 28, 29, 30, 31, 32, 33, 34] (by decide +kernel) (by decide +kernel)
set_option maxRecDepth 20000 in
theorem gX2_mayBorrow_X2_hasLoan : GoodIn wsX2_mayBorrow (wsV RX2 28 RX2 yX2_hasLoan wsX2_hasLoan) := goodIn_app (goodIn_of _ (by decide +kernel)) ggX2_mayBorrow_X2_hasLoan
set_option maxRecDepth 20000 in
theorem ggX2_mayBorrow_X2_hasDebts : GoodIn wsX2_mayBorrow wsX2_hasDebts := goodIn_r _ [11, 12, 13, 14, 15, 16, 5, 17, 18, 19, 20, 21, 22, 23, 24, 25, 26, 27, 28, 29, 30, 31, 32, 33, 34] (by decide +kernel) (by decide +kernel)
set_option maxRecDepth 20000 in
theorem gX2_mayBorrow_X2_hasDebts : GoodIn wsX2_mayBorrow (wsV RX2 48 RX2 yX2_hasDebts wsX2_hasDebts) := goodIn_app (goodIn_of _ (by decide +kernel)) ggX2_mayBorrow_X2_hasDebts
theorem dX2_mayBorrow_0 : decode cX2_mayBorrow 0 = .ok (.aload_n 0, 1) := by decide +kernel
theorem dX2_mayBorrow_1 : decode cX2_mayBorrow 1 = .ok (.invokevirtual 28, 3) := by decide +kernel
theorem dX2_mayBorrow_4 : decode cX2_mayBorrow 4 = .ok (.ifCond .ne 22, 3) := by decide +kernel
theorem dX2_mayBorrow_7 : decode cX2_mayBorrow 7 = .ok (.aload_n 0, 1) := by decide +kernel
theorem dX2_mayBorrow_8 : decode cX2_mayBorrow 8 = .ok (.invokevirtual 48, 3) := by decide +kernel
theorem dX2_mayBorrow_11 : decode cX2_mayBorrow 11 = .ok (.ifCond .ne 15, 3) := by decide +kernel
theorem dX2_mayBorrow_14 : decode cX2_mayBorrow 14 = .ok (.iload_n 1, 1) := by decide +kernel
theorem dX2_mayBorrow_15 : decode cX2_mayBorrow 15 = .ok (.aload_n 0, 1) := by decide +kernel
theorem dX2_mayBorrow_16 : decode cX2_mayBorrow 16 = .ok (.getfield 51, 3) := by decide +kernel
