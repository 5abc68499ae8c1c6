section LW2
set_option maxRecDepth 20000 in
theorem gL_ifAbsent_X4_ifAbsent : GoodIn wsL_ifAbsent (wsV RL 67 RX4 yX4_ifAbsent wsX4_ifAbsent) := goodIn_app (goodIn_of _ (by decide +kernel)) ggL_ifAbsent_X4_ifAbsent
theorem dL_ifAbsent_0 : decode cL_ifAbsent 0 = .ok (.aload_n 3, 1) := by decide +kernel
theorem dL_ifAbsent_1 : decode cL_ifAbsent 1 = .ok (.iconst 0, 1) := by decide +kernel
theorem dL_ifAbsent_2 : decode cL_ifAbsent 2 = .ok (.aload_n 0, 1) := by decide +kernel
theorem dL_ifAbsent_3 : decode cL_ifAbsent 3 = .ok (.iload_n 1, 1) := by decide +kernel
theorem dL_ifAbsent_4 : decode cL_ifAbsent 4 = .ok (.iload_n 2, 1) := by decide +kernel
theorem dL_ifAbsent_5 : decode cL_ifAbsent 5 = .ok (.invokevirtual 67, 3) := by decide +kernel
theorem dL_ifAbsent_8 : decode cL_ifAbsent 8 = .ok (.i2l, 1) := by decide +kernel
theorem dL_ifAbsent_9 : decode cL_ifAbsent 9 = .ok (.lastore, 1) := by decide +kernel
theorem dL_ifAbsent_10 : decode cL_ifAbsent 10 = .ok (.goto 7, 3) := by decide +kernel
theorem dL_ifAbsent_13 : decode cL_ifAbsent 13 = .ok (.astore 4, 2) := by decide +kernel
theorem dL_ifAbsent_15 : decode cL_ifAbsent 15 = .ok (.iconst 1, 1) := by decide +kernel
theorem dL_ifAbsent_16 : decode cL_ifAbsent 16 = .ok (.ireturn, 1) := by decide +kernel
theorem dL_ifAbsent_17 : decode cL_ifAbsent 17 = .ok (.iconst 0, 1) := by decide +kernel
theorem dL_ifAbsent_18 : decode cL_ifAbsent 18 = .ok (.ireturn, 1) := by decide +kernel
set_option maxRecDepth 20000 in
theorem ggL_fundLasts_X4_fundLasts : GoodIn wsL_fundLasts wsX4_fundLasts := goodIn_ca (goodIn_r _ [6, 7, 8, 9, 10, 5, 11, 12, 13, 14, 15, 16, 17, 18, 19, 20, 21, 22, 23, 24, 25, 26, 27, 28, 29, 30, 31, 32, 33, 34, 35, 36, 37, 38, 39, 40, 41, 42, 43, 44, 45, 46, 47, 48, 49, 50, 51, 52, 53, 54, 55, 56, 57, 58] (by decide +kernel) (by decide +kernel)) (goodIn_sub (fun _ h => List.mem_cons_of_mem _ (List.mem_append_right _ h)) (by decide +kernel))
set_option maxRecDepth 20000 in
theorem gL_fundLasts_X4_fundLasts : GoodIn wsL_fundLasts (wsV RL 70 RX4 yX4_fundLasts wsX4_fundLasts) := goodIn_app (goodIn_of _ (by decide +kernel)) ggL_fundLasts_X4_fundLasts
theorem dL_fundLasts_0 : decode cL_fundLasts 0 = .ok (.aload_n 2, 1) := by decide +kernel
theorem dL_fundLasts_1 : decode cL_fundLasts 1 = .ok (.iconst 0, 1) := by decide +kernel
theorem dL_fundLasts_2 : decode cL_fundLasts 2 = .ok (.aload_n 0, 1) := by decide +kernel
theorem dL_fundLasts_3 : decode cL_fundLasts 3 = .ok (.iload_n 1, 1) := by decide +kernel
theorem dL_fundLasts_4 : decode cL_fundLasts 4 = .ok (.invokevirtual 70, 3) := by decide +kernel
theorem dL_fundLasts_7 : decode cL_fundLasts 7 = .ok (.i2l, 1) := by decide +kernel
theorem dL_fundLasts_8 : decode cL_fundLasts 8 = .ok (.lastore, 1) := by decide +kernel
theorem dL_fundLasts_9 : decode cL_fundLasts 9 = .ok (.goto 6, 3) := by decide +kernel
theorem dL_fundLasts_12 : decode cL_fundLasts 12 = .ok (.astore_n 3, 1) := by decide +kernel
theorem dL_fundLasts_13 : decode cL_fundLasts 13 = .ok (.iconst 1, 1) := by decide +kernel
theorem dL_fundLasts_14 : decode cL_fundLasts 14 = .ok (.ireturn, 1) := by decide +kernel
theorem dL_fundLasts_15 : decode cL_fundLasts 15 = .ok (.iconst 0, 1) := by decide +kernel
theorem dL_fundLasts_16 : decode cL_fundLasts 16 = .ok (.ireturn, 1) := by decide +kernel
set_option maxRecDepth 20000 in
theorem ggL_ifCycle_X4_ifCycle : GoodIn wsL_ifCycle wsX4_ifCycle := goodIn_ca (goodIn_r _ [6, 7, 8, 9, 5, 10, 11, 12, 13, 14, 15, 16, 17, 18, 19, 20, 21, 22, 23, 24, 25, 26, 27, 28, 29, 30, 31, 32, 33, 34, 35, 36, 37, 38, 39, 40, 41, 42, 43, 44, 45, 46, 47, 48, 49, 50, 51, 52, 53, 54, 55, 56, 57, 58, 59, 60, 61, 62] (by decide +kernel) (by decide +kernel)) (goodIn_sub (fun _ h => List.mem_cons_of_mem _ (List.mem_append_right _ h)) (by decide +kernel))
set_option maxRecDepth 20000 in
theorem gL_ifCycle_X4_ifCycle : GoodIn wsL_ifCycle (wsV RL 73 RX4 yX4_ifCycle wsX4_ifCycle) := goodIn_app (goodIn_of _ (by decide +kernel)) ggL_ifCycle_X4_ifCycle
theorem dL_ifCycle_0 : decode cL_ifCycle 0 = .ok (.aload_n 2, 1) := by decide +kernel
theorem dL_ifCycle_1 : decode cL_ifCycle 1 = .ok (.iconst 0, 1) := by decide +kernel
theorem dL_ifCycle_2 : decode cL_ifCycle 2 = .ok (.aload_n 0, 1) := by decide +kernel
theorem dL_ifCycle_3 : decode cL_ifCycle 3 = .ok (.iload_n 1, 1) := by decide +kernel
theorem dL_ifCycle_4 : decode cL_ifCycle 4 = .ok (.invokevirtual 73, 3) := by decide +kernel
theorem dL_ifCycle_7 : decode cL_ifCycle 7 = .ok (.i2l, 1) := by decide +kernel
theorem dL_ifCycle_8 : decode cL_ifCycle 8 = .ok (.lastore, 1) := by decide +kernel
theorem dL_ifCycle_9 : decode cL_ifCycle 9 = .ok (.goto 6, 3) := by decide +kernel
theorem dL_ifCycle_12 : decode cL_ifCycle 12 = .ok (.astore_n 3, 1) := by decide +kernel
theorem dL_ifCycle_13 : decode cL_ifCycle 13 = .ok (.iconst 1, 1) := by decide +kernel
theorem dL_ifCycle_14 : decode cL_ifCycle 14 = .ok (.ireturn, 1) := by decide +kernel
theorem dL_ifCycle_15 : decode cL_ifCycle 15 = .ok (.iconst 0, 1) := by decide +kernel
theorem dL_ifCycle_16 : decode cL_ifCycle 16 = .ok (.ireturn, 1) := by decide +kernel
end LW2
