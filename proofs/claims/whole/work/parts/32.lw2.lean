section LW2
set_option maxRecDepth 20000 in
theorem gL_ifAbsent_X4_ifAbsent : GoodIn wsL_ifAbsent (wsV RL 67 RX4 yX4_ifAbsent wsX4_ifAbsent) := goodIn_app (goodIn_of _ (by decide +kernel)) ggL_ifAbsent_X4_ifAbsent
theorem dL_ifAbsent_0 : decode cL_ifAbsent 0 = .ok (.aload_n 3, 1) := by decide +kernel
theorem dL_ifAbsent_1 : decode cL_ifAbsent 1 = .ok (.iconst 0, 1) := by decide +kernel
theorem dL_ifAbsent_2 : decode cL_ifAbsent 2 = .ok (.aload_n 0, 1) := by decide +kernel
theorem dL_ifAbsent_3 : decode cL_ifAbsent 3 = .ok (.iload_n 1, 1) := by decide +kernel
theorem dL_ifAbsent_4 : decode cL_ifAbsent 4 = .ok (.iload_n 2, 1) := by decide +kernel
theorem dL_ifAbsent_5 : decode cL_ifAbsent 5 = .ok (.invokevirtual 67, 3) := by decide +kernel
theorem dL_ifAbsent_8 : decode cL_ifAbsent 8 = .ok (.i2l, 1) := by decide +kernel
theorem dL_ifAbsent_9 : decode cL_ifAbsent 9 = .ok (.lastore, 1) := by decide +kernel
theorem dL_ifAbsent_10 : decode cL_ifAbsent 10 = .ok (.goto 7, 3) := by decide +kernel
theorem dL_ifAbsent_13 : decode cL_ifAbsent 13 = .ok (.astore 4, 2) := by decide +kernel
theorem dL_ifAbsent_15 : decode cL_ifAbsent 15 = .ok (.iconst 1, 1) := by decide +kernel
theorem dL_ifAbsent_16 : decode cL_ifAbsent 16 = .ok (.ireturn, 1) := by decide +kernel
theorem dL_ifAbsent_17 : decode cL_ifAbsent 17 = .ok (.iconst 0, 1) := by decide +kernel
theorem dL_ifAbsent_18 : decode cL_ifAbsent 18 = .ok (.ireturn, 1) := by decide +kernel
set_option maxRecDepth 20000 in
theorem ggL_fundLasts_X4_fundLasts : GoodIn wsL_fundLasts wsX4_fundLasts := goodIn_ca (goodIn_r _ [6, 7, 8, 9, 10, 5, 11, 12, 13, 14, 15, 16, 17, 18, 19, 20, 21, 22, 23, 24, 25, 26, 27, 28, 29, 30, 31, 32, 33, 34, 35, 36, 37, 38, 39, 40, 41, 42, 43, 44, 45, 46, 47, 48, 49, 50, 51, 52, 53, 54, 55, 56, 57, 58] (by decide +kernel) (by decide +kernel)) (goodIn_sub (fun _ h => List.mem_cons_of_mem _ (List.mem_append_right _ h)) (by decide +kernel))
set_option maxRecDepth 20000 in
theorem gL_fundLasts_X4_fundLasts : GoodIn wsL_fundLasts (wsV RL 70 RX4 yX4_fundLasts wsX4_fundLasts) := goodIn_app (goodIn_of _ (by decide +kernel)) ggL_fundLasts_X4_fundLasts
theorem dL_fundLasts_0 : decode cL_fundLasts 0 = .ok (.aload_n 2, 1) := by decide +kernel
theorem dL_fundLasts_1 : decode cL_fundLasts 1 = .ok (.iconst 0, 1) := by decide +kernel
theorem dL_fundLasts_2 : decode cL_fundLasts 2 = .ok (.aload_n 0, 1) := by decide +kernel
theorem dL_fundLasts_3 : decode cL_fundLasts 3 = .ok (.iload_n 1, 1) := by decide +kernel
theorem dL_fundLasts_4 : decode cL_fundLasts 4 = .ok (.invokevirtual 70, 3) := by decide +kernel
theorem dL_fundLasts_7 : decode cL_fundLasts 7 = .ok (.i2l, 1) := by decide +kernel
theorem dL_fundLasts_8 : decode cL_fundLasts 8 = .ok (.lastore, 1) := by decide +kernel
theorem dL_fundLasts_9 : decode cL_fundLasts 9 = .ok (.goto 6, 3) := by decide +kernel
theorem dL_fundLasts_12 : decode cL_fundLasts 12 = .ok (.astore_n 3, 1) := by decide +kernel
theorem dL_fundLasts_13 : decode cL_fundLasts 13 = .ok (.iconst 1, 1) := by decide +kernel
theorem dL_fundLasts_14 : decode cL_fundLasts 14 = .ok (.ireturn, 1) := by decide +kernel
theorem dL_fundLasts_15 : decode cL_fundLasts 15 = .ok (.iconst 0, 1) := by decide +kernel
theorem dL_fundLasts_16 : decode cL_fundLasts 16 = .ok (.ireturn, 1) := by decide +kernel
set_option maxRecDepth 20000 in
theorem ggL_ifCycle_X4_ifCycle : GoodIn wsL_ifCycle wsX4_ifCycle := goodIn_ca (goodIn_r _ [6, 7, 8, 9, 5, 10, 11, 12, 13, 14, 15, 16, 17, 18, 19, 20, 21, 22, 23, 24, 25, 26, 27, 28, 29, 30, 31, 32, 33, 34, 35, 36, 37, 38, 39, 40, 41, 42, 43, 44, 45, 46, 47, 48, 49, 50, 51, 52, 53, 54, 55, 56, 57, 58, 59, 60, 61, 62] (by decide +kernel) (by decide +kernel)) (goodIn_sub (fun _ h => List.mem_cons_of_mem _ (List.mem_append_right _ h)) (by decide +kernel))
set_option maxRecDepth 20000 in
theorem gL_ifCycle_X4_ifCycle : GoodIn wsL_ifCycle (wsV RL 73 RX4 yX4_ifCycle wsX4_ifCycle) := goodIn_app (goodIn_of _ (by decide +kernel)) ggL_ifCycle_X4_ifCycle
theorem dL_ifCycle_0 : decode cL_ifCycle 0 = .ok (.aload_n 2, 1) := by decide +kernel
theorem dL_ifCycle_1 : decode cL_ifCycle 1 = .ok (.iconst 0, 1) := by decide +kernel
theorem dL_ifCycle_2 : decode cL_ifCycle 2 = .ok (.aload_n 0, 1) := by decide +kernel
theorem dL_ifCycle_3 : decode cL_ifCycle 3 = .ok (.iload_n 1, 1) := by decide +kernel
theorem dL_ifCycle_4 : decode cL_ifCycle 4 = .ok (.invokevirtual 73, 3) := by decide +kernel
theorem dL_ifCycle_7 : decode cL_ifCycle 7 = .ok (.i2l, 1) := by decide +kernel
theorem dL_ifCycle_8 : decode cL_ifCycle 8 = .ok (.lastore, 1) := by decide +kernel
theorem dL_ifCycle_9 : decode cL_ifCycle 9 = .ok (.goto 6, 3) := by decide +kernel
theorem dL_ifCycle_12 : decode cL_ifCycle 12 = .ok (.astore_n 3, 1) := by decide +kernel
theorem dL_ifCycle_13 : decode cL_ifCycle 13 = .ok (.iconst 1, 1) := by decide +kernel
theorem dL_ifCycle_14 : decode cL_ifCycle 14 = .ok (.ireturn, 1) := by decide +kernel
theorem dL_ifCycle_15 : decode cL_ifCycle 15 = .ok (.iconst 0, 1) := by decide +kernel
theorem dL_ifCycle_16 : decode cL_ifCycle 16 = .ok (.ireturn, 1) := by decide +kernel
set_option maxRecDepth 20000 in
theorem ggL_law_X4_init : GoodIn wsL_law wsX4_init := goodIn_r _ [9, 10, 11, 12, 13, 14, 15, 16, 17, 18, 19, 20, 21, 22, 23, 24, 25, 26, 27, 28, 29, 30, 31, 32, 33, 34, 35, 36, 37, 38, 39, 40, 41, 42, 43, 44, 45, 46, 47, 48, 49, 50, 953, 954, 955, 956, 957, 958, 959, 960, 961, 962, 963, 935, 936, 937, 938, 964, 965, 966, 967, 968, 969, 970, 971, 972, 973, 974, 975, 976, 977, 978, 979, 980, 981, 982, 983, 984, 985, 986, 987, 988, 989] (by decide +kernel) (by decide +kernel)
set_option maxRecDepth 20000 in
theorem gL_law_X4_init : GoodIn wsL_law (wsX4_init) := ggL_law_X4_init
set_option maxRecDepth 20000 in
theorem ggL_law_X5_init : GoodIn wsL_law wsX5_init := goodIn_r _ [53, 54, 11, 12, 31, 55, 56, 57, 58, 59, 60, 939, 940, 941, 942, 943, 944, 945, 946, 947, 948, 949, 950, 951, 952] (by decide +kernel) (by decide +kernel)
set_option maxRecDepth 20000 in
theorem gL_law_X5_init : GoodIn wsL_law (wsX5_init) := ggL_law_X5_init
set_option maxRecDepth 20000 in
theorem ggL_law_L_join : GoodIn wsL_law wsL_join := goodIn_ca (goodIn_r _ [64, 65, 66, 67, 68, 2, 69, 70, 71, 16, 21, 72, 20, 73, 74, 45, 75, 76, 77, 78, 79, 80, 81, 15, 82, 83, 30, 32, 84, 85, 86, 87, 88, 89, 90, 33, 91, 92, 93, 94, 95, 96, 35, 97, 98, 99, 100, 101, 102, 103, 104, 105, 106, 107, 108, 109, 110, 111, 112, 39, 113, 114, 115, 116, 117, 118, 119, 120, 935, 936, 937, 938, 953, 954, 955, 956, 957, 958, 959, 960, 961, 962, 963, 964, 965, 966, 974, 975, 976, 977, 978, 979, 980, 981, 982, 983, 984, 985, 986, 987, 988, 989] (by decide +kernel) (by decide +kernel)) (goodIn_sub (fun _ h => List.mem_append_left _ (List.mem_append_left _ (List.mem_append_right _ h))) (by decide +kernel))
set_option maxRecDepth 20000 in
theorem gL_law_L_join : GoodIn wsL_law (va_wsS RL 80 yL_join wsL_join) := goodIn_app (goodIn_of _ (by decide +kernel)) ggL_law_L_join
set_option maxRecDepth 20000 in
theorem ggL_law_X5_join : GoodIn wsL_law wsX5_join := goodIn_r _ [124, 125, 55, 126, 127, 128, 5, 129, 130, 131, 132, 133, 134, 57, 135, 136, 137, 138, 139, 140, 141, 142, 143, 144, 939, 940, 941, 942, 943, 944, 945, 946, 947, 948, 949, 950, 951, 952] (by decide +kernel) (by decide +kernel)
set_option maxRecDepth 20000 in
theorem gL_law_X5_join : GoodIn wsL_law (wsV RL 85 RX5 yX5_join wsX5_join) := goodIn_app (goodIn_of _ (by decide +kernel)) ggL_law_X5_join
set_option maxRecDepth 20000 in
theorem ggL_law_X5_thrown : GoodIn wsL_law wsX5_thrown := goodIn_r _ [148, 125, 939, 940, 941, 942, 943, 944, 945, 946, 947, 948, 949, 950, 951, 952] (by decide +kernel) (by decide +kernel)
set_option maxRecDepth 20000 in
theorem gL_law_X5_thrown : GoodIn wsL_law (wsV RL 86 RX5 yX5_thrown wsX5_thrown) := goodIn_app (goodIn_of _ (by decide +kernel)) ggL_law_X5_thrown
set_option maxRecDepth 20000 in
theorem ggL_law_L_leave : GoodIn wsL_law wsL_leave := goodIn_ca (goodIn_ca (goodIn_r _ [151, 152, 65, 153, 154, 155, 2, 156, 70, 71, 16, 21, 157, 158, 159, 160, 161, 162, 163, 15, 164, 165, 30, 166, 167, 168, 91, 169, 35, 170, 171, 105, 172, 173, 174, 109, 110, 175, 176, 177, 178, 39, 179, 180, 181, 182, 72, 20, 73, 74, 45, 75, 76, 77, 78, 79, 80, 81, 82, 83, 32, 84, 85, 86, 87, 88, 89, 90, 33, 92, 93, 94, 95, 96, 97, 98, 99, 100, 101, 102, 103, 104, 106, 107, 108, 111, 112, 113, 183, 184, 185, 186, 187, 188, 189, 190, 191, 935, 936, 937, 938, 953, 954, 955, 956, 957, 958, 959, 960, 961, 962, 963, 974, 975, 976, 977, 978, 979, 980, 981, 982, 983, 984, 985, 986, 987, 988, 989, 964, 965, 966] (by decide +kernel) (by decide +kernel)) (goodIn_sub (fun _ h => List.mem_append_left _ (List.mem_append_left _ (List.mem_append_right _ h))) (by decide +kernel))) (goodIn_sub (fun _ h => List.mem_append_left _ (List.mem_append_right _ h)) (by decide +kernel))
set_option maxRecDepth 20000 in
theorem gL_law_L_leave : GoodIn wsL_law (va_wsS RL 89 yL_leave wsL_leave) := goodIn_app (goodIn_of _ (by decide +kernel)) ggL_law_L_leave
set_option maxRecDepth 20000 in
theorem ggL_law_X5_leave : GoodIn wsL_law wsX5_leave := goodIn_r _ [195, 125, 55, 196, 197, 198, 5, 199, 200, 201, 202, 139, 140, 141, 126, 127, 128, 129, 203, 204, 205, 206, 207, 208, 209, 210, 211, 212, 213, 214, 130, 131, 132, 133, 134, 57, 215, 216, 217, 939, 940, 941, 942, 943, 944, 945, 946, 947, 948, 949, 950, 951, 952] (by decide +kernel) (by decide +kernel)
set_option maxRecDepth 20000 in
theorem gL_law_X5_leave : GoodIn wsL_law (wsV RL 92 RX5 yX5_leave wsX5_leave) := goodIn_app (goodIn_of _ (by decide +kernel)) ggL_law_X5_leave
set_option maxRecDepth 20000 in
theorem ggL_law_L_lend : GoodIn wsL_law wsL_lend := goodIn_ca (goodIn_ca (goodIn_ca (goodIn_r _ [220, 152, 221, 65, 222, 223, 224, 2, 225, 226, 227, 70, 71, 21, 16, 157, 158, 159, 160, 161, 162, 163, 15, 164, 165, 30, 228, 35, 229, 230, 100, 231, 169, 170, 171, 105, 232, 172, 173, 174, 109, 110, 175, 176, 177, 178, 39, 72, 20, 73, 74, 45, 75, 76, 77, 78, 79, 80, 81, 82, 83, 32, 84, 85, 86, 87, 88, 89, 90, 33, 91, 92, 93, 94, 95, 96, 97, 98, 99, 101, 102, 103, 104, 106, 107, 108, 111, 112, 113, 233, 234, 235, 236, 237, 238, 239, 240, 241, 242, 243, 244, 245, 935, 936, 937, 938, 953, 954, 955, 956, 957, 958, 959, 960, 961, 962, 963, 974, 975, 976, 977, 978, 979, 980, 981, 982, 983, 984, 985, 986, 987, 988, 989, 964, 965, 966] (by decide +kernel) (by decide +kernel)) (goodIn_sub (fun _ h => List.mem_append_right _ h) (by decide +kernel))) (goodIn_sub (fun _ h => List.mem_append_left _ (List.mem_append_left _ (List.mem_append_right _ h))) (by decide +kernel))) (goodIn_sub (fun _ h => List.mem_append_left _ (List.mem_append_right _ h)) (by decide +kernel))
set_option maxRecDepth 20000 in
theorem gL_law_L_lend : GoodIn wsL_law (va_wsS RL 93 yL_lend wsL_lend) := goodIn_app (goodIn_of _ (by decide +kernel)) ggL_law_L_lend
set_option maxRecDepth 20000 in
theorem ggL_law_X5_lend : GoodIn wsL_law wsX5_lend := goodIn_r _ [249, 125, 250, 251, 252, 5, 253, 55, 196, 197, 198, 199, 200, 201, 202, 139, 140, 141, 203, 204, 205, 206, 207, 208, 209, 210, 211, 130, 131, 132, 133, 134, 57, 254, 255, 256, 257, 142, 143, 144, 258, 259, 260, 261, 262, 263, 939, 940, 941, 942, 943, 944, 945, 946, 947, 948, 949, 950, 951, 952] (by decide +kernel) (by decide +kernel)
set_option maxRecDepth 20000 in
theorem gL_law_X5_lend : GoodIn wsL_law (wsV RL 96 RX5 yX5_lend wsX5_lend) := goodIn_app (goodIn_of _ (by decide +kernel)) ggL_law_X5_lend
set_option maxRecDepth 20000 in
theorem ggL_law_L_absent : GoodIn wsL_law wsL_absent := goodIn_ca (goodIn_r _ [266, 152, 267, 268, 269, 2, 270, 21, 16, 157, 158, 159, 160, 161, 162, 163, 15, 164, 165, 30, 72, 20, 73, 74, 45, 75, 76, 77, 78, 79, 80, 81, 82, 83, 32, 84, 85, 86, 87, 88, 89, 90, 33, 91, 92, 93, 94, 95, 96, 35, 97, 98, 99, 100, 101, 102, 103, 104, 105, 106, 107, 108, 109, 110, 111, 112, 39, 113, 271, 272, 273, 935, 936, 937, 938, 974, 975, 976, 977, 978, 979, 980, 981, 982, 983, 984, 985, 986, 987, 988, 989, 953, 954, 955, 956, 957, 958, 959, 960, 961, 962, 963, 964, 965, 966] (by decide +kernel) (by decide +kernel)) (goodIn_sub (fun _ h => List.mem_append_left _ (List.mem_append_right _ h)) (by decide +kernel))
set_option maxRecDepth 20000 in
theorem gL_law_L_absent : GoodIn wsL_law (va_wsS RL 97 yL_absent wsL_absent) := goodIn_app (goodIn_of _ (by decide +kernel)) ggL_law_L_absent
set_option maxRecDepth 20000 in
theorem ggL_law_X5_absent : GoodIn wsL_law wsX5_absent := goodIn_r _ [277, 125, 55, 196, 197, 198, 5, 199, 200, 201, 202, 139, 140, 141, 126, 127, 128, 129, 130, 131, 132, 133, 134, 57, 142, 143, 144, 278, 279, 280, 281, 939, 940, 941, 942, 943, 944, 945, 946, 947, 948, 949, 950, 951, 952] (by decide +kernel) (by decide +kernel)
set_option maxRecDepth 20000 in
theorem gL_law_X5_absent : GoodIn wsL_law (wsV RL 99 RX5 yX5_absent wsX5_absent) := goodIn_app (goodIn_of _ (by decide +kernel)) ggL_law_X5_absent
set_option maxRecDepth 20000 in
theorem ggL_law_L_week : GoodIn wsL_law wsL_week := goodIn_ca (goodIn_r _ [284, 65, 285, 286, 287, 2, 288, 70, 71, 16, 21, 289, 15, 290, 291, 89, 72, 20, 73, 74, 45, 75, 76, 77, 78, 79, 80, 81, 82, 83, 30, 32, 84, 85, 86, 87, 88, 90, 33, 91, 92, 93, 94, 95, 96, 35, 97, 98, 99, 100, 101, 102, 103, 104, 105, 106, 107, 108, 109, 110, 111, 112, 39, 113, 292, 293, 294, 169, 170, 171, 295, 296, 297, 298, 239, 240, 241, 231, 242, 243, 244, 245, 299, 300, 301, 302, 303, 304, 305, 306, 117, 118, 119, 120, 307, 271, 272, 273, 308, 309, 310, 311, 312, 313, 314, 315, 316, 317, 318, 186, 187, 188, 189, 190, 191, 163, 164, 165, 172, 173, 174, 175, 176, 177, 178, 319, 320, 321, 322, 935, 936, 937, 938, 953, 954, 955, 956, 957, 958, 959, 960, 961, 962, 963, 964, 965, 966, 974, 975, 976, 977, 978, 979, 980, 981, 982, 983, 984, 985, 986, 987, 988, 989] (by decide +kernel) (by decide +kernel)) (goodIn_sub (fun _ h => List.mem_append_left _ (List.mem_append_left _ (List.mem_append_right _ h))) (by decide +kernel))
set_option maxRecDepth 20000 in
theorem gL_law_L_week : GoodIn wsL_law (va_wsS RL 100 yL_week wsL_week) := goodIn_app (goodIn_of _ (by decide +kernel)) ggL_law_L_week
set_option maxRecDepth 20000 in
theorem ggL_law_X5_week : GoodIn wsL_law wsX5_week := goodIn_r _ [326, 125, 55, 126, 127, 128, 5, 129, 130, 131, 132, 133, 134, 57, 327, 328, 329, 330, 331, 60, 139, 140, 141, 258, 259, 260, 261, 262, 263, 332, 333, 334, 335, 142, 143, 144, 336, 337, 338, 339, 340, 341, 215, 216, 217, 203, 204, 205, 206, 207, 208, 209, 210, 211, 939, 940, 941, 942, 943, 944, 945, 946, 947, 948, 949, 950, 951, 952] (by decide +kernel) (by decide +kernel)
set_option maxRecDepth 20000 in
theorem gL_law_X5_week : GoodIn wsL_law (wsV RL 102 RX5 yX5_week wsX5_week) := goodIn_app (goodIn_of _ (by decide +kernel)) ggL_law_X5_week
set_option maxRecDepth 20000 in
theorem ggL_law_L_payBack : GoodIn wsL_law wsL_payBack := goodIn_ca (goodIn_ca (goodIn_ca (goodIn_r _ [344, 152, 221, 65, 345, 346, 347, 2, 348, 70, 71, 21, 16, 157, 158, 159, 160, 161, 162, 163, 15, 164, 165, 30, 349, 350, 351, 226, 227, 172, 35, 173, 174, 109, 110, 175, 176, 177, 178, 39, 72, 20, 73, 74, 45, 75, 76, 77, 78, 79, 80, 81, 82, 83, 32, 84, 85, 86, 87, 88, 89, 90, 33, 91, 92, 93, 94, 95, 96, 97, 98, 99, 100, 101, 102, 103, 104, 105, 106, 107, 108, 111, 112, 113, 352, 353, 354, 303, 304, 305, 306, 935, 936, 937, 938, 953, 954, 955, 956, 957, 958, 959, 960, 961, 962, 963, 974, 975, 976, 977, 978, 979, 980, 981, 982, 983, 984, 985, 986, 987, 988, 989, 964, 965, 966] (by decide +kernel) (by decide +kernel)) (goodIn_sub (fun _ h => List.mem_append_left _ (List.mem_append_left _ (List.mem_append_right _ h))) (by decide +kernel))) (goodIn_sub (fun _ h => List.mem_append_left _ (List.mem_append_right _ h)) (by decide +kernel))) (goodIn_sub (fun _ h => List.mem_append_right _ h) (by decide +kernel))
set_option maxRecDepth 20000 in
theorem gL_law_L_payBack : GoodIn wsL_law (va_wsS RL 103 yL_payBack wsL_payBack) := goodIn_app (goodIn_of _ (by decide +kernel)) ggL_law_L_payBack
set_option maxRecDepth 20000 in
theorem ggL_law_X5_payBack : GoodIn wsL_law wsX5_payBack := goodIn_r _ [358, 125, 359, 360, 361, 5, 362, 55, 196, 197, 198, 199, 200, 201, 202, 139, 140, 141, 203, 204, 205, 206, 207, 208, 209, 210, 211, 130, 131, 132, 133, 134, 57, 363, 364, 365, 366, 367, 368, 369, 142, 143, 144, 939, 940, 941, 942, 943, 944, 945, 946, 947, 948, 949, 950, 951, 952] (by decide +kernel) (by decide +kernel)
set_option maxRecDepth 20000 in
theorem gL_law_X5_payBack : GoodIn wsL_law (wsV RL 106 RX5 yX5_payBack wsX5_payBack) := goodIn_app (goodIn_of _ (by decide +kernel)) ggL_law_X5_payBack
set_option maxRecDepth 20000 in
theorem ggL_law_L_help : GoodIn wsL_law wsL_help := goodIn_ca (goodIn_ca (goodIn_ca (goodIn_r _ [372, 152, 221, 65, 373, 374, 375, 2, 376, 70, 71, 16, 21, 157, 158, 159, 160, 161, 162, 163, 15, 164, 165, 30, 349, 350, 351, 226, 227, 377, 378, 379, 33, 91, 32, 72, 20, 73, 74, 45, 75, 76, 77, 78, 79, 80, 81, 82, 83, 84, 85, 86, 87, 88, 89, 90, 92, 93, 94, 95, 96, 35, 97, 98, 99, 100, 101, 102, 103, 104, 105, 106, 107, 108, 109, 110, 111, 112, 39, 113, 380, 381, 382, 935, 936, 937, 938, 953, 954, 955, 956, 957, 958, 959, 960, 961, 962, 963, 974, 975, 976, 977, 978, 979, 980, 981, 982, 983, 984, 985, 986, 987, 988, 989, 964, 965, 966] (by decide +kernel) (by decide +kernel)) (goodIn_sub (fun _ h => List.mem_append_left _ (List.mem_append_left _ (List.mem_append_right _ h))) (by decide +kernel))) (goodIn_sub (fun _ h => List.mem_append_left _ (List.mem_append_right _ h)) (by decide +kernel))) (goodIn_sub (fun _ h => List.mem_append_right _ h) (by decide +kernel))
set_option maxRecDepth 20000 in
theorem gL_law_L_help : GoodIn wsL_law (va_wsS RL 107 yL_help wsL_help) := goodIn_app (goodIn_of _ (by decide +kernel)) ggL_law_L_help
set_option maxRecDepth 20000 in
theorem ggL_law_X5_help : GoodIn wsL_law wsX5_help := goodIn_r _ [386, 125, 387, 388, 389, 5, 390, 55, 196, 197, 198, 199, 200, 201, 202, 139, 140, 141, 130, 131, 132, 133, 134, 57, 391, 392, 393, 394, 142, 143, 144, 939, 940, 941, 942, 943, 944, 945, 946, 947, 948, 949, 950, 951, 952] (by decide +kernel) (by decide +kernel)
set_option maxRecDepth 20000 in
theorem gL_law_X5_help : GoodIn wsL_law (wsV RL 109 RX5 yX5_help wsX5_help) := goodIn_app (goodIn_of _ (by decide +kernel)) ggL_law_X5_help
set_option maxRecDepth 20000 in
theorem ggL_law_L_cycle : GoodIn wsL_law wsL_cycle := goodIn_ca (goodIn_r _ [397, 65, 398, 399, 400, 2, 401, 70, 71, 16, 21, 402, 15, 403, 404, 405, 406, 407, 408, 30, 409, 410, 305, 411, 412, 413, 414, 415, 72, 20, 73, 74, 45, 75, 76, 77, 78, 79, 80, 81, 82, 83, 32, 84, 85, 86, 87, 88, 89, 90, 33, 91, 92, 93, 94, 95, 96, 35, 97, 98, 99, 100, 101, 102, 103, 104, 105, 106, 107, 108, 109, 110, 111, 112, 39, 113, 416, 417, 418, 419, 420, 421, 422, 304, 306, 423, 935, 936, 937, 938, 953, 954, 955, 956, 957, 958, 959, 960, 961, 962, 963, 974, 975, 976, 977, 978, 979, 980, 981, 982, 983, 984, 985, 986, 987, 988, 989, 964, 965, 966] (by decide +kernel) (by decide +kernel)) (goodIn_sub (fun _ h => List.mem_append_left _ (List.mem_append_left _ (List.mem_append_right _ h))) (by decide +kernel))
set_option maxRecDepth 20000 in
theorem gL_law_L_cycle : GoodIn wsL_law (va_wsS RL 110 yL_cycle wsL_cycle) := goodIn_app (goodIn_of _ (by decide +kernel)) ggL_law_L_cycle
set_option maxRecDepth 20000 in
theorem ggL_law_X5_cycle : GoodIn wsL_law wsX5_cycle := goodIn_r _ [427, 125, 428, 429, 430, 5, 431, 432, 433, 434, 435, 55, 139, 140, 141, 126, 127, 128, 129, 130, 131, 132, 133, 134, 57, 436, 437, 438, 439, 440, 441, 442, 443, 367, 368, 369, 939, 940, 941, 942, 943, 944, 945, 946, 947, 948, 949, 950, 951, 952] (by decide +kernel) (by decide +kernel)
set_option maxRecDepth 20000 in
theorem gL_law_X5_cycle : GoodIn wsL_law (wsV RL 112 RX5 yX5_cycle wsX5_cycle) := goodIn_app (goodIn_of _ (by decide +kernel)) ggL_law_X5_cycle
set_option maxRecDepth 20000 in
theorem ggL_law_L_set : GoodIn wsL_law wsL_set := goodIn_ca (goodIn_ca (goodIn_r _ [446, 152, 221, 447, 448, 449, 2, 450, 226, 227, 451, 452, 21, 16, 453, 454, 455, 161, 162, 72, 20, 73, 74, 45, 75, 76, 77, 78, 79, 80, 81, 15, 82, 83, 30, 32, 84, 85, 86, 87, 88, 89, 90, 33, 91, 92, 93, 94, 95, 96, 35, 97, 98, 99, 100, 101, 102, 103, 104, 105, 106, 107, 108, 109, 110, 111, 112, 39, 113, 935, 936, 937, 938, 953, 954, 955, 956, 957, 958, 959, 960, 961, 962, 963, 964, 965, 966, 974, 975, 976, 977, 978, 979, 980, 981, 982, 983, 984, 985, 986, 987, 988, 989] (by decide +kernel) (by decide +kernel)) (goodIn_sub (fun _ h => List.mem_append_right _ h) (by decide +kernel))) (goodIn_sub (fun _ h => List.mem_append_left _ (List.mem_append_right _ h)) (by decide +kernel))
set_option maxRecDepth 20000 in
theorem gL_law_L_set : GoodIn wsL_law (va_wsS RL 113 yL_set wsL_set) := goodIn_app (goodIn_of _ (by decide +kernel)) ggL_law_L_set
set_option maxRecDepth 20000 in
theorem ggL_law_X5_set : GoodIn wsL_law wsX5_set := goodIn_r _ [459, 125, 55, 200, 201, 5, 202, 126, 127, 128, 129, 460, 461, 462, 130, 131, 132, 133, 134, 57, 939, 940, 941, 942, 943, 944, 945, 946, 947, 948, 949, 950, 951, 952] (by decide +kernel) (by decide +kernel)
set_option maxRecDepth 20000 in
theorem gL_law_X5_set : GoodIn wsL_law (wsV RL 115 RX5 yX5_set wsX5_set) := goodIn_app (goodIn_of _ (by decide +kernel)) ggL_law_X5_set
set_option maxRecDepth 20000 in
theorem ggL_law_L_append : GoodIn wsL_law wsL_append := goodIn_ca (goodIn_ca (goodIn_r _ [465, 221, 65, 466, 467, 468, 2, 469, 226, 227, 70, 71, 25, 470, 24, 471, 472, 473, 50, 935, 936, 937, 938, 967, 968, 969, 970, 971, 972, 973] (by decide +kernel) (by decide +kernel)) (goodIn_sub (fun _ h => List.mem_append_right _ h) (by decide +kernel))) (goodIn_sub (fun _ h => List.mem_append_left _ (List.mem_append_left _ (List.mem_append_right _ h))) (by decide +kernel))
set_option maxRecDepth 20000 in
theorem gL_law_L_append : GoodIn wsL_law (va_wsS RL 116 yL_append wsL_append) := goodIn_app (goodIn_of _ (by decide +kernel)) ggL_law_L_append
set_option maxRecDepth 20000 in
theorem ggL_law_X5_append : GoodIn wsL_law wsX5_append := goodIn_r _ [477, 125, 478, 58, 200, 201, 5, 202, 126, 127, 128, 129, 939, 940, 941, 942, 943, 944, 945, 946, 947, 948, 949, 950, 951, 952] (by decide +kernel) (by decide +kernel)
set_option maxRecDepth 20000 in
theorem gL_law_X5_append : GoodIn wsL_law (wsV RL 118 RX5 yX5_append wsX5_append) := goodIn_app (goodIn_of _ (by decide +kernel)) ggL_law_X5_append
set_option maxRecDepth 20000 in
theorem ggL_law_X4_clearBuffer : GoodIn wsL_law wsX4_clearBuffer := goodIn_r _ [482, 25, 483, 24, 484, 485, 473, 935, 936, 937, 938, 967, 968, 969, 970, 971, 972, 973] (by decide +kernel) (by decide +kernel)
set_option maxRecDepth 20000 in
theorem gL_law_X4_clearBuffer : GoodIn wsL_law (wsV RL 119 RX4 yX4_clearBuffer wsX4_clearBuffer) := goodIn_app (goodIn_of _ (by decide +kernel)) ggL_law_X4_clearBuffer
set_option maxRecDepth 20000 in
theorem ggL_law_X5_clearBuffer : GoodIn wsL_law wsX5_clearBuffer := goodIn_r _ [489, 125, 478, 939, 940, 941, 942, 943, 944, 945, 946, 947, 948, 949, 950, 951, 952] (by decide +kernel) (by decide +kernel)
set_option maxRecDepth 20000 in
theorem gL_law_X5_clearBuffer : GoodIn wsL_law (wsV RL 122 RX5 yX5_clearBuffer wsX5_clearBuffer) := goodIn_app (goodIn_of _ (by decide +kernel)) ggL_law_X5_clearBuffer
set_option maxRecDepth 20000 in
theorem ggL_law_X4_firstError : GoodIn wsL_law wsX4_firstError := goodIn_r _ [493, 25, 494, 24, 495, 496, 497, 473, 498, 499, 500, 501, 502, 503, 504, 505, 506, 507, 508, 509, 510, 50, 511, 512, 513, 514, 515, 516, 517, 518, 519, 520, 521, 522, 523, 524, 525, 526, 527, 528, 529, 530, 531, 532, 533, 534, 535, 536, 537, 538, 539, 540, 541, 542, 543, 544, 545, 546, 547, 548, 549, 550, 551, 552, 553, 554, 555, 556, 557, 558, 559, 560, 561, 562, 563, 564, 565, 566, 567, 568, 569, 570, 571, 572, 573, 574, 575, 576, 577, 578, 579, 580, 581, 582, 583, 584, 585, 586, 935, 936, 937, 938, 967, 968, 969, 970, 971, 972, 973] (by decide +kernel) (by decide +kernel)
set_option maxRecDepth 20000 in
theorem gL_law_X4_firstError : GoodIn wsL_law (wsV RL 123 RX4 yX4_firstError wsX4_firstError) := goodIn_app (goodIn_of _ (by decide +kernel)) ggL_law_X4_firstError
set_option maxRecDepth 20000 in
theorem ggL_law_X5_firstError : GoodIn wsL_law wsX5_firstError := goodIn_r _ [590, 125, 591, 592, 478, 593, 594, 595, 5, 596, 597, 598, 599, 600, 601, 58, 602, 603, 604, 605, 59, 606, 607, 608, 609, 610, 611, 612, 613, 200, 201, 202, 614, 615, 616, 617, 618, 619, 620, 621, 622, 623, 624, 625, 626, 627, 628, 629, 630, 631, 632, 633, 634, 635, 636, 637, 939, 940, 941, 942, 943, 944, 945, 946, 947, 948, 949, 950, 951, 952] (by decide +kernel) (by decide +kernel)
set_option maxRecDepth 20000 in
theorem gL_law_X5_firstError : GoodIn wsL_law (wsV RL 126 RX5 yX5_firstError wsX5_firstError) := goodIn_app (goodIn_of _ (by decide +kernel)) ggL_law_X5_firstError
set_option maxRecDepth 20000 in
theorem ggL_law_L_run : GoodIn wsL_law wsL_run := goodIn_ca (goodIn_r _ [640, 221, 641, 642, 643, 2, 644, 226, 227, 25, 21, 16, 494, 24, 495, 496, 497, 473, 498, 499, 500, 501, 502, 503, 504, 505, 506, 507, 508, 509, 510, 50, 511, 512, 513, 514, 515, 516, 517, 518, 519, 520, 521, 522, 523, 524, 525, 526, 527, 528, 529, 530, 531, 532, 533, 534, 535, 536, 537, 538, 539, 540, 541, 542, 543, 544, 545, 546, 547, 548, 549, 550, 551, 552, 553, 554, 555, 556, 557, 558, 559, 560, 561, 562, 563, 564, 565, 566, 567, 568, 569, 570, 571, 572, 573, 574, 575, 576, 577, 578, 579, 580, 581, 582, 583, 584, 585, 586, 72, 20, 73, 74, 45, 75, 76, 77, 78, 79, 80, 81, 15, 82, 83, 30, 32, 84, 85, 86, 87, 88, 89, 90, 33, 91, 92, 93, 94, 95, 96, 35, 97, 98, 99, 100, 101, 102, 103, 104, 105, 106, 107, 108, 109, 110, 111, 112, 39, 113, 645, 646, 647, 648, 649, 650, 651, 652, 289, 290, 291, 292, 293, 294, 169, 170, 171, 295, 296, 297, 298, 239, 240, 241, 231, 242, 243, 244, 245, 299, 300, 301, 302, 303, 304, 305, 306, 117, 118, 119, 120, 307, 271, 272, 273, 308, 309, 310, 311, 312, 313, 314, 315, 316, 317, 318, 186, 187, 188, 189, 190, 191, 163, 164, 165, 172, 173, 174, 175, 176, 177, 178, 319, 320, 321, 322, 653, 654, 655, 656, 402, 403, 404, 405, 406, 407, 408, 409, 410, 411, 412, 413, 414, 415, 416, 417, 418, 419, 420, 421, 422, 423, 657, 658, 659, 660, 661, 662, 663, 664, 228, 229, 230, 232, 233, 234, 235, 236, 237, 238, 665, 666, 667, 668, 352, 353, 354, 669, 670, 671, 672, 377, 378, 379, 380, 381, 382, 483, 484, 485, 935, 936, 937, 938, 967, 968, 969, 970, 971, 972, 973, 964, 965, 966, 953, 954, 955, 956, 957, 958, 959, 960, 961, 962, 963, 974, 975, 976, 977, 978, 979, 980, 981, 982, 983, 984, 985, 986, 987, 988, 989] (by decide +kernel) (by decide +kernel)) (goodIn_sub (fun _ h => List.mem_append_right _ h) (by decide +kernel))
set_option maxRecDepth 20000 in
theorem gL_law_L_run : GoodIn wsL_law (va_wsS RL 127 yL_run wsL_run) := goodIn_app (goodIn_of _ (by decide +kernel)) ggL_law_L_run
set_option maxRecDepth 20000 in
theorem ggL_law_L_undo : GoodIn wsL_law wsL_undo := goodIn_ca (goodIn_r _ [687, 65, 688, 689, 690, 2, 691, 70, 71, 21, 16, 692, 20, 693, 694, 76, 45, 75, 77, 78, 79, 80, 81, 15, 82, 83, 30, 32, 84, 85, 86, 87, 88, 89, 90, 33, 91, 92, 93, 94, 95, 96, 35, 97, 98, 99, 100, 101, 102, 103, 104, 105, 106, 107, 108, 109, 110, 111, 112, 39, 113, 935, 936, 937, 938, 964, 965, 966, 953, 954, 955, 956, 957, 958, 959, 960, 961, 962, 963, 974, 975, 976, 977, 978, 979, 980, 981, 982, 983, 984, 985, 986, 987, 988, 989] (by decide +kernel) (by decide +kernel)) (goodIn_sub (fun _ h => List.mem_append_left _ (List.mem_append_left _ (List.mem_append_right _ h))) (by decide +kernel))
set_option maxRecDepth 20000 in
theorem gL_law_L_undo : GoodIn wsL_law (va_wsS RL 130 yL_undo wsL_undo) := goodIn_app (goodIn_of _ (by decide +kernel)) ggL_law_L_undo
set_option maxRecDepth 20000 in
theorem ggL_law_X5_undo : GoodIn wsL_law wsX5_undo := goodIn_r _ [698, 125, 134, 55, 57, 126, 127, 128, 5, 129, 939, 940, 941, 942, 943, 944, 945, 946, 947, 948, 949, 950, 951, 952] (by decide +kernel) (by decide +kernel)
set_option maxRecDepth 20000 in
theorem gL_law_X5_undo : GoodIn wsL_law (wsV RL 132 RX5 yX5_undo wsX5_undo) := goodIn_app (goodIn_of _ (by decide +kernel)) ggL_law_X5_undo
set_option maxRecDepth 20000 in
theorem ggL_law_L_member : GoodIn wsL_law wsL_member := goodIn_ca (goodIn_ca (goodIn_r _ [701, 152, 221, 702, 703, 704, 2, 705, 226, 227, 157, 158, 159, 160, 161, 162, 16, 163, 15, 164, 165, 30, 706, 707, 708, 709, 180, 181, 182, 710, 35, 711, 712, 100, 101, 104, 105, 106, 107, 108, 109, 110, 111, 112, 713, 239, 240, 241, 103, 231, 169, 170, 171, 242, 243, 244, 245, 102, 175, 176, 177, 178, 39, 935, 936, 937, 938, 953, 954, 955, 956, 957, 958, 959, 960, 961, 962, 963, 974, 975, 976, 977, 978, 979, 980, 981, 982, 983, 984, 985, 986, 987, 988, 989] (by decide +kernel) (by decide +kernel)) (goodIn_sub (fun _ h => List.mem_append_right _ h) (by decide +kernel))) (goodIn_sub (fun _ h => List.mem_append_left _ (List.mem_append_right _ h)) (by decide +kernel))
set_option maxRecDepth 20000 in
theorem gL_law_L_member : GoodIn wsL_law (va_wsS RL 133 yL_member wsL_member) := goodIn_app (goodIn_of _ (by decide +kernel)) ggL_law_L_member
set_option maxRecDepth 20000 in
theorem ggL_law_X5_member : GoodIn wsL_law wsX5_member := goodIn_r _ [717, 125, 196, 197, 198, 5, 199, 55, 200, 201, 202, 139, 140, 141, 126, 127, 128, 129, 718, 719, 720, 721, 258, 259, 260, 261, 262, 263, 206, 207, 208, 209, 210, 211, 212, 213, 214, 939, 940, 941, 942, 943, 944, 945, 946, 947, 948, 949, 950, 951, 952] (by decide +kernel) (by decide +kernel)
set_option maxRecDepth 20000 in
theorem gL_law_X5_member : GoodIn wsL_law (wsV RL 135 RX5 yX5_member wsX5_member) := goodIn_app (goodIn_of _ (by decide +kernel)) ggL_law_X5_member
set_option maxRecDepth 20000 in
theorem ggL_law_L_owes : GoodIn wsL_law wsL_owes := goodIn_ca (goodIn_r _ [724, 152, 725, 726, 727, 2, 728, 157, 158, 159, 160, 161, 162, 16, 163, 15, 164, 165, 30, 974, 975, 976, 977, 978, 979, 980, 981, 982, 983, 984, 985, 986, 987, 988, 989, 935, 936, 937, 938, 953, 954, 955, 956, 957, 958, 959, 960, 961, 962, 963] (by decide +kernel) (by decide +kernel)) (goodIn_sub (fun _ h => List.mem_append_left _ (List.mem_append_right _ h)) (by decide +kernel))
set_option maxRecDepth 20000 in
theorem gL_law_L_owes : GoodIn wsL_law (va_wsS RL 136 yL_owes wsL_owes) := goodIn_app (goodIn_of _ (by decide +kernel)) ggL_law_L_owes
set_option maxRecDepth 20000 in
theorem ggL_law_X5_owes : GoodIn wsL_law wsX5_owes := goodIn_r _ [732, 125, 55, 196, 197, 198, 5, 199, 200, 201, 202, 139, 140, 141, 209, 210, 211, 126, 127, 128, 129, 939, 940, 941, 942, 943, 944, 945, 946, 947, 948, 949, 950, 951, 952] (by decide +kernel) (by decide +kernel)
set_option maxRecDepth 20000 in
theorem gL_law_X5_owes : GoodIn wsL_law (wsV RL 138 RX5 yX5_owes wsX5_owes) := goodIn_app (goodIn_of _ (by decide +kernel)) ggL_law_X5_owes
set_option maxRecDepth 20000 in
theorem ggL_law_L_count : GoodIn wsL_law wsL_count := goodIn_ca (goodIn_r _ [735, 221, 736, 737, 738, 2, 739, 226, 227, 740, 741, 742, 743, 21, 16, 744, 15, 745, 746, 89, 90, 33, 91, 92, 93, 94, 95, 117, 118, 119, 120, 30, 747, 748, 749, 750, 412, 413, 414, 415, 751, 752, 753, 754, 755, 756, 757, 758, 176, 35, 177, 178, 39, 307, 271, 272, 273, 935, 936, 937, 938, 964, 965, 966, 953, 954, 955, 956, 957, 958, 959, 960, 961, 962, 963, 974, 975, 976, 977, 978, 979, 980, 981, 982, 983, 984, 985, 986, 987, 988, 989] (by decide +kernel) (by decide +kernel)) (goodIn_sub (fun _ h => List.mem_append_right _ h) (by decide +kernel))
set_option maxRecDepth 20000 in
theorem gL_law_L_count : GoodIn wsL_law (va_wsS RL 139 yL_count wsL_count) := goodIn_app (goodIn_of _ (by decide +kernel)) ggL_law_L_count
set_option maxRecDepth 20000 in
theorem ggL_law_X5_count : GoodIn wsL_law wsX5_count := goodIn_r _ [762, 125, 200, 201, 5, 202, 763, 764, 765, 766, 55, 134, 135, 136, 137, 138, 139, 140, 141, 432, 433, 434, 435, 767, 768, 769, 206, 207, 208, 209, 210, 211, 278, 279, 280, 281, 126, 127, 128, 129, 939, 940, 941, 942, 943, 944, 945, 946, 947, 948, 949, 950, 951, 952] (by decide +kernel) (by decide +kernel)
set_option maxRecDepth 20000 in
theorem gL_law_X5_count : GoodIn wsL_law (wsV RL 141 RX5 yX5_count wsX5_count) := goodIn_app (goodIn_of _ (by decide +kernel)) ggL_law_X5_count
set_option maxRecDepth 20000 in
theorem ggL_law_L_setting : GoodIn wsL_law wsL_setting := goodIn_ca (goodIn_r _ [772, 152, 773, 774, 775, 2, 776, 16, 453, 454, 455, 161, 162, 935, 936, 937, 938, 953, 954, 955, 956, 957, 958, 959, 960, 961, 962, 963] (by decide +kernel) (by decide +kernel)) (goodIn_sub (fun _ h => List.mem_append_left _ (List.mem_append_right _ h)) (by decide +kernel))
set_option maxRecDepth 20000 in
theorem gL_law_L_setting : GoodIn wsL_law (va_wsS RL 142 yL_setting wsL_setting) := goodIn_app (goodIn_of _ (by decide +kernel)) ggL_law_L_setting
set_option maxRecDepth 20000 in
theorem ggL_law_X5_setting : GoodIn wsL_law wsX5_setting := goodIn_r _ [780, 125, 55, 200, 201, 5, 202, 126, 127, 128, 129, 939, 940, 941, 942, 943, 944, 945, 946, 947, 948, 949, 950, 951, 952] (by decide +kernel) (by decide +kernel)
set_option maxRecDepth 20000 in
theorem gL_law_X5_setting : GoodIn wsL_law (wsV RL 144 RX5 yX5_setting wsX5_setting) := goodIn_app (goodIn_of _ (by decide +kernel)) ggL_law_X5_setting
set_option maxRecDepth 20000 in
theorem ggL_law_L_ifAbsent : GoodIn wsL_law wsL_ifAbsent := goodIn_ca (goodIn_r _ [783, 221, 784, 785, 786, 2, 787, 226, 227, 788, 789, 790, 791, 17, 16, 81, 15, 82, 83, 30, 32, 84, 85, 86, 87, 88, 89, 90, 33, 91, 92, 93, 94, 95, 96, 35, 97, 98, 99, 100, 101, 102, 103, 104, 105, 106, 107, 108, 109, 110, 111, 112, 39, 113, 320, 321, 322, 292, 293, 294, 169, 170, 171, 295, 296, 297, 298, 239, 240, 241, 231, 242, 243, 244, 245, 299, 300, 301, 302, 303, 304, 305, 306, 117, 118, 119, 120, 307, 271, 272, 273, 308, 309, 310, 311, 312, 313, 314, 315, 316, 317, 318, 186, 187, 188, 189, 190, 78, 79, 80, 191, 163, 164, 165, 172, 173, 174, 175, 176, 177, 178, 319, 792, 793, 794, 795, 413, 414, 415, 756, 757, 758, 796, 797, 798, 409, 410, 411, 935, 936, 937, 938, 953, 954, 955, 956, 957, 958, 959, 960, 961, 962, 963, 974, 975, 976, 977, 978, 979, 980, 981, 982, 983, 984, 985, 986, 987, 988, 989] (by decide +kernel) (by decide +kernel)) (goodIn_sub (fun _ h => List.mem_append_right _ h) (by decide +kernel))
set_option maxRecDepth 20000 in
theorem gL_law_L_ifAbsent : GoodIn wsL_law (va_wsS RL 145 yL_ifAbsent wsL_ifAbsent) := goodIn_app (goodIn_of _ (by decide +kernel)) ggL_law_L_ifAbsent
set_option maxRecDepth 20000 in
theorem ggL_law_X5_ifAbsent : GoodIn wsL_law wsX5_ifAbsent := goodIn_r _ [802, 125, 200, 201, 5, 202, 803, 804, 805, 806, 56, 807, 808, 809, 810, 55, 811, 812, 813, 814, 327, 328, 329, 330, 331, 60, 139, 140, 141, 258, 259, 260, 261, 262, 263, 332, 333, 334, 335, 142, 143, 144, 336, 337, 338, 339, 340, 341, 215, 216, 217, 203, 204, 205, 206, 207, 208, 209, 210, 211, 767, 768, 769, 815, 816, 817, 818, 126, 127, 128, 129, 939, 940, 941, 942, 943, 944, 945, 946, 947, 948, 949, 950, 951, 952] (by decide +kernel) (by decide +kernel)
set_option maxRecDepth 20000 in
theorem gL_law_X5_ifAbsent : GoodIn wsL_law (wsV RL 147 RX5 yX5_ifAbsent wsX5_ifAbsent) := goodIn_app (goodIn_of _ (by decide +kernel)) ggL_law_X5_ifAbsent
end LW2
