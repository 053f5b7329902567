set_option maxRecDepth 20000 in
theorem ggL_way_X5_way : GoodIn wsL_way wsX5_way := goodIn_r _ [5, 6, 7, 8, 9, 10, 11, 12, 13, 14, 15, 16, 17, 4, 18, 19, 20, 21, 22, 23, 24, 25, 26, 27, 28, 29, 30, 31, 32, 33, 34, 35, 36, 37, 38, 39, 40, 41, 42, 43, 44, 45, 46, 47, 48, 49, 50, 51, 52, 53, 54, 55, 56, 57, 58] (by decide +kernel) (by decide +kernel)
set_option maxRecDepth 20000 in
theorem gL_way_X5_way : GoodIn wsL_way (wsV RL 7 RX5 yX5_way wsX5_way) := goodIn_app (goodIn_of _ (by decide +kernel)) ggL_way_X5_way
theorem dL_way_0 : decode cL_way 0 = .ok (.aload 4, 2) := by decide +kernel
theorem dL_way_2 : decode cL_way 2 = .ok (.iconst 0, 1) := by decide +kernel
theorem dL_way_3 : decode cL_way 3 = .ok (.aload_n 0, 1) := by decide +kernel
theorem dL_way_4 : decode cL_way 4 = .ok (.iload_n 1, 1) := by decide +kernel
theorem dL_way_5 : decode cL_way 5 = .ok (.iload_n 2, 1) := by decide +kernel
theorem dL_way_6 : decode cL_way 6 = .ok (.iload_n 3, 1) := by decide +kernel
theorem dL_way_7 : decode cL_way 7 = .ok (.invokevirtual 7, 3) := by decide +kernel
theorem dL_way_10 : decode cL_way 10 = .ok (.ifCond .eq 7, 3) := by decide +kernel
theorem dL_way_13 : decode cL_way 13 = .ok (.lconst 1, 1) := by decide +kernel
theorem dL_way_14 : decode cL_way 14 = .ok (.goto 4, 3) := by decide +kernel
theorem dL_way_17 : decode cL_way 17 = .ok (.lconst 0, 1) := by decide +kernel
theorem dL_way_18 : decode cL_way 18 = .ok (.lastore, 1) := by decide +kernel
theorem dL_way_19 : decode cL_way 19 = .ok (.goto 7, 3) := by decide +kernel
theorem dL_way_22 : decode cL_way 22 = .ok (.astore 5, 2) := by decide +kernel
theorem dL_way_24 : decode cL_way 24 = .ok (.iconst 1, 1) := by decide +kernel
theorem dL_way_25 : decode cL_way 25 = .ok (.ireturn, 1) := by decide +kernel
theorem dL_way_26 : decode cL_way 26 = .ok (.iconst 0, 1) := by decide +kernel
theorem dL_way_27 : decode cL_way 27 = .ok (.ireturn, 1) := by decide +kernel
set_option maxRecDepth 20000 in
theorem ggL_weight_X5_weight : GoodIn wsL_weight wsX5_weight := goodIn_r _ [5, 6, 7, 8, 9, 10, 11, 12, 13, 14, 15, 16, 17, 18, 19, 20, 21, 22, 23, 24, 4, 25, 26, 27, 28, 29, 30, 31, 32, 33, 34, 35, 36, 37, 38, 39, 40, 41, 42, 43, 44, 45, 46, 47, 48, 49, 50, 51, 52] (by decide +kernel) (by decide +kernel)
set_option maxRecDepth 20000 in
theorem gL_weight_X5_weight : GoodIn wsL_weight (wsV RL 15 RX5 yX5_weight wsX5_weight) := goodIn_app (goodIn_of _ (by decide +kernel)) ggL_weight_X5_weight
theorem dL_weight_0 : decode cL_weight 0 = .ok (.aload_n 2, 1) := by decide +kernel
theorem dL_weight_1 : decode cL_weight 1 = .ok (.iconst 0, 1) := by decide +kernel
theorem dL_weight_2 : decode cL_weight 2 = .ok (.aload_n 0, 1) := by decide +kernel
theorem dL_weight_3 : decode cL_weight 3 = .ok (.iload_n 1, 1) := by decide +kernel
theorem dL_weight_4 : decode cL_weight 4 = .ok (.invokevirtual 15, 3) := by decide +kernel
theorem dL_weight_7 : decode cL_weight 7 = .ok (.lastore, 1) := by decide +kernel
theorem dL_weight_8 : decode cL_weight 8 = .ok (.goto 6, 3) := by decide +kernel
theorem dL_weight_11 : decode cL_weight 11 = .ok (.astore_n 3, 1) := by decide +kernel
theorem dL_weight_12 : decode cL_weight 12 = .ok (.iconst 1, 1) := by decide +kernel
theorem dL_weight_13 : decode cL_weight 13 = .ok (.ireturn, 1) := by decide +kernel
theorem dL_weight_14 : decode cL_weight 14 = .ok (.iconst 0, 1) := by decide +kernel
theorem dL_weight_15 : decode cL_weight 15 = .ok (.ireturn, 1) := by decide +kernel
