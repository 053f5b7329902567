theorem dX6_way_1 : decode cX6_way 1 = .ok (.aload_n 0, 1) := by decide +kernel
theorem dX6_way_2 : decode cX6_way 2 = .ok (.iconst 0, 1) := by decide +kernel
theorem dX6_way_3 : decode cX6_way 3 = .ok (.iload_n 1, 1) := by decide +kernel
theorem dX6_way_4 : decode cX6_way 4 = .ok (.invokevirtual 57, 3) := by decide +kernel
theorem dX6_way_7 : decode cX6_way 7 = .ok (.ifCond .eq 26, 3) := by decide +kernel
theorem dX6_way_10 : decode cX6_way 10 = .ok (.aload_n 0, 1) := by decide +kernel
theorem dX6_way_11 : decode cX6_way 11 = .ok (.iconst 0, 1) := by decide +kernel
theorem dX6_way_12 : decode cX6_way 12 = .ok (.iload_n 3, 1) := by decide +kernel
theorem dX6_way_13 : decode cX6_way 13 = .ok (.invokevirtual 57, 3) := by decide +kernel
theorem dX6_way_16 : decode cX6_way 16 = .ok (.ifCond .eq 17, 3) := by decide +kernel
theorem dX6_way_19 : decode cX6_way 19 = .ok (.iload_n 2, 1) := by decide +kernel
theorem dX6_way_20 : decode cX6_way 20 = .ok (.ifCond .lt 13, 3) := by decide +kernel
theorem dX6_way_23 : decode cX6_way 23 = .ok (.iload_n 2, 1) := by decide +kernel
theorem dX6_way_24 : decode cX6_way 24 = .ok (.bipush 6, 2) := by decide +kernel
theorem dX6_way_26 : decode cX6_way 26 = .ok (.if_icmp .ge 7, 3) := by decide +kernel
theorem dX6_way_29 : decode cX6_way 29 = .ok (.iconst 0, 1) := by decide +kernel
theorem dX6_way_30 : decode cX6_way 30 = .ok (.goto 4, 3) := by decide +kernel
theorem dX6_way_33 : decode cX6_way 33 = .ok (.iconst 1, 1) := by decide +kernel
theorem dX6_way_34 : decode cX6_way 34 = .ok (.putfield 52, 3) := by decide +kernel
theorem dX6_way_37 : decode cX6_way 37 = .ok (.aload_n 0, 1) := by decide +kernel
theorem dX6_way_38 : decode cX6_way 38 = .ok (.getfield 52, 3) := by decide +kernel
theorem dX6_way_41 : decode cX6_way 41 = .ok (.ifCond .ne 18, 3) := by decide +kernel
theorem dX6_way_44 : decode cX6_way 44 = .ok (.aload_n 0, 1) := by decide +kernel
theorem dX6_way_45 : decode cX6_way 45 = .ok (.iconst 2, 1) := by decide +kernel
theorem dX6_way_46 : decode cX6_way 46 = .ok (.iload_n 1, 1) := by decide +kernel
theorem dX6_way_47 : decode cX6_way 47 = .ok (.iload_n 2, 1) := by decide +kernel
theorem dX6_way_48 : decode cX6_way 48 = .ok (.iload_n 3, 1) := by decide +kernel
theorem dX6_way_49 : decode cX6_way 49 = .ok (.invokevirtual 134, 3) := by decide +kernel
theorem dX6_way_52 : decode cX6_way 52 = .ok (.ifCond .eq 7, 3) := by decide +kernel
theorem dX6_way_55 : decode cX6_way 55 = .ok (.iconst 1, 1) := by decide +kernel
theorem dX6_way_56 : decode cX6_way 56 = .ok (.goto 4, 3) := by decide +kernel
theorem dX6_way_59 : decode cX6_way 59 = .ok (.iconst 0, 1) := by decide +kernel
theorem dX6_way_60 : decode cX6_way 60 = .ok (.ireturn, 1) := by decide +kernel
set_option maxRecDepth 20000 in
theorem ggX6_option_X6_tell : GoodIn wsX6_option wsX6_tell := goodIn_r _ [6, 7, 8, 9, 5, 10, 11, 12, 13, 14, 15, 16, 17, 18, 19, 20, 21, 22, 23, 24, 25, 26, 27, 28, 29, 30, 31, 32, 33, 34, 35, 36, 37, 38, 39, 40, 41, 42, 43, 44, 45, 46, 47, 48, 49, 50] (by decide +kernel) (by decide +kernel)
set_option maxRecDepth 20000 in
theorem gX6_option_X6_tell : GoodIn wsX6_option (wsV RX6 134 RX6 yX6_tell wsX6_tell) := goodIn_app (goodIn_of _ (by decide +kernel)) ggX6_option_X6_tell
theorem dX6_option_0 : decode cX6_option 0 = .ok (.aload_n 0, 1) := by decide +kernel
theorem dX6_option_1 : decode cX6_option 1 = .ok (.iconst 0, 1) := by decide +kernel
theorem dX6_option_2 : decode cX6_option 2 = .ok (.putfield 52, 3) := by decide +kernel
theorem dX6_option_5 : decode cX6_option 5 = .ok (.aload_n 0, 1) := by decide +kernel
theorem dX6_option_6 : decode cX6_option 6 = .ok (.iconst 5, 1) := by decide +kernel
theorem dX6_option_7 : decode cX6_option 7 = .ok (.iload_n 1, 1) := by decide +kernel
theorem dX6_option_8 : decode cX6_option 8 = .ok (.iload_n 2, 1) := by decide +kernel
theorem dX6_option_9 : decode cX6_option 9 = .ok (.iconst 0, 1) := by decide +kernel
theorem dX6_option_10 : decode cX6_option 10 = .ok (.invokevirtual 134, 3) := by decide +kernel
theorem dX6_option_13 : decode cX6_option 13 = .ok (.ireturn, 1) := by decide +kernel
set_option maxRecDepth 20000 in
theorem ggX6_hazard_X6_tell : GoodIn wsX6_hazard wsX6_tell := goodIn_r _ [6, 7, 8, 9, 5, 10, 11, 12, 13, 14, 15, 16, 17, 18, 19, 20, 21, 22, 23, 24, 25, 26, 27, 28, 29, 30, 31, 32, 33, 34, 35, 36, 37, 38, 39, 40, 41, 42, 43, 44, 45, 46, 47, 48, 49, 50] (by decide +kernel) (by decide +kernel)
set_option maxRecDepth 20000 in
theorem gX6_hazard_X6_tell : GoodIn wsX6_hazard (wsV RX6 134 RX6 yX6_tell wsX6_tell) := goodIn_app (goodIn_of _ (by decide +kernel)) ggX6_hazard_X6_tell
theorem dX6_hazard_0 : decode cX6_hazard 0 = .ok (.aload_n 0, 1) := by decide +kernel
theorem dX6_hazard_1 : decode cX6_hazard 1 = .ok (.iconst 0, 1) := by decide +kernel
theorem dX6_hazard_2 : decode cX6_hazard 2 = .ok (.putfield 52, 3) := by decide +kernel
theorem dX6_hazard_5 : decode cX6_hazard 5 = .ok (.aload_n 0, 1) := by decide +kernel
theorem dX6_hazard_6 : decode cX6_hazard 6 = .ok (.iconst 4, 1) := by decide +kernel
theorem dX6_hazard_7 : decode cX6_hazard 7 = .ok (.iload_n 1, 1) := by decide +kernel
theorem dX6_hazard_8 : decode cX6_hazard 8 = .ok (.iload_n 2, 1) := by decide +kernel
theorem dX6_hazard_9 : decode cX6_hazard 9 = .ok (.iconst 0, 1) := by decide +kernel
theorem dX6_hazard_10 : decode cX6_hazard 10 = .ok (.invokevirtual 134, 3) := by decide +kernel
theorem dX6_hazard_13 : decode cX6_hazard 13 = .ok (.ireturn, 1) := by decide +kernel
set_option maxRecDepth 20000 in
theorem ggX6_damage_X6_isAllowed : GoodIn wsX6_damage wsX6_isAllowed := goodIn_r _ [7, 8, 9, 10, 11, 12, 13, 14, 15, 16, 17, 6, 18, 19, 20, 21, 22, 23, 24, 25, 26, 27, 28, 29, 30, 31, 32, 33, 34, 35, 36, 37, 38, 39] (by decide +kernel) (by decide +kernel)
set_option maxRecDepth 20000 in
theorem gX6_damage_X6_isAllowed : GoodIn wsX6_damage (wsV RX6 65 RX6 yX6_isAllowed wsX6_isAllowed) := goodIn_app (goodIn_of _ (by decide +kernel)) ggX6_damage_X6_isAllowed
theorem dX6_damage_0 : decode cX6_damage 0 = .ok (.aload_n 0, 1) := by decide +kernel
theorem dX6_damage_1 : decode cX6_damage 1 = .ok (.iconst 0, 1) := by decide +kernel
theorem dX6_damage_2 : decode cX6_damage 2 = .ok (.putfield 52, 3) := by decide +kernel
theorem dX6_damage_5 : decode cX6_damage 5 = .ok (.aload_n 0, 1) := by decide +kernel
theorem dX6_damage_6 : decode cX6_damage 6 = .ok (.iconst 0, 1) := by decide +kernel
theorem dX6_damage_7 : decode cX6_damage 7 = .ok (.bipush 6, 2) := by decide +kernel
theorem dX6_damage_9 : decode cX6_damage 9 = .ok (.iload_n 1, 1) := by decide +kernel
theorem dX6_damage_10 : decode cX6_damage 10 = .ok (.iload_n 2, 1) := by decide +kernel
theorem dX6_damage_11 : decode cX6_damage 11 = .ok (.iconst 0, 1) := by decide +kernel
theorem dX6_damage_12 : decode cX6_damage 12 = .ok (.invokevirtual 65, 3) := by decide +kernel
theorem dX6_damage_15 : decode cX6_damage 15 = .ok (.ifCond .ne 5, 3) := by decide +kernel
theorem dX6_damage_18 : decode cX6_damage 18 = .ok (.iconst (-1), 1) := by decide +kernel
theorem dX6_damage_19 : decode cX6_damage 19 = .ok (.ireturn, 1) := by decide +kernel
theorem dX6_damage_20 : decode cX6_damage 20 = .ok (.aload_n 0, 1) := by decide +kernel
theorem dX6_damage_21 : decode cX6_damage 21 = .ok (.getfield 38, 3) := by decide +kernel
theorem dX6_damage_24 : decode cX6_damage 24 = .ok (.iload_n 1, 1) := by decide +kernel
theorem dX6_damage_25 : decode cX6_damage 25 = .ok (.iaload, 1) := by decide +kernel
theorem dX6_damage_26 : decode cX6_damage 26 = .ok (.istore_n 3, 1) := by decide +kernel
theorem dX6_damage_27 : decode cX6_damage 27 = .ok (.aload_n 0, 1) := by decide +kernel
theorem dX6_damage_28 : decode cX6_damage 28 = .ok (.getfield 38, 3) := by decide +kernel
theorem dX6_damage_31 : decode cX6_damage 31 = .ok (.iload_n 1, 1) := by decide +kernel
theorem dX6_damage_32 : decode cX6_damage 32 = .ok (.iload_n 2, 1) := by decide +kernel
theorem dX6_damage_33 : decode cX6_damage 33 = .ok (.iastore, 1) := by decide +kernel
theorem dX6_damage_34 : decode cX6_damage 34 = .ok (.iload_n 3, 1) := by decide +kernel
theorem dX6_damage_35 : decode cX6_damage 35 = .ok (.ireturn, 1) := by decide +kernel
theorem dX6_isOff_0 : decode cX6_isOff 0 = .ok (.lload_n 0, 1) := by decide +kernel
theorem dX6_isOff_1 : decode cX6_isOff 1 = .ok (.iload_n 2, 1) := by decide +kernel
theorem dX6_isOff_2 : decode cX6_isOff 2 = .ok (.lshr, 1) := by decide +kernel
theorem dX6_isOff_3 : decode cX6_isOff 3 = .ok (.lconst 1, 1) := by decide +kernel
theorem dX6_isOff_4 : decode cX6_isOff 4 = .ok (.land, 1) := by decide +kernel
theorem dX6_isOff_5 : decode cX6_isOff 5 = .ok (.lconst 1, 1) := by decide +kernel
theorem dX6_isOff_6 : decode cX6_isOff 6 = .ok (.lcmp, 1) := by decide +kernel
theorem dX6_isOff_7 : decode cX6_isOff 7 = .ok (.ifCond .ne 7, 3) := by decide +kernel
theorem dX6_isOff_10 : decode cX6_isOff 10 = .ok (.iconst 1, 1) := by decide +kernel
theorem dX6_isOff_11 : decode cX6_isOff 11 = .ok (.goto 4, 3) := by decide +kernel
theorem dX6_isOff_14 : decode cX6_isOff 14 = .ok (.iconst 0, 1) := by decide +kernel
theorem dX6_isOff_15 : decode cX6_isOff 15 = .ok (.ireturn, 1) := by decide +kernel
set_option maxRecDepth 20000 in
theorem ggX6_isPlain_X6_isOff : GoodIn wsX6_isPlain wsX6_isOff := goodIn_r _ [6] (by decide +kernel) (by decide +kernel)
set_option maxRecDepth 20000 in
theorem gX6_isPlain_X6_isOff : GoodIn wsX6_isPlain (va_wsS RX6 138 yX6_isOff wsX6_isOff) := goodIn_app (goodIn_of _ (by decide +kernel)) ggX6_isPlain_X6_isOff
theorem dX6_isPlain_0 : decode cX6_isPlain 0 = .ok (.lload_n 2, 1) := by decide +kernel
theorem dX6_isPlain_1 : decode cX6_isPlain 1 = .ok (.iload_n 1, 1) := by decide +kernel
theorem dX6_isPlain_2 : decode cX6_isPlain 2 = .ok (.invokestatic 138, 3) := by decide +kernel
theorem dX6_isPlain_5 : decode cX6_isPlain 5 = .ok (.ifCond .ne 7, 3) := by decide +kernel
theorem dX6_isPlain_8 : decode cX6_isPlain 8 = .ok (.iconst 1, 1) := by decide +kernel
theorem dX6_isPlain_9 : decode cX6_isPlain 9 = .ok (.goto 4, 3) := by decide +kernel
theorem dX6_isPlain_12 : decode cX6_isPlain 12 = .ok (.iconst 0, 1) := by decide +kernel
theorem dX6_isPlain_13 : decode cX6_isPlain 13 = .ok (.istore 4, 2) := by decide +kernel
theorem dX6_isPlain_15 : decode cX6_isPlain 15 = .ok (.iconst 0, 1) := by decide +kernel
theorem dX6_isPlain_16 : decode cX6_isPlain 16 = .ok (.istore 5, 2) := by decide +kernel
theorem dX6_isPlain_18 : decode cX6_isPlain 18 = .ok (.iload 5, 2) := by decide +kernel
theorem dX6_isPlain_20 : decode cX6_isPlain 20 = .ok (.aload_n 0, 1) := by decide +kernel
theorem dX6_isPlain_21 : decode cX6_isPlain 21 = .ok (.getfield 7, 3) := by decide +kernel
theorem dX6_isPlain_24 : decode cX6_isPlain 24 = .ok (.iconst 0, 1) := by decide +kernel
theorem dX6_isPlain_25 : decode cX6_isPlain 25 = .ok (.iaload, 1) := by decide +kernel
theorem dX6_isPlain_26 : decode cX6_isPlain 26 = .ok (.if_icmp .ge 45, 3) := by decide +kernel
theorem dX6_isPlain_29 : decode cX6_isPlain 29 = .ok (.iload 4, 2) := by decide +kernel
theorem dX6_isPlain_31 : decode cX6_isPlain 31 = .ok (.ifCond .eq 31, 3) := by decide +kernel
theorem dX6_isPlain_34 : decode cX6_isPlain 34 = .ok (.aload_n 0, 1) := by decide +kernel
theorem dX6_isPlain_35 : decode cX6_isPlain 35 = .ok (.getfield 19, 3) := by decide +kernel
theorem dX6_isPlain_38 : decode cX6_isPlain 38 = .ok (.bipush 10, 2) := by decide +kernel
theorem dX6_isPlain_40 : decode cX6_isPlain 40 = .ok (.iload 5, 2) := by decide +kernel
theorem dX6_isPlain_42 : decode cX6_isPlain 42 = .ok (.imul, 1) := by decide +kernel
theorem dX6_isPlain_43 : decode cX6_isPlain 43 = .ok (.iload_n 1, 1) := by decide +kernel
theorem dX6_isPlain_44 : decode cX6_isPlain 44 = .ok (.iadd, 1) := by decide +kernel
theorem dX6_isPlain_45 : decode cX6_isPlain 45 = .ok (.baload, 1) := by decide +kernel
theorem dX6_isPlain_46 : decode cX6_isPlain 46 = .ok (.ifCond .eq 12, 3) := by decide +kernel
theorem dX6_isPlain_49 : decode cX6_isPlain 49 = .ok (.lload_n 2, 1) := by decide +kernel
theorem dX6_isPlain_50 : decode cX6_isPlain 50 = .ok (.iload 5, 2) := by decide +kernel
theorem dX6_isPlain_52 : decode cX6_isPlain 52 = .ok (.invokestatic 138, 3) := by decide +kernel
theorem dX6_isPlain_55 : decode cX6_isPlain 55 = .ok (.ifCond .eq 7, 3) := by decide +kernel
theorem dX6_isPlain_58 : decode cX6_isPlain 58 = .ok (.iconst 1, 1) := by decide +kernel
theorem dX6_isPlain_59 : decode cX6_isPlain 59 = .ok (.goto 4, 3) := by decide +kernel
theorem dX6_isPlain_62 : decode cX6_isPlain 62 = .ok (.iconst 0, 1) := by decide +kernel
theorem dX6_isPlain_63 : decode cX6_isPlain 63 = .ok (.istore 4, 2) := by decide +kernel
theorem dX6_isPlain_65 : decode cX6_isPlain 65 = .ok (.iinc 5 1, 3) := by decide +kernel
theorem dX6_isPlain_68 : decode cX6_isPlain 68 = .ok (.goto (-50), 3) := by decide +kernel
theorem dX6_isPlain_71 : decode cX6_isPlain 71 = .ok (.iload 4, 2) := by decide +kernel
theorem dX6_isPlain_73 : decode cX6_isPlain 73 = .ok (.ireturn, 1) := by decide +kernel
set_option maxRecDepth 20000 in
theorem ggX6_isFree_X6_wayAt : GoodIn wsX6_isFree wsX6_wayAt := goodIn_r _ [6] (by decide +kernel) (by decide +kernel)
set_option maxRecDepth 20000 in
theorem gX6_isFree_X6_wayAt : GoodIn wsX6_isFree (va_wsS RX6 61 yX6_wayAt wsX6_wayAt) := goodIn_app (goodIn_of _ (by decide +kernel)) ggX6_isFree_X6_wayAt
set_option maxRecDepth 20000 in
theorem ggX6_isFree_X6_isOff : GoodIn wsX6_isFree wsX6_isOff := goodIn_r _ [9] (by decide +kernel) (by decide +kernel)
set_option maxRecDepth 20000 in
theorem gX6_isFree_X6_isOff : GoodIn wsX6_isFree (va_wsS RX6 138 yX6_isOff wsX6_isOff) := goodIn_app (goodIn_of _ (by decide +kernel)) ggX6_isFree_X6_isOff
set_option maxRecDepth 20000 in
theorem ggX6_isFree_X6_isPlain : GoodIn wsX6_isFree wsX6_isPlain := goodIn_r _ [13, 1, 14, 7, 8, 5, 9, 15, 16, 17, 18, 19, 20, 21, 22, 23, 24, 25, 26, 27, 28, 29, 30, 31, 32] (by decide +kernel) (by decide +kernel)
set_option maxRecDepth 20000 in
theorem gX6_isFree_X6_isPlain : GoodIn wsX6_isFree (wsV RX6 142 RX6 yX6_isPlain wsX6_isPlain) := goodIn_app (goodIn_of _ (by decide +kernel)) ggX6_isFree_X6_isPlain
theorem dX6_isFree_0 : decode cX6_isFree 0 = .ok (.iconst 0, 1) := by decide +kernel
theorem dX6_isFree_1 : decode cX6_isFree 1 = .ok (.istore 4, 2) := by decide +kernel
theorem dX6_isFree_3 : decode cX6_isFree 3 = .ok (.iconst 0, 1) := by decide +kernel
theorem dX6_isFree_4 : decode cX6_isFree 4 = .ok (.istore 5, 2) := by decide +kernel
theorem dX6_isFree_6 : decode cX6_isFree 6 = .ok (.iload 5, 2) := by decide +kernel
theorem dX6_isFree_8 : decode cX6_isFree 8 = .ok (.bipush 6, 2) := by decide +kernel
theorem dX6_isFree_10 : decode cX6_isFree 10 = .ok (.if_icmp .ge 87, 3) := by decide +kernel
theorem dX6_isFree_13 : decode cX6_isFree 13 = .ok (.iconst 1, 1) := by decide +kernel
theorem dX6_isFree_14 : decode cX6_isFree 14 = .ok (.istore 6, 2) := by decide +kernel
theorem dX6_isFree_16 : decode cX6_isFree 16 = .ok (.iconst 0, 1) := by decide +kernel
theorem dX6_isFree_17 : decode cX6_isFree 17 = .ok (.istore 7, 2) := by decide +kernel
theorem dX6_isFree_19 : decode cX6_isFree 19 = .ok (.iload 7, 2) := by decide +kernel
theorem dX6_isFree_21 : decode cX6_isFree 21 = .ok (.aload_n 0, 1) := by decide +kernel
theorem dX6_isFree_22 : decode cX6_isFree 22 = .ok (.getfield 7, 3) := by decide +kernel
theorem dX6_isFree_25 : decode cX6_isFree 25 = .ok (.iconst 0, 1) := by decide +kernel
theorem dX6_isFree_26 : decode cX6_isFree 26 = .ok (.iaload, 1) := by decide +kernel
theorem dX6_isFree_27 : decode cX6_isFree 27 = .ok (.if_icmp .ge 47, 3) := by decide +kernel
theorem dX6_isFree_30 : decode cX6_isFree 30 = .ok (.iload 6, 2) := by decide +kernel
theorem dX6_isFree_32 : decode cX6_isFree 32 = .ok (.ifCond .eq 33, 3) := by decide +kernel
theorem dX6_isFree_35 : decode cX6_isFree 35 = .ok (.aload_n 0, 1) := by decide +kernel
theorem dX6_isFree_36 : decode cX6_isFree 36 = .ok (.getfield 23, 3) := by decide +kernel
theorem dX6_isFree_39 : decode cX6_isFree 39 = .ok (.iconst 0, 1) := by decide +kernel
theorem dX6_isFree_40 : decode cX6_isFree 40 = .ok (.iload_n 1, 1) := by decide +kernel
theorem dX6_isFree_41 : decode cX6_isFree 41 = .ok (.iload 5, 2) := by decide +kernel
theorem dX6_isFree_43 : decode cX6_isFree 43 = .ok (.iload 7, 2) := by decide +kernel
theorem dX6_isFree_45 : decode cX6_isFree 45 = .ok (.invokestatic 61, 3) := by decide +kernel
theorem dX6_isFree_48 : decode cX6_isFree 48 = .ok (.baload, 1) := by decide +kernel
theorem dX6_isFree_49 : decode cX6_isFree 49 = .ok (.ifCond .eq 12, 3) := by decide +kernel
theorem dX6_isFree_52 : decode cX6_isFree 52 = .ok (.lload_n 2, 1) := by decide +kernel
theorem dX6_isFree_53 : decode cX6_isFree 53 = .ok (.iload 7, 2) := by decide +kernel
theorem dX6_isFree_55 : decode cX6_isFree 55 = .ok (.invokestatic 138, 3) := by decide +kernel
theorem dX6_isFree_58 : decode cX6_isFree 58 = .ok (.ifCond .eq 7, 3) := by decide +kernel
theorem dX6_isFree_61 : decode cX6_isFree 61 = .ok (.iconst 1, 1) := by decide +kernel
theorem dX6_isFree_62 : decode cX6_isFree 62 = .ok (.goto 4, 3) := by decide +kernel
theorem dX6_isFree_65 : decode cX6_isFree 65 = .ok (.iconst 0, 1) := by decide +kernel
theorem dX6_isFree_66 : decode cX6_isFree 66 = .ok (.istore 6, 2) := by decide +kernel
theorem dX6_isFree_68 : decode cX6_isFree 68 = .ok (.iinc 7 1, 3) := by decide +kernel
theorem dX6_isFree_71 : decode cX6_isFree 71 = .ok (.goto (-52), 3) := by decide +kernel
theorem dX6_isFree_74 : decode cX6_isFree 74 = .ok (.iload 4, 2) := by decide +kernel
theorem dX6_isFree_76 : decode cX6_isFree 76 = .ok (.ifCond .ne 8, 3) := by decide +kernel
theorem dX6_isFree_79 : decode cX6_isFree 79 = .ok (.iload 6, 2) := by decide +kernel
theorem dX6_isFree_81 : decode cX6_isFree 81 = .ok (.ifCond .eq 7, 3) := by decide +kernel
theorem dX6_isFree_84 : decode cX6_isFree 84 = .ok (.iconst 1, 1) := by decide +kernel
theorem dX6_isFree_85 : decode cX6_isFree 85 = .ok (.goto 4, 3) := by decide +kernel
theorem dX6_isFree_88 : decode cX6_isFree 88 = .ok (.iconst 0, 1) := by decide +kernel
theorem dX6_isFree_89 : decode cX6_isFree 89 = .ok (.istore 4, 2) := by decide +kernel
theorem dX6_isFree_91 : decode cX6_isFree 91 = .ok (.iinc 5 1, 3) := by decide +kernel
theorem dX6_isFree_94 : decode cX6_isFree 94 = .ok (.goto (-88), 3) := by decide +kernel
theorem dX6_isFree_97 : decode cX6_isFree 97 = .ok (.iload 4, 2) := by decide +kernel
theorem dX6_isFree_99 : decode cX6_isFree 99 = .ok (.ifCond .eq 16, 3) := by decide +kernel
theorem dX6_isFree_102 : decode cX6_isFree 102 = .ok (.aload_n 0, 1) := by decide +kernel
theorem dX6_isFree_103 : decode cX6_isFree 103 = .ok (.iload_n 1, 1) := by decide +kernel
theorem dX6_isFree_104 : decode cX6_isFree 104 = .ok (.lload_n 2, 1) := by decide +kernel
theorem dX6_isFree_105 : decode cX6_isFree 105 = .ok (.invokevirtual 142, 3) := by decide +kernel
theorem dX6_isFree_108 : decode cX6_isFree 108 = .ok (.ifCond .eq 7, 3) := by decide +kernel
theorem dX6_isFree_111 : decode cX6_isFree 111 = .ok (.iconst 1, 1) := by decide +kernel
theorem dX6_isFree_112 : decode cX6_isFree 112 = .ok (.goto 4, 3) := by decide +kernel
theorem dX6_isFree_115 : decode cX6_isFree 115 = .ok (.iconst 0, 1) := by decide +kernel
theorem dX6_isFree_116 : decode cX6_isFree 116 = .ok (.ireturn, 1) := by decide +kernel
set_option maxRecDepth 20000 in
theorem ggX6_free_X6_isPart : GoodIn wsX6_free wsX6_isPart := goodIn_r _ [6, 7, 24, 25, 26, 27, 28, 29, 30, 31, 32, 33, 34, 35, 36, 37, 38, 39, 40, 41] (by decide +kernel) (by decide +kernel)
set_option maxRecDepth 20000 in
theorem gX6_free_X6_isPart : GoodIn wsX6_free (wsV RX6 57 RX6 yX6_isPart wsX6_isPart) := goodIn_app (goodIn_of _ (by decide +kernel)) ggX6_free_X6_isPart
set_option maxRecDepth 20000 in
theorem ggX6_free_X6_isFree : GoodIn wsX6_free wsX6_isFree := goodIn_r _ [11, 7, 12, 13, 14, 5, 15, 16, 17, 18, 19, 20, 21, 22, 23, 24, 25, 26, 27, 28, 29, 30, 31, 32, 33, 34, 35, 36, 37, 38, 39, 40, 41] (by decide +kernel) (by decide +kernel)
set_option maxRecDepth 20000 in
theorem gX6_free_X6_isFree : GoodIn wsX6_free (wsV RX6 146 RX6 yX6_isFree wsX6_isFree) := goodIn_app (goodIn_of _ (by decide +kernel)) ggX6_free_X6_isFree
theorem dX6_free_0 : decode cX6_free 0 = .ok (.aload_n 0, 1) := by decide +kernel
theorem dX6_free_1 : decode cX6_free 1 = .ok (.iconst 0, 1) := by decide +kernel
theorem dX6_free_2 : decode cX6_free 2 = .ok (.putfield 52, 3) := by decide +kernel
theorem dX6_free_5 : decode cX6_free 5 = .ok (.aload_n 0, 1) := by decide +kernel
theorem dX6_free_6 : decode cX6_free 6 = .ok (.iconst 0, 1) := by decide +kernel
theorem dX6_free_7 : decode cX6_free 7 = .ok (.iload_n 1, 1) := by decide +kernel
theorem dX6_free_8 : decode cX6_free 8 = .ok (.invokevirtual 57, 3) := by decide +kernel
theorem dX6_free_11 : decode cX6_free 11 = .ok (.ifCond .eq 16, 3) := by decide +kernel
theorem dX6_free_14 : decode cX6_free 14 = .ok (.aload_n 0, 1) := by decide +kernel
theorem dX6_free_15 : decode cX6_free 15 = .ok (.iload_n 1, 1) := by decide +kernel
theorem dX6_free_16 : decode cX6_free 16 = .ok (.lload_n 2, 1) := by decide +kernel
theorem dX6_free_17 : decode cX6_free 17 = .ok (.invokevirtual 146, 3) := by decide +kernel
theorem dX6_free_20 : decode cX6_free 20 = .ok (.ifCond .eq 7, 3) := by decide +kernel
theorem dX6_free_23 : decode cX6_free 23 = .ok (.iconst 1, 1) := by decide +kernel
theorem dX6_free_24 : decode cX6_free 24 = .ok (.goto 4, 3) := by decide +kernel
theorem dX6_free_27 : decode cX6_free 27 = .ok (.iconst 0, 1) := by decide +kernel
theorem dX6_free_28 : decode cX6_free 28 = .ok (.ireturn, 1) := by decide +kernel
set_option maxRecDepth 20000 in
theorem ggX6_plain_X6_isPart : GoodIn wsX6_plain wsX6_isPart := goodIn_r _ [6, 7, 16, 17, 18, 19, 20, 21, 22, 23, 24, 25, 26, 27, 28, 29, 30, 31, 32, 33] (by decide +kernel) (by decide +kernel)
set_option maxRecDepth 20000 in
theorem gX6_plain_X6_isPart : GoodIn wsX6_plain (wsV RX6 57 RX6 yX6_isPart wsX6_isPart) := goodIn_app (goodIn_of _ (by decide +kernel)) ggX6_plain_X6_isPart
set_option maxRecDepth 20000 in
theorem ggX6_plain_X6_isPlain : GoodIn wsX6_plain wsX6_isPlain := goodIn_r _ [11, 7, 12, 13, 14, 5, 15, 16, 17, 18, 19, 20, 21, 22, 23, 24, 25, 26, 27, 28, 29, 30, 31, 32, 33] (by decide +kernel) (by decide +kernel)
set_option maxRecDepth 20000 in
theorem gX6_plain_X6_isPlain : GoodIn wsX6_plain (wsV RX6 142 RX6 yX6_isPlain wsX6_isPlain) := goodIn_app (goodIn_of _ (by decide +kernel)) ggX6_plain_X6_isPlain
theorem dX6_plain_0 : decode cX6_plain 0 = .ok (.aload_n 0, 1) := by decide +kernel
theorem dX6_plain_1 : decode cX6_plain 1 = .ok (.iconst 0, 1) := by decide +kernel
theorem dX6_plain_2 : decode cX6_plain 2 = .ok (.putfield 52, 3) := by decide +kernel
theorem dX6_plain_5 : decode cX6_plain 5 = .ok (.aload_n 0, 1) := by decide +kernel
theorem dX6_plain_6 : decode cX6_plain 6 = .ok (.iconst 0, 1) := by decide +kernel
theorem dX6_plain_7 : decode cX6_plain 7 = .ok (.iload_n 1, 1) := by decide +kernel
theorem dX6_plain_8 : decode cX6_plain 8 = .ok (.invokevirtual 57, 3) := by decide +kernel
theorem dX6_plain_11 : decode cX6_plain 11 = .ok (.ifCond .eq 16, 3) := by decide +kernel
theorem dX6_plain_14 : decode cX6_plain 14 = .ok (.aload_n 0, 1) := by decide +kernel
theorem dX6_plain_15 : decode cX6_plain 15 = .ok (.iload_n 1, 1) := by decide +kernel
theorem dX6_plain_16 : decode cX6_plain 16 = .ok (.lload_n 2, 1) := by decide +kernel
theorem dX6_plain_17 : decode cX6_plain 17 = .ok (.invokevirtual 142, 3) := by decide +kernel
theorem dX6_plain_20 : decode cX6_plain 20 = .ok (.ifCond .eq 7, 3) := by decide +kernel
theorem dX6_plain_23 : decode cX6_plain 23 = .ok (.iconst 1, 1) := by decide +kernel
theorem dX6_plain_24 : decode cX6_plain 24 = .ok (.goto 4, 3) := by decide +kernel
theorem dX6_plain_27 : decode cX6_plain 27 = .ok (.iconst 0, 1) := by decide +kernel
theorem dX6_plain_28 : decode cX6_plain 28 = .ok (.ireturn, 1) := by decide +kernel
set_option maxRecDepth 20000 in
theorem ggX6_allOff_X6_isFree : GoodIn wsX6_allOff wsX6_isFree := goodIn_r _ [6, 1, 7, 8, 9, 5, 10, 11, 12, 13, 14, 15, 16, 17, 18, 19, 20, 21, 22, 23, 24, 25, 26, 27, 28, 29, 30, 31, 32, 33, 34, 35, 36] (by decide +kernel) (by decide +kernel)
set_option maxRecDepth 20000 in
theorem gX6_allOff_X6_isFree : GoodIn wsX6_allOff (wsV RX6 146 RX6 yX6_isFree wsX6_isFree) := goodIn_app (goodIn_of _ (by decide +kernel)) ggX6_allOff_X6_isFree
theorem dX6_allOff_0 : decode cX6_allOff 0 = .ok (.lconst 0, 1) := by decide +kernel
theorem dX6_allOff_1 : decode cX6_allOff 1 = .ok (.lstore_n 2, 1) := by decide +kernel
theorem dX6_allOff_2 : decode cX6_allOff 2 = .ok (.iconst 0, 1) := by decide +kernel
theorem dX6_allOff_3 : decode cX6_allOff 3 = .ok (.istore 4, 2) := by decide +kernel
theorem dX6_allOff_5 : decode cX6_allOff 5 = .ok (.iload 4, 2) := by decide +kernel
theorem dX6_allOff_7 : decode cX6_allOff 7 = .ok (.bipush 10, 2) := by decide +kernel
theorem dX6_allOff_9 : decode cX6_allOff 9 = .ok (.if_icmp .ge 56, 3) := by decide +kernel
theorem dX6_allOff_12 : decode cX6_allOff 12 = .ok (.iconst 0, 1) := by decide +kernel
theorem dX6_allOff_13 : decode cX6_allOff 13 = .ok (.istore 5, 2) := by decide +kernel
theorem dX6_allOff_15 : decode cX6_allOff 15 = .ok (.iload 5, 2) := by decide +kernel
theorem dX6_allOff_17 : decode cX6_allOff 17 = .ok (.aload_n 0, 1) := by decide +kernel
theorem dX6_allOff_18 : decode cX6_allOff 18 = .ok (.getfield 7, 3) := by decide +kernel
theorem dX6_allOff_21 : decode cX6_allOff 21 = .ok (.iconst 0, 1) := by decide +kernel
theorem dX6_allOff_22 : decode cX6_allOff 22 = .ok (.iaload, 1) := by decide +kernel
theorem dX6_allOff_23 : decode cX6_allOff 23 = .ok (.if_icmp .ge 36, 3) := by decide +kernel
theorem dX6_allOff_26 : decode cX6_allOff 26 = .ok (.lload_n 2, 1) := by decide +kernel
theorem dX6_allOff_27 : decode cX6_allOff 27 = .ok (.iload 5, 2) := by decide +kernel
theorem dX6_allOff_29 : decode cX6_allOff 29 = .ok (.iload_n 1, 1) := by decide +kernel
theorem dX6_allOff_30 : decode cX6_allOff 30 = .ok (.if_icmp .eq 20, 3) := by decide +kernel
theorem dX6_allOff_33 : decode cX6_allOff 33 = .ok (.aload_n 0, 1) := by decide +kernel
theorem dX6_allOff_34 : decode cX6_allOff 34 = .ok (.iload 5, 2) := by decide +kernel
theorem dX6_allOff_36 : decode cX6_allOff 36 = .ok (.lload_n 2, 1) := by decide +kernel
theorem dX6_allOff_37 : decode cX6_allOff 37 = .ok (.invokevirtual 146, 3) := by decide +kernel
theorem dX6_allOff_40 : decode cX6_allOff 40 = .ok (.ifCond .eq 10, 3) := by decide +kernel
theorem dX6_allOff_43 : decode cX6_allOff 43 = .ok (.lconst 1, 1) := by decide +kernel
theorem dX6_allOff_44 : decode cX6_allOff 44 = .ok (.iload 5, 2) := by decide +kernel
theorem dX6_allOff_46 : decode cX6_allOff 46 = .ok (.lshl, 1) := by decide +kernel
theorem dX6_allOff_47 : decode cX6_allOff 47 = .ok (.goto 4, 3) := by decide +kernel
theorem dX6_allOff_50 : decode cX6_allOff 50 = .ok (.lconst 0, 1) := by decide +kernel
theorem dX6_allOff_51 : decode cX6_allOff 51 = .ok (.lor, 1) := by decide +kernel
theorem dX6_allOff_52 : decode cX6_allOff 52 = .ok (.lstore_n 2, 1) := by decide +kernel
theorem dX6_allOff_53 : decode cX6_allOff 53 = .ok (.iinc 5 1, 3) := by decide +kernel
theorem dX6_allOff_56 : decode cX6_allOff 56 = .ok (.goto (-41), 3) := by decide +kernel
theorem dX6_allOff_59 : decode cX6_allOff 59 = .ok (.iinc 4 1, 3) := by decide +kernel
theorem dX6_allOff_62 : decode cX6_allOff 62 = .ok (.goto (-57), 3) := by decide +kernel
theorem dX6_allOff_65 : decode cX6_allOff 65 = .ok (.lload_n 2, 1) := by decide +kernel
theorem dX6_allOff_66 : decode cX6_allOff 66 = .ok (.lreturn, 1) := by decide +kernel
set_option maxRecDepth 20000 in
theorem ggX6_before_X6_isPart : GoodIn wsX6_before wsX6_isPart := goodIn_r _ [7, 2, 28, 29, 30, 31, 32, 33, 34, 35, 36, 37, 38, 39, 40, 41, 42, 43, 44, 45] (by decide +kernel) (by decide +kernel)
set_option maxRecDepth 20000 in
theorem gX6_before_X6_isPart : GoodIn wsX6_before (wsV RX6 57 RX6 yX6_isPart wsX6_isPart) := goodIn_app (goodIn_of _ (by decide +kernel)) ggX6_before_X6_isPart
set_option maxRecDepth 20000 in
theorem ggX6_before_X6_allOff : GoodIn wsX6_before wsX6_allOff := goodIn_r _ [11, 2, 12, 13, 14, 6, 15, 16, 17, 18, 19, 20, 21, 22, 23, 24, 25, 26, 27, 28, 29, 30, 31, 32, 33, 34, 35, 36, 37, 38, 39, 40, 41, 42, 43, 44, 45] (by decide +kernel) (by decide +kernel)
set_option maxRecDepth 20000 in
theorem gX6_before_X6_allOff : GoodIn wsX6_before (wsV RX6 149 RX6 yX6_allOff wsX6_allOff) := goodIn_app (goodIn_of _ (by decide +kernel)) ggX6_before_X6_allOff
set_option maxRecDepth 20000 in
theorem ggX6_before_X6_isOff : GoodIn wsX6_before wsX6_isOff := goodIn_r _ [22] (by decide +kernel) (by decide +kernel)
set_option maxRecDepth 20000 in
theorem gX6_before_X6_isOff : GoodIn wsX6_before (va_wsS RX6 138 yX6_isOff wsX6_isOff) := goodIn_app (goodIn_of _ (by decide +kernel)) ggX6_before_X6_isOff
theorem dX6_before_0 : decode cX6_before 0 = .ok (.aload_n 0, 1) := by decide +kernel
theorem dX6_before_1 : decode cX6_before 1 = .ok (.iconst 0, 1) := by decide +kernel
theorem dX6_before_2 : decode cX6_before 2 = .ok (.putfield 52, 3) := by decide +kernel
theorem dX6_before_5 : decode cX6_before 5 = .ok (.aload_n 0, 1) := by decide +kernel
theorem dX6_before_6 : decode cX6_before 6 = .ok (.iconst 0, 1) := by decide +kernel
theorem dX6_before_7 : decode cX6_before 7 = .ok (.iload_n 1, 1) := by decide +kernel
theorem dX6_before_8 : decode cX6_before 8 = .ok (.invokevirtual 57, 3) := by decide +kernel
theorem dX6_before_11 : decode cX6_before 11 = .ok (.ifCond .eq 15, 3) := by decide +kernel
theorem dX6_before_14 : decode cX6_before 14 = .ok (.aload_n 0, 1) := by decide +kernel
theorem dX6_before_15 : decode cX6_before 15 = .ok (.iconst (-1), 1) := by decide +kernel
theorem dX6_before_16 : decode cX6_before 16 = .ok (.invokevirtual 149, 3) := by decide +kernel
theorem dX6_before_19 : decode cX6_before 19 = .ok (.iload_n 1, 1) := by decide +kernel
theorem dX6_before_20 : decode cX6_before 20 = .ok (.invokestatic 138, 3) := by decide +kernel
theorem dX6_before_23 : decode cX6_before 23 = .ok (.ifCond .ne 5, 3) := by decide +kernel
theorem dX6_before_26 : decode cX6_before 26 = .ok (.iconst (-1), 1) := by decide +kernel
theorem dX6_before_27 : decode cX6_before 27 = .ok (.ireturn, 1) := by decide +kernel
theorem dX6_before_28 : decode cX6_before 28 = .ok (.iconst 0, 1) := by decide +kernel
theorem dX6_before_29 : decode cX6_before 29 = .ok (.istore_n 3, 1) := by decide +kernel
theorem dX6_before_30 : decode cX6_before 30 = .ok (.iconst 0, 1) := by decide +kernel
theorem dX6_before_31 : decode cX6_before 31 = .ok (.istore 4, 2) := by decide +kernel
theorem dX6_before_33 : decode cX6_before 33 = .ok (.iload 4, 2) := by decide +kernel
theorem dX6_before_35 : decode cX6_before 35 = .ok (.aload_n 0, 1) := by decide +kernel
theorem dX6_before_36 : decode cX6_before 36 = .ok (.getfield 7, 3) := by decide +kernel
theorem dX6_before_39 : decode cX6_before 39 = .ok (.iconst 0, 1) := by decide +kernel
theorem dX6_before_40 : decode cX6_before 40 = .ok (.iaload, 1) := by decide +kernel
theorem dX6_before_41 : decode cX6_before 41 = .ok (.if_icmp .ge 39, 3) := by decide +kernel
theorem dX6_before_44 : decode cX6_before 44 = .ok (.iload 4, 2) := by decide +kernel
theorem dX6_before_46 : decode cX6_before 46 = .ok (.iload_n 1, 1) := by decide +kernel
theorem dX6_before_47 : decode cX6_before 47 = .ok (.if_icmp .eq 27, 3) := by decide +kernel
theorem dX6_before_50 : decode cX6_before 50 = .ok (.aload_n 0, 1) := by decide +kernel
theorem dX6_before_51 : decode cX6_before 51 = .ok (.iload 4, 2) := by decide +kernel
theorem dX6_before_53 : decode cX6_before 53 = .ok (.invokevirtual 149, 3) := by decide +kernel
theorem dX6_before_56 : decode cX6_before 56 = .ok (.iload_n 1, 1) := by decide +kernel
theorem dX6_before_57 : decode cX6_before 57 = .ok (.invokestatic 138, 3) := by decide +kernel
theorem dX6_before_60 : decode cX6_before 60 = .ok (.ifCond .ne 14, 3) := by decide +kernel
theorem dX6_before_63 : decode cX6_before 63 = .ok (.iload_n 3, 1) := by decide +kernel
theorem dX6_before_64 : decode cX6_before 64 = .ok (.iload_n 2, 1) := by decide +kernel
theorem dX6_before_65 : decode cX6_before 65 = .ok (.if_icmp .ne 6, 3) := by decide +kernel
theorem dX6_before_68 : decode cX6_before 68 = .ok (.iload 4, 2) := by decide +kernel
theorem dX6_before_70 : decode cX6_before 70 = .ok (.ireturn, 1) := by decide +kernel
theorem dX6_before_71 : decode cX6_before 71 = .ok (.iinc 3 1, 3) := by decide +kernel
theorem dX6_before_74 : decode cX6_before 74 = .ok (.iinc 4 1, 3) := by decide +kernel
theorem dX6_before_77 : decode cX6_before 77 = .ok (.goto (-44), 3) := by decide +kernel
theorem dX6_before_80 : decode cX6_before 80 = .ok (.iconst (-1), 1) := by decide +kernel
theorem dX6_before_81 : decode cX6_before 81 = .ok (.ireturn, 1) := by decide +kernel
set_option maxRecDepth 20000 in
theorem ggX6_ring_X6_allOff : GoodIn wsX6_ring wsX6_allOff := goodIn_r _ [7, 2, 8, 9, 10, 6, 11, 12, 13, 14, 15, 16, 17, 18, 19, 20, 21, 22, 23, 24, 25, 26, 27, 28, 29, 30, 31, 32, 33, 34, 35, 36, 37, 38, 39, 40, 41] (by decide +kernel) (by decide +kernel)
set_option maxRecDepth 20000 in
theorem gX6_ring_X6_allOff : GoodIn wsX6_ring (wsV RX6 149 RX6 yX6_allOff wsX6_allOff) := goodIn_app (goodIn_of _ (by decide +kernel)) ggX6_ring_X6_allOff
set_option maxRecDepth 20000 in
theorem ggX6_ring_X6_isOff : GoodIn wsX6_ring wsX6_isOff := goodIn_r _ [18] (by decide +kernel) (by decide +kernel)
set_option maxRecDepth 20000 in
theorem gX6_ring_X6_isOff : GoodIn wsX6_ring (va_wsS RX6 138 yX6_isOff wsX6_isOff) := goodIn_app (goodIn_of _ (by decide +kernel)) ggX6_ring_X6_isOff
theorem dX6_ring_0 : decode cX6_ring 0 = .ok (.aload_n 0, 1) := by decide +kernel
theorem dX6_ring_1 : decode cX6_ring 1 = .ok (.iconst 0, 1) := by decide +kernel
theorem dX6_ring_2 : decode cX6_ring 2 = .ok (.putfield 52, 3) := by decide +kernel
theorem dX6_ring_5 : decode cX6_ring 5 = .ok (.aload_n 0, 1) := by decide +kernel
theorem dX6_ring_6 : decode cX6_ring 6 = .ok (.iconst (-1), 1) := by decide +kernel
theorem dX6_ring_7 : decode cX6_ring 7 = .ok (.invokevirtual 149, 3) := by decide +kernel
theorem dX6_ring_10 : decode cX6_ring 10 = .ok (.lstore_n 2, 1) := by decide +kernel
theorem dX6_ring_11 : decode cX6_ring 11 = .ok (.iconst 0, 1) := by decide +kernel
theorem dX6_ring_12 : decode cX6_ring 12 = .ok (.istore 4, 2) := by decide +kernel
theorem dX6_ring_14 : decode cX6_ring 14 = .ok (.iconst 0, 1) := by decide +kernel
theorem dX6_ring_15 : decode cX6_ring 15 = .ok (.istore 5, 2) := by decide +kernel
theorem dX6_ring_17 : decode cX6_ring 17 = .ok (.iload 5, 2) := by decide +kernel
theorem dX6_ring_19 : decode cX6_ring 19 = .ok (.aload_n 0, 1) := by decide +kernel
theorem dX6_ring_20 : decode cX6_ring 20 = .ok (.getfield 7, 3) := by decide +kernel
theorem dX6_ring_23 : decode cX6_ring 23 = .ok (.iconst 0, 1) := by decide +kernel
theorem dX6_ring_24 : decode cX6_ring 24 = .ok (.iaload, 1) := by decide +kernel
theorem dX6_ring_25 : decode cX6_ring 25 = .ok (.if_icmp .ge 30, 3) := by decide +kernel
theorem dX6_ring_28 : decode cX6_ring 28 = .ok (.lload_n 2, 1) := by decide +kernel
theorem dX6_ring_29 : decode cX6_ring 29 = .ok (.iload 5, 2) := by decide +kernel
theorem dX6_ring_31 : decode cX6_ring 31 = .ok (.invokestatic 138, 3) := by decide +kernel
theorem dX6_ring_34 : decode cX6_ring 34 = .ok (.ifCond .ne 15, 3) := by decide +kernel
theorem dX6_ring_37 : decode cX6_ring 37 = .ok (.iload 4, 2) := by decide +kernel
theorem dX6_ring_39 : decode cX6_ring 39 = .ok (.iload_n 1, 1) := by decide +kernel
theorem dX6_ring_40 : decode cX6_ring 40 = .ok (.if_icmp .ne 6, 3) := by decide +kernel
theorem dX6_ring_43 : decode cX6_ring 43 = .ok (.iload 5, 2) := by decide +kernel
theorem dX6_ring_45 : decode cX6_ring 45 = .ok (.ireturn, 1) := by decide +kernel
theorem dX6_ring_46 : decode cX6_ring 46 = .ok (.iinc 4 1, 3) := by decide +kernel
theorem dX6_ring_49 : decode cX6_ring 49 = .ok (.iinc 5 1, 3) := by decide +kernel
theorem dX6_ring_52 : decode cX6_ring 52 = .ok (.goto (-35), 3) := by decide +kernel
theorem dX6_ring_55 : decode cX6_ring 55 = .ok (.iconst (-1), 1) := by decide +kernel
theorem dX6_ring_56 : decode cX6_ring 56 = .ok (.ireturn, 1) := by decide +kernel
theorem dX6_sizeOf_0 : decode cX6_sizeOf 0 = .ok (.iconst 0, 1) := by decide +kernel
theorem dX6_sizeOf_1 : decode cX6_sizeOf 1 = .ok (.istore_n 2, 1) := by decide +kernel
theorem dX6_sizeOf_2 : decode cX6_sizeOf 2 = .ok (.iconst 0, 1) := by decide +kernel
theorem dX6_sizeOf_3 : decode cX6_sizeOf 3 = .ok (.istore_n 3, 1) := by decide +kernel
theorem dX6_sizeOf_4 : decode cX6_sizeOf 4 = .ok (.iload_n 3, 1) := by decide +kernel
theorem dX6_sizeOf_5 : decode cX6_sizeOf 5 = .ok (.aload_n 0, 1) := by decide +kernel
theorem dX6_sizeOf_6 : decode cX6_sizeOf 6 = .ok (.getfield 7, 3) := by decide +kernel
theorem dX6_sizeOf_9 : decode cX6_sizeOf 9 = .ok (.iconst 0, 1) := by decide +kernel
theorem dX6_sizeOf_10 : decode cX6_sizeOf 10 = .ok (.iaload, 1) := by decide +kernel
theorem dX6_sizeOf_11 : decode cX6_sizeOf 11 = .ok (.if_icmp .ge 27, 3) := by decide +kernel
theorem dX6_sizeOf_14 : decode cX6_sizeOf 14 = .ok (.iload_n 2, 1) := by decide +kernel
theorem dX6_sizeOf_15 : decode cX6_sizeOf 15 = .ok (.aload_n 0, 1) := by decide +kernel
theorem dX6_sizeOf_16 : decode cX6_sizeOf 16 = .ok (.getfield 35, 3) := by decide +kernel
theorem dX6_sizeOf_19 : decode cX6_sizeOf 19 = .ok (.iload_n 3, 1) := by decide +kernel
