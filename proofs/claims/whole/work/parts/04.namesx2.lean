theorem dX2_init_0 : decode cX2_init 0 = .ok (.aload_n 0, 1) := by decide +kernel
theorem dX2_init_1 : decode cX2_init 1 = .ok (.invokespecial 3, 3) := by decide +kernel
theorem dX2_init_4 : decode cX2_init 4 = .ok (.aload_n 0, 1) := by decide +kernel
theorem dX2_init_5 : decode cX2_init 5 = .ok (.sipush 2000, 3) := by decide +kernel
theorem dX2_init_8 : decode cX2_init 8 = .ok (.newarray .char, 2) := by decide +kernel
theorem dX2_init_10 : decode cX2_init 10 = .ok (.putfield 9, 3) := by decide +kernel
theorem dX2_init_13 : decode cX2_init 13 = .ok (.aload_n 0, 1) := by decide +kernel
theorem dX2_init_14 : decode cX2_init 14 = .ok (.iconst 3, 1) := by decide +kernel
theorem dX2_init_15 : decode cX2_init 15 = .ok (.newarray .int, 2) := by decide +kernel
theorem dX2_init_17 : decode cX2_init 17 = .ok (.putfield 15, 3) := by decide +kernel
theorem dX2_init_20 : decode cX2_init 20 = .ok (.return_, 1) := by decide +kernel
theorem dX2_take_0 : decode cX2_take 0 = .ok (.iload_n 1, 1) := by decide +kernel
theorem dX2_take_1 : decode cX2_take 1 = .ok (.ifCond .lt 20, 3) := by decide +kernel
theorem dX2_take_4 : decode cX2_take 4 = .ok (.iload_n 1, 1) := by decide +kernel
theorem dX2_take_5 : decode cX2_take 5 = .ok (.sipush 255, 3) := by decide +kernel
theorem dX2_take_8 : decode cX2_take 8 = .ok (.if_icmp .gt 13, 3) := by decide +kernel
theorem dX2_take_11 : decode cX2_take 11 = .ok (.aload_n 0, 1) := by decide +kernel
theorem dX2_take_12 : decode cX2_take 12 = .ok (.getfield 19, 3) := by decide +kernel
theorem dX2_take_15 : decode cX2_take 15 = .ok (.sipush 2000, 3) := by decide +kernel
theorem dX2_take_18 : decode cX2_take 18 = .ok (.if_icmp .lt 5, 3) := by decide +kernel
theorem dX2_take_21 : decode cX2_take 21 = .ok (.iconst 0, 1) := by decide +kernel
theorem dX2_take_22 : decode cX2_take 22 = .ok (.ireturn, 1) := by decide +kernel
theorem dX2_take_23 : decode cX2_take 23 = .ok (.aload_n 0, 1) := by decide +kernel
theorem dX2_take_24 : decode cX2_take 24 = .ok (.getfield 9, 3) := by decide +kernel
theorem dX2_take_27 : decode cX2_take 27 = .ok (.aload_n 0, 1) := by decide +kernel
theorem dX2_take_28 : decode cX2_take 28 = .ok (.getfield 19, 3) := by decide +kernel
theorem dX2_take_31 : decode cX2_take 31 = .ok (.iload_n 1, 1) := by decide +kernel
theorem dX2_take_32 : decode cX2_take 32 = .ok (.i2c, 1) := by decide +kernel
theorem dX2_take_33 : decode cX2_take 33 = .ok (.castore, 1) := by decide +kernel
theorem dX2_take_34 : decode cX2_take 34 = .ok (.aload_n 0, 1) := by decide +kernel
theorem dX2_take_35 : decode cX2_take 35 = .ok (.dup, 1) := by decide +kernel
theorem dX2_take_36 : decode cX2_take 36 = .ok (.getfield 19, 3) := by decide +kernel
theorem dX2_take_39 : decode cX2_take 39 = .ok (.iconst 1, 1) := by decide +kernel
theorem dX2_take_40 : decode cX2_take 40 = .ok (.iadd, 1) := by decide +kernel
theorem dX2_take_41 : decode cX2_take 41 = .ok (.putfield 19, 3) := by decide +kernel
theorem dX2_take_44 : decode cX2_take 44 = .ok (.iconst 1, 1) := by decide +kernel
theorem dX2_take_45 : decode cX2_take 45 = .ok (.ireturn, 1) := by decide +kernel
theorem dX2_clear_0 : decode cX2_clear 0 = .ok (.aload_n 0, 1) := by decide +kernel
theorem dX2_clear_1 : decode cX2_clear 1 = .ok (.iconst 0, 1) := by decide +kernel
theorem dX2_clear_2 : decode cX2_clear 2 = .ok (.putfield 19, 3) := by decide +kernel
theorem dX2_clear_5 : decode cX2_clear 5 = .ok (.return_, 1) := by decide +kernel
theorem dX2_wordBegin_0 : decode cX2_wordBegin 0 = .ok (.aload_n 0, 1) := by decide +kernel
theorem dX2_wordBegin_1 : decode cX2_wordBegin 1 = .ok (.getfield 23, 3) := by decide +kernel
theorem dX2_wordBegin_4 : decode cX2_wordBegin 4 = .ok (.ireturn, 1) := by decide +kernel
set_option maxRecDepth 20000 in
theorem ggX2_readAll_X2_findWord : GoodIn wsX2_readAll wsX2_findWord := goodIn_r _ [7, 2, 1, 8, 9, 10, 11, 6, 12, 13, 188, 189, 190, 191, 192] (by decide +kernel) (by decide +kernel)
set_option maxRecDepth 20000 in
theorem gX2_readAll_X2_findWord : GoodIn wsX2_readAll (wsV RX2 29 RX2 yX2_findWord wsX2_findWord) := goodIn_app (goodIn_of _ (by decide +kernel)) ggX2_readAll_X2_findWord
set_option maxRecDepth 20000 in
theorem ggX2_readAll_X2_readSentence : GoodIn wsX2_readAll wsX2_readSentence := goodIn_r _ [17, 18, 19, 20, 21, 22, 6, 23, 24, 25, 26, 27, 28, 2, 1, 13, 29, 30, 31, 32, 33, 34, 35, 36, 37, 38, 39, 40, 41, 42, 43, 44, 45, 46, 47, 48, 49, 50, 51, 52, 53, 54, 55, 56, 57, 58, 59, 60, 61, 62, 63, 64, 65, 66, 67, 68, 69, 70, 71, 72, 73, 74, 75, 76, 77, 78, 79, 80, 81, 82, 83, 84, 85, 86, 87, 88, 89, 90, 91, 92, 93, 94, 95, 96, 97, 98, 99, 100, 101, 102, 103, 104, 105, 106, 107, 108, 109, 110, 111, 112, 113, 114, 115, 116, 117, 118, 119, 120, 121, 122, 123, 124, 125, 126, 127, 128, 129, 130, 131, 132, 133, 134, 135, 136, 137, 138, 139, 140, 141, 142, 143, 144, 145, 3, 4, 5, 7, 8, 9, 10, 11, 12, 146, 147, 148, 149, 150, 151, 152, 153, 154, 155, 156, 157, 158, 159, 160, 161, 162, 163, 164, 165, 166, 167, 168, 169, 170, 171, 172, 173, 174, 175, 176, 177, 178, 179, 180, 181, 182, 183, 184, 185, 186, 187, 188, 189, 190, 191, 192, 193, 194, 195, 196, 197, 198, 199, 200, 201, 202, 203, 204] (by decide +kernel) (by decide +kernel)
set_option maxRecDepth 20000 in
theorem gX2_readAll_X2_readSentence : GoodIn wsX2_readAll (wsV RX2 33 RX2 yX2_readSentence wsX2_readSentence) := goodIn_app (goodIn_of _ (by decide +kernel)) ggX2_readAll_X2_readSentence
theorem dX2_readAll_0 : decode cX2_readAll 0 = .ok (.aload_n 0, 1) := by decide +kernel
theorem dX2_readAll_1 : decode cX2_readAll 1 = .ok (.iconst 0, 1) := by decide +kernel
theorem dX2_readAll_2 : decode cX2_readAll 2 = .ok (.putfield 23, 3) := by decide +kernel
theorem dX2_readAll_5 : decode cX2_readAll 5 = .ok (.aload_n 0, 1) := by decide +kernel
theorem dX2_readAll_6 : decode cX2_readAll 6 = .ok (.iconst 0, 1) := by decide +kernel
theorem dX2_readAll_7 : decode cX2_readAll 7 = .ok (.putfield 26, 3) := by decide +kernel
theorem dX2_readAll_10 : decode cX2_readAll 10 = .ok (.iconst 0, 1) := by decide +kernel
theorem dX2_readAll_11 : decode cX2_readAll 11 = .ok (.istore_n 2, 1) := by decide +kernel
theorem dX2_readAll_12 : decode cX2_readAll 12 = .ok (.iload_n 2, 1) := by decide +kernel
theorem dX2_readAll_13 : decode cX2_readAll 13 = .ok (.sipush 2000, 3) := by decide +kernel
theorem dX2_readAll_16 : decode cX2_readAll 16 = .ok (.if_icmp .ge 28, 3) := by decide +kernel
theorem dX2_readAll_19 : decode cX2_readAll 19 = .ok (.aload_n 0, 1) := by decide +kernel
theorem dX2_readAll_20 : decode cX2_readAll 20 = .ok (.invokevirtual 29, 3) := by decide +kernel
theorem dX2_readAll_23 : decode cX2_readAll 23 = .ok (.ifCond .ne 5, 3) := by decide +kernel
theorem dX2_readAll_26 : decode cX2_readAll 26 = .ok (.iconst 1, 1) := by decide +kernel
theorem dX2_readAll_27 : decode cX2_readAll 27 = .ok (.ireturn, 1) := by decide +kernel
theorem dX2_readAll_28 : decode cX2_readAll 28 = .ok (.aload_n 0, 1) := by decide +kernel
theorem dX2_readAll_29 : decode cX2_readAll 29 = .ok (.aload_n 1, 1) := by decide +kernel
theorem dX2_readAll_30 : decode cX2_readAll 30 = .ok (.invokevirtual 33, 3) := by decide +kernel
theorem dX2_readAll_33 : decode cX2_readAll 33 = .ok (.ifCond .ne 5, 3) := by decide +kernel
theorem dX2_readAll_36 : decode cX2_readAll 36 = .ok (.iconst 0, 1) := by decide +kernel
theorem dX2_readAll_37 : decode cX2_readAll 37 = .ok (.ireturn, 1) := by decide +kernel
theorem dX2_readAll_38 : decode cX2_readAll 38 = .ok (.iinc 2 1, 3) := by decide +kernel
theorem dX2_readAll_41 : decode cX2_readAll 41 = .ok (.goto (-29), 3) := by decide +kernel
theorem dX2_readAll_44 : decode cX2_readAll 44 = .ok (.iconst 1, 1) := by decide +kernel
theorem dX2_readAll_45 : decode cX2_readAll 45 = .ok (.ireturn, 1) := by decide +kernel
set_option maxRecDepth 20000 in
theorem ggX2_readSentence_X2_verbHere : GoodIn wsX2_readSentence wsX2_verbHere := goodIn_r _ [7, 8, 9, 10, 11, 6, 12, 13, 14, 15, 16, 17, 18, 19, 20, 21, 22, 23, 24, 25, 26, 27, 28, 29, 30, 31, 32, 33, 34, 35, 36, 37, 38, 39, 40, 41, 42, 43, 44, 45, 46, 47, 48, 49, 50, 51, 52, 53, 54, 55, 56, 57, 58, 59, 60, 61, 62, 63, 64, 184, 185, 186, 187, 188] (by decide +kernel) (by decide +kernel)
set_option maxRecDepth 20000 in
theorem gX2_readSentence_X2_verbHere : GoodIn wsX2_readSentence (wsV RX2 37 RX2 yX2_verbHere wsX2_verbHere) := goodIn_app (goodIn_of _ (by decide +kernel)) ggX2_readSentence_X2_verbHere
set_option maxRecDepth 20000 in
theorem ggX2_readSentence_X2_canGoOn : GoodIn wsX2_readSentence wsX2_canGoOn := goodIn_r _ [68, 1, 2, 69, 70, 71, 72, 73, 74, 75, 76, 77, 78, 79, 80, 81, 82, 83, 84, 85, 86, 87, 88, 89, 90, 91, 92, 93, 94, 95, 96, 97, 98, 99, 100, 101, 102, 103, 104, 105, 106, 107, 108, 109, 110, 111, 112, 113, 114, 115, 116, 117, 118, 119, 120, 121, 122, 123, 124, 125, 126, 127, 128, 129, 130, 131, 132, 65, 66, 67, 6, 184, 185, 186, 187, 188, 189, 190, 191, 192, 193, 194, 195, 196, 197, 198, 199, 200] (by decide +kernel) (by decide +kernel)
set_option maxRecDepth 20000 in
theorem gX2_readSentence_X2_canGoOn : GoodIn wsX2_readSentence (wsV RX2 41 RX2 yX2_canGoOn wsX2_canGoOn) := goodIn_app (goodIn_of _ (by decide +kernel)) ggX2_readSentence_X2_canGoOn
set_option maxRecDepth 20000 in
theorem ggX2_readSentence_X2_findWord : GoodIn wsX2_readSentence wsX2_findWord := goodIn_r _ [136, 13, 14, 137, 138, 139, 140, 6, 141, 15, 184, 185, 186, 187, 188] (by decide +kernel) (by decide +kernel)
set_option maxRecDepth 20000 in
theorem gX2_readSentence_X2_findWord : GoodIn wsX2_readSentence (wsV RX2 29 RX2 yX2_findWord wsX2_findWord) := goodIn_app (goodIn_of _ (by decide +kernel)) ggX2_readSentence_X2_findWord
set_option maxRecDepth 20000 in
theorem ggX2_readSentence_X2_numberHere : GoodIn wsX2_readSentence wsX2_numberHere := goodIn_r _ [145, 13, 14, 15, 184, 185, 186, 187, 188] (by decide +kernel) (by decide +kernel)
set_option maxRecDepth 20000 in
theorem gX2_readSentence_X2_numberHere : GoodIn wsX2_readSentence (wsV RX2 49 RX2 yX2_numberHere wsX2_numberHere) := goodIn_app (goodIn_of _ (by decide +kernel)) ggX2_readSentence_X2_numberHere
set_option maxRecDepth 20000 in
theorem ggX2_readSentence_X1_carryOut : GoodIn wsX2_readSentence wsX1_carryOut := goodIn_r _ [149, 74, 75, 76, 77, 78, 79, 80, 81, 150, 151, 152, 72, 153, 86, 154, 155, 95, 106, 119, 128, 156, 82, 83, 84, 85, 87, 88, 89, 90, 107, 108, 109, 157, 158, 159, 160, 91, 92, 93, 94, 96, 97, 98, 99, 100, 101, 161, 162, 163, 164, 102, 103, 104, 105, 165, 166, 167, 168, 114, 169, 170, 171, 110, 111, 112, 113, 172, 173, 174, 175, 115, 116, 117, 118, 120, 121, 122, 123, 176, 177, 178, 179, 124, 125, 126, 127, 180, 181, 182, 183, 129, 130, 131, 132, 189, 190, 191, 192, 193, 194, 195, 196, 197, 198, 199, 200] (by decide +kernel) (by decide +kernel)
set_option maxRecDepth 20000 in
theorem gX2_readSentence_X1_carryOut : GoodIn wsX2_readSentence (wsV RX2 53 RX1 yX1_carryOut wsX1_carryOut) := goodIn_app (goodIn_of _ (by decide +kernel)) ggX2_readSentence_X1_carryOut
theorem dX2_readSentence_0 : decode cX2_readSentence 0 = .ok (.aload_n 0, 1) := by decide +kernel
theorem dX2_readSentence_1 : decode cX2_readSentence 1 = .ok (.invokevirtual 37, 3) := by decide +kernel
theorem dX2_readSentence_4 : decode cX2_readSentence 4 = .ok (.astore_n 2, 1) := by decide +kernel
theorem dX2_readSentence_5 : decode cX2_readSentence 5 = .ok (.aload_n 2, 1) := by decide +kernel
theorem dX2_readSentence_6 : decode cX2_readSentence 6 = .ok (.ifnull 13, 3) := by decide +kernel
theorem dX2_readSentence_9 : decode cX2_readSentence 9 = .ok (.aload_n 0, 1) := by decide +kernel
theorem dX2_readSentence_10 : decode cX2_readSentence 10 = .ok (.aload_n 1, 1) := by decide +kernel
theorem dX2_readSentence_11 : decode cX2_readSentence 11 = .ok (.aload_n 2, 1) := by decide +kernel
theorem dX2_readSentence_12 : decode cX2_readSentence 12 = .ok (.iconst 0, 1) := by decide +kernel
theorem dX2_readSentence_13 : decode cX2_readSentence 13 = .ok (.invokevirtual 41, 3) := by decide +kernel
theorem dX2_readSentence_16 : decode cX2_readSentence 16 = .ok (.ifCond .ne 5, 3) := by decide +kernel
theorem dX2_readSentence_19 : decode cX2_readSentence 19 = .ok (.iconst 0, 1) := by decide +kernel
theorem dX2_readSentence_20 : decode cX2_readSentence 20 = .ok (.ireturn, 1) := by decide +kernel
theorem dX2_readSentence_21 : decode cX2_readSentence 21 = .ok (.iconst 0, 1) := by decide +kernel
theorem dX2_readSentence_22 : decode cX2_readSentence 22 = .ok (.istore_n 3, 1) := by decide +kernel
theorem dX2_readSentence_23 : decode cX2_readSentence 23 = .ok (.iload_n 3, 1) := by decide +kernel
theorem dX2_readSentence_24 : decode cX2_readSentence 24 = .ok (.aload_n 2, 1) := by decide +kernel
theorem dX2_readSentence_25 : decode cX2_readSentence 25 = .ok (.getfield 45, 3) := by decide +kernel
theorem dX2_readSentence_28 : decode cX2_readSentence 28 = .ok (.if_icmp .ge 59, 3) := by decide +kernel
theorem dX2_readSentence_31 : decode cX2_readSentence 31 = .ok (.iload_n 3, 1) := by decide +kernel
theorem dX2_readSentence_32 : decode cX2_readSentence 32 = .ok (.iconst 3, 1) := by decide +kernel
theorem dX2_readSentence_33 : decode cX2_readSentence 33 = .ok (.if_icmp .ge 54, 3) := by decide +kernel
theorem dX2_readSentence_36 : decode cX2_readSentence 36 = .ok (.aload_n 0, 1) := by decide +kernel
theorem dX2_readSentence_37 : decode cX2_readSentence 37 = .ok (.invokevirtual 29, 3) := by decide +kernel
theorem dX2_readSentence_40 : decode cX2_readSentence 40 = .ok (.ifCond .ne 5, 3) := by decide +kernel
theorem dX2_readSentence_43 : decode cX2_readSentence 43 = .ok (.iconst 0, 1) := by decide +kernel
theorem dX2_readSentence_44 : decode cX2_readSentence 44 = .ok (.ireturn, 1) := by decide +kernel
theorem dX2_readSentence_45 : decode cX2_readSentence 45 = .ok (.aload_n 0, 1) := by decide +kernel
theorem dX2_readSentence_46 : decode cX2_readSentence 46 = .ok (.invokevirtual 49, 3) := by decide +kernel
theorem dX2_readSentence_49 : decode cX2_readSentence 49 = .ok (.istore 4, 2) := by decide +kernel
theorem dX2_readSentence_51 : decode cX2_readSentence 51 = .ok (.iload 4, 2) := by decide +kernel
theorem dX2_readSentence_53 : decode cX2_readSentence 53 = .ok (.iconst (-1), 1) := by decide +kernel
theorem dX2_readSentence_54 : decode cX2_readSentence 54 = .ok (.if_icmp .ne 5, 3) := by decide +kernel
theorem dX2_readSentence_57 : decode cX2_readSentence 57 = .ok (.iconst 0, 1) := by decide +kernel
theorem dX2_readSentence_58 : decode cX2_readSentence 58 = .ok (.ireturn, 1) := by decide +kernel
theorem dX2_readSentence_59 : decode cX2_readSentence 59 = .ok (.aload_n 0, 1) := by decide +kernel
theorem dX2_readSentence_60 : decode cX2_readSentence 60 = .ok (.getfield 15, 3) := by decide +kernel
theorem dX2_readSentence_63 : decode cX2_readSentence 63 = .ok (.iload_n 3, 1) := by decide +kernel
theorem dX2_readSentence_64 : decode cX2_readSentence 64 = .ok (.iload 4, 2) := by decide +kernel
theorem dX2_readSentence_66 : decode cX2_readSentence 66 = .ok (.iastore, 1) := by decide +kernel
theorem dX2_readSentence_67 : decode cX2_readSentence 67 = .ok (.aload_n 0, 1) := by decide +kernel
theorem dX2_readSentence_68 : decode cX2_readSentence 68 = .ok (.aload_n 1, 1) := by decide +kernel
theorem dX2_readSentence_69 : decode cX2_readSentence 69 = .ok (.aload_n 2, 1) := by decide +kernel
theorem dX2_readSentence_70 : decode cX2_readSentence 70 = .ok (.iload_n 3, 1) := by decide +kernel
theorem dX2_readSentence_71 : decode cX2_readSentence 71 = .ok (.iconst 1, 1) := by decide +kernel
theorem dX2_readSentence_72 : decode cX2_readSentence 72 = .ok (.iadd, 1) := by decide +kernel
theorem dX2_readSentence_73 : decode cX2_readSentence 73 = .ok (.invokevirtual 41, 3) := by decide +kernel
theorem dX2_readSentence_76 : decode cX2_readSentence 76 = .ok (.ifCond .ne 5, 3) := by decide +kernel
theorem dX2_readSentence_79 : decode cX2_readSentence 79 = .ok (.iconst 0, 1) := by decide +kernel
theorem dX2_readSentence_80 : decode cX2_readSentence 80 = .ok (.ireturn, 1) := by decide +kernel
theorem dX2_readSentence_81 : decode cX2_readSentence 81 = .ok (.iinc 3 1, 3) := by decide +kernel
theorem dX2_readSentence_84 : decode cX2_readSentence 84 = .ok (.goto (-61), 3) := by decide +kernel
theorem dX2_readSentence_87 : decode cX2_readSentence 87 = .ok (.aload_n 1, 1) := by decide +kernel
theorem dX2_readSentence_88 : decode cX2_readSentence 88 = .ok (.aload_n 2, 1) := by decide +kernel
theorem dX2_readSentence_89 : decode cX2_readSentence 89 = .ok (.aload_n 0, 1) := by decide +kernel
theorem dX2_readSentence_90 : decode cX2_readSentence 90 = .ok (.getfield 15, 3) := by decide +kernel
theorem dX2_readSentence_93 : decode cX2_readSentence 93 = .ok (.iconst 0, 1) := by decide +kernel
theorem dX2_readSentence_94 : decode cX2_readSentence 94 = .ok (.iaload, 1) := by decide +kernel
theorem dX2_readSentence_95 : decode cX2_readSentence 95 = .ok (.aload_n 0, 1) := by decide +kernel
theorem dX2_readSentence_96 : decode cX2_readSentence 96 = .ok (.getfield 15, 3) := by decide +kernel
theorem dX2_readSentence_99 : decode cX2_readSentence 99 = .ok (.iconst 1, 1) := by decide +kernel
theorem dX2_readSentence_100 : decode cX2_readSentence 100 = .ok (.iaload, 1) := by decide +kernel
theorem dX2_readSentence_101 : decode cX2_readSentence 101 = .ok (.aload_n 0, 1) := by decide +kernel
theorem dX2_readSentence_102 : decode cX2_readSentence 102 = .ok (.getfield 15, 3) := by decide +kernel
theorem dX2_readSentence_105 : decode cX2_readSentence 105 = .ok (.iconst 2, 1) := by decide +kernel
theorem dX2_readSentence_106 : decode cX2_readSentence 106 = .ok (.iaload, 1) := by decide +kernel
theorem dX2_readSentence_107 : decode cX2_readSentence 107 = .ok (.invokevirtual 53, 3) := by decide +kernel
theorem dX2_readSentence_110 : decode cX2_readSentence 110 = .ok (.iconst 1, 1) := by decide +kernel
theorem dX2_readSentence_111 : decode cX2_readSentence 111 = .ok (.ireturn, 1) := by decide +kernel
set_option maxRecDepth 20000 in
theorem ggX2_canGoOn_X1_allows : GoodIn wsX2_canGoOn wsX1_allows := goodIn_r _ [7, 8, 9, 10, 11, 12, 13, 14, 15, 16, 17, 18, 6, 19, 20, 21, 22, 23, 24, 25, 26, 27, 28, 29, 30, 31, 32, 33, 34, 35, 36, 37, 38, 39, 40, 41, 42, 43, 44, 45, 46, 47, 48, 49, 50, 51, 52, 53, 54, 55, 56, 57, 58, 59, 60, 61, 62, 63, 64, 65, 66, 76, 77, 78, 79, 80, 81, 82, 83, 84, 85, 86, 87] (by decide +kernel) (by decide +kernel)
set_option maxRecDepth 20000 in
theorem gX2_canGoOn_X1_allows : GoodIn wsX2_canGoOn (wsV RX2 59 RX1 yX1_allows wsX1_allows) := goodIn_app (goodIn_of _ (by decide +kernel)) ggX2_canGoOn_X1_allows
set_option maxRecDepth 20000 in
theorem ggX2_canGoOn_X2_canGoOn : GoodIn wsX2_canGoOn wsX2_canGoOn := goodIn_r _ [0, 1, 2, 3, 4, 5, 6, 7, 8, 9, 10, 11, 12, 13, 14, 15, 16, 17, 18, 19, 20, 21, 22, 23, 24, 25, 26, 27, 28, 29, 30, 31, 32, 33, 34, 35, 36, 37, 38, 39, 40, 41, 42, 43, 44, 45, 46, 47, 48, 49, 50, 51, 52, 53, 54, 55, 56, 57, 58, 59, 60, 61, 62, 63, 64, 65, 66, 67, 68, 69, 70, 71, 72, 73, 74, 75, 76, 77, 78, 79, 80, 81, 82, 83, 84, 85, 86, 87] (by decide +kernel) (by decide +kernel)
set_option maxRecDepth 20000 in
theorem gX2_canGoOn_X2_canGoOn : GoodIn wsX2_canGoOn (wsV RX2 41 RX2 yX2_canGoOn wsX2_canGoOn) := goodIn_app (goodIn_of _ (by decide +kernel)) ggX2_canGoOn_X2_canGoOn
theorem dX2_canGoOn_0 : decode cX2_canGoOn 0 = .ok (.iload_n 3, 1) := by decide +kernel
theorem dX2_canGoOn_1 : decode cX2_canGoOn 1 = .ok (.aload_n 2, 1) := by decide +kernel
theorem dX2_canGoOn_2 : decode cX2_canGoOn 2 = .ok (.getfield 45, 3) := by decide +kernel
theorem dX2_canGoOn_5 : decode cX2_canGoOn 5 = .ok (.if_icmp .ge 8, 3) := by decide +kernel
theorem dX2_canGoOn_8 : decode cX2_canGoOn 8 = .ok (.iload_n 3, 1) := by decide +kernel
theorem dX2_canGoOn_9 : decode cX2_canGoOn 9 = .ok (.iconst 3, 1) := by decide +kernel
theorem dX2_canGoOn_10 : decode cX2_canGoOn 10 = .ok (.if_icmp .lt 27, 3) := by decide +kernel
theorem dX2_canGoOn_13 : decode cX2_canGoOn 13 = .ok (.aload_n 1, 1) := by decide +kernel
theorem dX2_canGoOn_14 : decode cX2_canGoOn 14 = .ok (.aload_n 2, 1) := by decide +kernel
theorem dX2_canGoOn_15 : decode cX2_canGoOn 15 = .ok (.aload_n 0, 1) := by decide +kernel
theorem dX2_canGoOn_16 : decode cX2_canGoOn 16 = .ok (.getfield 15, 3) := by decide +kernel
theorem dX2_canGoOn_19 : decode cX2_canGoOn 19 = .ok (.iconst 0, 1) := by decide +kernel
theorem dX2_canGoOn_20 : decode cX2_canGoOn 20 = .ok (.iaload, 1) := by decide +kernel
theorem dX2_canGoOn_21 : decode cX2_canGoOn 21 = .ok (.aload_n 0, 1) := by decide +kernel
theorem dX2_canGoOn_22 : decode cX2_canGoOn 22 = .ok (.getfield 15, 3) := by decide +kernel
theorem dX2_canGoOn_25 : decode cX2_canGoOn 25 = .ok (.iconst 1, 1) := by decide +kernel
theorem dX2_canGoOn_26 : decode cX2_canGoOn 26 = .ok (.iaload, 1) := by decide +kernel
theorem dX2_canGoOn_27 : decode cX2_canGoOn 27 = .ok (.aload_n 0, 1) := by decide +kernel
theorem dX2_canGoOn_28 : decode cX2_canGoOn 28 = .ok (.getfield 15, 3) := by decide +kernel
theorem dX2_canGoOn_31 : decode cX2_canGoOn 31 = .ok (.iconst 2, 1) := by decide +kernel
theorem dX2_canGoOn_32 : decode cX2_canGoOn 32 = .ok (.iaload, 1) := by decide +kernel
theorem dX2_canGoOn_33 : decode cX2_canGoOn 33 = .ok (.invokevirtual 59, 3) := by decide +kernel
theorem dX2_canGoOn_36 : decode cX2_canGoOn 36 = .ok (.ireturn, 1) := by decide +kernel
theorem dX2_canGoOn_37 : decode cX2_canGoOn 37 = .ok (.iconst 0, 1) := by decide +kernel
theorem dX2_canGoOn_38 : decode cX2_canGoOn 38 = .ok (.istore 4, 2) := by decide +kernel
theorem dX2_canGoOn_40 : decode cX2_canGoOn 40 = .ok (.iload 4, 2) := by decide +kernel
theorem dX2_canGoOn_42 : decode cX2_canGoOn 42 = .ok (.bipush 10, 2) := by decide +kernel
theorem dX2_canGoOn_44 : decode cX2_canGoOn 44 = .ok (.if_icmp .ge 31, 3) := by decide +kernel
theorem dX2_canGoOn_47 : decode cX2_canGoOn 47 = .ok (.aload_n 0, 1) := by decide +kernel
theorem dX2_canGoOn_48 : decode cX2_canGoOn 48 = .ok (.getfield 15, 3) := by decide +kernel
theorem dX2_canGoOn_51 : decode cX2_canGoOn 51 = .ok (.iload_n 3, 1) := by decide +kernel
theorem dX2_canGoOn_52 : decode cX2_canGoOn 52 = .ok (.iload 4, 2) := by decide +kernel
theorem dX2_canGoOn_54 : decode cX2_canGoOn 54 = .ok (.iastore, 1) := by decide +kernel
theorem dX2_canGoOn_55 : decode cX2_canGoOn 55 = .ok (.aload_n 0, 1) := by decide +kernel
theorem dX2_canGoOn_56 : decode cX2_canGoOn 56 = .ok (.aload_n 1, 1) := by decide +kernel
theorem dX2_canGoOn_57 : decode cX2_canGoOn 57 = .ok (.aload_n 2, 1) := by decide +kernel
theorem dX2_canGoOn_58 : decode cX2_canGoOn 58 = .ok (.iload_n 3, 1) := by decide +kernel
theorem dX2_canGoOn_59 : decode cX2_canGoOn 59 = .ok (.iconst 1, 1) := by decide +kernel
theorem dX2_canGoOn_60 : decode cX2_canGoOn 60 = .ok (.iadd, 1) := by decide +kernel
theorem dX2_canGoOn_61 : decode cX2_canGoOn 61 = .ok (.invokevirtual 41, 3) := by decide +kernel
theorem dX2_canGoOn_64 : decode cX2_canGoOn 64 = .ok (.ifCond .eq 5, 3) := by decide +kernel
theorem dX2_canGoOn_67 : decode cX2_canGoOn 67 = .ok (.iconst 1, 1) := by decide +kernel
theorem dX2_canGoOn_68 : decode cX2_canGoOn 68 = .ok (.ireturn, 1) := by decide +kernel
theorem dX2_canGoOn_69 : decode cX2_canGoOn 69 = .ok (.iinc 4 1, 3) := by decide +kernel
theorem dX2_canGoOn_72 : decode cX2_canGoOn 72 = .ok (.goto (-32), 3) := by decide +kernel
theorem dX2_canGoOn_75 : decode cX2_canGoOn 75 = .ok (.iconst 0, 1) := by decide +kernel
theorem dX2_canGoOn_76 : decode cX2_canGoOn 76 = .ok (.ireturn, 1) := by decide +kernel
set_option maxRecDepth 20000 in
theorem ggX2_findWord_X2_isBlankAt : GoodIn wsX2_findWord wsX2_isBlankAt := goodIn_r _ [8, 9, 10, 11, 12, 13, 14] (by decide +kernel) (by decide +kernel)
set_option maxRecDepth 20000 in
theorem gX2_findWord_X2_isBlankAt : GoodIn wsX2_findWord (wsV RX2 63 RX2 yX2_isBlankAt wsX2_isBlankAt) := goodIn_app (goodIn_of _ (by decide +kernel)) ggX2_findWord_X2_isBlankAt
theorem dX2_findWord_0 : decode cX2_findWord 0 = .ok (.aload_n 0, 1) := by decide +kernel
theorem dX2_findWord_1 : decode cX2_findWord 1 = .ok (.aload_n 0, 1) := by decide +kernel
theorem dX2_findWord_2 : decode cX2_findWord 2 = .ok (.getfield 26, 3) := by decide +kernel
theorem dX2_findWord_5 : decode cX2_findWord 5 = .ok (.putfield 23, 3) := by decide +kernel
theorem dX2_findWord_8 : decode cX2_findWord 8 = .ok (.aload_n 0, 1) := by decide +kernel
theorem dX2_findWord_9 : decode cX2_findWord 9 = .ok (.getfield 23, 3) := by decide +kernel
theorem dX2_findWord_12 : decode cX2_findWord 12 = .ok (.aload_n 0, 1) := by decide +kernel
theorem dX2_findWord_13 : decode cX2_findWord 13 = .ok (.getfield 19, 3) := by decide +kernel
theorem dX2_findWord_16 : decode cX2_findWord 16 = .ok (.if_icmp .ge 27, 3) := by decide +kernel
theorem dX2_findWord_19 : decode cX2_findWord 19 = .ok (.aload_n 0, 1) := by decide +kernel
theorem dX2_findWord_20 : decode cX2_findWord 20 = .ok (.aload_n 0, 1) := by decide +kernel
theorem dX2_findWord_21 : decode cX2_findWord 21 = .ok (.getfield 23, 3) := by decide +kernel
theorem dX2_findWord_24 : decode cX2_findWord 24 = .ok (.invokevirtual 63, 3) := by decide +kernel
theorem dX2_findWord_27 : decode cX2_findWord 27 = .ok (.ifCond .eq 16, 3) := by decide +kernel
theorem dX2_findWord_30 : decode cX2_findWord 30 = .ok (.aload_n 0, 1) := by decide +kernel
theorem dX2_findWord_31 : decode cX2_findWord 31 = .ok (.dup, 1) := by decide +kernel
theorem dX2_findWord_32 : decode cX2_findWord 32 = .ok (.getfield 23, 3) := by decide +kernel
theorem dX2_findWord_35 : decode cX2_findWord 35 = .ok (.iconst 1, 1) := by decide +kernel
theorem dX2_findWord_36 : decode cX2_findWord 36 = .ok (.iadd, 1) := by decide +kernel
theorem dX2_findWord_37 : decode cX2_findWord 37 = .ok (.putfield 23, 3) := by decide +kernel
theorem dX2_findWord_40 : decode cX2_findWord 40 = .ok (.goto (-32), 3) := by decide +kernel
theorem dX2_findWord_43 : decode cX2_findWord 43 = .ok (.aload_n 0, 1) := by decide +kernel
theorem dX2_findWord_44 : decode cX2_findWord 44 = .ok (.aload_n 0, 1) := by decide +kernel
theorem dX2_findWord_45 : decode cX2_findWord 45 = .ok (.getfield 23, 3) := by decide +kernel
theorem dX2_findWord_48 : decode cX2_findWord 48 = .ok (.putfield 26, 3) := by decide +kernel
theorem dX2_findWord_51 : decode cX2_findWord 51 = .ok (.aload_n 0, 1) := by decide +kernel
theorem dX2_findWord_52 : decode cX2_findWord 52 = .ok (.getfield 26, 3) := by decide +kernel
theorem dX2_findWord_55 : decode cX2_findWord 55 = .ok (.aload_n 0, 1) := by decide +kernel
theorem dX2_findWord_56 : decode cX2_findWord 56 = .ok (.getfield 19, 3) := by decide +kernel
theorem dX2_findWord_59 : decode cX2_findWord 59 = .ok (.if_icmp .ge 27, 3) := by decide +kernel
theorem dX2_findWord_62 : decode cX2_findWord 62 = .ok (.aload_n 0, 1) := by decide +kernel
theorem dX2_findWord_63 : decode cX2_findWord 63 = .ok (.aload_n 0, 1) := by decide +kernel
theorem dX2_findWord_64 : decode cX2_findWord 64 = .ok (.getfield 26, 3) := by decide +kernel
theorem dX2_findWord_67 : decode cX2_findWord 67 = .ok (.invokevirtual 63, 3) := by decide +kernel
theorem dX2_findWord_70 : decode cX2_findWord 70 = .ok (.ifCond .ne 16, 3) := by decide +kernel
theorem dX2_findWord_73 : decode cX2_findWord 73 = .ok (.aload_n 0, 1) := by decide +kernel
theorem dX2_findWord_74 : decode cX2_findWord 74 = .ok (.dup, 1) := by decide +kernel
theorem dX2_findWord_75 : decode cX2_findWord 75 = .ok (.getfield 26, 3) := by decide +kernel
theorem dX2_findWord_78 : decode cX2_findWord 78 = .ok (.iconst 1, 1) := by decide +kernel
theorem dX2_findWord_79 : decode cX2_findWord 79 = .ok (.iadd, 1) := by decide +kernel
theorem dX2_findWord_80 : decode cX2_findWord 80 = .ok (.putfield 26, 3) := by decide +kernel
theorem dX2_findWord_83 : decode cX2_findWord 83 = .ok (.goto (-32), 3) := by decide +kernel
theorem dX2_findWord_86 : decode cX2_findWord 86 = .ok (.aload_n 0, 1) := by decide +kernel
theorem dX2_findWord_87 : decode cX2_findWord 87 = .ok (.getfield 23, 3) := by decide +kernel
theorem dX2_findWord_90 : decode cX2_findWord 90 = .ok (.aload_n 0, 1) := by decide +kernel
theorem dX2_findWord_91 : decode cX2_findWord 91 = .ok (.getfield 26, 3) := by decide +kernel
theorem dX2_findWord_94 : decode cX2_findWord 94 = .ok (.if_icmp .ge 7, 3) := by decide +kernel
theorem dX2_findWord_97 : decode cX2_findWord 97 = .ok (.iconst 1, 1) := by decide +kernel
theorem dX2_findWord_98 : decode cX2_findWord 98 = .ok (.goto 4, 3) := by decide +kernel
theorem dX2_findWord_101 : decode cX2_findWord 101 = .ok (.iconst 0, 1) := by decide +kernel
theorem dX2_findWord_102 : decode cX2_findWord 102 = .ok (.ireturn, 1) := by decide +kernel
theorem dX2_isBlankAt_0 : decode cX2_isBlankAt 0 = .ok (.aload_n 0, 1) := by decide +kernel
theorem dX2_isBlankAt_1 : decode cX2_isBlankAt 1 = .ok (.getfield 9, 3) := by decide +kernel
theorem dX2_isBlankAt_4 : decode cX2_isBlankAt 4 = .ok (.iload_n 1, 1) := by decide +kernel
theorem dX2_isBlankAt_5 : decode cX2_isBlankAt 5 = .ok (.caload, 1) := by decide +kernel
theorem dX2_isBlankAt_6 : decode cX2_isBlankAt 6 = .ok (.bipush 32, 2) := by decide +kernel
theorem dX2_isBlankAt_8 : decode cX2_isBlankAt 8 = .ok (.if_icmp .eq 14, 3) := by decide +kernel
theorem dX2_isBlankAt_11 : decode cX2_isBlankAt 11 = .ok (.aload_n 0, 1) := by decide +kernel
theorem dX2_isBlankAt_12 : decode cX2_isBlankAt 12 = .ok (.getfield 9, 3) := by decide +kernel
theorem dX2_isBlankAt_15 : decode cX2_isBlankAt 15 = .ok (.iload_n 1, 1) := by decide +kernel
theorem dX2_isBlankAt_16 : decode cX2_isBlankAt 16 = .ok (.caload, 1) := by decide +kernel
theorem dX2_isBlankAt_17 : decode cX2_isBlankAt 17 = .ok (.bipush 10, 2) := by decide +kernel
theorem dX2_isBlankAt_19 : decode cX2_isBlankAt 19 = .ok (.if_icmp .ne 7, 3) := by decide +kernel
theorem dX2_isBlankAt_22 : decode cX2_isBlankAt 22 = .ok (.iconst 1, 1) := by decide +kernel
theorem dX2_isBlankAt_23 : decode cX2_isBlankAt 23 = .ok (.goto 4, 3) := by decide +kernel
theorem dX2_isBlankAt_26 : decode cX2_isBlankAt 26 = .ok (.iconst 0, 1) := by decide +kernel
theorem dX2_isBlankAt_27 : decode cX2_isBlankAt 27 = .ok (.ireturn, 1) := by decide +kernel
set_option maxRecDepth 20000 in
theorem ggX2_verbHere_X2_isWordHere : GoodIn wsX2_verbHere wsX2_isWordHere := goodIn_r _ [6, 7, 8, 9, 10, 11, 12, 13, 14, 15, 16, 17, 18, 19, 20, 21, 22, 23, 24, 25, 26, 27, 28, 29, 30, 31, 32, 33, 34, 35, 36, 37, 38, 39, 40, 41, 42, 43, 44, 45, 46, 47, 48, 49, 50, 51, 52, 53, 54, 55, 56, 57, 58, 59, 60, 61, 62, 63] (by decide +kernel) (by decide +kernel)
set_option maxRecDepth 20000 in
theorem gX2_verbHere_X2_isWordHere : GoodIn wsX2_verbHere (wsV RX2 75 RX2 yX2_isWordHere wsX2_isWordHere) := goodIn_app (goodIn_of _ (by decide +kernel)) ggX2_verbHere_X2_isWordHere
theorem dX2_verbHere_0 : decode cX2_verbHere 0 = .ok (.iconst 0, 1) := by decide +kernel
theorem dX2_verbHere_1 : decode cX2_verbHere 1 = .ok (.istore_n 1, 1) := by decide +kernel
theorem dX2_verbHere_2 : decode cX2_verbHere 2 = .ok (.iload_n 1, 1) := by decide +kernel
theorem dX2_verbHere_3 : decode cX2_verbHere 3 = .ok (.getstatic 67, 3) := by decide +kernel
theorem dX2_verbHere_6 : decode cX2_verbHere 6 = .ok (.arraylength, 1) := by decide +kernel
theorem dX2_verbHere_7 : decode cX2_verbHere 7 = .ok (.if_icmp .ge 30, 3) := by decide +kernel
theorem dX2_verbHere_10 : decode cX2_verbHere 10 = .ok (.aload_n 0, 1) := by decide +kernel
theorem dX2_verbHere_11 : decode cX2_verbHere 11 = .ok (.getstatic 67, 3) := by decide +kernel
theorem dX2_verbHere_14 : decode cX2_verbHere 14 = .ok (.iload_n 1, 1) := by decide +kernel
theorem dX2_verbHere_15 : decode cX2_verbHere 15 = .ok (.aaload, 1) := by decide +kernel
theorem dX2_verbHere_16 : decode cX2_verbHere 16 = .ok (.getfield 71, 3) := by decide +kernel
theorem dX2_verbHere_19 : decode cX2_verbHere 19 = .ok (.invokevirtual 75, 3) := by decide +kernel
theorem dX2_verbHere_22 : decode cX2_verbHere 22 = .ok (.ifCond .eq 9, 3) := by decide +kernel
theorem dX2_verbHere_25 : decode cX2_verbHere 25 = .ok (.getstatic 67, 3) := by decide +kernel
theorem dX2_verbHere_28 : decode cX2_verbHere 28 = .ok (.iload_n 1, 1) := by decide +kernel
theorem dX2_verbHere_29 : decode cX2_verbHere 29 = .ok (.aaload, 1) := by decide +kernel
theorem dX2_verbHere_30 : decode cX2_verbHere 30 = .ok (.areturn, 1) := by decide +kernel
theorem dX2_verbHere_31 : decode cX2_verbHere 31 = .ok (.iinc 1 1, 3) := by decide +kernel
theorem dX2_verbHere_34 : decode cX2_verbHere 34 = .ok (.goto (-32), 3) := by decide +kernel
theorem dX2_verbHere_37 : decode cX2_verbHere 37 = .ok (.aconst_null, 1) := by decide +kernel
theorem dX2_verbHere_38 : decode cX2_verbHere 38 = .ok (.areturn, 1) := by decide +kernel
set_option maxRecDepth 20000 in
theorem ggX2_isWordHere_J0_length_8abf5 : GoodIn wsX2_isWordHere wsJ0_length_8abf5 := goodIn_r _ [8, 9, 10, 11, 12, 7, 13, 14, 15] (by decide +kernel) (by decide +kernel)
set_option maxRecDepth 20000 in
theorem gX2_isWordHere_J0_length_8abf5 : GoodIn wsX2_isWordHere (wsV RX2 79 RJ0 yJ0_length_8abf5 wsJ0_length_8abf5) := goodIn_app (goodIn_of _ (by decide +kernel)) ggX2_isWordHere_J0_length_8abf5
set_option maxRecDepth 20000 in
theorem ggX2_isWordHere_J0_charAt_5068e : GoodIn wsX2_isWordHere wsJ0_charAt_5068e := goodIn_r _ [19, 9, 20, 21, 22, 7, 23, 14, 15, 24, 25, 26, 27, 28, 29, 30, 31, 32, 33, 34, 35, 36, 37, 38, 39, 40, 41, 42, 43, 44, 45, 46, 47, 48, 49, 50, 51, 52] (by decide +kernel) (by decide +kernel)
set_option maxRecDepth 20000 in
theorem gX2_isWordHere_J0_charAt_5068e : GoodIn wsX2_isWordHere (wsV RX2 83 RJ0 yJ0_charAt_5068e wsJ0_charAt_5068e) := goodIn_app (goodIn_of _ (by decide +kernel)) ggX2_isWordHere_J0_charAt_5068e
theorem dX2_isWordHere_0 : decode cX2_isWordHere 0 = .ok (.aload_n 1, 1) := by decide +kernel
theorem dX2_isWordHere_1 : decode cX2_isWordHere 1 = .ok (.invokevirtual 79, 3) := by decide +kernel
theorem dX2_isWordHere_4 : decode cX2_isWordHere 4 = .ok (.aload_n 0, 1) := by decide +kernel
theorem dX2_isWordHere_5 : decode cX2_isWordHere 5 = .ok (.getfield 26, 3) := by decide +kernel
theorem dX2_isWordHere_8 : decode cX2_isWordHere 8 = .ok (.aload_n 0, 1) := by decide +kernel
theorem dX2_isWordHere_9 : decode cX2_isWordHere 9 = .ok (.getfield 23, 3) := by decide +kernel
theorem dX2_isWordHere_12 : decode cX2_isWordHere 12 = .ok (.isub, 1) := by decide +kernel
theorem dX2_isWordHere_13 : decode cX2_isWordHere 13 = .ok (.if_icmp .eq 5, 3) := by decide +kernel
theorem dX2_isWordHere_16 : decode cX2_isWordHere 16 = .ok (.iconst 0, 1) := by decide +kernel
theorem dX2_isWordHere_17 : decode cX2_isWordHere 17 = .ok (.ireturn, 1) := by decide +kernel
theorem dX2_isWordHere_18 : decode cX2_isWordHere 18 = .ok (.iconst 0, 1) := by decide +kernel
theorem dX2_isWordHere_19 : decode cX2_isWordHere 19 = .ok (.istore_n 2, 1) := by decide +kernel
theorem dX2_isWordHere_20 : decode cX2_isWordHere 20 = .ok (.iload_n 2, 1) := by decide +kernel
theorem dX2_isWordHere_21 : decode cX2_isWordHere 21 = .ok (.aload_n 1, 1) := by decide +kernel
theorem dX2_isWordHere_22 : decode cX2_isWordHere 22 = .ok (.invokevirtual 79, 3) := by decide +kernel
theorem dX2_isWordHere_25 : decode cX2_isWordHere 25 = .ok (.if_icmp .ge 30, 3) := by decide +kernel
theorem dX2_isWordHere_28 : decode cX2_isWordHere 28 = .ok (.aload_n 0, 1) := by decide +kernel
theorem dX2_isWordHere_29 : decode cX2_isWordHere 29 = .ok (.getfield 9, 3) := by decide +kernel
theorem dX2_isWordHere_32 : decode cX2_isWordHere 32 = .ok (.aload_n 0, 1) := by decide +kernel
theorem dX2_isWordHere_33 : decode cX2_isWordHere 33 = .ok (.getfield 23, 3) := by decide +kernel
theorem dX2_isWordHere_36 : decode cX2_isWordHere 36 = .ok (.iload_n 2, 1) := by decide +kernel
theorem dX2_isWordHere_37 : decode cX2_isWordHere 37 = .ok (.iadd, 1) := by decide +kernel
theorem dX2_isWordHere_38 : decode cX2_isWordHere 38 = .ok (.caload, 1) := by decide +kernel
theorem dX2_isWordHere_39 : decode cX2_isWordHere 39 = .ok (.aload_n 1, 1) := by decide +kernel
theorem dX2_isWordHere_40 : decode cX2_isWordHere 40 = .ok (.iload_n 2, 1) := by decide +kernel
theorem dX2_isWordHere_41 : decode cX2_isWordHere 41 = .ok (.invokevirtual 83, 3) := by decide +kernel
theorem dX2_isWordHere_44 : decode cX2_isWordHere 44 = .ok (.if_icmp .eq 5, 3) := by decide +kernel
theorem dX2_isWordHere_47 : decode cX2_isWordHere 47 = .ok (.iconst 0, 1) := by decide +kernel
theorem dX2_isWordHere_48 : decode cX2_isWordHere 48 = .ok (.ireturn, 1) := by decide +kernel
theorem dX2_isWordHere_49 : decode cX2_isWordHere 49 = .ok (.iinc 2 1, 3) := by decide +kernel
theorem dX2_isWordHere_52 : decode cX2_isWordHere 52 = .ok (.goto (-32), 3) := by decide +kernel
theorem dX2_isWordHere_55 : decode cX2_isWordHere 55 = .ok (.iconst 1, 1) := by decide +kernel
theorem dX2_isWordHere_56 : decode cX2_isWordHere 56 = .ok (.ireturn, 1) := by decide +kernel
theorem dX2_numberHere_0 : decode cX2_numberHere 0 = .ok (.aload_n 0, 1) := by decide +kernel
theorem dX2_numberHere_1 : decode cX2_numberHere 1 = .ok (.getfield 26, 3) := by decide +kernel
theorem dX2_numberHere_4 : decode cX2_numberHere 4 = .ok (.aload_n 0, 1) := by decide +kernel
theorem dX2_numberHere_5 : decode cX2_numberHere 5 = .ok (.getfield 23, 3) := by decide +kernel
theorem dX2_numberHere_8 : decode cX2_numberHere 8 = .ok (.isub, 1) := by decide +kernel
theorem dX2_numberHere_9 : decode cX2_numberHere 9 = .ok (.bipush 9, 2) := by decide +kernel
theorem dX2_numberHere_11 : decode cX2_numberHere 11 = .ok (.if_icmp .le 5, 3) := by decide +kernel
theorem dX2_numberHere_14 : decode cX2_numberHere 14 = .ok (.iconst (-1), 1) := by decide +kernel
theorem dX2_numberHere_15 : decode cX2_numberHere 15 = .ok (.ireturn, 1) := by decide +kernel
theorem dX2_numberHere_16 : decode cX2_numberHere 16 = .ok (.iconst 0, 1) := by decide +kernel
theorem dX2_numberHere_17 : decode cX2_numberHere 17 = .ok (.istore_n 1, 1) := by decide +kernel
theorem dX2_numberHere_18 : decode cX2_numberHere 18 = .ok (.aload_n 0, 1) := by decide +kernel
theorem dX2_numberHere_19 : decode cX2_numberHere 19 = .ok (.getfield 23, 3) := by decide +kernel
theorem dX2_numberHere_22 : decode cX2_numberHere 22 = .ok (.istore_n 2, 1) := by decide +kernel
theorem dX2_numberHere_23 : decode cX2_numberHere 23 = .ok (.iload_n 2, 1) := by decide +kernel
theorem dX2_numberHere_24 : decode cX2_numberHere 24 = .ok (.aload_n 0, 1) := by decide +kernel
theorem dX2_numberHere_25 : decode cX2_numberHere 25 = .ok (.getfield 26, 3) := by decide +kernel
theorem dX2_numberHere_28 : decode cX2_numberHere 28 = .ok (.if_icmp .ge 48, 3) := by decide +kernel
theorem dX2_numberHere_31 : decode cX2_numberHere 31 = .ok (.aload_n 0, 1) := by decide +kernel
theorem dX2_numberHere_32 : decode cX2_numberHere 32 = .ok (.getfield 9, 3) := by decide +kernel
theorem dX2_numberHere_35 : decode cX2_numberHere 35 = .ok (.iload_n 2, 1) := by decide +kernel
theorem dX2_numberHere_36 : decode cX2_numberHere 36 = .ok (.caload, 1) := by decide +kernel
theorem dX2_numberHere_37 : decode cX2_numberHere 37 = .ok (.bipush 48, 2) := by decide +kernel
theorem dX2_numberHere_39 : decode cX2_numberHere 39 = .ok (.if_icmp .lt 14, 3) := by decide +kernel
theorem dX2_numberHere_42 : decode cX2_numberHere 42 = .ok (.aload_n 0, 1) := by decide +kernel
theorem dX2_numberHere_43 : decode cX2_numberHere 43 = .ok (.getfield 9, 3) := by decide +kernel
theorem dX2_numberHere_46 : decode cX2_numberHere 46 = .ok (.iload_n 2, 1) := by decide +kernel
theorem dX2_numberHere_47 : decode cX2_numberHere 47 = .ok (.caload, 1) := by decide +kernel
theorem dX2_numberHere_48 : decode cX2_numberHere 48 = .ok (.bipush 57, 2) := by decide +kernel
theorem dX2_numberHere_50 : decode cX2_numberHere 50 = .ok (.if_icmp .le 5, 3) := by decide +kernel
theorem dX2_numberHere_53 : decode cX2_numberHere 53 = .ok (.iconst (-1), 1) := by decide +kernel
theorem dX2_numberHere_54 : decode cX2_numberHere 54 = .ok (.ireturn, 1) := by decide +kernel
theorem dX2_numberHere_55 : decode cX2_numberHere 55 = .ok (.iload_n 1, 1) := by decide +kernel
theorem dX2_numberHere_56 : decode cX2_numberHere 56 = .ok (.bipush 10, 2) := by decide +kernel
theorem dX2_numberHere_58 : decode cX2_numberHere 58 = .ok (.imul, 1) := by decide +kernel
theorem dX2_numberHere_59 : decode cX2_numberHere 59 = .ok (.aload_n 0, 1) := by decide +kernel
theorem dX2_numberHere_60 : decode cX2_numberHere 60 = .ok (.getfield 9, 3) := by decide +kernel
theorem dX2_numberHere_63 : decode cX2_numberHere 63 = .ok (.iload_n 2, 1) := by decide +kernel
theorem dX2_numberHere_64 : decode cX2_numberHere 64 = .ok (.caload, 1) := by decide +kernel
theorem dX2_numberHere_65 : decode cX2_numberHere 65 = .ok (.bipush 48, 2) := by decide +kernel
theorem dX2_numberHere_67 : decode cX2_numberHere 67 = .ok (.isub, 1) := by decide +kernel
theorem dX2_numberHere_68 : decode cX2_numberHere 68 = .ok (.iadd, 1) := by decide +kernel
theorem dX2_numberHere_69 : decode cX2_numberHere 69 = .ok (.istore_n 1, 1) := by decide +kernel
theorem dX2_numberHere_70 : decode cX2_numberHere 70 = .ok (.iinc 2 1, 3) := by decide +kernel
theorem dX2_numberHere_73 : decode cX2_numberHere 73 = .ok (.goto (-50), 3) := by decide +kernel
theorem dX2_numberHere_76 : decode cX2_numberHere 76 = .ok (.iload_n 1, 1) := by decide +kernel
theorem dX2_numberHere_77 : decode cX2_numberHere 77 = .ok (.ireturn, 1) := by decide +kernel
