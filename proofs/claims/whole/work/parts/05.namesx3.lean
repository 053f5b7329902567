theorem dX3_init_0 : decode cX3_init 0 = .ok (.aload_n 0, 1) := by decide +kernel
theorem dX3_init_1 : decode cX3_init 1 = .ok (.invokespecial 3, 3) := by decide +kernel
theorem dX3_init_4 : decode cX3_init 4 = .ok (.return_, 1) := by decide +kernel
set_option maxRecDepth 20000 in
theorem ggX3_byteAt_X3_tellParts : GoodIn wsX3_byteAt wsX3_tellParts := goodIn_r _ [8, 3, 1, 9, 10, 11, 12, 13, 14, 7, 15, 16, 17, 18, 19, 20, 21, 22, 23, 24, 25, 26, 27, 28, 29, 30, 31, 32, 33, 34, 35, 36, 37, 38, 39, 40, 41, 42, 43, 44, 45, 46, 47, 48, 49, 50, 51, 52, 53, 54, 55, 56, 57, 58, 59, 60, 61, 62, 63, 64, 65, 66, 67, 68, 69, 2, 70, 71, 72, 73, 74, 123, 124, 125, 126, 127, 128, 129, 130, 131, 132, 133, 134, 121, 122] (by decide +kernel) (by decide +kernel)
set_option maxRecDepth 20000 in
theorem gX3_byteAt_X3_tellParts : GoodIn wsX3_byteAt (wsV RX3 18 RX3 yX3_tellParts wsX3_tellParts) := goodIn_app (goodIn_of _ (by decide +kernel)) ggX3_byteAt_X3_tellParts
set_option maxRecDepth 20000 in
theorem ggX3_byteAt_X3_tellDetails : GoodIn wsX3_byteAt wsX3_tellDetails := goodIn_r _ [78, 79, 80, 81, 82, 83, 84, 85, 86, 87, 88, 89, 90, 91, 92, 93, 94, 95, 96, 97, 98, 99, 7, 100, 101, 102, 103, 104, 12, 13, 14, 15, 16, 17, 18, 19, 20, 21, 22, 23, 24, 25, 26, 27, 28, 29, 30, 31, 32, 33, 34, 35, 36, 37, 38, 39, 40, 41, 42, 43, 44, 45, 46, 47, 48, 49, 50, 51, 52, 53, 54, 55, 56, 57, 58, 59, 60, 61, 62, 63, 64, 65, 66, 67, 68, 69, 1, 2, 70, 71, 72, 73, 74, 105, 106, 107, 108, 109, 110, 111, 123, 124, 125, 126, 127, 128, 129, 130, 131, 132, 133, 134, 121, 122] (by decide +kernel) (by decide +kernel)
set_option maxRecDepth 20000 in
theorem gX3_byteAt_X3_tellDetails : GoodIn wsX3_byteAt (wsV RX3 27 RX3 yX3_tellDetails wsX3_tellDetails) := goodIn_app (goodIn_of _ (by decide +kernel)) ggX3_byteAt_X3_tellDetails
set_option maxRecDepth 20000 in
theorem ggX3_byteAt_X3_tellFastenings : GoodIn wsX3_byteAt wsX3_tellFastenings := goodIn_r _ [115, 116, 1, 117, 118, 119, 120, 101, 102, 103, 7, 104, 12, 13, 14, 15, 16, 17, 18, 19, 20, 21, 22, 23, 24, 25, 26, 27, 28, 29, 30, 31, 32, 33, 34, 35, 36, 37, 38, 39, 40, 41, 42, 43, 44, 45, 46, 47, 48, 49, 50, 51, 52, 53, 54, 55, 56, 57, 58, 59, 60, 61, 62, 63, 64, 65, 66, 67, 68, 69, 2, 70, 71, 72, 73, 74, 123, 124, 125, 126, 127, 128, 129, 130, 131, 132, 133, 134, 121, 122] (by decide +kernel) (by decide +kernel)
set_option maxRecDepth 20000 in
theorem gX3_byteAt_X3_tellFastenings : GoodIn wsX3_byteAt (wsV RX3 31 RX3 yX3_tellFastenings wsX3_tellFastenings) := goodIn_app (goodIn_of _ (by decide +kernel)) ggX3_byteAt_X3_tellFastenings
theorem dX3_byteAt_0 : decode cX3_byteAt 0 = .ok (.iload_n 2, 1) := by decide +kernel
theorem dX3_byteAt_1 : decode cX3_byteAt 1 = .ok (.ifCond .ge 5, 3) := by decide +kernel
theorem dX3_byteAt_4 : decode cX3_byteAt 4 = .ok (.iconst (-1), 1) := by decide +kernel
theorem dX3_byteAt_5 : decode cX3_byteAt 5 = .ok (.ireturn, 1) := by decide +kernel
theorem dX3_byteAt_6 : decode cX3_byteAt 6 = .ok (.aload_n 0, 1) := by decide +kernel
theorem dX3_byteAt_7 : decode cX3_byteAt 7 = .ok (.iload_n 2, 1) := by decide +kernel
theorem dX3_byteAt_8 : decode cX3_byteAt 8 = .ok (.putfield 9, 3) := by decide +kernel
theorem dX3_byteAt_11 : decode cX3_byteAt 11 = .ok (.aload_n 0, 1) := by decide +kernel
theorem dX3_byteAt_12 : decode cX3_byteAt 12 = .ok (.iconst (-1), 1) := by decide +kernel
theorem dX3_byteAt_13 : decode cX3_byteAt 13 = .ok (.putfield 15, 3) := by decide +kernel
theorem dX3_byteAt_16 : decode cX3_byteAt 16 = .ok (.aload_n 0, 1) := by decide +kernel
theorem dX3_byteAt_17 : decode cX3_byteAt 17 = .ok (.aload_n 1, 1) := by decide +kernel
theorem dX3_byteAt_18 : decode cX3_byteAt 18 = .ok (.invokevirtual 18, 3) := by decide +kernel
theorem dX3_byteAt_21 : decode cX3_byteAt 21 = .ok (.iconst 0, 1) := by decide +kernel
theorem dX3_byteAt_22 : decode cX3_byteAt 22 = .ok (.istore_n 3, 1) := by decide +kernel
theorem dX3_byteAt_23 : decode cX3_byteAt 23 = .ok (.iload_n 3, 1) := by decide +kernel
theorem dX3_byteAt_24 : decode cX3_byteAt 24 = .ok (.aload_n 1, 1) := by decide +kernel
theorem dX3_byteAt_25 : decode cX3_byteAt 25 = .ok (.getfield 22, 3) := by decide +kernel
theorem dX3_byteAt_28 : decode cX3_byteAt 28 = .ok (.if_icmp .ge 22, 3) := by decide +kernel
theorem dX3_byteAt_31 : decode cX3_byteAt 31 = .ok (.aload_n 0, 1) := by decide +kernel
theorem dX3_byteAt_32 : decode cX3_byteAt 32 = .ok (.getfield 9, 3) := by decide +kernel
theorem dX3_byteAt_35 : decode cX3_byteAt 35 = .ok (.ifCond .lt 15, 3) := by decide +kernel
theorem dX3_byteAt_38 : decode cX3_byteAt 38 = .ok (.aload_n 0, 1) := by decide +kernel
theorem dX3_byteAt_39 : decode cX3_byteAt 39 = .ok (.aload_n 1, 1) := by decide +kernel
theorem dX3_byteAt_40 : decode cX3_byteAt 40 = .ok (.iload_n 3, 1) := by decide +kernel
theorem dX3_byteAt_41 : decode cX3_byteAt 41 = .ok (.invokevirtual 27, 3) := by decide +kernel
theorem dX3_byteAt_44 : decode cX3_byteAt 44 = .ok (.iinc 3 1, 3) := by decide +kernel
theorem dX3_byteAt_47 : decode cX3_byteAt 47 = .ok (.goto (-24), 3) := by decide +kernel
theorem dX3_byteAt_50 : decode cX3_byteAt 50 = .ok (.aload_n 0, 1) := by decide +kernel
theorem dX3_byteAt_51 : decode cX3_byteAt 51 = .ok (.aload_n 1, 1) := by decide +kernel
theorem dX3_byteAt_52 : decode cX3_byteAt 52 = .ok (.invokevirtual 31, 3) := by decide +kernel
theorem dX3_byteAt_55 : decode cX3_byteAt 55 = .ok (.aload_n 0, 1) := by decide +kernel
theorem dX3_byteAt_56 : decode cX3_byteAt 56 = .ok (.getfield 15, 3) := by decide +kernel
theorem dX3_byteAt_59 : decode cX3_byteAt 59 = .ok (.ireturn, 1) := by decide +kernel
set_option maxRecDepth 20000 in
theorem ggX3_tellParts_X3_tellWord : GoodIn wsX3_tellParts wsX3_tellWord := goodIn_r _ [10, 11, 12, 13, 14, 15, 16, 17, 18, 19, 20, 21, 22, 23, 24, 25, 26, 27, 28, 29, 30, 31, 32, 33, 34, 35, 36, 37, 38, 39, 40, 41, 42, 43, 44, 45, 46, 47, 48, 49, 50, 51, 52, 53, 54, 55, 56, 57, 58, 59, 60, 61, 62, 63, 9, 64, 2, 65, 83, 84] (by decide +kernel) (by decide +kernel)
set_option maxRecDepth 20000 in
theorem gX3_tellParts_X3_tellWord : GoodIn wsX3_tellParts (wsV RX3 40 RX3 yX3_tellWord wsX3_tellWord) := goodIn_app (goodIn_of _ (by decide +kernel)) ggX3_tellParts_X3_tellWord
set_option maxRecDepth 20000 in
theorem ggX3_tellParts_X3_tellNumber : GoodIn wsX3_tellParts wsX3_tellNumber := goodIn_r _ [69, 70, 61, 62, 63, 9, 64, 2, 65, 83, 84] (by decide +kernel) (by decide +kernel)
set_option maxRecDepth 20000 in
theorem gX3_tellParts_X3_tellNumber : GoodIn wsX3_tellParts (wsV RX3 48 RX3 yX3_tellNumber wsX3_tellNumber) := goodIn_app (goodIn_of _ (by decide +kernel)) ggX3_tellParts_X3_tellNumber
theorem dX3_tellParts_0 : decode cX3_tellParts 0 = .ok (.iconst 0, 1) := by decide +kernel
theorem dX3_tellParts_1 : decode cX3_tellParts 1 = .ok (.istore_n 2, 1) := by decide +kernel
theorem dX3_tellParts_2 : decode cX3_tellParts 2 = .ok (.iload_n 2, 1) := by decide +kernel
theorem dX3_tellParts_3 : decode cX3_tellParts 3 = .ok (.aload_n 1, 1) := by decide +kernel
theorem dX3_tellParts_4 : decode cX3_tellParts 4 = .ok (.getfield 22, 3) := by decide +kernel
theorem dX3_tellParts_7 : decode cX3_tellParts 7 = .ok (.if_icmp .ge 44, 3) := by decide +kernel
theorem dX3_tellParts_10 : decode cX3_tellParts 10 = .ok (.aload_n 0, 1) := by decide +kernel
theorem dX3_tellParts_11 : decode cX3_tellParts 11 = .ok (.getfield 9, 3) := by decide +kernel
theorem dX3_tellParts_14 : decode cX3_tellParts 14 = .ok (.ifCond .lt 37, 3) := by decide +kernel
theorem dX3_tellParts_17 : decode cX3_tellParts 17 = .ok (.aload_n 0, 1) := by decide +kernel
theorem dX3_tellParts_18 : decode cX3_tellParts 18 = .ok (.getstatic 34, 3) := by decide +kernel
theorem dX3_tellParts_21 : decode cX3_tellParts 21 = .ok (.invokevirtual 40, 3) := by decide +kernel
theorem dX3_tellParts_24 : decode cX3_tellParts 24 = .ok (.aload_n 0, 1) := by decide +kernel
theorem dX3_tellParts_25 : decode cX3_tellParts 25 = .ok (.aload_n 1, 1) := by decide +kernel
theorem dX3_tellParts_26 : decode cX3_tellParts 26 = .ok (.getfield 44, 3) := by decide +kernel
theorem dX3_tellParts_29 : decode cX3_tellParts 29 = .ok (.iload_n 2, 1) := by decide +kernel
theorem dX3_tellParts_30 : decode cX3_tellParts 30 = .ok (.iaload, 1) := by decide +kernel
theorem dX3_tellParts_31 : decode cX3_tellParts 31 = .ok (.i2l, 1) := by decide +kernel
theorem dX3_tellParts_32 : decode cX3_tellParts 32 = .ok (.invokevirtual 48, 3) := by decide +kernel
theorem dX3_tellParts_35 : decode cX3_tellParts 35 = .ok (.aload_n 0, 1) := by decide +kernel
theorem dX3_tellParts_36 : decode cX3_tellParts 36 = .ok (.aload_n 1, 1) := by decide +kernel
theorem dX3_tellParts_37 : decode cX3_tellParts 37 = .ok (.getfield 52, 3) := by decide +kernel
theorem dX3_tellParts_40 : decode cX3_tellParts 40 = .ok (.iload_n 2, 1) := by decide +kernel
theorem dX3_tellParts_41 : decode cX3_tellParts 41 = .ok (.laload, 1) := by decide +kernel
theorem dX3_tellParts_42 : decode cX3_tellParts 42 = .ok (.invokevirtual 48, 3) := by decide +kernel
theorem dX3_tellParts_45 : decode cX3_tellParts 45 = .ok (.iinc 2 1, 3) := by decide +kernel
theorem dX3_tellParts_48 : decode cX3_tellParts 48 = .ok (.goto (-46), 3) := by decide +kernel
theorem dX3_tellParts_51 : decode cX3_tellParts 51 = .ok (.return_, 1) := by decide +kernel
set_option maxRecDepth 20000 in
theorem ggX3_tellDetails_X1_coveredBy : GoodIn wsX3_tellDetails wsX1_coveredBy := goodIn_r _ [13, 14, 15, 16, 17, 18, 100, 101, 102, 103, 104, 105, 106, 107, 108, 109, 110, 111] (by decide +kernel) (by decide +kernel)
set_option maxRecDepth 20000 in
theorem gX3_tellDetails_X1_coveredBy : GoodIn wsX3_tellDetails (wsV RX3 59 RX1 yX1_coveredBy wsX1_coveredBy) := goodIn_app (goodIn_of _ (by decide +kernel)) ggX3_tellDetails_X1_coveredBy
set_option maxRecDepth 20000 in
theorem ggX3_tellDetails_X3_tellEach : GoodIn wsX3_tellDetails wsX3_tellEach := goodIn_r _ [23, 16, 17, 18, 24, 25, 26, 22, 27, 28, 29, 30, 31, 32, 33, 34, 35, 36, 37, 38, 39, 40, 41, 42, 43, 44, 45, 46, 47, 48, 49, 50, 51, 52, 53, 54, 55, 56, 57, 58, 59, 60, 61, 62, 63, 64, 65, 66, 67, 68, 69, 70, 71, 72, 73, 74, 75, 76, 77, 78, 79, 80, 81, 82, 83, 84, 85, 86, 87, 88, 89, 90, 91, 92, 112, 113] (by decide +kernel) (by decide +kernel)
set_option maxRecDepth 20000 in
theorem gX3_tellDetails_X3_tellEach : GoodIn wsX3_tellDetails (wsV RX3 63 RX3 yX3_tellEach wsX3_tellEach) := goodIn_app (goodIn_of _ (by decide +kernel)) ggX3_tellDetails_X3_tellEach
set_option maxRecDepth 20000 in
theorem ggX3_tellDetails_X1_barIndex : GoodIn wsX3_tellDetails wsX1_barIndex := goodIn_r _ [94] (by decide +kernel) (by decide +kernel)
set_option maxRecDepth 20000 in
theorem gX3_tellDetails_X1_barIndex_n70 : GoodIn wsX3_tellDetails (wsX1_barIndex) := ggX3_tellDetails_X1_barIndex
set_option maxRecDepth 20000 in
theorem ggX3_tellDetails_X3_tellBars : GoodIn wsX3_tellDetails wsX3_tellBars := goodIn_r _ [98, 99, 16, 17, 18, 24, 25, 26, 22, 27, 28, 29, 30, 31, 32, 33, 34, 35, 36, 37, 38, 39, 40, 41, 42, 43, 44, 45, 46, 47, 48, 49, 50, 51, 52, 53, 54, 55, 56, 57, 58, 59, 60, 61, 62, 63, 64, 65, 66, 67, 68, 69, 70, 71, 72, 73, 74, 75, 76, 77, 78, 79, 80, 81, 82, 83, 84, 85, 86, 87, 88, 89, 90, 91, 92, 112, 113] (by decide +kernel) (by decide +kernel)
set_option maxRecDepth 20000 in
theorem gX3_tellDetails_X3_tellBars : GoodIn wsX3_tellDetails (wsV RX3 74 RX3 yX3_tellBars wsX3_tellBars) := goodIn_app (goodIn_of _ (by decide +kernel)) ggX3_tellDetails_X3_tellBars
set_option maxRecDepth 20000 in
theorem ggX3_tellDetails_X3_tellPair : GoodIn wsX3_tellDetails wsX3_tellPair := goodIn_r _ [27, 28, 29, 30, 22, 31, 32, 33, 34, 35, 36, 37, 38, 39, 40, 41, 42, 43, 44, 45, 46, 47, 48, 49, 50, 51, 52, 53, 54, 55, 56, 57, 58, 59, 60, 61, 62, 63, 64, 65, 66, 67, 68, 69, 70, 71, 72, 73, 74, 75, 76, 77, 78, 79, 80, 81, 82, 83, 84, 85, 86, 87, 88, 89, 90, 91, 92, 112, 113] (by decide +kernel) (by decide +kernel)
set_option maxRecDepth 20000 in
theorem gX3_tellDetails_X3_tellPair : GoodIn wsX3_tellDetails (wsV RX3 90 RX3 yX3_tellPair wsX3_tellPair) := goodIn_app (goodIn_of _ (by decide +kernel)) ggX3_tellDetails_X3_tellPair
theorem dX3_tellDetails_0 : decode cX3_tellDetails 0 = .ok (.aload_n 0, 1) := by decide +kernel
theorem dX3_tellDetails_1 : decode cX3_tellDetails 1 = .ok (.getstatic 56, 3) := by decide +kernel
theorem dX3_tellDetails_4 : decode cX3_tellDetails 4 = .ok (.iload_n 2, 1) := by decide +kernel
theorem dX3_tellDetails_5 : decode cX3_tellDetails 5 = .ok (.aload_n 1, 1) := by decide +kernel
theorem dX3_tellDetails_6 : decode cX3_tellDetails 6 = .ok (.iload_n 2, 1) := by decide +kernel
theorem dX3_tellDetails_7 : decode cX3_tellDetails 7 = .ok (.invokevirtual 59, 3) := by decide +kernel
theorem dX3_tellDetails_10 : decode cX3_tellDetails 10 = .ok (.invokevirtual 63, 3) := by decide +kernel
theorem dX3_tellDetails_13 : decode cX3_tellDetails 13 = .ok (.iconst 0, 1) := by decide +kernel
theorem dX3_tellDetails_14 : decode cX3_tellDetails 14 = .ok (.istore_n 3, 1) := by decide +kernel
theorem dX3_tellDetails_15 : decode cX3_tellDetails 15 = .ok (.iload_n 3, 1) := by decide +kernel
theorem dX3_tellDetails_16 : decode cX3_tellDetails 16 = .ok (.bipush 6, 2) := by decide +kernel
theorem dX3_tellDetails_18 : decode cX3_tellDetails 18 = .ok (.if_icmp .ge 25, 3) := by decide +kernel
theorem dX3_tellDetails_21 : decode cX3_tellDetails 21 = .ok (.aload_n 0, 1) := by decide +kernel
theorem dX3_tellDetails_22 : decode cX3_tellDetails 22 = .ok (.iload_n 2, 1) := by decide +kernel
theorem dX3_tellDetails_23 : decode cX3_tellDetails 23 = .ok (.iload_n 3, 1) := by decide +kernel
theorem dX3_tellDetails_24 : decode cX3_tellDetails 24 = .ok (.aload_n 1, 1) := by decide +kernel
theorem dX3_tellDetails_25 : decode cX3_tellDetails 25 = .ok (.getfield 67, 3) := by decide +kernel
theorem dX3_tellDetails_28 : decode cX3_tellDetails 28 = .ok (.iload_n 2, 1) := by decide +kernel
theorem dX3_tellDetails_29 : decode cX3_tellDetails 29 = .ok (.iload_n 3, 1) := by decide +kernel
theorem dX3_tellDetails_30 : decode cX3_tellDetails 30 = .ok (.invokestatic 70, 3) := by decide +kernel
theorem dX3_tellDetails_33 : decode cX3_tellDetails 33 = .ok (.iaload, 1) := by decide +kernel
theorem dX3_tellDetails_34 : decode cX3_tellDetails 34 = .ok (.invokevirtual 74, 3) := by decide +kernel
theorem dX3_tellDetails_37 : decode cX3_tellDetails 37 = .ok (.iinc 3 1, 3) := by decide +kernel
theorem dX3_tellDetails_40 : decode cX3_tellDetails 40 = .ok (.goto (-25), 3) := by decide +kernel
theorem dX3_tellDetails_43 : decode cX3_tellDetails 43 = .ok (.aload_n 0, 1) := by decide +kernel
theorem dX3_tellDetails_44 : decode cX3_tellDetails 44 = .ok (.getstatic 78, 3) := by decide +kernel
theorem dX3_tellDetails_47 : decode cX3_tellDetails 47 = .ok (.iload_n 2, 1) := by decide +kernel
theorem dX3_tellDetails_48 : decode cX3_tellDetails 48 = .ok (.aload_n 1, 1) := by decide +kernel
theorem dX3_tellDetails_49 : decode cX3_tellDetails 49 = .ok (.getfield 81, 3) := by decide +kernel
theorem dX3_tellDetails_52 : decode cX3_tellDetails 52 = .ok (.iload_n 2, 1) := by decide +kernel
theorem dX3_tellDetails_53 : decode cX3_tellDetails 53 = .ok (.iaload, 1) := by decide +kernel
theorem dX3_tellDetails_54 : decode cX3_tellDetails 54 = .ok (.invokevirtual 63, 3) := by decide +kernel
theorem dX3_tellDetails_57 : decode cX3_tellDetails 57 = .ok (.aload_n 1, 1) := by decide +kernel
theorem dX3_tellDetails_58 : decode cX3_tellDetails 58 = .ok (.getfield 84, 3) := by decide +kernel
theorem dX3_tellDetails_61 : decode cX3_tellDetails 61 = .ok (.iload_n 2, 1) := by decide +kernel
theorem dX3_tellDetails_62 : decode cX3_tellDetails 62 = .ok (.iaload, 1) := by decide +kernel
theorem dX3_tellDetails_63 : decode cX3_tellDetails 63 = .ok (.iconst (-1), 1) := by decide +kernel
theorem dX3_tellDetails_64 : decode cX3_tellDetails 64 = .ok (.if_icmp .eq 17, 3) := by decide +kernel
theorem dX3_tellDetails_67 : decode cX3_tellDetails 67 = .ok (.aload_n 0, 1) := by decide +kernel
theorem dX3_tellDetails_68 : decode cX3_tellDetails 68 = .ok (.getstatic 87, 3) := by decide +kernel
theorem dX3_tellDetails_71 : decode cX3_tellDetails 71 = .ok (.iload_n 2, 1) := by decide +kernel
theorem dX3_tellDetails_72 : decode cX3_tellDetails 72 = .ok (.aload_n 1, 1) := by decide +kernel
theorem dX3_tellDetails_73 : decode cX3_tellDetails 73 = .ok (.getfield 84, 3) := by decide +kernel
theorem dX3_tellDetails_76 : decode cX3_tellDetails 76 = .ok (.iload_n 2, 1) := by decide +kernel
theorem dX3_tellDetails_77 : decode cX3_tellDetails 77 = .ok (.iaload, 1) := by decide +kernel
theorem dX3_tellDetails_78 : decode cX3_tellDetails 78 = .ok (.invokevirtual 90, 3) := by decide +kernel
theorem dX3_tellDetails_81 : decode cX3_tellDetails 81 = .ok (.aload_n 1, 1) := by decide +kernel
theorem dX3_tellDetails_82 : decode cX3_tellDetails 82 = .ok (.getfield 93, 3) := by decide +kernel
theorem dX3_tellDetails_85 : decode cX3_tellDetails 85 = .ok (.iload_n 2, 1) := by decide +kernel
theorem dX3_tellDetails_86 : decode cX3_tellDetails 86 = .ok (.iaload, 1) := by decide +kernel
theorem dX3_tellDetails_87 : decode cX3_tellDetails 87 = .ok (.ifCond .le 17, 3) := by decide +kernel
theorem dX3_tellDetails_90 : decode cX3_tellDetails 90 = .ok (.aload_n 0, 1) := by decide +kernel
theorem dX3_tellDetails_91 : decode cX3_tellDetails 91 = .ok (.getstatic 96, 3) := by decide +kernel
theorem dX3_tellDetails_94 : decode cX3_tellDetails 94 = .ok (.iload_n 2, 1) := by decide +kernel
theorem dX3_tellDetails_95 : decode cX3_tellDetails 95 = .ok (.aload_n 1, 1) := by decide +kernel
theorem dX3_tellDetails_96 : decode cX3_tellDetails 96 = .ok (.getfield 93, 3) := by decide +kernel
theorem dX3_tellDetails_99 : decode cX3_tellDetails 99 = .ok (.iload_n 2, 1) := by decide +kernel
theorem dX3_tellDetails_100 : decode cX3_tellDetails 100 = .ok (.iaload, 1) := by decide +kernel
theorem dX3_tellDetails_101 : decode cX3_tellDetails 101 = .ok (.invokevirtual 90, 3) := by decide +kernel
theorem dX3_tellDetails_104 : decode cX3_tellDetails 104 = .ok (.return_, 1) := by decide +kernel
set_option maxRecDepth 20000 in
theorem ggX3_tellFastenings_X3_tellPair : GoodIn wsX3_tellFastenings wsX3_tellPair := goodIn_r _ [11, 12, 13, 14, 10, 15, 16, 17, 18, 19, 20, 21, 22, 23, 24, 25, 26, 27, 28, 29, 30, 31, 32, 33, 34, 35, 36, 37, 38, 39, 40, 41, 42, 43, 44, 45, 46, 47, 48, 49, 50, 51, 52, 53, 54, 55, 56, 57, 58, 59, 60, 61, 62, 63, 64, 65, 66, 67, 68, 69, 2, 70, 71, 72, 73, 74, 75, 88, 89] (by decide +kernel) (by decide +kernel)
set_option maxRecDepth 20000 in
theorem gX3_tellFastenings_X3_tellPair : GoodIn wsX3_tellFastenings (wsV RX3 90 RX3 yX3_tellPair wsX3_tellPair) := goodIn_app (goodIn_of _ (by decide +kernel)) ggX3_tellFastenings_X3_tellPair
set_option maxRecDepth 20000 in
theorem ggX3_tellFastenings_X3_tellNumber : GoodIn wsX3_tellFastenings wsX3_tellNumber := goodIn_r _ [74, 75, 66, 67, 68, 10, 69, 2, 70, 88, 89] (by decide +kernel) (by decide +kernel)
set_option maxRecDepth 20000 in
theorem gX3_tellFastenings_X3_tellNumber : GoodIn wsX3_tellFastenings (wsV RX3 48 RX3 yX3_tellNumber wsX3_tellNumber) := goodIn_app (goodIn_of _ (by decide +kernel)) ggX3_tellFastenings_X3_tellNumber
theorem dX3_tellFastenings_0 : decode cX3_tellFastenings 0 = .ok (.iconst 0, 1) := by decide +kernel
theorem dX3_tellFastenings_1 : decode cX3_tellFastenings 1 = .ok (.istore_n 2, 1) := by decide +kernel
theorem dX3_tellFastenings_2 : decode cX3_tellFastenings 2 = .ok (.iload_n 2, 1) := by decide +kernel
theorem dX3_tellFastenings_3 : decode cX3_tellFastenings 3 = .ok (.aload_n 1, 1) := by decide +kernel
theorem dX3_tellFastenings_4 : decode cX3_tellFastenings 4 = .ok (.getfield 99, 3) := by decide +kernel
theorem dX3_tellFastenings_7 : decode cX3_tellFastenings 7 = .ok (.if_icmp .ge 46, 3) := by decide +kernel
theorem dX3_tellFastenings_10 : decode cX3_tellFastenings 10 = .ok (.aload_n 0, 1) := by decide +kernel
theorem dX3_tellFastenings_11 : decode cX3_tellFastenings 11 = .ok (.getfield 9, 3) := by decide +kernel
theorem dX3_tellFastenings_14 : decode cX3_tellFastenings 14 = .ok (.ifCond .lt 39, 3) := by decide +kernel
theorem dX3_tellFastenings_17 : decode cX3_tellFastenings 17 = .ok (.aload_n 0, 1) := by decide +kernel
theorem dX3_tellFastenings_18 : decode cX3_tellFastenings 18 = .ok (.getstatic 102, 3) := by decide +kernel
theorem dX3_tellFastenings_21 : decode cX3_tellFastenings 21 = .ok (.aload_n 1, 1) := by decide +kernel
theorem dX3_tellFastenings_22 : decode cX3_tellFastenings 22 = .ok (.getfield 105, 3) := by decide +kernel
theorem dX3_tellFastenings_25 : decode cX3_tellFastenings 25 = .ok (.iload_n 2, 1) := by decide +kernel
theorem dX3_tellFastenings_26 : decode cX3_tellFastenings 26 = .ok (.iaload, 1) := by decide +kernel
theorem dX3_tellFastenings_27 : decode cX3_tellFastenings 27 = .ok (.aload_n 1, 1) := by decide +kernel
theorem dX3_tellFastenings_28 : decode cX3_tellFastenings 28 = .ok (.getfield 108, 3) := by decide +kernel
theorem dX3_tellFastenings_31 : decode cX3_tellFastenings 31 = .ok (.iload_n 2, 1) := by decide +kernel
theorem dX3_tellFastenings_32 : decode cX3_tellFastenings 32 = .ok (.iaload, 1) := by decide +kernel
theorem dX3_tellFastenings_33 : decode cX3_tellFastenings 33 = .ok (.invokevirtual 90, 3) := by decide +kernel
theorem dX3_tellFastenings_36 : decode cX3_tellFastenings 36 = .ok (.aload_n 0, 1) := by decide +kernel
theorem dX3_tellFastenings_37 : decode cX3_tellFastenings 37 = .ok (.aload_n 1, 1) := by decide +kernel
theorem dX3_tellFastenings_38 : decode cX3_tellFastenings 38 = .ok (.getfield 111, 3) := by decide +kernel
theorem dX3_tellFastenings_41 : decode cX3_tellFastenings 41 = .ok (.iload_n 2, 1) := by decide +kernel
theorem dX3_tellFastenings_42 : decode cX3_tellFastenings 42 = .ok (.iaload, 1) := by decide +kernel
theorem dX3_tellFastenings_43 : decode cX3_tellFastenings 43 = .ok (.i2l, 1) := by decide +kernel
theorem dX3_tellFastenings_44 : decode cX3_tellFastenings 44 = .ok (.invokevirtual 48, 3) := by decide +kernel
theorem dX3_tellFastenings_47 : decode cX3_tellFastenings 47 = .ok (.iinc 2 1, 3) := by decide +kernel
theorem dX3_tellFastenings_50 : decode cX3_tellFastenings 50 = .ok (.goto (-48), 3) := by decide +kernel
theorem dX3_tellFastenings_53 : decode cX3_tellFastenings 53 = .ok (.return_, 1) := by decide +kernel
set_option maxRecDepth 20000 in
theorem ggX3_tellBars_X5_contains : GoodIn wsX3_tellBars wsX5_contains := goodIn_r _ [4] (by decide +kernel) (by decide +kernel)
set_option maxRecDepth 20000 in
theorem gX3_tellBars_X5_contains_n114 : GoodIn wsX3_tellBars (wsX5_contains) := ggX3_tellBars_X5_contains
set_option maxRecDepth 20000 in
theorem ggX3_tellBars_X3_tellPair : GoodIn wsX3_tellBars wsX3_tellPair := goodIn_r _ [9, 10, 11, 12, 8, 13, 14, 15, 16, 17, 18, 19, 20, 21, 22, 23, 24, 25, 26, 27, 28, 29, 30, 31, 32, 33, 34, 35, 36, 37, 38, 39, 40, 41, 42, 43, 44, 45, 46, 47, 48, 49, 50, 51, 52, 53, 54, 55, 56, 57, 58, 59, 60, 61, 62, 63, 64, 65, 66, 67, 68, 69, 70, 71, 72, 73, 74, 75, 76] (by decide +kernel) (by decide +kernel)
set_option maxRecDepth 20000 in
theorem gX3_tellBars_X3_tellPair : GoodIn wsX3_tellBars (wsV RX3 90 RX3 yX3_tellPair wsX3_tellPair) := goodIn_app (goodIn_of _ (by decide +kernel)) ggX3_tellBars_X3_tellPair
set_option maxRecDepth 20000 in
theorem ggX3_tellBars_X3_tellNumber : GoodIn wsX3_tellBars wsX3_tellNumber := goodIn_r _ [73, 74, 64, 65, 66, 8, 67, 68, 69, 75, 76] (by decide +kernel) (by decide +kernel)
set_option maxRecDepth 20000 in
theorem gX3_tellBars_X3_tellNumber : GoodIn wsX3_tellBars (wsV RX3 48 RX3 yX3_tellNumber wsX3_tellNumber) := goodIn_app (goodIn_of _ (by decide +kernel)) ggX3_tellBars_X3_tellNumber
theorem dX3_tellBars_0 : decode cX3_tellBars 0 = .ok (.iconst 0, 1) := by decide +kernel
theorem dX3_tellBars_1 : decode cX3_tellBars 1 = .ok (.istore 4, 2) := by decide +kernel
theorem dX3_tellBars_3 : decode cX3_tellBars 3 = .ok (.iload 4, 2) := by decide +kernel
theorem dX3_tellBars_5 : decode cX3_tellBars 5 = .ok (.bipush 10, 2) := by decide +kernel
theorem dX3_tellBars_7 : decode cX3_tellBars 7 = .ok (.if_icmp .ge 34, 3) := by decide +kernel
theorem dX3_tellBars_10 : decode cX3_tellBars 10 = .ok (.iload_n 3, 1) := by decide +kernel
theorem dX3_tellBars_11 : decode cX3_tellBars 11 = .ok (.iload 4, 2) := by decide +kernel
theorem dX3_tellBars_13 : decode cX3_tellBars 13 = .ok (.invokestatic 114, 3) := by decide +kernel
theorem dX3_tellBars_16 : decode cX3_tellBars 16 = .ok (.ifCond .eq 19, 3) := by decide +kernel
theorem dX3_tellBars_19 : decode cX3_tellBars 19 = .ok (.aload_n 0, 1) := by decide +kernel
theorem dX3_tellBars_20 : decode cX3_tellBars 20 = .ok (.getstatic 118, 3) := by decide +kernel
theorem dX3_tellBars_23 : decode cX3_tellBars 23 = .ok (.iload_n 1, 1) := by decide +kernel
theorem dX3_tellBars_24 : decode cX3_tellBars 24 = .ok (.iload_n 2, 1) := by decide +kernel
theorem dX3_tellBars_25 : decode cX3_tellBars 25 = .ok (.invokevirtual 90, 3) := by decide +kernel
theorem dX3_tellBars_28 : decode cX3_tellBars 28 = .ok (.aload_n 0, 1) := by decide +kernel
theorem dX3_tellBars_29 : decode cX3_tellBars 29 = .ok (.iload 4, 2) := by decide +kernel
theorem dX3_tellBars_31 : decode cX3_tellBars 31 = .ok (.i2l, 1) := by decide +kernel
theorem dX3_tellBars_32 : decode cX3_tellBars 32 = .ok (.invokevirtual 48, 3) := by decide +kernel
theorem dX3_tellBars_35 : decode cX3_tellBars 35 = .ok (.iinc 4 1, 3) := by decide +kernel
theorem dX3_tellBars_38 : decode cX3_tellBars 38 = .ok (.goto (-35), 3) := by decide +kernel
theorem dX3_tellBars_41 : decode cX3_tellBars 41 = .ok (.return_, 1) := by decide +kernel
set_option maxRecDepth 20000 in
theorem ggX3_tellEach_X5_contains : GoodIn wsX3_tellEach wsX5_contains := goodIn_r _ [3] (by decide +kernel) (by decide +kernel)
set_option maxRecDepth 20000 in
theorem gX3_tellEach_X5_contains_n114 : GoodIn wsX3_tellEach (wsX5_contains) := ggX3_tellEach_X5_contains
set_option maxRecDepth 20000 in
theorem ggX3_tellEach_X3_tellPair : GoodIn wsX3_tellEach wsX3_tellPair := goodIn_r _ [8, 9, 10, 11, 7, 12, 13, 14, 15, 16, 17, 18, 19, 20, 21, 22, 23, 24, 25, 26, 27, 28, 29, 30, 31, 32, 33, 34, 35, 36, 37, 38, 39, 40, 41, 42, 43, 44, 45, 46, 47, 48, 49, 50, 51, 52, 53, 54, 55, 56, 57, 58, 59, 60, 61, 62, 63, 64, 65, 66, 67, 68, 69, 70, 71, 72, 73, 74, 75] (by decide +kernel) (by decide +kernel)
set_option maxRecDepth 20000 in
theorem gX3_tellEach_X3_tellPair : GoodIn wsX3_tellEach (wsV RX3 90 RX3 yX3_tellPair wsX3_tellPair) := goodIn_app (goodIn_of _ (by decide +kernel)) ggX3_tellEach_X3_tellPair
theorem dX3_tellEach_0 : decode cX3_tellEach 0 = .ok (.iconst 0, 1) := by decide +kernel
theorem dX3_tellEach_1 : decode cX3_tellEach 1 = .ok (.istore 4, 2) := by decide +kernel
theorem dX3_tellEach_3 : decode cX3_tellEach 3 = .ok (.iload 4, 2) := by decide +kernel
theorem dX3_tellEach_5 : decode cX3_tellEach 5 = .ok (.bipush 10, 2) := by decide +kernel
theorem dX3_tellEach_7 : decode cX3_tellEach 7 = .ok (.if_icmp .ge 26, 3) := by decide +kernel
theorem dX3_tellEach_10 : decode cX3_tellEach 10 = .ok (.iload_n 3, 1) := by decide +kernel
theorem dX3_tellEach_11 : decode cX3_tellEach 11 = .ok (.iload 4, 2) := by decide +kernel
theorem dX3_tellEach_13 : decode cX3_tellEach 13 = .ok (.invokestatic 114, 3) := by decide +kernel
theorem dX3_tellEach_16 : decode cX3_tellEach 16 = .ok (.ifCond .eq 11, 3) := by decide +kernel
theorem dX3_tellEach_19 : decode cX3_tellEach 19 = .ok (.aload_n 0, 1) := by decide +kernel
theorem dX3_tellEach_20 : decode cX3_tellEach 20 = .ok (.aload_n 1, 1) := by decide +kernel
theorem dX3_tellEach_21 : decode cX3_tellEach 21 = .ok (.iload_n 2, 1) := by decide +kernel
theorem dX3_tellEach_22 : decode cX3_tellEach 22 = .ok (.iload 4, 2) := by decide +kernel
theorem dX3_tellEach_24 : decode cX3_tellEach 24 = .ok (.invokevirtual 90, 3) := by decide +kernel
theorem dX3_tellEach_27 : decode cX3_tellEach 27 = .ok (.iinc 4 1, 3) := by decide +kernel
theorem dX3_tellEach_30 : decode cX3_tellEach 30 = .ok (.goto (-27), 3) := by decide +kernel
theorem dX3_tellEach_33 : decode cX3_tellEach 33 = .ok (.return_, 1) := by decide +kernel
set_option maxRecDepth 20000 in
theorem ggX3_tellPair_X3_tellWord : GoodIn wsX3_tellPair wsX3_tellWord := goodIn_r _ [5, 6, 7, 8, 9, 10, 11, 12, 13, 14, 15, 16, 17, 18, 19, 20, 21, 22, 23, 24, 25, 26, 27, 28, 29, 30, 31, 32, 33, 34, 35, 36, 37, 38, 39, 40, 41, 42, 43, 44, 45, 46, 47, 48, 49, 50, 51, 52, 53, 54, 55, 56, 57, 58, 4, 59, 60, 61, 67, 68] (by decide +kernel) (by decide +kernel)
set_option maxRecDepth 20000 in
theorem gX3_tellPair_X3_tellWord : GoodIn wsX3_tellPair (wsV RX3 40 RX3 yX3_tellWord wsX3_tellWord) := goodIn_app (goodIn_of _ (by decide +kernel)) ggX3_tellPair_X3_tellWord
set_option maxRecDepth 20000 in
theorem ggX3_tellPair_X3_tellNumber : GoodIn wsX3_tellPair wsX3_tellNumber := goodIn_r _ [65, 66, 56, 57, 58, 4, 59, 60, 61, 67, 68] (by decide +kernel) (by decide +kernel)
set_option maxRecDepth 20000 in
theorem gX3_tellPair_X3_tellNumber : GoodIn wsX3_tellPair (wsV RX3 48 RX3 yX3_tellNumber wsX3_tellNumber) := goodIn_app (goodIn_of _ (by decide +kernel)) ggX3_tellPair_X3_tellNumber
theorem dX3_tellPair_0 : decode cX3_tellPair 0 = .ok (.aload_n 0, 1) := by decide +kernel
theorem dX3_tellPair_1 : decode cX3_tellPair 1 = .ok (.aload_n 1, 1) := by decide +kernel
theorem dX3_tellPair_2 : decode cX3_tellPair 2 = .ok (.invokevirtual 40, 3) := by decide +kernel
theorem dX3_tellPair_5 : decode cX3_tellPair 5 = .ok (.aload_n 0, 1) := by decide +kernel
theorem dX3_tellPair_6 : decode cX3_tellPair 6 = .ok (.iload_n 2, 1) := by decide +kernel
theorem dX3_tellPair_7 : decode cX3_tellPair 7 = .ok (.i2l, 1) := by decide +kernel
theorem dX3_tellPair_8 : decode cX3_tellPair 8 = .ok (.invokevirtual 48, 3) := by decide +kernel
theorem dX3_tellPair_11 : decode cX3_tellPair 11 = .ok (.aload_n 0, 1) := by decide +kernel
theorem dX3_tellPair_12 : decode cX3_tellPair 12 = .ok (.iload_n 3, 1) := by decide +kernel
theorem dX3_tellPair_13 : decode cX3_tellPair 13 = .ok (.i2l, 1) := by decide +kernel
theorem dX3_tellPair_14 : decode cX3_tellPair 14 = .ok (.invokevirtual 48, 3) := by decide +kernel
theorem dX3_tellPair_17 : decode cX3_tellPair 17 = .ok (.return_, 1) := by decide +kernel
set_option maxRecDepth 20000 in
theorem ggX3_tellWord_J0_length_8abf5 : GoodIn wsX3_tellWord wsJ0_length_8abf5 := goodIn_r _ [6, 7, 8, 9, 10, 5, 11, 12, 13] (by decide +kernel) (by decide +kernel)
set_option maxRecDepth 20000 in
theorem gX3_tellWord_J0_length_8abf5 : GoodIn wsX3_tellWord (wsV RX3 125 RJ0 yJ0_length_8abf5 wsJ0_length_8abf5) := goodIn_app (goodIn_of _ (by decide +kernel)) ggX3_tellWord_J0_length_8abf5
set_option maxRecDepth 20000 in
theorem ggX3_tellWord_J0_charAt_5068e : GoodIn wsX3_tellWord wsJ0_charAt_5068e := goodIn_r _ [17, 7, 18, 19, 20, 5, 21, 12, 13, 22, 23, 24, 25, 26, 27, 28, 29, 30, 31, 32, 33, 34, 35, 36, 37, 38, 39, 40, 41, 42, 43, 44, 45, 46, 47, 48, 49, 50] (by decide +kernel) (by decide +kernel)
set_option maxRecDepth 20000 in
theorem gX3_tellWord_J0_charAt_5068e : GoodIn wsX3_tellWord (wsV RX3 131 RJ0 yJ0_charAt_5068e wsJ0_charAt_5068e) := goodIn_app (goodIn_of _ (by decide +kernel)) ggX3_tellWord_J0_charAt_5068e
set_option maxRecDepth 20000 in
theorem ggX3_tellWord_X3_tellByte : GoodIn wsX3_tellWord wsX3_tellByte := goodIn_r _ [55, 56, 57, 58, 59] (by decide +kernel) (by decide +kernel)
set_option maxRecDepth 20000 in
theorem gX3_tellWord_X3_tellByte : GoodIn wsX3_tellWord (wsV RX3 135 RX3 yX3_tellByte wsX3_tellByte) := goodIn_app (goodIn_of _ (by decide +kernel)) ggX3_tellWord_X3_tellByte
theorem dX3_tellWord_0 : decode cX3_tellWord 0 = .ok (.iconst 0, 1) := by decide +kernel
theorem dX3_tellWord_1 : decode cX3_tellWord 1 = .ok (.istore_n 2, 1) := by decide +kernel
theorem dX3_tellWord_2 : decode cX3_tellWord 2 = .ok (.iload_n 2, 1) := by decide +kernel
theorem dX3_tellWord_3 : decode cX3_tellWord 3 = .ok (.aload_n 1, 1) := by decide +kernel
theorem dX3_tellWord_4 : decode cX3_tellWord 4 = .ok (.getfield 121, 3) := by decide +kernel
theorem dX3_tellWord_7 : decode cX3_tellWord 7 = .ok (.invokevirtual 125, 3) := by decide +kernel
theorem dX3_tellWord_10 : decode cX3_tellWord 10 = .ok (.if_icmp .ge 21, 3) := by decide +kernel
theorem dX3_tellWord_13 : decode cX3_tellWord 13 = .ok (.aload_n 0, 1) := by decide +kernel
theorem dX3_tellWord_14 : decode cX3_tellWord 14 = .ok (.aload_n 1, 1) := by decide +kernel
theorem dX3_tellWord_15 : decode cX3_tellWord 15 = .ok (.getfield 121, 3) := by decide +kernel
theorem dX3_tellWord_18 : decode cX3_tellWord 18 = .ok (.iload_n 2, 1) := by decide +kernel
theorem dX3_tellWord_19 : decode cX3_tellWord 19 = .ok (.invokevirtual 131, 3) := by decide +kernel
theorem dX3_tellWord_22 : decode cX3_tellWord 22 = .ok (.invokevirtual 135, 3) := by decide +kernel
theorem dX3_tellWord_25 : decode cX3_tellWord 25 = .ok (.iinc 2 1, 3) := by decide +kernel
theorem dX3_tellWord_28 : decode cX3_tellWord 28 = .ok (.goto (-26), 3) := by decide +kernel
theorem dX3_tellWord_31 : decode cX3_tellWord 31 = .ok (.aload_n 0, 1) := by decide +kernel
theorem dX3_tellWord_32 : decode cX3_tellWord 32 = .ok (.bipush 32, 2) := by decide +kernel
theorem dX3_tellWord_34 : decode cX3_tellWord 34 = .ok (.invokevirtual 135, 3) := by decide +kernel
theorem dX3_tellWord_37 : decode cX3_tellWord 37 = .ok (.return_, 1) := by decide +kernel
set_option maxRecDepth 20000 in
theorem ggX3_tellNumber_X3_tellByte : GoodIn wsX3_tellNumber wsX3_tellByte := goodIn_r _ [6, 7, 8, 9, 10] (by decide +kernel) (by decide +kernel)
set_option maxRecDepth 20000 in
theorem gX3_tellNumber_X3_tellByte : GoodIn wsX3_tellNumber (wsV RX3 135 RX3 yX3_tellByte wsX3_tellByte) := goodIn_app (goodIn_of _ (by decide +kernel)) ggX3_tellNumber_X3_tellByte
theorem dX3_tellNumber_0 : decode cX3_tellNumber 0 = .ok (.lconst 1, 1) := by decide +kernel
theorem dX3_tellNumber_1 : decode cX3_tellNumber 1 = .ok (.lstore_n 3, 1) := by decide +kernel
theorem dX3_tellNumber_2 : decode cX3_tellNumber 2 = .ok (.iconst 1, 1) := by decide +kernel
theorem dX3_tellNumber_3 : decode cX3_tellNumber 3 = .ok (.istore 5, 2) := by decide +kernel
theorem dX3_tellNumber_5 : decode cX3_tellNumber 5 = .ok (.iload 5, 2) := by decide +kernel
theorem dX3_tellNumber_7 : decode cX3_tellNumber 7 = .ok (.bipush 9, 2) := by decide +kernel
theorem dX3_tellNumber_9 : decode cX3_tellNumber 9 = .ok (.if_icmp .ge 25, 3) := by decide +kernel
theorem dX3_tellNumber_12 : decode cX3_tellNumber 12 = .ok (.lload_n 1, 1) := by decide +kernel
theorem dX3_tellNumber_13 : decode cX3_tellNumber 13 = .ok (.lload_n 3, 1) := by decide +kernel
theorem dX3_tellNumber_14 : decode cX3_tellNumber 14 = .ok (.ldiv, 1) := by decide +kernel
theorem dX3_tellNumber_15 : decode cX3_tellNumber 15 = .ok (.ldc2_w 139, 3) := by decide +kernel
theorem dX3_tellNumber_18 : decode cX3_tellNumber 18 = .ok (.lcmp, 1) := by decide +kernel
theorem dX3_tellNumber_19 : decode cX3_tellNumber 19 = .ok (.ifCond .lt 15, 3) := by decide +kernel
theorem dX3_tellNumber_22 : decode cX3_tellNumber 22 = .ok (.lload_n 3, 1) := by decide +kernel
theorem dX3_tellNumber_23 : decode cX3_tellNumber 23 = .ok (.ldc2_w 139, 3) := by decide +kernel
theorem dX3_tellNumber_26 : decode cX3_tellNumber 26 = .ok (.lmul, 1) := by decide +kernel
theorem dX3_tellNumber_27 : decode cX3_tellNumber 27 = .ok (.lstore_n 3, 1) := by decide +kernel
theorem dX3_tellNumber_28 : decode cX3_tellNumber 28 = .ok (.iinc 5 1, 3) := by decide +kernel
theorem dX3_tellNumber_31 : decode cX3_tellNumber 31 = .ok (.goto (-26), 3) := by decide +kernel
theorem dX3_tellNumber_34 : decode cX3_tellNumber 34 = .ok (.iconst 0, 1) := by decide +kernel
theorem dX3_tellNumber_35 : decode cX3_tellNumber 35 = .ok (.istore 5, 2) := by decide +kernel
theorem dX3_tellNumber_37 : decode cX3_tellNumber 37 = .ok (.iload 5, 2) := by decide +kernel
theorem dX3_tellNumber_39 : decode cX3_tellNumber 39 = .ok (.bipush 9, 2) := by decide +kernel
theorem dX3_tellNumber_41 : decode cX3_tellNumber 41 = .ok (.if_icmp .ge 36, 3) := by decide +kernel
theorem dX3_tellNumber_44 : decode cX3_tellNumber 44 = .ok (.lload_n 3, 1) := by decide +kernel
theorem dX3_tellNumber_45 : decode cX3_tellNumber 45 = .ok (.lconst 0, 1) := by decide +kernel
theorem dX3_tellNumber_46 : decode cX3_tellNumber 46 = .ok (.lcmp, 1) := by decide +kernel
theorem dX3_tellNumber_47 : decode cX3_tellNumber 47 = .ok (.ifCond .le 30, 3) := by decide +kernel
theorem dX3_tellNumber_50 : decode cX3_tellNumber 50 = .ok (.aload_n 0, 1) := by decide +kernel
theorem dX3_tellNumber_51 : decode cX3_tellNumber 51 = .ok (.bipush 48, 2) := by decide +kernel
theorem dX3_tellNumber_53 : decode cX3_tellNumber 53 = .ok (.lload_n 1, 1) := by decide +kernel
theorem dX3_tellNumber_54 : decode cX3_tellNumber 54 = .ok (.lload_n 3, 1) := by decide +kernel
theorem dX3_tellNumber_55 : decode cX3_tellNumber 55 = .ok (.ldiv, 1) := by decide +kernel
theorem dX3_tellNumber_56 : decode cX3_tellNumber 56 = .ok (.ldc2_w 139, 3) := by decide +kernel
theorem dX3_tellNumber_59 : decode cX3_tellNumber 59 = .ok (.lrem, 1) := by decide +kernel
theorem dX3_tellNumber_60 : decode cX3_tellNumber 60 = .ok (.l2i, 1) := by decide +kernel
theorem dX3_tellNumber_61 : decode cX3_tellNumber 61 = .ok (.iadd, 1) := by decide +kernel
theorem dX3_tellNumber_62 : decode cX3_tellNumber 62 = .ok (.invokevirtual 135, 3) := by decide +kernel
theorem dX3_tellNumber_65 : decode cX3_tellNumber 65 = .ok (.lload_n 3, 1) := by decide +kernel
theorem dX3_tellNumber_66 : decode cX3_tellNumber 66 = .ok (.ldc2_w 139, 3) := by decide +kernel
theorem dX3_tellNumber_69 : decode cX3_tellNumber 69 = .ok (.ldiv, 1) := by decide +kernel
theorem dX3_tellNumber_70 : decode cX3_tellNumber 70 = .ok (.lstore_n 3, 1) := by decide +kernel
theorem dX3_tellNumber_71 : decode cX3_tellNumber 71 = .ok (.iinc 5 1, 3) := by decide +kernel
theorem dX3_tellNumber_74 : decode cX3_tellNumber 74 = .ok (.goto (-37), 3) := by decide +kernel
theorem dX3_tellNumber_77 : decode cX3_tellNumber 77 = .ok (.aload_n 0, 1) := by decide +kernel
theorem dX3_tellNumber_78 : decode cX3_tellNumber 78 = .ok (.bipush 32, 2) := by decide +kernel
theorem dX3_tellNumber_80 : decode cX3_tellNumber 80 = .ok (.invokevirtual 135, 3) := by decide +kernel
theorem dX3_tellNumber_83 : decode cX3_tellNumber 83 = .ok (.return_, 1) := by decide +kernel
theorem dX3_tellByte_0 : decode cX3_tellByte 0 = .ok (.aload_n 0, 1) := by decide +kernel
theorem dX3_tellByte_1 : decode cX3_tellByte 1 = .ok (.getfield 9, 3) := by decide +kernel
theorem dX3_tellByte_4 : decode cX3_tellByte 4 = .ok (.ifCond .ne 8, 3) := by decide +kernel
theorem dX3_tellByte_7 : decode cX3_tellByte 7 = .ok (.aload_n 0, 1) := by decide +kernel
theorem dX3_tellByte_8 : decode cX3_tellByte 8 = .ok (.iload_n 1, 1) := by decide +kernel
theorem dX3_tellByte_9 : decode cX3_tellByte 9 = .ok (.putfield 15, 3) := by decide +kernel
theorem dX3_tellByte_12 : decode cX3_tellByte 12 = .ok (.aload_n 0, 1) := by decide +kernel
theorem dX3_tellByte_13 : decode cX3_tellByte 13 = .ok (.dup, 1) := by decide +kernel
theorem dX3_tellByte_14 : decode cX3_tellByte 14 = .ok (.getfield 9, 3) := by decide +kernel
theorem dX3_tellByte_17 : decode cX3_tellByte 17 = .ok (.iconst 1, 1) := by decide +kernel
theorem dX3_tellByte_18 : decode cX3_tellByte 18 = .ok (.isub, 1) := by decide +kernel
theorem dX3_tellByte_19 : decode cX3_tellByte 19 = .ok (.putfield 9, 3) := by decide +kernel
theorem dX3_tellByte_22 : decode cX3_tellByte 22 = .ok (.return_, 1) := by decide +kernel
