theorem dX6_sizeOf_20 : decode cX6_sizeOf 20 = .ok (.iaload, 1) := by decide +kernel
theorem dX6_sizeOf_21 : decode cX6_sizeOf 21 = .ok (.iload_n 1, 1) := by decide +kernel
theorem dX6_sizeOf_22 : decode cX6_sizeOf 22 = .ok (.if_icmp .ne 7, 3) := by decide +kernel
theorem dX6_sizeOf_25 : decode cX6_sizeOf 25 = .ok (.iconst 1, 1) := by decide +kernel
theorem dX6_sizeOf_26 : decode cX6_sizeOf 26 = .ok (.goto 4, 3) := by decide +kernel
theorem dX6_sizeOf_29 : decode cX6_sizeOf 29 = .ok (.iconst 0, 1) := by decide +kernel
theorem dX6_sizeOf_30 : decode cX6_sizeOf 30 = .ok (.iadd, 1) := by decide +kernel
theorem dX6_sizeOf_31 : decode cX6_sizeOf 31 = .ok (.istore_n 2, 1) := by decide +kernel
theorem dX6_sizeOf_32 : decode cX6_sizeOf 32 = .ok (.iinc 3 1, 3) := by decide +kernel
theorem dX6_sizeOf_35 : decode cX6_sizeOf 35 = .ok (.goto (-31), 3) := by decide +kernel
theorem dX6_sizeOf_38 : decode cX6_sizeOf 38 = .ok (.iload_n 2, 1) := by decide +kernel
theorem dX6_sizeOf_39 : decode cX6_sizeOf 39 = .ok (.ireturn, 1) := by decide +kernel
theorem dX6_orderOf_0 : decode cX6_orderOf 0 = .ok (.iconst 0, 1) := by decide +kernel
theorem dX6_orderOf_1 : decode cX6_orderOf 1 = .ok (.istore_n 2, 1) := by decide +kernel
theorem dX6_orderOf_2 : decode cX6_orderOf 2 = .ok (.iconst 0, 1) := by decide +kernel
theorem dX6_orderOf_3 : decode cX6_orderOf 3 = .ok (.istore_n 3, 1) := by decide +kernel
theorem dX6_orderOf_4 : decode cX6_orderOf 4 = .ok (.iload_n 3, 1) := by decide +kernel
theorem dX6_orderOf_5 : decode cX6_orderOf 5 = .ok (.iload_n 1, 1) := by decide +kernel
theorem dX6_orderOf_6 : decode cX6_orderOf 6 = .ok (.if_icmp .ge 32, 3) := by decide +kernel
theorem dX6_orderOf_9 : decode cX6_orderOf 9 = .ok (.iload_n 2, 1) := by decide +kernel
theorem dX6_orderOf_10 : decode cX6_orderOf 10 = .ok (.aload_n 0, 1) := by decide +kernel
theorem dX6_orderOf_11 : decode cX6_orderOf 11 = .ok (.getfield 35, 3) := by decide +kernel
theorem dX6_orderOf_14 : decode cX6_orderOf 14 = .ok (.iload_n 3, 1) := by decide +kernel
theorem dX6_orderOf_15 : decode cX6_orderOf 15 = .ok (.iaload, 1) := by decide +kernel
theorem dX6_orderOf_16 : decode cX6_orderOf 16 = .ok (.aload_n 0, 1) := by decide +kernel
theorem dX6_orderOf_17 : decode cX6_orderOf 17 = .ok (.getfield 35, 3) := by decide +kernel
theorem dX6_orderOf_20 : decode cX6_orderOf 20 = .ok (.iload_n 1, 1) := by decide +kernel
theorem dX6_orderOf_21 : decode cX6_orderOf 21 = .ok (.iaload, 1) := by decide +kernel
theorem dX6_orderOf_22 : decode cX6_orderOf 22 = .ok (.if_icmp .ne 7, 3) := by decide +kernel
theorem dX6_orderOf_25 : decode cX6_orderOf 25 = .ok (.iconst 1, 1) := by decide +kernel
theorem dX6_orderOf_26 : decode cX6_orderOf 26 = .ok (.goto 4, 3) := by decide +kernel
theorem dX6_orderOf_29 : decode cX6_orderOf 29 = .ok (.iconst 0, 1) := by decide +kernel
theorem dX6_orderOf_30 : decode cX6_orderOf 30 = .ok (.iadd, 1) := by decide +kernel
theorem dX6_orderOf_31 : decode cX6_orderOf 31 = .ok (.istore_n 2, 1) := by decide +kernel
theorem dX6_orderOf_32 : decode cX6_orderOf 32 = .ok (.iinc 3 1, 3) := by decide +kernel
theorem dX6_orderOf_35 : decode cX6_orderOf 35 = .ok (.goto (-31), 3) := by decide +kernel
theorem dX6_orderOf_38 : decode cX6_orderOf 38 = .ok (.iload_n 2, 1) := by decide +kernel
theorem dX6_orderOf_39 : decode cX6_orderOf 39 = .ok (.ireturn, 1) := by decide +kernel
set_option maxRecDepth 20000 in
theorem ggX6_family_X6_sizeOf : GoodIn wsX6_family wsX6_sizeOf := goodIn_r _ [7, 2, 8, 17, 18, 19, 20, 21, 22, 23, 24, 25, 26, 27, 28, 29, 30, 31, 32, 33, 34] (by decide +kernel) (by decide +kernel)
set_option maxRecDepth 20000 in
theorem gX6_family_X6_sizeOf : GoodIn wsX6_family (wsV RX6 152 RX6 yX6_sizeOf wsX6_sizeOf) := goodIn_app (goodIn_of _ (by decide +kernel)) ggX6_family_X6_sizeOf
set_option maxRecDepth 20000 in
theorem ggX6_family_X6_isIn : GoodIn wsX6_family wsX6_isIn := goodIn_r _ [12, 8, 3, 4, 5, 6, 7, 2, 13, 14, 15, 16, 17, 18, 19, 20, 21, 22, 23, 24, 25, 26, 27, 28, 29, 30, 31, 32, 33, 34] (by decide +kernel) (by decide +kernel)
set_option maxRecDepth 20000 in
theorem gX6_family_X6_isIn : GoodIn wsX6_family (wsV RX6 155 RX6 yX6_isIn wsX6_isIn) := goodIn_app (goodIn_of _ (by decide +kernel)) ggX6_family_X6_isIn
theorem dX6_family_0 : decode cX6_family 0 = .ok (.aload_n 0, 1) := by decide +kernel
theorem dX6_family_1 : decode cX6_family 1 = .ok (.iconst 0, 1) := by decide +kernel
theorem dX6_family_2 : decode cX6_family 2 = .ok (.putfield 52, 3) := by decide +kernel
theorem dX6_family_5 : decode cX6_family 5 = .ok (.iconst 1, 1) := by decide +kernel
theorem dX6_family_6 : decode cX6_family 6 = .ok (.istore_n 3, 1) := by decide +kernel
theorem dX6_family_7 : decode cX6_family 7 = .ok (.iconst 0, 1) := by decide +kernel
theorem dX6_family_8 : decode cX6_family 8 = .ok (.istore 4, 2) := by decide +kernel
theorem dX6_family_10 : decode cX6_family 10 = .ok (.iload 4, 2) := by decide +kernel
theorem dX6_family_12 : decode cX6_family 12 = .ok (.iconst 4, 1) := by decide +kernel
theorem dX6_family_13 : decode cX6_family 13 = .ok (.if_icmp .ge 31, 3) := by decide +kernel
theorem dX6_family_16 : decode cX6_family 16 = .ok (.iload_n 3, 1) := by decide +kernel
theorem dX6_family_17 : decode cX6_family 17 = .ok (.aload_n 0, 1) := by decide +kernel
theorem dX6_family_18 : decode cX6_family 18 = .ok (.iload 4, 2) := by decide +kernel
theorem dX6_family_20 : decode cX6_family 20 = .ok (.invokevirtual 152, 3) := by decide +kernel
theorem dX6_family_23 : decode cX6_family 23 = .ok (.ifCond .le 12, 3) := by decide +kernel
theorem dX6_family_26 : decode cX6_family 26 = .ok (.aload_n 0, 1) := by decide +kernel
theorem dX6_family_27 : decode cX6_family 27 = .ok (.iload 4, 2) := by decide +kernel
theorem dX6_family_29 : decode cX6_family 29 = .ok (.invokevirtual 152, 3) := by decide +kernel
theorem dX6_family_32 : decode cX6_family 32 = .ok (.goto 4, 3) := by decide +kernel
theorem dX6_family_35 : decode cX6_family 35 = .ok (.iconst 1, 1) := by decide +kernel
theorem dX6_family_36 : decode cX6_family 36 = .ok (.imul, 1) := by decide +kernel
theorem dX6_family_37 : decode cX6_family 37 = .ok (.istore_n 3, 1) := by decide +kernel
theorem dX6_family_38 : decode cX6_family 38 = .ok (.iinc 4 1, 3) := by decide +kernel
theorem dX6_family_41 : decode cX6_family 41 = .ok (.goto (-31), 3) := by decide +kernel
theorem dX6_family_44 : decode cX6_family 44 = .ok (.iload_n 1, 1) := by decide +kernel
theorem dX6_family_45 : decode cX6_family 45 = .ok (.ifCond .lt 8, 3) := by decide +kernel
theorem dX6_family_48 : decode cX6_family 48 = .ok (.iload_n 1, 1) := by decide +kernel
theorem dX6_family_49 : decode cX6_family 49 = .ok (.iload_n 3, 1) := by decide +kernel
theorem dX6_family_50 : decode cX6_family 50 = .ok (.if_icmp .lt 5, 3) := by decide +kernel
theorem dX6_family_53 : decode cX6_family 53 = .ok (.iconst (-1), 1) := by decide +kernel
theorem dX6_family_54 : decode cX6_family 54 = .ok (.ireturn, 1) := by decide +kernel
theorem dX6_family_55 : decode cX6_family 55 = .ok (.iconst 0, 1) := by decide +kernel
theorem dX6_family_56 : decode cX6_family 56 = .ok (.istore 4, 2) := by decide +kernel
theorem dX6_family_58 : decode cX6_family 58 = .ok (.iconst 0, 1) := by decide +kernel
theorem dX6_family_59 : decode cX6_family 59 = .ok (.istore 5, 2) := by decide +kernel
theorem dX6_family_61 : decode cX6_family 61 = .ok (.iload 5, 2) := by decide +kernel
theorem dX6_family_63 : decode cX6_family 63 = .ok (.aload_n 0, 1) := by decide +kernel
theorem dX6_family_64 : decode cX6_family 64 = .ok (.getfield 7, 3) := by decide +kernel
theorem dX6_family_67 : decode cX6_family 67 = .ok (.iconst 0, 1) := by decide +kernel
theorem dX6_family_68 : decode cX6_family 68 = .ok (.iaload, 1) := by decide +kernel
theorem dX6_family_69 : decode cX6_family 69 = .ok (.if_icmp .ge 31, 3) := by decide +kernel
theorem dX6_family_72 : decode cX6_family 72 = .ok (.aload_n 0, 1) := by decide +kernel
theorem dX6_family_73 : decode cX6_family 73 = .ok (.iload 5, 2) := by decide +kernel
theorem dX6_family_75 : decode cX6_family 75 = .ok (.iload_n 1, 1) := by decide +kernel
theorem dX6_family_76 : decode cX6_family 76 = .ok (.invokevirtual 155, 3) := by decide +kernel
theorem dX6_family_79 : decode cX6_family 79 = .ok (.ifCond .eq 15, 3) := by decide +kernel
theorem dX6_family_82 : decode cX6_family 82 = .ok (.iload 4, 2) := by decide +kernel
theorem dX6_family_84 : decode cX6_family 84 = .ok (.iload_n 2, 1) := by decide +kernel
theorem dX6_family_85 : decode cX6_family 85 = .ok (.if_icmp .ne 6, 3) := by decide +kernel
theorem dX6_family_88 : decode cX6_family 88 = .ok (.iload 5, 2) := by decide +kernel
theorem dX6_family_90 : decode cX6_family 90 = .ok (.ireturn, 1) := by decide +kernel
theorem dX6_family_91 : decode cX6_family 91 = .ok (.iinc 4 1, 3) := by decide +kernel
theorem dX6_family_94 : decode cX6_family 94 = .ok (.iinc 5 1, 3) := by decide +kernel
theorem dX6_family_97 : decode cX6_family 97 = .ok (.goto (-36), 3) := by decide +kernel
theorem dX6_family_100 : decode cX6_family 100 = .ok (.iconst (-1), 1) := by decide +kernel
theorem dX6_family_101 : decode cX6_family 101 = .ok (.ireturn, 1) := by decide +kernel
set_option maxRecDepth 20000 in
theorem ggX6_isIn_X6_sizeOf : GoodIn wsX6_isIn wsX6_sizeOf := goodIn_r _ [6, 7, 1, 12, 13, 14, 15, 16, 17, 18, 19, 20, 21, 22, 23, 24, 25, 26, 27, 28, 29] (by decide +kernel) (by decide +kernel)
set_option maxRecDepth 20000 in
theorem gX6_isIn_X6_sizeOf : GoodIn wsX6_isIn (wsV RX6 152 RX6 yX6_sizeOf wsX6_sizeOf) := goodIn_app (goodIn_of _ (by decide +kernel)) ggX6_isIn_X6_sizeOf
set_option maxRecDepth 20000 in
theorem ggX6_isIn_X6_orderOf : GoodIn wsX6_isIn wsX6_orderOf := goodIn_r _ [11, 1, 12, 13, 14, 15, 16, 17, 18, 19, 20, 21, 22, 23, 24, 25, 26, 27, 28, 29] (by decide +kernel) (by decide +kernel)
set_option maxRecDepth 20000 in
theorem gX6_isIn_X6_orderOf : GoodIn wsX6_isIn (wsV RX6 158 RX6 yX6_orderOf wsX6_orderOf) := goodIn_app (goodIn_of _ (by decide +kernel)) ggX6_isIn_X6_orderOf
theorem dX6_isIn_0 : decode cX6_isIn 0 = .ok (.aload_n 0, 1) := by decide +kernel
theorem dX6_isIn_1 : decode cX6_isIn 1 = .ok (.getfield 35, 3) := by decide +kernel
theorem dX6_isIn_4 : decode cX6_isIn 4 = .ok (.iload_n 1, 1) := by decide +kernel
theorem dX6_isIn_5 : decode cX6_isIn 5 = .ok (.iaload, 1) := by decide +kernel
theorem dX6_isIn_6 : decode cX6_isIn 6 = .ok (.ifCond .ge 5, 3) := by decide +kernel
theorem dX6_isIn_9 : decode cX6_isIn 9 = .ok (.iconst 1, 1) := by decide +kernel
theorem dX6_isIn_10 : decode cX6_isIn 10 = .ok (.ireturn, 1) := by decide +kernel
theorem dX6_isIn_11 : decode cX6_isIn 11 = .ok (.iconst 1, 1) := by decide +kernel
theorem dX6_isIn_12 : decode cX6_isIn 12 = .ok (.istore_n 3, 1) := by decide +kernel
theorem dX6_isIn_13 : decode cX6_isIn 13 = .ok (.aload_n 0, 1) := by decide +kernel
theorem dX6_isIn_14 : decode cX6_isIn 14 = .ok (.getfield 35, 3) := by decide +kernel
theorem dX6_isIn_17 : decode cX6_isIn 17 = .ok (.iload_n 1, 1) := by decide +kernel
theorem dX6_isIn_18 : decode cX6_isIn 18 = .ok (.iaload, 1) := by decide +kernel
theorem dX6_isIn_19 : decode cX6_isIn 19 = .ok (.iconst 1, 1) := by decide +kernel
theorem dX6_isIn_20 : decode cX6_isIn 20 = .ok (.iadd, 1) := by decide +kernel
theorem dX6_isIn_21 : decode cX6_isIn 21 = .ok (.istore 4, 2) := by decide +kernel
theorem dX6_isIn_23 : decode cX6_isIn 23 = .ok (.iload 4, 2) := by decide +kernel
theorem dX6_isIn_25 : decode cX6_isIn 25 = .ok (.iconst 4, 1) := by decide +kernel
theorem dX6_isIn_26 : decode cX6_isIn 26 = .ok (.if_icmp .ge 31, 3) := by decide +kernel
theorem dX6_isIn_29 : decode cX6_isIn 29 = .ok (.iload_n 3, 1) := by decide +kernel
theorem dX6_isIn_30 : decode cX6_isIn 30 = .ok (.aload_n 0, 1) := by decide +kernel
theorem dX6_isIn_31 : decode cX6_isIn 31 = .ok (.iload 4, 2) := by decide +kernel
theorem dX6_isIn_33 : decode cX6_isIn 33 = .ok (.invokevirtual 152, 3) := by decide +kernel
theorem dX6_isIn_36 : decode cX6_isIn 36 = .ok (.ifCond .le 12, 3) := by decide +kernel
theorem dX6_isIn_39 : decode cX6_isIn 39 = .ok (.aload_n 0, 1) := by decide +kernel
theorem dX6_isIn_40 : decode cX6_isIn 40 = .ok (.iload 4, 2) := by decide +kernel
theorem dX6_isIn_42 : decode cX6_isIn 42 = .ok (.invokevirtual 152, 3) := by decide +kernel
theorem dX6_isIn_45 : decode cX6_isIn 45 = .ok (.goto 4, 3) := by decide +kernel
theorem dX6_isIn_48 : decode cX6_isIn 48 = .ok (.iconst 1, 1) := by decide +kernel
theorem dX6_isIn_49 : decode cX6_isIn 49 = .ok (.imul, 1) := by decide +kernel
theorem dX6_isIn_50 : decode cX6_isIn 50 = .ok (.istore_n 3, 1) := by decide +kernel
theorem dX6_isIn_51 : decode cX6_isIn 51 = .ok (.iinc 4 1, 3) := by decide +kernel
theorem dX6_isIn_54 : decode cX6_isIn 54 = .ok (.goto (-31), 3) := by decide +kernel
theorem dX6_isIn_57 : decode cX6_isIn 57 = .ok (.iload_n 2, 1) := by decide +kernel
theorem dX6_isIn_58 : decode cX6_isIn 58 = .ok (.iload_n 3, 1) := by decide +kernel
theorem dX6_isIn_59 : decode cX6_isIn 59 = .ok (.idiv, 1) := by decide +kernel
theorem dX6_isIn_60 : decode cX6_isIn 60 = .ok (.aload_n 0, 1) := by decide +kernel
theorem dX6_isIn_61 : decode cX6_isIn 61 = .ok (.aload_n 0, 1) := by decide +kernel
theorem dX6_isIn_62 : decode cX6_isIn 62 = .ok (.getfield 35, 3) := by decide +kernel
theorem dX6_isIn_65 : decode cX6_isIn 65 = .ok (.iload_n 1, 1) := by decide +kernel
theorem dX6_isIn_66 : decode cX6_isIn 66 = .ok (.iaload, 1) := by decide +kernel
theorem dX6_isIn_67 : decode cX6_isIn 67 = .ok (.invokevirtual 152, 3) := by decide +kernel
theorem dX6_isIn_70 : decode cX6_isIn 70 = .ok (.irem, 1) := by decide +kernel
theorem dX6_isIn_71 : decode cX6_isIn 71 = .ok (.aload_n 0, 1) := by decide +kernel
theorem dX6_isIn_72 : decode cX6_isIn 72 = .ok (.iload_n 1, 1) := by decide +kernel
theorem dX6_isIn_73 : decode cX6_isIn 73 = .ok (.invokevirtual 158, 3) := by decide +kernel
theorem dX6_isIn_76 : decode cX6_isIn 76 = .ok (.if_icmp .ne 7, 3) := by decide +kernel
theorem dX6_isIn_79 : decode cX6_isIn 79 = .ok (.iconst 1, 1) := by decide +kernel
theorem dX6_isIn_80 : decode cX6_isIn 80 = .ok (.goto 4, 3) := by decide +kernel
theorem dX6_isIn_83 : decode cX6_isIn 83 = .ok (.iconst 0, 1) := by decide +kernel
theorem dX6_isIn_84 : decode cX6_isIn 84 = .ok (.ireturn, 1) := by decide +kernel
set_option maxRecDepth 20000 in
theorem ggX6_pieceOf_X6_isOff : GoodIn wsX6_pieceOf wsX6_isOff := goodIn_r _ [6] (by decide +kernel) (by decide +kernel)
set_option maxRecDepth 20000 in
theorem gX6_pieceOf_X6_isOff : GoodIn wsX6_pieceOf (va_wsS RX6 138 yX6_isOff wsX6_isOff) := goodIn_app (goodIn_of _ (by decide +kernel)) ggX6_pieceOf_X6_isOff
theorem dX6_pieceOf_0 : decode cX6_pieceOf 0 = .ok (.lload_n 2, 1) := by decide +kernel
theorem dX6_pieceOf_1 : decode cX6_pieceOf 1 = .ok (.iload_n 1, 1) := by decide +kernel
theorem dX6_pieceOf_2 : decode cX6_pieceOf 2 = .ok (.invokestatic 138, 3) := by decide +kernel
theorem dX6_pieceOf_5 : decode cX6_pieceOf 5 = .ok (.ifCond .eq 7, 3) := by decide +kernel
theorem dX6_pieceOf_8 : decode cX6_pieceOf 8 = .ok (.lconst 0, 1) := by decide +kernel
theorem dX6_pieceOf_9 : decode cX6_pieceOf 9 = .ok (.goto 6, 3) := by decide +kernel
theorem dX6_pieceOf_12 : decode cX6_pieceOf 12 = .ok (.lconst 1, 1) := by decide +kernel
theorem dX6_pieceOf_13 : decode cX6_pieceOf 13 = .ok (.iload_n 1, 1) := by decide +kernel
theorem dX6_pieceOf_14 : decode cX6_pieceOf 14 = .ok (.lshl, 1) := by decide +kernel
theorem dX6_pieceOf_15 : decode cX6_pieceOf 15 = .ok (.lstore 4, 2) := by decide +kernel
theorem dX6_pieceOf_17 : decode cX6_pieceOf 17 = .ok (.iconst 0, 1) := by decide +kernel
theorem dX6_pieceOf_18 : decode cX6_pieceOf 18 = .ok (.istore 6, 2) := by decide +kernel
theorem dX6_pieceOf_20 : decode cX6_pieceOf 20 = .ok (.iload 6, 2) := by decide +kernel
theorem dX6_pieceOf_22 : decode cX6_pieceOf 22 = .ok (.bipush 10, 2) := by decide +kernel
theorem dX6_pieceOf_24 : decode cX6_pieceOf 24 = .ok (.if_icmp .ge 121, 3) := by decide +kernel
theorem dX6_pieceOf_27 : decode cX6_pieceOf 27 = .ok (.iconst 0, 1) := by decide +kernel
theorem dX6_pieceOf_28 : decode cX6_pieceOf 28 = .ok (.istore 7, 2) := by decide +kernel
theorem dX6_pieceOf_30 : decode cX6_pieceOf 30 = .ok (.iload 7, 2) := by decide +kernel
theorem dX6_pieceOf_32 : decode cX6_pieceOf 32 = .ok (.aload_n 0, 1) := by decide +kernel
theorem dX6_pieceOf_33 : decode cX6_pieceOf 33 = .ok (.getfield 26, 3) := by decide +kernel
theorem dX6_pieceOf_36 : decode cX6_pieceOf 36 = .ok (.iconst 0, 1) := by decide +kernel
theorem dX6_pieceOf_37 : decode cX6_pieceOf 37 = .ok (.iaload, 1) := by decide +kernel
theorem dX6_pieceOf_38 : decode cX6_pieceOf 38 = .ok (.if_icmp .ge 101, 3) := by decide +kernel
theorem dX6_pieceOf_41 : decode cX6_pieceOf 41 = .ok (.aload_n 0, 1) := by decide +kernel
theorem dX6_pieceOf_42 : decode cX6_pieceOf 42 = .ok (.getfield 29, 3) := by decide +kernel
theorem dX6_pieceOf_45 : decode cX6_pieceOf 45 = .ok (.iconst 3, 1) := by decide +kernel
theorem dX6_pieceOf_46 : decode cX6_pieceOf 46 = .ok (.iload 7, 2) := by decide +kernel
theorem dX6_pieceOf_48 : decode cX6_pieceOf 48 = .ok (.imul, 1) := by decide +kernel
theorem dX6_pieceOf_49 : decode cX6_pieceOf 49 = .ok (.iaload, 1) := by decide +kernel
theorem dX6_pieceOf_50 : decode cX6_pieceOf 50 = .ok (.istore 8, 2) := by decide +kernel
theorem dX6_pieceOf_52 : decode cX6_pieceOf 52 = .ok (.aload_n 0, 1) := by decide +kernel
theorem dX6_pieceOf_53 : decode cX6_pieceOf 53 = .ok (.getfield 29, 3) := by decide +kernel
theorem dX6_pieceOf_56 : decode cX6_pieceOf 56 = .ok (.iconst 3, 1) := by decide +kernel
theorem dX6_pieceOf_57 : decode cX6_pieceOf 57 = .ok (.iload 7, 2) := by decide +kernel
theorem dX6_pieceOf_59 : decode cX6_pieceOf 59 = .ok (.imul, 1) := by decide +kernel
theorem dX6_pieceOf_60 : decode cX6_pieceOf 60 = .ok (.iconst 1, 1) := by decide +kernel
theorem dX6_pieceOf_61 : decode cX6_pieceOf 61 = .ok (.iadd, 1) := by decide +kernel
theorem dX6_pieceOf_62 : decode cX6_pieceOf 62 = .ok (.iaload, 1) := by decide +kernel
theorem dX6_pieceOf_63 : decode cX6_pieceOf 63 = .ok (.istore 9, 2) := by decide +kernel
theorem dX6_pieceOf_65 : decode cX6_pieceOf 65 = .ok (.lload_n 2, 1) := by decide +kernel
theorem dX6_pieceOf_66 : decode cX6_pieceOf 66 = .ok (.iload 8, 2) := by decide +kernel
theorem dX6_pieceOf_68 : decode cX6_pieceOf 68 = .ok (.invokestatic 138, 3) := by decide +kernel
theorem dX6_pieceOf_71 : decode cX6_pieceOf 71 = .ok (.ifCond .ne 36, 3) := by decide +kernel
theorem dX6_pieceOf_74 : decode cX6_pieceOf 74 = .ok (.lload_n 2, 1) := by decide +kernel
theorem dX6_pieceOf_75 : decode cX6_pieceOf 75 = .ok (.iload 9, 2) := by decide +kernel
theorem dX6_pieceOf_77 : decode cX6_pieceOf 77 = .ok (.invokestatic 138, 3) := by decide +kernel
theorem dX6_pieceOf_80 : decode cX6_pieceOf 80 = .ok (.ifCond .ne 27, 3) := by decide +kernel
theorem dX6_pieceOf_83 : decode cX6_pieceOf 83 = .ok (.lload 4, 2) := by decide +kernel
theorem dX6_pieceOf_85 : decode cX6_pieceOf 85 = .ok (.iload 8, 2) := by decide +kernel
theorem dX6_pieceOf_87 : decode cX6_pieceOf 87 = .ok (.invokestatic 138, 3) := by decide +kernel
theorem dX6_pieceOf_90 : decode cX6_pieceOf 90 = .ok (.ifCond .ne 13, 3) := by decide +kernel
theorem dX6_pieceOf_93 : decode cX6_pieceOf 93 = .ok (.lload 4, 2) := by decide +kernel
theorem dX6_pieceOf_95 : decode cX6_pieceOf 95 = .ok (.iload 9, 2) := by decide +kernel
theorem dX6_pieceOf_97 : decode cX6_pieceOf 97 = .ok (.invokestatic 138, 3) := by decide +kernel
theorem dX6_pieceOf_100 : decode cX6_pieceOf 100 = .ok (.ifCond .eq 7, 3) := by decide +kernel
theorem dX6_pieceOf_103 : decode cX6_pieceOf 103 = .ok (.iconst 1, 1) := by decide +kernel
theorem dX6_pieceOf_104 : decode cX6_pieceOf 104 = .ok (.goto 4, 3) := by decide +kernel
theorem dX6_pieceOf_107 : decode cX6_pieceOf 107 = .ok (.iconst 0, 1) := by decide +kernel
theorem dX6_pieceOf_108 : decode cX6_pieceOf 108 = .ok (.istore 10, 2) := by decide +kernel
theorem dX6_pieceOf_110 : decode cX6_pieceOf 110 = .ok (.lload 4, 2) := by decide +kernel
theorem dX6_pieceOf_112 : decode cX6_pieceOf 112 = .ok (.iload 10, 2) := by decide +kernel
theorem dX6_pieceOf_114 : decode cX6_pieceOf 114 = .ok (.ifCond .eq 15, 3) := by decide +kernel
theorem dX6_pieceOf_117 : decode cX6_pieceOf 117 = .ok (.lconst 1, 1) := by decide +kernel
theorem dX6_pieceOf_118 : decode cX6_pieceOf 118 = .ok (.iload 8, 2) := by decide +kernel
theorem dX6_pieceOf_120 : decode cX6_pieceOf 120 = .ok (.lshl, 1) := by decide +kernel
theorem dX6_pieceOf_121 : decode cX6_pieceOf 121 = .ok (.lconst 1, 1) := by decide +kernel
theorem dX6_pieceOf_122 : decode cX6_pieceOf 122 = .ok (.iload 9, 2) := by decide +kernel
theorem dX6_pieceOf_124 : decode cX6_pieceOf 124 = .ok (.lshl, 1) := by decide +kernel
theorem dX6_pieceOf_125 : decode cX6_pieceOf 125 = .ok (.lor, 1) := by decide +kernel
theorem dX6_pieceOf_126 : decode cX6_pieceOf 126 = .ok (.goto 4, 3) := by decide +kernel
theorem dX6_pieceOf_129 : decode cX6_pieceOf 129 = .ok (.lconst 0, 1) := by decide +kernel
theorem dX6_pieceOf_130 : decode cX6_pieceOf 130 = .ok (.lor, 1) := by decide +kernel
theorem dX6_pieceOf_131 : decode cX6_pieceOf 131 = .ok (.lstore 4, 2) := by decide +kernel
theorem dX6_pieceOf_133 : decode cX6_pieceOf 133 = .ok (.iinc 7 1, 3) := by decide +kernel
theorem dX6_pieceOf_136 : decode cX6_pieceOf 136 = .ok (.goto (-106), 3) := by decide +kernel
theorem dX6_pieceOf_139 : decode cX6_pieceOf 139 = .ok (.iinc 6 1, 3) := by decide +kernel
theorem dX6_pieceOf_142 : decode cX6_pieceOf 142 = .ok (.goto (-122), 3) := by decide +kernel
theorem dX6_pieceOf_145 : decode cX6_pieceOf 145 = .ok (.lload 4, 2) := by decide +kernel
theorem dX6_pieceOf_147 : decode cX6_pieceOf 147 = .ok (.lreturn, 1) := by decide +kernel
set_option maxRecDepth 20000 in
theorem ggX6_holds_X6_isPart : GoodIn wsX6_holds wsX6_isPart := goodIn_r _ [6, 7, 17, 18, 19, 20, 21, 22, 23, 24, 25, 26, 27, 28, 29, 30, 31, 32, 33, 34] (by decide +kernel) (by decide +kernel)
set_option maxRecDepth 20000 in
theorem gX6_holds_X6_isPart : GoodIn wsX6_holds (wsV RX6 57 RX6 yX6_isPart wsX6_isPart) := goodIn_app (goodIn_of _ (by decide +kernel)) ggX6_holds_X6_isPart
set_option maxRecDepth 20000 in
theorem ggX6_holds_X6_pieceOf : GoodIn wsX6_holds wsX6_pieceOf := goodIn_r _ [11, 12, 13, 14, 15, 5, 16, 17, 18, 19, 20, 21, 22, 23, 24, 25, 26, 27, 28, 29, 30, 31, 32, 33, 34] (by decide +kernel) (by decide +kernel)
set_option maxRecDepth 20000 in
theorem gX6_holds_X6_pieceOf : GoodIn wsX6_holds (wsV RX6 161 RX6 yX6_pieceOf wsX6_pieceOf) := goodIn_app (goodIn_of _ (by decide +kernel)) ggX6_holds_X6_pieceOf
set_option maxRecDepth 20000 in
theorem ggX6_holds_X6_isOff : GoodIn wsX6_holds wsX6_isOff := goodIn_r _ [16] (by decide +kernel) (by decide +kernel)
set_option maxRecDepth 20000 in
theorem gX6_holds_X6_isOff : GoodIn wsX6_holds (va_wsS RX6 138 yX6_isOff wsX6_isOff) := goodIn_app (goodIn_of _ (by decide +kernel)) ggX6_holds_X6_isOff
theorem dX6_holds_0 : decode cX6_holds 0 = .ok (.aload_n 0, 1) := by decide +kernel
theorem dX6_holds_1 : decode cX6_holds 1 = .ok (.iconst 0, 1) := by decide +kernel
theorem dX6_holds_2 : decode cX6_holds 2 = .ok (.putfield 52, 3) := by decide +kernel
theorem dX6_holds_5 : decode cX6_holds 5 = .ok (.aload_n 0, 1) := by decide +kernel
theorem dX6_holds_6 : decode cX6_holds 6 = .ok (.iconst 0, 1) := by decide +kernel
theorem dX6_holds_7 : decode cX6_holds 7 = .ok (.iload_n 1, 1) := by decide +kernel
theorem dX6_holds_8 : decode cX6_holds 8 = .ok (.invokevirtual 57, 3) := by decide +kernel
theorem dX6_holds_11 : decode cX6_holds 11 = .ok (.ifCond .eq 30, 3) := by decide +kernel
theorem dX6_holds_14 : decode cX6_holds 14 = .ok (.aload_n 0, 1) := by decide +kernel
theorem dX6_holds_15 : decode cX6_holds 15 = .ok (.iconst 0, 1) := by decide +kernel
theorem dX6_holds_16 : decode cX6_holds 16 = .ok (.iload_n 2, 1) := by decide +kernel
theorem dX6_holds_17 : decode cX6_holds 17 = .ok (.invokevirtual 57, 3) := by decide +kernel
theorem dX6_holds_20 : decode cX6_holds 20 = .ok (.ifCond .eq 21, 3) := by decide +kernel
theorem dX6_holds_23 : decode cX6_holds 23 = .ok (.aload_n 0, 1) := by decide +kernel
theorem dX6_holds_24 : decode cX6_holds 24 = .ok (.iload_n 1, 1) := by decide +kernel
theorem dX6_holds_25 : decode cX6_holds 25 = .ok (.iload_n 3, 1) := by decide +kernel
theorem dX6_holds_26 : decode cX6_holds 26 = .ok (.i2l, 1) := by decide +kernel
theorem dX6_holds_27 : decode cX6_holds 27 = .ok (.invokevirtual 161, 3) := by decide +kernel
theorem dX6_holds_30 : decode cX6_holds 30 = .ok (.iload_n 2, 1) := by decide +kernel
theorem dX6_holds_31 : decode cX6_holds 31 = .ok (.invokestatic 138, 3) := by decide +kernel
theorem dX6_holds_34 : decode cX6_holds 34 = .ok (.ifCond .eq 7, 3) := by decide +kernel
theorem dX6_holds_37 : decode cX6_holds 37 = .ok (.iconst 1, 1) := by decide +kernel
theorem dX6_holds_38 : decode cX6_holds 38 = .ok (.goto 4, 3) := by decide +kernel
theorem dX6_holds_41 : decode cX6_holds 41 = .ok (.iconst 0, 1) := by decide +kernel
theorem dX6_holds_42 : decode cX6_holds 42 = .ok (.ireturn, 1) := by decide +kernel
set_option maxRecDepth 20000 in
theorem ggX6_weight_X6_isPart : GoodIn wsX6_weight wsX6_isPart := goodIn_r _ [8, 2, 18, 19, 20, 21, 22, 23, 24, 25, 26, 27, 28, 29, 30, 31, 32, 33, 34, 35] (by decide +kernel) (by decide +kernel)
set_option maxRecDepth 20000 in
theorem gX6_weight_X6_isPart : GoodIn wsX6_weight (wsV RX6 57 RX6 yX6_isPart wsX6_isPart) := goodIn_app (goodIn_of _ (by decide +kernel)) ggX6_weight_X6_isPart
set_option maxRecDepth 20000 in
theorem ggX6_weight_X6_pieceOf : GoodIn wsX6_weight wsX6_pieceOf := goodIn_r _ [12, 13, 14, 15, 16, 7, 17, 18, 19, 20, 21, 22, 23, 24, 25, 26, 27, 28, 29, 30, 31, 32, 33, 34, 35] (by decide +kernel) (by decide +kernel)
set_option maxRecDepth 20000 in
theorem gX6_weight_X6_pieceOf : GoodIn wsX6_weight (wsV RX6 161 RX6 yX6_pieceOf wsX6_pieceOf) := goodIn_app (goodIn_of _ (by decide +kernel)) ggX6_weight_X6_pieceOf
set_option maxRecDepth 20000 in
theorem ggX6_weight_X6_isOff : GoodIn wsX6_weight wsX6_isOff := goodIn_r _ [17] (by decide +kernel) (by decide +kernel)
set_option maxRecDepth 20000 in
theorem gX6_weight_X6_isOff : GoodIn wsX6_weight (va_wsS RX6 138 yX6_isOff wsX6_isOff) := goodIn_app (goodIn_of _ (by decide +kernel)) ggX6_weight_X6_isOff
theorem dX6_weight_0 : decode cX6_weight 0 = .ok (.aload_n 0, 1) := by decide +kernel
theorem dX6_weight_1 : decode cX6_weight 1 = .ok (.aload_n 0, 1) := by decide +kernel
theorem dX6_weight_2 : decode cX6_weight 2 = .ok (.iconst 0, 1) := by decide +kernel
theorem dX6_weight_3 : decode cX6_weight 3 = .ok (.iload_n 1, 1) := by decide +kernel
theorem dX6_weight_4 : decode cX6_weight 4 = .ok (.invokevirtual 57, 3) := by decide +kernel
theorem dX6_weight_7 : decode cX6_weight 7 = .ok (.ifCond .eq 7, 3) := by decide +kernel
theorem dX6_weight_10 : decode cX6_weight 10 = .ok (.iconst 0, 1) := by decide +kernel
theorem dX6_weight_11 : decode cX6_weight 11 = .ok (.goto 4, 3) := by decide +kernel
theorem dX6_weight_14 : decode cX6_weight 14 = .ok (.iconst 1, 1) := by decide +kernel
theorem dX6_weight_15 : decode cX6_weight 15 = .ok (.putfield 52, 3) := by decide +kernel
theorem dX6_weight_18 : decode cX6_weight 18 = .ok (.lconst 0, 1) := by decide +kernel
theorem dX6_weight_19 : decode cX6_weight 19 = .ok (.lstore_n 2, 1) := by decide +kernel
theorem dX6_weight_20 : decode cX6_weight 20 = .ok (.iconst 0, 1) := by decide +kernel
theorem dX6_weight_21 : decode cX6_weight 21 = .ok (.istore 4, 2) := by decide +kernel
theorem dX6_weight_23 : decode cX6_weight 23 = .ok (.iload 4, 2) := by decide +kernel
theorem dX6_weight_25 : decode cX6_weight 25 = .ok (.aload_n 0, 1) := by decide +kernel
theorem dX6_weight_26 : decode cX6_weight 26 = .ok (.getfield 7, 3) := by decide +kernel
theorem dX6_weight_29 : decode cX6_weight 29 = .ok (.iconst 0, 1) := by decide +kernel
theorem dX6_weight_30 : decode cX6_weight 30 = .ok (.iaload, 1) := by decide +kernel
theorem dX6_weight_31 : decode cX6_weight 31 = .ok (.if_icmp .ge 45, 3) := by decide +kernel
theorem dX6_weight_34 : decode cX6_weight 34 = .ok (.aload_n 0, 1) := by decide +kernel
theorem dX6_weight_35 : decode cX6_weight 35 = .ok (.getfield 52, 3) := by decide +kernel
theorem dX6_weight_38 : decode cX6_weight 38 = .ok (.ifCond .ne 38, 3) := by decide +kernel
theorem dX6_weight_41 : decode cX6_weight 41 = .ok (.lload_n 2, 1) := by decide +kernel
theorem dX6_weight_42 : decode cX6_weight 42 = .ok (.aload_n 0, 1) := by decide +kernel
theorem dX6_weight_43 : decode cX6_weight 43 = .ok (.iload_n 1, 1) := by decide +kernel
theorem dX6_weight_44 : decode cX6_weight 44 = .ok (.lconst 0, 1) := by decide +kernel
theorem dX6_weight_45 : decode cX6_weight 45 = .ok (.invokevirtual 161, 3) := by decide +kernel
theorem dX6_weight_48 : decode cX6_weight 48 = .ok (.iload 4, 2) := by decide +kernel
theorem dX6_weight_50 : decode cX6_weight 50 = .ok (.invokestatic 138, 3) := by decide +kernel
theorem dX6_weight_53 : decode cX6_weight 53 = .ok (.ifCond .eq 14, 3) := by decide +kernel
theorem dX6_weight_56 : decode cX6_weight 56 = .ok (.aload_n 0, 1) := by decide +kernel
theorem dX6_weight_57 : decode cX6_weight 57 = .ok (.getfield 16, 3) := by decide +kernel
theorem dX6_weight_60 : decode cX6_weight 60 = .ok (.iload 4, 2) := by decide +kernel
theorem dX6_weight_62 : decode cX6_weight 62 = .ok (.iaload, 1) := by decide +kernel
theorem dX6_weight_63 : decode cX6_weight 63 = .ok (.i2l, 1) := by decide +kernel
theorem dX6_weight_64 : decode cX6_weight 64 = .ok (.goto 4, 3) := by decide +kernel
theorem dX6_weight_67 : decode cX6_weight 67 = .ok (.lconst 0, 1) := by decide +kernel
theorem dX6_weight_68 : decode cX6_weight 68 = .ok (.ladd, 1) := by decide +kernel
theorem dX6_weight_69 : decode cX6_weight 69 = .ok (.lstore_n 2, 1) := by decide +kernel
theorem dX6_weight_70 : decode cX6_weight 70 = .ok (.iinc 4 1, 3) := by decide +kernel
theorem dX6_weight_73 : decode cX6_weight 73 = .ok (.goto (-50), 3) := by decide +kernel
theorem dX6_weight_76 : decode cX6_weight 76 = .ok (.lload_n 2, 1) := by decide +kernel
theorem dX6_weight_77 : decode cX6_weight 77 = .ok (.lreturn, 1) := by decide +kernel
set_option maxRecDepth 20000 in
theorem ggX6_loose_X6_pieceOf : GoodIn wsX6_loose wsX6_pieceOf := goodIn_r _ [7, 8, 9, 10, 11, 6, 12, 13, 14, 15, 16, 17, 18, 19, 20, 21, 22, 23, 24, 25, 26, 27, 28, 29, 30] (by decide +kernel) (by decide +kernel)
set_option maxRecDepth 20000 in
theorem gX6_loose_X6_pieceOf : GoodIn wsX6_loose (wsV RX6 161 RX6 yX6_pieceOf wsX6_pieceOf) := goodIn_app (goodIn_of _ (by decide +kernel)) ggX6_loose_X6_pieceOf
set_option maxRecDepth 20000 in
theorem ggX6_loose_X6_isOff : GoodIn wsX6_loose wsX6_isOff := goodIn_r _ [12] (by decide +kernel) (by decide +kernel)
set_option maxRecDepth 20000 in
theorem gX6_loose_X6_isOff : GoodIn wsX6_loose (va_wsS RX6 138 yX6_isOff wsX6_isOff) := goodIn_app (goodIn_of _ (by decide +kernel)) ggX6_loose_X6_isOff
theorem dX6_loose_0 : decode cX6_loose 0 = .ok (.aload_n 0, 1) := by decide +kernel
theorem dX6_loose_1 : decode cX6_loose 1 = .ok (.iconst 0, 1) := by decide +kernel
theorem dX6_loose_2 : decode cX6_loose 2 = .ok (.putfield 52, 3) := by decide +kernel
theorem dX6_loose_5 : decode cX6_loose 5 = .ok (.iconst 0, 1) := by decide +kernel
theorem dX6_loose_6 : decode cX6_loose 6 = .ok (.istore_n 1, 1) := by decide +kernel
theorem dX6_loose_7 : decode cX6_loose 7 = .ok (.iconst 0, 1) := by decide +kernel
theorem dX6_loose_8 : decode cX6_loose 8 = .ok (.istore_n 2, 1) := by decide +kernel
theorem dX6_loose_9 : decode cX6_loose 9 = .ok (.iload_n 2, 1) := by decide +kernel
theorem dX6_loose_10 : decode cX6_loose 10 = .ok (.aload_n 0, 1) := by decide +kernel
theorem dX6_loose_11 : decode cX6_loose 11 = .ok (.getfield 7, 3) := by decide +kernel
theorem dX6_loose_14 : decode cX6_loose 14 = .ok (.iconst 0, 1) := by decide +kernel
theorem dX6_loose_15 : decode cX6_loose 15 = .ok (.iaload, 1) := by decide +kernel
theorem dX6_loose_16 : decode cX6_loose 16 = .ok (.if_icmp .ge 62, 3) := by decide +kernel
theorem dX6_loose_19 : decode cX6_loose 19 = .ok (.iconst 1, 1) := by decide +kernel
theorem dX6_loose_20 : decode cX6_loose 20 = .ok (.istore_n 3, 1) := by decide +kernel
theorem dX6_loose_21 : decode cX6_loose 21 = .ok (.iconst 0, 1) := by decide +kernel
theorem dX6_loose_22 : decode cX6_loose 22 = .ok (.istore 4, 2) := by decide +kernel
theorem dX6_loose_24 : decode cX6_loose 24 = .ok (.iload 4, 2) := by decide +kernel
theorem dX6_loose_26 : decode cX6_loose 26 = .ok (.iload_n 2, 1) := by decide +kernel
theorem dX6_loose_27 : decode cX6_loose 27 = .ok (.if_icmp .ge 33, 3) := by decide +kernel
theorem dX6_loose_30 : decode cX6_loose 30 = .ok (.iload_n 3, 1) := by decide +kernel
theorem dX6_loose_31 : decode cX6_loose 31 = .ok (.ifCond .eq 21, 3) := by decide +kernel
theorem dX6_loose_34 : decode cX6_loose 34 = .ok (.aload_n 0, 1) := by decide +kernel
theorem dX6_loose_35 : decode cX6_loose 35 = .ok (.iload_n 2, 1) := by decide +kernel
theorem dX6_loose_36 : decode cX6_loose 36 = .ok (.lconst 0, 1) := by decide +kernel
theorem dX6_loose_37 : decode cX6_loose 37 = .ok (.invokevirtual 161, 3) := by decide +kernel
theorem dX6_loose_40 : decode cX6_loose 40 = .ok (.iload 4, 2) := by decide +kernel
theorem dX6_loose_42 : decode cX6_loose 42 = .ok (.invokestatic 138, 3) := by decide +kernel
theorem dX6_loose_45 : decode cX6_loose 45 = .ok (.ifCond .ne 7, 3) := by decide +kernel
theorem dX6_loose_48 : decode cX6_loose 48 = .ok (.iconst 1, 1) := by decide +kernel
theorem dX6_loose_49 : decode cX6_loose 49 = .ok (.goto 4, 3) := by decide +kernel
theorem dX6_loose_52 : decode cX6_loose 52 = .ok (.iconst 0, 1) := by decide +kernel
theorem dX6_loose_53 : decode cX6_loose 53 = .ok (.istore_n 3, 1) := by decide +kernel
theorem dX6_loose_54 : decode cX6_loose 54 = .ok (.iinc 4 1, 3) := by decide +kernel
theorem dX6_loose_57 : decode cX6_loose 57 = .ok (.goto (-33), 3) := by decide +kernel
theorem dX6_loose_60 : decode cX6_loose 60 = .ok (.iload_n 1, 1) := by decide +kernel
theorem dX6_loose_61 : decode cX6_loose 61 = .ok (.iload_n 3, 1) := by decide +kernel
theorem dX6_loose_62 : decode cX6_loose 62 = .ok (.ifCond .eq 7, 3) := by decide +kernel
theorem dX6_loose_65 : decode cX6_loose 65 = .ok (.iconst 1, 1) := by decide +kernel
theorem dX6_loose_66 : decode cX6_loose 66 = .ok (.goto 4, 3) := by decide +kernel
theorem dX6_loose_69 : decode cX6_loose 69 = .ok (.iconst 0, 1) := by decide +kernel
theorem dX6_loose_70 : decode cX6_loose 70 = .ok (.iadd, 1) := by decide +kernel
theorem dX6_loose_71 : decode cX6_loose 71 = .ok (.istore_n 1, 1) := by decide +kernel
theorem dX6_loose_72 : decode cX6_loose 72 = .ok (.iinc 2 1, 3) := by decide +kernel
theorem dX6_loose_75 : decode cX6_loose 75 = .ok (.goto (-66), 3) := by decide +kernel
theorem dX6_loose_78 : decode cX6_loose 78 = .ok (.iload_n 1, 1) := by decide +kernel
theorem dX6_loose_79 : decode cX6_loose 79 = .ok (.ireturn, 1) := by decide +kernel
set_option maxRecDepth 20000 in
theorem ggX6_alike_X6_isPart : GoodIn wsX6_alike wsX6_isPart := goodIn_r _ [10, 2, 11, 12, 13, 14, 15, 16, 17, 18, 19, 20, 21, 22, 23, 24, 25, 26, 27, 28] (by decide +kernel) (by decide +kernel)
set_option maxRecDepth 20000 in
theorem gX6_alike_X6_isPart : GoodIn wsX6_alike (wsV RX6 57 RX6 yX6_isPart wsX6_isPart) := goodIn_app (goodIn_of _ (by decide +kernel)) ggX6_alike_X6_isPart
theorem dX6_alike_0 : decode cX6_alike 0 = .ok (.aload_n 0, 1) := by decide +kernel
theorem dX6_alike_1 : decode cX6_alike 1 = .ok (.iconst 0, 1) := by decide +kernel
theorem dX6_alike_2 : decode cX6_alike 2 = .ok (.putfield 52, 3) := by decide +kernel
theorem dX6_alike_5 : decode cX6_alike 5 = .ok (.iconst 0, 1) := by decide +kernel
theorem dX6_alike_6 : decode cX6_alike 6 = .ok (.istore_n 3, 1) := by decide +kernel
theorem dX6_alike_7 : decode cX6_alike 7 = .ok (.iconst 0, 1) := by decide +kernel
theorem dX6_alike_8 : decode cX6_alike 8 = .ok (.istore 4, 2) := by decide +kernel
theorem dX6_alike_10 : decode cX6_alike 10 = .ok (.iload 4, 2) := by decide +kernel
theorem dX6_alike_12 : decode cX6_alike 12 = .ok (.aload_n 0, 1) := by decide +kernel
theorem dX6_alike_13 : decode cX6_alike 13 = .ok (.getfield 7, 3) := by decide +kernel
theorem dX6_alike_16 : decode cX6_alike 16 = .ok (.iconst 0, 1) := by decide +kernel
theorem dX6_alike_17 : decode cX6_alike 17 = .ok (.iaload, 1) := by decide +kernel
theorem dX6_alike_18 : decode cX6_alike 18 = .ok (.if_icmp .ge 135, 3) := by decide +kernel
theorem dX6_alike_21 : decode cX6_alike 21 = .ok (.aload_n 0, 1) := by decide +kernel
theorem dX6_alike_22 : decode cX6_alike 22 = .ok (.iconst 0, 1) := by decide +kernel
