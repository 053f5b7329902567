theorem dX6_wordEnd_25 : decode cX6_wordEnd 25 = .ok (.ireturn, 1) := by decide +kernel
theorem dX6_wordOf_0 : decode cX6_wordOf 0 = .ok (.lconst 1, 1) := by decide +kernel
theorem dX6_wordOf_1 : decode cX6_wordOf 1 = .ok (.lstore_n 3, 1) := by decide +kernel
theorem dX6_wordOf_2 : decode cX6_wordOf 2 = .ok (.iload_n 1, 1) := by decide +kernel
theorem dX6_wordOf_3 : decode cX6_wordOf 3 = .ok (.istore 5, 2) := by decide +kernel
theorem dX6_wordOf_5 : decode cX6_wordOf 5 = .ok (.iload 5, 2) := by decide +kernel
theorem dX6_wordOf_7 : decode cX6_wordOf 7 = .ok (.iload_n 2, 1) := by decide +kernel
theorem dX6_wordOf_8 : decode cX6_wordOf 8 = .ok (.if_icmp .ge 36, 3) := by decide +kernel
theorem dX6_wordOf_11 : decode cX6_wordOf 11 = .ok (.iload_n 2, 1) := by decide +kernel
theorem dX6_wordOf_12 : decode cX6_wordOf 12 = .ok (.iload_n 1, 1) := by decide +kernel
theorem dX6_wordOf_13 : decode cX6_wordOf 13 = .ok (.isub, 1) := by decide +kernel
theorem dX6_wordOf_14 : decode cX6_wordOf 14 = .ok (.bipush 8, 2) := by decide +kernel
theorem dX6_wordOf_16 : decode cX6_wordOf 16 = .ok (.if_icmp .ge 28, 3) := by decide +kernel
theorem dX6_wordOf_19 : decode cX6_wordOf 19 = .ok (.ldc2_w 76, 3) := by decide +kernel
theorem dX6_wordOf_22 : decode cX6_wordOf 22 = .ok (.lload_n 3, 1) := by decide +kernel
theorem dX6_wordOf_23 : decode cX6_wordOf 23 = .ok (.lmul, 1) := by decide +kernel
theorem dX6_wordOf_24 : decode cX6_wordOf 24 = .ok (.aload_n 0, 1) := by decide +kernel
theorem dX6_wordOf_25 : decode cX6_wordOf 25 = .ok (.getfield 41, 3) := by decide +kernel
theorem dX6_wordOf_28 : decode cX6_wordOf 28 = .ok (.iload 5, 2) := by decide +kernel
theorem dX6_wordOf_30 : decode cX6_wordOf 30 = .ok (.baload, 1) := by decide +kernel
theorem dX6_wordOf_31 : decode cX6_wordOf 31 = .ok (.sipush 255, 3) := by decide +kernel
theorem dX6_wordOf_34 : decode cX6_wordOf 34 = .ok (.iand, 1) := by decide +kernel
theorem dX6_wordOf_35 : decode cX6_wordOf 35 = .ok (.i2l, 1) := by decide +kernel
theorem dX6_wordOf_36 : decode cX6_wordOf 36 = .ok (.ladd, 1) := by decide +kernel
theorem dX6_wordOf_37 : decode cX6_wordOf 37 = .ok (.lstore_n 3, 1) := by decide +kernel
theorem dX6_wordOf_38 : decode cX6_wordOf 38 = .ok (.iinc 5 1, 3) := by decide +kernel
theorem dX6_wordOf_41 : decode cX6_wordOf 41 = .ok (.goto (-36), 3) := by decide +kernel
theorem dX6_wordOf_44 : decode cX6_wordOf 44 = .ok (.lload_n 3, 1) := by decide +kernel
theorem dX6_wordOf_45 : decode cX6_wordOf 45 = .ok (.lreturn, 1) := by decide +kernel
theorem dX6_numberOf_0 : decode cX6_numberOf 0 = .ok (.iload_n 2, 1) := by decide +kernel
theorem dX6_numberOf_1 : decode cX6_numberOf 1 = .ok (.iload_n 1, 1) := by decide +kernel
theorem dX6_numberOf_2 : decode cX6_numberOf 2 = .ok (.isub, 1) := by decide +kernel
theorem dX6_numberOf_3 : decode cX6_numberOf 3 = .ok (.bipush 9, 2) := by decide +kernel
theorem dX6_numberOf_5 : decode cX6_numberOf 5 = .ok (.if_icmp .le 7, 3) := by decide +kernel
theorem dX6_numberOf_8 : decode cX6_numberOf 8 = .ok (.iconst (-1), 1) := by decide +kernel
theorem dX6_numberOf_9 : decode cX6_numberOf 9 = .ok (.goto 4, 3) := by decide +kernel
theorem dX6_numberOf_12 : decode cX6_numberOf 12 = .ok (.iconst 0, 1) := by decide +kernel
theorem dX6_numberOf_13 : decode cX6_numberOf 13 = .ok (.istore_n 3, 1) := by decide +kernel
theorem dX6_numberOf_14 : decode cX6_numberOf 14 = .ok (.iload_n 1, 1) := by decide +kernel
theorem dX6_numberOf_15 : decode cX6_numberOf 15 = .ok (.istore 4, 2) := by decide +kernel
theorem dX6_numberOf_17 : decode cX6_numberOf 17 = .ok (.iload 4, 2) := by decide +kernel
theorem dX6_numberOf_19 : decode cX6_numberOf 19 = .ok (.iload_n 2, 1) := by decide +kernel
theorem dX6_numberOf_20 : decode cX6_numberOf 20 = .ok (.if_icmp .ge 49, 3) := by decide +kernel
theorem dX6_numberOf_23 : decode cX6_numberOf 23 = .ok (.iload_n 3, 1) := by decide +kernel
theorem dX6_numberOf_24 : decode cX6_numberOf 24 = .ok (.ifCond .lt 45, 3) := by decide +kernel
theorem dX6_numberOf_27 : decode cX6_numberOf 27 = .ok (.aload_n 0, 1) := by decide +kernel
theorem dX6_numberOf_28 : decode cX6_numberOf 28 = .ok (.getfield 41, 3) := by decide +kernel
theorem dX6_numberOf_31 : decode cX6_numberOf 31 = .ok (.iload 4, 2) := by decide +kernel
theorem dX6_numberOf_33 : decode cX6_numberOf 33 = .ok (.baload, 1) := by decide +kernel
theorem dX6_numberOf_34 : decode cX6_numberOf 34 = .ok (.bipush 48, 2) := by decide +kernel
theorem dX6_numberOf_36 : decode cX6_numberOf 36 = .ok (.isub, 1) := by decide +kernel
theorem dX6_numberOf_37 : decode cX6_numberOf 37 = .ok (.istore 5, 2) := by decide +kernel
theorem dX6_numberOf_39 : decode cX6_numberOf 39 = .ok (.iload 5, 2) := by decide +kernel
theorem dX6_numberOf_41 : decode cX6_numberOf 41 = .ok (.ifCond .lt 10, 3) := by decide +kernel
theorem dX6_numberOf_44 : decode cX6_numberOf 44 = .ok (.iload 5, 2) := by decide +kernel
theorem dX6_numberOf_46 : decode cX6_numberOf 46 = .ok (.bipush 9, 2) := by decide +kernel
theorem dX6_numberOf_48 : decode cX6_numberOf 48 = .ok (.if_icmp .le 7, 3) := by decide +kernel
theorem dX6_numberOf_51 : decode cX6_numberOf 51 = .ok (.iconst (-1), 1) := by decide +kernel
theorem dX6_numberOf_52 : decode cX6_numberOf 52 = .ok (.goto 10, 3) := by decide +kernel
theorem dX6_numberOf_55 : decode cX6_numberOf 55 = .ok (.bipush 10, 2) := by decide +kernel
theorem dX6_numberOf_57 : decode cX6_numberOf 57 = .ok (.iload_n 3, 1) := by decide +kernel
theorem dX6_numberOf_58 : decode cX6_numberOf 58 = .ok (.imul, 1) := by decide +kernel
theorem dX6_numberOf_59 : decode cX6_numberOf 59 = .ok (.iload 5, 2) := by decide +kernel
theorem dX6_numberOf_61 : decode cX6_numberOf 61 = .ok (.iadd, 1) := by decide +kernel
theorem dX6_numberOf_62 : decode cX6_numberOf 62 = .ok (.istore_n 3, 1) := by decide +kernel
theorem dX6_numberOf_63 : decode cX6_numberOf 63 = .ok (.iinc 4 1, 3) := by decide +kernel
theorem dX6_numberOf_66 : decode cX6_numberOf 66 = .ok (.goto (-49), 3) := by decide +kernel
theorem dX6_numberOf_69 : decode cX6_numberOf 69 = .ok (.iload_n 3, 1) := by decide +kernel
theorem dX6_numberOf_70 : decode cX6_numberOf 70 = .ok (.ireturn, 1) := by decide +kernel
theorem dX6_nameOf_0 : decode cX6_nameOf 0 = .ok (.iload_n 0, 1) := by decide +kernel
theorem dX6_nameOf_1 : decode cX6_nameOf 1 = .ok (.tableswitch 63 0 5 #[39, 43, 47, 51, 55, 59], 39) := by decide +kernel
theorem dX6_nameOf_40 : decode cX6_nameOf 40 = .ok (.ldc2_w 78, 3) := by decide +kernel
theorem dX6_nameOf_43 : decode cX6_nameOf 43 = .ok (.lreturn, 1) := by decide +kernel
theorem dX6_nameOf_44 : decode cX6_nameOf 44 = .ok (.ldc2_w 80, 3) := by decide +kernel
theorem dX6_nameOf_47 : decode cX6_nameOf 47 = .ok (.lreturn, 1) := by decide +kernel
theorem dX6_nameOf_48 : decode cX6_nameOf 48 = .ok (.ldc2_w 82, 3) := by decide +kernel
theorem dX6_nameOf_51 : decode cX6_nameOf 51 = .ok (.lreturn, 1) := by decide +kernel
theorem dX6_nameOf_52 : decode cX6_nameOf 52 = .ok (.ldc2_w 84, 3) := by decide +kernel
theorem dX6_nameOf_55 : decode cX6_nameOf 55 = .ok (.lreturn, 1) := by decide +kernel
theorem dX6_nameOf_56 : decode cX6_nameOf 56 = .ok (.ldc2_w 86, 3) := by decide +kernel
theorem dX6_nameOf_59 : decode cX6_nameOf 59 = .ok (.lreturn, 1) := by decide +kernel
theorem dX6_nameOf_60 : decode cX6_nameOf 60 = .ok (.ldc2_w 88, 3) := by decide +kernel
theorem dX6_nameOf_63 : decode cX6_nameOf 63 = .ok (.lreturn, 1) := by decide +kernel
theorem dX6_nameOf_64 : decode cX6_nameOf 64 = .ok (.ldc2_w 90, 3) := by decide +kernel
theorem dX6_nameOf_67 : decode cX6_nameOf 67 = .ok (.lreturn, 1) := by decide +kernel
set_option maxRecDepth 20000 in
theorem ggX6_readSentence_X6_wordEnd : GoodIn wsX6_readSentence wsX6_wordEnd := goodIn_r _ [8, 3, 9, 10, 11, 7, 12, 13, 70, 71, 72, 73, 74, 75, 76, 77, 78, 79, 80, 81, 82, 83, 84, 85, 86, 87] (by decide +kernel) (by decide +kernel)
set_option maxRecDepth 20000 in
theorem gX6_readSentence_X6_wordEnd : GoodIn wsX6_readSentence (wsV RX6 95 RX6 yX6_wordEnd wsX6_wordEnd) := goodIn_app (goodIn_of _ (by decide +kernel)) ggX6_readSentence_X6_wordEnd
set_option maxRecDepth 20000 in
theorem ggX6_readSentence_X6_wordOf : GoodIn wsX6_readSentence wsX6_wordOf := goodIn_r _ [17, 18, 13, 70, 71, 72, 73, 74, 75, 76, 77, 78, 79, 80, 81, 82, 83, 84, 85, 86, 87] (by decide +kernel) (by decide +kernel)
set_option maxRecDepth 20000 in
theorem gX6_readSentence_X6_wordOf : GoodIn wsX6_readSentence (wsV RX6 99 RX6 yX6_wordOf wsX6_wordOf) := goodIn_app (goodIn_of _ (by decide +kernel)) ggX6_readSentence_X6_wordOf
set_option maxRecDepth 20000 in
theorem ggX6_readSentence_X6_nameOf : GoodIn wsX6_readSentence wsX6_nameOf := goodIn_r _ [21, 22, 23, 24, 25, 26, 27, 28] (by decide +kernel) (by decide +kernel)
set_option maxRecDepth 20000 in
theorem gX6_readSentence_X6_nameOf : GoodIn wsX6_readSentence (va_wsS RX6 103 yX6_nameOf wsX6_nameOf) := goodIn_app (goodIn_of _ (by decide +kernel)) ggX6_readSentence_X6_nameOf
set_option maxRecDepth 20000 in
theorem ggX6_readSentence_X6_canBe : GoodIn wsX6_readSentence wsX6_canBe := goodIn_r _ [32, 33, 34, 35, 7, 36, 37, 38, 39, 40, 41, 42, 43, 44, 45, 46, 47, 48, 49, 50, 70, 71, 72, 73, 74, 75, 76, 77, 78, 79, 80, 81, 82, 83, 84, 85, 86, 87] (by decide +kernel) (by decide +kernel)
set_option maxRecDepth 20000 in
theorem gX6_readSentence_X6_canBe : GoodIn wsX6_readSentence (wsV RX6 107 RX6 yX6_canBe wsX6_canBe) := goodIn_app (goodIn_of _ (by decide +kernel)) ggX6_readSentence_X6_canBe
set_option maxRecDepth 20000 in
theorem ggX6_readSentence_X6_wordBegin : GoodIn wsX6_readSentence wsX6_wordBegin := goodIn_r _ [54, 3, 9, 10, 11, 7, 12, 13, 70, 71, 72, 73, 74, 75, 76, 77, 78, 79, 80, 81, 82, 83, 84, 85, 86, 87] (by decide +kernel) (by decide +kernel)
set_option maxRecDepth 20000 in
theorem gX6_readSentence_X6_wordBegin : GoodIn wsX6_readSentence (wsV RX6 111 RX6 yX6_wordBegin wsX6_wordBegin) := goodIn_app (goodIn_of _ (by decide +kernel)) ggX6_readSentence_X6_wordBegin
set_option maxRecDepth 20000 in
theorem ggX6_readSentence_X6_numbersOf : GoodIn wsX6_readSentence wsX6_numbersOf := goodIn_r _ [57] (by decide +kernel) (by decide +kernel)
set_option maxRecDepth 20000 in
theorem gX6_readSentence_X6_numbersOf : GoodIn wsX6_readSentence (va_wsS RX6 114 yX6_numbersOf wsX6_numbersOf) := goodIn_app (goodIn_of _ (by decide +kernel)) ggX6_readSentence_X6_numbersOf
set_option maxRecDepth 20000 in
theorem ggX6_readSentence_X6_numberOf : GoodIn wsX6_readSentence wsX6_numberOf := goodIn_r _ [61, 13, 70, 71, 72, 73, 74, 75, 76, 77, 78, 79, 80, 81, 82, 83, 84, 85, 86, 87] (by decide +kernel) (by decide +kernel)
set_option maxRecDepth 20000 in
theorem gX6_readSentence_X6_numberOf : GoodIn wsX6_readSentence (wsV RX6 117 RX6 yX6_numberOf wsX6_numberOf) := goodIn_app (goodIn_of _ (by decide +kernel)) ggX6_readSentence_X6_numberOf
set_option maxRecDepth 20000 in
theorem ggX6_readSentence_X6_make : GoodIn wsX6_readSentence wsX6_make := goodIn_r _ [65, 66, 37, 67, 39, 40, 68, 41, 42, 43, 69, 48, 49, 7, 50, 70, 71, 72, 73, 74, 75, 76, 77, 78, 79, 80, 81, 82, 83, 84, 85, 86, 87] (by decide +kernel) (by decide +kernel)
set_option maxRecDepth 20000 in
theorem gX6_readSentence_X6_make : GoodIn wsX6_readSentence (wsV RX6 121 RX6 yX6_make wsX6_make) := goodIn_app (goodIn_of _ (by decide +kernel)) ggX6_readSentence_X6_make
theorem dX6_readSentence_0 : decode cX6_readSentence 0 = .ok (.aload_n 0, 1) := by decide +kernel
theorem dX6_readSentence_1 : decode cX6_readSentence 1 = .ok (.aload_n 0, 1) := by decide +kernel
theorem dX6_readSentence_2 : decode cX6_readSentence 2 = .ok (.getfield 92, 3) := by decide +kernel
theorem dX6_readSentence_5 : decode cX6_readSentence 5 = .ok (.invokevirtual 95, 3) := by decide +kernel
theorem dX6_readSentence_8 : decode cX6_readSentence 8 = .ok (.istore_n 1, 1) := by decide +kernel
theorem dX6_readSentence_9 : decode cX6_readSentence 9 = .ok (.aload_n 0, 1) := by decide +kernel
theorem dX6_readSentence_10 : decode cX6_readSentence 10 = .ok (.aload_n 0, 1) := by decide +kernel
theorem dX6_readSentence_11 : decode cX6_readSentence 11 = .ok (.getfield 92, 3) := by decide +kernel
theorem dX6_readSentence_14 : decode cX6_readSentence 14 = .ok (.iload_n 1, 1) := by decide +kernel
theorem dX6_readSentence_15 : decode cX6_readSentence 15 = .ok (.invokevirtual 99, 3) := by decide +kernel
theorem dX6_readSentence_18 : decode cX6_readSentence 18 = .ok (.lstore_n 2, 1) := by decide +kernel
theorem dX6_readSentence_19 : decode cX6_readSentence 19 = .ok (.iconst 0, 1) := by decide +kernel
theorem dX6_readSentence_20 : decode cX6_readSentence 20 = .ok (.istore 4, 2) := by decide +kernel
theorem dX6_readSentence_22 : decode cX6_readSentence 22 = .ok (.iload 4, 2) := by decide +kernel
theorem dX6_readSentence_24 : decode cX6_readSentence 24 = .ok (.bipush 7, 2) := by decide +kernel
theorem dX6_readSentence_26 : decode cX6_readSentence 26 = .ok (.if_icmp .ge 19, 3) := by decide +kernel
theorem dX6_readSentence_29 : decode cX6_readSentence 29 = .ok (.iload 4, 2) := by decide +kernel
theorem dX6_readSentence_31 : decode cX6_readSentence 31 = .ok (.invokestatic 103, 3) := by decide +kernel
theorem dX6_readSentence_34 : decode cX6_readSentence 34 = .ok (.lload_n 2, 1) := by decide +kernel
theorem dX6_readSentence_35 : decode cX6_readSentence 35 = .ok (.lcmp, 1) := by decide +kernel
theorem dX6_readSentence_36 : decode cX6_readSentence 36 = .ok (.ifCond .eq 9, 3) := by decide +kernel
theorem dX6_readSentence_39 : decode cX6_readSentence 39 = .ok (.iinc 4 1, 3) := by decide +kernel
theorem dX6_readSentence_42 : decode cX6_readSentence 42 = .ok (.goto (-20), 3) := by decide +kernel
theorem dX6_readSentence_45 : decode cX6_readSentence 45 = .ok (.iload 4, 2) := by decide +kernel
theorem dX6_readSentence_47 : decode cX6_readSentence 47 = .ok (.bipush 7, 2) := by decide +kernel
theorem dX6_readSentence_49 : decode cX6_readSentence 49 = .ok (.if_icmp .eq 17, 3) := by decide +kernel
theorem dX6_readSentence_52 : decode cX6_readSentence 52 = .ok (.aload_n 0, 1) := by decide +kernel
theorem dX6_readSentence_53 : decode cX6_readSentence 53 = .ok (.iconst 1, 1) := by decide +kernel
theorem dX6_readSentence_54 : decode cX6_readSentence 54 = .ok (.iload 4, 2) := by decide +kernel
theorem dX6_readSentence_56 : decode cX6_readSentence 56 = .ok (.iconst 0, 1) := by decide +kernel
theorem dX6_readSentence_57 : decode cX6_readSentence 57 = .ok (.iconst 0, 1) := by decide +kernel
theorem dX6_readSentence_58 : decode cX6_readSentence 58 = .ok (.iconst 0, 1) := by decide +kernel
theorem dX6_readSentence_59 : decode cX6_readSentence 59 = .ok (.iconst 0, 1) := by decide +kernel
theorem dX6_readSentence_60 : decode cX6_readSentence 60 = .ok (.invokevirtual 107, 3) := by decide +kernel
theorem dX6_readSentence_63 : decode cX6_readSentence 63 = .ok (.ifCond .ne 5, 3) := by decide +kernel
theorem dX6_readSentence_66 : decode cX6_readSentence 66 = .ok (.iconst 0, 1) := by decide +kernel
theorem dX6_readSentence_67 : decode cX6_readSentence 67 = .ok (.ireturn, 1) := by decide +kernel
theorem dX6_readSentence_68 : decode cX6_readSentence 68 = .ok (.aload_n 0, 1) := by decide +kernel
theorem dX6_readSentence_69 : decode cX6_readSentence 69 = .ok (.aload_n 0, 1) := by decide +kernel
theorem dX6_readSentence_70 : decode cX6_readSentence 70 = .ok (.iload_n 1, 1) := by decide +kernel
theorem dX6_readSentence_71 : decode cX6_readSentence 71 = .ok (.invokevirtual 111, 3) := by decide +kernel
theorem dX6_readSentence_74 : decode cX6_readSentence 74 = .ok (.putfield 92, 3) := by decide +kernel
theorem dX6_readSentence_77 : decode cX6_readSentence 77 = .ok (.iconst 0, 1) := by decide +kernel
theorem dX6_readSentence_78 : decode cX6_readSentence 78 = .ok (.istore 5, 2) := by decide +kernel
theorem dX6_readSentence_80 : decode cX6_readSentence 80 = .ok (.iload 5, 2) := by decide +kernel
theorem dX6_readSentence_82 : decode cX6_readSentence 82 = .ok (.iload 4, 2) := by decide +kernel
theorem dX6_readSentence_84 : decode cX6_readSentence 84 = .ok (.invokestatic 114, 3) := by decide +kernel
theorem dX6_readSentence_87 : decode cX6_readSentence 87 = .ok (.if_icmp .ge 102, 3) := by decide +kernel
theorem dX6_readSentence_90 : decode cX6_readSentence 90 = .ok (.aload_n 0, 1) := by decide +kernel
theorem dX6_readSentence_91 : decode cX6_readSentence 91 = .ok (.aload_n 0, 1) := by decide +kernel
theorem dX6_readSentence_92 : decode cX6_readSentence 92 = .ok (.getfield 92, 3) := by decide +kernel
theorem dX6_readSentence_95 : decode cX6_readSentence 95 = .ok (.invokevirtual 95, 3) := by decide +kernel
theorem dX6_readSentence_98 : decode cX6_readSentence 98 = .ok (.istore_n 1, 1) := by decide +kernel
theorem dX6_readSentence_99 : decode cX6_readSentence 99 = .ok (.aload_n 0, 1) := by decide +kernel
theorem dX6_readSentence_100 : decode cX6_readSentence 100 = .ok (.getfield 45, 3) := by decide +kernel
theorem dX6_readSentence_103 : decode cX6_readSentence 103 = .ok (.iload 5, 2) := by decide +kernel
theorem dX6_readSentence_105 : decode cX6_readSentence 105 = .ok (.aload_n 0, 1) := by decide +kernel
theorem dX6_readSentence_106 : decode cX6_readSentence 106 = .ok (.getfield 92, 3) := by decide +kernel
theorem dX6_readSentence_109 : decode cX6_readSentence 109 = .ok (.aload_n 0, 1) := by decide +kernel
theorem dX6_readSentence_110 : decode cX6_readSentence 110 = .ok (.getfield 69, 3) := by decide +kernel
theorem dX6_readSentence_113 : decode cX6_readSentence 113 = .ok (.if_icmp .ge 15, 3) := by decide +kernel
theorem dX6_readSentence_116 : decode cX6_readSentence 116 = .ok (.aload_n 0, 1) := by decide +kernel
theorem dX6_readSentence_117 : decode cX6_readSentence 117 = .ok (.aload_n 0, 1) := by decide +kernel
theorem dX6_readSentence_118 : decode cX6_readSentence 118 = .ok (.getfield 92, 3) := by decide +kernel
theorem dX6_readSentence_121 : decode cX6_readSentence 121 = .ok (.iload_n 1, 1) := by decide +kernel
theorem dX6_readSentence_122 : decode cX6_readSentence 122 = .ok (.invokevirtual 117, 3) := by decide +kernel
theorem dX6_readSentence_125 : decode cX6_readSentence 125 = .ok (.goto 4, 3) := by decide +kernel
theorem dX6_readSentence_128 : decode cX6_readSentence 128 = .ok (.iconst (-1), 1) := by decide +kernel
theorem dX6_readSentence_129 : decode cX6_readSentence 129 = .ok (.iastore, 1) := by decide +kernel
theorem dX6_readSentence_130 : decode cX6_readSentence 130 = .ok (.aload_n 0, 1) := by decide +kernel
theorem dX6_readSentence_131 : decode cX6_readSentence 131 = .ok (.getfield 45, 3) := by decide +kernel
theorem dX6_readSentence_134 : decode cX6_readSentence 134 = .ok (.iload 5, 2) := by decide +kernel
theorem dX6_readSentence_136 : decode cX6_readSentence 136 = .ok (.iaload, 1) := by decide +kernel
theorem dX6_readSentence_137 : decode cX6_readSentence 137 = .ok (.ifCond .lt 35, 3) := by decide +kernel
theorem dX6_readSentence_140 : decode cX6_readSentence 140 = .ok (.aload_n 0, 1) := by decide +kernel
theorem dX6_readSentence_141 : decode cX6_readSentence 141 = .ok (.iconst 1, 1) := by decide +kernel
theorem dX6_readSentence_142 : decode cX6_readSentence 142 = .ok (.iload 4, 2) := by decide +kernel
theorem dX6_readSentence_144 : decode cX6_readSentence 144 = .ok (.iload 5, 2) := by decide +kernel
theorem dX6_readSentence_146 : decode cX6_readSentence 146 = .ok (.iconst 1, 1) := by decide +kernel
theorem dX6_readSentence_147 : decode cX6_readSentence 147 = .ok (.iadd, 1) := by decide +kernel
theorem dX6_readSentence_148 : decode cX6_readSentence 148 = .ok (.aload_n 0, 1) := by decide +kernel
theorem dX6_readSentence_149 : decode cX6_readSentence 149 = .ok (.getfield 45, 3) := by decide +kernel
theorem dX6_readSentence_152 : decode cX6_readSentence 152 = .ok (.iconst 0, 1) := by decide +kernel
theorem dX6_readSentence_153 : decode cX6_readSentence 153 = .ok (.iaload, 1) := by decide +kernel
theorem dX6_readSentence_154 : decode cX6_readSentence 154 = .ok (.aload_n 0, 1) := by decide +kernel
theorem dX6_readSentence_155 : decode cX6_readSentence 155 = .ok (.getfield 45, 3) := by decide +kernel
theorem dX6_readSentence_158 : decode cX6_readSentence 158 = .ok (.iconst 1, 1) := by decide +kernel
theorem dX6_readSentence_159 : decode cX6_readSentence 159 = .ok (.iaload, 1) := by decide +kernel
theorem dX6_readSentence_160 : decode cX6_readSentence 160 = .ok (.aload_n 0, 1) := by decide +kernel
theorem dX6_readSentence_161 : decode cX6_readSentence 161 = .ok (.getfield 45, 3) := by decide +kernel
theorem dX6_readSentence_164 : decode cX6_readSentence 164 = .ok (.iconst 2, 1) := by decide +kernel
theorem dX6_readSentence_165 : decode cX6_readSentence 165 = .ok (.iaload, 1) := by decide +kernel
theorem dX6_readSentence_166 : decode cX6_readSentence 166 = .ok (.invokevirtual 107, 3) := by decide +kernel
theorem dX6_readSentence_169 : decode cX6_readSentence 169 = .ok (.ifCond .ne 5, 3) := by decide +kernel
theorem dX6_readSentence_172 : decode cX6_readSentence 172 = .ok (.iconst 0, 1) := by decide +kernel
theorem dX6_readSentence_173 : decode cX6_readSentence 173 = .ok (.ireturn, 1) := by decide +kernel
theorem dX6_readSentence_174 : decode cX6_readSentence 174 = .ok (.aload_n 0, 1) := by decide +kernel
theorem dX6_readSentence_175 : decode cX6_readSentence 175 = .ok (.aload_n 0, 1) := by decide +kernel
theorem dX6_readSentence_176 : decode cX6_readSentence 176 = .ok (.iload_n 1, 1) := by decide +kernel
theorem dX6_readSentence_177 : decode cX6_readSentence 177 = .ok (.invokevirtual 111, 3) := by decide +kernel
theorem dX6_readSentence_180 : decode cX6_readSentence 180 = .ok (.putfield 92, 3) := by decide +kernel
theorem dX6_readSentence_183 : decode cX6_readSentence 183 = .ok (.iinc 5 1, 3) := by decide +kernel
theorem dX6_readSentence_186 : decode cX6_readSentence 186 = .ok (.goto (-106), 3) := by decide +kernel
theorem dX6_readSentence_189 : decode cX6_readSentence 189 = .ok (.aload_n 0, 1) := by decide +kernel
theorem dX6_readSentence_190 : decode cX6_readSentence 190 = .ok (.iconst 1, 1) := by decide +kernel
theorem dX6_readSentence_191 : decode cX6_readSentence 191 = .ok (.iload 4, 2) := by decide +kernel
theorem dX6_readSentence_193 : decode cX6_readSentence 193 = .ok (.aload_n 0, 1) := by decide +kernel
theorem dX6_readSentence_194 : decode cX6_readSentence 194 = .ok (.getfield 45, 3) := by decide +kernel
theorem dX6_readSentence_197 : decode cX6_readSentence 197 = .ok (.iconst 0, 1) := by decide +kernel
theorem dX6_readSentence_198 : decode cX6_readSentence 198 = .ok (.iaload, 1) := by decide +kernel
theorem dX6_readSentence_199 : decode cX6_readSentence 199 = .ok (.aload_n 0, 1) := by decide +kernel
theorem dX6_readSentence_200 : decode cX6_readSentence 200 = .ok (.getfield 45, 3) := by decide +kernel
theorem dX6_readSentence_203 : decode cX6_readSentence 203 = .ok (.iconst 1, 1) := by decide +kernel
theorem dX6_readSentence_204 : decode cX6_readSentence 204 = .ok (.iaload, 1) := by decide +kernel
theorem dX6_readSentence_205 : decode cX6_readSentence 205 = .ok (.aload_n 0, 1) := by decide +kernel
theorem dX6_readSentence_206 : decode cX6_readSentence 206 = .ok (.getfield 45, 3) := by decide +kernel
theorem dX6_readSentence_209 : decode cX6_readSentence 209 = .ok (.iconst 2, 1) := by decide +kernel
theorem dX6_readSentence_210 : decode cX6_readSentence 210 = .ok (.iaload, 1) := by decide +kernel
theorem dX6_readSentence_211 : decode cX6_readSentence 211 = .ok (.invokevirtual 121, 3) := by decide +kernel
theorem dX6_readSentence_214 : decode cX6_readSentence 214 = .ok (.iconst 1, 1) := by decide +kernel
theorem dX6_readSentence_215 : decode cX6_readSentence 215 = .ok (.ireturn, 1) := by decide +kernel
set_option maxRecDepth 20000 in
theorem ggX6_read_X6_clear : GoodIn wsX6_read wsX6_clear := goodIn_r _ [9, 4, 10, 11, 12, 13, 14, 15, 83, 84, 85, 86, 87, 88, 89, 90, 91, 92, 93, 94, 95, 96, 97, 98, 99, 100] (by decide +kernel) (by decide +kernel)
set_option maxRecDepth 20000 in
theorem gX6_read_X6_clear : GoodIn wsX6_read (wsV RX6 48 RX6 yX6_clear wsX6_clear) := goodIn_app (goodIn_of _ (by decide +kernel)) ggX6_read_X6_clear
set_option maxRecDepth 20000 in
theorem ggX6_read_X6_wordBegin : GoodIn wsX6_read wsX6_wordBegin := goodIn_r _ [19, 3, 20, 21, 22, 8, 23, 24, 83, 84, 85, 86, 87, 88, 89, 90, 91, 92, 93, 94, 95, 96, 97, 98, 99, 100] (by decide +kernel) (by decide +kernel)
set_option maxRecDepth 20000 in
theorem gX6_read_X6_wordBegin : GoodIn wsX6_read (wsV RX6 111 RX6 yX6_wordBegin wsX6_wordBegin) := goodIn_app (goodIn_of _ (by decide +kernel)) ggX6_read_X6_wordBegin
set_option maxRecDepth 20000 in
theorem ggX6_read_X6_readSentence : GoodIn wsX6_read wsX6_readSentence := goodIn_r _ [28, 2, 29, 3, 30, 31, 32, 8, 33, 20, 21, 22, 23, 24, 34, 35, 36, 37, 38, 39, 40, 41, 42, 43, 44, 45, 46, 47, 48, 49, 50, 51, 52, 53, 54, 55, 56, 4, 57, 11, 12, 10, 13, 14, 58, 59, 60, 61, 62, 63, 64, 16, 17, 18, 19, 65, 66, 67, 68, 69, 70, 71, 72, 73, 74, 75, 76, 77, 78, 15, 83, 84, 85, 86, 87, 88, 89, 90, 91, 92, 93, 94, 95, 96, 97, 98, 99, 100] (by decide +kernel) (by decide +kernel)
set_option maxRecDepth 20000 in
theorem gX6_read_X6_readSentence : GoodIn wsX6_read (wsV RX6 125 RX6 yX6_readSentence wsX6_readSentence) := goodIn_app (goodIn_of _ (by decide +kernel)) ggX6_read_X6_readSentence
set_option maxRecDepth 20000 in
theorem ggX6_read_X6_take : GoodIn wsX6_read wsX6_take := goodIn_r _ [82, 4, 10, 11, 12, 13, 76, 77, 14, 15, 78, 83, 84, 85, 86, 87, 88, 89, 90, 91, 92, 93, 94, 95, 96, 97, 98, 99, 100] (by decide +kernel) (by decide +kernel)
set_option maxRecDepth 20000 in
theorem gX6_read_X6_take : GoodIn wsX6_read (wsV RX6 129 RX6 yX6_take wsX6_take) := goodIn_app (goodIn_of _ (by decide +kernel)) ggX6_read_X6_take
theorem dX6_read_0 : decode cX6_read 0 = .ok (.aload_n 0, 1) := by decide +kernel
theorem dX6_read_1 : decode cX6_read 1 = .ok (.iconst 0, 1) := by decide +kernel
theorem dX6_read_2 : decode cX6_read 2 = .ok (.putfield 52, 3) := by decide +kernel
theorem dX6_read_5 : decode cX6_read 5 = .ok (.aload_n 0, 1) := by decide +kernel
theorem dX6_read_6 : decode cX6_read 6 = .ok (.iconst 1, 1) := by decide +kernel
theorem dX6_read_7 : decode cX6_read 7 = .ok (.invokevirtual 48, 3) := by decide +kernel
theorem dX6_read_10 : decode cX6_read 10 = .ok (.aload_n 0, 1) := by decide +kernel
theorem dX6_read_11 : decode cX6_read 11 = .ok (.aload_n 0, 1) := by decide +kernel
theorem dX6_read_12 : decode cX6_read 12 = .ok (.iconst 0, 1) := by decide +kernel
theorem dX6_read_13 : decode cX6_read 13 = .ok (.invokevirtual 111, 3) := by decide +kernel
theorem dX6_read_16 : decode cX6_read 16 = .ok (.putfield 92, 3) := by decide +kernel
theorem dX6_read_19 : decode cX6_read 19 = .ok (.iconst 1, 1) := by decide +kernel
theorem dX6_read_20 : decode cX6_read 20 = .ok (.istore_n 1, 1) := by decide +kernel
theorem dX6_read_21 : decode cX6_read 21 = .ok (.iload_n 1, 1) := by decide +kernel
theorem dX6_read_22 : decode cX6_read 22 = .ok (.ifCond .eq 22, 3) := by decide +kernel
theorem dX6_read_25 : decode cX6_read 25 = .ok (.aload_n 0, 1) := by decide +kernel
theorem dX6_read_26 : decode cX6_read 26 = .ok (.getfield 92, 3) := by decide +kernel
theorem dX6_read_29 : decode cX6_read 29 = .ok (.aload_n 0, 1) := by decide +kernel
theorem dX6_read_30 : decode cX6_read 30 = .ok (.getfield 69, 3) := by decide +kernel
theorem dX6_read_33 : decode cX6_read 33 = .ok (.if_icmp .ge 11, 3) := by decide +kernel
theorem dX6_read_36 : decode cX6_read 36 = .ok (.aload_n 0, 1) := by decide +kernel
theorem dX6_read_37 : decode cX6_read 37 = .ok (.invokevirtual 125, 3) := by decide +kernel
theorem dX6_read_40 : decode cX6_read 40 = .ok (.istore_n 1, 1) := by decide +kernel
theorem dX6_read_41 : decode cX6_read 41 = .ok (.goto (-20), 3) := by decide +kernel
theorem dX6_read_44 : decode cX6_read 44 = .ok (.aload_n 0, 1) := by decide +kernel
theorem dX6_read_45 : decode cX6_read 45 = .ok (.iconst 0, 1) := by decide +kernel
theorem dX6_read_46 : decode cX6_read 46 = .ok (.putfield 69, 3) := by decide +kernel
theorem dX6_read_49 : decode cX6_read 49 = .ok (.iload_n 1, 1) := by decide +kernel
theorem dX6_read_50 : decode cX6_read 50 = .ok (.ifCond .ne 10, 3) := by decide +kernel
theorem dX6_read_53 : decode cX6_read 53 = .ok (.iconst (-1), 1) := by decide +kernel
theorem dX6_read_54 : decode cX6_read 54 = .ok (.aload_n 0, 1) := by decide +kernel
theorem dX6_read_55 : decode cX6_read 55 = .ok (.getfield 92, 3) := by decide +kernel
theorem dX6_read_58 : decode cX6_read 58 = .ok (.isub, 1) := by decide +kernel
theorem dX6_read_59 : decode cX6_read 59 = .ok (.ireturn, 1) := by decide +kernel
theorem dX6_read_60 : decode cX6_read 60 = .ok (.aload_n 0, 1) := by decide +kernel
theorem dX6_read_61 : decode cX6_read 61 = .ok (.invokevirtual 129, 3) := by decide +kernel
theorem dX6_read_64 : decode cX6_read 64 = .ok (.aload_n 0, 1) := by decide +kernel
theorem dX6_read_65 : decode cX6_read 65 = .ok (.getfield 7, 3) := by decide +kernel
theorem dX6_read_68 : decode cX6_read 68 = .ok (.iconst 0, 1) := by decide +kernel
theorem dX6_read_69 : decode cX6_read 69 = .ok (.iaload, 1) := by decide +kernel
theorem dX6_read_70 : decode cX6_read 70 = .ok (.ireturn, 1) := by decide +kernel
set_option maxRecDepth 20000 in
theorem ggX6_part_X6_isAllowed : GoodIn wsX6_part wsX6_isAllowed := goodIn_r _ [8, 3, 9, 10, 11, 12, 13, 14, 15, 16, 17, 7, 18, 19, 20, 21, 30, 31, 32, 33, 34, 35, 36, 37, 38, 39, 40, 41, 42, 43, 44, 45, 46, 47] (by decide +kernel) (by decide +kernel)
set_option maxRecDepth 20000 in
theorem gX6_part_X6_isAllowed : GoodIn wsX6_part (wsV RX6 65 RX6 yX6_isAllowed wsX6_isAllowed) := goodIn_app (goodIn_of _ (by decide +kernel)) ggX6_part_X6_isAllowed
set_option maxRecDepth 20000 in
theorem ggX6_part_X6_make : GoodIn wsX6_part wsX6_make := goodIn_r _ [25, 26, 3, 27, 10, 11, 28, 12, 13, 14, 29, 19, 20, 7, 21, 30, 31, 32, 33, 34, 35, 36, 37, 38, 39, 40, 41, 42, 43, 44, 45, 46, 47] (by decide +kernel) (by decide +kernel)
set_option maxRecDepth 20000 in
theorem gX6_part_X6_make : GoodIn wsX6_part (wsV RX6 121 RX6 yX6_make wsX6_make) := goodIn_app (goodIn_of _ (by decide +kernel)) ggX6_part_X6_make
theorem dX6_part_0 : decode cX6_part 0 = .ok (.aload_n 0, 1) := by decide +kernel
theorem dX6_part_1 : decode cX6_part 1 = .ok (.iconst 0, 1) := by decide +kernel
theorem dX6_part_2 : decode cX6_part 2 = .ok (.putfield 52, 3) := by decide +kernel
theorem dX6_part_5 : decode cX6_part 5 = .ok (.lload_n 2, 1) := by decide +kernel
theorem dX6_part_6 : decode cX6_part 6 = .ok (.lconst 0, 1) := by decide +kernel
theorem dX6_part_7 : decode cX6_part 7 = .ok (.lcmp, 1) := by decide +kernel
theorem dX6_part_8 : decode cX6_part 8 = .ok (.ifCond .lt 24, 3) := by decide +kernel
theorem dX6_part_11 : decode cX6_part 11 = .ok (.lload_n 2, 1) := by decide +kernel
theorem dX6_part_12 : decode cX6_part 12 = .ok (.ldc2_w 132, 3) := by decide +kernel
theorem dX6_part_15 : decode cX6_part 15 = .ok (.lcmp, 1) := by decide +kernel
theorem dX6_part_16 : decode cX6_part 16 = .ok (.ifCond .gt 16, 3) := by decide +kernel
theorem dX6_part_19 : decode cX6_part 19 = .ok (.aload_n 0, 1) := by decide +kernel
theorem dX6_part_20 : decode cX6_part 20 = .ok (.iconst 0, 1) := by decide +kernel
theorem dX6_part_21 : decode cX6_part 21 = .ok (.iconst 0, 1) := by decide +kernel
theorem dX6_part_22 : decode cX6_part 22 = .ok (.iload_n 1, 1) := by decide +kernel
theorem dX6_part_23 : decode cX6_part 23 = .ok (.lload_n 2, 1) := by decide +kernel
theorem dX6_part_24 : decode cX6_part 24 = .ok (.l2i, 1) := by decide +kernel
theorem dX6_part_25 : decode cX6_part 25 = .ok (.iconst 0, 1) := by decide +kernel
theorem dX6_part_26 : decode cX6_part 26 = .ok (.invokevirtual 65, 3) := by decide +kernel
theorem dX6_part_29 : decode cX6_part 29 = .ok (.ifCond .ne 5, 3) := by decide +kernel
theorem dX6_part_32 : decode cX6_part 32 = .ok (.iconst (-1), 1) := by decide +kernel
theorem dX6_part_33 : decode cX6_part 33 = .ok (.ireturn, 1) := by decide +kernel
theorem dX6_part_34 : decode cX6_part 34 = .ok (.aload_n 0, 1) := by decide +kernel
theorem dX6_part_35 : decode cX6_part 35 = .ok (.iconst 0, 1) := by decide +kernel
theorem dX6_part_36 : decode cX6_part 36 = .ok (.iconst 0, 1) := by decide +kernel
theorem dX6_part_37 : decode cX6_part 37 = .ok (.iload_n 1, 1) := by decide +kernel
theorem dX6_part_38 : decode cX6_part 38 = .ok (.lload_n 2, 1) := by decide +kernel
theorem dX6_part_39 : decode cX6_part 39 = .ok (.l2i, 1) := by decide +kernel
theorem dX6_part_40 : decode cX6_part 40 = .ok (.iconst 0, 1) := by decide +kernel
theorem dX6_part_41 : decode cX6_part 41 = .ok (.invokevirtual 121, 3) := by decide +kernel
theorem dX6_part_44 : decode cX6_part 44 = .ok (.aload_n 0, 1) := by decide +kernel
theorem dX6_part_45 : decode cX6_part 45 = .ok (.getfield 7, 3) := by decide +kernel
theorem dX6_part_48 : decode cX6_part 48 = .ok (.iconst 0, 1) := by decide +kernel
theorem dX6_part_49 : decode cX6_part 49 = .ok (.iaload, 1) := by decide +kernel
theorem dX6_part_50 : decode cX6_part 50 = .ok (.iconst 1, 1) := by decide +kernel
theorem dX6_part_51 : decode cX6_part 51 = .ok (.isub, 1) := by decide +kernel
theorem dX6_part_52 : decode cX6_part 52 = .ok (.ireturn, 1) := by decide +kernel
set_option maxRecDepth 20000 in
theorem ggX6_fasten_X6_isAllowed : GoodIn wsX6_fasten wsX6_isAllowed := goodIn_r _ [7, 8, 9, 10, 11, 2, 12, 13, 14, 15, 16, 6, 17, 18, 19, 20, 29, 30, 31, 32, 33, 34, 35, 36, 37, 38, 39, 40, 41, 42, 43, 44, 45, 46] (by decide +kernel) (by decide +kernel)
set_option maxRecDepth 20000 in
theorem gX6_fasten_X6_isAllowed : GoodIn wsX6_fasten (wsV RX6 65 RX6 yX6_isAllowed wsX6_isAllowed) := goodIn_app (goodIn_of _ (by decide +kernel)) ggX6_fasten_X6_isAllowed
set_option maxRecDepth 20000 in
theorem ggX6_fasten_X6_make : GoodIn wsX6_fasten wsX6_make := goodIn_r _ [24, 25, 8, 26, 10, 11, 27, 2, 12, 13, 28, 18, 19, 6, 20, 29, 30, 31, 32, 33, 34, 35, 36, 37, 38, 39, 40, 41, 42, 43, 44, 45, 46] (by decide +kernel) (by decide +kernel)
set_option maxRecDepth 20000 in
theorem gX6_fasten_X6_make : GoodIn wsX6_fasten (wsV RX6 121 RX6 yX6_make wsX6_make) := goodIn_app (goodIn_of _ (by decide +kernel)) ggX6_fasten_X6_make
theorem dX6_fasten_0 : decode cX6_fasten 0 = .ok (.aload_n 0, 1) := by decide +kernel
theorem dX6_fasten_1 : decode cX6_fasten 1 = .ok (.iconst 0, 1) := by decide +kernel
theorem dX6_fasten_2 : decode cX6_fasten 2 = .ok (.putfield 52, 3) := by decide +kernel
theorem dX6_fasten_5 : decode cX6_fasten 5 = .ok (.aload_n 0, 1) := by decide +kernel
theorem dX6_fasten_6 : decode cX6_fasten 6 = .ok (.iconst 0, 1) := by decide +kernel
theorem dX6_fasten_7 : decode cX6_fasten 7 = .ok (.iconst 3, 1) := by decide +kernel
theorem dX6_fasten_8 : decode cX6_fasten 8 = .ok (.iload_n 1, 1) := by decide +kernel
theorem dX6_fasten_9 : decode cX6_fasten 9 = .ok (.iload_n 2, 1) := by decide +kernel
theorem dX6_fasten_10 : decode cX6_fasten 10 = .ok (.iload_n 3, 1) := by decide +kernel
theorem dX6_fasten_11 : decode cX6_fasten 11 = .ok (.invokevirtual 65, 3) := by decide +kernel
theorem dX6_fasten_14 : decode cX6_fasten 14 = .ok (.ifCond .ne 5, 3) := by decide +kernel
theorem dX6_fasten_17 : decode cX6_fasten 17 = .ok (.iconst (-1), 1) := by decide +kernel
theorem dX6_fasten_18 : decode cX6_fasten 18 = .ok (.ireturn, 1) := by decide +kernel
theorem dX6_fasten_19 : decode cX6_fasten 19 = .ok (.aload_n 0, 1) := by decide +kernel
theorem dX6_fasten_20 : decode cX6_fasten 20 = .ok (.iconst 0, 1) := by decide +kernel
theorem dX6_fasten_21 : decode cX6_fasten 21 = .ok (.iconst 3, 1) := by decide +kernel
theorem dX6_fasten_22 : decode cX6_fasten 22 = .ok (.iload_n 1, 1) := by decide +kernel
theorem dX6_fasten_23 : decode cX6_fasten 23 = .ok (.iload_n 2, 1) := by decide +kernel
theorem dX6_fasten_24 : decode cX6_fasten 24 = .ok (.iload_n 3, 1) := by decide +kernel
theorem dX6_fasten_25 : decode cX6_fasten 25 = .ok (.invokevirtual 121, 3) := by decide +kernel
theorem dX6_fasten_28 : decode cX6_fasten 28 = .ok (.aload_n 0, 1) := by decide +kernel
theorem dX6_fasten_29 : decode cX6_fasten 29 = .ok (.getfield 26, 3) := by decide +kernel
theorem dX6_fasten_32 : decode cX6_fasten 32 = .ok (.iconst 0, 1) := by decide +kernel
theorem dX6_fasten_33 : decode cX6_fasten 33 = .ok (.iaload, 1) := by decide +kernel
theorem dX6_fasten_34 : decode cX6_fasten 34 = .ok (.iconst 1, 1) := by decide +kernel
theorem dX6_fasten_35 : decode cX6_fasten 35 = .ok (.isub, 1) := by decide +kernel
theorem dX6_fasten_36 : decode cX6_fasten 36 = .ok (.ireturn, 1) := by decide +kernel
set_option maxRecDepth 20000 in
theorem ggX6_tell_X6_isAllowed : GoodIn wsX6_tell wsX6_isAllowed := goodIn_r _ [5, 6, 7, 8, 9, 10, 11, 12, 13, 14, 15, 4, 16, 17, 18, 19, 28, 29, 30, 31, 32, 33, 34, 35, 36, 37, 38, 39, 40, 41, 42, 43, 44, 45] (by decide +kernel) (by decide +kernel)
set_option maxRecDepth 20000 in
theorem gX6_tell_X6_isAllowed : GoodIn wsX6_tell (wsV RX6 65 RX6 yX6_isAllowed wsX6_isAllowed) := goodIn_app (goodIn_of _ (by decide +kernel)) ggX6_tell_X6_isAllowed
set_option maxRecDepth 20000 in
theorem ggX6_tell_X6_make : GoodIn wsX6_tell wsX6_make := goodIn_r _ [23, 24, 6, 25, 8, 9, 26, 10, 11, 12, 27, 17, 18, 4, 19, 28, 29, 30, 31, 32, 33, 34, 35, 36, 37, 38, 39, 40, 41, 42, 43, 44, 45] (by decide +kernel) (by decide +kernel)
set_option maxRecDepth 20000 in
theorem gX6_tell_X6_make : GoodIn wsX6_tell (wsV RX6 121 RX6 yX6_make wsX6_make) := goodIn_app (goodIn_of _ (by decide +kernel)) ggX6_tell_X6_make
theorem dX6_tell_0 : decode cX6_tell 0 = .ok (.aload_n 0, 1) := by decide +kernel
theorem dX6_tell_1 : decode cX6_tell 1 = .ok (.iconst 0, 1) := by decide +kernel
theorem dX6_tell_2 : decode cX6_tell 2 = .ok (.iload_n 1, 1) := by decide +kernel
theorem dX6_tell_3 : decode cX6_tell 3 = .ok (.iload_n 2, 1) := by decide +kernel
theorem dX6_tell_4 : decode cX6_tell 4 = .ok (.iload_n 3, 1) := by decide +kernel
theorem dX6_tell_5 : decode cX6_tell 5 = .ok (.iload 4, 2) := by decide +kernel
theorem dX6_tell_7 : decode cX6_tell 7 = .ok (.invokevirtual 65, 3) := by decide +kernel
theorem dX6_tell_10 : decode cX6_tell 10 = .ok (.istore 5, 2) := by decide +kernel
theorem dX6_tell_12 : decode cX6_tell 12 = .ok (.iload 5, 2) := by decide +kernel
theorem dX6_tell_14 : decode cX6_tell 14 = .ok (.ifCond .eq 13, 3) := by decide +kernel
theorem dX6_tell_17 : decode cX6_tell 17 = .ok (.aload_n 0, 1) := by decide +kernel
theorem dX6_tell_18 : decode cX6_tell 18 = .ok (.iconst 0, 1) := by decide +kernel
theorem dX6_tell_19 : decode cX6_tell 19 = .ok (.iload_n 1, 1) := by decide +kernel
theorem dX6_tell_20 : decode cX6_tell 20 = .ok (.iload_n 2, 1) := by decide +kernel
theorem dX6_tell_21 : decode cX6_tell 21 = .ok (.iload_n 3, 1) := by decide +kernel
theorem dX6_tell_22 : decode cX6_tell 22 = .ok (.iload 4, 2) := by decide +kernel
theorem dX6_tell_24 : decode cX6_tell 24 = .ok (.invokevirtual 121, 3) := by decide +kernel
theorem dX6_tell_27 : decode cX6_tell 27 = .ok (.iload 5, 2) := by decide +kernel
theorem dX6_tell_29 : decode cX6_tell 29 = .ok (.ireturn, 1) := by decide +kernel
set_option maxRecDepth 20000 in
theorem ggX6_cover_X6_tell : GoodIn wsX6_cover wsX6_tell := goodIn_r _ [6, 7, 8, 9, 5, 10, 11, 12, 13, 14, 15, 16, 17, 18, 19, 20, 21, 22, 23, 24, 25, 26, 27, 28, 29, 30, 31, 32, 33, 34, 35, 36, 37, 38, 39, 40, 41, 42, 43, 44, 45, 46, 47, 48, 49, 50] (by decide +kernel) (by decide +kernel)
set_option maxRecDepth 20000 in
theorem gX6_cover_X6_tell : GoodIn wsX6_cover (wsV RX6 134 RX6 yX6_tell wsX6_tell) := goodIn_app (goodIn_of _ (by decide +kernel)) ggX6_cover_X6_tell
theorem dX6_cover_0 : decode cX6_cover 0 = .ok (.aload_n 0, 1) := by decide +kernel
theorem dX6_cover_1 : decode cX6_cover 1 = .ok (.iconst 0, 1) := by decide +kernel
theorem dX6_cover_2 : decode cX6_cover 2 = .ok (.putfield 52, 3) := by decide +kernel
theorem dX6_cover_5 : decode cX6_cover 5 = .ok (.aload_n 0, 1) := by decide +kernel
theorem dX6_cover_6 : decode cX6_cover 6 = .ok (.iconst 1, 1) := by decide +kernel
theorem dX6_cover_7 : decode cX6_cover 7 = .ok (.iload_n 1, 1) := by decide +kernel
theorem dX6_cover_8 : decode cX6_cover 8 = .ok (.iload_n 2, 1) := by decide +kernel
theorem dX6_cover_9 : decode cX6_cover 9 = .ok (.iconst 0, 1) := by decide +kernel
theorem dX6_cover_10 : decode cX6_cover 10 = .ok (.invokevirtual 134, 3) := by decide +kernel
theorem dX6_cover_13 : decode cX6_cover 13 = .ok (.ireturn, 1) := by decide +kernel
set_option maxRecDepth 20000 in
theorem ggX6_way_X6_isPart : GoodIn wsX6_way wsX6_isPart := goodIn_r _ [6, 7, 33, 34, 35, 36, 37, 38, 39, 40, 41, 42, 43, 44, 45, 46, 47, 48, 49, 50] (by decide +kernel) (by decide +kernel)
set_option maxRecDepth 20000 in
theorem gX6_way_X6_isPart : GoodIn wsX6_way (wsV RX6 57 RX6 yX6_isPart wsX6_isPart) := goodIn_app (goodIn_of _ (by decide +kernel)) ggX6_way_X6_isPart
set_option maxRecDepth 20000 in
theorem ggX6_way_X6_tell : GoodIn wsX6_way wsX6_tell := goodIn_r _ [11, 12, 13, 14, 5, 15, 7, 16, 17, 18, 19, 20, 21, 2, 3, 4, 6, 22, 23, 24, 25, 26, 27, 28, 29, 30, 31, 32, 33, 34, 35, 36, 37, 38, 39, 40, 41, 42, 43, 44, 45, 46, 47, 48, 49, 50] (by decide +kernel) (by decide +kernel)
set_option maxRecDepth 20000 in
theorem gX6_way_X6_tell : GoodIn wsX6_way (wsV RX6 134 RX6 yX6_tell wsX6_tell) := goodIn_app (goodIn_of _ (by decide +kernel)) ggX6_way_X6_tell
theorem dX6_way_0 : decode cX6_way 0 = .ok (.aload_n 0, 1) := by decide +kernel
