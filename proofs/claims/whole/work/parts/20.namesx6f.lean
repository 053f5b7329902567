theorem dX6_alike_23 : decode cX6_alike 23 = .ok (.iload_n 1, 1) := by decide +kernel
theorem dX6_alike_24 : decode cX6_alike 24 = .ok (.invokevirtual 57, 3) := by decide +kernel
theorem dX6_alike_27 : decode cX6_alike 27 = .ok (.ifCond .eq 126, 3) := by decide +kernel
theorem dX6_alike_30 : decode cX6_alike 30 = .ok (.iload 4, 2) := by decide +kernel
theorem dX6_alike_32 : decode cX6_alike 32 = .ok (.iload_n 1, 1) := by decide +kernel
theorem dX6_alike_33 : decode cX6_alike 33 = .ok (.if_icmp .eq 39, 3) := by decide +kernel
theorem dX6_alike_36 : decode cX6_alike 36 = .ok (.aload_n 0, 1) := by decide +kernel
theorem dX6_alike_37 : decode cX6_alike 37 = .ok (.getfield 13, 3) := by decide +kernel
theorem dX6_alike_40 : decode cX6_alike 40 = .ok (.iload 4, 2) := by decide +kernel
theorem dX6_alike_42 : decode cX6_alike 42 = .ok (.iaload, 1) := by decide +kernel
theorem dX6_alike_43 : decode cX6_alike 43 = .ok (.aload_n 0, 1) := by decide +kernel
theorem dX6_alike_44 : decode cX6_alike 44 = .ok (.getfield 13, 3) := by decide +kernel
theorem dX6_alike_47 : decode cX6_alike 47 = .ok (.iload_n 1, 1) := by decide +kernel
theorem dX6_alike_48 : decode cX6_alike 48 = .ok (.iaload, 1) := by decide +kernel
theorem dX6_alike_49 : decode cX6_alike 49 = .ok (.if_icmp .ne 23, 3) := by decide +kernel
theorem dX6_alike_52 : decode cX6_alike 52 = .ok (.aload_n 0, 1) := by decide +kernel
theorem dX6_alike_53 : decode cX6_alike 53 = .ok (.getfield 16, 3) := by decide +kernel
theorem dX6_alike_56 : decode cX6_alike 56 = .ok (.iload 4, 2) := by decide +kernel
theorem dX6_alike_58 : decode cX6_alike 58 = .ok (.iaload, 1) := by decide +kernel
theorem dX6_alike_59 : decode cX6_alike 59 = .ok (.aload_n 0, 1) := by decide +kernel
theorem dX6_alike_60 : decode cX6_alike 60 = .ok (.getfield 16, 3) := by decide +kernel
theorem dX6_alike_63 : decode cX6_alike 63 = .ok (.iload_n 1, 1) := by decide +kernel
theorem dX6_alike_64 : decode cX6_alike 64 = .ok (.iaload, 1) := by decide +kernel
theorem dX6_alike_65 : decode cX6_alike 65 = .ok (.if_icmp .ne 7, 3) := by decide +kernel
theorem dX6_alike_68 : decode cX6_alike 68 = .ok (.iconst 1, 1) := by decide +kernel
theorem dX6_alike_69 : decode cX6_alike 69 = .ok (.goto 4, 3) := by decide +kernel
theorem dX6_alike_72 : decode cX6_alike 72 = .ok (.iconst 0, 1) := by decide +kernel
theorem dX6_alike_73 : decode cX6_alike 73 = .ok (.istore 5, 2) := by decide +kernel
theorem dX6_alike_75 : decode cX6_alike 75 = .ok (.iconst 0, 1) := by decide +kernel
theorem dX6_alike_76 : decode cX6_alike 76 = .ok (.istore 6, 2) := by decide +kernel
theorem dX6_alike_78 : decode cX6_alike 78 = .ok (.iload 6, 2) := by decide +kernel
theorem dX6_alike_80 : decode cX6_alike 80 = .ok (.bipush 8, 2) := by decide +kernel
theorem dX6_alike_82 : decode cX6_alike 82 = .ok (.if_icmp .ge 49, 3) := by decide +kernel
theorem dX6_alike_85 : decode cX6_alike 85 = .ok (.iload 5, 2) := by decide +kernel
theorem dX6_alike_87 : decode cX6_alike 87 = .ok (.ifCond .eq 35, 3) := by decide +kernel
theorem dX6_alike_90 : decode cX6_alike 90 = .ok (.aload_n 0, 1) := by decide +kernel
theorem dX6_alike_91 : decode cX6_alike 91 = .ok (.getfield 32, 3) := by decide +kernel
theorem dX6_alike_94 : decode cX6_alike 94 = .ok (.bipush 8, 2) := by decide +kernel
theorem dX6_alike_96 : decode cX6_alike 96 = .ok (.iload 4, 2) := by decide +kernel
theorem dX6_alike_98 : decode cX6_alike 98 = .ok (.imul, 1) := by decide +kernel
theorem dX6_alike_99 : decode cX6_alike 99 = .ok (.iload 6, 2) := by decide +kernel
theorem dX6_alike_101 : decode cX6_alike 101 = .ok (.iadd, 1) := by decide +kernel
theorem dX6_alike_102 : decode cX6_alike 102 = .ok (.baload, 1) := by decide +kernel
theorem dX6_alike_103 : decode cX6_alike 103 = .ok (.aload_n 0, 1) := by decide +kernel
theorem dX6_alike_104 : decode cX6_alike 104 = .ok (.getfield 32, 3) := by decide +kernel
theorem dX6_alike_107 : decode cX6_alike 107 = .ok (.bipush 8, 2) := by decide +kernel
theorem dX6_alike_109 : decode cX6_alike 109 = .ok (.iload_n 1, 1) := by decide +kernel
theorem dX6_alike_110 : decode cX6_alike 110 = .ok (.imul, 1) := by decide +kernel
theorem dX6_alike_111 : decode cX6_alike 111 = .ok (.iload 6, 2) := by decide +kernel
theorem dX6_alike_113 : decode cX6_alike 113 = .ok (.iadd, 1) := by decide +kernel
theorem dX6_alike_114 : decode cX6_alike 114 = .ok (.baload, 1) := by decide +kernel
theorem dX6_alike_115 : decode cX6_alike 115 = .ok (.if_icmp .ne 7, 3) := by decide +kernel
theorem dX6_alike_118 : decode cX6_alike 118 = .ok (.iconst 1, 1) := by decide +kernel
theorem dX6_alike_119 : decode cX6_alike 119 = .ok (.goto 4, 3) := by decide +kernel
theorem dX6_alike_122 : decode cX6_alike 122 = .ok (.iconst 0, 1) := by decide +kernel
theorem dX6_alike_123 : decode cX6_alike 123 = .ok (.istore 5, 2) := by decide +kernel
theorem dX6_alike_125 : decode cX6_alike 125 = .ok (.iinc 6 1, 3) := by decide +kernel
theorem dX6_alike_128 : decode cX6_alike 128 = .ok (.goto (-50), 3) := by decide +kernel
theorem dX6_alike_131 : decode cX6_alike 131 = .ok (.iload 5, 2) := by decide +kernel
theorem dX6_alike_133 : decode cX6_alike 133 = .ok (.ifCond .eq 14, 3) := by decide +kernel
theorem dX6_alike_136 : decode cX6_alike 136 = .ok (.iload_n 3, 1) := by decide +kernel
theorem dX6_alike_137 : decode cX6_alike 137 = .ok (.iload_n 2, 1) := by decide +kernel
theorem dX6_alike_138 : decode cX6_alike 138 = .ok (.if_icmp .ne 6, 3) := by decide +kernel
theorem dX6_alike_141 : decode cX6_alike 141 = .ok (.iload 4, 2) := by decide +kernel
theorem dX6_alike_143 : decode cX6_alike 143 = .ok (.ireturn, 1) := by decide +kernel
theorem dX6_alike_144 : decode cX6_alike 144 = .ok (.iinc 3 1, 3) := by decide +kernel
theorem dX6_alike_147 : decode cX6_alike 147 = .ok (.iinc 4 1, 3) := by decide +kernel
theorem dX6_alike_150 : decode cX6_alike 150 = .ok (.goto (-140), 3) := by decide +kernel
theorem dX6_alike_153 : decode cX6_alike 153 = .ok (.iconst (-1), 1) := by decide +kernel
theorem dX6_alike_154 : decode cX6_alike 154 = .ok (.ireturn, 1) := by decide +kernel
theorem dX6_put_0 : decode cX6_put 0 = .ok (.aload_n 0, 1) := by decide +kernel
theorem dX6_put_1 : decode cX6_put 1 = .ok (.aload_n 0, 1) := by decide +kernel
theorem dX6_put_2 : decode cX6_put 2 = .ok (.getfield 165, 3) := by decide +kernel
theorem dX6_put_5 : decode cX6_put 5 = .ok (.aload_n 0, 1) := by decide +kernel
theorem dX6_put_6 : decode cX6_put 6 = .ok (.getfield 168, 3) := by decide +kernel
theorem dX6_put_9 : decode cX6_put 9 = .ok (.if_icmp .ne 7, 3) := by decide +kernel
theorem dX6_put_12 : decode cX6_put 12 = .ok (.iload_n 1, 1) := by decide +kernel
theorem dX6_put_13 : decode cX6_put 13 = .ok (.goto 7, 3) := by decide +kernel
theorem dX6_put_16 : decode cX6_put 16 = .ok (.aload_n 0, 1) := by decide +kernel
theorem dX6_put_17 : decode cX6_put 17 = .ok (.getfield 171, 3) := by decide +kernel
theorem dX6_put_20 : decode cX6_put 20 = .ok (.putfield 171, 3) := by decide +kernel
theorem dX6_put_23 : decode cX6_put 23 = .ok (.aload_n 0, 1) := by decide +kernel
theorem dX6_put_24 : decode cX6_put 24 = .ok (.dup, 1) := by decide +kernel
theorem dX6_put_25 : decode cX6_put 25 = .ok (.getfield 165, 3) := by decide +kernel
theorem dX6_put_28 : decode cX6_put 28 = .ok (.iconst 1, 1) := by decide +kernel
theorem dX6_put_29 : decode cX6_put 29 = .ok (.iadd, 1) := by decide +kernel
theorem dX6_put_30 : decode cX6_put 30 = .ok (.putfield 165, 3) := by decide +kernel
theorem dX6_put_33 : decode cX6_put 33 = .ok (.return_, 1) := by decide +kernel
set_option maxRecDepth 20000 in
theorem ggX6_putWord_X6_nameOf : GoodIn wsX6_putWord wsX6_nameOf := goodIn_r _ [6, 7, 8, 9, 10, 11, 12, 13] (by decide +kernel) (by decide +kernel)
set_option maxRecDepth 20000 in
theorem gX6_putWord_X6_nameOf : GoodIn wsX6_putWord (va_wsS RX6 103 yX6_nameOf wsX6_nameOf) := goodIn_app (goodIn_of _ (by decide +kernel)) ggX6_putWord_X6_nameOf
set_option maxRecDepth 20000 in
theorem ggX6_putWord_X6_put : GoodIn wsX6_putWord wsX6_put := goodIn_r _ [17, 18, 19, 20, 21, 22, 23, 24, 25, 26, 27, 28, 29, 30, 31, 32, 33, 34, 35, 36, 37, 38] (by decide +kernel) (by decide +kernel)
set_option maxRecDepth 20000 in
theorem gX6_putWord_X6_put : GoodIn wsX6_putWord (wsV RX6 176 RX6 yX6_put wsX6_put) := goodIn_app (goodIn_of _ (by decide +kernel)) ggX6_putWord_X6_put
theorem dX6_putWord_0 : decode cX6_putWord 0 = .ok (.iload_n 1, 1) := by decide +kernel
theorem dX6_putWord_1 : decode cX6_putWord 1 = .ok (.invokestatic 103, 3) := by decide +kernel
theorem dX6_putWord_4 : decode cX6_putWord 4 = .ok (.lstore_n 2, 1) := by decide +kernel
theorem dX6_putWord_5 : decode cX6_putWord 5 = .ok (.iconst 0, 1) := by decide +kernel
theorem dX6_putWord_6 : decode cX6_putWord 6 = .ok (.istore 4, 2) := by decide +kernel
theorem dX6_putWord_8 : decode cX6_putWord 8 = .ok (.lload_n 2, 1) := by decide +kernel
theorem dX6_putWord_9 : decode cX6_putWord 9 = .ok (.lstore 5, 2) := by decide +kernel
theorem dX6_putWord_11 : decode cX6_putWord 11 = .ok (.lload 5, 2) := by decide +kernel
theorem dX6_putWord_13 : decode cX6_putWord 13 = .ok (.ldc2_w 174, 3) := by decide +kernel
theorem dX6_putWord_16 : decode cX6_putWord 16 = .ok (.lcmp, 1) := by decide +kernel
theorem dX6_putWord_17 : decode cX6_putWord 17 = .ok (.ifCond .le 17, 3) := by decide +kernel
theorem dX6_putWord_20 : decode cX6_putWord 20 = .ok (.iinc 4 1, 3) := by decide +kernel
theorem dX6_putWord_23 : decode cX6_putWord 23 = .ok (.lload 5, 2) := by decide +kernel
theorem dX6_putWord_25 : decode cX6_putWord 25 = .ok (.ldc2_w 76, 3) := by decide +kernel
theorem dX6_putWord_28 : decode cX6_putWord 28 = .ok (.ldiv, 1) := by decide +kernel
theorem dX6_putWord_29 : decode cX6_putWord 29 = .ok (.lstore 5, 2) := by decide +kernel
theorem dX6_putWord_31 : decode cX6_putWord 31 = .ok (.goto (-20), 3) := by decide +kernel
theorem dX6_putWord_34 : decode cX6_putWord 34 = .ok (.iload 4, 2) := by decide +kernel
theorem dX6_putWord_36 : decode cX6_putWord 36 = .ok (.iconst 1, 1) := by decide +kernel
theorem dX6_putWord_37 : decode cX6_putWord 37 = .ok (.isub, 1) := by decide +kernel
theorem dX6_putWord_38 : decode cX6_putWord 38 = .ok (.istore 5, 2) := by decide +kernel
theorem dX6_putWord_40 : decode cX6_putWord 40 = .ok (.iload 5, 2) := by decide +kernel
theorem dX6_putWord_42 : decode cX6_putWord 42 = .ok (.ifCond .lt 25, 3) := by decide +kernel
theorem dX6_putWord_45 : decode cX6_putWord 45 = .ok (.aload_n 0, 1) := by decide +kernel
theorem dX6_putWord_46 : decode cX6_putWord 46 = .ok (.lload_n 2, 1) := by decide +kernel
theorem dX6_putWord_47 : decode cX6_putWord 47 = .ok (.bipush 8, 2) := by decide +kernel
theorem dX6_putWord_49 : decode cX6_putWord 49 = .ok (.iload 5, 2) := by decide +kernel
theorem dX6_putWord_51 : decode cX6_putWord 51 = .ok (.imul, 1) := by decide +kernel
theorem dX6_putWord_52 : decode cX6_putWord 52 = .ok (.lshr, 1) := by decide +kernel
theorem dX6_putWord_53 : decode cX6_putWord 53 = .ok (.ldc2_w 174, 3) := by decide +kernel
theorem dX6_putWord_56 : decode cX6_putWord 56 = .ok (.land, 1) := by decide +kernel
theorem dX6_putWord_57 : decode cX6_putWord 57 = .ok (.l2i, 1) := by decide +kernel
theorem dX6_putWord_58 : decode cX6_putWord 58 = .ok (.invokevirtual 176, 3) := by decide +kernel
theorem dX6_putWord_61 : decode cX6_putWord 61 = .ok (.iinc 5 (-1), 3) := by decide +kernel
theorem dX6_putWord_64 : decode cX6_putWord 64 = .ok (.goto (-24), 3) := by decide +kernel
theorem dX6_putWord_67 : decode cX6_putWord 67 = .ok (.aload_n 0, 1) := by decide +kernel
theorem dX6_putWord_68 : decode cX6_putWord 68 = .ok (.bipush 32, 2) := by decide +kernel
theorem dX6_putWord_70 : decode cX6_putWord 70 = .ok (.invokevirtual 176, 3) := by decide +kernel
theorem dX6_putWord_73 : decode cX6_putWord 73 = .ok (.return_, 1) := by decide +kernel
set_option maxRecDepth 20000 in
theorem ggX6_putNumber_X6_put : GoodIn wsX6_putNumber wsX6_put := goodIn_r _ [5, 6, 7, 8, 9, 10, 11, 12, 13, 14, 15, 16, 17, 18, 19, 20, 21, 22, 23, 24, 25, 26] (by decide +kernel) (by decide +kernel)
set_option maxRecDepth 20000 in
theorem gX6_putNumber_X6_put : GoodIn wsX6_putNumber (wsV RX6 176 RX6 yX6_put wsX6_put) := goodIn_app (goodIn_of _ (by decide +kernel)) ggX6_putNumber_X6_put
theorem dX6_putNumber_0 : decode cX6_putNumber 0 = .ok (.iconst 1, 1) := by decide +kernel
theorem dX6_putNumber_1 : decode cX6_putNumber 1 = .ok (.istore_n 2, 1) := by decide +kernel
theorem dX6_putNumber_2 : decode cX6_putNumber 2 = .ok (.iload_n 1, 1) := by decide +kernel
theorem dX6_putNumber_3 : decode cX6_putNumber 3 = .ok (.iload_n 2, 1) := by decide +kernel
theorem dX6_putNumber_4 : decode cX6_putNumber 4 = .ok (.idiv, 1) := by decide +kernel
theorem dX6_putNumber_5 : decode cX6_putNumber 5 = .ok (.bipush 9, 2) := by decide +kernel
theorem dX6_putNumber_7 : decode cX6_putNumber 7 = .ok (.if_icmp .le 11, 3) := by decide +kernel
theorem dX6_putNumber_10 : decode cX6_putNumber 10 = .ok (.iload_n 2, 1) := by decide +kernel
theorem dX6_putNumber_11 : decode cX6_putNumber 11 = .ok (.bipush 10, 2) := by decide +kernel
theorem dX6_putNumber_13 : decode cX6_putNumber 13 = .ok (.imul, 1) := by decide +kernel
theorem dX6_putNumber_14 : decode cX6_putNumber 14 = .ok (.istore_n 2, 1) := by decide +kernel
theorem dX6_putNumber_15 : decode cX6_putNumber 15 = .ok (.goto (-13), 3) := by decide +kernel
theorem dX6_putNumber_18 : decode cX6_putNumber 18 = .ok (.iload_n 2, 1) := by decide +kernel
theorem dX6_putNumber_19 : decode cX6_putNumber 19 = .ok (.ifCond .le 24, 3) := by decide +kernel
theorem dX6_putNumber_22 : decode cX6_putNumber 22 = .ok (.aload_n 0, 1) := by decide +kernel
theorem dX6_putNumber_23 : decode cX6_putNumber 23 = .ok (.bipush 48, 2) := by decide +kernel
theorem dX6_putNumber_25 : decode cX6_putNumber 25 = .ok (.iload_n 1, 1) := by decide +kernel
theorem dX6_putNumber_26 : decode cX6_putNumber 26 = .ok (.iload_n 2, 1) := by decide +kernel
theorem dX6_putNumber_27 : decode cX6_putNumber 27 = .ok (.idiv, 1) := by decide +kernel
theorem dX6_putNumber_28 : decode cX6_putNumber 28 = .ok (.bipush 10, 2) := by decide +kernel
theorem dX6_putNumber_30 : decode cX6_putNumber 30 = .ok (.irem, 1) := by decide +kernel
theorem dX6_putNumber_31 : decode cX6_putNumber 31 = .ok (.iadd, 1) := by decide +kernel
theorem dX6_putNumber_32 : decode cX6_putNumber 32 = .ok (.invokevirtual 176, 3) := by decide +kernel
theorem dX6_putNumber_35 : decode cX6_putNumber 35 = .ok (.iload_n 2, 1) := by decide +kernel
theorem dX6_putNumber_36 : decode cX6_putNumber 36 = .ok (.bipush 10, 2) := by decide +kernel
theorem dX6_putNumber_38 : decode cX6_putNumber 38 = .ok (.idiv, 1) := by decide +kernel
theorem dX6_putNumber_39 : decode cX6_putNumber 39 = .ok (.istore_n 2, 1) := by decide +kernel
theorem dX6_putNumber_40 : decode cX6_putNumber 40 = .ok (.goto (-22), 3) := by decide +kernel
theorem dX6_putNumber_43 : decode cX6_putNumber 43 = .ok (.aload_n 0, 1) := by decide +kernel
theorem dX6_putNumber_44 : decode cX6_putNumber 44 = .ok (.bipush 32, 2) := by decide +kernel
theorem dX6_putNumber_46 : decode cX6_putNumber 46 = .ok (.invokevirtual 176, 3) := by decide +kernel
theorem dX6_putNumber_49 : decode cX6_putNumber 49 = .ok (.return_, 1) := by decide +kernel
set_option maxRecDepth 20000 in
theorem ggX6_putTwo_X6_putWord : GoodIn wsX6_putTwo wsX6_putWord := goodIn_r _ [5, 6, 7, 8, 9, 4, 10, 11, 12, 13, 14, 15, 16, 17, 18, 19, 20, 21, 22, 23, 24, 29, 30, 31, 32, 33, 34, 35, 36, 37, 38, 39, 40, 41, 42, 43, 44, 45, 46] (by decide +kernel) (by decide +kernel)
set_option maxRecDepth 20000 in
theorem gX6_putTwo_X6_putWord : GoodIn wsX6_putTwo (wsV RX6 179 RX6 yX6_putWord wsX6_putWord) := goodIn_app (goodIn_of _ (by decide +kernel)) ggX6_putTwo_X6_putWord
set_option maxRecDepth 20000 in
theorem ggX6_putTwo_X6_putNumber : GoodIn wsX6_putTwo wsX6_putNumber := goodIn_r _ [28, 18, 19, 20, 4, 21, 22, 23, 24, 29, 30, 31, 32, 33, 34, 35, 36, 37, 38, 39, 40, 41, 42, 43, 44, 45, 46] (by decide +kernel) (by decide +kernel)
set_option maxRecDepth 20000 in
theorem gX6_putTwo_X6_putNumber : GoodIn wsX6_putTwo (wsV RX6 182 RX6 yX6_putNumber wsX6_putNumber) := goodIn_app (goodIn_of _ (by decide +kernel)) ggX6_putTwo_X6_putNumber
theorem dX6_putTwo_0 : decode cX6_putTwo 0 = .ok (.aload_n 0, 1) := by decide +kernel
theorem dX6_putTwo_1 : decode cX6_putTwo 1 = .ok (.iload_n 1, 1) := by decide +kernel
theorem dX6_putTwo_2 : decode cX6_putTwo 2 = .ok (.invokevirtual 179, 3) := by decide +kernel
theorem dX6_putTwo_5 : decode cX6_putTwo 5 = .ok (.aload_n 0, 1) := by decide +kernel
theorem dX6_putTwo_6 : decode cX6_putTwo 6 = .ok (.iload_n 2, 1) := by decide +kernel
theorem dX6_putTwo_7 : decode cX6_putTwo 7 = .ok (.invokevirtual 182, 3) := by decide +kernel
theorem dX6_putTwo_10 : decode cX6_putTwo 10 = .ok (.aload_n 0, 1) := by decide +kernel
theorem dX6_putTwo_11 : decode cX6_putTwo 11 = .ok (.iload_n 3, 1) := by decide +kernel
theorem dX6_putTwo_12 : decode cX6_putTwo 12 = .ok (.invokevirtual 182, 3) := by decide +kernel
theorem dX6_putTwo_15 : decode cX6_putTwo 15 = .ok (.return_, 1) := by decide +kernel
set_option maxRecDepth 20000 in
theorem ggX6_putPart_X6_putTwo : GoodIn wsX6_putPart wsX6_putTwo := goodIn_r _ [11, 12, 13, 14, 10, 15, 16, 17, 18, 19, 20, 21, 22, 23, 24, 25, 26, 27, 28, 29, 30, 31, 32, 33, 34, 35, 36, 37, 38, 42, 43, 44, 45, 46, 47, 48, 49, 50, 51, 52, 53, 54, 55, 56, 57, 58, 59] (by decide +kernel) (by decide +kernel)
set_option maxRecDepth 20000 in
theorem gX6_putPart_X6_putTwo : GoodIn wsX6_putPart (wsV RX6 185 RX6 yX6_putTwo wsX6_putTwo) := goodIn_app (goodIn_of _ (by decide +kernel)) ggX6_putPart_X6_putTwo
set_option maxRecDepth 20000 in
theorem ggX6_putPart_X6_wayAt : GoodIn wsX6_putPart wsX6_wayAt := goodIn_r _ [41] (by decide +kernel) (by decide +kernel)
set_option maxRecDepth 20000 in
theorem gX6_putPart_X6_wayAt : GoodIn wsX6_putPart (va_wsS RX6 61 yX6_wayAt wsX6_wayAt) := goodIn_app (goodIn_of _ (by decide +kernel)) ggX6_putPart_X6_wayAt
set_option maxRecDepth 20000 in
theorem ggX6_putPart_X6_putNumber : GoodIn wsX6_putPart wsX6_putNumber := goodIn_r _ [38, 28, 29, 30, 10, 31, 32, 33, 34, 42, 43, 44, 45, 46, 47, 48, 49, 50, 51, 52, 53, 54, 55, 56, 57, 58, 59] (by decide +kernel) (by decide +kernel)
set_option maxRecDepth 20000 in
theorem gX6_putPart_X6_putNumber : GoodIn wsX6_putPart (wsV RX6 182 RX6 yX6_putNumber wsX6_putNumber) := goodIn_app (goodIn_of _ (by decide +kernel)) ggX6_putPart_X6_putNumber
theorem dX6_putPart_0 : decode cX6_putPart 0 = .ok (.iconst 0, 1) := by decide +kernel
theorem dX6_putPart_1 : decode cX6_putPart 1 = .ok (.istore_n 2, 1) := by decide +kernel
theorem dX6_putPart_2 : decode cX6_putPart 2 = .ok (.iload_n 2, 1) := by decide +kernel
theorem dX6_putPart_3 : decode cX6_putPart 3 = .ok (.aload_n 0, 1) := by decide +kernel
theorem dX6_putPart_4 : decode cX6_putPart 4 = .ok (.getfield 7, 3) := by decide +kernel
theorem dX6_putPart_7 : decode cX6_putPart 7 = .ok (.iconst 0, 1) := by decide +kernel
theorem dX6_putPart_8 : decode cX6_putPart 8 = .ok (.iaload, 1) := by decide +kernel
theorem dX6_putPart_9 : decode cX6_putPart 9 = .ok (.if_icmp .ge 30, 3) := by decide +kernel
theorem dX6_putPart_12 : decode cX6_putPart 12 = .ok (.aload_n 0, 1) := by decide +kernel
theorem dX6_putPart_13 : decode cX6_putPart 13 = .ok (.getfield 19, 3) := by decide +kernel
theorem dX6_putPart_16 : decode cX6_putPart 16 = .ok (.bipush 10, 2) := by decide +kernel
theorem dX6_putPart_18 : decode cX6_putPart 18 = .ok (.iload_n 1, 1) := by decide +kernel
theorem dX6_putPart_19 : decode cX6_putPart 19 = .ok (.imul, 1) := by decide +kernel
theorem dX6_putPart_20 : decode cX6_putPart 20 = .ok (.iload_n 2, 1) := by decide +kernel
theorem dX6_putPart_21 : decode cX6_putPart 21 = .ok (.iadd, 1) := by decide +kernel
theorem dX6_putPart_22 : decode cX6_putPart 22 = .ok (.baload, 1) := by decide +kernel
theorem dX6_putPart_23 : decode cX6_putPart 23 = .ok (.ifCond .eq 10, 3) := by decide +kernel
theorem dX6_putPart_26 : decode cX6_putPart 26 = .ok (.aload_n 0, 1) := by decide +kernel
theorem dX6_putPart_27 : decode cX6_putPart 27 = .ok (.iconst 1, 1) := by decide +kernel
theorem dX6_putPart_28 : decode cX6_putPart 28 = .ok (.iload_n 1, 1) := by decide +kernel
theorem dX6_putPart_29 : decode cX6_putPart 29 = .ok (.iload_n 2, 1) := by decide +kernel
theorem dX6_putPart_30 : decode cX6_putPart 30 = .ok (.invokevirtual 185, 3) := by decide +kernel
theorem dX6_putPart_33 : decode cX6_putPart 33 = .ok (.iinc 2 1, 3) := by decide +kernel
theorem dX6_putPart_36 : decode cX6_putPart 36 = .ok (.goto (-34), 3) := by decide +kernel
theorem dX6_putPart_39 : decode cX6_putPart 39 = .ok (.iconst 0, 1) := by decide +kernel
theorem dX6_putPart_40 : decode cX6_putPart 40 = .ok (.istore_n 2, 1) := by decide +kernel
theorem dX6_putPart_41 : decode cX6_putPart 41 = .ok (.iload_n 2, 1) := by decide +kernel
theorem dX6_putPart_42 : decode cX6_putPart 42 = .ok (.bipush 6, 2) := by decide +kernel
theorem dX6_putPart_44 : decode cX6_putPart 44 = .ok (.if_icmp .ge 54, 3) := by decide +kernel
theorem dX6_putPart_47 : decode cX6_putPart 47 = .ok (.iconst 0, 1) := by decide +kernel
theorem dX6_putPart_48 : decode cX6_putPart 48 = .ok (.istore_n 3, 1) := by decide +kernel
theorem dX6_putPart_49 : decode cX6_putPart 49 = .ok (.iload_n 3, 1) := by decide +kernel
theorem dX6_putPart_50 : decode cX6_putPart 50 = .ok (.aload_n 0, 1) := by decide +kernel
theorem dX6_putPart_51 : decode cX6_putPart 51 = .ok (.getfield 7, 3) := by decide +kernel
theorem dX6_putPart_54 : decode cX6_putPart 54 = .ok (.iconst 0, 1) := by decide +kernel
theorem dX6_putPart_55 : decode cX6_putPart 55 = .ok (.iaload, 1) := by decide +kernel
theorem dX6_putPart_56 : decode cX6_putPart 56 = .ok (.if_icmp .ge 36, 3) := by decide +kernel
theorem dX6_putPart_59 : decode cX6_putPart 59 = .ok (.aload_n 0, 1) := by decide +kernel
theorem dX6_putPart_60 : decode cX6_putPart 60 = .ok (.getfield 23, 3) := by decide +kernel
theorem dX6_putPart_63 : decode cX6_putPart 63 = .ok (.iconst 0, 1) := by decide +kernel
theorem dX6_putPart_64 : decode cX6_putPart 64 = .ok (.iload_n 1, 1) := by decide +kernel
theorem dX6_putPart_65 : decode cX6_putPart 65 = .ok (.iload_n 2, 1) := by decide +kernel
theorem dX6_putPart_66 : decode cX6_putPart 66 = .ok (.iload_n 3, 1) := by decide +kernel
theorem dX6_putPart_67 : decode cX6_putPart 67 = .ok (.invokestatic 61, 3) := by decide +kernel
theorem dX6_putPart_70 : decode cX6_putPart 70 = .ok (.baload, 1) := by decide +kernel
theorem dX6_putPart_71 : decode cX6_putPart 71 = .ok (.ifCond .eq 15, 3) := by decide +kernel
theorem dX6_putPart_74 : decode cX6_putPart 74 = .ok (.aload_n 0, 1) := by decide +kernel
theorem dX6_putPart_75 : decode cX6_putPart 75 = .ok (.iconst 2, 1) := by decide +kernel
theorem dX6_putPart_76 : decode cX6_putPart 76 = .ok (.iload_n 1, 1) := by decide +kernel
theorem dX6_putPart_77 : decode cX6_putPart 77 = .ok (.iload_n 2, 1) := by decide +kernel
theorem dX6_putPart_78 : decode cX6_putPart 78 = .ok (.invokevirtual 185, 3) := by decide +kernel
theorem dX6_putPart_81 : decode cX6_putPart 81 = .ok (.aload_n 0, 1) := by decide +kernel
theorem dX6_putPart_82 : decode cX6_putPart 82 = .ok (.iload_n 3, 1) := by decide +kernel
theorem dX6_putPart_83 : decode cX6_putPart 83 = .ok (.invokevirtual 182, 3) := by decide +kernel
theorem dX6_putPart_86 : decode cX6_putPart 86 = .ok (.iinc 3 1, 3) := by decide +kernel
theorem dX6_putPart_89 : decode cX6_putPart 89 = .ok (.goto (-40), 3) := by decide +kernel
theorem dX6_putPart_92 : decode cX6_putPart 92 = .ok (.iinc 2 1, 3) := by decide +kernel
theorem dX6_putPart_95 : decode cX6_putPart 95 = .ok (.goto (-54), 3) := by decide +kernel
theorem dX6_putPart_98 : decode cX6_putPart 98 = .ok (.iconst 0, 1) := by decide +kernel
theorem dX6_putPart_99 : decode cX6_putPart 99 = .ok (.istore_n 2, 1) := by decide +kernel
theorem dX6_putPart_100 : decode cX6_putPart 100 = .ok (.iload_n 2, 1) := by decide +kernel
theorem dX6_putPart_101 : decode cX6_putPart 101 = .ok (.bipush 8, 2) := by decide +kernel
theorem dX6_putPart_103 : decode cX6_putPart 103 = .ok (.if_icmp .ge 30, 3) := by decide +kernel
theorem dX6_putPart_106 : decode cX6_putPart 106 = .ok (.aload_n 0, 1) := by decide +kernel
theorem dX6_putPart_107 : decode cX6_putPart 107 = .ok (.getfield 32, 3) := by decide +kernel
theorem dX6_putPart_110 : decode cX6_putPart 110 = .ok (.bipush 8, 2) := by decide +kernel
theorem dX6_putPart_112 : decode cX6_putPart 112 = .ok (.iload_n 1, 1) := by decide +kernel
theorem dX6_putPart_113 : decode cX6_putPart 113 = .ok (.imul, 1) := by decide +kernel
theorem dX6_putPart_114 : decode cX6_putPart 114 = .ok (.iload_n 2, 1) := by decide +kernel
theorem dX6_putPart_115 : decode cX6_putPart 115 = .ok (.iadd, 1) := by decide +kernel
theorem dX6_putPart_116 : decode cX6_putPart 116 = .ok (.baload, 1) := by decide +kernel
theorem dX6_putPart_117 : decode cX6_putPart 117 = .ok (.ifCond .eq 10, 3) := by decide +kernel
theorem dX6_putPart_120 : decode cX6_putPart 120 = .ok (.aload_n 0, 1) := by decide +kernel
theorem dX6_putPart_121 : decode cX6_putPart 121 = .ok (.iconst 4, 1) := by decide +kernel
theorem dX6_putPart_122 : decode cX6_putPart 122 = .ok (.iload_n 1, 1) := by decide +kernel
theorem dX6_putPart_123 : decode cX6_putPart 123 = .ok (.iload_n 2, 1) := by decide +kernel
theorem dX6_putPart_124 : decode cX6_putPart 124 = .ok (.invokevirtual 185, 3) := by decide +kernel
theorem dX6_putPart_127 : decode cX6_putPart 127 = .ok (.iinc 2 1, 3) := by decide +kernel
theorem dX6_putPart_130 : decode cX6_putPart 130 = .ok (.goto (-30), 3) := by decide +kernel
theorem dX6_putPart_133 : decode cX6_putPart 133 = .ok (.aload_n 0, 1) := by decide +kernel
theorem dX6_putPart_134 : decode cX6_putPart 134 = .ok (.getfield 35, 3) := by decide +kernel
theorem dX6_putPart_137 : decode cX6_putPart 137 = .ok (.iload_n 1, 1) := by decide +kernel
theorem dX6_putPart_138 : decode cX6_putPart 138 = .ok (.iaload, 1) := by decide +kernel
theorem dX6_putPart_139 : decode cX6_putPart 139 = .ok (.ifCond .lt 15, 3) := by decide +kernel
theorem dX6_putPart_142 : decode cX6_putPart 142 = .ok (.aload_n 0, 1) := by decide +kernel
theorem dX6_putPart_143 : decode cX6_putPart 143 = .ok (.iconst 5, 1) := by decide +kernel
theorem dX6_putPart_144 : decode cX6_putPart 144 = .ok (.iload_n 1, 1) := by decide +kernel
theorem dX6_putPart_145 : decode cX6_putPart 145 = .ok (.aload_n 0, 1) := by decide +kernel
theorem dX6_putPart_146 : decode cX6_putPart 146 = .ok (.getfield 35, 3) := by decide +kernel
theorem dX6_putPart_149 : decode cX6_putPart 149 = .ok (.iload_n 1, 1) := by decide +kernel
theorem dX6_putPart_150 : decode cX6_putPart 150 = .ok (.iaload, 1) := by decide +kernel
theorem dX6_putPart_151 : decode cX6_putPart 151 = .ok (.invokevirtual 185, 3) := by decide +kernel
theorem dX6_putPart_154 : decode cX6_putPart 154 = .ok (.aload_n 0, 1) := by decide +kernel
theorem dX6_putPart_155 : decode cX6_putPart 155 = .ok (.getfield 38, 3) := by decide +kernel
theorem dX6_putPart_158 : decode cX6_putPart 158 = .ok (.iload_n 1, 1) := by decide +kernel
theorem dX6_putPart_159 : decode cX6_putPart 159 = .ok (.iaload, 1) := by decide +kernel
theorem dX6_putPart_160 : decode cX6_putPart 160 = .ok (.ifCond .le 16, 3) := by decide +kernel
theorem dX6_putPart_163 : decode cX6_putPart 163 = .ok (.aload_n 0, 1) := by decide +kernel
theorem dX6_putPart_164 : decode cX6_putPart 164 = .ok (.bipush 6, 2) := by decide +kernel
theorem dX6_putPart_166 : decode cX6_putPart 166 = .ok (.iload_n 1, 1) := by decide +kernel
theorem dX6_putPart_167 : decode cX6_putPart 167 = .ok (.aload_n 0, 1) := by decide +kernel
theorem dX6_putPart_168 : decode cX6_putPart 168 = .ok (.getfield 38, 3) := by decide +kernel
theorem dX6_putPart_171 : decode cX6_putPart 171 = .ok (.iload_n 1, 1) := by decide +kernel
theorem dX6_putPart_172 : decode cX6_putPart 172 = .ok (.iaload, 1) := by decide +kernel
theorem dX6_putPart_173 : decode cX6_putPart 173 = .ok (.invokevirtual 185, 3) := by decide +kernel
theorem dX6_putPart_176 : decode cX6_putPart 176 = .ok (.return_, 1) := by decide +kernel
set_option maxRecDepth 20000 in
theorem ggX6_write_X6_putTwo : GoodIn wsX6_write wsX6_putTwo := goodIn_r _ [14, 15, 16, 17, 13, 18, 19, 20, 21, 22, 23, 24, 25, 26, 27, 28, 29, 30, 31, 32, 33, 34, 3, 2, 4, 35, 36, 37, 38, 51, 52, 53, 54, 55, 56, 57, 58, 59, 60, 61, 62, 63, 64, 65, 66, 67, 68] (by decide +kernel) (by decide +kernel)
set_option maxRecDepth 20000 in
theorem gX6_write_X6_putTwo : GoodIn wsX6_write (wsV RX6 185 RX6 yX6_putTwo wsX6_putTwo) := goodIn_app (goodIn_of _ (by decide +kernel)) ggX6_write_X6_putTwo
set_option maxRecDepth 20000 in
theorem ggX6_write_X6_putPart : GoodIn wsX6_write wsX6_putPart := goodIn_r _ [42, 5, 43, 44, 45, 46, 47, 10, 11, 12, 13, 14, 15, 16, 17, 18, 19, 20, 21, 22, 23, 24, 25, 26, 27, 28, 29, 30, 31, 32, 33, 34, 3, 2, 4, 35, 36, 37, 38, 48, 49, 50, 51, 52, 53, 54, 55, 56, 57, 58, 59, 60, 61, 62, 63, 64, 65, 66, 67, 68] (by decide +kernel) (by decide +kernel)
set_option maxRecDepth 20000 in
theorem gX6_write_X6_putPart : GoodIn wsX6_write (wsV RX6 189 RX6 yX6_putPart wsX6_putPart) := goodIn_app (goodIn_of _ (by decide +kernel)) ggX6_write_X6_putPart
set_option maxRecDepth 20000 in
theorem ggX6_write_X6_putNumber : GoodIn wsX6_write wsX6_putNumber := goodIn_r _ [38, 31, 32, 33, 13, 34, 3, 2, 4, 51, 52, 53, 54, 55, 56, 57, 58, 59, 60, 61, 62, 63, 64, 65, 66, 67, 68] (by decide +kernel) (by decide +kernel)
set_option maxRecDepth 20000 in
theorem gX6_write_X6_putNumber : GoodIn wsX6_write (wsV RX6 182 RX6 yX6_putNumber wsX6_putNumber) := goodIn_app (goodIn_of _ (by decide +kernel)) ggX6_write_X6_putNumber
theorem dX6_write_0 : decode cX6_write 0 = .ok (.aload_n 0, 1) := by decide +kernel
theorem dX6_write_1 : decode cX6_write 1 = .ok (.iconst 0, 1) := by decide +kernel
theorem dX6_write_2 : decode cX6_write 2 = .ok (.putfield 52, 3) := by decide +kernel
theorem dX6_write_5 : decode cX6_write 5 = .ok (.aload_n 0, 1) := by decide +kernel
theorem dX6_write_6 : decode cX6_write 6 = .ok (.iload_n 1, 1) := by decide +kernel
theorem dX6_write_7 : decode cX6_write 7 = .ok (.putfield 168, 3) := by decide +kernel
theorem dX6_write_10 : decode cX6_write 10 = .ok (.aload_n 0, 1) := by decide +kernel
theorem dX6_write_11 : decode cX6_write 11 = .ok (.iconst 0, 1) := by decide +kernel
theorem dX6_write_12 : decode cX6_write 12 = .ok (.putfield 165, 3) := by decide +kernel
theorem dX6_write_15 : decode cX6_write 15 = .ok (.aload_n 0, 1) := by decide +kernel
theorem dX6_write_16 : decode cX6_write 16 = .ok (.iconst (-1), 1) := by decide +kernel
theorem dX6_write_17 : decode cX6_write 17 = .ok (.putfield 171, 3) := by decide +kernel
theorem dX6_write_20 : decode cX6_write 20 = .ok (.iconst 0, 1) := by decide +kernel
theorem dX6_write_21 : decode cX6_write 21 = .ok (.istore_n 2, 1) := by decide +kernel
theorem dX6_write_22 : decode cX6_write 22 = .ok (.iload_n 2, 1) := by decide +kernel
theorem dX6_write_23 : decode cX6_write 23 = .ok (.aload_n 0, 1) := by decide +kernel
theorem dX6_write_24 : decode cX6_write 24 = .ok (.getfield 7, 3) := by decide +kernel
theorem dX6_write_27 : decode cX6_write 27 = .ok (.iconst 0, 1) := by decide +kernel
theorem dX6_write_28 : decode cX6_write 28 = .ok (.iaload, 1) := by decide +kernel
theorem dX6_write_29 : decode cX6_write 29 = .ok (.if_icmp .ge 26, 3) := by decide +kernel
theorem dX6_write_32 : decode cX6_write 32 = .ok (.aload_n 0, 1) := by decide +kernel
theorem dX6_write_33 : decode cX6_write 33 = .ok (.iconst 0, 1) := by decide +kernel
theorem dX6_write_34 : decode cX6_write 34 = .ok (.aload_n 0, 1) := by decide +kernel
theorem dX6_write_35 : decode cX6_write 35 = .ok (.getfield 13, 3) := by decide +kernel
theorem dX6_write_38 : decode cX6_write 38 = .ok (.iload_n 2, 1) := by decide +kernel
theorem dX6_write_39 : decode cX6_write 39 = .ok (.iaload, 1) := by decide +kernel
theorem dX6_write_40 : decode cX6_write 40 = .ok (.aload_n 0, 1) := by decide +kernel
theorem dX6_write_41 : decode cX6_write 41 = .ok (.getfield 16, 3) := by decide +kernel
theorem dX6_write_44 : decode cX6_write 44 = .ok (.iload_n 2, 1) := by decide +kernel
theorem dX6_write_45 : decode cX6_write 45 = .ok (.iaload, 1) := by decide +kernel
theorem dX6_write_46 : decode cX6_write 46 = .ok (.invokevirtual 185, 3) := by decide +kernel
theorem dX6_write_49 : decode cX6_write 49 = .ok (.iinc 2 1, 3) := by decide +kernel
theorem dX6_write_52 : decode cX6_write 52 = .ok (.goto (-30), 3) := by decide +kernel
theorem dX6_write_55 : decode cX6_write 55 = .ok (.iconst 0, 1) := by decide +kernel
theorem dX6_write_56 : decode cX6_write 56 = .ok (.istore_n 2, 1) := by decide +kernel
theorem dX6_write_57 : decode cX6_write 57 = .ok (.iload_n 2, 1) := by decide +kernel
theorem dX6_write_58 : decode cX6_write 58 = .ok (.aload_n 0, 1) := by decide +kernel
theorem dX6_write_59 : decode cX6_write 59 = .ok (.getfield 7, 3) := by decide +kernel
theorem dX6_write_62 : decode cX6_write 62 = .ok (.iconst 0, 1) := by decide +kernel
theorem dX6_write_63 : decode cX6_write 63 = .ok (.iaload, 1) := by decide +kernel
theorem dX6_write_64 : decode cX6_write 64 = .ok (.if_icmp .ge 14, 3) := by decide +kernel
theorem dX6_write_67 : decode cX6_write 67 = .ok (.aload_n 0, 1) := by decide +kernel
theorem dX6_write_68 : decode cX6_write 68 = .ok (.iload_n 2, 1) := by decide +kernel
theorem dX6_write_69 : decode cX6_write 69 = .ok (.invokevirtual 189, 3) := by decide +kernel
theorem dX6_write_72 : decode cX6_write 72 = .ok (.iinc 2 1, 3) := by decide +kernel
theorem dX6_write_75 : decode cX6_write 75 = .ok (.goto (-18), 3) := by decide +kernel
theorem dX6_write_78 : decode cX6_write 78 = .ok (.iconst 0, 1) := by decide +kernel
theorem dX6_write_79 : decode cX6_write 79 = .ok (.istore_n 2, 1) := by decide +kernel
theorem dX6_write_80 : decode cX6_write 80 = .ok (.iload_n 2, 1) := by decide +kernel
theorem dX6_write_81 : decode cX6_write 81 = .ok (.aload_n 0, 1) := by decide +kernel
theorem dX6_write_82 : decode cX6_write 82 = .ok (.getfield 26, 3) := by decide +kernel
theorem dX6_write_85 : decode cX6_write 85 = .ok (.iconst 0, 1) := by decide +kernel
theorem dX6_write_86 : decode cX6_write 86 = .ok (.iaload, 1) := by decide +kernel
theorem dX6_write_87 : decode cX6_write 87 = .ok (.if_icmp .ge 46, 3) := by decide +kernel
theorem dX6_write_90 : decode cX6_write 90 = .ok (.aload_n 0, 1) := by decide +kernel
theorem dX6_write_91 : decode cX6_write 91 = .ok (.iconst 3, 1) := by decide +kernel
theorem dX6_write_92 : decode cX6_write 92 = .ok (.aload_n 0, 1) := by decide +kernel
theorem dX6_write_93 : decode cX6_write 93 = .ok (.getfield 29, 3) := by decide +kernel
theorem dX6_write_96 : decode cX6_write 96 = .ok (.iconst 3, 1) := by decide +kernel
theorem dX6_write_97 : decode cX6_write 97 = .ok (.iload_n 2, 1) := by decide +kernel
theorem dX6_write_98 : decode cX6_write 98 = .ok (.imul, 1) := by decide +kernel
theorem dX6_write_99 : decode cX6_write 99 = .ok (.iaload, 1) := by decide +kernel
theorem dX6_write_100 : decode cX6_write 100 = .ok (.aload_n 0, 1) := by decide +kernel
theorem dX6_write_101 : decode cX6_write 101 = .ok (.getfield 29, 3) := by decide +kernel
theorem dX6_write_104 : decode cX6_write 104 = .ok (.iconst 3, 1) := by decide +kernel
theorem dX6_write_105 : decode cX6_write 105 = .ok (.iload_n 2, 1) := by decide +kernel
theorem dX6_write_106 : decode cX6_write 106 = .ok (.imul, 1) := by decide +kernel
theorem dX6_write_107 : decode cX6_write 107 = .ok (.iconst 1, 1) := by decide +kernel
theorem dX6_write_108 : decode cX6_write 108 = .ok (.iadd, 1) := by decide +kernel
theorem dX6_write_109 : decode cX6_write 109 = .ok (.iaload, 1) := by decide +kernel
theorem dX6_write_110 : decode cX6_write 110 = .ok (.invokevirtual 185, 3) := by decide +kernel
theorem dX6_write_113 : decode cX6_write 113 = .ok (.aload_n 0, 1) := by decide +kernel
theorem dX6_write_114 : decode cX6_write 114 = .ok (.aload_n 0, 1) := by decide +kernel
theorem dX6_write_115 : decode cX6_write 115 = .ok (.getfield 29, 3) := by decide +kernel
theorem dX6_write_118 : decode cX6_write 118 = .ok (.iconst 3, 1) := by decide +kernel
theorem dX6_write_119 : decode cX6_write 119 = .ok (.iload_n 2, 1) := by decide +kernel
theorem dX6_write_120 : decode cX6_write 120 = .ok (.imul, 1) := by decide +kernel
theorem dX6_write_121 : decode cX6_write 121 = .ok (.iconst 2, 1) := by decide +kernel
theorem dX6_write_122 : decode cX6_write 122 = .ok (.iadd, 1) := by decide +kernel
theorem dX6_write_123 : decode cX6_write 123 = .ok (.iaload, 1) := by decide +kernel
theorem dX6_write_124 : decode cX6_write 124 = .ok (.invokevirtual 182, 3) := by decide +kernel
theorem dX6_write_127 : decode cX6_write 127 = .ok (.iinc 2 1, 3) := by decide +kernel
theorem dX6_write_130 : decode cX6_write 130 = .ok (.goto (-50), 3) := by decide +kernel
theorem dX6_write_133 : decode cX6_write 133 = .ok (.aload_n 0, 1) := by decide +kernel
theorem dX6_write_134 : decode cX6_write 134 = .ok (.getfield 171, 3) := by decide +kernel
theorem dX6_write_137 : decode cX6_write 137 = .ok (.ireturn, 1) := by decide +kernel
