theorem dX1_init_0 : decode cX1_init 0 = .ok (.aload_n 0, 1) := by decide +kernel
theorem dX1_init_1 : decode cX1_init 1 = .ok (.invokespecial 3, 3) := by decide +kernel
theorem dX1_init_4 : decode cX1_init 4 = .ok (.aload_n 0, 1) := by decide +kernel
theorem dX1_init_5 : decode cX1_init 5 = .ok (.bipush 10, 2) := by decide +kernel
theorem dX1_init_7 : decode cX1_init 7 = .ok (.newarray .int, 2) := by decide +kernel
theorem dX1_init_9 : decode cX1_init 9 = .ok (.putfield 9, 3) := by decide +kernel
theorem dX1_init_12 : decode cX1_init 12 = .ok (.aload_n 0, 1) := by decide +kernel
theorem dX1_init_13 : decode cX1_init 13 = .ok (.bipush 10, 2) := by decide +kernel
theorem dX1_init_15 : decode cX1_init 15 = .ok (.newarray .long, 2) := by decide +kernel
theorem dX1_init_17 : decode cX1_init 17 = .ok (.putfield 15, 3) := by decide +kernel
theorem dX1_init_20 : decode cX1_init 20 = .ok (.aload_n 0, 1) := by decide +kernel
theorem dX1_init_21 : decode cX1_init 21 = .ok (.bipush 10, 2) := by decide +kernel
theorem dX1_init_23 : decode cX1_init 23 = .ok (.newarray .int, 2) := by decide +kernel
theorem dX1_init_25 : decode cX1_init 25 = .ok (.putfield 19, 3) := by decide +kernel
theorem dX1_init_28 : decode cX1_init 28 = .ok (.aload_n 0, 1) := by decide +kernel
theorem dX1_init_29 : decode cX1_init 29 = .ok (.bipush 60, 2) := by decide +kernel
theorem dX1_init_31 : decode cX1_init 31 = .ok (.newarray .int, 2) := by decide +kernel
theorem dX1_init_33 : decode cX1_init 33 = .ok (.putfield 22, 3) := by decide +kernel
theorem dX1_init_36 : decode cX1_init 36 = .ok (.aload_n 0, 1) := by decide +kernel
theorem dX1_init_37 : decode cX1_init 37 = .ok (.bipush 10, 2) := by decide +kernel
theorem dX1_init_39 : decode cX1_init 39 = .ok (.newarray .int, 2) := by decide +kernel
theorem dX1_init_41 : decode cX1_init 41 = .ok (.putfield 25, 3) := by decide +kernel
theorem dX1_init_44 : decode cX1_init 44 = .ok (.aload_n 0, 1) := by decide +kernel
theorem dX1_init_45 : decode cX1_init 45 = .ok (.bipush 10, 2) := by decide +kernel
theorem dX1_init_47 : decode cX1_init 47 = .ok (.newarray .int, 2) := by decide +kernel
theorem dX1_init_49 : decode cX1_init 49 = .ok (.putfield 28, 3) := by decide +kernel
theorem dX1_init_52 : decode cX1_init 52 = .ok (.aload_n 0, 1) := by decide +kernel
theorem dX1_init_53 : decode cX1_init 53 = .ok (.bipush 10, 2) := by decide +kernel
theorem dX1_init_55 : decode cX1_init 55 = .ok (.newarray .int, 2) := by decide +kernel
theorem dX1_init_57 : decode cX1_init 57 = .ok (.putfield 31, 3) := by decide +kernel
theorem dX1_init_60 : decode cX1_init 60 = .ok (.aload_n 0, 1) := by decide +kernel
theorem dX1_init_61 : decode cX1_init 61 = .ok (.bipush 20, 2) := by decide +kernel
theorem dX1_init_63 : decode cX1_init 63 = .ok (.newarray .int, 2) := by decide +kernel
theorem dX1_init_65 : decode cX1_init 65 = .ok (.putfield 34, 3) := by decide +kernel
theorem dX1_init_68 : decode cX1_init 68 = .ok (.aload_n 0, 1) := by decide +kernel
theorem dX1_init_69 : decode cX1_init 69 = .ok (.bipush 20, 2) := by decide +kernel
theorem dX1_init_71 : decode cX1_init 71 = .ok (.newarray .int, 2) := by decide +kernel
theorem dX1_init_73 : decode cX1_init 73 = .ok (.putfield 37, 3) := by decide +kernel
theorem dX1_init_76 : decode cX1_init 76 = .ok (.aload_n 0, 1) := by decide +kernel
theorem dX1_init_77 : decode cX1_init 77 = .ok (.bipush 20, 2) := by decide +kernel
theorem dX1_init_79 : decode cX1_init 79 = .ok (.newarray .int, 2) := by decide +kernel
theorem dX1_init_81 : decode cX1_init 81 = .ok (.putfield 40, 3) := by decide +kernel
theorem dX1_init_84 : decode cX1_init 84 = .ok (.return_, 1) := by decide +kernel
theorem dX1_clear_0 : decode cX1_clear 0 = .ok (.aload_n 0, 1) := by decide +kernel
theorem dX1_clear_1 : decode cX1_clear 1 = .ok (.iconst 0, 1) := by decide +kernel
theorem dX1_clear_2 : decode cX1_clear 2 = .ok (.putfield 43, 3) := by decide +kernel
theorem dX1_clear_5 : decode cX1_clear 5 = .ok (.aload_n 0, 1) := by decide +kernel
theorem dX1_clear_6 : decode cX1_clear 6 = .ok (.iconst 0, 1) := by decide +kernel
theorem dX1_clear_7 : decode cX1_clear 7 = .ok (.putfield 47, 3) := by decide +kernel
theorem dX1_clear_10 : decode cX1_clear 10 = .ok (.return_, 1) := by decide +kernel
theorem dX1_hasPart_0 : decode cX1_hasPart 0 = .ok (.iload_n 1, 1) := by decide +kernel
theorem dX1_hasPart_1 : decode cX1_hasPart 1 = .ok (.ifCond .lt 15, 3) := by decide +kernel
theorem dX1_hasPart_4 : decode cX1_hasPart 4 = .ok (.iload_n 1, 1) := by decide +kernel
theorem dX1_hasPart_5 : decode cX1_hasPart 5 = .ok (.aload_n 0, 1) := by decide +kernel
theorem dX1_hasPart_6 : decode cX1_hasPart 6 = .ok (.getfield 43, 3) := by decide +kernel
theorem dX1_hasPart_9 : decode cX1_hasPart 9 = .ok (.if_icmp .ge 7, 3) := by decide +kernel
theorem dX1_hasPart_12 : decode cX1_hasPart 12 = .ok (.iconst 1, 1) := by decide +kernel
theorem dX1_hasPart_13 : decode cX1_hasPart 13 = .ok (.goto 4, 3) := by decide +kernel
theorem dX1_hasPart_16 : decode cX1_hasPart 16 = .ok (.iconst 0, 1) := by decide +kernel
theorem dX1_hasPart_17 : decode cX1_hasPart 17 = .ok (.ireturn, 1) := by decide +kernel
theorem dX1_areTwoParts_0 : decode cX1_areTwoParts 0 = .ok (.iload_n 1, 1) := by decide +kernel
theorem dX1_areTwoParts_1 : decode cX1_areTwoParts 1 = .ok (.ifCond .lt 32, 3) := by decide +kernel
theorem dX1_areTwoParts_4 : decode cX1_areTwoParts 4 = .ok (.iload_n 1, 1) := by decide +kernel
theorem dX1_areTwoParts_5 : decode cX1_areTwoParts 5 = .ok (.aload_n 0, 1) := by decide +kernel
theorem dX1_areTwoParts_6 : decode cX1_areTwoParts 6 = .ok (.getfield 43, 3) := by decide +kernel
theorem dX1_areTwoParts_9 : decode cX1_areTwoParts 9 = .ok (.if_icmp .ge 24, 3) := by decide +kernel
theorem dX1_areTwoParts_12 : decode cX1_areTwoParts 12 = .ok (.iload_n 2, 1) := by decide +kernel
theorem dX1_areTwoParts_13 : decode cX1_areTwoParts 13 = .ok (.ifCond .lt 20, 3) := by decide +kernel
theorem dX1_areTwoParts_16 : decode cX1_areTwoParts 16 = .ok (.iload_n 2, 1) := by decide +kernel
theorem dX1_areTwoParts_17 : decode cX1_areTwoParts 17 = .ok (.aload_n 0, 1) := by decide +kernel
theorem dX1_areTwoParts_18 : decode cX1_areTwoParts 18 = .ok (.getfield 43, 3) := by decide +kernel
theorem dX1_areTwoParts_21 : decode cX1_areTwoParts 21 = .ok (.if_icmp .ge 12, 3) := by decide +kernel
theorem dX1_areTwoParts_24 : decode cX1_areTwoParts 24 = .ok (.iload_n 1, 1) := by decide +kernel
theorem dX1_areTwoParts_25 : decode cX1_areTwoParts 25 = .ok (.iload_n 2, 1) := by decide +kernel
theorem dX1_areTwoParts_26 : decode cX1_areTwoParts 26 = .ok (.if_icmp .eq 7, 3) := by decide +kernel
theorem dX1_areTwoParts_29 : decode cX1_areTwoParts 29 = .ok (.iconst 1, 1) := by decide +kernel
theorem dX1_areTwoParts_30 : decode cX1_areTwoParts 30 = .ok (.goto 4, 3) := by decide +kernel
theorem dX1_areTwoParts_33 : decode cX1_areTwoParts 33 = .ok (.iconst 0, 1) := by decide +kernel
theorem dX1_areTwoParts_34 : decode cX1_areTwoParts 34 = .ok (.ireturn, 1) := by decide +kernel
theorem dX1_barIndex_0 : decode cX1_barIndex 0 = .ok (.iload_n 0, 1) := by decide +kernel
theorem dX1_barIndex_1 : decode cX1_barIndex 1 = .ok (.bipush 6, 2) := by decide +kernel
theorem dX1_barIndex_3 : decode cX1_barIndex 3 = .ok (.imul, 1) := by decide +kernel
theorem dX1_barIndex_4 : decode cX1_barIndex 4 = .ok (.iload_n 1, 1) := by decide +kernel
theorem dX1_barIndex_5 : decode cX1_barIndex 5 = .ok (.iadd, 1) := by decide +kernel
theorem dX1_barIndex_6 : decode cX1_barIndex 6 = .ok (.ireturn, 1) := by decide +kernel
set_option maxRecDepth 20000 in
theorem ggX1_allowsPart_X5_isBelow : GoodIn wsX1_allowsPart wsX5_isBelow := goodIn_r _ [5] (by decide +kernel) (by decide +kernel)
set_option maxRecDepth 20000 in
theorem gX1_allowsPart_X5_isBelow_n50 : GoodIn wsX1_allowsPart (wsX5_isBelow) := ggX1_allowsPart_X5_isBelow
theorem dX1_allowsPart_0 : decode cX1_allowsPart 0 = .ok (.aload_n 0, 1) := by decide +kernel
theorem dX1_allowsPart_1 : decode cX1_allowsPart 1 = .ok (.getfield 43, 3) := by decide +kernel
theorem dX1_allowsPart_4 : decode cX1_allowsPart 4 = .ok (.bipush 10, 2) := by decide +kernel
theorem dX1_allowsPart_6 : decode cX1_allowsPart 6 = .ok (.if_icmp .ge 30, 3) := by decide +kernel
theorem dX1_allowsPart_9 : decode cX1_allowsPart 9 = .ok (.iload_n 1, 1) := by decide +kernel
theorem dX1_allowsPart_10 : decode cX1_allowsPart 10 = .ok (.bipush 10, 2) := by decide +kernel
theorem dX1_allowsPart_12 : decode cX1_allowsPart 12 = .ok (.invokestatic 50, 3) := by decide +kernel
theorem dX1_allowsPart_15 : decode cX1_allowsPart 15 = .ok (.ifCond .eq 21, 3) := by decide +kernel
theorem dX1_allowsPart_18 : decode cX1_allowsPart 18 = .ok (.lload_n 2, 1) := by decide +kernel
theorem dX1_allowsPart_19 : decode cX1_allowsPart 19 = .ok (.lconst 0, 1) := by decide +kernel
theorem dX1_allowsPart_20 : decode cX1_allowsPart 20 = .ok (.lcmp, 1) := by decide +kernel
theorem dX1_allowsPart_21 : decode cX1_allowsPart 21 = .ok (.ifCond .lt 15, 3) := by decide +kernel
theorem dX1_allowsPart_24 : decode cX1_allowsPart 24 = .ok (.lload_n 2, 1) := by decide +kernel
theorem dX1_allowsPart_25 : decode cX1_allowsPart 25 = .ok (.ldc2_w 54, 3) := by decide +kernel
theorem dX1_allowsPart_28 : decode cX1_allowsPart 28 = .ok (.lcmp, 1) := by decide +kernel
theorem dX1_allowsPart_29 : decode cX1_allowsPart 29 = .ok (.ifCond .gt 7, 3) := by decide +kernel
theorem dX1_allowsPart_32 : decode cX1_allowsPart 32 = .ok (.iconst 1, 1) := by decide +kernel
theorem dX1_allowsPart_33 : decode cX1_allowsPart 33 = .ok (.goto 4, 3) := by decide +kernel
theorem dX1_allowsPart_36 : decode cX1_allowsPart 36 = .ok (.iconst 0, 1) := by decide +kernel
theorem dX1_allowsPart_37 : decode cX1_allowsPart 37 = .ok (.ireturn, 1) := by decide +kernel
set_option maxRecDepth 20000 in
theorem ggX1_addPart_X1_allowsPart : GoodIn wsX1_addPart wsX1_allowsPart := goodIn_r _ [13, 1, 14, 15, 16, 17, 21, 22, 23, 24, 25, 26, 27, 28, 29, 30, 31, 32] (by decide +kernel) (by decide +kernel)
set_option maxRecDepth 20000 in
theorem gX1_addPart_X1_allowsPart : GoodIn wsX1_addPart (wsV RX1 56 RX1 yX1_allowsPart wsX1_allowsPart) := goodIn_app (goodIn_of _ (by decide +kernel)) ggX1_addPart_X1_allowsPart
set_option maxRecDepth 20000 in
theorem ggX1_addPart_X1_barIndex : GoodIn wsX1_addPart wsX1_barIndex := goodIn_r _ [20] (by decide +kernel) (by decide +kernel)
set_option maxRecDepth 20000 in
theorem gX1_addPart_X1_barIndex : GoodIn wsX1_addPart (va_wsS RX1 60 yX1_barIndex wsX1_barIndex) := goodIn_app (goodIn_of _ (by decide +kernel)) ggX1_addPart_X1_barIndex
theorem dX1_addPart_0 : decode cX1_addPart 0 = .ok (.aload_n 0, 1) := by decide +kernel
theorem dX1_addPart_1 : decode cX1_addPart 1 = .ok (.iload_n 1, 1) := by decide +kernel
theorem dX1_addPart_2 : decode cX1_addPart 2 = .ok (.lload_n 2, 1) := by decide +kernel
theorem dX1_addPart_3 : decode cX1_addPart 3 = .ok (.invokevirtual 56, 3) := by decide +kernel
theorem dX1_addPart_6 : decode cX1_addPart 6 = .ok (.ifCond .ne 5, 3) := by decide +kernel
theorem dX1_addPart_9 : decode cX1_addPart 9 = .ok (.iconst (-1), 1) := by decide +kernel
theorem dX1_addPart_10 : decode cX1_addPart 10 = .ok (.ireturn, 1) := by decide +kernel
theorem dX1_addPart_11 : decode cX1_addPart 11 = .ok (.aload_n 0, 1) := by decide +kernel
theorem dX1_addPart_12 : decode cX1_addPart 12 = .ok (.getfield 43, 3) := by decide +kernel
theorem dX1_addPart_15 : decode cX1_addPart 15 = .ok (.istore 4, 2) := by decide +kernel
theorem dX1_addPart_17 : decode cX1_addPart 17 = .ok (.aload_n 0, 1) := by decide +kernel
theorem dX1_addPart_18 : decode cX1_addPart 18 = .ok (.getfield 9, 3) := by decide +kernel
theorem dX1_addPart_21 : decode cX1_addPart 21 = .ok (.iload 4, 2) := by decide +kernel
theorem dX1_addPart_23 : decode cX1_addPart 23 = .ok (.iload_n 1, 1) := by decide +kernel
theorem dX1_addPart_24 : decode cX1_addPart 24 = .ok (.iastore, 1) := by decide +kernel
theorem dX1_addPart_25 : decode cX1_addPart 25 = .ok (.aload_n 0, 1) := by decide +kernel
theorem dX1_addPart_26 : decode cX1_addPart 26 = .ok (.getfield 15, 3) := by decide +kernel
theorem dX1_addPart_29 : decode cX1_addPart 29 = .ok (.iload 4, 2) := by decide +kernel
theorem dX1_addPart_31 : decode cX1_addPart 31 = .ok (.lload_n 2, 1) := by decide +kernel
theorem dX1_addPart_32 : decode cX1_addPart 32 = .ok (.lastore, 1) := by decide +kernel
theorem dX1_addPart_33 : decode cX1_addPart 33 = .ok (.aload_n 0, 1) := by decide +kernel
theorem dX1_addPart_34 : decode cX1_addPart 34 = .ok (.getfield 19, 3) := by decide +kernel
theorem dX1_addPart_37 : decode cX1_addPart 37 = .ok (.iload 4, 2) := by decide +kernel
theorem dX1_addPart_39 : decode cX1_addPart 39 = .ok (.iconst 0, 1) := by decide +kernel
theorem dX1_addPart_40 : decode cX1_addPart 40 = .ok (.iastore, 1) := by decide +kernel
theorem dX1_addPart_41 : decode cX1_addPart 41 = .ok (.iconst 0, 1) := by decide +kernel
theorem dX1_addPart_42 : decode cX1_addPart 42 = .ok (.istore 5, 2) := by decide +kernel
theorem dX1_addPart_44 : decode cX1_addPart 44 = .ok (.iload 5, 2) := by decide +kernel
theorem dX1_addPart_46 : decode cX1_addPart 46 = .ok (.bipush 6, 2) := by decide +kernel
theorem dX1_addPart_48 : decode cX1_addPart 48 = .ok (.if_icmp .ge 22, 3) := by decide +kernel
theorem dX1_addPart_51 : decode cX1_addPart 51 = .ok (.aload_n 0, 1) := by decide +kernel
theorem dX1_addPart_52 : decode cX1_addPart 52 = .ok (.getfield 22, 3) := by decide +kernel
theorem dX1_addPart_55 : decode cX1_addPart 55 = .ok (.iload 4, 2) := by decide +kernel
theorem dX1_addPart_57 : decode cX1_addPart 57 = .ok (.iload 5, 2) := by decide +kernel
theorem dX1_addPart_59 : decode cX1_addPart 59 = .ok (.invokestatic 60, 3) := by decide +kernel
theorem dX1_addPart_62 : decode cX1_addPart 62 = .ok (.iconst 0, 1) := by decide +kernel
theorem dX1_addPart_63 : decode cX1_addPart 63 = .ok (.iastore, 1) := by decide +kernel
theorem dX1_addPart_64 : decode cX1_addPart 64 = .ok (.iinc 5 1, 3) := by decide +kernel
theorem dX1_addPart_67 : decode cX1_addPart 67 = .ok (.goto (-23), 3) := by decide +kernel
theorem dX1_addPart_70 : decode cX1_addPart 70 = .ok (.aload_n 0, 1) := by decide +kernel
theorem dX1_addPart_71 : decode cX1_addPart 71 = .ok (.getfield 25, 3) := by decide +kernel
theorem dX1_addPart_74 : decode cX1_addPart 74 = .ok (.iload 4, 2) := by decide +kernel
theorem dX1_addPart_76 : decode cX1_addPart 76 = .ok (.iconst 0, 1) := by decide +kernel
theorem dX1_addPart_77 : decode cX1_addPart 77 = .ok (.iastore, 1) := by decide +kernel
theorem dX1_addPart_78 : decode cX1_addPart 78 = .ok (.aload_n 0, 1) := by decide +kernel
theorem dX1_addPart_79 : decode cX1_addPart 79 = .ok (.getfield 28, 3) := by decide +kernel
theorem dX1_addPart_82 : decode cX1_addPart 82 = .ok (.iload 4, 2) := by decide +kernel
theorem dX1_addPart_84 : decode cX1_addPart 84 = .ok (.iconst (-1), 1) := by decide +kernel
theorem dX1_addPart_85 : decode cX1_addPart 85 = .ok (.iastore, 1) := by decide +kernel
theorem dX1_addPart_86 : decode cX1_addPart 86 = .ok (.aload_n 0, 1) := by decide +kernel
theorem dX1_addPart_87 : decode cX1_addPart 87 = .ok (.getfield 31, 3) := by decide +kernel
theorem dX1_addPart_90 : decode cX1_addPart 90 = .ok (.iload 4, 2) := by decide +kernel
theorem dX1_addPart_92 : decode cX1_addPart 92 = .ok (.iconst 0, 1) := by decide +kernel
theorem dX1_addPart_93 : decode cX1_addPart 93 = .ok (.iastore, 1) := by decide +kernel
theorem dX1_addPart_94 : decode cX1_addPart 94 = .ok (.aload_n 0, 1) := by decide +kernel
theorem dX1_addPart_95 : decode cX1_addPart 95 = .ok (.dup, 1) := by decide +kernel
theorem dX1_addPart_96 : decode cX1_addPart 96 = .ok (.getfield 43, 3) := by decide +kernel
theorem dX1_addPart_99 : decode cX1_addPart 99 = .ok (.iconst 1, 1) := by decide +kernel
theorem dX1_addPart_100 : decode cX1_addPart 100 = .ok (.iadd, 1) := by decide +kernel
theorem dX1_addPart_101 : decode cX1_addPart 101 = .ok (.putfield 43, 3) := by decide +kernel
theorem dX1_addPart_104 : decode cX1_addPart 104 = .ok (.iload 4, 2) := by decide +kernel
theorem dX1_addPart_106 : decode cX1_addPart 106 = .ok (.ireturn, 1) := by decide +kernel
set_option maxRecDepth 20000 in
theorem ggX1_allowsFastening_X1_areTwoParts : GoodIn wsX1_allowsFastening wsX1_areTwoParts := goodIn_r _ [6, 7, 11, 12, 13, 14, 15, 16, 17, 18, 19, 20, 21, 22] (by decide +kernel) (by decide +kernel)
set_option maxRecDepth 20000 in
theorem gX1_allowsFastening_X1_areTwoParts : GoodIn wsX1_allowsFastening (wsV RX1 64 RX1 yX1_areTwoParts wsX1_areTwoParts) := goodIn_app (goodIn_of _ (by decide +kernel)) ggX1_allowsFastening_X1_areTwoParts
set_option maxRecDepth 20000 in
theorem ggX1_allowsFastening_X5_isBelow : GoodIn wsX1_allowsFastening wsX5_isBelow := goodIn_r _ [10] (by decide +kernel) (by decide +kernel)
set_option maxRecDepth 20000 in
theorem gX1_allowsFastening_X5_isBelow_n50 : GoodIn wsX1_allowsFastening (wsX5_isBelow) := ggX1_allowsFastening_X5_isBelow
theorem dX1_allowsFastening_0 : decode cX1_allowsFastening 0 = .ok (.aload_n 0, 1) := by decide +kernel
theorem dX1_allowsFastening_1 : decode cX1_allowsFastening 1 = .ok (.getfield 47, 3) := by decide +kernel
theorem dX1_allowsFastening_4 : decode cX1_allowsFastening 4 = .ok (.bipush 20, 2) := by decide +kernel
theorem dX1_allowsFastening_6 : decode cX1_allowsFastening 6 = .ok (.if_icmp .ge 24, 3) := by decide +kernel
theorem dX1_allowsFastening_9 : decode cX1_allowsFastening 9 = .ok (.aload_n 0, 1) := by decide +kernel
theorem dX1_allowsFastening_10 : decode cX1_allowsFastening 10 = .ok (.iload_n 1, 1) := by decide +kernel
theorem dX1_allowsFastening_11 : decode cX1_allowsFastening 11 = .ok (.iload_n 2, 1) := by decide +kernel
theorem dX1_allowsFastening_12 : decode cX1_allowsFastening 12 = .ok (.invokevirtual 64, 3) := by decide +kernel
theorem dX1_allowsFastening_15 : decode cX1_allowsFastening 15 = .ok (.ifCond .eq 15, 3) := by decide +kernel
theorem dX1_allowsFastening_18 : decode cX1_allowsFastening 18 = .ok (.iload_n 3, 1) := by decide +kernel
theorem dX1_allowsFastening_19 : decode cX1_allowsFastening 19 = .ok (.iconst 4, 1) := by decide +kernel
theorem dX1_allowsFastening_20 : decode cX1_allowsFastening 20 = .ok (.invokestatic 50, 3) := by decide +kernel
theorem dX1_allowsFastening_23 : decode cX1_allowsFastening 23 = .ok (.ifCond .eq 7, 3) := by decide +kernel
theorem dX1_allowsFastening_26 : decode cX1_allowsFastening 26 = .ok (.iconst 1, 1) := by decide +kernel
theorem dX1_allowsFastening_27 : decode cX1_allowsFastening 27 = .ok (.goto 4, 3) := by decide +kernel
theorem dX1_allowsFastening_30 : decode cX1_allowsFastening 30 = .ok (.iconst 0, 1) := by decide +kernel
theorem dX1_allowsFastening_31 : decode cX1_allowsFastening 31 = .ok (.ireturn, 1) := by decide +kernel
set_option maxRecDepth 20000 in
theorem ggX1_addFastening_X1_allowsFastening : GoodIn wsX1_addFastening wsX1_allowsFastening := goodIn_r _ [9, 1, 10, 11, 12, 8, 13, 14, 15, 16, 17, 18, 19, 20, 21, 22, 23, 24, 25, 26, 27, 28, 29] (by decide +kernel) (by decide +kernel)
set_option maxRecDepth 20000 in
theorem gX1_addFastening_X1_allowsFastening : GoodIn wsX1_addFastening (wsV RX1 67 RX1 yX1_allowsFastening wsX1_allowsFastening) := goodIn_app (goodIn_of _ (by decide +kernel)) ggX1_addFastening_X1_allowsFastening
theorem dX1_addFastening_0 : decode cX1_addFastening 0 = .ok (.aload_n 0, 1) := by decide +kernel
theorem dX1_addFastening_1 : decode cX1_addFastening 1 = .ok (.iload_n 1, 1) := by decide +kernel
theorem dX1_addFastening_2 : decode cX1_addFastening 2 = .ok (.iload_n 2, 1) := by decide +kernel
theorem dX1_addFastening_3 : decode cX1_addFastening 3 = .ok (.iload_n 3, 1) := by decide +kernel
theorem dX1_addFastening_4 : decode cX1_addFastening 4 = .ok (.invokevirtual 67, 3) := by decide +kernel
theorem dX1_addFastening_7 : decode cX1_addFastening 7 = .ok (.ifCond .ne 5, 3) := by decide +kernel
theorem dX1_addFastening_10 : decode cX1_addFastening 10 = .ok (.iconst (-1), 1) := by decide +kernel
theorem dX1_addFastening_11 : decode cX1_addFastening 11 = .ok (.ireturn, 1) := by decide +kernel
theorem dX1_addFastening_12 : decode cX1_addFastening 12 = .ok (.aload_n 0, 1) := by decide +kernel
theorem dX1_addFastening_13 : decode cX1_addFastening 13 = .ok (.getfield 47, 3) := by decide +kernel
theorem dX1_addFastening_16 : decode cX1_addFastening 16 = .ok (.istore 4, 2) := by decide +kernel
theorem dX1_addFastening_18 : decode cX1_addFastening 18 = .ok (.aload_n 0, 1) := by decide +kernel
theorem dX1_addFastening_19 : decode cX1_addFastening 19 = .ok (.getfield 34, 3) := by decide +kernel
theorem dX1_addFastening_22 : decode cX1_addFastening 22 = .ok (.iload 4, 2) := by decide +kernel
theorem dX1_addFastening_24 : decode cX1_addFastening 24 = .ok (.iload_n 1, 1) := by decide +kernel
theorem dX1_addFastening_25 : decode cX1_addFastening 25 = .ok (.iastore, 1) := by decide +kernel
theorem dX1_addFastening_26 : decode cX1_addFastening 26 = .ok (.aload_n 0, 1) := by decide +kernel
theorem dX1_addFastening_27 : decode cX1_addFastening 27 = .ok (.getfield 37, 3) := by decide +kernel
theorem dX1_addFastening_30 : decode cX1_addFastening 30 = .ok (.iload 4, 2) := by decide +kernel
theorem dX1_addFastening_32 : decode cX1_addFastening 32 = .ok (.iload_n 2, 1) := by decide +kernel
theorem dX1_addFastening_33 : decode cX1_addFastening 33 = .ok (.iastore, 1) := by decide +kernel
theorem dX1_addFastening_34 : decode cX1_addFastening 34 = .ok (.aload_n 0, 1) := by decide +kernel
theorem dX1_addFastening_35 : decode cX1_addFastening 35 = .ok (.getfield 40, 3) := by decide +kernel
theorem dX1_addFastening_38 : decode cX1_addFastening 38 = .ok (.iload 4, 2) := by decide +kernel
theorem dX1_addFastening_40 : decode cX1_addFastening 40 = .ok (.iload_n 3, 1) := by decide +kernel
theorem dX1_addFastening_41 : decode cX1_addFastening 41 = .ok (.iastore, 1) := by decide +kernel
theorem dX1_addFastening_42 : decode cX1_addFastening 42 = .ok (.aload_n 0, 1) := by decide +kernel
theorem dX1_addFastening_43 : decode cX1_addFastening 43 = .ok (.dup, 1) := by decide +kernel
theorem dX1_addFastening_44 : decode cX1_addFastening 44 = .ok (.getfield 47, 3) := by decide +kernel
theorem dX1_addFastening_47 : decode cX1_addFastening 47 = .ok (.iconst 1, 1) := by decide +kernel
theorem dX1_addFastening_48 : decode cX1_addFastening 48 = .ok (.iadd, 1) := by decide +kernel
theorem dX1_addFastening_49 : decode cX1_addFastening 49 = .ok (.putfield 47, 3) := by decide +kernel
theorem dX1_addFastening_52 : decode cX1_addFastening 52 = .ok (.iload 4, 2) := by decide +kernel
theorem dX1_addFastening_54 : decode cX1_addFastening 54 = .ok (.ireturn, 1) := by decide +kernel
set_option maxRecDepth 20000 in
theorem ggX1_allowsCover_X1_areTwoParts : GoodIn wsX1_allowsCover wsX1_areTwoParts := goodIn_r _ [6, 7, 11, 12, 13, 14, 15, 16, 17, 18, 19, 20, 21, 22] (by decide +kernel) (by decide +kernel)
set_option maxRecDepth 20000 in
theorem gX1_allowsCover_X1_areTwoParts : GoodIn wsX1_allowsCover (wsV RX1 64 RX1 yX1_areTwoParts wsX1_areTwoParts) := goodIn_app (goodIn_of _ (by decide +kernel)) ggX1_allowsCover_X1_areTwoParts
set_option maxRecDepth 20000 in
theorem ggX1_allowsCover_X5_contains : GoodIn wsX1_allowsCover wsX5_contains := goodIn_r _ [10] (by decide +kernel) (by decide +kernel)
set_option maxRecDepth 20000 in
theorem gX1_allowsCover_X5_contains_n71 : GoodIn wsX1_allowsCover (wsX5_contains) := ggX1_allowsCover_X5_contains
theorem dX1_allowsCover_0 : decode cX1_allowsCover 0 = .ok (.aload_n 0, 1) := by decide +kernel
theorem dX1_allowsCover_1 : decode cX1_allowsCover 1 = .ok (.iload_n 1, 1) := by decide +kernel
theorem dX1_allowsCover_2 : decode cX1_allowsCover 2 = .ok (.iload_n 2, 1) := by decide +kernel
theorem dX1_allowsCover_3 : decode cX1_allowsCover 3 = .ok (.invokevirtual 64, 3) := by decide +kernel
theorem dX1_allowsCover_6 : decode cX1_allowsCover 6 = .ok (.ifCond .eq 20, 3) := by decide +kernel
theorem dX1_allowsCover_9 : decode cX1_allowsCover 9 = .ok (.aload_n 0, 1) := by decide +kernel
theorem dX1_allowsCover_10 : decode cX1_allowsCover 10 = .ok (.getfield 19, 3) := by decide +kernel
theorem dX1_allowsCover_13 : decode cX1_allowsCover 13 = .ok (.iload_n 2, 1) := by decide +kernel
theorem dX1_allowsCover_14 : decode cX1_allowsCover 14 = .ok (.iaload, 1) := by decide +kernel
theorem dX1_allowsCover_15 : decode cX1_allowsCover 15 = .ok (.iload_n 1, 1) := by decide +kernel
theorem dX1_allowsCover_16 : decode cX1_allowsCover 16 = .ok (.invokestatic 71, 3) := by decide +kernel
theorem dX1_allowsCover_19 : decode cX1_allowsCover 19 = .ok (.ifCond .ne 7, 3) := by decide +kernel
theorem dX1_allowsCover_22 : decode cX1_allowsCover 22 = .ok (.iconst 1, 1) := by decide +kernel
theorem dX1_allowsCover_23 : decode cX1_allowsCover 23 = .ok (.goto 4, 3) := by decide +kernel
theorem dX1_allowsCover_26 : decode cX1_allowsCover 26 = .ok (.iconst 0, 1) := by decide +kernel
theorem dX1_allowsCover_27 : decode cX1_allowsCover 27 = .ok (.ireturn, 1) := by decide +kernel
set_option maxRecDepth 20000 in
theorem ggX1_addCover_X1_allowsCover : GoodIn wsX1_addCover wsX1_allowsCover := goodIn_r _ [6, 1, 7, 8, 9, 5, 10, 11, 12, 13, 14, 15, 16, 17, 18, 19, 20, 21, 22, 23, 24, 25, 26] (by decide +kernel) (by decide +kernel)
set_option maxRecDepth 20000 in
theorem gX1_addCover_X1_allowsCover : GoodIn wsX1_addCover (wsV RX1 74 RX1 yX1_allowsCover wsX1_allowsCover) := goodIn_app (goodIn_of _ (by decide +kernel)) ggX1_addCover_X1_allowsCover
theorem dX1_addCover_0 : decode cX1_addCover 0 = .ok (.aload_n 0, 1) := by decide +kernel
theorem dX1_addCover_1 : decode cX1_addCover 1 = .ok (.iload_n 1, 1) := by decide +kernel
theorem dX1_addCover_2 : decode cX1_addCover 2 = .ok (.iload_n 2, 1) := by decide +kernel
theorem dX1_addCover_3 : decode cX1_addCover 3 = .ok (.invokevirtual 74, 3) := by decide +kernel
theorem dX1_addCover_6 : decode cX1_addCover 6 = .ok (.ifCond .ne 5, 3) := by decide +kernel
theorem dX1_addCover_9 : decode cX1_addCover 9 = .ok (.iconst 0, 1) := by decide +kernel
theorem dX1_addCover_10 : decode cX1_addCover 10 = .ok (.ireturn, 1) := by decide +kernel
theorem dX1_addCover_11 : decode cX1_addCover 11 = .ok (.aload_n 0, 1) := by decide +kernel
theorem dX1_addCover_12 : decode cX1_addCover 12 = .ok (.getfield 19, 3) := by decide +kernel
theorem dX1_addCover_15 : decode cX1_addCover 15 = .ok (.iload_n 2, 1) := by decide +kernel
theorem dX1_addCover_16 : decode cX1_addCover 16 = .ok (.dup2, 1) := by decide +kernel
theorem dX1_addCover_17 : decode cX1_addCover 17 = .ok (.iaload, 1) := by decide +kernel
theorem dX1_addCover_18 : decode cX1_addCover 18 = .ok (.iconst 1, 1) := by decide +kernel
theorem dX1_addCover_19 : decode cX1_addCover 19 = .ok (.iload_n 1, 1) := by decide +kernel
theorem dX1_addCover_20 : decode cX1_addCover 20 = .ok (.ishl, 1) := by decide +kernel
theorem dX1_addCover_21 : decode cX1_addCover 21 = .ok (.ior, 1) := by decide +kernel
theorem dX1_addCover_22 : decode cX1_addCover 22 = .ok (.iastore, 1) := by decide +kernel
theorem dX1_addCover_23 : decode cX1_addCover 23 = .ok (.iconst 1, 1) := by decide +kernel
theorem dX1_addCover_24 : decode cX1_addCover 24 = .ok (.ireturn, 1) := by decide +kernel
set_option maxRecDepth 20000 in
theorem ggX1_allowsBar_X1_areTwoParts : GoodIn wsX1_allowsBar wsX1_areTwoParts := goodIn_r _ [6, 7, 16, 17, 18, 19, 20, 21, 22, 23, 24, 25, 26, 27] (by decide +kernel) (by decide +kernel)
set_option maxRecDepth 20000 in
theorem gX1_allowsBar_X1_areTwoParts : GoodIn wsX1_allowsBar (wsV RX1 64 RX1 yX1_areTwoParts wsX1_areTwoParts) := goodIn_app (goodIn_of _ (by decide +kernel)) ggX1_allowsBar_X1_areTwoParts
set_option maxRecDepth 20000 in
theorem ggX1_allowsBar_X5_isBelow : GoodIn wsX1_allowsBar wsX5_isBelow := goodIn_r _ [10] (by decide +kernel) (by decide +kernel)
set_option maxRecDepth 20000 in
theorem gX1_allowsBar_X5_isBelow_n50 : GoodIn wsX1_allowsBar (wsX5_isBelow) := ggX1_allowsBar_X5_isBelow
set_option maxRecDepth 20000 in
theorem ggX1_allowsBar_X1_barIndex : GoodIn wsX1_allowsBar wsX1_barIndex := goodIn_r _ [13] (by decide +kernel) (by decide +kernel)
set_option maxRecDepth 20000 in
theorem gX1_allowsBar_X1_barIndex : GoodIn wsX1_allowsBar (va_wsS RX1 60 yX1_barIndex wsX1_barIndex) := goodIn_app (goodIn_of _ (by decide +kernel)) ggX1_allowsBar_X1_barIndex
set_option maxRecDepth 20000 in
theorem ggX1_allowsBar_X5_contains : GoodIn wsX1_allowsBar wsX5_contains := goodIn_r _ [15] (by decide +kernel) (by decide +kernel)
set_option maxRecDepth 20000 in
theorem gX1_allowsBar_X5_contains_n71 : GoodIn wsX1_allowsBar (wsX5_contains) := ggX1_allowsBar_X5_contains
theorem dX1_allowsBar_0 : decode cX1_allowsBar 0 = .ok (.aload_n 0, 1) := by decide +kernel
theorem dX1_allowsBar_1 : decode cX1_allowsBar 1 = .ok (.iload_n 1, 1) := by decide +kernel
theorem dX1_allowsBar_2 : decode cX1_allowsBar 2 = .ok (.iload_n 3, 1) := by decide +kernel
theorem dX1_allowsBar_3 : decode cX1_allowsBar 3 = .ok (.invokevirtual 64, 3) := by decide +kernel
theorem dX1_allowsBar_6 : decode cX1_allowsBar 6 = .ok (.ifCond .eq 33, 3) := by decide +kernel
theorem dX1_allowsBar_9 : decode cX1_allowsBar 9 = .ok (.iload_n 2, 1) := by decide +kernel
theorem dX1_allowsBar_10 : decode cX1_allowsBar 10 = .ok (.bipush 6, 2) := by decide +kernel
theorem dX1_allowsBar_12 : decode cX1_allowsBar 12 = .ok (.invokestatic 50, 3) := by decide +kernel
theorem dX1_allowsBar_15 : decode cX1_allowsBar 15 = .ok (.ifCond .eq 24, 3) := by decide +kernel
theorem dX1_allowsBar_18 : decode cX1_allowsBar 18 = .ok (.aload_n 0, 1) := by decide +kernel
theorem dX1_allowsBar_19 : decode cX1_allowsBar 19 = .ok (.getfield 22, 3) := by decide +kernel
theorem dX1_allowsBar_22 : decode cX1_allowsBar 22 = .ok (.iload_n 1, 1) := by decide +kernel
theorem dX1_allowsBar_23 : decode cX1_allowsBar 23 = .ok (.iload_n 2, 1) := by decide +kernel
theorem dX1_allowsBar_24 : decode cX1_allowsBar 24 = .ok (.invokestatic 60, 3) := by decide +kernel
theorem dX1_allowsBar_27 : decode cX1_allowsBar 27 = .ok (.iaload, 1) := by decide +kernel
theorem dX1_allowsBar_28 : decode cX1_allowsBar 28 = .ok (.iload_n 3, 1) := by decide +kernel
theorem dX1_allowsBar_29 : decode cX1_allowsBar 29 = .ok (.invokestatic 71, 3) := by decide +kernel
theorem dX1_allowsBar_32 : decode cX1_allowsBar 32 = .ok (.ifCond .ne 7, 3) := by decide +kernel
theorem dX1_allowsBar_35 : decode cX1_allowsBar 35 = .ok (.iconst 1, 1) := by decide +kernel
theorem dX1_allowsBar_36 : decode cX1_allowsBar 36 = .ok (.goto 4, 3) := by decide +kernel
theorem dX1_allowsBar_39 : decode cX1_allowsBar 39 = .ok (.iconst 0, 1) := by decide +kernel
theorem dX1_allowsBar_40 : decode cX1_allowsBar 40 = .ok (.ireturn, 1) := by decide +kernel
set_option maxRecDepth 20000 in
theorem ggX1_addBar_X1_allowsBar : GoodIn wsX1_addBar wsX1_allowsBar := goodIn_r _ [6, 1, 7, 8, 9, 5, 10, 11, 12, 13, 14, 15, 16, 17, 18, 19, 20, 21, 22, 23, 24, 25, 26, 27, 28, 29, 30, 31] (by decide +kernel) (by decide +kernel)
set_option maxRecDepth 20000 in
theorem gX1_addBar_X1_allowsBar : GoodIn wsX1_addBar (wsV RX1 77 RX1 yX1_allowsBar wsX1_allowsBar) := goodIn_app (goodIn_of _ (by decide +kernel)) ggX1_addBar_X1_allowsBar
set_option maxRecDepth 20000 in
theorem ggX1_addBar_X1_barIndex : GoodIn wsX1_addBar wsX1_barIndex := goodIn_r _ [17] (by decide +kernel) (by decide +kernel)
set_option maxRecDepth 20000 in
theorem gX1_addBar_X1_barIndex : GoodIn wsX1_addBar (va_wsS RX1 60 yX1_barIndex wsX1_barIndex) := goodIn_app (goodIn_of _ (by decide +kernel)) ggX1_addBar_X1_barIndex
theorem dX1_addBar_0 : decode cX1_addBar 0 = .ok (.aload_n 0, 1) := by decide +kernel
theorem dX1_addBar_1 : decode cX1_addBar 1 = .ok (.iload_n 1, 1) := by decide +kernel
theorem dX1_addBar_2 : decode cX1_addBar 2 = .ok (.iload_n 2, 1) := by decide +kernel
theorem dX1_addBar_3 : decode cX1_addBar 3 = .ok (.iload_n 3, 1) := by decide +kernel
theorem dX1_addBar_4 : decode cX1_addBar 4 = .ok (.invokevirtual 77, 3) := by decide +kernel
theorem dX1_addBar_7 : decode cX1_addBar 7 = .ok (.ifCond .ne 5, 3) := by decide +kernel
theorem dX1_addBar_10 : decode cX1_addBar 10 = .ok (.iconst 0, 1) := by decide +kernel
theorem dX1_addBar_11 : decode cX1_addBar 11 = .ok (.ireturn, 1) := by decide +kernel
theorem dX1_addBar_12 : decode cX1_addBar 12 = .ok (.aload_n 0, 1) := by decide +kernel
theorem dX1_addBar_13 : decode cX1_addBar 13 = .ok (.getfield 22, 3) := by decide +kernel
theorem dX1_addBar_16 : decode cX1_addBar 16 = .ok (.iload_n 1, 1) := by decide +kernel
theorem dX1_addBar_17 : decode cX1_addBar 17 = .ok (.iload_n 2, 1) := by decide +kernel
theorem dX1_addBar_18 : decode cX1_addBar 18 = .ok (.invokestatic 60, 3) := by decide +kernel
theorem dX1_addBar_21 : decode cX1_addBar 21 = .ok (.dup2, 1) := by decide +kernel
theorem dX1_addBar_22 : decode cX1_addBar 22 = .ok (.iaload, 1) := by decide +kernel
theorem dX1_addBar_23 : decode cX1_addBar 23 = .ok (.iconst 1, 1) := by decide +kernel
theorem dX1_addBar_24 : decode cX1_addBar 24 = .ok (.iload_n 3, 1) := by decide +kernel
theorem dX1_addBar_25 : decode cX1_addBar 25 = .ok (.ishl, 1) := by decide +kernel
theorem dX1_addBar_26 : decode cX1_addBar 26 = .ok (.ior, 1) := by decide +kernel
theorem dX1_addBar_27 : decode cX1_addBar 27 = .ok (.iastore, 1) := by decide +kernel
theorem dX1_addBar_28 : decode cX1_addBar 28 = .ok (.iconst 1, 1) := by decide +kernel
theorem dX1_addBar_29 : decode cX1_addBar 29 = .ok (.ireturn, 1) := by decide +kernel
set_option maxRecDepth 20000 in
theorem ggX1_allowsHazard_X1_hasPart : GoodIn wsX1_allowsHazard wsX1_hasPart := goodIn_r _ [6, 7, 13, 14, 15, 16, 17, 18, 19, 20, 21, 22, 23, 24] (by decide +kernel) (by decide +kernel)
set_option maxRecDepth 20000 in
theorem gX1_allowsHazard_X1_hasPart : GoodIn wsX1_allowsHazard (wsV RX1 80 RX1 yX1_hasPart wsX1_hasPart) := goodIn_app (goodIn_of _ (by decide +kernel)) ggX1_allowsHazard_X1_hasPart
set_option maxRecDepth 20000 in
theorem ggX1_allowsHazard_X5_isBelow : GoodIn wsX1_allowsHazard wsX5_isBelow := goodIn_r _ [10] (by decide +kernel) (by decide +kernel)
set_option maxRecDepth 20000 in
theorem gX1_allowsHazard_X5_isBelow_n50 : GoodIn wsX1_allowsHazard (wsX5_isBelow) := ggX1_allowsHazard_X5_isBelow
set_option maxRecDepth 20000 in
theorem ggX1_allowsHazard_X5_contains : GoodIn wsX1_allowsHazard wsX5_contains := goodIn_r _ [12] (by decide +kernel) (by decide +kernel)
set_option maxRecDepth 20000 in
theorem gX1_allowsHazard_X5_contains_n71 : GoodIn wsX1_allowsHazard (wsX5_contains) := ggX1_allowsHazard_X5_contains
theorem dX1_allowsHazard_0 : decode cX1_allowsHazard 0 = .ok (.aload_n 0, 1) := by decide +kernel
theorem dX1_allowsHazard_1 : decode cX1_allowsHazard 1 = .ok (.iload_n 1, 1) := by decide +kernel
theorem dX1_allowsHazard_2 : decode cX1_allowsHazard 2 = .ok (.invokevirtual 80, 3) := by decide +kernel
theorem dX1_allowsHazard_5 : decode cX1_allowsHazard 5 = .ok (.ifCond .eq 29, 3) := by decide +kernel
theorem dX1_allowsHazard_8 : decode cX1_allowsHazard 8 = .ok (.iload_n 2, 1) := by decide +kernel
theorem dX1_allowsHazard_9 : decode cX1_allowsHazard 9 = .ok (.bipush 8, 2) := by decide +kernel
theorem dX1_allowsHazard_11 : decode cX1_allowsHazard 11 = .ok (.invokestatic 50, 3) := by decide +kernel
theorem dX1_allowsHazard_14 : decode cX1_allowsHazard 14 = .ok (.ifCond .eq 20, 3) := by decide +kernel
theorem dX1_allowsHazard_17 : decode cX1_allowsHazard 17 = .ok (.aload_n 0, 1) := by decide +kernel
theorem dX1_allowsHazard_18 : decode cX1_allowsHazard 18 = .ok (.getfield 25, 3) := by decide +kernel
theorem dX1_allowsHazard_21 : decode cX1_allowsHazard 21 = .ok (.iload_n 1, 1) := by decide +kernel
theorem dX1_allowsHazard_22 : decode cX1_allowsHazard 22 = .ok (.iaload, 1) := by decide +kernel
theorem dX1_allowsHazard_23 : decode cX1_allowsHazard 23 = .ok (.iload_n 2, 1) := by decide +kernel
theorem dX1_allowsHazard_24 : decode cX1_allowsHazard 24 = .ok (.invokestatic 71, 3) := by decide +kernel
theorem dX1_allowsHazard_27 : decode cX1_allowsHazard 27 = .ok (.ifCond .ne 7, 3) := by decide +kernel
theorem dX1_allowsHazard_30 : decode cX1_allowsHazard 30 = .ok (.iconst 1, 1) := by decide +kernel
theorem dX1_allowsHazard_31 : decode cX1_allowsHazard 31 = .ok (.goto 4, 3) := by decide +kernel
theorem dX1_allowsHazard_34 : decode cX1_allowsHazard 34 = .ok (.iconst 0, 1) := by decide +kernel
theorem dX1_allowsHazard_35 : decode cX1_allowsHazard 35 = .ok (.ireturn, 1) := by decide +kernel
set_option maxRecDepth 20000 in
theorem ggX1_addHazard_X1_allowsHazard : GoodIn wsX1_addHazard wsX1_allowsHazard := goodIn_r _ [6, 1, 7, 8, 9, 5, 10, 11, 12, 13, 14, 15, 16, 17, 18, 19, 20, 21, 22, 23, 24, 25, 26, 27, 28] (by decide +kernel) (by decide +kernel)
set_option maxRecDepth 20000 in
theorem gX1_addHazard_X1_allowsHazard : GoodIn wsX1_addHazard (wsV RX1 84 RX1 yX1_allowsHazard wsX1_allowsHazard) := goodIn_app (goodIn_of _ (by decide +kernel)) ggX1_addHazard_X1_allowsHazard
theorem dX1_addHazard_0 : decode cX1_addHazard 0 = .ok (.aload_n 0, 1) := by decide +kernel
theorem dX1_addHazard_1 : decode cX1_addHazard 1 = .ok (.iload_n 1, 1) := by decide +kernel
theorem dX1_addHazard_2 : decode cX1_addHazard 2 = .ok (.iload_n 2, 1) := by decide +kernel
theorem dX1_addHazard_3 : decode cX1_addHazard 3 = .ok (.invokevirtual 84, 3) := by decide +kernel
theorem dX1_addHazard_6 : decode cX1_addHazard 6 = .ok (.ifCond .ne 5, 3) := by decide +kernel
theorem dX1_addHazard_9 : decode cX1_addHazard 9 = .ok (.iconst 0, 1) := by decide +kernel
theorem dX1_addHazard_10 : decode cX1_addHazard 10 = .ok (.ireturn, 1) := by decide +kernel
theorem dX1_addHazard_11 : decode cX1_addHazard 11 = .ok (.aload_n 0, 1) := by decide +kernel
theorem dX1_addHazard_12 : decode cX1_addHazard 12 = .ok (.getfield 25, 3) := by decide +kernel
theorem dX1_addHazard_15 : decode cX1_addHazard 15 = .ok (.iload_n 1, 1) := by decide +kernel
theorem dX1_addHazard_16 : decode cX1_addHazard 16 = .ok (.dup2, 1) := by decide +kernel
theorem dX1_addHazard_17 : decode cX1_addHazard 17 = .ok (.iaload, 1) := by decide +kernel
theorem dX1_addHazard_18 : decode cX1_addHazard 18 = .ok (.iconst 1, 1) := by decide +kernel
theorem dX1_addHazard_19 : decode cX1_addHazard 19 = .ok (.iload_n 2, 1) := by decide +kernel
theorem dX1_addHazard_20 : decode cX1_addHazard 20 = .ok (.ishl, 1) := by decide +kernel
theorem dX1_addHazard_21 : decode cX1_addHazard 21 = .ok (.ior, 1) := by decide +kernel
theorem dX1_addHazard_22 : decode cX1_addHazard 22 = .ok (.iastore, 1) := by decide +kernel
theorem dX1_addHazard_23 : decode cX1_addHazard 23 = .ok (.iconst 1, 1) := by decide +kernel
theorem dX1_addHazard_24 : decode cX1_addHazard 24 = .ok (.ireturn, 1) := by decide +kernel
set_option maxRecDepth 20000 in
theorem ggX1_allowsOption_X1_hasPart : GoodIn wsX1_allowsOption wsX1_hasPart := goodIn_r _ [6, 7, 11, 12, 13, 14, 15, 16, 17, 18, 19, 20, 21, 22] (by decide +kernel) (by decide +kernel)
set_option maxRecDepth 20000 in
theorem gX1_allowsOption_X1_hasPart : GoodIn wsX1_allowsOption (wsV RX1 80 RX1 yX1_hasPart wsX1_hasPart) := goodIn_app (goodIn_of _ (by decide +kernel)) ggX1_allowsOption_X1_hasPart
set_option maxRecDepth 20000 in
theorem ggX1_allowsOption_X5_isBelow : GoodIn wsX1_allowsOption wsX5_isBelow := goodIn_r _ [10] (by decide +kernel) (by decide +kernel)
set_option maxRecDepth 20000 in
theorem gX1_allowsOption_X5_isBelow_n50 : GoodIn wsX1_allowsOption (wsX5_isBelow) := ggX1_allowsOption_X5_isBelow
theorem dX1_allowsOption_0 : decode cX1_allowsOption 0 = .ok (.aload_n 0, 1) := by decide +kernel
theorem dX1_allowsOption_1 : decode cX1_allowsOption 1 = .ok (.iload_n 1, 1) := by decide +kernel
theorem dX1_allowsOption_2 : decode cX1_allowsOption 2 = .ok (.invokevirtual 80, 3) := by decide +kernel
theorem dX1_allowsOption_5 : decode cX1_allowsOption 5 = .ok (.ifCond .eq 25, 3) := by decide +kernel
theorem dX1_allowsOption_8 : decode cX1_allowsOption 8 = .ok (.iload_n 2, 1) := by decide +kernel
theorem dX1_allowsOption_9 : decode cX1_allowsOption 9 = .ok (.iconst 4, 1) := by decide +kernel
theorem dX1_allowsOption_10 : decode cX1_allowsOption 10 = .ok (.invokestatic 50, 3) := by decide +kernel
theorem dX1_allowsOption_13 : decode cX1_allowsOption 13 = .ok (.ifCond .eq 17, 3) := by decide +kernel
theorem dX1_allowsOption_16 : decode cX1_allowsOption 16 = .ok (.aload_n 0, 1) := by decide +kernel
theorem dX1_allowsOption_17 : decode cX1_allowsOption 17 = .ok (.getfield 28, 3) := by decide +kernel
theorem dX1_allowsOption_20 : decode cX1_allowsOption 20 = .ok (.iload_n 1, 1) := by decide +kernel
theorem dX1_allowsOption_21 : decode cX1_allowsOption 21 = .ok (.iaload, 1) := by decide +kernel
theorem dX1_allowsOption_22 : decode cX1_allowsOption 22 = .ok (.iload_n 2, 1) := by decide +kernel
theorem dX1_allowsOption_23 : decode cX1_allowsOption 23 = .ok (.if_icmp .eq 7, 3) := by decide +kernel
theorem dX1_allowsOption_26 : decode cX1_allowsOption 26 = .ok (.iconst 1, 1) := by decide +kernel
theorem dX1_allowsOption_27 : decode cX1_allowsOption 27 = .ok (.goto 4, 3) := by decide +kernel
theorem dX1_allowsOption_30 : decode cX1_allowsOption 30 = .ok (.iconst 0, 1) := by decide +kernel
theorem dX1_allowsOption_31 : decode cX1_allowsOption 31 = .ok (.ireturn, 1) := by decide +kernel
set_option maxRecDepth 20000 in
theorem ggX1_addOption_X1_allowsOption : GoodIn wsX1_addOption wsX1_allowsOption := goodIn_r _ [6, 1, 7, 8, 9, 5, 10, 11, 12, 13, 14, 15, 16, 17, 18, 19, 20, 21, 22, 23, 24, 25, 26] (by decide +kernel) (by decide +kernel)
set_option maxRecDepth 20000 in
theorem gX1_addOption_X1_allowsOption : GoodIn wsX1_addOption (wsV RX1 87 RX1 yX1_allowsOption wsX1_allowsOption) := goodIn_app (goodIn_of _ (by decide +kernel)) ggX1_addOption_X1_allowsOption
theorem dX1_addOption_0 : decode cX1_addOption 0 = .ok (.aload_n 0, 1) := by decide +kernel
theorem dX1_addOption_1 : decode cX1_addOption 1 = .ok (.iload_n 1, 1) := by decide +kernel
theorem dX1_addOption_2 : decode cX1_addOption 2 = .ok (.iload_n 2, 1) := by decide +kernel
theorem dX1_addOption_3 : decode cX1_addOption 3 = .ok (.invokevirtual 87, 3) := by decide +kernel
theorem dX1_addOption_6 : decode cX1_addOption 6 = .ok (.ifCond .ne 5, 3) := by decide +kernel
theorem dX1_addOption_9 : decode cX1_addOption 9 = .ok (.iconst 0, 1) := by decide +kernel
theorem dX1_addOption_10 : decode cX1_addOption 10 = .ok (.ireturn, 1) := by decide +kernel
theorem dX1_addOption_11 : decode cX1_addOption 11 = .ok (.aload_n 0, 1) := by decide +kernel
theorem dX1_addOption_12 : decode cX1_addOption 12 = .ok (.getfield 28, 3) := by decide +kernel
theorem dX1_addOption_15 : decode cX1_addOption 15 = .ok (.iload_n 1, 1) := by decide +kernel
theorem dX1_addOption_16 : decode cX1_addOption 16 = .ok (.iload_n 2, 1) := by decide +kernel
theorem dX1_addOption_17 : decode cX1_addOption 17 = .ok (.iastore, 1) := by decide +kernel
theorem dX1_addOption_18 : decode cX1_addOption 18 = .ok (.iconst 1, 1) := by decide +kernel
theorem dX1_addOption_19 : decode cX1_addOption 19 = .ok (.ireturn, 1) := by decide +kernel
set_option maxRecDepth 20000 in
theorem ggX1_allowsDamage_X1_hasPart : GoodIn wsX1_allowsDamage wsX1_hasPart := goodIn_r _ [5, 6, 10, 11, 12, 13, 14, 15, 16, 17, 18, 19, 20, 21] (by decide +kernel) (by decide +kernel)
set_option maxRecDepth 20000 in
theorem gX1_allowsDamage_X1_hasPart : GoodIn wsX1_allowsDamage (wsV RX1 80 RX1 yX1_hasPart wsX1_hasPart) := goodIn_app (goodIn_of _ (by decide +kernel)) ggX1_allowsDamage_X1_hasPart
set_option maxRecDepth 20000 in
theorem ggX1_allowsDamage_X5_isBelow : GoodIn wsX1_allowsDamage wsX5_isBelow := goodIn_r _ [9] (by decide +kernel) (by decide +kernel)
set_option maxRecDepth 20000 in
theorem gX1_allowsDamage_X5_isBelow_n50 : GoodIn wsX1_allowsDamage (wsX5_isBelow) := ggX1_allowsDamage_X5_isBelow
theorem dX1_allowsDamage_0 : decode cX1_allowsDamage 0 = .ok (.aload_n 0, 1) := by decide +kernel
theorem dX1_allowsDamage_1 : decode cX1_allowsDamage 1 = .ok (.iload_n 1, 1) := by decide +kernel
theorem dX1_allowsDamage_2 : decode cX1_allowsDamage 2 = .ok (.invokevirtual 80, 3) := by decide +kernel
theorem dX1_allowsDamage_5 : decode cX1_allowsDamage 5 = .ok (.ifCond .eq 15, 3) := by decide +kernel
theorem dX1_allowsDamage_8 : decode cX1_allowsDamage 8 = .ok (.iload_n 2, 1) := by decide +kernel
theorem dX1_allowsDamage_9 : decode cX1_allowsDamage 9 = .ok (.iconst 4, 1) := by decide +kernel
theorem dX1_allowsDamage_10 : decode cX1_allowsDamage 10 = .ok (.invokestatic 50, 3) := by decide +kernel
theorem dX1_allowsDamage_13 : decode cX1_allowsDamage 13 = .ok (.ifCond .eq 7, 3) := by decide +kernel
theorem dX1_allowsDamage_16 : decode cX1_allowsDamage 16 = .ok (.iconst 1, 1) := by decide +kernel
theorem dX1_allowsDamage_17 : decode cX1_allowsDamage 17 = .ok (.goto 4, 3) := by decide +kernel
theorem dX1_allowsDamage_20 : decode cX1_allowsDamage 20 = .ok (.iconst 0, 1) := by decide +kernel
theorem dX1_allowsDamage_21 : decode cX1_allowsDamage 21 = .ok (.ireturn, 1) := by decide +kernel
set_option maxRecDepth 20000 in
theorem ggX1_setDamage_X1_allowsDamage : GoodIn wsX1_setDamage wsX1_allowsDamage := goodIn_r _ [6, 7, 8, 9, 5, 10, 11, 12, 13, 14, 15, 16, 17, 18, 19, 20, 21, 22, 23, 24, 25, 26] (by decide +kernel) (by decide +kernel)
set_option maxRecDepth 20000 in
theorem gX1_setDamage_X1_allowsDamage : GoodIn wsX1_setDamage (wsV RX1 90 RX1 yX1_allowsDamage wsX1_allowsDamage) := goodIn_app (goodIn_of _ (by decide +kernel)) ggX1_setDamage_X1_allowsDamage
theorem dX1_setDamage_0 : decode cX1_setDamage 0 = .ok (.aload_n 0, 1) := by decide +kernel
theorem dX1_setDamage_1 : decode cX1_setDamage 1 = .ok (.iload_n 1, 1) := by decide +kernel
theorem dX1_setDamage_2 : decode cX1_setDamage 2 = .ok (.iload_n 2, 1) := by decide +kernel
theorem dX1_setDamage_3 : decode cX1_setDamage 3 = .ok (.invokevirtual 90, 3) := by decide +kernel
theorem dX1_setDamage_6 : decode cX1_setDamage 6 = .ok (.ifCond .ne 5, 3) := by decide +kernel
theorem dX1_setDamage_9 : decode cX1_setDamage 9 = .ok (.iconst (-1), 1) := by decide +kernel
theorem dX1_setDamage_10 : decode cX1_setDamage 10 = .ok (.ireturn, 1) := by decide +kernel
theorem dX1_setDamage_11 : decode cX1_setDamage 11 = .ok (.aload_n 0, 1) := by decide +kernel
theorem dX1_setDamage_12 : decode cX1_setDamage 12 = .ok (.getfield 31, 3) := by decide +kernel
theorem dX1_setDamage_15 : decode cX1_setDamage 15 = .ok (.iload_n 1, 1) := by decide +kernel
theorem dX1_setDamage_16 : decode cX1_setDamage 16 = .ok (.iaload, 1) := by decide +kernel
theorem dX1_setDamage_17 : decode cX1_setDamage 17 = .ok (.istore_n 3, 1) := by decide +kernel
theorem dX1_setDamage_18 : decode cX1_setDamage 18 = .ok (.aload_n 0, 1) := by decide +kernel
theorem dX1_setDamage_19 : decode cX1_setDamage 19 = .ok (.getfield 31, 3) := by decide +kernel
theorem dX1_setDamage_22 : decode cX1_setDamage 22 = .ok (.iload_n 1, 1) := by decide +kernel
theorem dX1_setDamage_23 : decode cX1_setDamage 23 = .ok (.iload_n 2, 1) := by decide +kernel
theorem dX1_setDamage_24 : decode cX1_setDamage 24 = .ok (.iastore, 1) := by decide +kernel
theorem dX1_setDamage_25 : decode cX1_setDamage 25 = .ok (.iload_n 3, 1) := by decide +kernel
theorem dX1_setDamage_26 : decode cX1_setDamage 26 = .ok (.ireturn, 1) := by decide +kernel
set_option maxRecDepth 20000 in
theorem ggX1_allows_Jx29ce0_ordinal_8abf5 : GoodIn wsX1_allows wsJx29ce0_ordinal_8abf5 := goodIn_r _ [7, 8] (by decide +kernel) (by decide +kernel)
set_option maxRecDepth 20000 in
theorem gX1_allows_Jx29ce0_ordinal_8abf5_u98X4 : GoodIn wsX1_allows (va_wsU RX1 98 RX4 "java/lang/Enum" ⟨"PartGraphs$Verb", "ordinal", "()I"⟩ yJx29ce0_ordinal_8abf5 wsJx29ce0_ordinal_8abf5) := goodIn_app (goodIn_of _ (by decide +kernel)) ggX1_allows_Jx29ce0_ordinal_8abf5
set_option maxRecDepth 20000 in
theorem ggX1_allows_X1_allowsPart : GoodIn wsX1_allows wsX1_allowsPart := goodIn_r _ [13, 14, 15, 16, 17, 18, 61, 62, 63, 64, 65, 66, 67, 68, 69, 70, 71, 72] (by decide +kernel) (by decide +kernel)
set_option maxRecDepth 20000 in
theorem gX1_allows_X1_allowsPart : GoodIn wsX1_allows (wsV RX1 56 RX1 yX1_allowsPart wsX1_allowsPart) := goodIn_app (goodIn_of _ (by decide +kernel)) ggX1_allows_X1_allowsPart
set_option maxRecDepth 20000 in
theorem ggX1_allows_X1_allowsCover : GoodIn wsX1_allows wsX1_allowsCover := goodIn_r _ [22, 23, 24, 25, 26, 12, 27, 14, 28, 17, 29, 61, 62, 63, 64, 65, 66, 67, 68, 69, 70, 71, 72] (by decide +kernel) (by decide +kernel)
set_option maxRecDepth 20000 in
theorem gX1_allows_X1_allowsCover : GoodIn wsX1_allows (wsV RX1 74 RX1 yX1_allowsCover wsX1_allowsCover) := goodIn_app (goodIn_of _ (by decide +kernel)) ggX1_allows_X1_allowsCover
set_option maxRecDepth 20000 in
theorem ggX1_allows_X1_allowsBar : GoodIn wsX1_allows wsX1_allowsBar := goodIn_r _ [33, 34, 24, 25, 26, 12, 27, 14, 16, 17, 18, 35, 36, 37, 28, 29, 61, 62, 63, 64, 65, 66, 67, 68, 69, 70, 71, 72] (by decide +kernel) (by decide +kernel)
set_option maxRecDepth 20000 in
theorem gX1_allows_X1_allowsBar : GoodIn wsX1_allows (wsV RX1 77 RX1 yX1_allowsBar wsX1_allowsBar) := goodIn_app (goodIn_of _ (by decide +kernel)) ggX1_allows_X1_allowsBar
set_option maxRecDepth 20000 in
theorem ggX1_allows_X1_allowsFastening : GoodIn wsX1_allows wsX1_allowsFastening := goodIn_r _ [41, 42, 24, 25, 26, 12, 27, 14, 16, 17, 18, 61, 62, 63, 64, 65, 66, 67, 68, 69, 70, 71, 72] (by decide +kernel) (by decide +kernel)
set_option maxRecDepth 20000 in
theorem gX1_allows_X1_allowsFastening : GoodIn wsX1_allows (wsV RX1 67 RX1 yX1_allowsFastening wsX1_allowsFastening) := goodIn_app (goodIn_of _ (by decide +kernel)) ggX1_allows_X1_allowsFastening
set_option maxRecDepth 20000 in
theorem ggX1_allows_X1_allowsHazard : GoodIn wsX1_allows wsX1_allowsHazard := goodIn_r _ [46, 47, 48, 49, 50, 12, 51, 14, 16, 17, 18, 28, 29, 61, 62, 63, 64, 65, 66, 67, 68, 69, 70, 71, 72] (by decide +kernel) (by decide +kernel)
set_option maxRecDepth 20000 in
theorem gX1_allows_X1_allowsHazard : GoodIn wsX1_allows (wsV RX1 84 RX1 yX1_allowsHazard wsX1_allowsHazard) := goodIn_app (goodIn_of _ (by decide +kernel)) ggX1_allows_X1_allowsHazard
set_option maxRecDepth 20000 in
theorem ggX1_allows_X1_allowsOption : GoodIn wsX1_allows wsX1_allowsOption := goodIn_r _ [55, 56, 48, 49, 50, 12, 51, 14, 16, 17, 18, 61, 62, 63, 64, 65, 66, 67, 68, 69, 70, 71, 72] (by decide +kernel) (by decide +kernel)
set_option maxRecDepth 20000 in
theorem gX1_allows_X1_allowsOption : GoodIn wsX1_allows (wsV RX1 87 RX1 yX1_allowsOption wsX1_allowsOption) := goodIn_app (goodIn_of _ (by decide +kernel)) ggX1_allows_X1_allowsOption
set_option maxRecDepth 20000 in
theorem ggX1_allows_X1_allowsDamage : GoodIn wsX1_allows wsX1_allowsDamage := goodIn_r _ [60, 48, 49, 50, 12, 51, 14, 16, 17, 18, 61, 62, 63, 64, 65, 66, 67, 68, 69, 70, 71, 72] (by decide +kernel) (by decide +kernel)
set_option maxRecDepth 20000 in
theorem gX1_allows_X1_allowsDamage : GoodIn wsX1_allows (wsV RX1 90 RX1 yX1_allowsDamage wsX1_allowsDamage) := goodIn_app (goodIn_of _ (by decide +kernel)) ggX1_allows_X1_allowsDamage
theorem dX1_allows_0 : decode cX1_allows 0 = .ok (.getstatic 93, 3) := by decide +kernel
theorem dX1_allows_3 : decode cX1_allows 3 = .ok (.aload_n 1, 1) := by decide +kernel
theorem dX1_allows_4 : decode cX1_allows 4 = .ok (.invokevirtual 98, 3) := by decide +kernel
theorem dX1_allows_7 : decode cX1_allows 7 = .ok (.iaload, 1) := by decide +kernel
theorem dX1_allows_8 : decode cX1_allows 8 = .ok (.tableswitch 87 1 6 #[40, 48, 55, 64, 73, 80], 40) := by decide +kernel
theorem dX1_allows_48 : decode cX1_allows 48 = .ok (.aload_n 0, 1) := by decide +kernel
theorem dX1_allows_49 : decode cX1_allows 49 = .ok (.iload_n 2, 1) := by decide +kernel
theorem dX1_allows_50 : decode cX1_allows 50 = .ok (.iload_n 3, 1) := by decide +kernel
theorem dX1_allows_51 : decode cX1_allows 51 = .ok (.i2l, 1) := by decide +kernel
theorem dX1_allows_52 : decode cX1_allows 52 = .ok (.invokevirtual 56, 3) := by decide +kernel
theorem dX1_allows_55 : decode cX1_allows 55 = .ok (.ireturn, 1) := by decide +kernel
theorem dX1_allows_56 : decode cX1_allows 56 = .ok (.aload_n 0, 1) := by decide +kernel
theorem dX1_allows_57 : decode cX1_allows 57 = .ok (.iload_n 2, 1) := by decide +kernel
theorem dX1_allows_58 : decode cX1_allows 58 = .ok (.iload_n 3, 1) := by decide +kernel
theorem dX1_allows_59 : decode cX1_allows 59 = .ok (.invokevirtual 74, 3) := by decide +kernel
theorem dX1_allows_62 : decode cX1_allows 62 = .ok (.ireturn, 1) := by decide +kernel
theorem dX1_allows_63 : decode cX1_allows 63 = .ok (.aload_n 0, 1) := by decide +kernel
theorem dX1_allows_64 : decode cX1_allows 64 = .ok (.iload_n 2, 1) := by decide +kernel
theorem dX1_allows_65 : decode cX1_allows 65 = .ok (.iload_n 3, 1) := by decide +kernel
theorem dX1_allows_66 : decode cX1_allows 66 = .ok (.iload 4, 2) := by decide +kernel
theorem dX1_allows_68 : decode cX1_allows 68 = .ok (.invokevirtual 77, 3) := by decide +kernel
theorem dX1_allows_71 : decode cX1_allows 71 = .ok (.ireturn, 1) := by decide +kernel
theorem dX1_allows_72 : decode cX1_allows 72 = .ok (.aload_n 0, 1) := by decide +kernel
theorem dX1_allows_73 : decode cX1_allows 73 = .ok (.iload_n 2, 1) := by decide +kernel
theorem dX1_allows_74 : decode cX1_allows 74 = .ok (.iload_n 3, 1) := by decide +kernel
theorem dX1_allows_75 : decode cX1_allows 75 = .ok (.iload 4, 2) := by decide +kernel
theorem dX1_allows_77 : decode cX1_allows 77 = .ok (.invokevirtual 67, 3) := by decide +kernel
theorem dX1_allows_80 : decode cX1_allows 80 = .ok (.ireturn, 1) := by decide +kernel
theorem dX1_allows_81 : decode cX1_allows 81 = .ok (.aload_n 0, 1) := by decide +kernel
theorem dX1_allows_82 : decode cX1_allows 82 = .ok (.iload_n 2, 1) := by decide +kernel
theorem dX1_allows_83 : decode cX1_allows 83 = .ok (.iload_n 3, 1) := by decide +kernel
theorem dX1_allows_84 : decode cX1_allows 84 = .ok (.invokevirtual 84, 3) := by decide +kernel
theorem dX1_allows_87 : decode cX1_allows 87 = .ok (.ireturn, 1) := by decide +kernel
theorem dX1_allows_88 : decode cX1_allows 88 = .ok (.aload_n 0, 1) := by decide +kernel
theorem dX1_allows_89 : decode cX1_allows 89 = .ok (.iload_n 2, 1) := by decide +kernel
theorem dX1_allows_90 : decode cX1_allows 90 = .ok (.iload_n 3, 1) := by decide +kernel
theorem dX1_allows_91 : decode cX1_allows 91 = .ok (.invokevirtual 87, 3) := by decide +kernel
theorem dX1_allows_94 : decode cX1_allows 94 = .ok (.ireturn, 1) := by decide +kernel
theorem dX1_allows_95 : decode cX1_allows 95 = .ok (.aload_n 0, 1) := by decide +kernel
theorem dX1_allows_96 : decode cX1_allows 96 = .ok (.iload_n 2, 1) := by decide +kernel
theorem dX1_allows_97 : decode cX1_allows 97 = .ok (.iload_n 3, 1) := by decide +kernel
theorem dX1_allows_98 : decode cX1_allows 98 = .ok (.invokevirtual 90, 3) := by decide +kernel
theorem dX1_allows_101 : decode cX1_allows 101 = .ok (.ireturn, 1) := by decide +kernel
set_option maxRecDepth 20000 in
theorem ggX1_carryOut_Jx29ce0_ordinal_8abf5 : GoodIn wsX1_carryOut wsJx29ce0_ordinal_8abf5 := goodIn_r _ [7, 8] (by decide +kernel) (by decide +kernel)
set_option maxRecDepth 20000 in
theorem gX1_carryOut_Jx29ce0_ordinal_8abf5_u98X4 : GoodIn wsX1_carryOut (va_wsU RX1 98 RX4 "java/lang/Enum" ⟨"PartGraphs$Verb", "ordinal", "()I"⟩ yJx29ce0_ordinal_8abf5 wsJx29ce0_ordinal_8abf5) := goodIn_app (goodIn_of _ (by decide +kernel)) ggX1_carryOut_Jx29ce0_ordinal_8abf5
set_option maxRecDepth 20000 in
theorem ggX1_carryOut_X1_addPart : GoodIn wsX1_carryOut wsX1_addPart := goodIn_r _ [13, 14, 15, 16, 17, 18, 19, 20, 21, 22, 23, 24, 12, 25, 26, 27, 28, 29, 30, 31, 32, 95, 96, 97, 98, 99, 100, 101, 102, 103, 104, 105, 106] (by decide +kernel) (by decide +kernel)
set_option maxRecDepth 20000 in
theorem gX1_carryOut_X1_addPart : GoodIn wsX1_carryOut (wsV RX1 104 RX1 yX1_addPart wsX1_addPart) := goodIn_app (goodIn_of _ (by decide +kernel)) ggX1_carryOut_X1_addPart
set_option maxRecDepth 20000 in
theorem ggX1_carryOut_X1_addCover : GoodIn wsX1_carryOut wsX1_addCover := goodIn_r _ [36, 17, 37, 38, 39, 12, 40, 41, 42, 43, 44, 14, 45, 28, 46, 95, 96, 97, 98, 99, 100, 101, 102, 103, 104, 105, 106] (by decide +kernel) (by decide +kernel)
set_option maxRecDepth 20000 in
theorem gX1_carryOut_X1_addCover : GoodIn wsX1_carryOut (wsV RX1 108 RX1 yX1_addCover wsX1_addCover) := goodIn_app (goodIn_of _ (by decide +kernel)) ggX1_carryOut_X1_addCover
set_option maxRecDepth 20000 in
theorem ggX1_carryOut_X1_addBar : GoodIn wsX1_carryOut wsX1_addBar := goodIn_r _ [50, 18, 51, 52, 53, 12, 54, 41, 42, 43, 44, 14, 27, 28, 29, 30, 31, 32, 45, 46, 95, 96, 97, 98, 99, 100, 101, 102, 103, 104, 105, 106] (by decide +kernel) (by decide +kernel)
set_option maxRecDepth 20000 in
theorem gX1_carryOut_X1_addBar : GoodIn wsX1_carryOut (wsV RX1 111 RX1 yX1_addBar wsX1_addBar) := goodIn_app (goodIn_of _ (by decide +kernel)) ggX1_carryOut_X1_addBar
set_option maxRecDepth 20000 in
theorem ggX1_carryOut_X1_addFastening : GoodIn wsX1_carryOut wsX1_addFastening := goodIn_r _ [58, 59, 60, 61, 62, 63, 64, 65, 12, 66, 41, 42, 43, 44, 14, 27, 28, 29, 95, 96, 97, 98, 99, 100, 101, 102, 103, 104, 105, 106] (by decide +kernel) (by decide +kernel)
set_option maxRecDepth 20000 in
theorem gX1_carryOut_X1_addFastening : GoodIn wsX1_carryOut (wsV RX1 114 RX1 yX1_addFastening wsX1_addFastening) := goodIn_app (goodIn_of _ (by decide +kernel)) ggX1_carryOut_X1_addFastening
set_option maxRecDepth 20000 in
theorem ggX1_carryOut_X1_addHazard : GoodIn wsX1_carryOut wsX1_addHazard := goodIn_r _ [70, 19, 71, 72, 73, 12, 74, 75, 76, 77, 78, 14, 27, 28, 29, 45, 46, 95, 96, 97, 98, 99, 100, 101, 102, 103, 104, 105, 106] (by decide +kernel) (by decide +kernel)
set_option maxRecDepth 20000 in
theorem gX1_carryOut_X1_addHazard : GoodIn wsX1_carryOut (wsV RX1 118 RX1 yX1_addHazard wsX1_addHazard) := goodIn_app (goodIn_of _ (by decide +kernel)) ggX1_carryOut_X1_addHazard
set_option maxRecDepth 20000 in
theorem ggX1_carryOut_X1_addOption : GoodIn wsX1_carryOut wsX1_addOption := goodIn_r _ [82, 20, 83, 84, 85, 12, 86, 75, 76, 77, 78, 14, 27, 28, 29, 95, 96, 97, 98, 99, 100, 101, 102, 103, 104, 105, 106] (by decide +kernel) (by decide +kernel)
set_option maxRecDepth 20000 in
theorem gX1_carryOut_X1_addOption : GoodIn wsX1_carryOut (wsV RX1 121 RX1 yX1_addOption wsX1_addOption) := goodIn_app (goodIn_of _ (by decide +kernel)) ggX1_carryOut_X1_addOption
set_option maxRecDepth 20000 in
theorem ggX1_carryOut_X1_setDamage : GoodIn wsX1_carryOut wsX1_setDamage := goodIn_r _ [90, 21, 91, 92, 93, 12, 94, 75, 76, 77, 78, 14, 27, 28, 29, 95, 96, 97, 98, 99, 100, 101, 102, 103, 104, 105, 106] (by decide +kernel) (by decide +kernel)
set_option maxRecDepth 20000 in
theorem gX1_carryOut_X1_setDamage : GoodIn wsX1_carryOut (wsV RX1 124 RX1 yX1_setDamage wsX1_setDamage) := goodIn_app (goodIn_of _ (by decide +kernel)) ggX1_carryOut_X1_setDamage
theorem dX1_carryOut_0 : decode cX1_carryOut 0 = .ok (.getstatic 93, 3) := by decide +kernel
theorem dX1_carryOut_3 : decode cX1_carryOut 3 = .ok (.aload_n 1, 1) := by decide +kernel
theorem dX1_carryOut_4 : decode cX1_carryOut 4 = .ok (.invokevirtual 98, 3) := by decide +kernel
theorem dX1_carryOut_7 : decode cX1_carryOut 7 = .ok (.iaload, 1) := by decide +kernel
theorem dX1_carryOut_8 : decode cX1_carryOut 8 = .ok (.tableswitch 105 1 6 #[40, 51, 61, 73, 85, 95], 40) := by decide +kernel
theorem dX1_carryOut_48 : decode cX1_carryOut 48 = .ok (.aload_n 0, 1) := by decide +kernel
theorem dX1_carryOut_49 : decode cX1_carryOut 49 = .ok (.iload_n 2, 1) := by decide +kernel
theorem dX1_carryOut_50 : decode cX1_carryOut 50 = .ok (.iload_n 3, 1) := by decide +kernel
theorem dX1_carryOut_51 : decode cX1_carryOut 51 = .ok (.i2l, 1) := by decide +kernel
theorem dX1_carryOut_52 : decode cX1_carryOut 52 = .ok (.invokevirtual 104, 3) := by decide +kernel
theorem dX1_carryOut_55 : decode cX1_carryOut 55 = .ok (.pop, 1) := by decide +kernel
theorem dX1_carryOut_56 : decode cX1_carryOut 56 = .ok (.goto 64, 3) := by decide +kernel
theorem dX1_carryOut_59 : decode cX1_carryOut 59 = .ok (.aload_n 0, 1) := by decide +kernel
theorem dX1_carryOut_60 : decode cX1_carryOut 60 = .ok (.iload_n 2, 1) := by decide +kernel
theorem dX1_carryOut_61 : decode cX1_carryOut 61 = .ok (.iload_n 3, 1) := by decide +kernel
theorem dX1_carryOut_62 : decode cX1_carryOut 62 = .ok (.invokevirtual 108, 3) := by decide +kernel
theorem dX1_carryOut_65 : decode cX1_carryOut 65 = .ok (.pop, 1) := by decide +kernel
theorem dX1_carryOut_66 : decode cX1_carryOut 66 = .ok (.goto 54, 3) := by decide +kernel
theorem dX1_carryOut_69 : decode cX1_carryOut 69 = .ok (.aload_n 0, 1) := by decide +kernel
theorem dX1_carryOut_70 : decode cX1_carryOut 70 = .ok (.iload_n 2, 1) := by decide +kernel
theorem dX1_carryOut_71 : decode cX1_carryOut 71 = .ok (.iload_n 3, 1) := by decide +kernel
theorem dX1_carryOut_72 : decode cX1_carryOut 72 = .ok (.iload 4, 2) := by decide +kernel
theorem dX1_carryOut_74 : decode cX1_carryOut 74 = .ok (.invokevirtual 111, 3) := by decide +kernel
theorem dX1_carryOut_77 : decode cX1_carryOut 77 = .ok (.pop, 1) := by decide +kernel
theorem dX1_carryOut_78 : decode cX1_carryOut 78 = .ok (.goto 42, 3) := by decide +kernel
theorem dX1_carryOut_81 : decode cX1_carryOut 81 = .ok (.aload_n 0, 1) := by decide +kernel
theorem dX1_carryOut_82 : decode cX1_carryOut 82 = .ok (.iload_n 2, 1) := by decide +kernel
theorem dX1_carryOut_83 : decode cX1_carryOut 83 = .ok (.iload_n 3, 1) := by decide +kernel
theorem dX1_carryOut_84 : decode cX1_carryOut 84 = .ok (.iload 4, 2) := by decide +kernel
theorem dX1_carryOut_86 : decode cX1_carryOut 86 = .ok (.invokevirtual 114, 3) := by decide +kernel
theorem dX1_carryOut_89 : decode cX1_carryOut 89 = .ok (.pop, 1) := by decide +kernel
theorem dX1_carryOut_90 : decode cX1_carryOut 90 = .ok (.goto 30, 3) := by decide +kernel
theorem dX1_carryOut_93 : decode cX1_carryOut 93 = .ok (.aload_n 0, 1) := by decide +kernel
theorem dX1_carryOut_94 : decode cX1_carryOut 94 = .ok (.iload_n 2, 1) := by decide +kernel
theorem dX1_carryOut_95 : decode cX1_carryOut 95 = .ok (.iload_n 3, 1) := by decide +kernel
theorem dX1_carryOut_96 : decode cX1_carryOut 96 = .ok (.invokevirtual 118, 3) := by decide +kernel
theorem dX1_carryOut_99 : decode cX1_carryOut 99 = .ok (.pop, 1) := by decide +kernel
theorem dX1_carryOut_100 : decode cX1_carryOut 100 = .ok (.goto 20, 3) := by decide +kernel
theorem dX1_carryOut_103 : decode cX1_carryOut 103 = .ok (.aload_n 0, 1) := by decide +kernel
theorem dX1_carryOut_104 : decode cX1_carryOut 104 = .ok (.iload_n 2, 1) := by decide +kernel
theorem dX1_carryOut_105 : decode cX1_carryOut 105 = .ok (.iload_n 3, 1) := by decide +kernel
theorem dX1_carryOut_106 : decode cX1_carryOut 106 = .ok (.invokevirtual 121, 3) := by decide +kernel
theorem dX1_carryOut_109 : decode cX1_carryOut 109 = .ok (.pop, 1) := by decide +kernel
theorem dX1_carryOut_110 : decode cX1_carryOut 110 = .ok (.goto 10, 3) := by decide +kernel
theorem dX1_carryOut_113 : decode cX1_carryOut 113 = .ok (.aload_n 0, 1) := by decide +kernel
theorem dX1_carryOut_114 : decode cX1_carryOut 114 = .ok (.iload_n 2, 1) := by decide +kernel
theorem dX1_carryOut_115 : decode cX1_carryOut 115 = .ok (.iload_n 3, 1) := by decide +kernel
theorem dX1_carryOut_116 : decode cX1_carryOut 116 = .ok (.invokevirtual 124, 3) := by decide +kernel
theorem dX1_carryOut_119 : decode cX1_carryOut 119 = .ok (.pop, 1) := by decide +kernel
theorem dX1_carryOut_120 : decode cX1_carryOut 120 = .ok (.return_, 1) := by decide +kernel
set_option maxRecDepth 20000 in
theorem ggX1_isPlain_X1_hasPart : GoodIn wsX1_isPlain wsX1_hasPart := goodIn_r _ [6, 7, 11, 12, 13, 14, 15, 16, 17, 18, 19, 20, 21, 22] (by decide +kernel) (by decide +kernel)
set_option maxRecDepth 20000 in
theorem gX1_isPlain_X1_hasPart : GoodIn wsX1_isPlain (wsV RX1 80 RX1 yX1_hasPart wsX1_hasPart) := goodIn_app (goodIn_of _ (by decide +kernel)) ggX1_isPlain_X1_hasPart
set_option maxRecDepth 20000 in
theorem ggX1_isPlain_X5_contains : GoodIn wsX1_isPlain wsX5_contains := goodIn_r _ [10] (by decide +kernel) (by decide +kernel)
set_option maxRecDepth 20000 in
theorem gX1_isPlain_X5_contains_n71 : GoodIn wsX1_isPlain (wsX5_contains) := ggX1_isPlain_X5_contains
theorem dX1_isPlain_0 : decode cX1_isPlain 0 = .ok (.aload_n 0, 1) := by decide +kernel
theorem dX1_isPlain_1 : decode cX1_isPlain 1 = .ok (.iload_n 1, 1) := by decide +kernel
theorem dX1_isPlain_2 : decode cX1_isPlain 2 = .ok (.invokevirtual 80, 3) := by decide +kernel
theorem dX1_isPlain_5 : decode cX1_isPlain 5 = .ok (.ifCond .eq 28, 3) := by decide +kernel
theorem dX1_isPlain_8 : decode cX1_isPlain 8 = .ok (.iload_n 2, 1) := by decide +kernel
theorem dX1_isPlain_9 : decode cX1_isPlain 9 = .ok (.iload_n 1, 1) := by decide +kernel
theorem dX1_isPlain_10 : decode cX1_isPlain 10 = .ok (.invokestatic 71, 3) := by decide +kernel
theorem dX1_isPlain_13 : decode cX1_isPlain 13 = .ok (.ifCond .ne 20, 3) := by decide +kernel
theorem dX1_isPlain_16 : decode cX1_isPlain 16 = .ok (.aload_n 0, 1) := by decide +kernel
theorem dX1_isPlain_17 : decode cX1_isPlain 17 = .ok (.getfield 19, 3) := by decide +kernel
theorem dX1_isPlain_20 : decode cX1_isPlain 20 = .ok (.iload_n 1, 1) := by decide +kernel
theorem dX1_isPlain_21 : decode cX1_isPlain 21 = .ok (.iaload, 1) := by decide +kernel
theorem dX1_isPlain_22 : decode cX1_isPlain 22 = .ok (.iload_n 2, 1) := by decide +kernel
theorem dX1_isPlain_23 : decode cX1_isPlain 23 = .ok (.iconst (-1), 1) := by decide +kernel
theorem dX1_isPlain_24 : decode cX1_isPlain 24 = .ok (.ixor, 1) := by decide +kernel
theorem dX1_isPlain_25 : decode cX1_isPlain 25 = .ok (.iand, 1) := by decide +kernel
theorem dX1_isPlain_26 : decode cX1_isPlain 26 = .ok (.ifCond .ne 7, 3) := by decide +kernel
theorem dX1_isPlain_29 : decode cX1_isPlain 29 = .ok (.iconst 1, 1) := by decide +kernel
theorem dX1_isPlain_30 : decode cX1_isPlain 30 = .ok (.goto 4, 3) := by decide +kernel
theorem dX1_isPlain_33 : decode cX1_isPlain 33 = .ok (.iconst 0, 1) := by decide +kernel
theorem dX1_isPlain_34 : decode cX1_isPlain 34 = .ok (.ireturn, 1) := by decide +kernel
set_option maxRecDepth 20000 in
theorem ggX1_isFree_X1_isPlain : GoodIn wsX1_isFree wsX1_isPlain := goodIn_r _ [6, 7, 8, 9, 10, 5, 11, 12, 13, 14, 15, 19, 20, 21, 22, 23, 24, 25, 26, 27, 28, 29, 30] (by decide +kernel) (by decide +kernel)
set_option maxRecDepth 20000 in
theorem gX1_isFree_X1_isPlain : GoodIn wsX1_isFree (wsV RX1 127 RX1 yX1_isPlain wsX1_isPlain) := goodIn_app (goodIn_of _ (by decide +kernel)) ggX1_isFree_X1_isPlain
set_option maxRecDepth 20000 in
theorem ggX1_isFree_X1_barIndex : GoodIn wsX1_isFree wsX1_barIndex := goodIn_r _ [18] (by decide +kernel) (by decide +kernel)
set_option maxRecDepth 20000 in
theorem gX1_isFree_X1_barIndex : GoodIn wsX1_isFree (va_wsS RX1 60 yX1_barIndex wsX1_barIndex) := goodIn_app (goodIn_of _ (by decide +kernel)) ggX1_isFree_X1_barIndex
theorem dX1_isFree_0 : decode cX1_isFree 0 = .ok (.aload_n 0, 1) := by decide +kernel
theorem dX1_isFree_1 : decode cX1_isFree 1 = .ok (.iload_n 1, 1) := by decide +kernel
theorem dX1_isFree_2 : decode cX1_isFree 2 = .ok (.iload_n 2, 1) := by decide +kernel
theorem dX1_isFree_3 : decode cX1_isFree 3 = .ok (.invokevirtual 127, 3) := by decide +kernel
theorem dX1_isFree_6 : decode cX1_isFree 6 = .ok (.ifCond .ne 5, 3) := by decide +kernel
theorem dX1_isFree_9 : decode cX1_isFree 9 = .ok (.iconst 0, 1) := by decide +kernel
theorem dX1_isFree_10 : decode cX1_isFree 10 = .ok (.ireturn, 1) := by decide +kernel
theorem dX1_isFree_11 : decode cX1_isFree 11 = .ok (.iconst 0, 1) := by decide +kernel
theorem dX1_isFree_12 : decode cX1_isFree 12 = .ok (.istore_n 3, 1) := by decide +kernel
theorem dX1_isFree_13 : decode cX1_isFree 13 = .ok (.iload_n 3, 1) := by decide +kernel
theorem dX1_isFree_14 : decode cX1_isFree 14 = .ok (.bipush 6, 2) := by decide +kernel
theorem dX1_isFree_16 : decode cX1_isFree 16 = .ok (.if_icmp .ge 28, 3) := by decide +kernel
theorem dX1_isFree_19 : decode cX1_isFree 19 = .ok (.aload_n 0, 1) := by decide +kernel
theorem dX1_isFree_20 : decode cX1_isFree 20 = .ok (.getfield 22, 3) := by decide +kernel
theorem dX1_isFree_23 : decode cX1_isFree 23 = .ok (.iload_n 1, 1) := by decide +kernel
theorem dX1_isFree_24 : decode cX1_isFree 24 = .ok (.iload_n 3, 1) := by decide +kernel
theorem dX1_isFree_25 : decode cX1_isFree 25 = .ok (.invokestatic 60, 3) := by decide +kernel
theorem dX1_isFree_28 : decode cX1_isFree 28 = .ok (.iaload, 1) := by decide +kernel
theorem dX1_isFree_29 : decode cX1_isFree 29 = .ok (.iload_n 2, 1) := by decide +kernel
theorem dX1_isFree_30 : decode cX1_isFree 30 = .ok (.iconst (-1), 1) := by decide +kernel
theorem dX1_isFree_31 : decode cX1_isFree 31 = .ok (.ixor, 1) := by decide +kernel
theorem dX1_isFree_32 : decode cX1_isFree 32 = .ok (.iand, 1) := by decide +kernel
theorem dX1_isFree_33 : decode cX1_isFree 33 = .ok (.ifCond .ne 5, 3) := by decide +kernel
theorem dX1_isFree_36 : decode cX1_isFree 36 = .ok (.iconst 1, 1) := by decide +kernel
theorem dX1_isFree_37 : decode cX1_isFree 37 = .ok (.ireturn, 1) := by decide +kernel
theorem dX1_isFree_38 : decode cX1_isFree 38 = .ok (.iinc 3 1, 3) := by decide +kernel
theorem dX1_isFree_41 : decode cX1_isFree 41 = .ok (.goto (-28), 3) := by decide +kernel
theorem dX1_isFree_44 : decode cX1_isFree 44 = .ok (.iconst 0, 1) := by decide +kernel
theorem dX1_isFree_45 : decode cX1_isFree 45 = .ok (.ireturn, 1) := by decide +kernel
set_option maxRecDepth 20000 in
theorem ggX1_comingOff_X1_isFree : GoodIn wsX1_comingOff wsX1_isFree := goodIn_r _ [6, 7, 8, 9, 10, 5, 11, 12, 13, 14, 15, 16, 1, 17, 18, 19, 20, 21, 22, 23, 24, 25, 26, 27, 28, 29, 30, 31, 32, 33, 34] (by decide +kernel) (by decide +kernel)
set_option maxRecDepth 20000 in
theorem gX1_comingOff_X1_isFree : GoodIn wsX1_comingOff (wsV RX1 130 RX1 yX1_isFree wsX1_isFree) := goodIn_app (goodIn_of _ (by decide +kernel)) ggX1_comingOff_X1_isFree
theorem dX1_comingOff_0 : decode cX1_comingOff 0 = .ok (.iconst 0, 1) := by decide +kernel
theorem dX1_comingOff_1 : decode cX1_comingOff 1 = .ok (.istore_n 2, 1) := by decide +kernel
theorem dX1_comingOff_2 : decode cX1_comingOff 2 = .ok (.iconst 0, 1) := by decide +kernel
theorem dX1_comingOff_3 : decode cX1_comingOff 3 = .ok (.istore_n 3, 1) := by decide +kernel
theorem dX1_comingOff_4 : decode cX1_comingOff 4 = .ok (.iload_n 3, 1) := by decide +kernel
theorem dX1_comingOff_5 : decode cX1_comingOff 5 = .ok (.bipush 10, 2) := by decide +kernel
theorem dX1_comingOff_7 : decode cX1_comingOff 7 = .ok (.if_icmp .ge 62, 3) := by decide +kernel
theorem dX1_comingOff_10 : decode cX1_comingOff 10 = .ok (.iload_n 2, 1) := by decide +kernel
theorem dX1_comingOff_11 : decode cX1_comingOff 11 = .ok (.istore 4, 2) := by decide +kernel
theorem dX1_comingOff_13 : decode cX1_comingOff 13 = .ok (.iconst 0, 1) := by decide +kernel
theorem dX1_comingOff_14 : decode cX1_comingOff 14 = .ok (.istore 5, 2) := by decide +kernel
theorem dX1_comingOff_16 : decode cX1_comingOff 16 = .ok (.iload 5, 2) := by decide +kernel
theorem dX1_comingOff_18 : decode cX1_comingOff 18 = .ok (.aload_n 0, 1) := by decide +kernel
theorem dX1_comingOff_19 : decode cX1_comingOff 19 = .ok (.getfield 43, 3) := by decide +kernel
theorem dX1_comingOff_22 : decode cX1_comingOff 22 = .ok (.if_icmp .ge 32, 3) := by decide +kernel
theorem dX1_comingOff_25 : decode cX1_comingOff 25 = .ok (.iload 5, 2) := by decide +kernel
theorem dX1_comingOff_27 : decode cX1_comingOff 27 = .ok (.iload_n 1, 1) := by decide +kernel
theorem dX1_comingOff_28 : decode cX1_comingOff 28 = .ok (.if_icmp .eq 20, 3) := by decide +kernel
theorem dX1_comingOff_31 : decode cX1_comingOff 31 = .ok (.aload_n 0, 1) := by decide +kernel
theorem dX1_comingOff_32 : decode cX1_comingOff 32 = .ok (.iload 5, 2) := by decide +kernel
theorem dX1_comingOff_34 : decode cX1_comingOff 34 = .ok (.iload_n 2, 1) := by decide +kernel
theorem dX1_comingOff_35 : decode cX1_comingOff 35 = .ok (.invokevirtual 130, 3) := by decide +kernel
theorem dX1_comingOff_38 : decode cX1_comingOff 38 = .ok (.ifCond .eq 10, 3) := by decide +kernel
theorem dX1_comingOff_41 : decode cX1_comingOff 41 = .ok (.iload_n 2, 1) := by decide +kernel
theorem dX1_comingOff_42 : decode cX1_comingOff 42 = .ok (.iconst 1, 1) := by decide +kernel
theorem dX1_comingOff_43 : decode cX1_comingOff 43 = .ok (.iload 5, 2) := by decide +kernel
theorem dX1_comingOff_45 : decode cX1_comingOff 45 = .ok (.ishl, 1) := by decide +kernel
theorem dX1_comingOff_46 : decode cX1_comingOff 46 = .ok (.ior, 1) := by decide +kernel
theorem dX1_comingOff_47 : decode cX1_comingOff 47 = .ok (.istore_n 2, 1) := by decide +kernel
theorem dX1_comingOff_48 : decode cX1_comingOff 48 = .ok (.iinc 5 1, 3) := by decide +kernel
theorem dX1_comingOff_51 : decode cX1_comingOff 51 = .ok (.goto (-35), 3) := by decide +kernel
theorem dX1_comingOff_54 : decode cX1_comingOff 54 = .ok (.iload_n 2, 1) := by decide +kernel
theorem dX1_comingOff_55 : decode cX1_comingOff 55 = .ok (.iload 4, 2) := by decide +kernel
theorem dX1_comingOff_57 : decode cX1_comingOff 57 = .ok (.if_icmp .ne 6, 3) := by decide +kernel
theorem dX1_comingOff_60 : decode cX1_comingOff 60 = .ok (.goto 9, 3) := by decide +kernel
theorem dX1_comingOff_63 : decode cX1_comingOff 63 = .ok (.iinc 3 1, 3) := by decide +kernel
theorem dX1_comingOff_66 : decode cX1_comingOff 66 = .ok (.goto (-62), 3) := by decide +kernel
theorem dX1_comingOff_69 : decode cX1_comingOff 69 = .ok (.iload_n 2, 1) := by decide +kernel
theorem dX1_comingOff_70 : decode cX1_comingOff 70 = .ok (.ireturn, 1) := by decide +kernel
set_option maxRecDepth 20000 in
theorem ggX1_neverComingOff_X1_comingOff : GoodIn wsX1_neverComingOff wsX1_comingOff := goodIn_r _ [6, 1, 7, 8, 9, 5, 10, 11, 12, 13, 14, 15, 16, 17, 18, 19, 20, 21, 22, 23, 24, 25, 26, 27, 28, 29, 30, 31, 32, 33, 34, 35, 36, 37, 38] (by decide +kernel) (by decide +kernel)
set_option maxRecDepth 20000 in
theorem gX1_neverComingOff_X1_comingOff : GoodIn wsX1_neverComingOff (wsV RX1 133 RX1 yX1_comingOff wsX1_comingOff) := goodIn_app (goodIn_of _ (by decide +kernel)) ggX1_neverComingOff_X1_comingOff
theorem dX1_neverComingOff_0 : decode cX1_neverComingOff 0 = .ok (.iconst 1, 1) := by decide +kernel
theorem dX1_neverComingOff_1 : decode cX1_neverComingOff 1 = .ok (.aload_n 0, 1) := by decide +kernel
theorem dX1_neverComingOff_2 : decode cX1_neverComingOff 2 = .ok (.getfield 43, 3) := by decide +kernel
theorem dX1_neverComingOff_5 : decode cX1_neverComingOff 5 = .ok (.ishl, 1) := by decide +kernel
theorem dX1_neverComingOff_6 : decode cX1_neverComingOff 6 = .ok (.iconst 1, 1) := by decide +kernel
theorem dX1_neverComingOff_7 : decode cX1_neverComingOff 7 = .ok (.isub, 1) := by decide +kernel
theorem dX1_neverComingOff_8 : decode cX1_neverComingOff 8 = .ok (.aload_n 0, 1) := by decide +kernel
theorem dX1_neverComingOff_9 : decode cX1_neverComingOff 9 = .ok (.iconst (-1), 1) := by decide +kernel
theorem dX1_neverComingOff_10 : decode cX1_neverComingOff 10 = .ok (.invokevirtual 133, 3) := by decide +kernel
theorem dX1_neverComingOff_13 : decode cX1_neverComingOff 13 = .ok (.iconst (-1), 1) := by decide +kernel
theorem dX1_neverComingOff_14 : decode cX1_neverComingOff 14 = .ok (.ixor, 1) := by decide +kernel
theorem dX1_neverComingOff_15 : decode cX1_neverComingOff 15 = .ok (.iand, 1) := by decide +kernel
theorem dX1_neverComingOff_16 : decode cX1_neverComingOff 16 = .ok (.ireturn, 1) := by decide +kernel
set_option maxRecDepth 20000 in
theorem ggX1_mustComeOffBefore_X1_hasPart : GoodIn wsX1_mustComeOffBefore wsX1_hasPart := goodIn_r _ [6, 1, 27, 28, 29, 30, 31, 32, 33, 34, 35, 36, 37, 38] (by decide +kernel) (by decide +kernel)
set_option maxRecDepth 20000 in
theorem gX1_mustComeOffBefore_X1_hasPart : GoodIn wsX1_mustComeOffBefore (wsV RX1 80 RX1 yX1_hasPart wsX1_hasPart) := goodIn_app (goodIn_of _ (by decide +kernel)) ggX1_mustComeOffBefore_X1_hasPart
set_option maxRecDepth 20000 in
theorem ggX1_mustComeOffBefore_X1_comingOff : GoodIn wsX1_mustComeOffBefore wsX1_comingOff := goodIn_r _ [10, 1, 11, 12, 13, 5, 14, 15, 16, 17, 18, 19, 20, 2, 3, 4, 6, 21, 22, 23, 24, 25, 26, 27, 28, 29, 30, 31, 32, 33, 34, 35, 36, 37, 38] (by decide +kernel) (by decide +kernel)
set_option maxRecDepth 20000 in
theorem gX1_mustComeOffBefore_X1_comingOff : GoodIn wsX1_mustComeOffBefore (wsV RX1 133 RX1 yX1_comingOff wsX1_comingOff) := goodIn_app (goodIn_of _ (by decide +kernel)) ggX1_mustComeOffBefore_X1_comingOff
set_option maxRecDepth 20000 in
theorem ggX1_mustComeOffBefore_X5_contains : GoodIn wsX1_mustComeOffBefore wsX5_contains := goodIn_r _ [23] (by decide +kernel) (by decide +kernel)
set_option maxRecDepth 20000 in
theorem gX1_mustComeOffBefore_X5_contains_n71 : GoodIn wsX1_mustComeOffBefore (wsX5_contains) := ggX1_mustComeOffBefore_X5_contains
theorem dX1_mustComeOffBefore_0 : decode cX1_mustComeOffBefore 0 = .ok (.iconst 0, 1) := by decide +kernel
theorem dX1_mustComeOffBefore_1 : decode cX1_mustComeOffBefore 1 = .ok (.istore_n 2, 1) := by decide +kernel
theorem dX1_mustComeOffBefore_2 : decode cX1_mustComeOffBefore 2 = .ok (.aload_n 0, 1) := by decide +kernel
theorem dX1_mustComeOffBefore_3 : decode cX1_mustComeOffBefore 3 = .ok (.iload_n 1, 1) := by decide +kernel
theorem dX1_mustComeOffBefore_4 : decode cX1_mustComeOffBefore 4 = .ok (.invokevirtual 80, 3) := by decide +kernel
theorem dX1_mustComeOffBefore_7 : decode cX1_mustComeOffBefore 7 = .ok (.ifCond .eq 15, 3) := by decide +kernel
theorem dX1_mustComeOffBefore_10 : decode cX1_mustComeOffBefore 10 = .ok (.aload_n 0, 1) := by decide +kernel
theorem dX1_mustComeOffBefore_11 : decode cX1_mustComeOffBefore 11 = .ok (.iconst (-1), 1) := by decide +kernel
theorem dX1_mustComeOffBefore_12 : decode cX1_mustComeOffBefore 12 = .ok (.invokevirtual 133, 3) := by decide +kernel
theorem dX1_mustComeOffBefore_15 : decode cX1_mustComeOffBefore 15 = .ok (.iload_n 1, 1) := by decide +kernel
theorem dX1_mustComeOffBefore_16 : decode cX1_mustComeOffBefore 16 = .ok (.invokestatic 71, 3) := by decide +kernel
theorem dX1_mustComeOffBefore_19 : decode cX1_mustComeOffBefore 19 = .ok (.ifCond .ne 5, 3) := by decide +kernel
theorem dX1_mustComeOffBefore_22 : decode cX1_mustComeOffBefore 22 = .ok (.iload_n 2, 1) := by decide +kernel
theorem dX1_mustComeOffBefore_23 : decode cX1_mustComeOffBefore 23 = .ok (.ireturn, 1) := by decide +kernel
theorem dX1_mustComeOffBefore_24 : decode cX1_mustComeOffBefore 24 = .ok (.iconst 0, 1) := by decide +kernel
theorem dX1_mustComeOffBefore_25 : decode cX1_mustComeOffBefore 25 = .ok (.istore_n 3, 1) := by decide +kernel
theorem dX1_mustComeOffBefore_26 : decode cX1_mustComeOffBefore 26 = .ok (.iload_n 3, 1) := by decide +kernel
theorem dX1_mustComeOffBefore_27 : decode cX1_mustComeOffBefore 27 = .ok (.aload_n 0, 1) := by decide +kernel
theorem dX1_mustComeOffBefore_28 : decode cX1_mustComeOffBefore 28 = .ok (.getfield 43, 3) := by decide +kernel
theorem dX1_mustComeOffBefore_31 : decode cX1_mustComeOffBefore 31 = .ok (.if_icmp .ge 32, 3) := by decide +kernel
theorem dX1_mustComeOffBefore_34 : decode cX1_mustComeOffBefore 34 = .ok (.iload_n 3, 1) := by decide +kernel
theorem dX1_mustComeOffBefore_35 : decode cX1_mustComeOffBefore 35 = .ok (.iload_n 1, 1) := by decide +kernel
theorem dX1_mustComeOffBefore_36 : decode cX1_mustComeOffBefore 36 = .ok (.if_icmp .eq 21, 3) := by decide +kernel
theorem dX1_mustComeOffBefore_39 : decode cX1_mustComeOffBefore 39 = .ok (.aload_n 0, 1) := by decide +kernel
theorem dX1_mustComeOffBefore_40 : decode cX1_mustComeOffBefore 40 = .ok (.iload_n 3, 1) := by decide +kernel
theorem dX1_mustComeOffBefore_41 : decode cX1_mustComeOffBefore 41 = .ok (.invokevirtual 133, 3) := by decide +kernel
theorem dX1_mustComeOffBefore_44 : decode cX1_mustComeOffBefore 44 = .ok (.iload_n 1, 1) := by decide +kernel
theorem dX1_mustComeOffBefore_45 : decode cX1_mustComeOffBefore 45 = .ok (.invokestatic 71, 3) := by decide +kernel
theorem dX1_mustComeOffBefore_48 : decode cX1_mustComeOffBefore 48 = .ok (.ifCond .ne 9, 3) := by decide +kernel
theorem dX1_mustComeOffBefore_51 : decode cX1_mustComeOffBefore 51 = .ok (.iload_n 2, 1) := by decide +kernel
theorem dX1_mustComeOffBefore_52 : decode cX1_mustComeOffBefore 52 = .ok (.iconst 1, 1) := by decide +kernel
theorem dX1_mustComeOffBefore_53 : decode cX1_mustComeOffBefore 53 = .ok (.iload_n 3, 1) := by decide +kernel
theorem dX1_mustComeOffBefore_54 : decode cX1_mustComeOffBefore 54 = .ok (.ishl, 1) := by decide +kernel
theorem dX1_mustComeOffBefore_55 : decode cX1_mustComeOffBefore 55 = .ok (.ior, 1) := by decide +kernel
theorem dX1_mustComeOffBefore_56 : decode cX1_mustComeOffBefore 56 = .ok (.istore_n 2, 1) := by decide +kernel
theorem dX1_mustComeOffBefore_57 : decode cX1_mustComeOffBefore 57 = .ok (.iinc 3 1, 3) := by decide +kernel
theorem dX1_mustComeOffBefore_60 : decode cX1_mustComeOffBefore 60 = .ok (.goto (-34), 3) := by decide +kernel
theorem dX1_mustComeOffBefore_63 : decode cX1_mustComeOffBefore 63 = .ok (.iload_n 2, 1) := by decide +kernel
theorem dX1_mustComeOffBefore_64 : decode cX1_mustComeOffBefore 64 = .ok (.ireturn, 1) := by decide +kernel
theorem dX1_membersOf_0 : decode cX1_membersOf 0 = .ok (.iconst 0, 1) := by decide +kernel
theorem dX1_membersOf_1 : decode cX1_membersOf 1 = .ok (.istore_n 2, 1) := by decide +kernel
theorem dX1_membersOf_2 : decode cX1_membersOf 2 = .ok (.iconst 0, 1) := by decide +kernel
theorem dX1_membersOf_3 : decode cX1_membersOf 3 = .ok (.istore_n 3, 1) := by decide +kernel
theorem dX1_membersOf_4 : decode cX1_membersOf 4 = .ok (.iload_n 3, 1) := by decide +kernel
theorem dX1_membersOf_5 : decode cX1_membersOf 5 = .ok (.aload_n 0, 1) := by decide +kernel
theorem dX1_membersOf_6 : decode cX1_membersOf 6 = .ok (.getfield 43, 3) := by decide +kernel
theorem dX1_membersOf_9 : decode cX1_membersOf 9 = .ok (.if_icmp .ge 25, 3) := by decide +kernel
theorem dX1_membersOf_12 : decode cX1_membersOf 12 = .ok (.aload_n 0, 1) := by decide +kernel
theorem dX1_membersOf_13 : decode cX1_membersOf 13 = .ok (.getfield 28, 3) := by decide +kernel
theorem dX1_membersOf_16 : decode cX1_membersOf 16 = .ok (.iload_n 3, 1) := by decide +kernel
theorem dX1_membersOf_17 : decode cX1_membersOf 17 = .ok (.iaload, 1) := by decide +kernel
theorem dX1_membersOf_18 : decode cX1_membersOf 18 = .ok (.iload_n 1, 1) := by decide +kernel
theorem dX1_membersOf_19 : decode cX1_membersOf 19 = .ok (.if_icmp .ne 9, 3) := by decide +kernel
theorem dX1_membersOf_22 : decode cX1_membersOf 22 = .ok (.iload_n 2, 1) := by decide +kernel
theorem dX1_membersOf_23 : decode cX1_membersOf 23 = .ok (.iconst 1, 1) := by decide +kernel
theorem dX1_membersOf_24 : decode cX1_membersOf 24 = .ok (.iload_n 3, 1) := by decide +kernel
theorem dX1_membersOf_25 : decode cX1_membersOf 25 = .ok (.ishl, 1) := by decide +kernel
theorem dX1_membersOf_26 : decode cX1_membersOf 26 = .ok (.ior, 1) := by decide +kernel
theorem dX1_membersOf_27 : decode cX1_membersOf 27 = .ok (.istore_n 2, 1) := by decide +kernel
theorem dX1_membersOf_28 : decode cX1_membersOf 28 = .ok (.iinc 3 1, 3) := by decide +kernel
theorem dX1_membersOf_31 : decode cX1_membersOf 31 = .ok (.goto (-27), 3) := by decide +kernel
theorem dX1_membersOf_34 : decode cX1_membersOf 34 = .ok (.iload_n 2, 1) := by decide +kernel
theorem dX1_membersOf_35 : decode cX1_membersOf 35 = .ok (.ireturn, 1) := by decide +kernel
set_option maxRecDepth 20000 in
theorem ggX1_variant_X1_membersOf : GoodIn wsX1_variant wsX1_membersOf := goodIn_r _ [5, 6, 7, 21, 22, 23, 24, 25, 26, 27, 28, 29, 30, 31, 32] (by decide +kernel) (by decide +kernel)
set_option maxRecDepth 20000 in
theorem gX1_variant_X1_membersOf : GoodIn wsX1_variant (wsV RX1 137 RX1 yX1_membersOf wsX1_membersOf) := goodIn_app (goodIn_of _ (by decide +kernel)) ggX1_variant_X1_membersOf
set_option maxRecDepth 20000 in
theorem ggX1_variant_J6_bitCount_0f7a4 : GoodIn wsX1_variant wsJ6_bitCount_0f7a4 := goodIn_r _ [11, 12, 13, 14] (by decide +kernel) (by decide +kernel)
set_option maxRecDepth 20000 in
theorem gX1_variant_J6_bitCount_0f7a4 : GoodIn wsX1_variant (va_wsS RX1 140 yJ6_bitCount_0f7a4 wsJ6_bitCount_0f7a4) := goodIn_app (goodIn_of _ (by decide +kernel)) ggX1_variant_J6_bitCount_0f7a4
set_option maxRecDepth 20000 in
theorem ggX1_variant_X5_memberOf : GoodIn wsX1_variant wsX5_memberOf := goodIn_r _ [17, 18, 19, 16, 20] (by decide +kernel) (by decide +kernel)
set_option maxRecDepth 20000 in
theorem gX1_variant_X5_memberOf_n145 : GoodIn wsX1_variant (wsX5_memberOf) := ggX1_variant_X5_memberOf
theorem dX1_variant_0 : decode cX1_variant 0 = .ok (.iload_n 1, 1) := by decide +kernel
theorem dX1_variant_1 : decode cX1_variant 1 = .ok (.ifCond .ge 5, 3) := by decide +kernel
theorem dX1_variant_4 : decode cX1_variant 4 = .ok (.iconst 0, 1) := by decide +kernel
theorem dX1_variant_5 : decode cX1_variant 5 = .ok (.ireturn, 1) := by decide +kernel
theorem dX1_variant_6 : decode cX1_variant 6 = .ok (.aload_n 0, 1) := by decide +kernel
theorem dX1_variant_7 : decode cX1_variant 7 = .ok (.iconst (-1), 1) := by decide +kernel
theorem dX1_variant_8 : decode cX1_variant 8 = .ok (.invokevirtual 137, 3) := by decide +kernel
theorem dX1_variant_11 : decode cX1_variant 11 = .ok (.istore_n 2, 1) := by decide +kernel
theorem dX1_variant_12 : decode cX1_variant 12 = .ok (.iload_n 1, 1) := by decide +kernel
theorem dX1_variant_13 : decode cX1_variant 13 = .ok (.istore_n 3, 1) := by decide +kernel
theorem dX1_variant_14 : decode cX1_variant 14 = .ok (.iconst 3, 1) := by decide +kernel
theorem dX1_variant_15 : decode cX1_variant 15 = .ok (.istore 4, 2) := by decide +kernel
theorem dX1_variant_17 : decode cX1_variant 17 = .ok (.iload 4, 2) := by decide +kernel
theorem dX1_variant_19 : decode cX1_variant 19 = .ok (.ifCond .lt 48, 3) := by decide +kernel
theorem dX1_variant_22 : decode cX1_variant 22 = .ok (.aload_n 0, 1) := by decide +kernel
theorem dX1_variant_23 : decode cX1_variant 23 = .ok (.iload 4, 2) := by decide +kernel
theorem dX1_variant_25 : decode cX1_variant 25 = .ok (.invokevirtual 137, 3) := by decide +kernel
theorem dX1_variant_28 : decode cX1_variant 28 = .ok (.istore 5, 2) := by decide +kernel
theorem dX1_variant_30 : decode cX1_variant 30 = .ok (.iload 5, 2) := by decide +kernel
theorem dX1_variant_32 : decode cX1_variant 32 = .ok (.invokestatic 140, 3) := by decide +kernel
theorem dX1_variant_35 : decode cX1_variant 35 = .ok (.istore 6, 2) := by decide +kernel
theorem dX1_variant_37 : decode cX1_variant 37 = .ok (.iload 6, 2) := by decide +kernel
theorem dX1_variant_39 : decode cX1_variant 39 = .ok (.ifCond .le 22, 3) := by decide +kernel
theorem dX1_variant_42 : decode cX1_variant 42 = .ok (.iload_n 2, 1) := by decide +kernel
theorem dX1_variant_43 : decode cX1_variant 43 = .ok (.iconst 1, 1) := by decide +kernel
theorem dX1_variant_44 : decode cX1_variant 44 = .ok (.iload 5, 2) := by decide +kernel
theorem dX1_variant_46 : decode cX1_variant 46 = .ok (.iload_n 3, 1) := by decide +kernel
theorem dX1_variant_47 : decode cX1_variant 47 = .ok (.iload 6, 2) := by decide +kernel
theorem dX1_variant_49 : decode cX1_variant 49 = .ok (.irem, 1) := by decide +kernel
theorem dX1_variant_50 : decode cX1_variant 50 = .ok (.invokestatic 145, 3) := by decide +kernel
theorem dX1_variant_53 : decode cX1_variant 53 = .ok (.ishl, 1) := by decide +kernel
theorem dX1_variant_54 : decode cX1_variant 54 = .ok (.ior, 1) := by decide +kernel
theorem dX1_variant_55 : decode cX1_variant 55 = .ok (.istore_n 2, 1) := by decide +kernel
theorem dX1_variant_56 : decode cX1_variant 56 = .ok (.iload_n 3, 1) := by decide +kernel
theorem dX1_variant_57 : decode cX1_variant 57 = .ok (.iload 6, 2) := by decide +kernel
theorem dX1_variant_59 : decode cX1_variant 59 = .ok (.idiv, 1) := by decide +kernel
theorem dX1_variant_60 : decode cX1_variant 60 = .ok (.istore_n 3, 1) := by decide +kernel
theorem dX1_variant_61 : decode cX1_variant 61 = .ok (.iinc 4 (-1), 3) := by decide +kernel
theorem dX1_variant_64 : decode cX1_variant 64 = .ok (.goto (-47), 3) := by decide +kernel
theorem dX1_variant_67 : decode cX1_variant 67 = .ok (.iload_n 3, 1) := by decide +kernel
theorem dX1_variant_68 : decode cX1_variant 68 = .ok (.ifCond .ne 7, 3) := by decide +kernel
theorem dX1_variant_71 : decode cX1_variant 71 = .ok (.iload_n 2, 1) := by decide +kernel
theorem dX1_variant_72 : decode cX1_variant 72 = .ok (.goto 4, 3) := by decide +kernel
theorem dX1_variant_75 : decode cX1_variant 75 = .ok (.iconst 0, 1) := by decide +kernel
theorem dX1_variant_76 : decode cX1_variant 76 = .ok (.ireturn, 1) := by decide +kernel
set_option maxRecDepth 20000 in
theorem ggX1_piece_X1_hasPart : GoodIn wsX1_piece wsX1_hasPart := goodIn_r _ [8, 9, 13, 14, 15, 16, 17, 18, 19, 20, 21, 22, 23, 24] (by decide +kernel) (by decide +kernel)
set_option maxRecDepth 20000 in
theorem gX1_piece_X1_hasPart : GoodIn wsX1_piece (wsV RX1 80 RX1 yX1_hasPart wsX1_hasPart) := goodIn_app (goodIn_of _ (by decide +kernel)) ggX1_piece_X1_hasPart
set_option maxRecDepth 20000 in
theorem ggX1_piece_X5_contains : GoodIn wsX1_piece wsX5_contains := goodIn_r _ [12] (by decide +kernel) (by decide +kernel)
set_option maxRecDepth 20000 in
theorem gX1_piece_X5_contains_n71 : GoodIn wsX1_piece (wsX5_contains) := ggX1_piece_X5_contains
theorem dX1_piece_0 : decode cX1_piece 0 = .ok (.aload_n 0, 1) := by decide +kernel
theorem dX1_piece_1 : decode cX1_piece 1 = .ok (.iload_n 1, 1) := by decide +kernel
theorem dX1_piece_2 : decode cX1_piece 2 = .ok (.invokevirtual 80, 3) := by decide +kernel
theorem dX1_piece_5 : decode cX1_piece 5 = .ok (.ifCond .eq 11, 3) := by decide +kernel
theorem dX1_piece_8 : decode cX1_piece 8 = .ok (.iload_n 2, 1) := by decide +kernel
theorem dX1_piece_9 : decode cX1_piece 9 = .ok (.iload_n 1, 1) := by decide +kernel
theorem dX1_piece_10 : decode cX1_piece 10 = .ok (.invokestatic 71, 3) := by decide +kernel
theorem dX1_piece_13 : decode cX1_piece 13 = .ok (.ifCond .eq 5, 3) := by decide +kernel
theorem dX1_piece_16 : decode cX1_piece 16 = .ok (.iconst 0, 1) := by decide +kernel
theorem dX1_piece_17 : decode cX1_piece 17 = .ok (.ireturn, 1) := by decide +kernel
theorem dX1_piece_18 : decode cX1_piece 18 = .ok (.iconst 1, 1) := by decide +kernel
theorem dX1_piece_19 : decode cX1_piece 19 = .ok (.iload_n 1, 1) := by decide +kernel
theorem dX1_piece_20 : decode cX1_piece 20 = .ok (.ishl, 1) := by decide +kernel
theorem dX1_piece_21 : decode cX1_piece 21 = .ok (.istore_n 3, 1) := by decide +kernel
theorem dX1_piece_22 : decode cX1_piece 22 = .ok (.iconst 0, 1) := by decide +kernel
theorem dX1_piece_23 : decode cX1_piece 23 = .ok (.istore 4, 2) := by decide +kernel
theorem dX1_piece_25 : decode cX1_piece 25 = .ok (.iload 4, 2) := by decide +kernel
theorem dX1_piece_27 : decode cX1_piece 27 = .ok (.bipush 10, 2) := by decide +kernel
theorem dX1_piece_29 : decode cX1_piece 29 = .ok (.if_icmp .ge 79, 3) := by decide +kernel
theorem dX1_piece_32 : decode cX1_piece 32 = .ok (.iload_n 3, 1) := by decide +kernel
theorem dX1_piece_33 : decode cX1_piece 33 = .ok (.istore 5, 2) := by decide +kernel
theorem dX1_piece_35 : decode cX1_piece 35 = .ok (.iconst 0, 1) := by decide +kernel
theorem dX1_piece_36 : decode cX1_piece 36 = .ok (.istore 6, 2) := by decide +kernel
theorem dX1_piece_38 : decode cX1_piece 38 = .ok (.iload 6, 2) := by decide +kernel
theorem dX1_piece_40 : decode cX1_piece 40 = .ok (.aload_n 0, 1) := by decide +kernel
theorem dX1_piece_41 : decode cX1_piece 41 = .ok (.getfield 47, 3) := by decide +kernel
theorem dX1_piece_44 : decode cX1_piece 44 = .ok (.if_icmp .ge 49, 3) := by decide +kernel
theorem dX1_piece_47 : decode cX1_piece 47 = .ok (.iconst 1, 1) := by decide +kernel
theorem dX1_piece_48 : decode cX1_piece 48 = .ok (.aload_n 0, 1) := by decide +kernel
theorem dX1_piece_49 : decode cX1_piece 49 = .ok (.getfield 34, 3) := by decide +kernel
theorem dX1_piece_52 : decode cX1_piece 52 = .ok (.iload 6, 2) := by decide +kernel
theorem dX1_piece_54 : decode cX1_piece 54 = .ok (.iaload, 1) := by decide +kernel
theorem dX1_piece_55 : decode cX1_piece 55 = .ok (.ishl, 1) := by decide +kernel
theorem dX1_piece_56 : decode cX1_piece 56 = .ok (.iconst 1, 1) := by decide +kernel
theorem dX1_piece_57 : decode cX1_piece 57 = .ok (.aload_n 0, 1) := by decide +kernel
theorem dX1_piece_58 : decode cX1_piece 58 = .ok (.getfield 37, 3) := by decide +kernel
theorem dX1_piece_61 : decode cX1_piece 61 = .ok (.iload 6, 2) := by decide +kernel
theorem dX1_piece_63 : decode cX1_piece 63 = .ok (.iaload, 1) := by decide +kernel
theorem dX1_piece_64 : decode cX1_piece 64 = .ok (.ishl, 1) := by decide +kernel
theorem dX1_piece_65 : decode cX1_piece 65 = .ok (.ior, 1) := by decide +kernel
theorem dX1_piece_66 : decode cX1_piece 66 = .ok (.istore 7, 2) := by decide +kernel
theorem dX1_piece_68 : decode cX1_piece 68 = .ok (.iload 7, 2) := by decide +kernel
theorem dX1_piece_70 : decode cX1_piece 70 = .ok (.iload_n 2, 1) := by decide +kernel
theorem dX1_piece_71 : decode cX1_piece 71 = .ok (.iand, 1) := by decide +kernel
theorem dX1_piece_72 : decode cX1_piece 72 = .ok (.ifCond .ne 15, 3) := by decide +kernel
theorem dX1_piece_75 : decode cX1_piece 75 = .ok (.iload 7, 2) := by decide +kernel
theorem dX1_piece_77 : decode cX1_piece 77 = .ok (.iload_n 3, 1) := by decide +kernel
theorem dX1_piece_78 : decode cX1_piece 78 = .ok (.iand, 1) := by decide +kernel
theorem dX1_piece_79 : decode cX1_piece 79 = .ok (.ifCond .eq 8, 3) := by decide +kernel
theorem dX1_piece_82 : decode cX1_piece 82 = .ok (.iload_n 3, 1) := by decide +kernel
theorem dX1_piece_83 : decode cX1_piece 83 = .ok (.iload 7, 2) := by decide +kernel
theorem dX1_piece_85 : decode cX1_piece 85 = .ok (.ior, 1) := by decide +kernel
theorem dX1_piece_86 : decode cX1_piece 86 = .ok (.istore_n 3, 1) := by decide +kernel
theorem dX1_piece_87 : decode cX1_piece 87 = .ok (.iinc 6 1, 3) := by decide +kernel
theorem dX1_piece_90 : decode cX1_piece 90 = .ok (.goto (-52), 3) := by decide +kernel
theorem dX1_piece_93 : decode cX1_piece 93 = .ok (.iload_n 3, 1) := by decide +kernel
theorem dX1_piece_94 : decode cX1_piece 94 = .ok (.iload 5, 2) := by decide +kernel
theorem dX1_piece_96 : decode cX1_piece 96 = .ok (.if_icmp .ne 6, 3) := by decide +kernel
theorem dX1_piece_99 : decode cX1_piece 99 = .ok (.goto 9, 3) := by decide +kernel
theorem dX1_piece_102 : decode cX1_piece 102 = .ok (.iinc 4 1, 3) := by decide +kernel
theorem dX1_piece_105 : decode cX1_piece 105 = .ok (.goto (-80), 3) := by decide +kernel
theorem dX1_piece_108 : decode cX1_piece 108 = .ok (.iload_n 3, 1) := by decide +kernel
theorem dX1_piece_109 : decode cX1_piece 109 = .ok (.ireturn, 1) := by decide +kernel
set_option maxRecDepth 20000 in
theorem ggX1_pieces_X5_contains : GoodIn wsX1_pieces wsX5_contains := goodIn_r _ [4] (by decide +kernel) (by decide +kernel)
set_option maxRecDepth 20000 in
theorem gX1_pieces_X5_contains_n71 : GoodIn wsX1_pieces (wsX5_contains) := ggX1_pieces_X5_contains
set_option maxRecDepth 20000 in
theorem ggX1_pieces_X1_piece : GoodIn wsX1_pieces wsX1_piece := goodIn_r _ [9, 10, 11, 12, 13, 14, 15, 8, 16, 1, 2, 3, 4, 17, 18, 19, 20, 21, 22, 23, 24, 25, 26, 27, 28] (by decide +kernel) (by decide +kernel)
set_option maxRecDepth 20000 in
theorem gX1_pieces_X1_piece : GoodIn wsX1_pieces (wsV RX1 148 RX1 yX1_piece wsX1_piece) := goodIn_app (goodIn_of _ (by decide +kernel)) ggX1_pieces_X1_piece
theorem dX1_pieces_0 : decode cX1_pieces 0 = .ok (.iconst 0, 1) := by decide +kernel
theorem dX1_pieces_1 : decode cX1_pieces 1 = .ok (.istore_n 1, 1) := by decide +kernel
theorem dX1_pieces_2 : decode cX1_pieces 2 = .ok (.iconst 0, 1) := by decide +kernel
theorem dX1_pieces_3 : decode cX1_pieces 3 = .ok (.istore_n 2, 1) := by decide +kernel
theorem dX1_pieces_4 : decode cX1_pieces 4 = .ok (.iconst 0, 1) := by decide +kernel
theorem dX1_pieces_5 : decode cX1_pieces 5 = .ok (.istore_n 3, 1) := by decide +kernel
theorem dX1_pieces_6 : decode cX1_pieces 6 = .ok (.iload_n 3, 1) := by decide +kernel
theorem dX1_pieces_7 : decode cX1_pieces 7 = .ok (.aload_n 0, 1) := by decide +kernel
theorem dX1_pieces_8 : decode cX1_pieces 8 = .ok (.getfield 43, 3) := by decide +kernel
theorem dX1_pieces_11 : decode cX1_pieces 11 = .ok (.if_icmp .ge 29, 3) := by decide +kernel
theorem dX1_pieces_14 : decode cX1_pieces 14 = .ok (.iload_n 2, 1) := by decide +kernel
theorem dX1_pieces_15 : decode cX1_pieces 15 = .ok (.iload_n 3, 1) := by decide +kernel
theorem dX1_pieces_16 : decode cX1_pieces 16 = .ok (.invokestatic 71, 3) := by decide +kernel
theorem dX1_pieces_19 : decode cX1_pieces 19 = .ok (.ifCond .ne 15, 3) := by decide +kernel
theorem dX1_pieces_22 : decode cX1_pieces 22 = .ok (.iload_n 2, 1) := by decide +kernel
theorem dX1_pieces_23 : decode cX1_pieces 23 = .ok (.aload_n 0, 1) := by decide +kernel
theorem dX1_pieces_24 : decode cX1_pieces 24 = .ok (.iload_n 3, 1) := by decide +kernel
theorem dX1_pieces_25 : decode cX1_pieces 25 = .ok (.iconst 0, 1) := by decide +kernel
theorem dX1_pieces_26 : decode cX1_pieces 26 = .ok (.invokevirtual 148, 3) := by decide +kernel
theorem dX1_pieces_29 : decode cX1_pieces 29 = .ok (.ior, 1) := by decide +kernel
theorem dX1_pieces_30 : decode cX1_pieces 30 = .ok (.istore_n 2, 1) := by decide +kernel
theorem dX1_pieces_31 : decode cX1_pieces 31 = .ok (.iinc 1 1, 3) := by decide +kernel
theorem dX1_pieces_34 : decode cX1_pieces 34 = .ok (.iinc 3 1, 3) := by decide +kernel
theorem dX1_pieces_37 : decode cX1_pieces 37 = .ok (.goto (-31), 3) := by decide +kernel
theorem dX1_pieces_40 : decode cX1_pieces 40 = .ok (.iload_n 1, 1) := by decide +kernel
theorem dX1_pieces_41 : decode cX1_pieces 41 = .ok (.ireturn, 1) := by decide +kernel
set_option maxRecDepth 20000 in
theorem ggX1_gramsOf_X5_contains : GoodIn wsX1_gramsOf wsX5_contains := goodIn_r _ [5] (by decide +kernel) (by decide +kernel)
set_option maxRecDepth 20000 in
theorem gX1_gramsOf_X5_contains_n71 : GoodIn wsX1_gramsOf (wsX5_contains) := ggX1_gramsOf_X5_contains
theorem dX1_gramsOf_0 : decode cX1_gramsOf 0 = .ok (.lconst 0, 1) := by decide +kernel
theorem dX1_gramsOf_1 : decode cX1_gramsOf 1 = .ok (.lstore_n 2, 1) := by decide +kernel
theorem dX1_gramsOf_2 : decode cX1_gramsOf 2 = .ok (.iconst 0, 1) := by decide +kernel
theorem dX1_gramsOf_3 : decode cX1_gramsOf 3 = .ok (.istore 4, 2) := by decide +kernel
theorem dX1_gramsOf_5 : decode cX1_gramsOf 5 = .ok (.iload 4, 2) := by decide +kernel
theorem dX1_gramsOf_7 : decode cX1_gramsOf 7 = .ok (.aload_n 0, 1) := by decide +kernel
theorem dX1_gramsOf_8 : decode cX1_gramsOf 8 = .ok (.getfield 43, 3) := by decide +kernel
theorem dX1_gramsOf_11 : decode cX1_gramsOf 11 = .ok (.if_icmp .ge 28, 3) := by decide +kernel
theorem dX1_gramsOf_14 : decode cX1_gramsOf 14 = .ok (.iload_n 1, 1) := by decide +kernel
theorem dX1_gramsOf_15 : decode cX1_gramsOf 15 = .ok (.iload 4, 2) := by decide +kernel
theorem dX1_gramsOf_17 : decode cX1_gramsOf 17 = .ok (.invokestatic 71, 3) := by decide +kernel
theorem dX1_gramsOf_20 : decode cX1_gramsOf 20 = .ok (.ifCond .eq 13, 3) := by decide +kernel
theorem dX1_gramsOf_23 : decode cX1_gramsOf 23 = .ok (.lload_n 2, 1) := by decide +kernel
theorem dX1_gramsOf_24 : decode cX1_gramsOf 24 = .ok (.aload_n 0, 1) := by decide +kernel
theorem dX1_gramsOf_25 : decode cX1_gramsOf 25 = .ok (.getfield 15, 3) := by decide +kernel
theorem dX1_gramsOf_28 : decode cX1_gramsOf 28 = .ok (.iload 4, 2) := by decide +kernel
theorem dX1_gramsOf_30 : decode cX1_gramsOf 30 = .ok (.laload, 1) := by decide +kernel
theorem dX1_gramsOf_31 : decode cX1_gramsOf 31 = .ok (.ladd, 1) := by decide +kernel
theorem dX1_gramsOf_32 : decode cX1_gramsOf 32 = .ok (.lstore_n 2, 1) := by decide +kernel
theorem dX1_gramsOf_33 : decode cX1_gramsOf 33 = .ok (.iinc 4 1, 3) := by decide +kernel
theorem dX1_gramsOf_36 : decode cX1_gramsOf 36 = .ok (.goto (-31), 3) := by decide +kernel
theorem dX1_gramsOf_39 : decode cX1_gramsOf 39 = .ok (.lload_n 2, 1) := by decide +kernel
theorem dX1_gramsOf_40 : decode cX1_gramsOf 40 = .ok (.lreturn, 1) := by decide +kernel
set_option maxRecDepth 20000 in
theorem ggX1_partsLike_X1_hasPart : GoodIn wsX1_partsLike wsX1_hasPart := goodIn_r _ [9, 1, 10, 11, 12, 13, 14, 15, 16, 17, 18, 19, 20, 21] (by decide +kernel) (by decide +kernel)
set_option maxRecDepth 20000 in
theorem gX1_partsLike_X1_hasPart : GoodIn wsX1_partsLike (wsV RX1 80 RX1 yX1_hasPart wsX1_hasPart) := goodIn_app (goodIn_of _ (by decide +kernel)) ggX1_partsLike_X1_hasPart
theorem dX1_partsLike_0 : decode cX1_partsLike 0 = .ok (.iconst 0, 1) := by decide +kernel
theorem dX1_partsLike_1 : decode cX1_partsLike 1 = .ok (.istore_n 2, 1) := by decide +kernel
theorem dX1_partsLike_2 : decode cX1_partsLike 2 = .ok (.aload_n 0, 1) := by decide +kernel
theorem dX1_partsLike_3 : decode cX1_partsLike 3 = .ok (.iload_n 1, 1) := by decide +kernel
theorem dX1_partsLike_4 : decode cX1_partsLike 4 = .ok (.invokevirtual 80, 3) := by decide +kernel
theorem dX1_partsLike_7 : decode cX1_partsLike 7 = .ok (.ifCond .ne 5, 3) := by decide +kernel
theorem dX1_partsLike_10 : decode cX1_partsLike 10 = .ok (.iload_n 2, 1) := by decide +kernel
theorem dX1_partsLike_11 : decode cX1_partsLike 11 = .ok (.ireturn, 1) := by decide +kernel
theorem dX1_partsLike_12 : decode cX1_partsLike 12 = .ok (.iconst 0, 1) := by decide +kernel
theorem dX1_partsLike_13 : decode cX1_partsLike 13 = .ok (.istore_n 3, 1) := by decide +kernel
theorem dX1_partsLike_14 : decode cX1_partsLike 14 = .ok (.iload_n 3, 1) := by decide +kernel
theorem dX1_partsLike_15 : decode cX1_partsLike 15 = .ok (.aload_n 0, 1) := by decide +kernel
theorem dX1_partsLike_16 : decode cX1_partsLike 16 = .ok (.getfield 43, 3) := by decide +kernel
theorem dX1_partsLike_19 : decode cX1_partsLike 19 = .ok (.if_icmp .ge 66, 3) := by decide +kernel
theorem dX1_partsLike_22 : decode cX1_partsLike 22 = .ok (.iload_n 3, 1) := by decide +kernel
theorem dX1_partsLike_23 : decode cX1_partsLike 23 = .ok (.iload_n 1, 1) := by decide +kernel
theorem dX1_partsLike_24 : decode cX1_partsLike 24 = .ok (.if_icmp .eq 55, 3) := by decide +kernel
theorem dX1_partsLike_27 : decode cX1_partsLike 27 = .ok (.aload_n 0, 1) := by decide +kernel
theorem dX1_partsLike_28 : decode cX1_partsLike 28 = .ok (.getfield 9, 3) := by decide +kernel
theorem dX1_partsLike_31 : decode cX1_partsLike 31 = .ok (.iload_n 3, 1) := by decide +kernel
theorem dX1_partsLike_32 : decode cX1_partsLike 32 = .ok (.iaload, 1) := by decide +kernel
theorem dX1_partsLike_33 : decode cX1_partsLike 33 = .ok (.aload_n 0, 1) := by decide +kernel
theorem dX1_partsLike_34 : decode cX1_partsLike 34 = .ok (.getfield 9, 3) := by decide +kernel
theorem dX1_partsLike_37 : decode cX1_partsLike 37 = .ok (.iload_n 1, 1) := by decide +kernel
theorem dX1_partsLike_38 : decode cX1_partsLike 38 = .ok (.iaload, 1) := by decide +kernel
theorem dX1_partsLike_39 : decode cX1_partsLike 39 = .ok (.if_icmp .ne 40, 3) := by decide +kernel
theorem dX1_partsLike_42 : decode cX1_partsLike 42 = .ok (.aload_n 0, 1) := by decide +kernel
theorem dX1_partsLike_43 : decode cX1_partsLike 43 = .ok (.getfield 15, 3) := by decide +kernel
theorem dX1_partsLike_46 : decode cX1_partsLike 46 = .ok (.iload_n 3, 1) := by decide +kernel
theorem dX1_partsLike_47 : decode cX1_partsLike 47 = .ok (.laload, 1) := by decide +kernel
theorem dX1_partsLike_48 : decode cX1_partsLike 48 = .ok (.aload_n 0, 1) := by decide +kernel
theorem dX1_partsLike_49 : decode cX1_partsLike 49 = .ok (.getfield 15, 3) := by decide +kernel
theorem dX1_partsLike_52 : decode cX1_partsLike 52 = .ok (.iload_n 1, 1) := by decide +kernel
theorem dX1_partsLike_53 : decode cX1_partsLike 53 = .ok (.laload, 1) := by decide +kernel
theorem dX1_partsLike_54 : decode cX1_partsLike 54 = .ok (.lcmp, 1) := by decide +kernel
theorem dX1_partsLike_55 : decode cX1_partsLike 55 = .ok (.ifCond .ne 24, 3) := by decide +kernel
theorem dX1_partsLike_58 : decode cX1_partsLike 58 = .ok (.aload_n 0, 1) := by decide +kernel
theorem dX1_partsLike_59 : decode cX1_partsLike 59 = .ok (.getfield 25, 3) := by decide +kernel
theorem dX1_partsLike_62 : decode cX1_partsLike 62 = .ok (.iload_n 3, 1) := by decide +kernel
theorem dX1_partsLike_63 : decode cX1_partsLike 63 = .ok (.iaload, 1) := by decide +kernel
theorem dX1_partsLike_64 : decode cX1_partsLike 64 = .ok (.aload_n 0, 1) := by decide +kernel
theorem dX1_partsLike_65 : decode cX1_partsLike 65 = .ok (.getfield 25, 3) := by decide +kernel
theorem dX1_partsLike_68 : decode cX1_partsLike 68 = .ok (.iload_n 1, 1) := by decide +kernel
theorem dX1_partsLike_69 : decode cX1_partsLike 69 = .ok (.iaload, 1) := by decide +kernel
theorem dX1_partsLike_70 : decode cX1_partsLike 70 = .ok (.if_icmp .ne 9, 3) := by decide +kernel
theorem dX1_partsLike_73 : decode cX1_partsLike 73 = .ok (.iload_n 2, 1) := by decide +kernel
theorem dX1_partsLike_74 : decode cX1_partsLike 74 = .ok (.iconst 1, 1) := by decide +kernel
theorem dX1_partsLike_75 : decode cX1_partsLike 75 = .ok (.iload_n 3, 1) := by decide +kernel
theorem dX1_partsLike_76 : decode cX1_partsLike 76 = .ok (.ishl, 1) := by decide +kernel
theorem dX1_partsLike_77 : decode cX1_partsLike 77 = .ok (.ior, 1) := by decide +kernel
theorem dX1_partsLike_78 : decode cX1_partsLike 78 = .ok (.istore_n 2, 1) := by decide +kernel
theorem dX1_partsLike_79 : decode cX1_partsLike 79 = .ok (.iinc 3 1, 3) := by decide +kernel
theorem dX1_partsLike_82 : decode cX1_partsLike 82 = .ok (.goto (-68), 3) := by decide +kernel
theorem dX1_partsLike_85 : decode cX1_partsLike 85 = .ok (.iload_n 2, 1) := by decide +kernel
theorem dX1_partsLike_86 : decode cX1_partsLike 86 = .ok (.ireturn, 1) := by decide +kernel
set_option maxRecDepth 20000 in
theorem ggX1_coveredBy_X5_contains : GoodIn wsX1_coveredBy wsX5_contains := goodIn_r _ [5] (by decide +kernel) (by decide +kernel)
set_option maxRecDepth 20000 in
theorem gX1_coveredBy_X5_contains_n71 : GoodIn wsX1_coveredBy (wsX5_contains) := ggX1_coveredBy_X5_contains
theorem dX1_coveredBy_0 : decode cX1_coveredBy 0 = .ok (.iconst 0, 1) := by decide +kernel
theorem dX1_coveredBy_1 : decode cX1_coveredBy 1 = .ok (.istore_n 2, 1) := by decide +kernel
theorem dX1_coveredBy_2 : decode cX1_coveredBy 2 = .ok (.iconst 0, 1) := by decide +kernel
theorem dX1_coveredBy_3 : decode cX1_coveredBy 3 = .ok (.istore_n 3, 1) := by decide +kernel
theorem dX1_coveredBy_4 : decode cX1_coveredBy 4 = .ok (.iload_n 3, 1) := by decide +kernel
theorem dX1_coveredBy_5 : decode cX1_coveredBy 5 = .ok (.aload_n 0, 1) := by decide +kernel
theorem dX1_coveredBy_6 : decode cX1_coveredBy 6 = .ok (.getfield 43, 3) := by decide +kernel
theorem dX1_coveredBy_9 : decode cX1_coveredBy 9 = .ok (.if_icmp .ge 28, 3) := by decide +kernel
theorem dX1_coveredBy_12 : decode cX1_coveredBy 12 = .ok (.aload_n 0, 1) := by decide +kernel
theorem dX1_coveredBy_13 : decode cX1_coveredBy 13 = .ok (.getfield 19, 3) := by decide +kernel
theorem dX1_coveredBy_16 : decode cX1_coveredBy 16 = .ok (.iload_n 3, 1) := by decide +kernel
theorem dX1_coveredBy_17 : decode cX1_coveredBy 17 = .ok (.iaload, 1) := by decide +kernel
theorem dX1_coveredBy_18 : decode cX1_coveredBy 18 = .ok (.iload_n 1, 1) := by decide +kernel
theorem dX1_coveredBy_19 : decode cX1_coveredBy 19 = .ok (.invokestatic 71, 3) := by decide +kernel
theorem dX1_coveredBy_22 : decode cX1_coveredBy 22 = .ok (.ifCond .eq 9, 3) := by decide +kernel
theorem dX1_coveredBy_25 : decode cX1_coveredBy 25 = .ok (.iload_n 2, 1) := by decide +kernel
theorem dX1_coveredBy_26 : decode cX1_coveredBy 26 = .ok (.iconst 1, 1) := by decide +kernel
theorem dX1_coveredBy_27 : decode cX1_coveredBy 27 = .ok (.iload_n 3, 1) := by decide +kernel
theorem dX1_coveredBy_28 : decode cX1_coveredBy 28 = .ok (.ishl, 1) := by decide +kernel
theorem dX1_coveredBy_29 : decode cX1_coveredBy 29 = .ok (.ior, 1) := by decide +kernel
theorem dX1_coveredBy_30 : decode cX1_coveredBy 30 = .ok (.istore_n 2, 1) := by decide +kernel
theorem dX1_coveredBy_31 : decode cX1_coveredBy 31 = .ok (.iinc 3 1, 3) := by decide +kernel
theorem dX1_coveredBy_34 : decode cX1_coveredBy 34 = .ok (.goto (-30), 3) := by decide +kernel
theorem dX1_coveredBy_37 : decode cX1_coveredBy 37 = .ok (.iload_n 2, 1) := by decide +kernel
theorem dX1_coveredBy_38 : decode cX1_coveredBy 38 = .ok (.ireturn, 1) := by decide +kernel
