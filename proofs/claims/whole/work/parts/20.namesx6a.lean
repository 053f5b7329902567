set_option maxRecDepth 20000 in
theorem ggX6_init_X6_clear : GoodIn wsX6_init wsX6_clear := goodIn_r _ [23, 5, 11, 9, 10, 13, 14, 15, 24, 25, 26, 27, 28, 29, 30, 31, 32, 33, 34, 35, 36, 37, 38, 39, 40, 41] (by decide +kernel) (by decide +kernel)
set_option maxRecDepth 20000 in
theorem gX6_init_X6_clear : GoodIn wsX6_init (wsV RX6 48 RX6 yX6_clear wsX6_clear) := goodIn_app (goodIn_of _ (by decide +kernel)) ggX6_init_X6_clear
theorem dX6_init_0 : decode cX6_init 0 = .ok (.aload_n 0, 1) := by decide +kernel
theorem dX6_init_1 : decode cX6_init 1 = .ok (.invokespecial 1, 3) := by decide +kernel
theorem dX6_init_4 : decode cX6_init 4 = .ok (.aload_n 0, 1) := by decide +kernel
theorem dX6_init_5 : decode cX6_init 5 = .ok (.iconst 2, 1) := by decide +kernel
theorem dX6_init_6 : decode cX6_init 6 = .ok (.newarray .int, 2) := by decide +kernel
theorem dX6_init_8 : decode cX6_init 8 = .ok (.putfield 7, 3) := by decide +kernel
theorem dX6_init_11 : decode cX6_init 11 = .ok (.aload_n 0, 1) := by decide +kernel
theorem dX6_init_12 : decode cX6_init 12 = .ok (.bipush 20, 2) := by decide +kernel
theorem dX6_init_14 : decode cX6_init 14 = .ok (.newarray .int, 2) := by decide +kernel
theorem dX6_init_16 : decode cX6_init 16 = .ok (.putfield 13, 3) := by decide +kernel
theorem dX6_init_19 : decode cX6_init 19 = .ok (.aload_n 0, 1) := by decide +kernel
theorem dX6_init_20 : decode cX6_init 20 = .ok (.bipush 20, 2) := by decide +kernel
theorem dX6_init_22 : decode cX6_init 22 = .ok (.newarray .int, 2) := by decide +kernel
theorem dX6_init_24 : decode cX6_init 24 = .ok (.putfield 16, 3) := by decide +kernel
theorem dX6_init_27 : decode cX6_init 27 = .ok (.aload_n 0, 1) := by decide +kernel
theorem dX6_init_28 : decode cX6_init 28 = .ok (.sipush 200, 3) := by decide +kernel
theorem dX6_init_31 : decode cX6_init 31 = .ok (.newarray .boolean, 2) := by decide +kernel
theorem dX6_init_33 : decode cX6_init 33 = .ok (.putfield 19, 3) := by decide +kernel
theorem dX6_init_36 : decode cX6_init 36 = .ok (.aload_n 0, 1) := by decide +kernel
theorem dX6_init_37 : decode cX6_init 37 = .ok (.sipush 1200, 3) := by decide +kernel
theorem dX6_init_40 : decode cX6_init 40 = .ok (.newarray .boolean, 2) := by decide +kernel
theorem dX6_init_42 : decode cX6_init 42 = .ok (.putfield 23, 3) := by decide +kernel
theorem dX6_init_45 : decode cX6_init 45 = .ok (.aload_n 0, 1) := by decide +kernel
theorem dX6_init_46 : decode cX6_init 46 = .ok (.iconst 2, 1) := by decide +kernel
theorem dX6_init_47 : decode cX6_init 47 = .ok (.newarray .int, 2) := by decide +kernel
theorem dX6_init_49 : decode cX6_init 49 = .ok (.putfield 26, 3) := by decide +kernel
theorem dX6_init_52 : decode cX6_init 52 = .ok (.aload_n 0, 1) := by decide +kernel
theorem dX6_init_53 : decode cX6_init 53 = .ok (.bipush 120, 2) := by decide +kernel
theorem dX6_init_55 : decode cX6_init 55 = .ok (.newarray .int, 2) := by decide +kernel
theorem dX6_init_57 : decode cX6_init 57 = .ok (.putfield 29, 3) := by decide +kernel
theorem dX6_init_60 : decode cX6_init 60 = .ok (.aload_n 0, 1) := by decide +kernel
theorem dX6_init_61 : decode cX6_init 61 = .ok (.sipush 160, 3) := by decide +kernel
theorem dX6_init_64 : decode cX6_init 64 = .ok (.newarray .boolean, 2) := by decide +kernel
theorem dX6_init_66 : decode cX6_init 66 = .ok (.putfield 32, 3) := by decide +kernel
theorem dX6_init_69 : decode cX6_init 69 = .ok (.aload_n 0, 1) := by decide +kernel
theorem dX6_init_70 : decode cX6_init 70 = .ok (.bipush 20, 2) := by decide +kernel
theorem dX6_init_72 : decode cX6_init 72 = .ok (.newarray .int, 2) := by decide +kernel
theorem dX6_init_74 : decode cX6_init 74 = .ok (.putfield 35, 3) := by decide +kernel
theorem dX6_init_77 : decode cX6_init 77 = .ok (.aload_n 0, 1) := by decide +kernel
theorem dX6_init_78 : decode cX6_init 78 = .ok (.bipush 20, 2) := by decide +kernel
theorem dX6_init_80 : decode cX6_init 80 = .ok (.newarray .int, 2) := by decide +kernel
theorem dX6_init_82 : decode cX6_init 82 = .ok (.putfield 38, 3) := by decide +kernel
theorem dX6_init_85 : decode cX6_init 85 = .ok (.aload_n 0, 1) := by decide +kernel
theorem dX6_init_86 : decode cX6_init 86 = .ok (.sipush 2000, 3) := by decide +kernel
theorem dX6_init_89 : decode cX6_init 89 = .ok (.newarray .byte, 2) := by decide +kernel
theorem dX6_init_91 : decode cX6_init 91 = .ok (.putfield 41, 3) := by decide +kernel
theorem dX6_init_94 : decode cX6_init 94 = .ok (.aload_n 0, 1) := by decide +kernel
theorem dX6_init_95 : decode cX6_init 95 = .ok (.iconst 3, 1) := by decide +kernel
theorem dX6_init_96 : decode cX6_init 96 = .ok (.newarray .int, 2) := by decide +kernel
theorem dX6_init_98 : decode cX6_init 98 = .ok (.putfield 45, 3) := by decide +kernel
theorem dX6_init_101 : decode cX6_init 101 = .ok (.aload_n 0, 1) := by decide +kernel
theorem dX6_init_102 : decode cX6_init 102 = .ok (.iconst 0, 1) := by decide +kernel
theorem dX6_init_103 : decode cX6_init 103 = .ok (.invokevirtual 48, 3) := by decide +kernel
theorem dX6_init_106 : decode cX6_init 106 = .ok (.return_, 1) := by decide +kernel
theorem dX6_thrown_0 : decode cX6_thrown 0 = .ok (.aload_n 0, 1) := by decide +kernel
theorem dX6_thrown_1 : decode cX6_thrown 1 = .ok (.getfield 52, 3) := by decide +kernel
theorem dX6_thrown_4 : decode cX6_thrown 4 = .ok (.ireturn, 1) := by decide +kernel
theorem dX6_clear_0 : decode cX6_clear 0 = .ok (.aload_n 0, 1) := by decide +kernel
theorem dX6_clear_1 : decode cX6_clear 1 = .ok (.getfield 7, 3) := by decide +kernel
theorem dX6_clear_4 : decode cX6_clear 4 = .ok (.iload_n 1, 1) := by decide +kernel
theorem dX6_clear_5 : decode cX6_clear 5 = .ok (.iconst 0, 1) := by decide +kernel
theorem dX6_clear_6 : decode cX6_clear 6 = .ok (.iastore, 1) := by decide +kernel
theorem dX6_clear_7 : decode cX6_clear 7 = .ok (.aload_n 0, 1) := by decide +kernel
theorem dX6_clear_8 : decode cX6_clear 8 = .ok (.getfield 26, 3) := by decide +kernel
theorem dX6_clear_11 : decode cX6_clear 11 = .ok (.iload_n 1, 1) := by decide +kernel
theorem dX6_clear_12 : decode cX6_clear 12 = .ok (.iconst 0, 1) := by decide +kernel
theorem dX6_clear_13 : decode cX6_clear 13 = .ok (.iastore, 1) := by decide +kernel
theorem dX6_clear_14 : decode cX6_clear 14 = .ok (.iconst 0, 1) := by decide +kernel
theorem dX6_clear_15 : decode cX6_clear 15 = .ok (.istore_n 2, 1) := by decide +kernel
theorem dX6_clear_16 : decode cX6_clear 16 = .ok (.iload_n 2, 1) := by decide +kernel
theorem dX6_clear_17 : decode cX6_clear 17 = .ok (.bipush 100, 2) := by decide +kernel
theorem dX6_clear_19 : decode cX6_clear 19 = .ok (.if_icmp .ge 21, 3) := by decide +kernel
theorem dX6_clear_22 : decode cX6_clear 22 = .ok (.aload_n 0, 1) := by decide +kernel
theorem dX6_clear_23 : decode cX6_clear 23 = .ok (.getfield 19, 3) := by decide +kernel
theorem dX6_clear_26 : decode cX6_clear 26 = .ok (.bipush 100, 2) := by decide +kernel
theorem dX6_clear_28 : decode cX6_clear 28 = .ok (.iload_n 1, 1) := by decide +kernel
theorem dX6_clear_29 : decode cX6_clear 29 = .ok (.imul, 1) := by decide +kernel
theorem dX6_clear_30 : decode cX6_clear 30 = .ok (.iload_n 2, 1) := by decide +kernel
theorem dX6_clear_31 : decode cX6_clear 31 = .ok (.iadd, 1) := by decide +kernel
theorem dX6_clear_32 : decode cX6_clear 32 = .ok (.iconst 0, 1) := by decide +kernel
theorem dX6_clear_33 : decode cX6_clear 33 = .ok (.bastore, 1) := by decide +kernel
theorem dX6_clear_34 : decode cX6_clear 34 = .ok (.iinc 2 1, 3) := by decide +kernel
theorem dX6_clear_37 : decode cX6_clear 37 = .ok (.goto (-21), 3) := by decide +kernel
theorem dX6_clear_40 : decode cX6_clear 40 = .ok (.iconst 0, 1) := by decide +kernel
theorem dX6_clear_41 : decode cX6_clear 41 = .ok (.istore_n 2, 1) := by decide +kernel
theorem dX6_clear_42 : decode cX6_clear 42 = .ok (.iload_n 2, 1) := by decide +kernel
theorem dX6_clear_43 : decode cX6_clear 43 = .ok (.sipush 600, 3) := by decide +kernel
theorem dX6_clear_46 : decode cX6_clear 46 = .ok (.if_icmp .ge 22, 3) := by decide +kernel
theorem dX6_clear_49 : decode cX6_clear 49 = .ok (.aload_n 0, 1) := by decide +kernel
theorem dX6_clear_50 : decode cX6_clear 50 = .ok (.getfield 23, 3) := by decide +kernel
theorem dX6_clear_53 : decode cX6_clear 53 = .ok (.sipush 600, 3) := by decide +kernel
theorem dX6_clear_56 : decode cX6_clear 56 = .ok (.iload_n 1, 1) := by decide +kernel
theorem dX6_clear_57 : decode cX6_clear 57 = .ok (.imul, 1) := by decide +kernel
theorem dX6_clear_58 : decode cX6_clear 58 = .ok (.iload_n 2, 1) := by decide +kernel
theorem dX6_clear_59 : decode cX6_clear 59 = .ok (.iadd, 1) := by decide +kernel
theorem dX6_clear_60 : decode cX6_clear 60 = .ok (.iconst 0, 1) := by decide +kernel
theorem dX6_clear_61 : decode cX6_clear 61 = .ok (.bastore, 1) := by decide +kernel
theorem dX6_clear_62 : decode cX6_clear 62 = .ok (.iinc 2 1, 3) := by decide +kernel
theorem dX6_clear_65 : decode cX6_clear 65 = .ok (.goto (-23), 3) := by decide +kernel
theorem dX6_clear_68 : decode cX6_clear 68 = .ok (.iconst 0, 1) := by decide +kernel
theorem dX6_clear_69 : decode cX6_clear 69 = .ok (.istore_n 2, 1) := by decide +kernel
theorem dX6_clear_70 : decode cX6_clear 70 = .ok (.iload_n 2, 1) := by decide +kernel
theorem dX6_clear_71 : decode cX6_clear 71 = .ok (.bipush 80, 2) := by decide +kernel
theorem dX6_clear_73 : decode cX6_clear 73 = .ok (.if_icmp .ge 21, 3) := by decide +kernel
theorem dX6_clear_76 : decode cX6_clear 76 = .ok (.aload_n 0, 1) := by decide +kernel
theorem dX6_clear_77 : decode cX6_clear 77 = .ok (.getfield 32, 3) := by decide +kernel
theorem dX6_clear_80 : decode cX6_clear 80 = .ok (.bipush 80, 2) := by decide +kernel
theorem dX6_clear_82 : decode cX6_clear 82 = .ok (.iload_n 1, 1) := by decide +kernel
theorem dX6_clear_83 : decode cX6_clear 83 = .ok (.imul, 1) := by decide +kernel
theorem dX6_clear_84 : decode cX6_clear 84 = .ok (.iload_n 2, 1) := by decide +kernel
theorem dX6_clear_85 : decode cX6_clear 85 = .ok (.iadd, 1) := by decide +kernel
theorem dX6_clear_86 : decode cX6_clear 86 = .ok (.iconst 0, 1) := by decide +kernel
theorem dX6_clear_87 : decode cX6_clear 87 = .ok (.bastore, 1) := by decide +kernel
theorem dX6_clear_88 : decode cX6_clear 88 = .ok (.iinc 2 1, 3) := by decide +kernel
theorem dX6_clear_91 : decode cX6_clear 91 = .ok (.goto (-21), 3) := by decide +kernel
theorem dX6_clear_94 : decode cX6_clear 94 = .ok (.iconst 0, 1) := by decide +kernel
theorem dX6_clear_95 : decode cX6_clear 95 = .ok (.istore_n 2, 1) := by decide +kernel
theorem dX6_clear_96 : decode cX6_clear 96 = .ok (.iload_n 2, 1) := by decide +kernel
theorem dX6_clear_97 : decode cX6_clear 97 = .ok (.bipush 10, 2) := by decide +kernel
theorem dX6_clear_99 : decode cX6_clear 99 = .ok (.if_icmp .ge 33, 3) := by decide +kernel
theorem dX6_clear_102 : decode cX6_clear 102 = .ok (.aload_n 0, 1) := by decide +kernel
theorem dX6_clear_103 : decode cX6_clear 103 = .ok (.getfield 35, 3) := by decide +kernel
theorem dX6_clear_106 : decode cX6_clear 106 = .ok (.bipush 10, 2) := by decide +kernel
theorem dX6_clear_108 : decode cX6_clear 108 = .ok (.iload_n 1, 1) := by decide +kernel
theorem dX6_clear_109 : decode cX6_clear 109 = .ok (.imul, 1) := by decide +kernel
theorem dX6_clear_110 : decode cX6_clear 110 = .ok (.iload_n 2, 1) := by decide +kernel
theorem dX6_clear_111 : decode cX6_clear 111 = .ok (.iadd, 1) := by decide +kernel
theorem dX6_clear_112 : decode cX6_clear 112 = .ok (.iconst (-1), 1) := by decide +kernel
theorem dX6_clear_113 : decode cX6_clear 113 = .ok (.iastore, 1) := by decide +kernel
theorem dX6_clear_114 : decode cX6_clear 114 = .ok (.aload_n 0, 1) := by decide +kernel
theorem dX6_clear_115 : decode cX6_clear 115 = .ok (.getfield 38, 3) := by decide +kernel
theorem dX6_clear_118 : decode cX6_clear 118 = .ok (.bipush 10, 2) := by decide +kernel
theorem dX6_clear_120 : decode cX6_clear 120 = .ok (.iload_n 1, 1) := by decide +kernel
theorem dX6_clear_121 : decode cX6_clear 121 = .ok (.imul, 1) := by decide +kernel
theorem dX6_clear_122 : decode cX6_clear 122 = .ok (.iload_n 2, 1) := by decide +kernel
theorem dX6_clear_123 : decode cX6_clear 123 = .ok (.iadd, 1) := by decide +kernel
theorem dX6_clear_124 : decode cX6_clear 124 = .ok (.iconst 0, 1) := by decide +kernel
theorem dX6_clear_125 : decode cX6_clear 125 = .ok (.iastore, 1) := by decide +kernel
theorem dX6_clear_126 : decode cX6_clear 126 = .ok (.iinc 2 1, 3) := by decide +kernel
theorem dX6_clear_129 : decode cX6_clear 129 = .ok (.goto (-33), 3) := by decide +kernel
theorem dX6_clear_132 : decode cX6_clear 132 = .ok (.return_, 1) := by decide +kernel
theorem dX6_take_0 : decode cX6_take 0 = .ok (.aload_n 0, 1) := by decide +kernel
theorem dX6_take_1 : decode cX6_take 1 = .ok (.getfield 7, 3) := by decide +kernel
theorem dX6_take_4 : decode cX6_take 4 = .ok (.iconst 0, 1) := by decide +kernel
theorem dX6_take_5 : decode cX6_take 5 = .ok (.aload_n 0, 1) := by decide +kernel
theorem dX6_take_6 : decode cX6_take 6 = .ok (.getfield 7, 3) := by decide +kernel
theorem dX6_take_9 : decode cX6_take 9 = .ok (.iconst 1, 1) := by decide +kernel
theorem dX6_take_10 : decode cX6_take 10 = .ok (.iaload, 1) := by decide +kernel
theorem dX6_take_11 : decode cX6_take 11 = .ok (.iastore, 1) := by decide +kernel
theorem dX6_take_12 : decode cX6_take 12 = .ok (.aload_n 0, 1) := by decide +kernel
theorem dX6_take_13 : decode cX6_take 13 = .ok (.getfield 26, 3) := by decide +kernel
theorem dX6_take_16 : decode cX6_take 16 = .ok (.iconst 0, 1) := by decide +kernel
theorem dX6_take_17 : decode cX6_take 17 = .ok (.aload_n 0, 1) := by decide +kernel
theorem dX6_take_18 : decode cX6_take 18 = .ok (.getfield 26, 3) := by decide +kernel
theorem dX6_take_21 : decode cX6_take 21 = .ok (.iconst 1, 1) := by decide +kernel
theorem dX6_take_22 : decode cX6_take 22 = .ok (.iaload, 1) := by decide +kernel
theorem dX6_take_23 : decode cX6_take 23 = .ok (.iastore, 1) := by decide +kernel
theorem dX6_take_24 : decode cX6_take 24 = .ok (.iconst 0, 1) := by decide +kernel
theorem dX6_take_25 : decode cX6_take 25 = .ok (.istore_n 1, 1) := by decide +kernel
theorem dX6_take_26 : decode cX6_take 26 = .ok (.iload_n 1, 1) := by decide +kernel
theorem dX6_take_27 : decode cX6_take 27 = .ok (.bipush 100, 2) := by decide +kernel
theorem dX6_take_29 : decode cX6_take 29 = .ok (.if_icmp .ge 24, 3) := by decide +kernel
theorem dX6_take_32 : decode cX6_take 32 = .ok (.aload_n 0, 1) := by decide +kernel
theorem dX6_take_33 : decode cX6_take 33 = .ok (.getfield 19, 3) := by decide +kernel
theorem dX6_take_36 : decode cX6_take 36 = .ok (.iload_n 1, 1) := by decide +kernel
theorem dX6_take_37 : decode cX6_take 37 = .ok (.aload_n 0, 1) := by decide +kernel
theorem dX6_take_38 : decode cX6_take 38 = .ok (.getfield 19, 3) := by decide +kernel
theorem dX6_take_41 : decode cX6_take 41 = .ok (.bipush 100, 2) := by decide +kernel
theorem dX6_take_43 : decode cX6_take 43 = .ok (.iload_n 1, 1) := by decide +kernel
theorem dX6_take_44 : decode cX6_take 44 = .ok (.iadd, 1) := by decide +kernel
theorem dX6_take_45 : decode cX6_take 45 = .ok (.baload, 1) := by decide +kernel
theorem dX6_take_46 : decode cX6_take 46 = .ok (.bastore, 1) := by decide +kernel
theorem dX6_take_47 : decode cX6_take 47 = .ok (.iinc 1 1, 3) := by decide +kernel
theorem dX6_take_50 : decode cX6_take 50 = .ok (.goto (-24), 3) := by decide +kernel
theorem dX6_take_53 : decode cX6_take 53 = .ok (.iconst 0, 1) := by decide +kernel
theorem dX6_take_54 : decode cX6_take 54 = .ok (.istore_n 1, 1) := by decide +kernel
theorem dX6_take_55 : decode cX6_take 55 = .ok (.iload_n 1, 1) := by decide +kernel
theorem dX6_take_56 : decode cX6_take 56 = .ok (.sipush 600, 3) := by decide +kernel
theorem dX6_take_59 : decode cX6_take 59 = .ok (.if_icmp .ge 25, 3) := by decide +kernel
theorem dX6_take_62 : decode cX6_take 62 = .ok (.aload_n 0, 1) := by decide +kernel
theorem dX6_take_63 : decode cX6_take 63 = .ok (.getfield 23, 3) := by decide +kernel
theorem dX6_take_66 : decode cX6_take 66 = .ok (.iload_n 1, 1) := by decide +kernel
theorem dX6_take_67 : decode cX6_take 67 = .ok (.aload_n 0, 1) := by decide +kernel
theorem dX6_take_68 : decode cX6_take 68 = .ok (.getfield 23, 3) := by decide +kernel
theorem dX6_take_71 : decode cX6_take 71 = .ok (.sipush 600, 3) := by decide +kernel
theorem dX6_take_74 : decode cX6_take 74 = .ok (.iload_n 1, 1) := by decide +kernel
theorem dX6_take_75 : decode cX6_take 75 = .ok (.iadd, 1) := by decide +kernel
theorem dX6_take_76 : decode cX6_take 76 = .ok (.baload, 1) := by decide +kernel
theorem dX6_take_77 : decode cX6_take 77 = .ok (.bastore, 1) := by decide +kernel
theorem dX6_take_78 : decode cX6_take 78 = .ok (.iinc 1 1, 3) := by decide +kernel
theorem dX6_take_81 : decode cX6_take 81 = .ok (.goto (-26), 3) := by decide +kernel
theorem dX6_take_84 : decode cX6_take 84 = .ok (.iconst 0, 1) := by decide +kernel
theorem dX6_take_85 : decode cX6_take 85 = .ok (.istore_n 1, 1) := by decide +kernel
theorem dX6_take_86 : decode cX6_take 86 = .ok (.iload_n 1, 1) := by decide +kernel
theorem dX6_take_87 : decode cX6_take 87 = .ok (.bipush 80, 2) := by decide +kernel
theorem dX6_take_89 : decode cX6_take 89 = .ok (.if_icmp .ge 24, 3) := by decide +kernel
theorem dX6_take_92 : decode cX6_take 92 = .ok (.aload_n 0, 1) := by decide +kernel
theorem dX6_take_93 : decode cX6_take 93 = .ok (.getfield 32, 3) := by decide +kernel
theorem dX6_take_96 : decode cX6_take 96 = .ok (.iload_n 1, 1) := by decide +kernel
theorem dX6_take_97 : decode cX6_take 97 = .ok (.aload_n 0, 1) := by decide +kernel
theorem dX6_take_98 : decode cX6_take 98 = .ok (.getfield 32, 3) := by decide +kernel
theorem dX6_take_101 : decode cX6_take 101 = .ok (.bipush 80, 2) := by decide +kernel
theorem dX6_take_103 : decode cX6_take 103 = .ok (.iload_n 1, 1) := by decide +kernel
theorem dX6_take_104 : decode cX6_take 104 = .ok (.iadd, 1) := by decide +kernel
theorem dX6_take_105 : decode cX6_take 105 = .ok (.baload, 1) := by decide +kernel
theorem dX6_take_106 : decode cX6_take 106 = .ok (.bastore, 1) := by decide +kernel
theorem dX6_take_107 : decode cX6_take 107 = .ok (.iinc 1 1, 3) := by decide +kernel
theorem dX6_take_110 : decode cX6_take 110 = .ok (.goto (-24), 3) := by decide +kernel
theorem dX6_take_113 : decode cX6_take 113 = .ok (.iconst 0, 1) := by decide +kernel
theorem dX6_take_114 : decode cX6_take 114 = .ok (.istore_n 1, 1) := by decide +kernel
theorem dX6_take_115 : decode cX6_take 115 = .ok (.iload_n 1, 1) := by decide +kernel
theorem dX6_take_116 : decode cX6_take 116 = .ok (.bipush 10, 2) := by decide +kernel
theorem dX6_take_118 : decode cX6_take 118 = .ok (.if_icmp .ge 69, 3) := by decide +kernel
theorem dX6_take_121 : decode cX6_take 121 = .ok (.aload_n 0, 1) := by decide +kernel
theorem dX6_take_122 : decode cX6_take 122 = .ok (.getfield 13, 3) := by decide +kernel
theorem dX6_take_125 : decode cX6_take 125 = .ok (.iload_n 1, 1) := by decide +kernel
theorem dX6_take_126 : decode cX6_take 126 = .ok (.aload_n 0, 1) := by decide +kernel
theorem dX6_take_127 : decode cX6_take 127 = .ok (.getfield 13, 3) := by decide +kernel
theorem dX6_take_130 : decode cX6_take 130 = .ok (.bipush 10, 2) := by decide +kernel
theorem dX6_take_132 : decode cX6_take 132 = .ok (.iload_n 1, 1) := by decide +kernel
theorem dX6_take_133 : decode cX6_take 133 = .ok (.iadd, 1) := by decide +kernel
theorem dX6_take_134 : decode cX6_take 134 = .ok (.iaload, 1) := by decide +kernel
theorem dX6_take_135 : decode cX6_take 135 = .ok (.iastore, 1) := by decide +kernel
theorem dX6_take_136 : decode cX6_take 136 = .ok (.aload_n 0, 1) := by decide +kernel
theorem dX6_take_137 : decode cX6_take 137 = .ok (.getfield 16, 3) := by decide +kernel
theorem dX6_take_140 : decode cX6_take 140 = .ok (.iload_n 1, 1) := by decide +kernel
theorem dX6_take_141 : decode cX6_take 141 = .ok (.aload_n 0, 1) := by decide +kernel
theorem dX6_take_142 : decode cX6_take 142 = .ok (.getfield 16, 3) := by decide +kernel
theorem dX6_take_145 : decode cX6_take 145 = .ok (.bipush 10, 2) := by decide +kernel
theorem dX6_take_147 : decode cX6_take 147 = .ok (.iload_n 1, 1) := by decide +kernel
theorem dX6_take_148 : decode cX6_take 148 = .ok (.iadd, 1) := by decide +kernel
theorem dX6_take_149 : decode cX6_take 149 = .ok (.iaload, 1) := by decide +kernel
theorem dX6_take_150 : decode cX6_take 150 = .ok (.iastore, 1) := by decide +kernel
theorem dX6_take_151 : decode cX6_take 151 = .ok (.aload_n 0, 1) := by decide +kernel
theorem dX6_take_152 : decode cX6_take 152 = .ok (.getfield 35, 3) := by decide +kernel
theorem dX6_take_155 : decode cX6_take 155 = .ok (.iload_n 1, 1) := by decide +kernel
theorem dX6_take_156 : decode cX6_take 156 = .ok (.aload_n 0, 1) := by decide +kernel
theorem dX6_take_157 : decode cX6_take 157 = .ok (.getfield 35, 3) := by decide +kernel
theorem dX6_take_160 : decode cX6_take 160 = .ok (.bipush 10, 2) := by decide +kernel
theorem dX6_take_162 : decode cX6_take 162 = .ok (.iload_n 1, 1) := by decide +kernel
theorem dX6_take_163 : decode cX6_take 163 = .ok (.iadd, 1) := by decide +kernel
theorem dX6_take_164 : decode cX6_take 164 = .ok (.iaload, 1) := by decide +kernel
theorem dX6_take_165 : decode cX6_take 165 = .ok (.iastore, 1) := by decide +kernel
theorem dX6_take_166 : decode cX6_take 166 = .ok (.aload_n 0, 1) := by decide +kernel
theorem dX6_take_167 : decode cX6_take 167 = .ok (.getfield 38, 3) := by decide +kernel
theorem dX6_take_170 : decode cX6_take 170 = .ok (.iload_n 1, 1) := by decide +kernel
theorem dX6_take_171 : decode cX6_take 171 = .ok (.aload_n 0, 1) := by decide +kernel
theorem dX6_take_172 : decode cX6_take 172 = .ok (.getfield 38, 3) := by decide +kernel
theorem dX6_take_175 : decode cX6_take 175 = .ok (.bipush 10, 2) := by decide +kernel
theorem dX6_take_177 : decode cX6_take 177 = .ok (.iload_n 1, 1) := by decide +kernel
theorem dX6_take_178 : decode cX6_take 178 = .ok (.iadd, 1) := by decide +kernel
theorem dX6_take_179 : decode cX6_take 179 = .ok (.iaload, 1) := by decide +kernel
theorem dX6_take_180 : decode cX6_take 180 = .ok (.iastore, 1) := by decide +kernel
theorem dX6_take_181 : decode cX6_take 181 = .ok (.iinc 1 1, 3) := by decide +kernel
theorem dX6_take_184 : decode cX6_take 184 = .ok (.goto (-69), 3) := by decide +kernel
theorem dX6_take_187 : decode cX6_take 187 = .ok (.iconst 0, 1) := by decide +kernel
theorem dX6_take_188 : decode cX6_take 188 = .ok (.istore_n 1, 1) := by decide +kernel
theorem dX6_take_189 : decode cX6_take 189 = .ok (.iload_n 1, 1) := by decide +kernel
theorem dX6_take_190 : decode cX6_take 190 = .ok (.bipush 60, 2) := by decide +kernel
theorem dX6_take_192 : decode cX6_take 192 = .ok (.if_icmp .ge 24, 3) := by decide +kernel
theorem dX6_take_195 : decode cX6_take 195 = .ok (.aload_n 0, 1) := by decide +kernel
theorem dX6_take_196 : decode cX6_take 196 = .ok (.getfield 29, 3) := by decide +kernel
theorem dX6_take_199 : decode cX6_take 199 = .ok (.iload_n 1, 1) := by decide +kernel
theorem dX6_take_200 : decode cX6_take 200 = .ok (.aload_n 0, 1) := by decide +kernel
theorem dX6_take_201 : decode cX6_take 201 = .ok (.getfield 29, 3) := by decide +kernel
theorem dX6_take_204 : decode cX6_take 204 = .ok (.bipush 60, 2) := by decide +kernel
theorem dX6_take_206 : decode cX6_take 206 = .ok (.iload_n 1, 1) := by decide +kernel
theorem dX6_take_207 : decode cX6_take 207 = .ok (.iadd, 1) := by decide +kernel
theorem dX6_take_208 : decode cX6_take 208 = .ok (.iaload, 1) := by decide +kernel
theorem dX6_take_209 : decode cX6_take 209 = .ok (.iastore, 1) := by decide +kernel
theorem dX6_take_210 : decode cX6_take 210 = .ok (.iinc 1 1, 3) := by decide +kernel
theorem dX6_take_213 : decode cX6_take 213 = .ok (.goto (-24), 3) := by decide +kernel
theorem dX6_take_216 : decode cX6_take 216 = .ok (.return_, 1) := by decide +kernel
theorem dX6_isPart_0 : decode cX6_isPart 0 = .ok (.iload_n 2, 1) := by decide +kernel
theorem dX6_isPart_1 : decode cX6_isPart 1 = .ok (.ifCond .lt 17, 3) := by decide +kernel
theorem dX6_isPart_4 : decode cX6_isPart 4 = .ok (.iload_n 2, 1) := by decide +kernel
theorem dX6_isPart_5 : decode cX6_isPart 5 = .ok (.aload_n 0, 1) := by decide +kernel
theorem dX6_isPart_6 : decode cX6_isPart 6 = .ok (.getfield 7, 3) := by decide +kernel
theorem dX6_isPart_9 : decode cX6_isPart 9 = .ok (.iload_n 1, 1) := by decide +kernel
theorem dX6_isPart_10 : decode cX6_isPart 10 = .ok (.iaload, 1) := by decide +kernel
theorem dX6_isPart_11 : decode cX6_isPart 11 = .ok (.if_icmp .ge 7, 3) := by decide +kernel
theorem dX6_isPart_14 : decode cX6_isPart 14 = .ok (.iconst 1, 1) := by decide +kernel
theorem dX6_isPart_15 : decode cX6_isPart 15 = .ok (.goto 4, 3) := by decide +kernel
theorem dX6_isPart_18 : decode cX6_isPart 18 = .ok (.iconst 0, 1) := by decide +kernel
theorem dX6_isPart_19 : decode cX6_isPart 19 = .ok (.ireturn, 1) := by decide +kernel
theorem dX6_wayAt_0 : decode cX6_wayAt 0 = .ok (.sipush 600, 3) := by decide +kernel
theorem dX6_wayAt_3 : decode cX6_wayAt 3 = .ok (.iload_n 0, 1) := by decide +kernel
theorem dX6_wayAt_4 : decode cX6_wayAt 4 = .ok (.imul, 1) := by decide +kernel
theorem dX6_wayAt_5 : decode cX6_wayAt 5 = .ok (.bipush 100, 2) := by decide +kernel
theorem dX6_wayAt_7 : decode cX6_wayAt 7 = .ok (.iload_n 2, 1) := by decide +kernel
theorem dX6_wayAt_8 : decode cX6_wayAt 8 = .ok (.imul, 1) := by decide +kernel
theorem dX6_wayAt_9 : decode cX6_wayAt 9 = .ok (.iadd, 1) := by decide +kernel
theorem dX6_wayAt_10 : decode cX6_wayAt 10 = .ok (.bipush 10, 2) := by decide +kernel
theorem dX6_wayAt_12 : decode cX6_wayAt 12 = .ok (.iload_n 1, 1) := by decide +kernel
theorem dX6_wayAt_13 : decode cX6_wayAt 13 = .ok (.imul, 1) := by decide +kernel
theorem dX6_wayAt_14 : decode cX6_wayAt 14 = .ok (.iadd, 1) := by decide +kernel
theorem dX6_wayAt_15 : decode cX6_wayAt 15 = .ok (.iload_n 3, 1) := by decide +kernel
theorem dX6_wayAt_16 : decode cX6_wayAt 16 = .ok (.iadd, 1) := by decide +kernel
theorem dX6_wayAt_17 : decode cX6_wayAt 17 = .ok (.ireturn, 1) := by decide +kernel
set_option maxRecDepth 20000 in
theorem ggX6_isAllowed_X6_isPart : GoodIn wsX6_isAllowed wsX6_isPart := goodIn_r _ [12, 1, 16, 17, 18, 19, 20, 21, 22, 23, 24, 25, 26, 27, 28, 29, 30, 31, 32, 33] (by decide +kernel) (by decide +kernel)
set_option maxRecDepth 20000 in
theorem gX6_isAllowed_X6_isPart : GoodIn wsX6_isAllowed (wsV RX6 57 RX6 yX6_isPart wsX6_isPart) := goodIn_app (goodIn_of _ (by decide +kernel)) ggX6_isAllowed_X6_isPart
set_option maxRecDepth 20000 in
theorem ggX6_isAllowed_X6_wayAt : GoodIn wsX6_isAllowed wsX6_wayAt := goodIn_r _ [15] (by decide +kernel) (by decide +kernel)
set_option maxRecDepth 20000 in
theorem gX6_isAllowed_X6_wayAt : GoodIn wsX6_isAllowed (va_wsS RX6 61 yX6_wayAt wsX6_wayAt) := goodIn_app (goodIn_of _ (by decide +kernel)) ggX6_isAllowed_X6_wayAt
theorem dX6_isAllowed_0 : decode cX6_isAllowed 0 = .ok (.iload_n 2, 1) := by decide +kernel
theorem dX6_isAllowed_1 : decode cX6_isAllowed 1 = .ok (.tableswitch 331 0 5 #[39, 78, 129, 189, 242, 289], 39) := by decide +kernel
theorem dX6_isAllowed_40 : decode cX6_isAllowed 40 = .ok (.aload_n 0, 1) := by decide +kernel
theorem dX6_isAllowed_41 : decode cX6_isAllowed 41 = .ok (.getfield 7, 3) := by decide +kernel
theorem dX6_isAllowed_44 : decode cX6_isAllowed 44 = .ok (.iload_n 1, 1) := by decide +kernel
theorem dX6_isAllowed_45 : decode cX6_isAllowed 45 = .ok (.iaload, 1) := by decide +kernel
theorem dX6_isAllowed_46 : decode cX6_isAllowed 46 = .ok (.bipush 10, 2) := by decide +kernel
theorem dX6_isAllowed_48 : decode cX6_isAllowed 48 = .ok (.if_icmp .ge 29, 3) := by decide +kernel
theorem dX6_isAllowed_51 : decode cX6_isAllowed 51 = .ok (.iload_n 3, 1) := by decide +kernel
theorem dX6_isAllowed_52 : decode cX6_isAllowed 52 = .ok (.ifCond .lt 25, 3) := by decide +kernel
theorem dX6_isAllowed_55 : decode cX6_isAllowed 55 = .ok (.iload_n 3, 1) := by decide +kernel
theorem dX6_isAllowed_56 : decode cX6_isAllowed 56 = .ok (.bipush 10, 2) := by decide +kernel
theorem dX6_isAllowed_58 : decode cX6_isAllowed 58 = .ok (.if_icmp .ge 19, 3) := by decide +kernel
theorem dX6_isAllowed_61 : decode cX6_isAllowed 61 = .ok (.iload 4, 2) := by decide +kernel
theorem dX6_isAllowed_63 : decode cX6_isAllowed 63 = .ok (.ifCond .lt 14, 3) := by decide +kernel
theorem dX6_isAllowed_66 : decode cX6_isAllowed 66 = .ok (.iload 4, 2) := by decide +kernel
theorem dX6_isAllowed_68 : decode cX6_isAllowed 68 = .ok (.ldc 56, 2) := by decide +kernel
theorem dX6_isAllowed_70 : decode cX6_isAllowed 70 = .ok (.if_icmp .gt 7, 3) := by decide +kernel
theorem dX6_isAllowed_73 : decode cX6_isAllowed 73 = .ok (.iconst 1, 1) := by decide +kernel
theorem dX6_isAllowed_74 : decode cX6_isAllowed 74 = .ok (.goto 4, 3) := by decide +kernel
theorem dX6_isAllowed_77 : decode cX6_isAllowed 77 = .ok (.iconst 0, 1) := by decide +kernel
theorem dX6_isAllowed_78 : decode cX6_isAllowed 78 = .ok (.ireturn, 1) := by decide +kernel
theorem dX6_isAllowed_79 : decode cX6_isAllowed 79 = .ok (.aload_n 0, 1) := by decide +kernel
theorem dX6_isAllowed_80 : decode cX6_isAllowed 80 = .ok (.iload_n 1, 1) := by decide +kernel
theorem dX6_isAllowed_81 : decode cX6_isAllowed 81 = .ok (.iload_n 3, 1) := by decide +kernel
theorem dX6_isAllowed_82 : decode cX6_isAllowed 82 = .ok (.invokevirtual 57, 3) := by decide +kernel
theorem dX6_isAllowed_85 : decode cX6_isAllowed 85 = .ok (.ifCond .eq 43, 3) := by decide +kernel
theorem dX6_isAllowed_88 : decode cX6_isAllowed 88 = .ok (.aload_n 0, 1) := by decide +kernel
theorem dX6_isAllowed_89 : decode cX6_isAllowed 89 = .ok (.iload_n 1, 1) := by decide +kernel
theorem dX6_isAllowed_90 : decode cX6_isAllowed 90 = .ok (.iload 4, 2) := by decide +kernel
theorem dX6_isAllowed_92 : decode cX6_isAllowed 92 = .ok (.invokevirtual 57, 3) := by decide +kernel
theorem dX6_isAllowed_95 : decode cX6_isAllowed 95 = .ok (.ifCond .eq 33, 3) := by decide +kernel
theorem dX6_isAllowed_98 : decode cX6_isAllowed 98 = .ok (.iload_n 3, 1) := by decide +kernel
theorem dX6_isAllowed_99 : decode cX6_isAllowed 99 = .ok (.iload 4, 2) := by decide +kernel
theorem dX6_isAllowed_101 : decode cX6_isAllowed 101 = .ok (.if_icmp .eq 27, 3) := by decide +kernel
theorem dX6_isAllowed_104 : decode cX6_isAllowed 104 = .ok (.aload_n 0, 1) := by decide +kernel
theorem dX6_isAllowed_105 : decode cX6_isAllowed 105 = .ok (.getfield 19, 3) := by decide +kernel
theorem dX6_isAllowed_108 : decode cX6_isAllowed 108 = .ok (.bipush 100, 2) := by decide +kernel
theorem dX6_isAllowed_110 : decode cX6_isAllowed 110 = .ok (.iload_n 1, 1) := by decide +kernel
theorem dX6_isAllowed_111 : decode cX6_isAllowed 111 = .ok (.imul, 1) := by decide +kernel
theorem dX6_isAllowed_112 : decode cX6_isAllowed 112 = .ok (.bipush 10, 2) := by decide +kernel
theorem dX6_isAllowed_114 : decode cX6_isAllowed 114 = .ok (.iload_n 3, 1) := by decide +kernel
theorem dX6_isAllowed_115 : decode cX6_isAllowed 115 = .ok (.imul, 1) := by decide +kernel
theorem dX6_isAllowed_116 : decode cX6_isAllowed 116 = .ok (.iadd, 1) := by decide +kernel
theorem dX6_isAllowed_117 : decode cX6_isAllowed 117 = .ok (.iload 4, 2) := by decide +kernel
theorem dX6_isAllowed_119 : decode cX6_isAllowed 119 = .ok (.iadd, 1) := by decide +kernel
theorem dX6_isAllowed_120 : decode cX6_isAllowed 120 = .ok (.baload, 1) := by decide +kernel
theorem dX6_isAllowed_121 : decode cX6_isAllowed 121 = .ok (.ifCond .ne 7, 3) := by decide +kernel
theorem dX6_isAllowed_124 : decode cX6_isAllowed 124 = .ok (.iconst 1, 1) := by decide +kernel
theorem dX6_isAllowed_125 : decode cX6_isAllowed 125 = .ok (.goto 4, 3) := by decide +kernel
theorem dX6_isAllowed_128 : decode cX6_isAllowed 128 = .ok (.iconst 0, 1) := by decide +kernel
theorem dX6_isAllowed_129 : decode cX6_isAllowed 129 = .ok (.ireturn, 1) := by decide +kernel
theorem dX6_isAllowed_130 : decode cX6_isAllowed 130 = .ok (.aload_n 0, 1) := by decide +kernel
theorem dX6_isAllowed_131 : decode cX6_isAllowed 131 = .ok (.iload_n 1, 1) := by decide +kernel
theorem dX6_isAllowed_132 : decode cX6_isAllowed 132 = .ok (.iload_n 3, 1) := by decide +kernel
theorem dX6_isAllowed_133 : decode cX6_isAllowed 133 = .ok (.invokevirtual 57, 3) := by decide +kernel
theorem dX6_isAllowed_136 : decode cX6_isAllowed 136 = .ok (.ifCond .eq 52, 3) := by decide +kernel
theorem dX6_isAllowed_139 : decode cX6_isAllowed 139 = .ok (.iload 4, 2) := by decide +kernel
theorem dX6_isAllowed_141 : decode cX6_isAllowed 141 = .ok (.ifCond .lt 47, 3) := by decide +kernel
theorem dX6_isAllowed_144 : decode cX6_isAllowed 144 = .ok (.iload 4, 2) := by decide +kernel
theorem dX6_isAllowed_146 : decode cX6_isAllowed 146 = .ok (.bipush 6, 2) := by decide +kernel
theorem dX6_isAllowed_148 : decode cX6_isAllowed 148 = .ok (.if_icmp .ge 40, 3) := by decide +kernel
theorem dX6_isAllowed_151 : decode cX6_isAllowed 151 = .ok (.aload_n 0, 1) := by decide +kernel
theorem dX6_isAllowed_152 : decode cX6_isAllowed 152 = .ok (.iload_n 1, 1) := by decide +kernel
theorem dX6_isAllowed_153 : decode cX6_isAllowed 153 = .ok (.iload 5, 2) := by decide +kernel
theorem dX6_isAllowed_155 : decode cX6_isAllowed 155 = .ok (.invokevirtual 57, 3) := by decide +kernel
theorem dX6_isAllowed_158 : decode cX6_isAllowed 158 = .ok (.ifCond .eq 30, 3) := by decide +kernel
theorem dX6_isAllowed_161 : decode cX6_isAllowed 161 = .ok (.iload_n 3, 1) := by decide +kernel
theorem dX6_isAllowed_162 : decode cX6_isAllowed 162 = .ok (.iload 5, 2) := by decide +kernel
theorem dX6_isAllowed_164 : decode cX6_isAllowed 164 = .ok (.if_icmp .eq 24, 3) := by decide +kernel
theorem dX6_isAllowed_167 : decode cX6_isAllowed 167 = .ok (.aload_n 0, 1) := by decide +kernel
theorem dX6_isAllowed_168 : decode cX6_isAllowed 168 = .ok (.getfield 23, 3) := by decide +kernel
theorem dX6_isAllowed_171 : decode cX6_isAllowed 171 = .ok (.iload_n 1, 1) := by decide +kernel
theorem dX6_isAllowed_172 : decode cX6_isAllowed 172 = .ok (.iload_n 3, 1) := by decide +kernel
theorem dX6_isAllowed_173 : decode cX6_isAllowed 173 = .ok (.iload 4, 2) := by decide +kernel
theorem dX6_isAllowed_175 : decode cX6_isAllowed 175 = .ok (.iload 5, 2) := by decide +kernel
theorem dX6_isAllowed_177 : decode cX6_isAllowed 177 = .ok (.invokestatic 61, 3) := by decide +kernel
theorem dX6_isAllowed_180 : decode cX6_isAllowed 180 = .ok (.baload, 1) := by decide +kernel
