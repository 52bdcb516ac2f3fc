theorem dX4_read_37 : decode cX4_read 37 = .ok (.ifCond .ne 5, 3) := by decide +kernel
theorem dX4_read_40 : decode cX4_read 40 = .ok (.iconst 0, 1) := by decide +kernel
theorem dX4_read_41 : decode cX4_read 41 = .ok (.ireturn, 1) := by decide +kernel
theorem dX4_read_42 : decode cX4_read 42 = .ok (.aload_n 0, 1) := by decide +kernel
theorem dX4_read_43 : decode cX4_read 43 = .ok (.invokevirtual 41, 3) := by decide +kernel
theorem dX4_read_46 : decode cX4_read 46 = .ok (.iinc 1 1, 3) := by decide +kernel
theorem dX4_read_49 : decode cX4_read 49 = .ok (.goto (-33), 3) := by decide +kernel
theorem dX4_read_52 : decode cX4_read 52 = .ok (.aload_n 0, 1) := by decide +kernel
theorem dX4_read_53 : decode cX4_read 53 = .ok (.getfield 35, 3) := by decide +kernel
theorem dX4_read_56 : decode cX4_read 56 = .ok (.ifCond .le 18, 3) := by decide +kernel
theorem dX4_read_59 : decode cX4_read 59 = .ok (.aload_n 0, 1) := by decide +kernel
theorem dX4_read_60 : decode cX4_read 60 = .ok (.getfield 38, 3) := by decide +kernel
theorem dX4_read_63 : decode cX4_read 63 = .ok (.aload_n 0, 1) := by decide +kernel
theorem dX4_read_64 : decode cX4_read 64 = .ok (.getfield 25, 3) := by decide +kernel
theorem dX4_read_67 : decode cX4_read 67 = .ok (.if_icmp .lt 7, 3) := by decide +kernel
theorem dX4_read_70 : decode cX4_read 70 = .ok (.iconst 1, 1) := by decide +kernel
theorem dX4_read_71 : decode cX4_read 71 = .ok (.goto 4, 3) := by decide +kernel
theorem dX4_read_74 : decode cX4_read 74 = .ok (.iconst 0, 1) := by decide +kernel
theorem dX4_read_75 : decode cX4_read 75 = .ok (.ireturn, 1) := by decide +kernel
set_option maxRecDepth 20000 in
theorem ggX4_readOrder_X4_here : GoodIn wsX4_readOrder wsX4_here := goodIn_r _ [11, 2, 12, 13, 31, 32, 33, 34, 35, 36, 37, 38] (by decide +kernel) (by decide +kernel)
set_option maxRecDepth 20000 in
theorem gX4_readOrder_X4_here : GoodIn wsX4_readOrder (wsV RX4 48 RX4 yX4_here wsX4_here) := goodIn_app (goodIn_of _ (by decide +kernel)) ggX4_readOrder_X4_here
set_option maxRecDepth 20000 in
theorem ggX4_readOrder_X4_isKind : GoodIn wsX4_readOrder wsX4_isKind := goodIn_r _ [16, 17, 18, 10, 19] (by decide +kernel) (by decide +kernel)
set_option maxRecDepth 20000 in
theorem gX4_readOrder_X4_isKind : GoodIn wsX4_readOrder (va_wsS RX4 52 yX4_isKind wsX4_isKind) := goodIn_app (goodIn_of _ (by decide +kernel)) ggX4_readOrder_X4_isKind
set_option maxRecDepth 20000 in
theorem ggX4_readOrder_X4_readNumber : GoodIn wsX4_readOrder wsX4_readNumber := goodIn_r _ [23, 2, 3, 24, 25, 26, 10, 27, 12, 7, 8, 9, 11, 13, 28, 29, 30, 31, 32, 33, 34, 35, 36, 37, 38] (by decide +kernel) (by decide +kernel)
set_option maxRecDepth 20000 in
theorem gX4_readOrder_X4_readNumber : GoodIn wsX4_readOrder (wsV RX4 56 RX4 yX4_readNumber wsX4_readNumber) := goodIn_app (goodIn_of _ (by decide +kernel)) ggX4_readOrder_X4_readNumber
set_option maxRecDepth 20000 in
theorem ggX4_readOrder_X4_hasSecond : GoodIn wsX4_readOrder wsX4_hasSecond := goodIn_r _ [19] (by decide +kernel) (by decide +kernel)
set_option maxRecDepth 20000 in
theorem gX4_readOrder_X4_hasSecond : GoodIn wsX4_readOrder (va_wsS RX4 63 yX4_hasSecond wsX4_hasSecond) := goodIn_app (goodIn_of _ (by decide +kernel)) ggX4_readOrder_X4_hasSecond
set_option maxRecDepth 20000 in
theorem ggX4_readOrder_X4_skipBlanks : GoodIn wsX4_readOrder wsX4_skipBlanks := goodIn_r _ [27, 2, 12, 7, 8, 9, 10, 11, 13, 31, 32, 33, 34, 35, 36, 37, 38] (by decide +kernel) (by decide +kernel)
set_option maxRecDepth 20000 in
theorem gX4_readOrder_X4_skipBlanks : GoodIn wsX4_readOrder (wsV RX4 41 RX4 yX4_skipBlanks wsX4_skipBlanks) := goodIn_app (goodIn_of _ (by decide +kernel)) ggX4_readOrder_X4_skipBlanks
theorem dX4_readOrder_0 : decode cX4_readOrder 0 = .ok (.aload_n 0, 1) := by decide +kernel
theorem dX4_readOrder_1 : decode cX4_readOrder 1 = .ok (.invokevirtual 48, 3) := by decide +kernel
theorem dX4_readOrder_4 : decode cX4_readOrder 4 = .ok (.istore_n 1, 1) := by decide +kernel
theorem dX4_readOrder_5 : decode cX4_readOrder 5 = .ok (.iload_n 1, 1) := by decide +kernel
theorem dX4_readOrder_6 : decode cX4_readOrder 6 = .ok (.invokestatic 52, 3) := by decide +kernel
theorem dX4_readOrder_9 : decode cX4_readOrder 9 = .ok (.ifCond .eq 12, 3) := by decide +kernel
theorem dX4_readOrder_12 : decode cX4_readOrder 12 = .ok (.aload_n 0, 1) := by decide +kernel
theorem dX4_readOrder_13 : decode cX4_readOrder 13 = .ok (.getfield 35, 3) := by decide +kernel
theorem dX4_readOrder_16 : decode cX4_readOrder 16 = .ok (.bipush 40, 2) := by decide +kernel
theorem dX4_readOrder_18 : decode cX4_readOrder 18 = .ok (.if_icmp .lt 5, 3) := by decide +kernel
theorem dX4_readOrder_21 : decode cX4_readOrder 21 = .ok (.iconst 0, 1) := by decide +kernel
theorem dX4_readOrder_22 : decode cX4_readOrder 22 = .ok (.ireturn, 1) := by decide +kernel
theorem dX4_readOrder_23 : decode cX4_readOrder 23 = .ok (.aload_n 0, 1) := by decide +kernel
theorem dX4_readOrder_24 : decode cX4_readOrder 24 = .ok (.dup, 1) := by decide +kernel
theorem dX4_readOrder_25 : decode cX4_readOrder 25 = .ok (.getfield 38, 3) := by decide +kernel
theorem dX4_readOrder_28 : decode cX4_readOrder 28 = .ok (.iconst 1, 1) := by decide +kernel
theorem dX4_readOrder_29 : decode cX4_readOrder 29 = .ok (.iadd, 1) := by decide +kernel
theorem dX4_readOrder_30 : decode cX4_readOrder 30 = .ok (.putfield 38, 3) := by decide +kernel
theorem dX4_readOrder_33 : decode cX4_readOrder 33 = .ok (.aload_n 0, 1) := by decide +kernel
theorem dX4_readOrder_34 : decode cX4_readOrder 34 = .ok (.iload_n 1, 1) := by decide +kernel
theorem dX4_readOrder_35 : decode cX4_readOrder 35 = .ok (.bipush 112, 2) := by decide +kernel
theorem dX4_readOrder_37 : decode cX4_readOrder 37 = .ok (.if_icmp .eq 9, 3) := by decide +kernel
theorem dX4_readOrder_40 : decode cX4_readOrder 40 = .ok (.iload_n 1, 1) := by decide +kernel
theorem dX4_readOrder_41 : decode cX4_readOrder 41 = .ok (.bipush 108, 2) := by decide +kernel
theorem dX4_readOrder_43 : decode cX4_readOrder 43 = .ok (.if_icmp .ne 7, 3) := by decide +kernel
theorem dX4_readOrder_46 : decode cX4_readOrder 46 = .ok (.iconst 1, 1) := by decide +kernel
theorem dX4_readOrder_47 : decode cX4_readOrder 47 = .ok (.goto 4, 3) := by decide +kernel
theorem dX4_readOrder_50 : decode cX4_readOrder 50 = .ok (.iconst 0, 1) := by decide +kernel
theorem dX4_readOrder_51 : decode cX4_readOrder 51 = .ok (.invokevirtual 56, 3) := by decide +kernel
theorem dX4_readOrder_54 : decode cX4_readOrder 54 = .ok (.ifCond .ne 5, 3) := by decide +kernel
theorem dX4_readOrder_57 : decode cX4_readOrder 57 = .ok (.iconst 0, 1) := by decide +kernel
theorem dX4_readOrder_58 : decode cX4_readOrder 58 = .ok (.ireturn, 1) := by decide +kernel
theorem dX4_readOrder_59 : decode cX4_readOrder 59 = .ok (.aload_n 0, 1) := by decide +kernel
theorem dX4_readOrder_60 : decode cX4_readOrder 60 = .ok (.getfield 60, 3) := by decide +kernel
theorem dX4_readOrder_63 : decode cX4_readOrder 63 = .ok (.istore_n 2, 1) := by decide +kernel
theorem dX4_readOrder_64 : decode cX4_readOrder 64 = .ok (.iload_n 1, 1) := by decide +kernel
theorem dX4_readOrder_65 : decode cX4_readOrder 65 = .ok (.invokestatic 63, 3) := by decide +kernel
theorem dX4_readOrder_68 : decode cX4_readOrder 68 = .ok (.ifCond .eq 13, 3) := by decide +kernel
theorem dX4_readOrder_71 : decode cX4_readOrder 71 = .ok (.aload_n 0, 1) := by decide +kernel
theorem dX4_readOrder_72 : decode cX4_readOrder 72 = .ok (.iconst 0, 1) := by decide +kernel
theorem dX4_readOrder_73 : decode cX4_readOrder 73 = .ok (.invokevirtual 56, 3) := by decide +kernel
theorem dX4_readOrder_76 : decode cX4_readOrder 76 = .ok (.ifCond .ne 5, 3) := by decide +kernel
theorem dX4_readOrder_79 : decode cX4_readOrder 79 = .ok (.iconst 0, 1) := by decide +kernel
theorem dX4_readOrder_80 : decode cX4_readOrder 80 = .ok (.ireturn, 1) := by decide +kernel
theorem dX4_readOrder_81 : decode cX4_readOrder 81 = .ok (.aload_n 0, 1) := by decide +kernel
theorem dX4_readOrder_82 : decode cX4_readOrder 82 = .ok (.invokevirtual 41, 3) := by decide +kernel
theorem dX4_readOrder_85 : decode cX4_readOrder 85 = .ok (.aload_n 0, 1) := by decide +kernel
theorem dX4_readOrder_86 : decode cX4_readOrder 86 = .ok (.invokevirtual 48, 3) := by decide +kernel
theorem dX4_readOrder_89 : decode cX4_readOrder 89 = .ok (.bipush 59, 2) := by decide +kernel
theorem dX4_readOrder_91 : decode cX4_readOrder 91 = .ok (.if_icmp .eq 5, 3) := by decide +kernel
theorem dX4_readOrder_94 : decode cX4_readOrder 94 = .ok (.iconst 0, 1) := by decide +kernel
theorem dX4_readOrder_95 : decode cX4_readOrder 95 = .ok (.ireturn, 1) := by decide +kernel
theorem dX4_readOrder_96 : decode cX4_readOrder 96 = .ok (.aload_n 0, 1) := by decide +kernel
theorem dX4_readOrder_97 : decode cX4_readOrder 97 = .ok (.dup, 1) := by decide +kernel
theorem dX4_readOrder_98 : decode cX4_readOrder 98 = .ok (.getfield 38, 3) := by decide +kernel
theorem dX4_readOrder_101 : decode cX4_readOrder 101 = .ok (.iconst 1, 1) := by decide +kernel
theorem dX4_readOrder_102 : decode cX4_readOrder 102 = .ok (.iadd, 1) := by decide +kernel
theorem dX4_readOrder_103 : decode cX4_readOrder 103 = .ok (.putfield 38, 3) := by decide +kernel
theorem dX4_readOrder_106 : decode cX4_readOrder 106 = .ok (.aload_n 0, 1) := by decide +kernel
theorem dX4_readOrder_107 : decode cX4_readOrder 107 = .ok (.getfield 15, 3) := by decide +kernel
theorem dX4_readOrder_110 : decode cX4_readOrder 110 = .ok (.aload_n 0, 1) := by decide +kernel
theorem dX4_readOrder_111 : decode cX4_readOrder 111 = .ok (.getfield 35, 3) := by decide +kernel
theorem dX4_readOrder_114 : decode cX4_readOrder 114 = .ok (.iload_n 1, 1) := by decide +kernel
theorem dX4_readOrder_115 : decode cX4_readOrder 115 = .ok (.iastore, 1) := by decide +kernel
theorem dX4_readOrder_116 : decode cX4_readOrder 116 = .ok (.aload_n 0, 1) := by decide +kernel
theorem dX4_readOrder_117 : decode cX4_readOrder 117 = .ok (.getfield 19, 3) := by decide +kernel
theorem dX4_readOrder_120 : decode cX4_readOrder 120 = .ok (.aload_n 0, 1) := by decide +kernel
theorem dX4_readOrder_121 : decode cX4_readOrder 121 = .ok (.getfield 35, 3) := by decide +kernel
theorem dX4_readOrder_124 : decode cX4_readOrder 124 = .ok (.iload_n 2, 1) := by decide +kernel
theorem dX4_readOrder_125 : decode cX4_readOrder 125 = .ok (.iastore, 1) := by decide +kernel
theorem dX4_readOrder_126 : decode cX4_readOrder 126 = .ok (.aload_n 0, 1) := by decide +kernel
theorem dX4_readOrder_127 : decode cX4_readOrder 127 = .ok (.getfield 22, 3) := by decide +kernel
theorem dX4_readOrder_130 : decode cX4_readOrder 130 = .ok (.aload_n 0, 1) := by decide +kernel
theorem dX4_readOrder_131 : decode cX4_readOrder 131 = .ok (.getfield 35, 3) := by decide +kernel
theorem dX4_readOrder_134 : decode cX4_readOrder 134 = .ok (.aload_n 0, 1) := by decide +kernel
theorem dX4_readOrder_135 : decode cX4_readOrder 135 = .ok (.getfield 60, 3) := by decide +kernel
theorem dX4_readOrder_138 : decode cX4_readOrder 138 = .ok (.iastore, 1) := by decide +kernel
theorem dX4_readOrder_139 : decode cX4_readOrder 139 = .ok (.aload_n 0, 1) := by decide +kernel
theorem dX4_readOrder_140 : decode cX4_readOrder 140 = .ok (.dup, 1) := by decide +kernel
theorem dX4_readOrder_141 : decode cX4_readOrder 141 = .ok (.getfield 35, 3) := by decide +kernel
theorem dX4_readOrder_144 : decode cX4_readOrder 144 = .ok (.iconst 1, 1) := by decide +kernel
theorem dX4_readOrder_145 : decode cX4_readOrder 145 = .ok (.iadd, 1) := by decide +kernel
theorem dX4_readOrder_146 : decode cX4_readOrder 146 = .ok (.putfield 35, 3) := by decide +kernel
theorem dX4_readOrder_149 : decode cX4_readOrder 149 = .ok (.iconst 1, 1) := by decide +kernel
theorem dX4_readOrder_150 : decode cX4_readOrder 150 = .ok (.ireturn, 1) := by decide +kernel
set_option maxRecDepth 20000 in
theorem ggX4_readNumber_X4_skipBlanks : GoodIn wsX4_readNumber wsX4_skipBlanks := goodIn_r _ [7, 1, 8, 9, 10, 11, 6, 12, 13, 17, 18, 19, 20, 21, 22, 23, 24] (by decide +kernel) (by decide +kernel)
set_option maxRecDepth 20000 in
theorem gX4_readNumber_X4_skipBlanks : GoodIn wsX4_readNumber (wsV RX4 41 RX4 yX4_skipBlanks wsX4_skipBlanks) := goodIn_app (goodIn_of _ (by decide +kernel)) ggX4_readNumber_X4_skipBlanks
set_option maxRecDepth 20000 in
theorem ggX4_readNumber_X4_here : GoodIn wsX4_readNumber wsX4_here := goodIn_r _ [12, 1, 8, 13, 17, 18, 19, 20, 21, 22, 23, 24] (by decide +kernel) (by decide +kernel)
set_option maxRecDepth 20000 in
theorem gX4_readNumber_X4_here : GoodIn wsX4_readNumber (wsV RX4 48 RX4 yX4_here wsX4_here) := goodIn_app (goodIn_of _ (by decide +kernel)) ggX4_readNumber_X4_here
set_option maxRecDepth 20000 in
theorem ggX4_readNumber_X4_isFigure : GoodIn wsX4_readNumber wsX4_isFigure := goodIn_r _ [16] (by decide +kernel) (by decide +kernel)
set_option maxRecDepth 20000 in
theorem gX4_readNumber_X4_isFigure : GoodIn wsX4_readNumber (va_wsS RX4 66 yX4_isFigure wsX4_isFigure) := goodIn_app (goodIn_of _ (by decide +kernel)) ggX4_readNumber_X4_isFigure
theorem dX4_readNumber_0 : decode cX4_readNumber 0 = .ok (.aload_n 0, 1) := by decide +kernel
theorem dX4_readNumber_1 : decode cX4_readNumber 1 = .ok (.invokevirtual 41, 3) := by decide +kernel
theorem dX4_readNumber_4 : decode cX4_readNumber 4 = .ok (.iload_n 1, 1) := by decide +kernel
theorem dX4_readNumber_5 : decode cX4_readNumber 5 = .ok (.ifCond .eq 16, 3) := by decide +kernel
theorem dX4_readNumber_8 : decode cX4_readNumber 8 = .ok (.aload_n 0, 1) := by decide +kernel
theorem dX4_readNumber_9 : decode cX4_readNumber 9 = .ok (.invokevirtual 48, 3) := by decide +kernel
theorem dX4_readNumber_12 : decode cX4_readNumber 12 = .ok (.bipush 45, 2) := by decide +kernel
theorem dX4_readNumber_14 : decode cX4_readNumber 14 = .ok (.if_icmp .ne 7, 3) := by decide +kernel
theorem dX4_readNumber_17 : decode cX4_readNumber 17 = .ok (.iconst 1, 1) := by decide +kernel
theorem dX4_readNumber_18 : decode cX4_readNumber 18 = .ok (.goto 4, 3) := by decide +kernel
theorem dX4_readNumber_21 : decode cX4_readNumber 21 = .ok (.iconst 0, 1) := by decide +kernel
theorem dX4_readNumber_22 : decode cX4_readNumber 22 = .ok (.istore_n 2, 1) := by decide +kernel
theorem dX4_readNumber_23 : decode cX4_readNumber 23 = .ok (.iload_n 2, 1) := by decide +kernel
theorem dX4_readNumber_24 : decode cX4_readNumber 24 = .ok (.ifCond .eq 13, 3) := by decide +kernel
theorem dX4_readNumber_27 : decode cX4_readNumber 27 = .ok (.aload_n 0, 1) := by decide +kernel
theorem dX4_readNumber_28 : decode cX4_readNumber 28 = .ok (.dup, 1) := by decide +kernel
theorem dX4_readNumber_29 : decode cX4_readNumber 29 = .ok (.getfield 38, 3) := by decide +kernel
theorem dX4_readNumber_32 : decode cX4_readNumber 32 = .ok (.iconst 1, 1) := by decide +kernel
theorem dX4_readNumber_33 : decode cX4_readNumber 33 = .ok (.iadd, 1) := by decide +kernel
theorem dX4_readNumber_34 : decode cX4_readNumber 34 = .ok (.putfield 38, 3) := by decide +kernel
theorem dX4_readNumber_37 : decode cX4_readNumber 37 = .ok (.aload_n 0, 1) := by decide +kernel
theorem dX4_readNumber_38 : decode cX4_readNumber 38 = .ok (.invokevirtual 48, 3) := by decide +kernel
theorem dX4_readNumber_41 : decode cX4_readNumber 41 = .ok (.invokestatic 66, 3) := by decide +kernel
theorem dX4_readNumber_44 : decode cX4_readNumber 44 = .ok (.ifCond .ne 5, 3) := by decide +kernel
theorem dX4_readNumber_47 : decode cX4_readNumber 47 = .ok (.iconst 0, 1) := by decide +kernel
theorem dX4_readNumber_48 : decode cX4_readNumber 48 = .ok (.ireturn, 1) := by decide +kernel
theorem dX4_readNumber_49 : decode cX4_readNumber 49 = .ok (.iconst 0, 1) := by decide +kernel
theorem dX4_readNumber_50 : decode cX4_readNumber 50 = .ok (.istore_n 3, 1) := by decide +kernel
theorem dX4_readNumber_51 : decode cX4_readNumber 51 = .ok (.iconst 0, 1) := by decide +kernel
theorem dX4_readNumber_52 : decode cX4_readNumber 52 = .ok (.istore 4, 2) := by decide +kernel
theorem dX4_readNumber_54 : decode cX4_readNumber 54 = .ok (.iload 4, 2) := by decide +kernel
theorem dX4_readNumber_56 : decode cX4_readNumber 56 = .ok (.iconst 4, 1) := by decide +kernel
theorem dX4_readNumber_57 : decode cX4_readNumber 57 = .ok (.if_icmp .ge 42, 3) := by decide +kernel
theorem dX4_readNumber_60 : decode cX4_readNumber 60 = .ok (.aload_n 0, 1) := by decide +kernel
theorem dX4_readNumber_61 : decode cX4_readNumber 61 = .ok (.invokevirtual 48, 3) := by decide +kernel
theorem dX4_readNumber_64 : decode cX4_readNumber 64 = .ok (.invokestatic 66, 3) := by decide +kernel
theorem dX4_readNumber_67 : decode cX4_readNumber 67 = .ok (.ifCond .eq 32, 3) := by decide +kernel
theorem dX4_readNumber_70 : decode cX4_readNumber 70 = .ok (.bipush 10, 2) := by decide +kernel
theorem dX4_readNumber_72 : decode cX4_readNumber 72 = .ok (.iload_n 3, 1) := by decide +kernel
theorem dX4_readNumber_73 : decode cX4_readNumber 73 = .ok (.imul, 1) := by decide +kernel
theorem dX4_readNumber_74 : decode cX4_readNumber 74 = .ok (.aload_n 0, 1) := by decide +kernel
theorem dX4_readNumber_75 : decode cX4_readNumber 75 = .ok (.invokevirtual 48, 3) := by decide +kernel
theorem dX4_readNumber_78 : decode cX4_readNumber 78 = .ok (.iadd, 1) := by decide +kernel
theorem dX4_readNumber_79 : decode cX4_readNumber 79 = .ok (.bipush 48, 2) := by decide +kernel
theorem dX4_readNumber_81 : decode cX4_readNumber 81 = .ok (.isub, 1) := by decide +kernel
theorem dX4_readNumber_82 : decode cX4_readNumber 82 = .ok (.istore_n 3, 1) := by decide +kernel
theorem dX4_readNumber_83 : decode cX4_readNumber 83 = .ok (.aload_n 0, 1) := by decide +kernel
theorem dX4_readNumber_84 : decode cX4_readNumber 84 = .ok (.dup, 1) := by decide +kernel
theorem dX4_readNumber_85 : decode cX4_readNumber 85 = .ok (.getfield 38, 3) := by decide +kernel
theorem dX4_readNumber_88 : decode cX4_readNumber 88 = .ok (.iconst 1, 1) := by decide +kernel
theorem dX4_readNumber_89 : decode cX4_readNumber 89 = .ok (.iadd, 1) := by decide +kernel
theorem dX4_readNumber_90 : decode cX4_readNumber 90 = .ok (.putfield 38, 3) := by decide +kernel
theorem dX4_readNumber_93 : decode cX4_readNumber 93 = .ok (.iinc 4 1, 3) := by decide +kernel
theorem dX4_readNumber_96 : decode cX4_readNumber 96 = .ok (.goto (-42), 3) := by decide +kernel
theorem dX4_readNumber_99 : decode cX4_readNumber 99 = .ok (.aload_n 0, 1) := by decide +kernel
theorem dX4_readNumber_100 : decode cX4_readNumber 100 = .ok (.iload_n 2, 1) := by decide +kernel
theorem dX4_readNumber_101 : decode cX4_readNumber 101 = .ok (.ifCond .eq 8, 3) := by decide +kernel
theorem dX4_readNumber_104 : decode cX4_readNumber 104 = .ok (.iload_n 3, 1) := by decide +kernel
theorem dX4_readNumber_105 : decode cX4_readNumber 105 = .ok (.ineg, 1) := by decide +kernel
theorem dX4_readNumber_106 : decode cX4_readNumber 106 = .ok (.goto 4, 3) := by decide +kernel
theorem dX4_readNumber_109 : decode cX4_readNumber 109 = .ok (.iload_n 3, 1) := by decide +kernel
theorem dX4_readNumber_110 : decode cX4_readNumber 110 = .ok (.putfield 60, 3) := by decide +kernel
theorem dX4_readNumber_113 : decode cX4_readNumber 113 = .ok (.aload_n 0, 1) := by decide +kernel
theorem dX4_readNumber_114 : decode cX4_readNumber 114 = .ok (.invokevirtual 48, 3) := by decide +kernel
theorem dX4_readNumber_117 : decode cX4_readNumber 117 = .ok (.invokestatic 66, 3) := by decide +kernel
theorem dX4_readNumber_120 : decode cX4_readNumber 120 = .ok (.ifCond .ne 7, 3) := by decide +kernel
theorem dX4_readNumber_123 : decode cX4_readNumber 123 = .ok (.iconst 1, 1) := by decide +kernel
theorem dX4_readNumber_124 : decode cX4_readNumber 124 = .ok (.goto 4, 3) := by decide +kernel
theorem dX4_readNumber_127 : decode cX4_readNumber 127 = .ok (.iconst 0, 1) := by decide +kernel
theorem dX4_readNumber_128 : decode cX4_readNumber 128 = .ok (.ireturn, 1) := by decide +kernel
set_option maxRecDepth 20000 in
theorem ggX4_skipBlanks_X4_here : GoodIn wsX4_skipBlanks wsX4_here := goodIn_r _ [7, 1, 2, 8, 9, 10, 11, 12, 13, 14, 15, 16] (by decide +kernel) (by decide +kernel)
set_option maxRecDepth 20000 in
theorem gX4_skipBlanks_X4_here : GoodIn wsX4_skipBlanks (wsV RX4 48 RX4 yX4_here wsX4_here) := goodIn_app (goodIn_of _ (by decide +kernel)) ggX4_skipBlanks_X4_here
theorem dX4_skipBlanks_0 : decode cX4_skipBlanks 0 = .ok (.aload_n 0, 1) := by decide +kernel
theorem dX4_skipBlanks_1 : decode cX4_skipBlanks 1 = .ok (.getfield 38, 3) := by decide +kernel
theorem dX4_skipBlanks_4 : decode cX4_skipBlanks 4 = .ok (.aload_n 0, 1) := by decide +kernel
theorem dX4_skipBlanks_5 : decode cX4_skipBlanks 5 = .ok (.getfield 25, 3) := by decide +kernel
theorem dX4_skipBlanks_8 : decode cX4_skipBlanks 8 = .ok (.if_icmp .ge 25, 3) := by decide +kernel
theorem dX4_skipBlanks_11 : decode cX4_skipBlanks 11 = .ok (.aload_n 0, 1) := by decide +kernel
theorem dX4_skipBlanks_12 : decode cX4_skipBlanks 12 = .ok (.invokevirtual 48, 3) := by decide +kernel
theorem dX4_skipBlanks_15 : decode cX4_skipBlanks 15 = .ok (.bipush 32, 2) := by decide +kernel
theorem dX4_skipBlanks_17 : decode cX4_skipBlanks 17 = .ok (.if_icmp .ne 16, 3) := by decide +kernel
theorem dX4_skipBlanks_20 : decode cX4_skipBlanks 20 = .ok (.aload_n 0, 1) := by decide +kernel
theorem dX4_skipBlanks_21 : decode cX4_skipBlanks 21 = .ok (.dup, 1) := by decide +kernel
theorem dX4_skipBlanks_22 : decode cX4_skipBlanks 22 = .ok (.getfield 38, 3) := by decide +kernel
theorem dX4_skipBlanks_25 : decode cX4_skipBlanks 25 = .ok (.iconst 1, 1) := by decide +kernel
theorem dX4_skipBlanks_26 : decode cX4_skipBlanks 26 = .ok (.iadd, 1) := by decide +kernel
theorem dX4_skipBlanks_27 : decode cX4_skipBlanks 27 = .ok (.putfield 38, 3) := by decide +kernel
theorem dX4_skipBlanks_30 : decode cX4_skipBlanks 30 = .ok (.goto (-30), 3) := by decide +kernel
theorem dX4_skipBlanks_33 : decode cX4_skipBlanks 33 = .ok (.return_, 1) := by decide +kernel
theorem dX4_here_0 : decode cX4_here 0 = .ok (.aload_n 0, 1) := by decide +kernel
theorem dX4_here_1 : decode cX4_here 1 = .ok (.getfield 38, 3) := by decide +kernel
theorem dX4_here_4 : decode cX4_here 4 = .ok (.aload_n 0, 1) := by decide +kernel
theorem dX4_here_5 : decode cX4_here 5 = .ok (.getfield 25, 3) := by decide +kernel
theorem dX4_here_8 : decode cX4_here 8 = .ok (.if_icmp .ge 15, 3) := by decide +kernel
theorem dX4_here_11 : decode cX4_here 11 = .ok (.aload_n 0, 1) := by decide +kernel
theorem dX4_here_12 : decode cX4_here 12 = .ok (.getfield 11, 3) := by decide +kernel
theorem dX4_here_15 : decode cX4_here 15 = .ok (.aload_n 0, 1) := by decide +kernel
theorem dX4_here_16 : decode cX4_here 16 = .ok (.getfield 38, 3) := by decide +kernel
theorem dX4_here_19 : decode cX4_here 19 = .ok (.baload, 1) := by decide +kernel
theorem dX4_here_20 : decode cX4_here 20 = .ok (.goto 4, 3) := by decide +kernel
theorem dX4_here_23 : decode cX4_here 23 = .ok (.iconst (-1), 1) := by decide +kernel
theorem dX4_here_24 : decode cX4_here 24 = .ok (.ireturn, 1) := by decide +kernel
set_option maxRecDepth 20000 in
theorem ggX4_isKind_X4_hasSecond : GoodIn wsX4_isKind wsX4_hasSecond := goodIn_r _ [4] (by decide +kernel) (by decide +kernel)
set_option maxRecDepth 20000 in
theorem gX4_isKind_X4_hasSecond : GoodIn wsX4_isKind (va_wsS RX4 63 yX4_hasSecond wsX4_hasSecond) := goodIn_app (goodIn_of _ (by decide +kernel)) ggX4_isKind_X4_hasSecond
theorem dX4_isKind_0 : decode cX4_isKind 0 = .ok (.iload_n 0, 1) := by decide +kernel
theorem dX4_isKind_1 : decode cX4_isKind 1 = .ok (.bipush 114, 2) := by decide +kernel
theorem dX4_isKind_3 : decode cX4_isKind 3 = .ok (.if_icmp .eq 22, 3) := by decide +kernel
theorem dX4_isKind_6 : decode cX4_isKind 6 = .ok (.iload_n 0, 1) := by decide +kernel
theorem dX4_isKind_7 : decode cX4_isKind 7 = .ok (.bipush 111, 2) := by decide +kernel
theorem dX4_isKind_9 : decode cX4_isKind 9 = .ok (.if_icmp .eq 16, 3) := by decide +kernel
theorem dX4_isKind_12 : decode cX4_isKind 12 = .ok (.iload_n 0, 1) := by decide +kernel
theorem dX4_isKind_13 : decode cX4_isKind 13 = .ok (.bipush 103, 2) := by decide +kernel
theorem dX4_isKind_15 : decode cX4_isKind 15 = .ok (.if_icmp .eq 10, 3) := by decide +kernel
theorem dX4_isKind_18 : decode cX4_isKind 18 = .ok (.iload_n 0, 1) := by decide +kernel
theorem dX4_isKind_19 : decode cX4_isKind 19 = .ok (.invokestatic 63, 3) := by decide +kernel
theorem dX4_isKind_22 : decode cX4_isKind 22 = .ok (.ifCond .eq 7, 3) := by decide +kernel
theorem dX4_isKind_25 : decode cX4_isKind 25 = .ok (.iconst 1, 1) := by decide +kernel
theorem dX4_isKind_26 : decode cX4_isKind 26 = .ok (.goto 4, 3) := by decide +kernel
theorem dX4_isKind_29 : decode cX4_isKind 29 = .ok (.iconst 0, 1) := by decide +kernel
theorem dX4_isKind_30 : decode cX4_isKind 30 = .ok (.ireturn, 1) := by decide +kernel
theorem dX4_hasSecond_0 : decode cX4_hasSecond 0 = .ok (.iload_n 0, 1) := by decide +kernel
theorem dX4_hasSecond_1 : decode cX4_hasSecond 1 = .ok (.bipush 112, 2) := by decide +kernel
theorem dX4_hasSecond_3 : decode cX4_hasSecond 3 = .ok (.if_icmp .eq 15, 3) := by decide +kernel
theorem dX4_hasSecond_6 : decode cX4_hasSecond 6 = .ok (.iload_n 0, 1) := by decide +kernel
theorem dX4_hasSecond_7 : decode cX4_hasSecond 7 = .ok (.bipush 108, 2) := by decide +kernel
theorem dX4_hasSecond_9 : decode cX4_hasSecond 9 = .ok (.if_icmp .eq 9, 3) := by decide +kernel
theorem dX4_hasSecond_12 : decode cX4_hasSecond 12 = .ok (.iload_n 0, 1) := by decide +kernel
theorem dX4_hasSecond_13 : decode cX4_hasSecond 13 = .ok (.bipush 99, 2) := by decide +kernel
theorem dX4_hasSecond_15 : decode cX4_hasSecond 15 = .ok (.if_icmp .ne 7, 3) := by decide +kernel
theorem dX4_hasSecond_18 : decode cX4_hasSecond 18 = .ok (.iconst 1, 1) := by decide +kernel
theorem dX4_hasSecond_19 : decode cX4_hasSecond 19 = .ok (.goto 4, 3) := by decide +kernel
theorem dX4_hasSecond_22 : decode cX4_hasSecond 22 = .ok (.iconst 0, 1) := by decide +kernel
theorem dX4_hasSecond_23 : decode cX4_hasSecond 23 = .ok (.ireturn, 1) := by decide +kernel
theorem dX4_isFigure_0 : decode cX4_isFigure 0 = .ok (.iload_n 0, 1) := by decide +kernel
theorem dX4_isFigure_1 : decode cX4_isFigure 1 = .ok (.bipush 48, 2) := by decide +kernel
theorem dX4_isFigure_3 : decode cX4_isFigure 3 = .ok (.if_icmp .lt 13, 3) := by decide +kernel
theorem dX4_isFigure_6 : decode cX4_isFigure 6 = .ok (.iload_n 0, 1) := by decide +kernel
theorem dX4_isFigure_7 : decode cX4_isFigure 7 = .ok (.bipush 57, 2) := by decide +kernel
theorem dX4_isFigure_9 : decode cX4_isFigure 9 = .ok (.if_icmp .gt 7, 3) := by decide +kernel
theorem dX4_isFigure_12 : decode cX4_isFigure 12 = .ok (.iconst 1, 1) := by decide +kernel
theorem dX4_isFigure_13 : decode cX4_isFigure 13 = .ok (.goto 4, 3) := by decide +kernel
theorem dX4_isFigure_16 : decode cX4_isFigure 16 = .ok (.iconst 0, 1) := by decide +kernel
theorem dX4_isFigure_17 : decode cX4_isFigure 17 = .ok (.ireturn, 1) := by decide +kernel
set_option maxRecDepth 20000 in
theorem ggX5_init_X1_init : GoodIn wsX5_init wsX1_init := goodIn_r _ [18, 19, 2, 3, 20, 21, 22, 23, 24, 25, 26, 27, 28, 29, 30, 31, 32, 33, 34, 35, 36, 37, 38, 39, 40, 41, 42, 43, 44, 45, 46, 47, 48, 49, 98, 66, 67, 68, 69, 70, 71, 72, 73, 74, 75, 76, 77, 78, 79, 80, 99, 100] (by decide +kernel) (by decide +kernel)
set_option maxRecDepth 20000 in
theorem gX5_init_X1_init : GoodIn wsX5_init (wsX1_init) := ggX5_init_X1_init
set_option maxRecDepth 20000 in
theorem ggX5_init_X3_init : GoodIn wsX5_init wsX3_init := goodIn_r _ [52, 53, 2, 3, 54, 55, 5, 6, 56, 17, 18, 19, 20, 21, 22, 23, 24, 25, 26, 27, 28, 29, 30, 31, 32, 33, 34, 35, 36, 37, 38, 39, 40, 41, 42, 43, 44, 45, 46, 47, 48, 49, 87, 88, 89, 66, 67, 68, 69, 70, 71, 72, 73, 74, 75, 76, 77, 78, 79, 80, 98, 99, 100] (by decide +kernel) (by decide +kernel)
set_option maxRecDepth 20000 in
theorem gX5_init_X3_init : GoodIn wsX5_init (wsX3_init) := ggX5_init_X3_init
set_option maxRecDepth 20000 in
theorem ggX5_init_X4_init : GoodIn wsX5_init wsX4_init := goodIn_r _ [59, 60, 2, 3, 61, 62, 41, 63, 64, 65, 90, 91, 92, 93, 94, 95, 96, 97] (by decide +kernel) (by decide +kernel)
set_option maxRecDepth 20000 in
theorem gX5_init_X4_init : GoodIn wsX5_init (wsX4_init) := ggX5_init_X4_init
theorem dX5_init_0 : decode cX5_init 0 = .ok (.aload_n 0, 1) := by decide +kernel
theorem dX5_init_1 : decode cX5_init 1 = .ok (.invokespecial 1, 3) := by decide +kernel
theorem dX5_init_4 : decode cX5_init 4 = .ok (.aload_n 0, 1) := by decide +kernel
theorem dX5_init_5 : decode cX5_init 5 = .ok (.new 7, 3) := by decide +kernel
theorem dX5_init_8 : decode cX5_init 8 = .ok (.dup, 1) := by decide +kernel
theorem dX5_init_9 : decode cX5_init 9 = .ok (.invokespecial 9, 3) := by decide +kernel
theorem dX5_init_12 : decode cX5_init 12 = .ok (.putfield 10, 3) := by decide +kernel
theorem dX5_init_15 : decode cX5_init 15 = .ok (.aload_n 0, 1) := by decide +kernel
theorem dX5_init_16 : decode cX5_init 16 = .ok (.new 16, 3) := by decide +kernel
theorem dX5_init_19 : decode cX5_init 19 = .ok (.dup, 1) := by decide +kernel
theorem dX5_init_20 : decode cX5_init 20 = .ok (.invokespecial 18, 3) := by decide +kernel
theorem dX5_init_23 : decode cX5_init 23 = .ok (.putfield 19, 3) := by decide +kernel
theorem dX5_init_26 : decode cX5_init 26 = .ok (.aload_n 0, 1) := by decide +kernel
theorem dX5_init_27 : decode cX5_init 27 = .ok (.new 23, 3) := by decide +kernel
theorem dX5_init_30 : decode cX5_init 30 = .ok (.dup, 1) := by decide +kernel
theorem dX5_init_31 : decode cX5_init 31 = .ok (.invokespecial 25, 3) := by decide +kernel
theorem dX5_init_34 : decode cX5_init 34 = .ok (.putfield 26, 3) := by decide +kernel
theorem dX5_init_37 : decode cX5_init 37 = .ok (.return_, 1) := by decide +kernel
set_option maxRecDepth 20000 in
theorem ggX5_begins_X3_mark : GoodIn wsX5_begins wsX3_mark := goodIn_r _ [7, 8, 9, 10, 11, 12, 13, 14, 15, 16, 17, 18, 19, 20, 21, 22, 23, 24, 25, 26, 27, 28, 29, 30, 31, 32, 33, 34, 35, 36, 37, 38, 39, 40, 41, 42, 43, 44, 45, 46, 47, 97, 98, 99, 100, 101, 102, 103, 104, 105, 106, 107, 108, 109, 110, 111, 112, 113, 114, 115, 116, 117] (by decide +kernel) (by decide +kernel)
set_option maxRecDepth 20000 in
theorem gX5_begins_X3_mark : GoodIn wsX5_begins (wsV RX5 30 RX3 yX3_mark wsX3_mark) := goodIn_app (goodIn_of _ (by decide +kernel)) ggX5_begins_X3_mark
set_option maxRecDepth 20000 in
theorem ggX5_begins_X1_begin : GoodIn wsX5_begins wsX1_begin := goodIn_r _ [51, 52, 19, 20, 17, 18, 23, 24, 25, 53, 26, 27, 28, 29, 16, 54, 55, 13, 56, 57, 58, 59, 60, 61, 62, 63, 43, 64, 45, 47, 100, 101, 102, 103, 104, 105, 106, 107, 108, 109, 110, 111, 112, 113, 114, 116, 117] (by decide +kernel) (by decide +kernel)
set_option maxRecDepth 20000 in
theorem gX5_begins_X1_begin : GoodIn wsX5_begins (wsV RX5 34 RX1 yX1_begin wsX1_begin) := goodIn_app (goodIn_of _ (by decide +kernel)) ggX5_begins_X1_begin
set_option maxRecDepth 20000 in
theorem ggX5_begins_X5_settled : GoodIn wsX5_begins wsX5_settled := goodIn_r _ [68, 1, 69, 70, 59, 71, 72, 73, 74, 75, 76, 77, 6, 78, 9, 79, 80, 81, 82, 83, 84, 85, 86, 87, 88, 89, 90, 91, 92, 93, 94, 95, 96, 97, 98, 99] (by decide +kernel) (by decide +kernel)
set_option maxRecDepth 20000 in
theorem gX5_begins_X5_settled : GoodIn wsX5_begins (wsV RX5 38 RX5 yX5_settled wsX5_settled) := goodIn_app (goodIn_of _ (by decide +kernel)) ggX5_begins_X5_settled
theorem dX5_begins_0 : decode cX5_begins 0 = .ok (.aload_n 0, 1) := by decide +kernel
theorem dX5_begins_1 : decode cX5_begins 1 = .ok (.getfield 19, 3) := by decide +kernel
theorem dX5_begins_4 : decode cX5_begins 4 = .ok (.aload_n 0, 1) := by decide +kernel
theorem dX5_begins_5 : decode cX5_begins 5 = .ok (.getfield 10, 3) := by decide +kernel
theorem dX5_begins_8 : decode cX5_begins 8 = .ok (.invokevirtual 30, 3) := by decide +kernel
theorem dX5_begins_11 : decode cX5_begins 11 = .ok (.aload_n 0, 1) := by decide +kernel
theorem dX5_begins_12 : decode cX5_begins 12 = .ok (.aload_n 0, 1) := by decide +kernel
theorem dX5_begins_13 : decode cX5_begins 13 = .ok (.getfield 10, 3) := by decide +kernel
theorem dX5_begins_16 : decode cX5_begins 16 = .ok (.iload_n 1, 1) := by decide +kernel
theorem dX5_begins_17 : decode cX5_begins 17 = .ok (.iload_n 2, 1) := by decide +kernel
theorem dX5_begins_18 : decode cX5_begins 18 = .ok (.invokevirtual 34, 3) := by decide +kernel
theorem dX5_begins_21 : decode cX5_begins 21 = .ok (.invokevirtual 38, 3) := by decide +kernel
theorem dX5_begins_24 : decode cX5_begins 24 = .ok (.ireturn, 1) := by decide +kernel
set_option maxRecDepth 20000 in
theorem ggX5_holds_X3_mark : GoodIn wsX5_holds wsX3_mark := goodIn_r _ [7, 8, 9, 10, 11, 12, 13, 14, 15, 16, 17, 18, 19, 20, 21, 22, 23, 24, 25, 26, 27, 28, 29, 30, 31, 32, 33, 34, 35, 36, 37, 38, 39, 40, 41, 42, 43, 44, 45, 46, 47, 92, 93, 94, 95, 96, 97, 98, 99, 100, 101, 102, 103, 104, 105, 106, 107, 108, 109, 110, 111, 112] (by decide +kernel) (by decide +kernel)
set_option maxRecDepth 20000 in
theorem gX5_holds_X3_mark : GoodIn wsX5_holds (wsV RX5 30 RX3 yX3_mark wsX3_mark) := goodIn_app (goodIn_of _ (by decide +kernel)) ggX5_holds_X3_mark
set_option maxRecDepth 20000 in
theorem ggX5_holds_X1_hold : GoodIn wsX5_holds wsX1_hold := goodIn_r _ [51, 20, 52, 18, 17, 53, 54, 13, 55, 56, 57, 58, 59, 95, 96, 97, 98, 99, 100, 101, 102, 103, 104, 105, 106, 107, 108, 109] (by decide +kernel) (by decide +kernel)
set_option maxRecDepth 20000 in
theorem gX5_holds_X1_hold : GoodIn wsX5_holds (wsV RX5 42 RX1 yX1_hold wsX1_hold) := goodIn_app (goodIn_of _ (by decide +kernel)) ggX5_holds_X1_hold
set_option maxRecDepth 20000 in
theorem ggX5_holds_X5_settled : GoodIn wsX5_holds wsX5_settled := goodIn_r _ [63, 1, 64, 65, 58, 66, 67, 68, 69, 70, 71, 72, 6, 73, 9, 74, 75, 76, 77, 78, 79, 80, 81, 82, 83, 84, 85, 86, 87, 88, 89, 90, 91, 92, 93, 94] (by decide +kernel) (by decide +kernel)
set_option maxRecDepth 20000 in
theorem gX5_holds_X5_settled : GoodIn wsX5_holds (wsV RX5 38 RX5 yX5_settled wsX5_settled) := goodIn_app (goodIn_of _ (by decide +kernel)) ggX5_holds_X5_settled
theorem dX5_holds_0 : decode cX5_holds 0 = .ok (.aload_n 0, 1) := by decide +kernel
theorem dX5_holds_1 : decode cX5_holds 1 = .ok (.getfield 19, 3) := by decide +kernel
theorem dX5_holds_4 : decode cX5_holds 4 = .ok (.aload_n 0, 1) := by decide +kernel
theorem dX5_holds_5 : decode cX5_holds 5 = .ok (.getfield 10, 3) := by decide +kernel
theorem dX5_holds_8 : decode cX5_holds 8 = .ok (.invokevirtual 30, 3) := by decide +kernel
theorem dX5_holds_11 : decode cX5_holds 11 = .ok (.aload_n 0, 1) := by decide +kernel
theorem dX5_holds_12 : decode cX5_holds 12 = .ok (.aload_n 0, 1) := by decide +kernel
theorem dX5_holds_13 : decode cX5_holds 13 = .ok (.getfield 10, 3) := by decide +kernel
theorem dX5_holds_16 : decode cX5_holds 16 = .ok (.iload_n 1, 1) := by decide +kernel
theorem dX5_holds_17 : decode cX5_holds 17 = .ok (.iload_n 2, 1) := by decide +kernel
theorem dX5_holds_18 : decode cX5_holds 18 = .ok (.invokevirtual 42, 3) := by decide +kernel
theorem dX5_holds_21 : decode cX5_holds 21 = .ok (.invokevirtual 38, 3) := by decide +kernel
theorem dX5_holds_24 : decode cX5_holds 24 = .ok (.ireturn, 1) := by decide +kernel
set_option maxRecDepth 20000 in
theorem ggX5_offset_X3_mark : GoodIn wsX5_offset wsX3_mark := goodIn_r _ [7, 8, 9, 10, 11, 12, 13, 14, 15, 16, 17, 18, 19, 20, 21, 22, 23, 24, 25, 26, 27, 28, 29, 30, 31, 32, 33, 34, 35, 36, 37, 38, 39, 40, 41, 42, 43, 44, 45, 46, 47, 88, 89, 90, 91, 92, 93, 94, 95, 96, 97, 98, 99, 100, 101, 102, 103, 104, 105, 106, 107, 108] (by decide +kernel) (by decide +kernel)
set_option maxRecDepth 20000 in
theorem gX5_offset_X3_mark : GoodIn wsX5_offset (wsV RX5 30 RX3 yX3_mark wsX3_mark) := goodIn_app (goodIn_of _ (by decide +kernel)) ggX5_offset_X3_mark
set_option maxRecDepth 20000 in
theorem ggX5_offset_X1_putOffset : GoodIn wsX5_offset wsX1_putOffset := goodIn_r _ [51, 52, 21, 53, 54, 55, 91, 92, 93, 94, 95, 96, 97, 98, 99, 100, 101, 102, 103, 104, 105] (by decide +kernel) (by decide +kernel)
set_option maxRecDepth 20000 in
theorem gX5_offset_X1_putOffset : GoodIn wsX5_offset (wsV RX5 45 RX1 yX1_putOffset wsX1_putOffset) := goodIn_app (goodIn_of _ (by decide +kernel)) ggX5_offset_X1_putOffset
set_option maxRecDepth 20000 in
theorem ggX5_offset_X5_settled : GoodIn wsX5_offset wsX5_settled := goodIn_r _ [59, 1, 60, 61, 54, 62, 63, 64, 65, 66, 67, 68, 6, 69, 9, 70, 71, 72, 73, 74, 75, 76, 77, 78, 79, 80, 81, 82, 83, 84, 85, 86, 87, 88, 89, 90] (by decide +kernel) (by decide +kernel)
set_option maxRecDepth 20000 in
theorem gX5_offset_X5_settled : GoodIn wsX5_offset (wsV RX5 38 RX5 yX5_settled wsX5_settled) := goodIn_app (goodIn_of _ (by decide +kernel)) ggX5_offset_X5_settled
theorem dX5_offset_0 : decode cX5_offset 0 = .ok (.aload_n 0, 1) := by decide +kernel
theorem dX5_offset_1 : decode cX5_offset 1 = .ok (.getfield 19, 3) := by decide +kernel
theorem dX5_offset_4 : decode cX5_offset 4 = .ok (.aload_n 0, 1) := by decide +kernel
theorem dX5_offset_5 : decode cX5_offset 5 = .ok (.getfield 10, 3) := by decide +kernel
theorem dX5_offset_8 : decode cX5_offset 8 = .ok (.invokevirtual 30, 3) := by decide +kernel
theorem dX5_offset_11 : decode cX5_offset 11 = .ok (.aload_n 0, 1) := by decide +kernel
theorem dX5_offset_12 : decode cX5_offset 12 = .ok (.aload_n 0, 1) := by decide +kernel
theorem dX5_offset_13 : decode cX5_offset 13 = .ok (.getfield 10, 3) := by decide +kernel
theorem dX5_offset_16 : decode cX5_offset 16 = .ok (.iload_n 1, 1) := by decide +kernel
theorem dX5_offset_17 : decode cX5_offset 17 = .ok (.invokevirtual 45, 3) := by decide +kernel
theorem dX5_offset_20 : decode cX5_offset 20 = .ok (.invokevirtual 38, 3) := by decide +kernel
theorem dX5_offset_23 : decode cX5_offset 23 = .ok (.ireturn, 1) := by decide +kernel
set_option maxRecDepth 20000 in
theorem ggX5_clings_X3_mark : GoodIn wsX5_clings wsX3_mark := goodIn_r _ [7, 8, 9, 10, 11, 12, 13, 14, 15, 16, 17, 18, 19, 20, 21, 22, 23, 24, 25, 26, 27, 28, 29, 30, 31, 32, 33, 34, 35, 36, 37, 38, 39, 40, 41, 42, 43, 44, 45, 46, 47, 88, 89, 90, 91, 92, 93, 94, 95, 96, 97, 98, 99, 100, 101, 102, 103, 104, 105, 106, 107, 108] (by decide +kernel) (by decide +kernel)
set_option maxRecDepth 20000 in
theorem gX5_clings_X3_mark : GoodIn wsX5_clings (wsV RX5 30 RX3 yX3_mark wsX3_mark) := goodIn_app (goodIn_of _ (by decide +kernel)) ggX5_clings_X3_mark
set_option maxRecDepth 20000 in
theorem ggX5_clings_X1_putCling : GoodIn wsX5_clings wsX1_putCling := goodIn_r _ [51, 52, 22, 53, 54, 55, 91, 92, 93, 94, 95, 96, 97, 98, 99, 100, 101, 102, 103, 104, 105] (by decide +kernel) (by decide +kernel)
set_option maxRecDepth 20000 in
theorem gX5_clings_X1_putCling : GoodIn wsX5_clings (wsV RX5 48 RX1 yX1_putCling wsX1_putCling) := goodIn_app (goodIn_of _ (by decide +kernel)) ggX5_clings_X1_putCling
set_option maxRecDepth 20000 in
theorem ggX5_clings_X5_settled : GoodIn wsX5_clings wsX5_settled := goodIn_r _ [59, 1, 60, 61, 54, 62, 63, 64, 65, 66, 67, 68, 6, 69, 9, 70, 71, 72, 73, 74, 75, 76, 77, 78, 79, 80, 81, 82, 83, 84, 85, 86, 87, 88, 89, 90] (by decide +kernel) (by decide +kernel)
set_option maxRecDepth 20000 in
theorem gX5_clings_X5_settled : GoodIn wsX5_clings (wsV RX5 38 RX5 yX5_settled wsX5_settled) := goodIn_app (goodIn_of _ (by decide +kernel)) ggX5_clings_X5_settled
theorem dX5_clings_0 : decode cX5_clings 0 = .ok (.aload_n 0, 1) := by decide +kernel
theorem dX5_clings_1 : decode cX5_clings 1 = .ok (.getfield 19, 3) := by decide +kernel
theorem dX5_clings_4 : decode cX5_clings 4 = .ok (.aload_n 0, 1) := by decide +kernel
theorem dX5_clings_5 : decode cX5_clings 5 = .ok (.getfield 10, 3) := by decide +kernel
theorem dX5_clings_8 : decode cX5_clings 8 = .ok (.invokevirtual 30, 3) := by decide +kernel
theorem dX5_clings_11 : decode cX5_clings 11 = .ok (.aload_n 0, 1) := by decide +kernel
theorem dX5_clings_12 : decode cX5_clings 12 = .ok (.aload_n 0, 1) := by decide +kernel
theorem dX5_clings_13 : decode cX5_clings 13 = .ok (.getfield 10, 3) := by decide +kernel
theorem dX5_clings_16 : decode cX5_clings 16 = .ok (.iload_n 1, 1) := by decide +kernel
theorem dX5_clings_17 : decode cX5_clings 17 = .ok (.invokevirtual 48, 3) := by decide +kernel
theorem dX5_clings_20 : decode cX5_clings 20 = .ok (.invokevirtual 38, 3) := by decide +kernel
theorem dX5_clings_23 : decode cX5_clings 23 = .ok (.ireturn, 1) := by decide +kernel
set_option maxRecDepth 20000 in
theorem ggX5_curve_X3_mark : GoodIn wsX5_curve wsX3_mark := goodIn_r _ [7, 8, 9, 10, 11, 12, 13, 14, 15, 16, 17, 18, 19, 20, 21, 22, 23, 24, 25, 26, 27, 28, 29, 30, 31, 32, 33, 34, 35, 36, 37, 38, 39, 40, 41, 42, 43, 44, 45, 46, 47, 93, 94, 95, 96, 97, 98, 99, 100, 101, 102, 103, 104, 105, 106, 107, 108, 109, 110, 111, 112, 113] (by decide +kernel) (by decide +kernel)
set_option maxRecDepth 20000 in
theorem gX5_curve_X3_mark : GoodIn wsX5_curve (wsV RX5 30 RX3 yX3_mark wsX3_mark) := goodIn_app (goodIn_of _ (by decide +kernel)) ggX5_curve_X3_mark
set_option maxRecDepth 20000 in
theorem ggX5_curve_X1_putPoint : GoodIn wsX5_curve wsX1_putPoint := goodIn_r _ [51, 15, 52, 53, 54, 33, 55, 56, 35, 57, 58, 59, 60, 96, 97, 98, 99, 100, 101, 102, 103, 104, 105, 106, 107, 108, 109, 110, 111] (by decide +kernel) (by decide +kernel)
set_option maxRecDepth 20000 in
theorem gX5_curve_X1_putPoint : GoodIn wsX5_curve (wsV RX5 51 RX1 yX1_putPoint wsX1_putPoint) := goodIn_app (goodIn_of _ (by decide +kernel)) ggX5_curve_X1_putPoint
set_option maxRecDepth 20000 in
theorem ggX5_curve_X5_settled : GoodIn wsX5_curve wsX5_settled := goodIn_r _ [64, 1, 65, 66, 59, 67, 68, 69, 70, 71, 72, 73, 6, 74, 9, 75, 76, 77, 78, 79, 80, 81, 82, 83, 84, 85, 86, 87, 88, 89, 90, 91, 92, 93, 94, 95] (by decide +kernel) (by decide +kernel)
set_option maxRecDepth 20000 in
theorem gX5_curve_X5_settled : GoodIn wsX5_curve (wsV RX5 38 RX5 yX5_settled wsX5_settled) := goodIn_app (goodIn_of _ (by decide +kernel)) ggX5_curve_X5_settled
theorem dX5_curve_0 : decode cX5_curve 0 = .ok (.aload_n 0, 1) := by decide +kernel
theorem dX5_curve_1 : decode cX5_curve 1 = .ok (.getfield 19, 3) := by decide +kernel
theorem dX5_curve_4 : decode cX5_curve 4 = .ok (.aload_n 0, 1) := by decide +kernel
theorem dX5_curve_5 : decode cX5_curve 5 = .ok (.getfield 10, 3) := by decide +kernel
theorem dX5_curve_8 : decode cX5_curve 8 = .ok (.invokevirtual 30, 3) := by decide +kernel
theorem dX5_curve_11 : decode cX5_curve 11 = .ok (.aload_n 0, 1) := by decide +kernel
theorem dX5_curve_12 : decode cX5_curve 12 = .ok (.aload_n 0, 1) := by decide +kernel
theorem dX5_curve_13 : decode cX5_curve 13 = .ok (.getfield 10, 3) := by decide +kernel
theorem dX5_curve_16 : decode cX5_curve 16 = .ok (.iload_n 1, 1) := by decide +kernel
theorem dX5_curve_17 : decode cX5_curve 17 = .ok (.iload_n 2, 1) := by decide +kernel
theorem dX5_curve_18 : decode cX5_curve 18 = .ok (.invokevirtual 51, 3) := by decide +kernel
theorem dX5_curve_21 : decode cX5_curve 21 = .ok (.invokevirtual 38, 3) := by decide +kernel
theorem dX5_curve_24 : decode cX5_curve 24 = .ok (.ireturn, 1) := by decide +kernel
set_option maxRecDepth 20000 in
theorem ggX5_passes_X3_mark : GoodIn wsX5_passes wsX3_mark := goodIn_r _ [7, 8, 9, 10, 11, 12, 13, 14, 15, 16, 17, 18, 19, 20, 21, 22, 23, 24, 25, 26, 27, 28, 29, 30, 31, 32, 33, 34, 35, 36, 37, 38, 39, 40, 41, 42, 43, 44, 45, 46, 47, 105, 106, 107, 108, 109, 110, 111, 112, 113, 114, 115, 116, 117, 118, 119, 120, 121, 122, 123, 124, 125] (by decide +kernel) (by decide +kernel)
set_option maxRecDepth 20000 in
theorem gX5_passes_X3_mark : GoodIn wsX5_passes (wsV RX5 30 RX3 yX3_mark wsX3_mark) := goodIn_app (goodIn_of _ (by decide +kernel)) ggX5_passes_X3_mark
set_option maxRecDepth 20000 in
theorem ggX5_passes_X1_pass : GoodIn wsX5_passes wsX1_pass := goodIn_r _ [51, 52, 17, 21, 53, 54, 55, 56, 18, 20, 57, 58, 59, 60, 23, 24, 61, 62, 63, 64, 65, 66, 13, 67, 29, 68, 69, 70, 71, 19, 72, 73, 74, 75, 108, 109, 110, 111, 112, 113, 114, 115, 116, 117, 118, 119, 120, 121, 122] (by decide +kernel) (by decide +kernel)
set_option maxRecDepth 20000 in
theorem gX5_passes_X1_pass : GoodIn wsX5_passes (wsV RX5 54 RX1 yX1_pass wsX1_pass) := goodIn_app (goodIn_of _ (by decide +kernel)) ggX5_passes_X1_pass
set_option maxRecDepth 20000 in
theorem ggX5_passes_X5_settled : GoodIn wsX5_passes wsX5_settled := goodIn_r _ [79, 1, 80, 81, 62, 82, 83, 84, 85, 86, 87, 88, 6, 89, 9, 90, 91, 58, 55, 59, 92, 93, 94, 95, 96, 97, 98, 99, 100, 101, 102, 103, 104, 105, 106, 107] (by decide +kernel) (by decide +kernel)
set_option maxRecDepth 20000 in
theorem gX5_passes_X5_settled : GoodIn wsX5_passes (wsV RX5 38 RX5 yX5_settled wsX5_settled) := goodIn_app (goodIn_of _ (by decide +kernel)) ggX5_passes_X5_settled
theorem dX5_passes_0 : decode cX5_passes 0 = .ok (.aload_n 0, 1) := by decide +kernel
theorem dX5_passes_1 : decode cX5_passes 1 = .ok (.getfield 19, 3) := by decide +kernel
theorem dX5_passes_4 : decode cX5_passes 4 = .ok (.aload_n 0, 1) := by decide +kernel
theorem dX5_passes_5 : decode cX5_passes 5 = .ok (.getfield 10, 3) := by decide +kernel
theorem dX5_passes_8 : decode cX5_passes 8 = .ok (.invokevirtual 30, 3) := by decide +kernel
theorem dX5_passes_11 : decode cX5_passes 11 = .ok (.aload_n 0, 1) := by decide +kernel
theorem dX5_passes_12 : decode cX5_passes 12 = .ok (.aload_n 0, 1) := by decide +kernel
theorem dX5_passes_13 : decode cX5_passes 13 = .ok (.getfield 10, 3) := by decide +kernel
theorem dX5_passes_16 : decode cX5_passes 16 = .ok (.iload_n 1, 1) := by decide +kernel
theorem dX5_passes_17 : decode cX5_passes 17 = .ok (.iload_n 2, 1) := by decide +kernel
theorem dX5_passes_18 : decode cX5_passes 18 = .ok (.invokevirtual 54, 3) := by decide +kernel
theorem dX5_passes_21 : decode cX5_passes 21 = .ok (.invokevirtual 38, 3) := by decide +kernel
theorem dX5_passes_24 : decode cX5_passes 24 = .ok (.ireturn, 1) := by decide +kernel
set_option maxRecDepth 20000 in
theorem ggX5_rests_X3_mark : GoodIn wsX5_rests wsX3_mark := goodIn_r _ [7, 8, 9, 10, 11, 12, 13, 14, 15, 16, 17, 18, 19, 20, 21, 22, 23, 24, 25, 26, 27, 28, 29, 30, 31, 32, 33, 34, 35, 36, 37, 38, 39, 40, 41, 42, 43, 44, 45, 46, 47, 138, 139, 140, 141, 142, 143, 144, 145, 146, 147, 148, 149, 150, 151, 152, 153, 154, 155, 156, 157, 158] (by decide +kernel) (by decide +kernel)
set_option maxRecDepth 20000 in
theorem gX5_rests_X3_mark : GoodIn wsX5_rests (wsV RX5 30 RX3 yX3_mark wsX3_mark) := goodIn_app (goodIn_of _ (by decide +kernel)) ggX5_rests_X3_mark
set_option maxRecDepth 20000 in
theorem ggX5_rests_X1_rest : GoodIn wsX5_rests wsX1_rest := goodIn_r _ [51, 52, 53, 54, 25, 18, 20, 55, 56, 57, 58, 17, 23, 24, 26, 27, 59, 60, 13, 61, 62, 63, 64, 65, 66, 67, 68, 15, 22, 69, 70, 71, 72, 73, 74, 33, 75, 76, 77, 78, 79, 80, 81, 82, 83, 84, 85, 35, 86, 87, 88, 89, 90, 91, 92, 93, 21, 19, 94, 95, 96, 97, 98, 99, 100, 28, 101, 102, 103, 104, 105, 106, 107, 108, 29, 141, 142, 143, 144, 145, 146, 147, 148, 149, 150, 151, 152, 153, 154, 155, 156] (by decide +kernel) (by decide +kernel)
set_option maxRecDepth 20000 in
theorem gX5_rests_X1_rest : GoodIn wsX5_rests (wsV RX5 57 RX1 yX1_rest wsX1_rest) := goodIn_app (goodIn_of _ (by decide +kernel)) ggX5_rests_X1_rest
set_option maxRecDepth 20000 in
theorem ggX5_rests_X5_settled : GoodIn wsX5_rests wsX5_settled := goodIn_r _ [112, 1, 113, 114, 63, 115, 116, 117, 118, 119, 120, 121, 6, 122, 9, 123, 124, 56, 57, 58, 125, 126, 127, 128, 129, 130, 131, 132, 133, 134, 135, 136, 137, 138, 139, 140] (by decide +kernel) (by decide +kernel)
set_option maxRecDepth 20000 in
theorem gX5_rests_X5_settled : GoodIn wsX5_rests (wsV RX5 38 RX5 yX5_settled wsX5_settled) := goodIn_app (goodIn_of _ (by decide +kernel)) ggX5_rests_X5_settled
theorem dX5_rests_0 : decode cX5_rests 0 = .ok (.aload_n 0, 1) := by decide +kernel
theorem dX5_rests_1 : decode cX5_rests 1 = .ok (.getfield 19, 3) := by decide +kernel
theorem dX5_rests_4 : decode cX5_rests 4 = .ok (.aload_n 0, 1) := by decide +kernel
theorem dX5_rests_5 : decode cX5_rests 5 = .ok (.getfield 10, 3) := by decide +kernel
theorem dX5_rests_8 : decode cX5_rests 8 = .ok (.invokevirtual 30, 3) := by decide +kernel
theorem dX5_rests_11 : decode cX5_rests 11 = .ok (.aload_n 0, 1) := by decide +kernel
theorem dX5_rests_12 : decode cX5_rests 12 = .ok (.aload_n 0, 1) := by decide +kernel
theorem dX5_rests_13 : decode cX5_rests 13 = .ok (.getfield 10, 3) := by decide +kernel
theorem dX5_rests_16 : decode cX5_rests 16 = .ok (.iload_n 1, 1) := by decide +kernel
theorem dX5_rests_17 : decode cX5_rests 17 = .ok (.invokevirtual 57, 3) := by decide +kernel
theorem dX5_rests_20 : decode cX5_rests 20 = .ok (.invokevirtual 38, 3) := by decide +kernel
theorem dX5_rests_23 : decode cX5_rests 23 = .ok (.ireturn, 1) := by decide +kernel
set_option maxRecDepth 20000 in
theorem ggX5_loads_X3_mark : GoodIn wsX5_loads wsX3_mark := goodIn_r _ [7, 8, 9, 10, 11, 12, 13, 14, 15, 16, 17, 18, 19, 20, 21, 22, 23, 24, 25, 26, 27, 28, 29, 30, 31, 32, 33, 34, 35, 36, 37, 38, 39, 40, 41, 42, 43, 44, 45, 46, 47, 117, 118, 119, 120, 121, 122, 123, 124, 125, 126, 127, 128, 129, 130, 131, 132, 133, 134, 135, 136, 137] (by decide +kernel) (by decide +kernel)
set_option maxRecDepth 20000 in
theorem gX5_loads_X3_mark : GoodIn wsX5_loads (wsV RX5 30 RX3 yX3_mark wsX3_mark) := goodIn_app (goodIn_of _ (by decide +kernel)) ggX5_loads_X3_mark
set_option maxRecDepth 20000 in
theorem ggX5_loads_X1_load : GoodIn wsX5_loads wsX1_load := goodIn_r _ [51, 52, 15, 16, 53, 54, 13, 55, 56, 57, 58, 59, 60, 61, 62, 63, 64, 65, 19, 20, 17, 18, 66, 67, 68, 69, 70, 71, 72, 33, 73, 74, 35, 75, 76, 77, 78, 79, 80, 81, 82, 83, 43, 84, 45, 47, 85, 86, 87, 120, 121, 122, 123, 124, 125, 126, 127, 128, 129, 130, 131, 132, 133, 134, 135, 136, 137] (by decide +kernel) (by decide +kernel)
set_option maxRecDepth 20000 in
theorem gX5_loads_X1_load : GoodIn wsX5_loads (wsV RX5 60 RX1 yX1_load wsX1_load) := goodIn_app (goodIn_of _ (by decide +kernel)) ggX5_loads_X1_load
set_option maxRecDepth 20000 in
theorem ggX5_loads_X5_settled : GoodIn wsX5_loads wsX5_settled := goodIn_r _ [91, 1, 92, 93, 57, 94, 95, 96, 97, 98, 99, 100, 6, 101, 9, 102, 103, 67, 68, 69, 104, 105, 106, 107, 108, 109, 110, 111, 112, 113, 114, 115, 116, 117, 118, 119] (by decide +kernel) (by decide +kernel)
set_option maxRecDepth 20000 in
theorem gX5_loads_X5_settled : GoodIn wsX5_loads (wsV RX5 38 RX5 yX5_settled wsX5_settled) := goodIn_app (goodIn_of _ (by decide +kernel)) ggX5_loads_X5_settled
theorem dX5_loads_0 : decode cX5_loads 0 = .ok (.aload_n 0, 1) := by decide +kernel
theorem dX5_loads_1 : decode cX5_loads 1 = .ok (.getfield 19, 3) := by decide +kernel
theorem dX5_loads_4 : decode cX5_loads 4 = .ok (.aload_n 0, 1) := by decide +kernel
theorem dX5_loads_5 : decode cX5_loads 5 = .ok (.getfield 10, 3) := by decide +kernel
theorem dX5_loads_8 : decode cX5_loads 8 = .ok (.invokevirtual 30, 3) := by decide +kernel
theorem dX5_loads_11 : decode cX5_loads 11 = .ok (.aload_n 0, 1) := by decide +kernel
theorem dX5_loads_12 : decode cX5_loads 12 = .ok (.aload_n 0, 1) := by decide +kernel
theorem dX5_loads_13 : decode cX5_loads 13 = .ok (.getfield 10, 3) := by decide +kernel
theorem dX5_loads_16 : decode cX5_loads 16 = .ok (.iload_n 1, 1) := by decide +kernel
theorem dX5_loads_17 : decode cX5_loads 17 = .ok (.iload_n 2, 1) := by decide +kernel
theorem dX5_loads_18 : decode cX5_loads 18 = .ok (.invokevirtual 60, 3) := by decide +kernel
theorem dX5_loads_21 : decode cX5_loads 21 = .ok (.invokevirtual 38, 3) := by decide +kernel
theorem dX5_loads_24 : decode cX5_loads 24 = .ok (.ireturn, 1) := by decide +kernel
set_option maxRecDepth 20000 in
theorem ggX5_told_X5_within : GoodIn wsX5_told wsX5_within := goodIn_r _ [6] (by decide +kernel) (by decide +kernel)
set_option maxRecDepth 20000 in
theorem gX5_told_X5_within : GoodIn wsX5_told (va_wsS RX5 63 yX5_within wsX5_within) := goodIn_app (goodIn_of _ (by decide +kernel)) ggX5_told_X5_within
set_option maxRecDepth 20000 in
theorem ggX5_told_X5_counted : GoodIn wsX5_told wsX5_counted := goodIn_r _ [10, 1, 11, 12, 13, 14, 15, 41, 42, 43, 44, 45, 46] (by decide +kernel) (by decide +kernel)
set_option maxRecDepth 20000 in
theorem gX5_told_X5_counted : GoodIn wsX5_told (wsV RX5 68 RX5 yX5_counted wsX5_counted) := goodIn_app (goodIn_of _ (by decide +kernel)) ggX5_told_X5_counted
set_option maxRecDepth 20000 in
theorem ggX5_told_X1_tell : GoodIn wsX5_told wsX1_tell := goodIn_r _ [20, 21, 22, 23, 24, 25, 26, 27, 28, 29, 30, 31, 32, 33, 34, 35, 19, 36, 37, 38, 39, 40, 47, 48, 49, 50, 51, 52, 53, 54, 55, 56, 57, 58, 59, 60, 61] (by decide +kernel) (by decide +kernel)
set_option maxRecDepth 20000 in
theorem gX5_told_X1_tell : GoodIn wsX5_told (wsV RX5 71 RX1 yX1_tell wsX1_tell) := goodIn_app (goodIn_of _ (by decide +kernel)) ggX5_told_X1_tell
theorem dX5_told_0 : decode cX5_told 0 = .ok (.iload_n 1, 1) := by decide +kernel
theorem dX5_told_1 : decode cX5_told 1 = .ok (.iconst 0, 1) := by decide +kernel
theorem dX5_told_2 : decode cX5_told 2 = .ok (.bipush 11, 2) := by decide +kernel
theorem dX5_told_4 : decode cX5_told 4 = .ok (.invokestatic 63, 3) := by decide +kernel
theorem dX5_told_7 : decode cX5_told 7 = .ok (.ifCond .ne 10, 3) := by decide +kernel
theorem dX5_told_10 : decode cX5_told 10 = .ok (.aload_n 0, 1) := by decide +kernel
theorem dX5_told_11 : decode cX5_told 11 = .ok (.ldc 67, 2) := by decide +kernel
theorem dX5_told_13 : decode cX5_told 13 = .ok (.invokevirtual 68, 3) := by decide +kernel
theorem dX5_told_16 : decode cX5_told 16 = .ok (.ireturn, 1) := by decide +kernel
theorem dX5_told_17 : decode cX5_told 17 = .ok (.aload_n 0, 1) := by decide +kernel
theorem dX5_told_18 : decode cX5_told 18 = .ok (.getfield 10, 3) := by decide +kernel
theorem dX5_told_21 : decode cX5_told 21 = .ok (.iload_n 1, 1) := by decide +kernel
theorem dX5_told_22 : decode cX5_told 22 = .ok (.invokevirtual 71, 3) := by decide +kernel
theorem dX5_told_25 : decode cX5_told 25 = .ok (.ireturn, 1) := by decide +kernel
set_option maxRecDepth 20000 in
theorem ggX5_volts_X1_restVoltage : GoodIn wsX5_volts wsX1_restVoltage := goodIn_r _ [6, 7, 8, 9, 10, 11, 12, 13, 14, 32, 33, 34, 35, 36, 37, 38, 39, 40, 41, 42, 43, 44, 45, 46, 47] (by decide +kernel) (by decide +kernel)
set_option maxRecDepth 20000 in
theorem gX5_volts_X1_restVoltage : GoodIn wsX5_volts (wsV RX5 74 RX1 yX1_restVoltage wsX1_restVoltage) := goodIn_app (goodIn_of _ (by decide +kernel)) ggX5_volts_X1_restVoltage
set_option maxRecDepth 20000 in
theorem ggX5_volts_X5_counted : GoodIn wsX5_volts wsX5_counted := goodIn_r _ [19, 20, 21, 22, 23, 24, 25, 26, 27, 28, 29, 30, 31] (by decide +kernel) (by decide +kernel)
set_option maxRecDepth 20000 in
theorem gX5_volts_X5_counted : GoodIn wsX5_volts (wsV RX5 68 RX5 yX5_counted wsX5_counted) := goodIn_app (goodIn_of _ (by decide +kernel)) ggX5_volts_X5_counted
theorem dX5_volts_0 : decode cX5_volts 0 = .ok (.aload_n 0, 1) := by decide +kernel
theorem dX5_volts_1 : decode cX5_volts 1 = .ok (.aload_n 0, 1) := by decide +kernel
theorem dX5_volts_2 : decode cX5_volts 2 = .ok (.getfield 10, 3) := by decide +kernel
theorem dX5_volts_5 : decode cX5_volts 5 = .ok (.iload_n 1, 1) := by decide +kernel
theorem dX5_volts_6 : decode cX5_volts 6 = .ok (.invokevirtual 74, 3) := by decide +kernel
theorem dX5_volts_9 : decode cX5_volts 9 = .ok (.invokevirtual 68, 3) := by decide +kernel
theorem dX5_volts_12 : decode cX5_volts 12 = .ok (.ireturn, 1) := by decide +kernel
set_option maxRecDepth 20000 in
theorem ggX5_inverse_X1_restBound : GoodIn wsX5_inverse wsX1_restBound := goodIn_r _ [6, 7, 8, 9, 10, 11, 12, 13, 14, 15, 16, 17, 18, 19, 5, 20, 21, 22, 23, 24, 25, 26, 27, 28, 29, 30, 31, 32, 33, 34, 35, 36, 37, 38, 39, 40, 41, 42, 43, 60, 61, 62, 63, 64, 65, 66, 67, 68, 69, 70, 71, 72, 73, 74, 75] (by decide +kernel) (by decide +kernel)
set_option maxRecDepth 20000 in
theorem gX5_inverse_X1_restBound : GoodIn wsX5_inverse (wsV RX5 77 RX1 yX1_restBound wsX1_restBound) := goodIn_app (goodIn_of _ (by decide +kernel)) ggX5_inverse_X1_restBound
set_option maxRecDepth 20000 in
theorem ggX5_inverse_X5_counted : GoodIn wsX5_inverse wsX5_counted := goodIn_r _ [47, 48, 49, 50, 51, 52, 53, 54, 55, 56, 57, 58, 59] (by decide +kernel) (by decide +kernel)
set_option maxRecDepth 20000 in
theorem gX5_inverse_X5_counted : GoodIn wsX5_inverse (wsV RX5 68 RX5 yX5_counted wsX5_counted) := goodIn_app (goodIn_of _ (by decide +kernel)) ggX5_inverse_X5_counted
theorem dX5_inverse_0 : decode cX5_inverse 0 = .ok (.aload_n 0, 1) := by decide +kernel
theorem dX5_inverse_1 : decode cX5_inverse 1 = .ok (.aload_n 0, 1) := by decide +kernel
theorem dX5_inverse_2 : decode cX5_inverse 2 = .ok (.getfield 10, 3) := by decide +kernel
theorem dX5_inverse_5 : decode cX5_inverse 5 = .ok (.iload_n 1, 1) := by decide +kernel
theorem dX5_inverse_6 : decode cX5_inverse 6 = .ok (.iload_n 2, 1) := by decide +kernel
theorem dX5_inverse_7 : decode cX5_inverse 7 = .ok (.invokevirtual 77, 3) := by decide +kernel
theorem dX5_inverse_10 : decode cX5_inverse 10 = .ok (.invokevirtual 68, 3) := by decide +kernel
theorem dX5_inverse_13 : decode cX5_inverse 13 = .ok (.ireturn, 1) := by decide +kernel
set_option maxRecDepth 20000 in
theorem ggX5_band_X1_tellBand : GoodIn wsX5_band wsX1_tellBand := goodIn_r _ [6, 7, 8, 9, 10, 11, 12, 13, 14, 15, 16, 17, 18, 19, 20, 21, 22, 23, 24, 25, 26, 27, 44, 45, 46, 47, 48, 49, 50, 51, 52, 53, 54, 55, 56, 57, 58, 59, 60] (by decide +kernel) (by decide +kernel)
set_option maxRecDepth 20000 in
theorem gX5_band_X1_tellBand : GoodIn wsX5_band (wsV RX5 80 RX1 yX1_tellBand wsX1_tellBand) := goodIn_app (goodIn_of _ (by decide +kernel)) ggX5_band_X1_tellBand
set_option maxRecDepth 20000 in
theorem ggX5_band_X5_counted : GoodIn wsX5_band wsX5_counted := goodIn_r _ [31, 32, 33, 34, 35, 36, 37, 38, 39, 40, 41, 42, 43] (by decide +kernel) (by decide +kernel)
set_option maxRecDepth 20000 in
theorem gX5_band_X5_counted : GoodIn wsX5_band (wsV RX5 68 RX5 yX5_counted wsX5_counted) := goodIn_app (goodIn_of _ (by decide +kernel)) ggX5_band_X5_counted
theorem dX5_band_0 : decode cX5_band 0 = .ok (.aload_n 0, 1) := by decide +kernel
theorem dX5_band_1 : decode cX5_band 1 = .ok (.aload_n 0, 1) := by decide +kernel
theorem dX5_band_2 : decode cX5_band 2 = .ok (.getfield 10, 3) := by decide +kernel
theorem dX5_band_5 : decode cX5_band 5 = .ok (.iload_n 1, 1) := by decide +kernel
theorem dX5_band_6 : decode cX5_band 6 = .ok (.iload_n 2, 1) := by decide +kernel
theorem dX5_band_7 : decode cX5_band 7 = .ok (.iload_n 3, 1) := by decide +kernel
theorem dX5_band_8 : decode cX5_band 8 = .ok (.invokevirtual 80, 3) := by decide +kernel
theorem dX5_band_11 : decode cX5_band 11 = .ok (.invokevirtual 68, 3) := by decide +kernel
theorem dX5_band_14 : decode cX5_band 14 = .ok (.ireturn, 1) := by decide +kernel
set_option maxRecDepth 20000 in
theorem ggX5_bands_X1_usedBands : GoodIn wsX5_bands wsX1_usedBands := goodIn_r _ [6, 7, 8, 9, 10, 11, 12, 13, 20, 21, 22, 23, 24, 25, 26, 27, 28, 29, 30, 31, 32, 33, 34, 35, 36] (by decide +kernel) (by decide +kernel)
set_option maxRecDepth 20000 in
theorem gX5_bands_X1_usedBands : GoodIn wsX5_bands (wsV RX5 84 RX1 yX1_usedBands wsX1_usedBands) := goodIn_app (goodIn_of _ (by decide +kernel)) ggX5_bands_X1_usedBands
theorem dX5_bands_0 : decode cX5_bands 0 = .ok (.aload_n 0, 1) := by decide +kernel
theorem dX5_bands_1 : decode cX5_bands 1 = .ok (.getfield 10, 3) := by decide +kernel
theorem dX5_bands_4 : decode cX5_bands 4 = .ok (.invokevirtual 84, 3) := by decide +kernel
theorem dX5_bands_7 : decode cX5_bands 7 = .ok (.ireturn, 1) := by decide +kernel
set_option maxRecDepth 20000 in
theorem ggX5_lasts_X1_lasting : GoodIn wsX5_lasts wsX1_lasting := goodIn_r _ [6, 7, 8, 9, 10, 11, 12, 13, 14, 31, 32, 33, 34, 35, 36, 37, 38, 39, 40, 41, 42, 43, 44, 45] (by decide +kernel) (by decide +kernel)
set_option maxRecDepth 20000 in
theorem gX5_lasts_X1_lasting : GoodIn wsX5_lasts (wsV RX5 88 RX1 yX1_lasting wsX1_lasting) := goodIn_app (goodIn_of _ (by decide +kernel)) ggX5_lasts_X1_lasting
set_option maxRecDepth 20000 in
theorem ggX5_lasts_X5_counted : GoodIn wsX5_lasts wsX5_counted := goodIn_r _ [18, 19, 20, 21, 22, 23, 24, 25, 26, 27, 28, 29, 30] (by decide +kernel) (by decide +kernel)
set_option maxRecDepth 20000 in
theorem gX5_lasts_X5_counted : GoodIn wsX5_lasts (wsV RX5 68 RX5 yX5_counted wsX5_counted) := goodIn_app (goodIn_of _ (by decide +kernel)) ggX5_lasts_X5_counted
theorem dX5_lasts_0 : decode cX5_lasts 0 = .ok (.aload_n 0, 1) := by decide +kernel
theorem dX5_lasts_1 : decode cX5_lasts 1 = .ok (.aload_n 0, 1) := by decide +kernel
theorem dX5_lasts_2 : decode cX5_lasts 2 = .ok (.getfield 10, 3) := by decide +kernel
theorem dX5_lasts_5 : decode cX5_lasts 5 = .ok (.iload_n 1, 1) := by decide +kernel
theorem dX5_lasts_6 : decode cX5_lasts 6 = .ok (.iload_n 2, 1) := by decide +kernel
theorem dX5_lasts_7 : decode cX5_lasts 7 = .ok (.invokevirtual 88, 3) := by decide +kernel
theorem dX5_lasts_10 : decode cX5_lasts 10 = .ok (.invokevirtual 68, 3) := by decide +kernel
theorem dX5_lasts_13 : decode cX5_lasts 13 = .ok (.ireturn, 1) := by decide +kernel
set_option maxRecDepth 20000 in
theorem ggX5_under_X1_loadedVoltage : GoodIn wsX5_under wsX1_loadedVoltage := goodIn_r _ [6, 7, 8, 9, 10, 11, 12, 13, 5, 14, 15, 16, 17, 18, 19, 20, 21, 22, 23, 24, 25, 26, 27, 28, 29, 30, 31, 32, 33, 34, 35, 36, 37, 38, 39, 40, 41, 42, 43, 44, 45, 46, 47, 48, 49, 50, 51, 52, 53, 54, 71, 72, 73, 74, 75, 76, 77, 78, 79, 80, 81, 82, 83, 84, 85, 86, 87, 88] (by decide +kernel) (by decide +kernel)
set_option maxRecDepth 20000 in
theorem gX5_under_X1_loadedVoltage : GoodIn wsX5_under (wsV RX5 91 RX1 yX1_loadedVoltage wsX1_loadedVoltage) := goodIn_app (goodIn_of _ (by decide +kernel)) ggX5_under_X1_loadedVoltage
set_option maxRecDepth 20000 in
theorem ggX5_under_X5_counted : GoodIn wsX5_under wsX5_counted := goodIn_r _ [58, 59, 60, 61, 62, 63, 64, 65, 66, 67, 68, 69, 70] (by decide +kernel) (by decide +kernel)
set_option maxRecDepth 20000 in
theorem gX5_under_X5_counted : GoodIn wsX5_under (wsV RX5 68 RX5 yX5_counted wsX5_counted) := goodIn_app (goodIn_of _ (by decide +kernel)) ggX5_under_X5_counted
theorem dX5_under_0 : decode cX5_under 0 = .ok (.aload_n 0, 1) := by decide +kernel
theorem dX5_under_1 : decode cX5_under 1 = .ok (.aload_n 0, 1) := by decide +kernel
theorem dX5_under_2 : decode cX5_under 2 = .ok (.getfield 10, 3) := by decide +kernel
theorem dX5_under_5 : decode cX5_under 5 = .ok (.iload_n 1, 1) := by decide +kernel
theorem dX5_under_6 : decode cX5_under 6 = .ok (.invokevirtual 91, 3) := by decide +kernel
theorem dX5_under_9 : decode cX5_under 9 = .ok (.invokevirtual 68, 3) := by decide +kernel
theorem dX5_under_12 : decode cX5_under 12 = .ok (.ireturn, 1) := by decide +kernel
set_option maxRecDepth 20000 in
theorem ggX5_setting_X1_tellSetting : GoodIn wsX5_setting wsX1_tellSetting := goodIn_r _ [6, 7, 8, 9, 10, 11, 12, 13, 14, 15, 16, 17, 18, 19, 20, 37, 38, 39, 40, 41, 42, 43, 44, 45, 46, 47, 48, 49, 50, 51, 52] (by decide +kernel) (by decide +kernel)
set_option maxRecDepth 20000 in
theorem gX5_setting_X1_tellSetting : GoodIn wsX5_setting (wsV RX5 94 RX1 yX1_tellSetting wsX1_tellSetting) := goodIn_app (goodIn_of _ (by decide +kernel)) ggX5_setting_X1_tellSetting
set_option maxRecDepth 20000 in
theorem ggX5_setting_X5_counted : GoodIn wsX5_setting wsX5_counted := goodIn_r _ [24, 25, 26, 27, 28, 29, 30, 31, 32, 33, 34, 35, 36] (by decide +kernel) (by decide +kernel)
set_option maxRecDepth 20000 in
theorem gX5_setting_X5_counted : GoodIn wsX5_setting (wsV RX5 68 RX5 yX5_counted wsX5_counted) := goodIn_app (goodIn_of _ (by decide +kernel)) ggX5_setting_X5_counted
theorem dX5_setting_0 : decode cX5_setting 0 = .ok (.aload_n 0, 1) := by decide +kernel
theorem dX5_setting_1 : decode cX5_setting 1 = .ok (.aload_n 0, 1) := by decide +kernel
theorem dX5_setting_2 : decode cX5_setting 2 = .ok (.getfield 10, 3) := by decide +kernel
theorem dX5_setting_5 : decode cX5_setting 5 = .ok (.iload_n 1, 1) := by decide +kernel
theorem dX5_setting_6 : decode cX5_setting 6 = .ok (.invokevirtual 94, 3) := by decide +kernel
theorem dX5_setting_9 : decode cX5_setting 9 = .ok (.invokevirtual 68, 3) := by decide +kernel
theorem dX5_setting_12 : decode cX5_setting 12 = .ok (.ireturn, 1) := by decide +kernel
set_option maxRecDepth 20000 in
theorem ggX5_type_X4_append : GoodIn wsX5_type wsX4_append := goodIn_r _ [6, 7, 8, 9, 10, 11, 12, 13, 30, 31, 32, 33, 34, 35, 36, 37] (by decide +kernel) (by decide +kernel)
set_option maxRecDepth 20000 in
theorem gX5_type_X4_append : GoodIn wsX5_type (wsV RX5 97 RX4 yX4_append wsX4_append) := goodIn_app (goodIn_of _ (by decide +kernel)) ggX5_type_X4_append
set_option maxRecDepth 20000 in
theorem ggX5_type_X5_counted : GoodIn wsX5_type wsX5_counted := goodIn_r _ [17, 18, 19, 20, 21, 22, 23, 24, 25, 26, 27, 28, 29] (by decide +kernel) (by decide +kernel)
set_option maxRecDepth 20000 in
theorem gX5_type_X5_counted : GoodIn wsX5_type (wsV RX5 68 RX5 yX5_counted wsX5_counted) := goodIn_app (goodIn_of _ (by decide +kernel)) ggX5_type_X5_counted
theorem dX5_type_0 : decode cX5_type 0 = .ok (.aload_n 0, 1) := by decide +kernel
theorem dX5_type_1 : decode cX5_type 1 = .ok (.aload_n 0, 1) := by decide +kernel
theorem dX5_type_2 : decode cX5_type 2 = .ok (.getfield 26, 3) := by decide +kernel
theorem dX5_type_5 : decode cX5_type 5 = .ok (.iload_n 1, 1) := by decide +kernel
theorem dX5_type_6 : decode cX5_type 6 = .ok (.invokevirtual 97, 3) := by decide +kernel
theorem dX5_type_9 : decode cX5_type 9 = .ok (.invokevirtual 68, 3) := by decide +kernel
theorem dX5_type_12 : decode cX5_type 12 = .ok (.ireturn, 1) := by decide +kernel
set_option maxRecDepth 20000 in
theorem ggX5_clear_X4_empty : GoodIn wsX5_clear wsX4_empty := goodIn_r _ [6, 7, 14, 15, 16, 17, 18, 19, 20, 21] (by decide +kernel) (by decide +kernel)
set_option maxRecDepth 20000 in
theorem gX5_clear_X4_empty : GoodIn wsX5_clear (wsV RX5 100 RX4 yX4_empty wsX4_empty) := goodIn_app (goodIn_of _ (by decide +kernel)) ggX5_clear_X4_empty
theorem dX5_clear_0 : decode cX5_clear 0 = .ok (.aload_n 0, 1) := by decide +kernel
theorem dX5_clear_1 : decode cX5_clear 1 = .ok (.getfield 26, 3) := by decide +kernel
theorem dX5_clear_4 : decode cX5_clear 4 = .ok (.invokevirtual 100, 3) := by decide +kernel
theorem dX5_clear_7 : decode cX5_clear 7 = .ok (.ireturn, 1) := by decide +kernel
set_option maxRecDepth 20000 in
theorem ggX5_does_X4_read : GoodIn wsX5_does wsX4_read := goodIn_r _ [8, 9, 10, 11, 12, 13, 14, 7, 15, 16, 17, 18, 19, 20, 21, 22, 23, 24, 25, 26, 27, 28, 29, 30, 31, 32, 33, 34, 35, 36, 37, 38, 39, 40, 41, 244, 245, 246, 247, 248, 249, 250, 251] (by decide +kernel) (by decide +kernel)
set_option maxRecDepth 20000 in
theorem gX5_does_X4_read : GoodIn wsX5_does (wsV RX5 103 RX4 yX4_read wsX4_read) := goodIn_app (goodIn_of _ (by decide +kernel)) ggX5_does_X4_read
set_option maxRecDepth 20000 in
theorem ggX5_does_X4_place : GoodIn wsX5_does wsX4_place := goodIn_r _ [45, 9, 244, 245, 246, 247, 248, 249, 250, 251] (by decide +kernel) (by decide +kernel)
set_option maxRecDepth 20000 in
theorem gX5_does_X4_place : GoodIn wsX5_does (wsV RX5 107 RX4 yX4_place wsX4_place) := goodIn_app (goodIn_of _ (by decide +kernel)) ggX5_does_X4_place
set_option maxRecDepth 20000 in
theorem ggX5_does_X3_mark : GoodIn wsX5_does wsX3_mark := goodIn_r _ [50, 51, 52, 53, 54, 55, 56, 57, 58, 59, 60, 61, 62, 63, 64, 65, 66, 67, 68, 69, 70, 71, 72, 73, 74, 75, 76, 77, 78, 79, 80, 81, 82, 83, 84, 85, 86, 87, 88, 89, 90, 252, 253, 254, 255, 256, 257, 258, 259, 260, 261, 262, 263, 264, 265, 266, 267, 268, 269, 270, 271, 272] (by decide +kernel) (by decide +kernel)
set_option maxRecDepth 20000 in
theorem gX5_does_X3_mark : GoodIn wsX5_does (wsV RX5 30 RX3 yX3_mark wsX3_mark) := goodIn_app (goodIn_of _ (by decide +kernel)) ggX5_does_X3_mark
set_option maxRecDepth 20000 in
theorem ggX5_does_X4_orders : GoodIn wsX5_does wsX4_orders := goodIn_r _ [94, 10, 244, 245, 246, 247, 248, 249, 250, 251] (by decide +kernel) (by decide +kernel)
set_option maxRecDepth 20000 in
theorem gX5_does_X4_orders : GoodIn wsX5_does (wsV RX5 110 RX4 yX4_orders wsX4_orders) := goodIn_app (goodIn_of _ (by decide +kernel)) ggX5_does_X4_orders
set_option maxRecDepth 20000 in
theorem ggX5_does_X5_obey : GoodIn wsX5_does wsX5_obey := goodIn_r _ [99, 1, 3, 100, 101, 102, 103, 7, 104, 10, 27, 105, 98, 106, 107, 108, 109, 110, 28, 111, 112, 113, 114, 26, 115, 116, 117, 56, 118, 119, 60, 64, 120, 121, 122, 123, 61, 63, 124, 125, 126, 127, 66, 67, 128, 129, 130, 131, 72, 132, 133, 134, 135, 62, 136, 137, 138, 139, 140, 141, 142, 143, 144, 68, 69, 70, 145, 146, 147, 148, 149, 150, 151, 58, 65, 152, 153, 154, 76, 155, 156, 157, 158, 159, 160, 161, 162, 163, 164, 165, 78, 166, 167, 168, 169, 170, 171, 172, 173, 174, 175, 176, 177, 178, 179, 180, 71, 181, 182, 183, 184, 185, 186, 187, 188, 59, 189, 190, 191, 192, 193, 194, 195, 196, 197, 198, 199, 200, 201, 86, 202, 88, 90, 203, 204, 205, 206, 207, 208, 209, 210, 211, 212, 213, 214, 215, 216, 217, 218, 219, 220, 221, 222, 238, 239, 240, 241, 242, 243, 244, 245, 246, 247, 248, 249, 250, 251, 255, 256, 257, 258, 259, 260, 261, 262, 263, 264, 265, 266, 267, 268, 269, 270, 271, 272] (by decide +kernel) (by decide +kernel)
set_option maxRecDepth 20000 in
theorem gX5_does_X5_obey : GoodIn wsX5_does (wsV RX5 113 RX5 yX5_obey wsX5_obey) := goodIn_app (goodIn_of _ (by decide +kernel)) ggX5_does_X5_obey
set_option maxRecDepth 20000 in
theorem ggX5_does_X5_isRefusal : GoodIn wsX5_does wsX5_isRefusal := goodIn_r _ [225, 100, 226, 227] (by decide +kernel) (by decide +kernel)
set_option maxRecDepth 20000 in
theorem gX5_does_X5_isRefusal : GoodIn wsX5_does (va_wsS RX5 116 yX5_isRefusal wsX5_isRefusal) := goodIn_app (goodIn_of _ (by decide +kernel)) ggX5_does_X5_isRefusal
set_option maxRecDepth 20000 in
theorem ggX5_does_X3_restoreMarked : GoodIn wsX5_does wsX3_restoreMarked := goodIn_r _ [231, 51, 52, 53, 54, 55, 56, 57, 58, 59, 60, 61, 62, 63, 64, 65, 66, 67, 68, 69, 70, 71, 72, 73, 74, 75, 76, 77, 78, 79, 80, 81, 82, 83, 84, 85, 86, 87, 88, 89, 90, 252, 253, 254, 255, 256, 257, 258, 259, 260, 261, 262, 263, 264, 265, 266, 267, 268, 269, 270, 271, 272] (by decide +kernel) (by decide +kernel)
set_option maxRecDepth 20000 in
theorem gX5_does_X3_restoreMarked : GoodIn wsX5_does (wsV RX5 120 RX3 yX3_restoreMarked wsX3_restoreMarked) := goodIn_app (goodIn_of _ (by decide +kernel)) ggX5_does_X3_restoreMarked
set_option maxRecDepth 20000 in
theorem ggX5_does_X3_keepMarked : GoodIn wsX5_does wsX3_keepMarked := goodIn_r _ [235, 52, 236, 237, 125, 122, 126, 252, 253, 254] (by decide +kernel) (by decide +kernel)
set_option maxRecDepth 20000 in
theorem gX5_does_X3_keepMarked : GoodIn wsX5_does (wsV RX5 123 RX3 yX3_keepMarked wsX3_keepMarked) := goodIn_app (goodIn_of _ (by decide +kernel)) ggX5_does_X3_keepMarked
theorem dX5_does_0 : decode cX5_does 0 = .ok (.aload_n 0, 1) := by decide +kernel
theorem dX5_does_1 : decode cX5_does 1 = .ok (.getfield 26, 3) := by decide +kernel
theorem dX5_does_4 : decode cX5_does 4 = .ok (.invokevirtual 103, 3) := by decide +kernel
theorem dX5_does_7 : decode cX5_does 7 = .ok (.ifCond .ne 14, 3) := by decide +kernel
theorem dX5_does_10 : decode cX5_does 10 = .ok (.bipush (-10), 2) := by decide +kernel
theorem dX5_does_12 : decode cX5_does 12 = .ok (.aload_n 0, 1) := by decide +kernel
theorem dX5_does_13 : decode cX5_does 13 = .ok (.getfield 26, 3) := by decide +kernel
theorem dX5_does_16 : decode cX5_does 16 = .ok (.invokevirtual 107, 3) := by decide +kernel
theorem dX5_does_19 : decode cX5_does 19 = .ok (.isub, 1) := by decide +kernel
theorem dX5_does_20 : decode cX5_does 20 = .ok (.ireturn, 1) := by decide +kernel
theorem dX5_does_21 : decode cX5_does 21 = .ok (.aload_n 0, 1) := by decide +kernel
theorem dX5_does_22 : decode cX5_does 22 = .ok (.getfield 19, 3) := by decide +kernel
theorem dX5_does_25 : decode cX5_does 25 = .ok (.aload_n 0, 1) := by decide +kernel
theorem dX5_does_26 : decode cX5_does 26 = .ok (.getfield 10, 3) := by decide +kernel
theorem dX5_does_29 : decode cX5_does 29 = .ok (.invokevirtual 30, 3) := by decide +kernel
theorem dX5_does_32 : decode cX5_does 32 = .ok (.iconst 0, 1) := by decide +kernel
theorem dX5_does_33 : decode cX5_does 33 = .ok (.istore_n 1, 1) := by decide +kernel
theorem dX5_does_34 : decode cX5_does 34 = .ok (.iload_n 1, 1) := by decide +kernel
theorem dX5_does_35 : decode cX5_does 35 = .ok (.aload_n 0, 1) := by decide +kernel
theorem dX5_does_36 : decode cX5_does 36 = .ok (.getfield 26, 3) := by decide +kernel
theorem dX5_does_39 : decode cX5_does 39 = .ok (.invokevirtual 110, 3) := by decide +kernel
theorem dX5_does_42 : decode cX5_does 42 = .ok (.if_icmp .ge 37, 3) := by decide +kernel
theorem dX5_does_45 : decode cX5_does 45 = .ok (.aload_n 0, 1) := by decide +kernel
theorem dX5_does_46 : decode cX5_does 46 = .ok (.iload_n 1, 1) := by decide +kernel
theorem dX5_does_47 : decode cX5_does 47 = .ok (.invokevirtual 113, 3) := by decide +kernel
theorem dX5_does_50 : decode cX5_does 50 = .ok (.invokestatic 116, 3) := by decide +kernel
theorem dX5_does_53 : decode cX5_does 53 = .ok (.ifCond .eq 20, 3) := by decide +kernel
theorem dX5_does_56 : decode cX5_does 56 = .ok (.aload_n 0, 1) := by decide +kernel
theorem dX5_does_57 : decode cX5_does 57 = .ok (.getfield 19, 3) := by decide +kernel
theorem dX5_does_60 : decode cX5_does 60 = .ok (.aload_n 0, 1) := by decide +kernel
theorem dX5_does_61 : decode cX5_does 61 = .ok (.getfield 10, 3) := by decide +kernel
theorem dX5_does_64 : decode cX5_does 64 = .ok (.invokevirtual 120, 3) := by decide +kernel
theorem dX5_does_67 : decode cX5_does 67 = .ok (.sipush (-1000), 3) := by decide +kernel
theorem dX5_does_70 : decode cX5_does 70 = .ok (.iload_n 1, 1) := by decide +kernel
theorem dX5_does_71 : decode cX5_does 71 = .ok (.isub, 1) := by decide +kernel
theorem dX5_does_72 : decode cX5_does 72 = .ok (.ireturn, 1) := by decide +kernel
theorem dX5_does_73 : decode cX5_does 73 = .ok (.iinc 1 1, 3) := by decide +kernel
theorem dX5_does_76 : decode cX5_does 76 = .ok (.goto (-42), 3) := by decide +kernel
theorem dX5_does_79 : decode cX5_does 79 = .ok (.aload_n 0, 1) := by decide +kernel
theorem dX5_does_80 : decode cX5_does 80 = .ok (.getfield 19, 3) := by decide +kernel
theorem dX5_does_83 : decode cX5_does 83 = .ok (.invokevirtual 123, 3) := by decide +kernel
theorem dX5_does_86 : decode cX5_does 86 = .ok (.aload_n 0, 1) := by decide +kernel
theorem dX5_does_87 : decode cX5_does 87 = .ok (.getfield 26, 3) := by decide +kernel
theorem dX5_does_90 : decode cX5_does 90 = .ok (.invokevirtual 110, 3) := by decide +kernel
theorem dX5_does_93 : decode cX5_does 93 = .ok (.ireturn, 1) := by decide +kernel
set_option maxRecDepth 20000 in
theorem ggX5_back_X3_size : GoodIn wsX5_back wsX3_size := goodIn_r _ [8, 9, 74, 75, 76] (by decide +kernel) (by decide +kernel)
set_option maxRecDepth 20000 in
theorem gX5_back_X3_size : GoodIn wsX5_back (wsV RX5 126 RX3 yX3_size wsX3_size) := goodIn_app (goodIn_of _ (by decide +kernel)) ggX5_back_X3_size
set_option maxRecDepth 20000 in
theorem ggX5_back_X5_counted : GoodIn wsX5_back wsX5_counted := goodIn_r _ [14, 15, 16, 2, 17, 18, 19, 68, 69, 70, 71, 72, 73] (by decide +kernel) (by decide +kernel)
set_option maxRecDepth 20000 in
theorem gX5_back_X5_counted : GoodIn wsX5_back (wsV RX5 68 RX5 yX5_counted wsX5_counted) := goodIn_app (goodIn_of _ (by decide +kernel)) ggX5_back_X5_counted
set_option maxRecDepth 20000 in
theorem ggX5_back_X3_takeBack : GoodIn wsX5_back wsX3_takeBack := goodIn_r _ [23, 9, 24, 25, 26, 27, 7, 28, 29, 30, 31, 32, 33, 34, 35, 36, 37, 38, 39, 40, 41, 42, 43, 44, 45, 46, 47, 48, 49, 50, 51, 52, 53, 54, 55, 56, 57, 58, 59, 60, 61, 62, 63, 64, 65, 66, 67, 74, 75, 76, 77, 78, 79, 80, 81, 82, 83, 84, 85, 86, 87, 88, 89, 90, 91, 92, 93, 94] (by decide +kernel) (by decide +kernel)
set_option maxRecDepth 20000 in
theorem gX5_back_X3_takeBack : GoodIn wsX5_back (wsV RX5 130 RX3 yX3_takeBack wsX3_takeBack) := goodIn_app (goodIn_of _ (by decide +kernel)) ggX5_back_X3_takeBack
theorem dX5_back_0 : decode cX5_back 0 = .ok (.aload_n 0, 1) := by decide +kernel
theorem dX5_back_1 : decode cX5_back 1 = .ok (.getfield 19, 3) := by decide +kernel
theorem dX5_back_4 : decode cX5_back 4 = .ok (.invokevirtual 126, 3) := by decide +kernel
theorem dX5_back_7 : decode cX5_back 7 = .ok (.ifCond .ne 10, 3) := by decide +kernel
theorem dX5_back_10 : decode cX5_back 10 = .ok (.aload_n 0, 1) := by decide +kernel
theorem dX5_back_11 : decode cX5_back 11 = .ok (.ldc 129, 2) := by decide +kernel
theorem dX5_back_13 : decode cX5_back 13 = .ok (.invokevirtual 68, 3) := by decide +kernel
theorem dX5_back_16 : decode cX5_back 16 = .ok (.ireturn, 1) := by decide +kernel
theorem dX5_back_17 : decode cX5_back 17 = .ok (.aload_n 0, 1) := by decide +kernel
theorem dX5_back_18 : decode cX5_back 18 = .ok (.getfield 19, 3) := by decide +kernel
theorem dX5_back_21 : decode cX5_back 21 = .ok (.aload_n 0, 1) := by decide +kernel
theorem dX5_back_22 : decode cX5_back 22 = .ok (.getfield 10, 3) := by decide +kernel
theorem dX5_back_25 : decode cX5_back 25 = .ok (.invokevirtual 130, 3) := by decide +kernel
theorem dX5_back_28 : decode cX5_back 28 = .ok (.aload_n 0, 1) := by decide +kernel
theorem dX5_back_29 : decode cX5_back 29 = .ok (.getfield 19, 3) := by decide +kernel
theorem dX5_back_32 : decode cX5_back 32 = .ok (.invokevirtual 126, 3) := by decide +kernel
theorem dX5_back_35 : decode cX5_back 35 = .ok (.ireturn, 1) := by decide +kernel
set_option maxRecDepth 20000 in
theorem ggX5_refused_X4_length : GoodIn wsX5_refused wsX4_length := goodIn_r _ [11, 12, 32, 33, 34, 35, 36, 37, 38, 39] (by decide +kernel) (by decide +kernel)
set_option maxRecDepth 20000 in
theorem gX5_refused_X4_length : GoodIn wsX5_refused (wsV RX5 143 RX4 yX4_length wsX4_length) := goodIn_app (goodIn_of _ (by decide +kernel)) ggX5_refused_X4_length
set_option maxRecDepth 20000 in
theorem ggX5_refused_X3_size : GoodIn wsX5_refused wsX3_size := goodIn_r _ [17, 18, 40, 41, 42] (by decide +kernel) (by decide +kernel)
set_option maxRecDepth 20000 in
theorem gX5_refused_X3_size : GoodIn wsX5_refused (wsV RX5 126 RX3 yX3_size wsX3_size) := goodIn_app (goodIn_of _ (by decide +kernel)) ggX5_refused_X3_size
set_option maxRecDepth 20000 in
theorem ggX5_refused_X5_counted : GoodIn wsX5_refused wsX5_counted := goodIn_r _ [23, 6, 1, 24, 2, 25, 3, 26, 27, 28, 29, 30, 31] (by decide +kernel) (by decide +kernel)
set_option maxRecDepth 20000 in
theorem gX5_refused_X5_counted : GoodIn wsX5_refused (wsV RX5 68 RX5 yX5_counted wsX5_counted) := goodIn_app (goodIn_of _ (by decide +kernel)) ggX5_refused_X5_counted
theorem dX5_refused_0 : decode cX5_refused 0 = .ok (.iload_n 1, 1) := by decide +kernel
theorem dX5_refused_1 : decode cX5_refused 1 = .ok (.tableswitch 66 0 4 #[35, 40, 45, 50, 58], 35) := by decide +kernel
theorem dX5_refused_36 : decode cX5_refused 36 = .ok (.aload_n 0, 1) := by decide +kernel
theorem dX5_refused_37 : decode cX5_refused 37 = .ok (.getfield 133, 3) := by decide +kernel
theorem dX5_refused_40 : decode cX5_refused 40 = .ok (.ireturn, 1) := by decide +kernel
theorem dX5_refused_41 : decode cX5_refused 41 = .ok (.aload_n 0, 1) := by decide +kernel
theorem dX5_refused_42 : decode cX5_refused 42 = .ok (.getfield 137, 3) := by decide +kernel
theorem dX5_refused_45 : decode cX5_refused 45 = .ok (.ireturn, 1) := by decide +kernel
theorem dX5_refused_46 : decode cX5_refused 46 = .ok (.aload_n 0, 1) := by decide +kernel
theorem dX5_refused_47 : decode cX5_refused 47 = .ok (.getfield 140, 3) := by decide +kernel
theorem dX5_refused_50 : decode cX5_refused 50 = .ok (.ireturn, 1) := by decide +kernel
theorem dX5_refused_51 : decode cX5_refused 51 = .ok (.aload_n 0, 1) := by decide +kernel
theorem dX5_refused_52 : decode cX5_refused 52 = .ok (.getfield 26, 3) := by decide +kernel
theorem dX5_refused_55 : decode cX5_refused 55 = .ok (.invokevirtual 143, 3) := by decide +kernel
theorem dX5_refused_58 : decode cX5_refused 58 = .ok (.ireturn, 1) := by decide +kernel
theorem dX5_refused_59 : decode cX5_refused 59 = .ok (.aload_n 0, 1) := by decide +kernel
theorem dX5_refused_60 : decode cX5_refused 60 = .ok (.getfield 19, 3) := by decide +kernel
theorem dX5_refused_63 : decode cX5_refused 63 = .ok (.invokevirtual 126, 3) := by decide +kernel
theorem dX5_refused_66 : decode cX5_refused 66 = .ok (.ireturn, 1) := by decide +kernel
theorem dX5_refused_67 : decode cX5_refused 67 = .ok (.aload_n 0, 1) := by decide +kernel
theorem dX5_refused_68 : decode cX5_refused 68 = .ok (.ldc 67, 2) := by decide +kernel
theorem dX5_refused_70 : decode cX5_refused 70 = .ok (.invokevirtual 68, 3) := by decide +kernel
theorem dX5_refused_73 : decode cX5_refused 73 = .ok (.ireturn, 1) := by decide +kernel
set_option maxRecDepth 20000 in
theorem ggX5_digest_X5_refused : GoodIn wsX5_digest wsX5_refused := goodIn_r _ [7, 8, 9, 10, 11, 12, 13, 14, 15, 16, 17, 18, 19, 20, 21, 22, 23, 24, 25, 26, 27, 28, 6, 29, 30, 31, 129, 130, 131, 132, 133, 134, 135, 136, 137, 138, 139, 140, 141, 142, 143, 144, 145] (by decide +kernel) (by decide +kernel)
set_option maxRecDepth 20000 in
theorem gX5_digest_X5_refused : GoodIn wsX5_digest (wsV RX5 150 RX5 yX5_refused wsX5_refused) := goodIn_app (goodIn_of _ (by decide +kernel)) ggX5_digest_X5_refused
set_option maxRecDepth 20000 in
theorem ggX5_digest_X5_told : GoodIn wsX5_digest wsX5_told := goodIn_r _ [35, 13, 36, 37, 38, 6, 39, 26, 27, 28, 29, 8, 30, 9, 31, 10, 40, 41, 42, 43, 44, 45, 46, 47, 48, 49, 50, 51, 52, 53, 54, 55, 56, 57, 58, 59, 60, 61, 62, 63, 64, 129, 130, 131, 132, 133, 134, 146, 147, 148, 149, 150, 151, 152, 153, 154, 155, 156, 157, 158, 159, 160] (by decide +kernel) (by decide +kernel)
set_option maxRecDepth 20000 in
theorem gX5_digest_X5_told : GoodIn wsX5_digest (wsV RX5 153 RX5 yX5_told wsX5_told) := goodIn_app (goodIn_of _ (by decide +kernel)) ggX5_digest_X5_told
set_option maxRecDepth 20000 in
theorem ggX5_digest_X5_setting : GoodIn wsX5_digest wsX5_setting := goodIn_r _ [68, 36, 69, 70, 71, 43, 72, 73, 74, 75, 56, 38, 6, 39, 76, 77, 78, 79, 80, 81, 82, 26, 27, 28, 29, 13, 8, 30, 9, 31, 10, 129, 130, 131, 132, 133, 134, 146, 147, 148, 149, 150, 151, 152, 153, 154, 155, 156, 157, 158, 159, 160, 161] (by decide +kernel) (by decide +kernel)
set_option maxRecDepth 20000 in
theorem gX5_digest_X5_setting : GoodIn wsX5_digest (wsV RX5 156 RX5 yX5_setting wsX5_setting) := goodIn_app (goodIn_of _ (by decide +kernel)) ggX5_digest_X5_setting
set_option maxRecDepth 20000 in
theorem ggX5_digest_X5_bands : GoodIn wsX5_digest wsX5_bands := goodIn_r _ [86, 36, 87, 88, 89, 43, 90, 91, 92, 93, 94, 95, 96, 97, 129, 130, 131, 132, 133, 134, 146, 147, 148, 149, 150, 151, 152, 153, 154, 155, 156, 157, 158, 159, 160, 162, 163] (by decide +kernel) (by decide +kernel)
set_option maxRecDepth 20000 in
theorem gX5_digest_X5_bands : GoodIn wsX5_digest (wsV RX5 159 RX5 yX5_bands wsX5_bands) := goodIn_app (goodIn_of _ (by decide +kernel)) ggX5_digest_X5_bands
set_option maxRecDepth 20000 in
theorem ggX5_digest_X5_band : GoodIn wsX5_digest wsX5_band := goodIn_r _ [101, 36, 102, 103, 104, 43, 105, 56, 91, 38, 6, 39, 106, 107, 108, 95, 109, 110, 97, 111, 112, 113, 114, 115, 116, 117, 118, 119, 26, 27, 28, 29, 13, 8, 30, 9, 31, 10, 129, 130, 131, 132, 133, 134, 146, 147, 148, 149, 150, 151, 152, 153, 154, 155, 156, 157, 158, 159, 160, 162, 163] (by decide +kernel) (by decide +kernel)
set_option maxRecDepth 20000 in
theorem gX5_digest_X5_band : GoodIn wsX5_digest (wsV RX5 164 RX5 yX5_band wsX5_band) := goodIn_app (goodIn_of _ (by decide +kernel)) ggX5_digest_X5_band
set_option maxRecDepth 20000 in
theorem ggX5_digest_X5_lasts : GoodIn wsX5_digest wsX5_lasts := goodIn_r _ [123, 36, 124, 125, 126, 43, 127, 56, 45, 73, 128, 46, 38, 6, 39, 26, 27, 28, 29, 13, 8, 30, 9, 31, 10, 129, 130, 131, 132, 133, 134, 146, 147, 148, 149, 150, 151, 152, 153, 154, 155, 156, 157, 158, 159, 160] (by decide +kernel) (by decide +kernel)
set_option maxRecDepth 20000 in
theorem gX5_digest_X5_lasts : GoodIn wsX5_digest (wsV RX5 167 RX5 yX5_lasts wsX5_lasts) := goodIn_app (goodIn_of _ (by decide +kernel)) ggX5_digest_X5_lasts
theorem dX5_digest_0 : decode cX5_digest 0 = .ok (.ldc2_w 146, 3) := by decide +kernel
theorem dX5_digest_3 : decode cX5_digest 3 = .ok (.lstore_n 1, 1) := by decide +kernel
theorem dX5_digest_4 : decode cX5_digest 4 = .ok (.iconst 0, 1) := by decide +kernel
theorem dX5_digest_5 : decode cX5_digest 5 = .ok (.istore_n 3, 1) := by decide +kernel
