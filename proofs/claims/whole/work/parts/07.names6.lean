theorem dX6_putSetting_24 : decode cX6_putSetting 24 = .ok (.getfield 7, 3) := by decide +kernel
theorem dX6_putSetting_27 : decode cX6_putSetting 27 = .ok (.iload_n 1, 1) := by decide +kernel
theorem dX6_putSetting_28 : decode cX6_putSetting 28 = .ok (.iload_n 2, 1) := by decide +kernel
theorem dX6_putSetting_29 : decode cX6_putSetting 29 = .ok (.i2l, 1) := by decide +kernel
theorem dX6_putSetting_30 : decode cX6_putSetting 30 = .ok (.lastore, 1) := by decide +kernel
theorem dX6_putSetting_31 : decode cX6_putSetting 31 = .ok (.iload 4, 2) := by decide +kernel
theorem dX6_putSetting_33 : decode cX6_putSetting 33 = .ok (.ireturn, 1) := by decide +kernel
set_option maxRecDepth 20000 in
theorem ggX6_putPoint_X6_in : GoodIn wsX6_putPoint wsX6_in := goodIn_r _ [9] (by decide +kernel) (by decide +kernel)
set_option maxRecDepth 20000 in
theorem gX6_putPoint_X6_in : GoodIn wsX6_putPoint (va_wsS RX6 69 yX6_in wsX6_in) := goodIn_app (goodIn_of _ (by decide +kernel)) ggX6_putPoint_X6_in
theorem dX6_putPoint_0 : decode cX6_putPoint 0 = .ok (.iload_n 1, 1) := by decide +kernel
theorem dX6_putPoint_1 : decode cX6_putPoint 1 = .ok (.i2l, 1) := by decide +kernel
theorem dX6_putPoint_2 : decode cX6_putPoint 2 = .ok (.lconst 0, 1) := by decide +kernel
theorem dX6_putPoint_3 : decode cX6_putPoint 3 = .ok (.ldc2_w 40, 3) := by decide +kernel
theorem dX6_putPoint_6 : decode cX6_putPoint 6 = .ok (.invokestatic 69, 3) := by decide +kernel
theorem dX6_putPoint_9 : decode cX6_putPoint 9 = .ok (.ifCond .eq 15, 3) := by decide +kernel
theorem dX6_putPoint_12 : decode cX6_putPoint 12 = .ok (.iload_n 2, 1) := by decide +kernel
theorem dX6_putPoint_13 : decode cX6_putPoint 13 = .ok (.i2l, 1) := by decide +kernel
theorem dX6_putPoint_14 : decode cX6_putPoint 14 = .ok (.lconst 0, 1) := by decide +kernel
theorem dX6_putPoint_15 : decode cX6_putPoint 15 = .ok (.ldc2_w 73, 3) := by decide +kernel
theorem dX6_putPoint_18 : decode cX6_putPoint 18 = .ok (.invokestatic 69, 3) := by decide +kernel
theorem dX6_putPoint_21 : decode cX6_putPoint 21 = .ok (.ifCond .ne 6, 3) := by decide +kernel
theorem dX6_putPoint_24 : decode cX6_putPoint 24 = .ok (.ldc 44, 2) := by decide +kernel
theorem dX6_putPoint_26 : decode cX6_putPoint 26 = .ok (.ireturn, 1) := by decide +kernel
theorem dX6_putPoint_27 : decode cX6_putPoint 27 = .ok (.iload_n 1, 1) := by decide +kernel
theorem dX6_putPoint_28 : decode cX6_putPoint 28 = .ok (.ifCond .le 20, 3) := by decide +kernel
theorem dX6_putPoint_31 : decode cX6_putPoint 31 = .ok (.aload_n 0, 1) := by decide +kernel
theorem dX6_putPoint_32 : decode cX6_putPoint 32 = .ok (.getfield 7, 3) := by decide +kernel
theorem dX6_putPoint_35 : decode cX6_putPoint 35 = .ok (.bipush 13, 2) := by decide +kernel
theorem dX6_putPoint_37 : decode cX6_putPoint 37 = .ok (.iload_n 1, 1) := by decide +kernel
theorem dX6_putPoint_38 : decode cX6_putPoint 38 = .ok (.iadd, 1) := by decide +kernel
theorem dX6_putPoint_39 : decode cX6_putPoint 39 = .ok (.iconst 1, 1) := by decide +kernel
theorem dX6_putPoint_40 : decode cX6_putPoint 40 = .ok (.isub, 1) := by decide +kernel
theorem dX6_putPoint_41 : decode cX6_putPoint 41 = .ok (.laload, 1) := by decide +kernel
theorem dX6_putPoint_42 : decode cX6_putPoint 42 = .ok (.iload_n 2, 1) := by decide +kernel
theorem dX6_putPoint_43 : decode cX6_putPoint 43 = .ok (.i2l, 1) := by decide +kernel
theorem dX6_putPoint_44 : decode cX6_putPoint 44 = .ok (.lcmp, 1) := by decide +kernel
theorem dX6_putPoint_45 : decode cX6_putPoint 45 = .ok (.ifCond .ge 26, 3) := by decide +kernel
theorem dX6_putPoint_48 : decode cX6_putPoint 48 = .ok (.iload_n 1, 1) := by decide +kernel
theorem dX6_putPoint_49 : decode cX6_putPoint 49 = .ok (.bipush 10, 2) := by decide +kernel
theorem dX6_putPoint_51 : decode cX6_putPoint 51 = .ok (.if_icmp .ge 23, 3) := by decide +kernel
theorem dX6_putPoint_54 : decode cX6_putPoint 54 = .ok (.aload_n 0, 1) := by decide +kernel
theorem dX6_putPoint_55 : decode cX6_putPoint 55 = .ok (.getfield 7, 3) := by decide +kernel
theorem dX6_putPoint_58 : decode cX6_putPoint 58 = .ok (.bipush 13, 2) := by decide +kernel
theorem dX6_putPoint_60 : decode cX6_putPoint 60 = .ok (.iload_n 1, 1) := by decide +kernel
theorem dX6_putPoint_61 : decode cX6_putPoint 61 = .ok (.iadd, 1) := by decide +kernel
theorem dX6_putPoint_62 : decode cX6_putPoint 62 = .ok (.iconst 1, 1) := by decide +kernel
theorem dX6_putPoint_63 : decode cX6_putPoint 63 = .ok (.iadd, 1) := by decide +kernel
theorem dX6_putPoint_64 : decode cX6_putPoint 64 = .ok (.laload, 1) := by decide +kernel
theorem dX6_putPoint_65 : decode cX6_putPoint 65 = .ok (.iload_n 2, 1) := by decide +kernel
theorem dX6_putPoint_66 : decode cX6_putPoint 66 = .ok (.i2l, 1) := by decide +kernel
theorem dX6_putPoint_67 : decode cX6_putPoint 67 = .ok (.lcmp, 1) := by decide +kernel
theorem dX6_putPoint_68 : decode cX6_putPoint 68 = .ok (.ifCond .gt 6, 3) := by decide +kernel
theorem dX6_putPoint_71 : decode cX6_putPoint 71 = .ok (.ldc 49, 2) := by decide +kernel
theorem dX6_putPoint_73 : decode cX6_putPoint 73 = .ok (.ireturn, 1) := by decide +kernel
theorem dX6_putPoint_74 : decode cX6_putPoint 74 = .ok (.aload_n 0, 1) := by decide +kernel
theorem dX6_putPoint_75 : decode cX6_putPoint 75 = .ok (.getfield 7, 3) := by decide +kernel
theorem dX6_putPoint_78 : decode cX6_putPoint 78 = .ok (.bipush 13, 2) := by decide +kernel
theorem dX6_putPoint_80 : decode cX6_putPoint 80 = .ok (.iload_n 1, 1) := by decide +kernel
theorem dX6_putPoint_81 : decode cX6_putPoint 81 = .ok (.iadd, 1) := by decide +kernel
theorem dX6_putPoint_82 : decode cX6_putPoint 82 = .ok (.laload, 1) := by decide +kernel
theorem dX6_putPoint_83 : decode cX6_putPoint 83 = .ok (.l2i, 1) := by decide +kernel
theorem dX6_putPoint_84 : decode cX6_putPoint 84 = .ok (.istore_n 3, 1) := by decide +kernel
theorem dX6_putPoint_85 : decode cX6_putPoint 85 = .ok (.aload_n 0, 1) := by decide +kernel
theorem dX6_putPoint_86 : decode cX6_putPoint 86 = .ok (.getfield 7, 3) := by decide +kernel
theorem dX6_putPoint_89 : decode cX6_putPoint 89 = .ok (.bipush 13, 2) := by decide +kernel
theorem dX6_putPoint_91 : decode cX6_putPoint 91 = .ok (.iload_n 1, 1) := by decide +kernel
theorem dX6_putPoint_92 : decode cX6_putPoint 92 = .ok (.iadd, 1) := by decide +kernel
theorem dX6_putPoint_93 : decode cX6_putPoint 93 = .ok (.iload_n 2, 1) := by decide +kernel
theorem dX6_putPoint_94 : decode cX6_putPoint 94 = .ok (.i2l, 1) := by decide +kernel
theorem dX6_putPoint_95 : decode cX6_putPoint 95 = .ok (.lastore, 1) := by decide +kernel
theorem dX6_putPoint_96 : decode cX6_putPoint 96 = .ok (.iload_n 3, 1) := by decide +kernel
theorem dX6_putPoint_97 : decode cX6_putPoint 97 = .ok (.ireturn, 1) := by decide +kernel
set_option maxRecDepth 20000 in
theorem ggX6_shows_X6_middle : GoodIn wsX6_shows wsX6_middle := goodIn_r _ [6, 1, 7, 8, 9, 10, 11, 12, 13, 14, 15, 16, 17, 18, 19, 20, 21, 22] (by decide +kernel) (by decide +kernel)
set_option maxRecDepth 20000 in
theorem gX6_shows_X6_middle : GoodIn wsX6_shows (wsV RX6 75 RX6 yX6_middle wsX6_middle) := goodIn_app (goodIn_of _ (by decide +kernel)) ggX6_shows_X6_middle
theorem dX6_shows_0 : decode cX6_shows 0 = .ok (.aload_n 0, 1) := by decide +kernel
theorem dX6_shows_1 : decode cX6_shows 1 = .ok (.invokevirtual 75, 3) := by decide +kernel
theorem dX6_shows_4 : decode cX6_shows 4 = .ok (.bipush 10, 2) := by decide +kernel
theorem dX6_shows_6 : decode cX6_shows 6 = .ok (.idiv, 1) := by decide +kernel
theorem dX6_shows_7 : decode cX6_shows 7 = .ok (.i2l, 1) := by decide +kernel
theorem dX6_shows_8 : decode cX6_shows 8 = .ok (.lstore_n 3, 1) := by decide +kernel
theorem dX6_shows_9 : decode cX6_shows 9 = .ok (.aload_n 0, 1) := by decide +kernel
theorem dX6_shows_10 : decode cX6_shows 10 = .ok (.getfield 7, 3) := by decide +kernel
theorem dX6_shows_13 : decode cX6_shows 13 = .ok (.iconst 4, 1) := by decide +kernel
theorem dX6_shows_14 : decode cX6_shows 14 = .ok (.laload, 1) := by decide +kernel
theorem dX6_shows_15 : decode cX6_shows 15 = .ok (.lstore 5, 2) := by decide +kernel
theorem dX6_shows_17 : decode cX6_shows 17 = .ok (.iload_n 1, 1) := by decide +kernel
theorem dX6_shows_18 : decode cX6_shows 18 = .ok (.ifCond .le 48, 3) := by decide +kernel
theorem dX6_shows_21 : decode cX6_shows 21 = .ok (.lload 5, 2) := by decide +kernel
theorem dX6_shows_23 : decode cX6_shows 23 = .ok (.iload_n 2, 1) := by decide +kernel
theorem dX6_shows_24 : decode cX6_shows 24 = .ok (.i2l, 1) := by decide +kernel
theorem dX6_shows_25 : decode cX6_shows 25 = .ok (.lsub, 1) := by decide +kernel
theorem dX6_shows_26 : decode cX6_shows 26 = .ok (.lload_n 3, 1) := by decide +kernel
theorem dX6_shows_27 : decode cX6_shows 27 = .ok (.lcmp, 1) := by decide +kernel
theorem dX6_shows_28 : decode cX6_shows 28 = .ok (.ifCond .le 11, 3) := by decide +kernel
theorem dX6_shows_31 : decode cX6_shows 31 = .ok (.lload 5, 2) := by decide +kernel
theorem dX6_shows_33 : decode cX6_shows 33 = .ok (.iload_n 2, 1) := by decide +kernel
theorem dX6_shows_34 : decode cX6_shows 34 = .ok (.i2l, 1) := by decide +kernel
theorem dX6_shows_35 : decode cX6_shows 35 = .ok (.lsub, 1) := by decide +kernel
theorem dX6_shows_36 : decode cX6_shows 36 = .ok (.goto 4, 3) := by decide +kernel
theorem dX6_shows_39 : decode cX6_shows 39 = .ok (.lload_n 3, 1) := by decide +kernel
theorem dX6_shows_40 : decode cX6_shows 40 = .ok (.lstore 7, 2) := by decide +kernel
theorem dX6_shows_42 : decode cX6_shows 42 = .ok (.aload_n 0, 1) := by decide +kernel
theorem dX6_shows_43 : decode cX6_shows 43 = .ok (.getfield 7, 3) := by decide +kernel
theorem dX6_shows_46 : decode cX6_shows 46 = .ok (.iconst 4, 1) := by decide +kernel
theorem dX6_shows_47 : decode cX6_shows 47 = .ok (.lload 7, 2) := by decide +kernel
theorem dX6_shows_49 : decode cX6_shows 49 = .ok (.lload 5, 2) := by decide +kernel
theorem dX6_shows_51 : decode cX6_shows 51 = .ok (.lcmp, 1) := by decide +kernel
theorem dX6_shows_52 : decode cX6_shows 52 = .ok (.ifCond .ge 8, 3) := by decide +kernel
theorem dX6_shows_55 : decode cX6_shows 55 = .ok (.lload 7, 2) := by decide +kernel
theorem dX6_shows_57 : decode cX6_shows 57 = .ok (.goto 5, 3) := by decide +kernel
theorem dX6_shows_60 : decode cX6_shows 60 = .ok (.lload 5, 2) := by decide +kernel
theorem dX6_shows_62 : decode cX6_shows 62 = .ok (.lastore, 1) := by decide +kernel
theorem dX6_shows_63 : decode cX6_shows 63 = .ok (.goto 49, 3) := by decide +kernel
theorem dX6_shows_66 : decode cX6_shows 66 = .ok (.iload_n 1, 1) := by decide +kernel
theorem dX6_shows_67 : decode cX6_shows 67 = .ok (.ifCond .ge 45, 3) := by decide +kernel
theorem dX6_shows_70 : decode cX6_shows 70 = .ok (.lload 5, 2) := by decide +kernel
theorem dX6_shows_72 : decode cX6_shows 72 = .ok (.iload_n 2, 1) := by decide +kernel
theorem dX6_shows_73 : decode cX6_shows 73 = .ok (.i2l, 1) := by decide +kernel
theorem dX6_shows_74 : decode cX6_shows 74 = .ok (.ladd, 1) := by decide +kernel
theorem dX6_shows_75 : decode cX6_shows 75 = .ok (.lload_n 3, 1) := by decide +kernel
theorem dX6_shows_76 : decode cX6_shows 76 = .ok (.lcmp, 1) := by decide +kernel
theorem dX6_shows_77 : decode cX6_shows 77 = .ok (.ifCond .ge 11, 3) := by decide +kernel
theorem dX6_shows_80 : decode cX6_shows 80 = .ok (.lload 5, 2) := by decide +kernel
theorem dX6_shows_82 : decode cX6_shows 82 = .ok (.iload_n 2, 1) := by decide +kernel
theorem dX6_shows_83 : decode cX6_shows 83 = .ok (.i2l, 1) := by decide +kernel
theorem dX6_shows_84 : decode cX6_shows 84 = .ok (.ladd, 1) := by decide +kernel
theorem dX6_shows_85 : decode cX6_shows 85 = .ok (.goto 4, 3) := by decide +kernel
theorem dX6_shows_88 : decode cX6_shows 88 = .ok (.lload_n 3, 1) := by decide +kernel
theorem dX6_shows_89 : decode cX6_shows 89 = .ok (.lstore 7, 2) := by decide +kernel
theorem dX6_shows_91 : decode cX6_shows 91 = .ok (.aload_n 0, 1) := by decide +kernel
theorem dX6_shows_92 : decode cX6_shows 92 = .ok (.getfield 7, 3) := by decide +kernel
theorem dX6_shows_95 : decode cX6_shows 95 = .ok (.iconst 4, 1) := by decide +kernel
theorem dX6_shows_96 : decode cX6_shows 96 = .ok (.lload 7, 2) := by decide +kernel
theorem dX6_shows_98 : decode cX6_shows 98 = .ok (.lload 5, 2) := by decide +kernel
theorem dX6_shows_100 : decode cX6_shows 100 = .ok (.lcmp, 1) := by decide +kernel
theorem dX6_shows_101 : decode cX6_shows 101 = .ok (.ifCond .le 8, 3) := by decide +kernel
theorem dX6_shows_104 : decode cX6_shows 104 = .ok (.lload 7, 2) := by decide +kernel
theorem dX6_shows_106 : decode cX6_shows 106 = .ok (.goto 5, 3) := by decide +kernel
theorem dX6_shows_109 : decode cX6_shows 109 = .ok (.lload 5, 2) := by decide +kernel
theorem dX6_shows_111 : decode cX6_shows 111 = .ok (.lastore, 1) := by decide +kernel
theorem dX6_shows_112 : decode cX6_shows 112 = .ok (.aload_n 0, 1) := by decide +kernel
theorem dX6_shows_113 : decode cX6_shows 113 = .ok (.getfield 7, 3) := by decide +kernel
theorem dX6_shows_116 : decode cX6_shows 116 = .ok (.iconst 1, 1) := by decide +kernel
theorem dX6_shows_117 : decode cX6_shows 117 = .ok (.laload, 1) := by decide +kernel
theorem dX6_shows_118 : decode cX6_shows 118 = .ok (.lconst 0, 1) := by decide +kernel
theorem dX6_shows_119 : decode cX6_shows 119 = .ok (.lcmp, 1) := by decide +kernel
theorem dX6_shows_120 : decode cX6_shows 120 = .ok (.ifCond .ne 10, 3) := by decide +kernel
theorem dX6_shows_123 : decode cX6_shows 123 = .ok (.aload_n 0, 1) := by decide +kernel
theorem dX6_shows_124 : decode cX6_shows 124 = .ok (.getfield 7, 3) := by decide +kernel
theorem dX6_shows_127 : decode cX6_shows 127 = .ok (.iconst 4, 1) := by decide +kernel
theorem dX6_shows_128 : decode cX6_shows 128 = .ok (.lconst 0, 1) := by decide +kernel
theorem dX6_shows_129 : decode cX6_shows 129 = .ok (.lastore, 1) := by decide +kernel
theorem dX6_shows_130 : decode cX6_shows 130 = .ok (.return_, 1) := by decide +kernel
set_option maxRecDepth 20000 in
theorem ggX6_putPassing_X6_in : GoodIn wsX6_putPassing wsX6_in := goodIn_r _ [10] (by decide +kernel) (by decide +kernel)
set_option maxRecDepth 20000 in
theorem gX6_putPassing_X6_in : GoodIn wsX6_putPassing (va_wsS RX6 69 yX6_in wsX6_in) := goodIn_app (goodIn_of _ (by decide +kernel)) ggX6_putPassing_X6_in
set_option maxRecDepth 20000 in
theorem ggX6_putPassing_X6_shows : GoodIn wsX6_putPassing wsX6_shows := goodIn_r _ [14, 5, 15, 16, 17, 9, 18, 19, 20, 21, 22, 23, 24, 25, 26, 27, 28, 29, 30, 31, 32, 33, 34] (by decide +kernel) (by decide +kernel)
set_option maxRecDepth 20000 in
theorem gX6_putPassing_X6_shows : GoodIn wsX6_putPassing (wsV RX6 85 RX6 yX6_shows wsX6_shows) := goodIn_app (goodIn_of _ (by decide +kernel)) ggX6_putPassing_X6_shows
theorem dX6_putPassing_0 : decode cX6_putPassing 0 = .ok (.iload_n 1, 1) := by decide +kernel
theorem dX6_putPassing_1 : decode cX6_putPassing 1 = .ok (.i2l, 1) := by decide +kernel
theorem dX6_putPassing_2 : decode cX6_putPassing 2 = .ok (.ldc2_w 79, 3) := by decide +kernel
theorem dX6_putPassing_5 : decode cX6_putPassing 5 = .ok (.ldc2_w 81, 3) := by decide +kernel
theorem dX6_putPassing_8 : decode cX6_putPassing 8 = .ok (.invokestatic 69, 3) := by decide +kernel
theorem dX6_putPassing_11 : decode cX6_putPassing 11 = .ok (.ifCond .eq 15, 3) := by decide +kernel
theorem dX6_putPassing_14 : decode cX6_putPassing 14 = .ok (.iload_n 2, 1) := by decide +kernel
theorem dX6_putPassing_15 : decode cX6_putPassing 15 = .ok (.i2l, 1) := by decide +kernel
theorem dX6_putPassing_16 : decode cX6_putPassing 16 = .ok (.lconst 1, 1) := by decide +kernel
theorem dX6_putPassing_17 : decode cX6_putPassing 17 = .ok (.ldc2_w 83, 3) := by decide +kernel
theorem dX6_putPassing_20 : decode cX6_putPassing 20 = .ok (.invokestatic 69, 3) := by decide +kernel
theorem dX6_putPassing_23 : decode cX6_putPassing 23 = .ok (.ifCond .ne 6, 3) := by decide +kernel
theorem dX6_putPassing_26 : decode cX6_putPassing 26 = .ok (.ldc 44, 2) := by decide +kernel
theorem dX6_putPassing_28 : decode cX6_putPassing 28 = .ok (.ireturn, 1) := by decide +kernel
theorem dX6_putPassing_29 : decode cX6_putPassing 29 = .ok (.aload_n 0, 1) := by decide +kernel
theorem dX6_putPassing_30 : decode cX6_putPassing 30 = .ok (.getfield 7, 3) := by decide +kernel
theorem dX6_putPassing_33 : decode cX6_putPassing 33 = .ok (.bipush 11, 2) := by decide +kernel
theorem dX6_putPassing_35 : decode cX6_putPassing 35 = .ok (.laload, 1) := by decide +kernel
theorem dX6_putPassing_36 : decode cX6_putPassing 36 = .ok (.lstore_n 3, 1) := by decide +kernel
theorem dX6_putPassing_37 : decode cX6_putPassing 37 = .ok (.aload_n 0, 1) := by decide +kernel
theorem dX6_putPassing_38 : decode cX6_putPassing 38 = .ok (.getfield 7, 3) := by decide +kernel
theorem dX6_putPassing_41 : decode cX6_putPassing 41 = .ok (.iconst 0, 1) := by decide +kernel
theorem dX6_putPassing_42 : decode cX6_putPassing 42 = .ok (.laload, 1) := by decide +kernel
theorem dX6_putPassing_43 : decode cX6_putPassing 43 = .ok (.iload_n 2, 1) := by decide +kernel
theorem dX6_putPassing_44 : decode cX6_putPassing 44 = .ok (.i2l, 1) := by decide +kernel
theorem dX6_putPassing_45 : decode cX6_putPassing 45 = .ok (.iload_n 1, 1) := by decide +kernel
theorem dX6_putPassing_46 : decode cX6_putPassing 46 = .ok (.i2l, 1) := by decide +kernel
theorem dX6_putPassing_47 : decode cX6_putPassing 47 = .ok (.lload_n 3, 1) := by decide +kernel
theorem dX6_putPassing_48 : decode cX6_putPassing 48 = .ok (.ladd, 1) := by decide +kernel
theorem dX6_putPassing_49 : decode cX6_putPassing 49 = .ok (.lmul, 1) := by decide +kernel
theorem dX6_putPassing_50 : decode cX6_putPassing 50 = .ok (.lsub, 1) := by decide +kernel
theorem dX6_putPassing_51 : decode cX6_putPassing 51 = .ok (.lstore 5, 2) := by decide +kernel
theorem dX6_putPassing_53 : decode cX6_putPassing 53 = .ok (.aload_n 0, 1) := by decide +kernel
theorem dX6_putPassing_54 : decode cX6_putPassing 54 = .ok (.getfield 7, 3) := by decide +kernel
theorem dX6_putPassing_57 : decode cX6_putPassing 57 = .ok (.iconst 1, 1) := by decide +kernel
theorem dX6_putPassing_58 : decode cX6_putPassing 58 = .ok (.laload, 1) := by decide +kernel
theorem dX6_putPassing_59 : decode cX6_putPassing 59 = .ok (.iload_n 2, 1) := by decide +kernel
theorem dX6_putPassing_60 : decode cX6_putPassing 60 = .ok (.i2l, 1) := by decide +kernel
theorem dX6_putPassing_61 : decode cX6_putPassing 61 = .ok (.iload_n 1, 1) := by decide +kernel
theorem dX6_putPassing_62 : decode cX6_putPassing 62 = .ok (.i2l, 1) := by decide +kernel
theorem dX6_putPassing_63 : decode cX6_putPassing 63 = .ok (.lload_n 3, 1) := by decide +kernel
theorem dX6_putPassing_64 : decode cX6_putPassing 64 = .ok (.lsub, 1) := by decide +kernel
theorem dX6_putPassing_65 : decode cX6_putPassing 65 = .ok (.lmul, 1) := by decide +kernel
theorem dX6_putPassing_66 : decode cX6_putPassing 66 = .ok (.lsub, 1) := by decide +kernel
theorem dX6_putPassing_67 : decode cX6_putPassing 67 = .ok (.lstore 7, 2) := by decide +kernel
theorem dX6_putPassing_69 : decode cX6_putPassing 69 = .ok (.lload 5, 2) := by decide +kernel
theorem dX6_putPassing_71 : decode cX6_putPassing 71 = .ok (.lconst 0, 1) := by decide +kernel
theorem dX6_putPassing_72 : decode cX6_putPassing 72 = .ok (.lcmp, 1) := by decide +kernel
theorem dX6_putPassing_73 : decode cX6_putPassing 73 = .ok (.ifCond .ge 7, 3) := by decide +kernel
theorem dX6_putPassing_76 : decode cX6_putPassing 76 = .ok (.lconst 0, 1) := by decide +kernel
theorem dX6_putPassing_77 : decode cX6_putPassing 77 = .ok (.goto 5, 3) := by decide +kernel
theorem dX6_putPassing_80 : decode cX6_putPassing 80 = .ok (.lload 5, 2) := by decide +kernel
theorem dX6_putPassing_82 : decode cX6_putPassing 82 = .ok (.lstore 5, 2) := by decide +kernel
theorem dX6_putPassing_84 : decode cX6_putPassing 84 = .ok (.lload 7, 2) := by decide +kernel
theorem dX6_putPassing_86 : decode cX6_putPassing 86 = .ok (.aload_n 0, 1) := by decide +kernel
theorem dX6_putPassing_87 : decode cX6_putPassing 87 = .ok (.getfield 7, 3) := by decide +kernel
theorem dX6_putPassing_90 : decode cX6_putPassing 90 = .ok (.iconst 3, 1) := by decide +kernel
theorem dX6_putPassing_91 : decode cX6_putPassing 91 = .ok (.laload, 1) := by decide +kernel
theorem dX6_putPassing_92 : decode cX6_putPassing 92 = .ok (.lcmp, 1) := by decide +kernel
theorem dX6_putPassing_93 : decode cX6_putPassing 93 = .ok (.ifCond .le 12, 3) := by decide +kernel
theorem dX6_putPassing_96 : decode cX6_putPassing 96 = .ok (.aload_n 0, 1) := by decide +kernel
theorem dX6_putPassing_97 : decode cX6_putPassing 97 = .ok (.getfield 7, 3) := by decide +kernel
theorem dX6_putPassing_100 : decode cX6_putPassing 100 = .ok (.iconst 3, 1) := by decide +kernel
theorem dX6_putPassing_101 : decode cX6_putPassing 101 = .ok (.laload, 1) := by decide +kernel
theorem dX6_putPassing_102 : decode cX6_putPassing 102 = .ok (.goto 5, 3) := by decide +kernel
theorem dX6_putPassing_105 : decode cX6_putPassing 105 = .ok (.lload 7, 2) := by decide +kernel
theorem dX6_putPassing_107 : decode cX6_putPassing 107 = .ok (.lstore 7, 2) := by decide +kernel
theorem dX6_putPassing_109 : decode cX6_putPassing 109 = .ok (.lload 7, 2) := by decide +kernel
theorem dX6_putPassing_111 : decode cX6_putPassing 111 = .ok (.lconst 0, 1) := by decide +kernel
theorem dX6_putPassing_112 : decode cX6_putPassing 112 = .ok (.lcmp, 1) := by decide +kernel
theorem dX6_putPassing_113 : decode cX6_putPassing 113 = .ok (.ifCond .lt 23, 3) := by decide +kernel
theorem dX6_putPassing_116 : decode cX6_putPassing 116 = .ok (.lload 5, 2) := by decide +kernel
theorem dX6_putPassing_118 : decode cX6_putPassing 118 = .ok (.aload_n 0, 1) := by decide +kernel
theorem dX6_putPassing_119 : decode cX6_putPassing 119 = .ok (.getfield 7, 3) := by decide +kernel
theorem dX6_putPassing_122 : decode cX6_putPassing 122 = .ok (.iconst 3, 1) := by decide +kernel
theorem dX6_putPassing_123 : decode cX6_putPassing 123 = .ok (.laload, 1) := by decide +kernel
theorem dX6_putPassing_124 : decode cX6_putPassing 124 = .ok (.lcmp, 1) := by decide +kernel
theorem dX6_putPassing_125 : decode cX6_putPassing 125 = .ok (.ifCond .gt 11, 3) := by decide +kernel
theorem dX6_putPassing_128 : decode cX6_putPassing 128 = .ok (.lload 5, 2) := by decide +kernel
theorem dX6_putPassing_130 : decode cX6_putPassing 130 = .ok (.lload 7, 2) := by decide +kernel
theorem dX6_putPassing_132 : decode cX6_putPassing 132 = .ok (.lcmp, 1) := by decide +kernel
theorem dX6_putPassing_133 : decode cX6_putPassing 133 = .ok (.ifCond .le 6, 3) := by decide +kernel
theorem dX6_putPassing_136 : decode cX6_putPassing 136 = .ok (.ldc 49, 2) := by decide +kernel
theorem dX6_putPassing_138 : decode cX6_putPassing 138 = .ok (.ireturn, 1) := by decide +kernel
theorem dX6_putPassing_139 : decode cX6_putPassing 139 = .ok (.aload_n 0, 1) := by decide +kernel
theorem dX6_putPassing_140 : decode cX6_putPassing 140 = .ok (.getfield 7, 3) := by decide +kernel
theorem dX6_putPassing_143 : decode cX6_putPassing 143 = .ok (.iconst 0, 1) := by decide +kernel
theorem dX6_putPassing_144 : decode cX6_putPassing 144 = .ok (.lload 5, 2) := by decide +kernel
theorem dX6_putPassing_146 : decode cX6_putPassing 146 = .ok (.lastore, 1) := by decide +kernel
theorem dX6_putPassing_147 : decode cX6_putPassing 147 = .ok (.aload_n 0, 1) := by decide +kernel
theorem dX6_putPassing_148 : decode cX6_putPassing 148 = .ok (.getfield 7, 3) := by decide +kernel
theorem dX6_putPassing_151 : decode cX6_putPassing 151 = .ok (.iconst 1, 1) := by decide +kernel
theorem dX6_putPassing_152 : decode cX6_putPassing 152 = .ok (.lload 7, 2) := by decide +kernel
theorem dX6_putPassing_154 : decode cX6_putPassing 154 = .ok (.lastore, 1) := by decide +kernel
theorem dX6_putPassing_155 : decode cX6_putPassing 155 = .ok (.aload_n 0, 1) := by decide +kernel
theorem dX6_putPassing_156 : decode cX6_putPassing 156 = .ok (.getfield 7, 3) := by decide +kernel
theorem dX6_putPassing_159 : decode cX6_putPassing 159 = .ok (.iconst 5, 1) := by decide +kernel
theorem dX6_putPassing_160 : decode cX6_putPassing 160 = .ok (.dup2, 1) := by decide +kernel
theorem dX6_putPassing_161 : decode cX6_putPassing 161 = .ok (.laload, 1) := by decide +kernel
theorem dX6_putPassing_162 : decode cX6_putPassing 162 = .ok (.iload_n 2, 1) := by decide +kernel
theorem dX6_putPassing_163 : decode cX6_putPassing 163 = .ok (.i2l, 1) := by decide +kernel
theorem dX6_putPassing_164 : decode cX6_putPassing 164 = .ok (.iload_n 1, 1) := by decide +kernel
theorem dX6_putPassing_165 : decode cX6_putPassing 165 = .ok (.i2l, 1) := by decide +kernel
theorem dX6_putPassing_166 : decode cX6_putPassing 166 = .ok (.lmul, 1) := by decide +kernel
theorem dX6_putPassing_167 : decode cX6_putPassing 167 = .ok (.ladd, 1) := by decide +kernel
theorem dX6_putPassing_168 : decode cX6_putPassing 168 = .ok (.lastore, 1) := by decide +kernel
theorem dX6_putPassing_169 : decode cX6_putPassing 169 = .ok (.aload_n 0, 1) := by decide +kernel
theorem dX6_putPassing_170 : decode cX6_putPassing 170 = .ok (.getfield 7, 3) := by decide +kernel
theorem dX6_putPassing_173 : decode cX6_putPassing 173 = .ok (.bipush 6, 2) := by decide +kernel
theorem dX6_putPassing_175 : decode cX6_putPassing 175 = .ok (.dup2, 1) := by decide +kernel
theorem dX6_putPassing_176 : decode cX6_putPassing 176 = .ok (.laload, 1) := by decide +kernel
theorem dX6_putPassing_177 : decode cX6_putPassing 177 = .ok (.iload_n 2, 1) := by decide +kernel
theorem dX6_putPassing_178 : decode cX6_putPassing 178 = .ok (.i2l, 1) := by decide +kernel
theorem dX6_putPassing_179 : decode cX6_putPassing 179 = .ok (.ladd, 1) := by decide +kernel
theorem dX6_putPassing_180 : decode cX6_putPassing 180 = .ok (.lastore, 1) := by decide +kernel
theorem dX6_putPassing_181 : decode cX6_putPassing 181 = .ok (.aload_n 0, 1) := by decide +kernel
theorem dX6_putPassing_182 : decode cX6_putPassing 182 = .ok (.iload_n 1, 1) := by decide +kernel
theorem dX6_putPassing_183 : decode cX6_putPassing 183 = .ok (.iload_n 2, 1) := by decide +kernel
theorem dX6_putPassing_184 : decode cX6_putPassing 184 = .ok (.invokevirtual 85, 3) := by decide +kernel
theorem dX6_putPassing_187 : decode cX6_putPassing 187 = .ok (.lload 7, 2) := by decide +kernel
theorem dX6_putPassing_189 : decode cX6_putPassing 189 = .ok (.lload 5, 2) := by decide +kernel
theorem dX6_putPassing_191 : decode cX6_putPassing 191 = .ok (.lsub, 1) := by decide +kernel
theorem dX6_putPassing_192 : decode cX6_putPassing 192 = .ok (.l2i, 1) := by decide +kernel
theorem dX6_putPassing_193 : decode cX6_putPassing 193 = .ok (.ireturn, 1) := by decide +kernel
theorem dX6_learnsCapacity_0 : decode cX6_learnsCapacity 0 = .ok (.aload_n 0, 1) := by decide +kernel
theorem dX6_learnsCapacity_1 : decode cX6_learnsCapacity 1 = .ok (.getfield 7, 3) := by decide +kernel
theorem dX6_learnsCapacity_4 : decode cX6_learnsCapacity 4 = .ok (.iconst 5, 1) := by decide +kernel
theorem dX6_learnsCapacity_5 : decode cX6_learnsCapacity 5 = .ok (.laload, 1) := by decide +kernel
theorem dX6_learnsCapacity_6 : decode cX6_learnsCapacity 6 = .ok (.aload_n 0, 1) := by decide +kernel
theorem dX6_learnsCapacity_7 : decode cX6_learnsCapacity 7 = .ok (.getfield 7, 3) := by decide +kernel
theorem dX6_learnsCapacity_10 : decode cX6_learnsCapacity 10 = .ok (.bipush 11, 2) := by decide +kernel
theorem dX6_learnsCapacity_12 : decode cX6_learnsCapacity 12 = .ok (.laload, 1) := by decide +kernel
theorem dX6_learnsCapacity_13 : decode cX6_learnsCapacity 13 = .ok (.aload_n 0, 1) := by decide +kernel
theorem dX6_learnsCapacity_14 : decode cX6_learnsCapacity 14 = .ok (.getfield 7, 3) := by decide +kernel
theorem dX6_learnsCapacity_17 : decode cX6_learnsCapacity 17 = .ok (.bipush 6, 2) := by decide +kernel
theorem dX6_learnsCapacity_19 : decode cX6_learnsCapacity 19 = .ok (.laload, 1) := by decide +kernel
theorem dX6_learnsCapacity_20 : decode cX6_learnsCapacity 20 = .ok (.lmul, 1) := by decide +kernel
theorem dX6_learnsCapacity_21 : decode cX6_learnsCapacity 21 = .ok (.lsub, 1) := by decide +kernel
theorem dX6_learnsCapacity_22 : decode cX6_learnsCapacity 22 = .ok (.lstore 5, 2) := by decide +kernel
theorem dX6_learnsCapacity_24 : decode cX6_learnsCapacity 24 = .ok (.aload_n 0, 1) := by decide +kernel
theorem dX6_learnsCapacity_25 : decode cX6_learnsCapacity 25 = .ok (.getfield 7, 3) := by decide +kernel
theorem dX6_learnsCapacity_28 : decode cX6_learnsCapacity 28 = .ok (.iconst 5, 1) := by decide +kernel
theorem dX6_learnsCapacity_29 : decode cX6_learnsCapacity 29 = .ok (.laload, 1) := by decide +kernel
theorem dX6_learnsCapacity_30 : decode cX6_learnsCapacity 30 = .ok (.aload_n 0, 1) := by decide +kernel
theorem dX6_learnsCapacity_31 : decode cX6_learnsCapacity 31 = .ok (.getfield 7, 3) := by decide +kernel
theorem dX6_learnsCapacity_34 : decode cX6_learnsCapacity 34 = .ok (.bipush 11, 2) := by decide +kernel
theorem dX6_learnsCapacity_36 : decode cX6_learnsCapacity 36 = .ok (.laload, 1) := by decide +kernel
theorem dX6_learnsCapacity_37 : decode cX6_learnsCapacity 37 = .ok (.aload_n 0, 1) := by decide +kernel
theorem dX6_learnsCapacity_38 : decode cX6_learnsCapacity 38 = .ok (.getfield 7, 3) := by decide +kernel
theorem dX6_learnsCapacity_41 : decode cX6_learnsCapacity 41 = .ok (.bipush 6, 2) := by decide +kernel
theorem dX6_learnsCapacity_43 : decode cX6_learnsCapacity 43 = .ok (.laload, 1) := by decide +kernel
theorem dX6_learnsCapacity_44 : decode cX6_learnsCapacity 44 = .ok (.lmul, 1) := by decide +kernel
theorem dX6_learnsCapacity_45 : decode cX6_learnsCapacity 45 = .ok (.ladd, 1) := by decide +kernel
theorem dX6_learnsCapacity_46 : decode cX6_learnsCapacity 46 = .ok (.lstore 7, 2) := by decide +kernel
theorem dX6_learnsCapacity_48 : decode cX6_learnsCapacity 48 = .ok (.aload_n 0, 1) := by decide +kernel
theorem dX6_learnsCapacity_49 : decode cX6_learnsCapacity 49 = .ok (.getfield 7, 3) := by decide +kernel
theorem dX6_learnsCapacity_52 : decode cX6_learnsCapacity 52 = .ok (.iconst 2, 1) := by decide +kernel
theorem dX6_learnsCapacity_53 : decode cX6_learnsCapacity 53 = .ok (.laload, 1) := by decide +kernel
theorem dX6_learnsCapacity_54 : decode cX6_learnsCapacity 54 = .ok (.lstore 9, 2) := by decide +kernel
theorem dX6_learnsCapacity_56 : decode cX6_learnsCapacity 56 = .ok (.aload_n 0, 1) := by decide +kernel
theorem dX6_learnsCapacity_57 : decode cX6_learnsCapacity 57 = .ok (.getfield 7, 3) := by decide +kernel
theorem dX6_learnsCapacity_60 : decode cX6_learnsCapacity 60 = .ok (.iconst 3, 1) := by decide +kernel
theorem dX6_learnsCapacity_61 : decode cX6_learnsCapacity 61 = .ok (.laload, 1) := by decide +kernel
theorem dX6_learnsCapacity_62 : decode cX6_learnsCapacity 62 = .ok (.lstore 11, 2) := by decide +kernel
theorem dX6_learnsCapacity_64 : decode cX6_learnsCapacity 64 = .ok (.aload_n 0, 1) := by decide +kernel
theorem dX6_learnsCapacity_65 : decode cX6_learnsCapacity 65 = .ok (.getfield 7, 3) := by decide +kernel
theorem dX6_learnsCapacity_68 : decode cX6_learnsCapacity 68 = .ok (.bipush 10, 2) := by decide +kernel
theorem dX6_learnsCapacity_70 : decode cX6_learnsCapacity 70 = .ok (.laload, 1) := by decide +kernel
theorem dX6_learnsCapacity_71 : decode cX6_learnsCapacity 71 = .ok (.lload_n 1, 1) := by decide +kernel
theorem dX6_learnsCapacity_72 : decode cX6_learnsCapacity 72 = .ok (.lsub, 1) := by decide +kernel
theorem dX6_learnsCapacity_73 : decode cX6_learnsCapacity 73 = .ok (.lstore 13, 2) := by decide +kernel
theorem dX6_learnsCapacity_75 : decode cX6_learnsCapacity 75 = .ok (.lload 5, 2) := by decide +kernel
theorem dX6_learnsCapacity_77 : decode cX6_learnsCapacity 77 = .ok (.lconst 0, 1) := by decide +kernel
theorem dX6_learnsCapacity_78 : decode cX6_learnsCapacity 78 = .ok (.lcmp, 1) := by decide +kernel
theorem dX6_learnsCapacity_79 : decode cX6_learnsCapacity 79 = .ok (.ifCond .le 38, 3) := by decide +kernel
theorem dX6_learnsCapacity_82 : decode cX6_learnsCapacity 82 = .ok (.lload 13, 2) := by decide +kernel
theorem dX6_learnsCapacity_84 : decode cX6_learnsCapacity 84 = .ok (.lconst 0, 1) := by decide +kernel
theorem dX6_learnsCapacity_85 : decode cX6_learnsCapacity 85 = .ok (.lcmp, 1) := by decide +kernel
theorem dX6_learnsCapacity_86 : decode cX6_learnsCapacity 86 = .ok (.ifCond .le 31, 3) := by decide +kernel
theorem dX6_learnsCapacity_89 : decode cX6_learnsCapacity 89 = .ok (.ldc2_w 32, 3) := by decide +kernel
theorem dX6_learnsCapacity_92 : decode cX6_learnsCapacity 92 = .ok (.lload 5, 2) := by decide +kernel
theorem dX6_learnsCapacity_94 : decode cX6_learnsCapacity 94 = .ok (.lmul, 1) := by decide +kernel
theorem dX6_learnsCapacity_95 : decode cX6_learnsCapacity 95 = .ok (.lload 13, 2) := by decide +kernel
theorem dX6_learnsCapacity_97 : decode cX6_learnsCapacity 97 = .ok (.ldiv, 1) := by decide +kernel
theorem dX6_learnsCapacity_98 : decode cX6_learnsCapacity 98 = .ok (.lstore 15, 2) := by decide +kernel
theorem dX6_learnsCapacity_100 : decode cX6_learnsCapacity 100 = .ok (.lload 15, 2) := by decide +kernel
theorem dX6_learnsCapacity_102 : decode cX6_learnsCapacity 102 = .ok (.lload 9, 2) := by decide +kernel
theorem dX6_learnsCapacity_104 : decode cX6_learnsCapacity 104 = .ok (.lcmp, 1) := by decide +kernel
theorem dX6_learnsCapacity_105 : decode cX6_learnsCapacity 105 = .ok (.ifCond .le 8, 3) := by decide +kernel
theorem dX6_learnsCapacity_108 : decode cX6_learnsCapacity 108 = .ok (.lload 15, 2) := by decide +kernel
theorem dX6_learnsCapacity_110 : decode cX6_learnsCapacity 110 = .ok (.goto 5, 3) := by decide +kernel
theorem dX6_learnsCapacity_113 : decode cX6_learnsCapacity 113 = .ok (.lload 9, 2) := by decide +kernel
theorem dX6_learnsCapacity_115 : decode cX6_learnsCapacity 115 = .ok (.lstore 9, 2) := by decide +kernel
theorem dX6_learnsCapacity_117 : decode cX6_learnsCapacity 117 = .ok (.aload_n 0, 1) := by decide +kernel
theorem dX6_learnsCapacity_118 : decode cX6_learnsCapacity 118 = .ok (.getfield 7, 3) := by decide +kernel
theorem dX6_learnsCapacity_121 : decode cX6_learnsCapacity 121 = .ok (.bipush 9, 2) := by decide +kernel
theorem dX6_learnsCapacity_123 : decode cX6_learnsCapacity 123 = .ok (.laload, 1) := by decide +kernel
theorem dX6_learnsCapacity_124 : decode cX6_learnsCapacity 124 = .ok (.lload_n 3, 1) := by decide +kernel
theorem dX6_learnsCapacity_125 : decode cX6_learnsCapacity 125 = .ok (.lsub, 1) := by decide +kernel
theorem dX6_learnsCapacity_126 : decode cX6_learnsCapacity 126 = .ok (.lstore 13, 2) := by decide +kernel
theorem dX6_learnsCapacity_128 : decode cX6_learnsCapacity 128 = .ok (.lload 7, 2) := by decide +kernel
theorem dX6_learnsCapacity_130 : decode cX6_learnsCapacity 130 = .ok (.lconst 0, 1) := by decide +kernel
theorem dX6_learnsCapacity_131 : decode cX6_learnsCapacity 131 = .ok (.lcmp, 1) := by decide +kernel
theorem dX6_learnsCapacity_132 : decode cX6_learnsCapacity 132 = .ok (.ifCond .le 43, 3) := by decide +kernel
theorem dX6_learnsCapacity_135 : decode cX6_learnsCapacity 135 = .ok (.lload 13, 2) := by decide +kernel
theorem dX6_learnsCapacity_137 : decode cX6_learnsCapacity 137 = .ok (.lconst 0, 1) := by decide +kernel
theorem dX6_learnsCapacity_138 : decode cX6_learnsCapacity 138 = .ok (.lcmp, 1) := by decide +kernel
theorem dX6_learnsCapacity_139 : decode cX6_learnsCapacity 139 = .ok (.ifCond .le 36, 3) := by decide +kernel
theorem dX6_learnsCapacity_142 : decode cX6_learnsCapacity 142 = .ok (.ldc2_w 32, 3) := by decide +kernel
theorem dX6_learnsCapacity_145 : decode cX6_learnsCapacity 145 = .ok (.lload 7, 2) := by decide +kernel
theorem dX6_learnsCapacity_147 : decode cX6_learnsCapacity 147 = .ok (.lmul, 1) := by decide +kernel
theorem dX6_learnsCapacity_148 : decode cX6_learnsCapacity 148 = .ok (.lload 13, 2) := by decide +kernel
theorem dX6_learnsCapacity_150 : decode cX6_learnsCapacity 150 = .ok (.ladd, 1) := by decide +kernel
theorem dX6_learnsCapacity_151 : decode cX6_learnsCapacity 151 = .ok (.lconst 1, 1) := by decide +kernel
theorem dX6_learnsCapacity_152 : decode cX6_learnsCapacity 152 = .ok (.lsub, 1) := by decide +kernel
theorem dX6_learnsCapacity_153 : decode cX6_learnsCapacity 153 = .ok (.lload 13, 2) := by decide +kernel
theorem dX6_learnsCapacity_155 : decode cX6_learnsCapacity 155 = .ok (.ldiv, 1) := by decide +kernel
theorem dX6_learnsCapacity_156 : decode cX6_learnsCapacity 156 = .ok (.lstore 15, 2) := by decide +kernel
theorem dX6_learnsCapacity_158 : decode cX6_learnsCapacity 158 = .ok (.lload 15, 2) := by decide +kernel
theorem dX6_learnsCapacity_160 : decode cX6_learnsCapacity 160 = .ok (.lload 11, 2) := by decide +kernel
theorem dX6_learnsCapacity_162 : decode cX6_learnsCapacity 162 = .ok (.lcmp, 1) := by decide +kernel
theorem dX6_learnsCapacity_163 : decode cX6_learnsCapacity 163 = .ok (.ifCond .ge 8, 3) := by decide +kernel
theorem dX6_learnsCapacity_166 : decode cX6_learnsCapacity 166 = .ok (.lload 15, 2) := by decide +kernel
theorem dX6_learnsCapacity_168 : decode cX6_learnsCapacity 168 = .ok (.goto 5, 3) := by decide +kernel
theorem dX6_learnsCapacity_171 : decode cX6_learnsCapacity 171 = .ok (.lload 11, 2) := by decide +kernel
theorem dX6_learnsCapacity_173 : decode cX6_learnsCapacity 173 = .ok (.lstore 11, 2) := by decide +kernel
theorem dX6_learnsCapacity_175 : decode cX6_learnsCapacity 175 = .ok (.lload 9, 2) := by decide +kernel
theorem dX6_learnsCapacity_177 : decode cX6_learnsCapacity 177 = .ok (.lload 11, 2) := by decide +kernel
theorem dX6_learnsCapacity_179 : decode cX6_learnsCapacity 179 = .ok (.lcmp, 1) := by decide +kernel
theorem dX6_learnsCapacity_180 : decode cX6_learnsCapacity 180 = .ok (.ifCond .le 17, 3) := by decide +kernel
theorem dX6_learnsCapacity_183 : decode cX6_learnsCapacity 183 = .ok (.aload_n 0, 1) := by decide +kernel
theorem dX6_learnsCapacity_184 : decode cX6_learnsCapacity 184 = .ok (.getfield 7, 3) := by decide +kernel
theorem dX6_learnsCapacity_187 : decode cX6_learnsCapacity 187 = .ok (.bipush 7, 2) := by decide +kernel
theorem dX6_learnsCapacity_189 : decode cX6_learnsCapacity 189 = .ok (.dup2, 1) := by decide +kernel
theorem dX6_learnsCapacity_190 : decode cX6_learnsCapacity 190 = .ok (.laload, 1) := by decide +kernel
theorem dX6_learnsCapacity_191 : decode cX6_learnsCapacity 191 = .ok (.lconst 1, 1) := by decide +kernel
theorem dX6_learnsCapacity_192 : decode cX6_learnsCapacity 192 = .ok (.ladd, 1) := by decide +kernel
theorem dX6_learnsCapacity_193 : decode cX6_learnsCapacity 193 = .ok (.lastore, 1) := by decide +kernel
theorem dX6_learnsCapacity_194 : decode cX6_learnsCapacity 194 = .ok (.goto 19, 3) := by decide +kernel
theorem dX6_learnsCapacity_197 : decode cX6_learnsCapacity 197 = .ok (.aload_n 0, 1) := by decide +kernel
theorem dX6_learnsCapacity_198 : decode cX6_learnsCapacity 198 = .ok (.getfield 7, 3) := by decide +kernel
theorem dX6_learnsCapacity_201 : decode cX6_learnsCapacity 201 = .ok (.iconst 2, 1) := by decide +kernel
theorem dX6_learnsCapacity_202 : decode cX6_learnsCapacity 202 = .ok (.lload 9, 2) := by decide +kernel
theorem dX6_learnsCapacity_204 : decode cX6_learnsCapacity 204 = .ok (.lastore, 1) := by decide +kernel
theorem dX6_learnsCapacity_205 : decode cX6_learnsCapacity 205 = .ok (.aload_n 0, 1) := by decide +kernel
theorem dX6_learnsCapacity_206 : decode cX6_learnsCapacity 206 = .ok (.getfield 7, 3) := by decide +kernel
theorem dX6_learnsCapacity_209 : decode cX6_learnsCapacity 209 = .ok (.iconst 3, 1) := by decide +kernel
theorem dX6_learnsCapacity_210 : decode cX6_learnsCapacity 210 = .ok (.lload 11, 2) := by decide +kernel
theorem dX6_learnsCapacity_212 : decode cX6_learnsCapacity 212 = .ok (.lastore, 1) := by decide +kernel
theorem dX6_learnsCapacity_213 : decode cX6_learnsCapacity 213 = .ok (.return_, 1) := by decide +kernel
set_option maxRecDepth 20000 in
theorem ggX6_putRest_X6_in : GoodIn wsX6_putRest wsX6_in := goodIn_r _ [13] (by decide +kernel) (by decide +kernel)
set_option maxRecDepth 20000 in
theorem gX6_putRest_X6_in : GoodIn wsX6_putRest (va_wsS RX6 69 yX6_in wsX6_in) := goodIn_app (goodIn_of _ (by decide +kernel)) ggX6_putRest_X6_in
set_option maxRecDepth 20000 in
theorem ggX6_putRest_X6_turns : GoodIn wsX6_putRest wsX6_turns := goodIn_r _ [17, 7, 4, 3, 5, 18, 19, 20, 12, 21, 22, 27, 28, 29, 30, 31, 32, 33, 34, 35, 36, 37, 38, 39, 40, 41] (by decide +kernel) (by decide +kernel)
set_option maxRecDepth 20000 in
theorem gX6_putRest_X6_turns : GoodIn wsX6_putRest (wsV RX6 89 RX6 yX6_turns wsX6_turns) := goodIn_app (goodIn_of _ (by decide +kernel)) ggX6_putRest_X6_turns
set_option maxRecDepth 20000 in
theorem ggX6_putRest_X6_learnsCapacity : GoodIn wsX6_putRest wsX6_learnsCapacity := goodIn_r _ [26, 7, 8, 27, 28, 29, 30, 31, 32, 33, 34, 35, 36, 37, 38, 39, 40, 41] (by decide +kernel) (by decide +kernel)
set_option maxRecDepth 20000 in
theorem gX6_putRest_X6_learnsCapacity : GoodIn wsX6_putRest (wsV RX6 93 RX6 yX6_learnsCapacity wsX6_learnsCapacity) := goodIn_app (goodIn_of _ (by decide +kernel)) ggX6_putRest_X6_learnsCapacity
theorem dX6_putRest_0 : decode cX6_putRest 0 = .ok (.iload_n 1, 1) := by decide +kernel
theorem dX6_putRest_1 : decode cX6_putRest 1 = .ok (.i2l, 1) := by decide +kernel
theorem dX6_putRest_2 : decode cX6_putRest 2 = .ok (.lconst 0, 1) := by decide +kernel
theorem dX6_putRest_3 : decode cX6_putRest 3 = .ok (.ldc2_w 73, 3) := by decide +kernel
theorem dX6_putRest_6 : decode cX6_putRest 6 = .ok (.invokestatic 69, 3) := by decide +kernel
theorem dX6_putRest_9 : decode cX6_putRest 9 = .ok (.ifCond .ne 6, 3) := by decide +kernel
theorem dX6_putRest_12 : decode cX6_putRest 12 = .ok (.ldc 44, 2) := by decide +kernel
theorem dX6_putRest_14 : decode cX6_putRest 14 = .ok (.ireturn, 1) := by decide +kernel
theorem dX6_putRest_15 : decode cX6_putRest 15 = .ok (.aload_n 0, 1) := by decide +kernel
theorem dX6_putRest_16 : decode cX6_putRest 16 = .ok (.iload_n 1, 1) := by decide +kernel
theorem dX6_putRest_17 : decode cX6_putRest 17 = .ok (.invokevirtual 89, 3) := by decide +kernel
theorem dX6_putRest_20 : decode cX6_putRest 20 = .ok (.aload_n 0, 1) := by decide +kernel
theorem dX6_putRest_21 : decode cX6_putRest 21 = .ok (.getfield 58, 3) := by decide +kernel
theorem dX6_putRest_24 : decode cX6_putRest 24 = .ok (.ldc 57, 2) := by decide +kernel
theorem dX6_putRest_26 : decode cX6_putRest 26 = .ok (.if_icmp .eq 12, 3) := by decide +kernel
theorem dX6_putRest_29 : decode cX6_putRest 29 = .ok (.aload_n 0, 1) := by decide +kernel
theorem dX6_putRest_30 : decode cX6_putRest 30 = .ok (.getfield 61, 3) := by decide +kernel
theorem dX6_putRest_33 : decode cX6_putRest 33 = .ok (.ldc 57, 2) := by decide +kernel
theorem dX6_putRest_35 : decode cX6_putRest 35 = .ok (.if_icmp .ne 6, 3) := by decide +kernel
theorem dX6_putRest_38 : decode cX6_putRest 38 = .ok (.ldc 49, 2) := by decide +kernel
theorem dX6_putRest_40 : decode cX6_putRest 40 = .ok (.ireturn, 1) := by decide +kernel
theorem dX6_putRest_41 : decode cX6_putRest 41 = .ok (.aload_n 0, 1) := by decide +kernel
theorem dX6_putRest_42 : decode cX6_putRest 42 = .ok (.getfield 7, 3) := by decide +kernel
theorem dX6_putRest_45 : decode cX6_putRest 45 = .ok (.bipush 8, 2) := by decide +kernel
theorem dX6_putRest_47 : decode cX6_putRest 47 = .ok (.laload, 1) := by decide +kernel
theorem dX6_putRest_48 : decode cX6_putRest 48 = .ok (.lconst 0, 1) := by decide +kernel
theorem dX6_putRest_49 : decode cX6_putRest 49 = .ok (.lcmp, 1) := by decide +kernel
theorem dX6_putRest_50 : decode cX6_putRest 50 = .ok (.ifCond .le 17, 3) := by decide +kernel
theorem dX6_putRest_53 : decode cX6_putRest 53 = .ok (.aload_n 0, 1) := by decide +kernel
theorem dX6_putRest_54 : decode cX6_putRest 54 = .ok (.aload_n 0, 1) := by decide +kernel
theorem dX6_putRest_55 : decode cX6_putRest 55 = .ok (.getfield 58, 3) := by decide +kernel
theorem dX6_putRest_58 : decode cX6_putRest 58 = .ok (.i2l, 1) := by decide +kernel
theorem dX6_putRest_59 : decode cX6_putRest 59 = .ok (.aload_n 0, 1) := by decide +kernel
theorem dX6_putRest_60 : decode cX6_putRest 60 = .ok (.getfield 61, 3) := by decide +kernel
theorem dX6_putRest_63 : decode cX6_putRest 63 = .ok (.i2l, 1) := by decide +kernel
theorem dX6_putRest_64 : decode cX6_putRest 64 = .ok (.invokevirtual 93, 3) := by decide +kernel
theorem dX6_putRest_67 : decode cX6_putRest 67 = .ok (.aload_n 0, 1) := by decide +kernel
theorem dX6_putRest_68 : decode cX6_putRest 68 = .ok (.getfield 58, 3) := by decide +kernel
theorem dX6_putRest_71 : decode cX6_putRest 71 = .ok (.i2l, 1) := by decide +kernel
theorem dX6_putRest_72 : decode cX6_putRest 72 = .ok (.aload_n 0, 1) := by decide +kernel
theorem dX6_putRest_73 : decode cX6_putRest 73 = .ok (.getfield 7, 3) := by decide +kernel
theorem dX6_putRest_76 : decode cX6_putRest 76 = .ok (.iconst 2, 1) := by decide +kernel
theorem dX6_putRest_77 : decode cX6_putRest 77 = .ok (.laload, 1) := by decide +kernel
theorem dX6_putRest_78 : decode cX6_putRest 78 = .ok (.lmul, 1) := by decide +kernel
theorem dX6_putRest_79 : decode cX6_putRest 79 = .ok (.ldc2_w 32, 3) := by decide +kernel
theorem dX6_putRest_82 : decode cX6_putRest 82 = .ok (.ldiv, 1) := by decide +kernel
theorem dX6_putRest_83 : decode cX6_putRest 83 = .ok (.lstore_n 2, 1) := by decide +kernel
theorem dX6_putRest_84 : decode cX6_putRest 84 = .ok (.aload_n 0, 1) := by decide +kernel
theorem dX6_putRest_85 : decode cX6_putRest 85 = .ok (.getfield 61, 3) := by decide +kernel
theorem dX6_putRest_88 : decode cX6_putRest 88 = .ok (.i2l, 1) := by decide +kernel
theorem dX6_putRest_89 : decode cX6_putRest 89 = .ok (.aload_n 0, 1) := by decide +kernel
theorem dX6_putRest_90 : decode cX6_putRest 90 = .ok (.getfield 7, 3) := by decide +kernel
theorem dX6_putRest_93 : decode cX6_putRest 93 = .ok (.iconst 3, 1) := by decide +kernel
theorem dX6_putRest_94 : decode cX6_putRest 94 = .ok (.laload, 1) := by decide +kernel
theorem dX6_putRest_95 : decode cX6_putRest 95 = .ok (.lmul, 1) := by decide +kernel
theorem dX6_putRest_96 : decode cX6_putRest 96 = .ok (.ldc2_w 83, 3) := by decide +kernel
theorem dX6_putRest_99 : decode cX6_putRest 99 = .ok (.ladd, 1) := by decide +kernel
theorem dX6_putRest_100 : decode cX6_putRest 100 = .ok (.ldc2_w 32, 3) := by decide +kernel
theorem dX6_putRest_103 : decode cX6_putRest 103 = .ok (.ldiv, 1) := by decide +kernel
theorem dX6_putRest_104 : decode cX6_putRest 104 = .ok (.lstore 4, 2) := by decide +kernel
theorem dX6_putRest_106 : decode cX6_putRest 106 = .ok (.lload_n 2, 1) := by decide +kernel
theorem dX6_putRest_107 : decode cX6_putRest 107 = .ok (.aload_n 0, 1) := by decide +kernel
theorem dX6_putRest_108 : decode cX6_putRest 108 = .ok (.getfield 7, 3) := by decide +kernel
theorem dX6_putRest_111 : decode cX6_putRest 111 = .ok (.iconst 0, 1) := by decide +kernel
theorem dX6_putRest_112 : decode cX6_putRest 112 = .ok (.laload, 1) := by decide +kernel
theorem dX6_putRest_113 : decode cX6_putRest 113 = .ok (.lcmp, 1) := by decide +kernel
theorem dX6_putRest_114 : decode cX6_putRest 114 = .ok (.ifCond .le 7, 3) := by decide +kernel
theorem dX6_putRest_117 : decode cX6_putRest 117 = .ok (.lload_n 2, 1) := by decide +kernel
theorem dX6_putRest_118 : decode cX6_putRest 118 = .ok (.goto 9, 3) := by decide +kernel
theorem dX6_putRest_121 : decode cX6_putRest 121 = .ok (.aload_n 0, 1) := by decide +kernel
theorem dX6_putRest_122 : decode cX6_putRest 122 = .ok (.getfield 7, 3) := by decide +kernel
theorem dX6_putRest_125 : decode cX6_putRest 125 = .ok (.iconst 0, 1) := by decide +kernel
theorem dX6_putRest_126 : decode cX6_putRest 126 = .ok (.laload, 1) := by decide +kernel
theorem dX6_putRest_127 : decode cX6_putRest 127 = .ok (.lstore_n 2, 1) := by decide +kernel
theorem dX6_putRest_128 : decode cX6_putRest 128 = .ok (.lload 4, 2) := by decide +kernel
theorem dX6_putRest_130 : decode cX6_putRest 130 = .ok (.aload_n 0, 1) := by decide +kernel
theorem dX6_putRest_131 : decode cX6_putRest 131 = .ok (.getfield 7, 3) := by decide +kernel
theorem dX6_putRest_134 : decode cX6_putRest 134 = .ok (.iconst 1, 1) := by decide +kernel
theorem dX6_putRest_135 : decode cX6_putRest 135 = .ok (.laload, 1) := by decide +kernel
theorem dX6_putRest_136 : decode cX6_putRest 136 = .ok (.lcmp, 1) := by decide +kernel
theorem dX6_putRest_137 : decode cX6_putRest 137 = .ok (.ifCond .ge 8, 3) := by decide +kernel
theorem dX6_putRest_140 : decode cX6_putRest 140 = .ok (.lload 4, 2) := by decide +kernel
theorem dX6_putRest_142 : decode cX6_putRest 142 = .ok (.goto 9, 3) := by decide +kernel
theorem dX6_putRest_145 : decode cX6_putRest 145 = .ok (.aload_n 0, 1) := by decide +kernel
theorem dX6_putRest_146 : decode cX6_putRest 146 = .ok (.getfield 7, 3) := by decide +kernel
theorem dX6_putRest_149 : decode cX6_putRest 149 = .ok (.iconst 1, 1) := by decide +kernel
theorem dX6_putRest_150 : decode cX6_putRest 150 = .ok (.laload, 1) := by decide +kernel
theorem dX6_putRest_151 : decode cX6_putRest 151 = .ok (.lstore 4, 2) := by decide +kernel
theorem dX6_putRest_153 : decode cX6_putRest 153 = .ok (.lload_n 2, 1) := by decide +kernel
theorem dX6_putRest_154 : decode cX6_putRest 154 = .ok (.lload 4, 2) := by decide +kernel
theorem dX6_putRest_156 : decode cX6_putRest 156 = .ok (.lcmp, 1) := by decide +kernel
theorem dX6_putRest_157 : decode cX6_putRest 157 = .ok (.ifCond .le 17, 3) := by decide +kernel
theorem dX6_putRest_160 : decode cX6_putRest 160 = .ok (.aload_n 0, 1) := by decide +kernel
theorem dX6_putRest_161 : decode cX6_putRest 161 = .ok (.getfield 7, 3) := by decide +kernel
theorem dX6_putRest_164 : decode cX6_putRest 164 = .ok (.bipush 7, 2) := by decide +kernel
theorem dX6_putRest_166 : decode cX6_putRest 166 = .ok (.dup2, 1) := by decide +kernel
theorem dX6_putRest_167 : decode cX6_putRest 167 = .ok (.laload, 1) := by decide +kernel
theorem dX6_putRest_168 : decode cX6_putRest 168 = .ok (.lconst 1, 1) := by decide +kernel
theorem dX6_putRest_169 : decode cX6_putRest 169 = .ok (.ladd, 1) := by decide +kernel
theorem dX6_putRest_170 : decode cX6_putRest 170 = .ok (.lastore, 1) := by decide +kernel
theorem dX6_putRest_171 : decode cX6_putRest 171 = .ok (.goto 18, 3) := by decide +kernel
theorem dX6_putRest_174 : decode cX6_putRest 174 = .ok (.aload_n 0, 1) := by decide +kernel
theorem dX6_putRest_175 : decode cX6_putRest 175 = .ok (.getfield 7, 3) := by decide +kernel
theorem dX6_putRest_178 : decode cX6_putRest 178 = .ok (.iconst 0, 1) := by decide +kernel
theorem dX6_putRest_179 : decode cX6_putRest 179 = .ok (.lload_n 2, 1) := by decide +kernel
theorem dX6_putRest_180 : decode cX6_putRest 180 = .ok (.lastore, 1) := by decide +kernel
theorem dX6_putRest_181 : decode cX6_putRest 181 = .ok (.aload_n 0, 1) := by decide +kernel
theorem dX6_putRest_182 : decode cX6_putRest 182 = .ok (.getfield 7, 3) := by decide +kernel
theorem dX6_putRest_185 : decode cX6_putRest 185 = .ok (.iconst 1, 1) := by decide +kernel
theorem dX6_putRest_186 : decode cX6_putRest 186 = .ok (.lload 4, 2) := by decide +kernel
theorem dX6_putRest_188 : decode cX6_putRest 188 = .ok (.lastore, 1) := by decide +kernel
theorem dX6_putRest_189 : decode cX6_putRest 189 = .ok (.aload_n 0, 1) := by decide +kernel
theorem dX6_putRest_190 : decode cX6_putRest 190 = .ok (.getfield 7, 3) := by decide +kernel
theorem dX6_putRest_193 : decode cX6_putRest 193 = .ok (.iconst 1, 1) := by decide +kernel
theorem dX6_putRest_194 : decode cX6_putRest 194 = .ok (.aload_n 0, 1) := by decide +kernel
theorem dX6_putRest_195 : decode cX6_putRest 195 = .ok (.getfield 7, 3) := by decide +kernel
theorem dX6_putRest_198 : decode cX6_putRest 198 = .ok (.iconst 1, 1) := by decide +kernel
theorem dX6_putRest_199 : decode cX6_putRest 199 = .ok (.laload, 1) := by decide +kernel
theorem dX6_putRest_200 : decode cX6_putRest 200 = .ok (.aload_n 0, 1) := by decide +kernel
theorem dX6_putRest_201 : decode cX6_putRest 201 = .ok (.getfield 7, 3) := by decide +kernel
theorem dX6_putRest_204 : decode cX6_putRest 204 = .ok (.iconst 3, 1) := by decide +kernel
theorem dX6_putRest_205 : decode cX6_putRest 205 = .ok (.laload, 1) := by decide +kernel
theorem dX6_putRest_206 : decode cX6_putRest 206 = .ok (.lcmp, 1) := by decide +kernel
theorem dX6_putRest_207 : decode cX6_putRest 207 = .ok (.ifCond .le 12, 3) := by decide +kernel
theorem dX6_putRest_210 : decode cX6_putRest 210 = .ok (.aload_n 0, 1) := by decide +kernel
theorem dX6_putRest_211 : decode cX6_putRest 211 = .ok (.getfield 7, 3) := by decide +kernel
theorem dX6_putRest_214 : decode cX6_putRest 214 = .ok (.iconst 3, 1) := by decide +kernel
theorem dX6_putRest_215 : decode cX6_putRest 215 = .ok (.laload, 1) := by decide +kernel
theorem dX6_putRest_216 : decode cX6_putRest 216 = .ok (.goto 9, 3) := by decide +kernel
theorem dX6_putRest_219 : decode cX6_putRest 219 = .ok (.aload_n 0, 1) := by decide +kernel
theorem dX6_putRest_220 : decode cX6_putRest 220 = .ok (.getfield 7, 3) := by decide +kernel
theorem dX6_putRest_223 : decode cX6_putRest 223 = .ok (.iconst 1, 1) := by decide +kernel
theorem dX6_putRest_224 : decode cX6_putRest 224 = .ok (.laload, 1) := by decide +kernel
theorem dX6_putRest_225 : decode cX6_putRest 225 = .ok (.lastore, 1) := by decide +kernel
theorem dX6_putRest_226 : decode cX6_putRest 226 = .ok (.aload_n 0, 1) := by decide +kernel
theorem dX6_putRest_227 : decode cX6_putRest 227 = .ok (.getfield 7, 3) := by decide +kernel
theorem dX6_putRest_230 : decode cX6_putRest 230 = .ok (.iconst 0, 1) := by decide +kernel
theorem dX6_putRest_231 : decode cX6_putRest 231 = .ok (.aload_n 0, 1) := by decide +kernel
theorem dX6_putRest_232 : decode cX6_putRest 232 = .ok (.getfield 7, 3) := by decide +kernel
theorem dX6_putRest_235 : decode cX6_putRest 235 = .ok (.iconst 0, 1) := by decide +kernel
theorem dX6_putRest_236 : decode cX6_putRest 236 = .ok (.laload, 1) := by decide +kernel
theorem dX6_putRest_237 : decode cX6_putRest 237 = .ok (.aload_n 0, 1) := by decide +kernel
theorem dX6_putRest_238 : decode cX6_putRest 238 = .ok (.getfield 7, 3) := by decide +kernel
theorem dX6_putRest_241 : decode cX6_putRest 241 = .ok (.iconst 3, 1) := by decide +kernel
theorem dX6_putRest_242 : decode cX6_putRest 242 = .ok (.laload, 1) := by decide +kernel
theorem dX6_putRest_243 : decode cX6_putRest 243 = .ok (.lcmp, 1) := by decide +kernel
theorem dX6_putRest_244 : decode cX6_putRest 244 = .ok (.ifCond .le 12, 3) := by decide +kernel
theorem dX6_putRest_247 : decode cX6_putRest 247 = .ok (.aload_n 0, 1) := by decide +kernel
theorem dX6_putRest_248 : decode cX6_putRest 248 = .ok (.getfield 7, 3) := by decide +kernel
theorem dX6_putRest_251 : decode cX6_putRest 251 = .ok (.iconst 3, 1) := by decide +kernel
theorem dX6_putRest_252 : decode cX6_putRest 252 = .ok (.laload, 1) := by decide +kernel
theorem dX6_putRest_253 : decode cX6_putRest 253 = .ok (.goto 9, 3) := by decide +kernel
theorem dX6_putRest_256 : decode cX6_putRest 256 = .ok (.aload_n 0, 1) := by decide +kernel
theorem dX6_putRest_257 : decode cX6_putRest 257 = .ok (.getfield 7, 3) := by decide +kernel
theorem dX6_putRest_260 : decode cX6_putRest 260 = .ok (.iconst 0, 1) := by decide +kernel
theorem dX6_putRest_261 : decode cX6_putRest 261 = .ok (.laload, 1) := by decide +kernel
theorem dX6_putRest_262 : decode cX6_putRest 262 = .ok (.lastore, 1) := by decide +kernel
theorem dX6_putRest_263 : decode cX6_putRest 263 = .ok (.aload_n 0, 1) := by decide +kernel
theorem dX6_putRest_264 : decode cX6_putRest 264 = .ok (.getfield 7, 3) := by decide +kernel
theorem dX6_putRest_267 : decode cX6_putRest 267 = .ok (.iconst 5, 1) := by decide +kernel
theorem dX6_putRest_268 : decode cX6_putRest 268 = .ok (.lconst 0, 1) := by decide +kernel
theorem dX6_putRest_269 : decode cX6_putRest 269 = .ok (.lastore, 1) := by decide +kernel
theorem dX6_putRest_270 : decode cX6_putRest 270 = .ok (.aload_n 0, 1) := by decide +kernel
theorem dX6_putRest_271 : decode cX6_putRest 271 = .ok (.getfield 7, 3) := by decide +kernel
theorem dX6_putRest_274 : decode cX6_putRest 274 = .ok (.bipush 6, 2) := by decide +kernel
theorem dX6_putRest_276 : decode cX6_putRest 276 = .ok (.lconst 0, 1) := by decide +kernel
theorem dX6_putRest_277 : decode cX6_putRest 277 = .ok (.lastore, 1) := by decide +kernel
theorem dX6_putRest_278 : decode cX6_putRest 278 = .ok (.aload_n 0, 1) := by decide +kernel
theorem dX6_putRest_279 : decode cX6_putRest 279 = .ok (.getfield 7, 3) := by decide +kernel
theorem dX6_putRest_282 : decode cX6_putRest 282 = .ok (.bipush 8, 2) := by decide +kernel
theorem dX6_putRest_284 : decode cX6_putRest 284 = .ok (.dup2, 1) := by decide +kernel
theorem dX6_putRest_285 : decode cX6_putRest 285 = .ok (.laload, 1) := by decide +kernel
theorem dX6_putRest_286 : decode cX6_putRest 286 = .ok (.lconst 1, 1) := by decide +kernel
theorem dX6_putRest_287 : decode cX6_putRest 287 = .ok (.ladd, 1) := by decide +kernel
theorem dX6_putRest_288 : decode cX6_putRest 288 = .ok (.lastore, 1) := by decide +kernel
theorem dX6_putRest_289 : decode cX6_putRest 289 = .ok (.aload_n 0, 1) := by decide +kernel
theorem dX6_putRest_290 : decode cX6_putRest 290 = .ok (.getfield 7, 3) := by decide +kernel
theorem dX6_putRest_293 : decode cX6_putRest 293 = .ok (.bipush 9, 2) := by decide +kernel
theorem dX6_putRest_295 : decode cX6_putRest 295 = .ok (.aload_n 0, 1) := by decide +kernel
theorem dX6_putRest_296 : decode cX6_putRest 296 = .ok (.getfield 58, 3) := by decide +kernel
theorem dX6_putRest_299 : decode cX6_putRest 299 = .ok (.i2l, 1) := by decide +kernel
theorem dX6_putRest_300 : decode cX6_putRest 300 = .ok (.lastore, 1) := by decide +kernel
theorem dX6_putRest_301 : decode cX6_putRest 301 = .ok (.aload_n 0, 1) := by decide +kernel
theorem dX6_putRest_302 : decode cX6_putRest 302 = .ok (.getfield 7, 3) := by decide +kernel
theorem dX6_putRest_305 : decode cX6_putRest 305 = .ok (.bipush 10, 2) := by decide +kernel
theorem dX6_putRest_307 : decode cX6_putRest 307 = .ok (.aload_n 0, 1) := by decide +kernel
theorem dX6_putRest_308 : decode cX6_putRest 308 = .ok (.getfield 61, 3) := by decide +kernel
theorem dX6_putRest_311 : decode cX6_putRest 311 = .ok (.i2l, 1) := by decide +kernel
theorem dX6_putRest_312 : decode cX6_putRest 312 = .ok (.lastore, 1) := by decide +kernel
theorem dX6_putRest_313 : decode cX6_putRest 313 = .ok (.aload_n 0, 1) := by decide +kernel
theorem dX6_putRest_314 : decode cX6_putRest 314 = .ok (.getfield 7, 3) := by decide +kernel
theorem dX6_putRest_317 : decode cX6_putRest 317 = .ok (.iconst 4, 1) := by decide +kernel
theorem dX6_putRest_318 : decode cX6_putRest 318 = .ok (.aload_n 0, 1) := by decide +kernel
theorem dX6_putRest_319 : decode cX6_putRest 319 = .ok (.getfield 7, 3) := by decide +kernel
theorem dX6_putRest_322 : decode cX6_putRest 322 = .ok (.iconst 1, 1) := by decide +kernel
theorem dX6_putRest_323 : decode cX6_putRest 323 = .ok (.laload, 1) := by decide +kernel
theorem dX6_putRest_324 : decode cX6_putRest 324 = .ok (.lconst 0, 1) := by decide +kernel
theorem dX6_putRest_325 : decode cX6_putRest 325 = .ok (.lcmp, 1) := by decide +kernel
theorem dX6_putRest_326 : decode cX6_putRest 326 = .ok (.ifCond .ne 7, 3) := by decide +kernel
theorem dX6_putRest_329 : decode cX6_putRest 329 = .ok (.lconst 0, 1) := by decide +kernel
theorem dX6_putRest_330 : decode cX6_putRest 330 = .ok (.goto 9, 3) := by decide +kernel
theorem dX6_putRest_333 : decode cX6_putRest 333 = .ok (.aload_n 0, 1) := by decide +kernel
theorem dX6_putRest_334 : decode cX6_putRest 334 = .ok (.getfield 7, 3) := by decide +kernel
theorem dX6_putRest_337 : decode cX6_putRest 337 = .ok (.iconst 4, 1) := by decide +kernel
theorem dX6_putRest_338 : decode cX6_putRest 338 = .ok (.laload, 1) := by decide +kernel
theorem dX6_putRest_339 : decode cX6_putRest 339 = .ok (.lastore, 1) := by decide +kernel
theorem dX6_putRest_340 : decode cX6_putRest 340 = .ok (.aload_n 0, 1) := by decide +kernel
theorem dX6_putRest_341 : decode cX6_putRest 341 = .ok (.getfield 7, 3) := by decide +kernel
theorem dX6_putRest_344 : decode cX6_putRest 344 = .ok (.iconst 1, 1) := by decide +kernel
theorem dX6_putRest_345 : decode cX6_putRest 345 = .ok (.laload, 1) := by decide +kernel
theorem dX6_putRest_346 : decode cX6_putRest 346 = .ok (.aload_n 0, 1) := by decide +kernel
theorem dX6_putRest_347 : decode cX6_putRest 347 = .ok (.getfield 7, 3) := by decide +kernel
theorem dX6_putRest_350 : decode cX6_putRest 350 = .ok (.iconst 0, 1) := by decide +kernel
theorem dX6_putRest_351 : decode cX6_putRest 351 = .ok (.laload, 1) := by decide +kernel
theorem dX6_putRest_352 : decode cX6_putRest 352 = .ok (.lsub, 1) := by decide +kernel
theorem dX6_putRest_353 : decode cX6_putRest 353 = .ok (.l2i, 1) := by decide +kernel
theorem dX6_putRest_354 : decode cX6_putRest 354 = .ok (.ireturn, 1) := by decide +kernel
set_option maxRecDepth 20000 in
theorem ggX6_bandNow_X6_middle : GoodIn wsX6_bandNow wsX6_middle := goodIn_r _ [5, 6, 7, 8, 9, 10, 11, 12, 13, 14, 15, 16, 17, 18, 19, 20, 21, 22] (by decide +kernel) (by decide +kernel)
set_option maxRecDepth 20000 in
theorem gX6_bandNow_X6_middle : GoodIn wsX6_bandNow (wsV RX6 75 RX6 yX6_middle wsX6_middle) := goodIn_app (goodIn_of _ (by decide +kernel)) ggX6_bandNow_X6_middle
theorem dX6_bandNow_0 : decode cX6_bandNow 0 = .ok (.bipush 11, 2) := by decide +kernel
theorem dX6_bandNow_2 : decode cX6_bandNow 2 = .ok (.iload_n 1, 1) := by decide +kernel
theorem dX6_bandNow_3 : decode cX6_bandNow 3 = .ok (.ifCond .le 7, 3) := by decide +kernel
theorem dX6_bandNow_6 : decode cX6_bandNow 6 = .ok (.iconst 0, 1) := by decide +kernel
theorem dX6_bandNow_7 : decode cX6_bandNow 7 = .ok (.goto 4, 3) := by decide +kernel
theorem dX6_bandNow_10 : decode cX6_bandNow 10 = .ok (.iconst 1, 1) := by decide +kernel
theorem dX6_bandNow_11 : decode cX6_bandNow 11 = .ok (.imul, 1) := by decide +kernel
theorem dX6_bandNow_12 : decode cX6_bandNow 12 = .ok (.aload_n 0, 1) := by decide +kernel
theorem dX6_bandNow_13 : decode cX6_bandNow 13 = .ok (.invokevirtual 75, 3) := by decide +kernel
theorem dX6_bandNow_16 : decode cX6_bandNow 16 = .ok (.bipush 100, 2) := by decide +kernel
theorem dX6_bandNow_18 : decode cX6_bandNow 18 = .ok (.idiv, 1) := by decide +kernel
theorem dX6_bandNow_19 : decode cX6_bandNow 19 = .ok (.iadd, 1) := by decide +kernel
theorem dX6_bandNow_20 : decode cX6_bandNow 20 = .ok (.ireturn, 1) := by decide +kernel
set_option maxRecDepth 20000 in
theorem ggX6_putLoad_X6_in : GoodIn wsX6_putLoad wsX6_in := goodIn_r _ [9] (by decide +kernel) (by decide +kernel)
set_option maxRecDepth 20000 in
theorem gX6_putLoad_X6_in : GoodIn wsX6_putLoad (va_wsS RX6 69 yX6_in wsX6_in) := goodIn_app (goodIn_of _ (by decide +kernel)) ggX6_putLoad_X6_in
set_option maxRecDepth 20000 in
theorem ggX6_putLoad_X6_middle : GoodIn wsX6_putLoad wsX6_middle := goodIn_r _ [13, 5, 14, 24, 25, 26, 27, 28, 29, 30, 31, 32, 33, 34, 35, 36, 37, 38] (by decide +kernel) (by decide +kernel)
set_option maxRecDepth 20000 in
theorem gX6_putLoad_X6_middle : GoodIn wsX6_putLoad (wsV RX6 75 RX6 yX6_middle wsX6_middle) := goodIn_app (goodIn_of _ (by decide +kernel)) ggX6_putLoad_X6_middle
set_option maxRecDepth 20000 in
theorem ggX6_putLoad_X6_voltsAt : GoodIn wsX6_putLoad wsX6_voltsAt := goodIn_r _ [18, 5, 19, 24, 25, 26, 27, 28, 29, 30, 31, 32, 33, 34, 35, 36, 37, 38] (by decide +kernel) (by decide +kernel)
set_option maxRecDepth 20000 in
theorem gX6_putLoad_X6_voltsAt : GoodIn wsX6_putLoad (wsV RX6 64 RX6 yX6_voltsAt wsX6_voltsAt) := goodIn_app (goodIn_of _ (by decide +kernel)) ggX6_putLoad_X6_voltsAt
set_option maxRecDepth 20000 in
theorem ggX6_putLoad_X6_bandNow : GoodIn wsX6_putLoad wsX6_bandNow := goodIn_r _ [23, 10, 11, 12, 8, 13, 5, 14, 24, 25, 26, 27, 28, 29, 30, 31, 32, 33, 34, 35, 36, 37, 38] (by decide +kernel) (by decide +kernel)
set_option maxRecDepth 20000 in
theorem gX6_putLoad_X6_bandNow : GoodIn wsX6_putLoad (wsV RX6 97 RX6 yX6_bandNow wsX6_bandNow) := goodIn_app (goodIn_of _ (by decide +kernel)) ggX6_putLoad_X6_bandNow
theorem dX6_putLoad_0 : decode cX6_putLoad 0 = .ok (.iload_n 1, 1) := by decide +kernel
theorem dX6_putLoad_1 : decode cX6_putLoad 1 = .ok (.i2l, 1) := by decide +kernel
theorem dX6_putLoad_2 : decode cX6_putLoad 2 = .ok (.ldc2_w 79, 3) := by decide +kernel
theorem dX6_putLoad_5 : decode cX6_putLoad 5 = .ok (.ldc2_w 81, 3) := by decide +kernel
theorem dX6_putLoad_8 : decode cX6_putLoad 8 = .ok (.invokestatic 69, 3) := by decide +kernel
theorem dX6_putLoad_11 : decode cX6_putLoad 11 = .ok (.ifCond .eq 19, 3) := by decide +kernel
theorem dX6_putLoad_14 : decode cX6_putLoad 14 = .ok (.iload_n 1, 1) := by decide +kernel
theorem dX6_putLoad_15 : decode cX6_putLoad 15 = .ok (.ifCond .eq 15, 3) := by decide +kernel
theorem dX6_putLoad_18 : decode cX6_putLoad 18 = .ok (.iload_n 2, 1) := by decide +kernel
theorem dX6_putLoad_19 : decode cX6_putLoad 19 = .ok (.i2l, 1) := by decide +kernel
theorem dX6_putLoad_20 : decode cX6_putLoad 20 = .ok (.lconst 0, 1) := by decide +kernel
theorem dX6_putLoad_21 : decode cX6_putLoad 21 = .ok (.ldc2_w 73, 3) := by decide +kernel
theorem dX6_putLoad_24 : decode cX6_putLoad 24 = .ok (.invokestatic 69, 3) := by decide +kernel
theorem dX6_putLoad_27 : decode cX6_putLoad 27 = .ok (.ifCond .ne 6, 3) := by decide +kernel
theorem dX6_putLoad_30 : decode cX6_putLoad 30 = .ok (.ldc 44, 2) := by decide +kernel
theorem dX6_putLoad_32 : decode cX6_putLoad 32 = .ok (.ireturn, 1) := by decide +kernel
theorem dX6_putLoad_33 : decode cX6_putLoad 33 = .ok (.bipush 100, 2) := by decide +kernel
theorem dX6_putLoad_35 : decode cX6_putLoad 35 = .ok (.aload_n 0, 1) := by decide +kernel
theorem dX6_putLoad_36 : decode cX6_putLoad 36 = .ok (.aload_n 0, 1) := by decide +kernel
theorem dX6_putLoad_37 : decode cX6_putLoad 37 = .ok (.invokevirtual 75, 3) := by decide +kernel
theorem dX6_putLoad_40 : decode cX6_putLoad 40 = .ok (.invokevirtual 64, 3) := by decide +kernel
theorem dX6_putLoad_43 : decode cX6_putLoad 43 = .ok (.iload_n 2, 1) := by decide +kernel
theorem dX6_putLoad_44 : decode cX6_putLoad 44 = .ok (.isub, 1) := by decide +kernel
theorem dX6_putLoad_45 : decode cX6_putLoad 45 = .ok (.imul, 1) := by decide +kernel
theorem dX6_putLoad_46 : decode cX6_putLoad 46 = .ok (.iload_n 1, 1) := by decide +kernel
theorem dX6_putLoad_47 : decode cX6_putLoad 47 = .ok (.idiv, 1) := by decide +kernel
theorem dX6_putLoad_48 : decode cX6_putLoad 48 = .ok (.istore_n 3, 1) := by decide +kernel
theorem dX6_putLoad_49 : decode cX6_putLoad 49 = .ok (.aload_n 0, 1) := by decide +kernel
theorem dX6_putLoad_50 : decode cX6_putLoad 50 = .ok (.iload_n 1, 1) := by decide +kernel
theorem dX6_putLoad_51 : decode cX6_putLoad 51 = .ok (.invokevirtual 97, 3) := by decide +kernel
theorem dX6_putLoad_54 : decode cX6_putLoad 54 = .ok (.istore 4, 2) := by decide +kernel
theorem dX6_putLoad_56 : decode cX6_putLoad 56 = .ok (.aload_n 0, 1) := by decide +kernel
theorem dX6_putLoad_57 : decode cX6_putLoad 57 = .ok (.getfield 7, 3) := by decide +kernel
theorem dX6_putLoad_60 : decode cX6_putLoad 60 = .ok (.bipush 24, 2) := by decide +kernel
theorem dX6_putLoad_62 : decode cX6_putLoad 62 = .ok (.iload 4, 2) := by decide +kernel
theorem dX6_putLoad_64 : decode cX6_putLoad 64 = .ok (.iadd, 1) := by decide +kernel
theorem dX6_putLoad_65 : decode cX6_putLoad 65 = .ok (.dup2, 1) := by decide +kernel
theorem dX6_putLoad_66 : decode cX6_putLoad 66 = .ok (.laload, 1) := by decide +kernel
theorem dX6_putLoad_67 : decode cX6_putLoad 67 = .ok (.lconst 1, 1) := by decide +kernel
theorem dX6_putLoad_68 : decode cX6_putLoad 68 = .ok (.ladd, 1) := by decide +kernel
theorem dX6_putLoad_69 : decode cX6_putLoad 69 = .ok (.lastore, 1) := by decide +kernel
theorem dX6_putLoad_70 : decode cX6_putLoad 70 = .ok (.aload_n 0, 1) := by decide +kernel
theorem dX6_putLoad_71 : decode cX6_putLoad 71 = .ok (.getfield 7, 3) := by decide +kernel
theorem dX6_putLoad_74 : decode cX6_putLoad 74 = .ok (.bipush 46, 2) := by decide +kernel
theorem dX6_putLoad_76 : decode cX6_putLoad 76 = .ok (.iload 4, 2) := by decide +kernel
theorem dX6_putLoad_78 : decode cX6_putLoad 78 = .ok (.iadd, 1) := by decide +kernel
theorem dX6_putLoad_79 : decode cX6_putLoad 79 = .ok (.dup2, 1) := by decide +kernel
theorem dX6_putLoad_80 : decode cX6_putLoad 80 = .ok (.laload, 1) := by decide +kernel
theorem dX6_putLoad_81 : decode cX6_putLoad 81 = .ok (.iload_n 3, 1) := by decide +kernel
theorem dX6_putLoad_82 : decode cX6_putLoad 82 = .ok (.i2l, 1) := by decide +kernel
theorem dX6_putLoad_83 : decode cX6_putLoad 83 = .ok (.ladd, 1) := by decide +kernel
theorem dX6_putLoad_84 : decode cX6_putLoad 84 = .ok (.lastore, 1) := by decide +kernel
theorem dX6_putLoad_85 : decode cX6_putLoad 85 = .ok (.iload_n 3, 1) := by decide +kernel
theorem dX6_putLoad_86 : decode cX6_putLoad 86 = .ok (.ireturn, 1) := by decide +kernel
set_option maxRecDepth 20000 in
theorem ggX6_begins_X6_laysAside : GoodIn wsX6_begins wsX6_laysAside := goodIn_r _ [5, 6, 7, 34, 35, 36, 37, 38, 39, 40, 41, 42, 43, 44, 45, 46, 47, 48] (by decide +kernel) (by decide +kernel)
set_option maxRecDepth 20000 in
theorem gX6_begins_X6_laysAside : GoodIn wsX6_begins (wsV RX6 100 RX6 yX6_laysAside wsX6_laysAside) := goodIn_app (goodIn_of _ (by decide +kernel)) ggX6_begins_X6_laysAside
set_option maxRecDepth 20000 in
theorem ggX6_begins_X6_putCapacity : GoodIn wsX6_begins wsX6_putCapacity := goodIn_r _ [11, 12, 13, 7, 14, 15, 16, 17, 4, 18, 34, 35, 36, 37, 38, 39, 40, 41, 42, 43, 44, 45, 46, 47, 48] (by decide +kernel) (by decide +kernel)
set_option maxRecDepth 20000 in
theorem gX6_begins_X6_putCapacity : GoodIn wsX6_begins (wsV RX6 103 RX6 yX6_putCapacity wsX6_putCapacity) := goodIn_app (goodIn_of _ (by decide +kernel)) ggX6_begins_X6_putCapacity
set_option maxRecDepth 20000 in
theorem ggX6_begins_X6_finished : GoodIn wsX6_begins wsX6_finished := goodIn_r _ [22, 13, 23, 24, 25, 4, 26, 27, 28, 29, 30, 31, 32, 33, 6, 34, 35, 36, 37, 38, 39, 40, 41, 42, 43, 44, 45, 46, 47, 48] (by decide +kernel) (by decide +kernel)
set_option maxRecDepth 20000 in
theorem gX6_begins_X6_finished : GoodIn wsX6_begins (wsV RX6 107 RX6 yX6_finished wsX6_finished) := goodIn_app (goodIn_of _ (by decide +kernel)) ggX6_begins_X6_finished
theorem dX6_begins_0 : decode cX6_begins 0 = .ok (.aload_n 0, 1) := by decide +kernel
theorem dX6_begins_1 : decode cX6_begins 1 = .ok (.invokevirtual 100, 3) := by decide +kernel
theorem dX6_begins_4 : decode cX6_begins 4 = .ok (.aload_n 0, 1) := by decide +kernel
theorem dX6_begins_5 : decode cX6_begins 5 = .ok (.aload_n 0, 1) := by decide +kernel
theorem dX6_begins_6 : decode cX6_begins 6 = .ok (.iload_n 1, 1) := by decide +kernel
theorem dX6_begins_7 : decode cX6_begins 7 = .ok (.iload_n 2, 1) := by decide +kernel
theorem dX6_begins_8 : decode cX6_begins 8 = .ok (.invokevirtual 103, 3) := by decide +kernel
theorem dX6_begins_11 : decode cX6_begins 11 = .ok (.invokevirtual 107, 3) := by decide +kernel
theorem dX6_begins_14 : decode cX6_begins 14 = .ok (.ireturn, 1) := by decide +kernel
set_option maxRecDepth 20000 in
theorem ggX6_holds_X6_laysAside : GoodIn wsX6_holds wsX6_laysAside := goodIn_r _ [5, 6, 7, 32, 33, 34, 35, 36, 37, 38, 39, 40, 41, 42, 43, 44, 45, 46] (by decide +kernel) (by decide +kernel)
set_option maxRecDepth 20000 in
theorem gX6_holds_X6_laysAside : GoodIn wsX6_holds (wsV RX6 100 RX6 yX6_laysAside wsX6_laysAside) := goodIn_app (goodIn_of _ (by decide +kernel)) ggX6_holds_X6_laysAside
set_option maxRecDepth 20000 in
theorem ggX6_holds_X6_putCharge : GoodIn wsX6_holds wsX6_putCharge := goodIn_r _ [11, 12, 7, 13, 14, 15, 4, 16, 32, 33, 34, 35, 36, 37, 38, 39, 40, 41, 42, 43, 44, 45, 46] (by decide +kernel) (by decide +kernel)
set_option maxRecDepth 20000 in
theorem gX6_holds_X6_putCharge : GoodIn wsX6_holds (wsV RX6 110 RX6 yX6_putCharge wsX6_putCharge) := goodIn_app (goodIn_of _ (by decide +kernel)) ggX6_holds_X6_putCharge
set_option maxRecDepth 20000 in
theorem ggX6_holds_X6_finished : GoodIn wsX6_holds wsX6_finished := goodIn_r _ [20, 13, 21, 22, 23, 4, 24, 25, 26, 27, 28, 29, 30, 31, 6, 32, 33, 34, 35, 36, 37, 38, 39, 40, 41, 42, 43, 44, 45, 46] (by decide +kernel) (by decide +kernel)
set_option maxRecDepth 20000 in
theorem gX6_holds_X6_finished : GoodIn wsX6_holds (wsV RX6 107 RX6 yX6_finished wsX6_finished) := goodIn_app (goodIn_of _ (by decide +kernel)) ggX6_holds_X6_finished
theorem dX6_holds_0 : decode cX6_holds 0 = .ok (.aload_n 0, 1) := by decide +kernel
theorem dX6_holds_1 : decode cX6_holds 1 = .ok (.invokevirtual 100, 3) := by decide +kernel
theorem dX6_holds_4 : decode cX6_holds 4 = .ok (.aload_n 0, 1) := by decide +kernel
theorem dX6_holds_5 : decode cX6_holds 5 = .ok (.aload_n 0, 1) := by decide +kernel
theorem dX6_holds_6 : decode cX6_holds 6 = .ok (.iload_n 1, 1) := by decide +kernel
theorem dX6_holds_7 : decode cX6_holds 7 = .ok (.iload_n 2, 1) := by decide +kernel
theorem dX6_holds_8 : decode cX6_holds 8 = .ok (.invokevirtual 110, 3) := by decide +kernel
theorem dX6_holds_11 : decode cX6_holds 11 = .ok (.invokevirtual 107, 3) := by decide +kernel
theorem dX6_holds_14 : decode cX6_holds 14 = .ok (.ireturn, 1) := by decide +kernel
set_option maxRecDepth 20000 in
theorem ggX6_offset_X6_laysAside : GoodIn wsX6_offset wsX6_laysAside := goodIn_r _ [5, 6, 7, 31, 32, 33, 34, 35, 36, 37, 38, 39, 40, 41, 42, 43, 44, 45] (by decide +kernel) (by decide +kernel)
set_option maxRecDepth 20000 in
theorem gX6_offset_X6_laysAside : GoodIn wsX6_offset (wsV RX6 100 RX6 yX6_laysAside wsX6_laysAside) := goodIn_app (goodIn_of _ (by decide +kernel)) ggX6_offset_X6_laysAside
set_option maxRecDepth 20000 in
theorem ggX6_offset_X6_putSetting : GoodIn wsX6_offset wsX6_putSetting := goodIn_r _ [11, 12, 7, 13, 14, 4, 15, 31, 32, 33, 34, 35, 36, 37, 38, 39, 40, 41, 42, 43, 44, 45] (by decide +kernel) (by decide +kernel)
set_option maxRecDepth 20000 in
theorem gX6_offset_X6_putSetting : GoodIn wsX6_offset (wsV RX6 113 RX6 yX6_putSetting wsX6_putSetting) := goodIn_app (goodIn_of _ (by decide +kernel)) ggX6_offset_X6_putSetting
set_option maxRecDepth 20000 in
theorem ggX6_offset_X6_finished : GoodIn wsX6_offset wsX6_finished := goodIn_r _ [19, 12, 20, 21, 22, 4, 23, 24, 25, 26, 27, 28, 29, 30, 6, 31, 32, 33, 34, 35, 36, 37, 38, 39, 40, 41, 42, 43, 44, 45] (by decide +kernel) (by decide +kernel)
set_option maxRecDepth 20000 in
theorem gX6_offset_X6_finished : GoodIn wsX6_offset (wsV RX6 107 RX6 yX6_finished wsX6_finished) := goodIn_app (goodIn_of _ (by decide +kernel)) ggX6_offset_X6_finished
theorem dX6_offset_0 : decode cX6_offset 0 = .ok (.aload_n 0, 1) := by decide +kernel
theorem dX6_offset_1 : decode cX6_offset 1 = .ok (.invokevirtual 100, 3) := by decide +kernel
theorem dX6_offset_4 : decode cX6_offset 4 = .ok (.aload_n 0, 1) := by decide +kernel
theorem dX6_offset_5 : decode cX6_offset 5 = .ok (.aload_n 0, 1) := by decide +kernel
theorem dX6_offset_6 : decode cX6_offset 6 = .ok (.bipush 11, 2) := by decide +kernel
theorem dX6_offset_8 : decode cX6_offset 8 = .ok (.iload_n 1, 1) := by decide +kernel
theorem dX6_offset_9 : decode cX6_offset 9 = .ok (.bipush 9, 2) := by decide +kernel
theorem dX6_offset_11 : decode cX6_offset 11 = .ok (.invokevirtual 113, 3) := by decide +kernel
theorem dX6_offset_14 : decode cX6_offset 14 = .ok (.invokevirtual 107, 3) := by decide +kernel
theorem dX6_offset_17 : decode cX6_offset 17 = .ok (.ireturn, 1) := by decide +kernel
set_option maxRecDepth 20000 in
theorem ggX6_clings_X6_laysAside : GoodIn wsX6_clings wsX6_laysAside := goodIn_r _ [5, 6, 7, 31, 32, 33, 34, 35, 36, 37, 38, 39, 40, 41, 42, 43, 44, 45] (by decide +kernel) (by decide +kernel)
set_option maxRecDepth 20000 in
theorem gX6_clings_X6_laysAside : GoodIn wsX6_clings (wsV RX6 100 RX6 yX6_laysAside wsX6_laysAside) := goodIn_app (goodIn_of _ (by decide +kernel)) ggX6_clings_X6_laysAside
set_option maxRecDepth 20000 in
theorem ggX6_clings_X6_putSetting : GoodIn wsX6_clings wsX6_putSetting := goodIn_r _ [11, 12, 7, 13, 14, 4, 15, 31, 32, 33, 34, 35, 36, 37, 38, 39, 40, 41, 42, 43, 44, 45] (by decide +kernel) (by decide +kernel)
set_option maxRecDepth 20000 in
theorem gX6_clings_X6_putSetting : GoodIn wsX6_clings (wsV RX6 113 RX6 yX6_putSetting wsX6_putSetting) := goodIn_app (goodIn_of _ (by decide +kernel)) ggX6_clings_X6_putSetting
set_option maxRecDepth 20000 in
theorem ggX6_clings_X6_finished : GoodIn wsX6_clings wsX6_finished := goodIn_r _ [19, 12, 20, 21, 22, 4, 23, 24, 25, 26, 27, 28, 29, 30, 6, 31, 32, 33, 34, 35, 36, 37, 38, 39, 40, 41, 42, 43, 44, 45] (by decide +kernel) (by decide +kernel)
set_option maxRecDepth 20000 in
theorem gX6_clings_X6_finished : GoodIn wsX6_clings (wsV RX6 107 RX6 yX6_finished wsX6_finished) := goodIn_app (goodIn_of _ (by decide +kernel)) ggX6_clings_X6_finished
theorem dX6_clings_0 : decode cX6_clings 0 = .ok (.aload_n 0, 1) := by decide +kernel
theorem dX6_clings_1 : decode cX6_clings 1 = .ok (.invokevirtual 100, 3) := by decide +kernel
theorem dX6_clings_4 : decode cX6_clings 4 = .ok (.aload_n 0, 1) := by decide +kernel
theorem dX6_clings_5 : decode cX6_clings 5 = .ok (.aload_n 0, 1) := by decide +kernel
theorem dX6_clings_6 : decode cX6_clings 6 = .ok (.bipush 12, 2) := by decide +kernel
theorem dX6_clings_8 : decode cX6_clings 8 = .ok (.iload_n 1, 1) := by decide +kernel
theorem dX6_clings_9 : decode cX6_clings 9 = .ok (.sipush 500, 3) := by decide +kernel
theorem dX6_clings_12 : decode cX6_clings 12 = .ok (.invokevirtual 113, 3) := by decide +kernel
theorem dX6_clings_15 : decode cX6_clings 15 = .ok (.invokevirtual 107, 3) := by decide +kernel
theorem dX6_clings_18 : decode cX6_clings 18 = .ok (.ireturn, 1) := by decide +kernel
set_option maxRecDepth 20000 in
theorem ggX6_curve_X6_laysAside : GoodIn wsX6_curve wsX6_laysAside := goodIn_r _ [5, 6, 7, 34, 35, 36, 37, 38, 39, 40, 41, 42, 43, 44, 45, 46, 47, 48] (by decide +kernel) (by decide +kernel)
set_option maxRecDepth 20000 in
theorem gX6_curve_X6_laysAside : GoodIn wsX6_curve (wsV RX6 100 RX6 yX6_laysAside wsX6_laysAside) := goodIn_app (goodIn_of _ (by decide +kernel)) ggX6_curve_X6_laysAside
set_option maxRecDepth 20000 in
theorem ggX6_curve_X6_putPoint : GoodIn wsX6_curve wsX6_putPoint := goodIn_r _ [11, 12, 13, 14, 7, 15, 16, 17, 4, 18, 34, 35, 36, 37, 38, 39, 40, 41, 42, 43, 44, 45, 46, 47, 48] (by decide +kernel) (by decide +kernel)
set_option maxRecDepth 20000 in
theorem gX6_curve_X6_putPoint : GoodIn wsX6_curve (wsV RX6 117 RX6 yX6_putPoint wsX6_putPoint) := goodIn_app (goodIn_of _ (by decide +kernel)) ggX6_curve_X6_putPoint
set_option maxRecDepth 20000 in
theorem ggX6_curve_X6_finished : GoodIn wsX6_curve wsX6_finished := goodIn_r _ [22, 14, 23, 24, 25, 4, 26, 27, 28, 29, 30, 31, 32, 33, 6, 34, 35, 36, 37, 38, 39, 40, 41, 42, 43, 44, 45, 46, 47, 48] (by decide +kernel) (by decide +kernel)
set_option maxRecDepth 20000 in
theorem gX6_curve_X6_finished : GoodIn wsX6_curve (wsV RX6 107 RX6 yX6_finished wsX6_finished) := goodIn_app (goodIn_of _ (by decide +kernel)) ggX6_curve_X6_finished
theorem dX6_curve_0 : decode cX6_curve 0 = .ok (.aload_n 0, 1) := by decide +kernel
