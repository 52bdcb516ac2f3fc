theorem dX6_doneOne_16 : decode cX6_doneOne 16 = .ok (.iconst 1, 1) := by decide +kernel
theorem dX6_doneOne_17 : decode cX6_doneOne 17 = .ok (.iadd, 1) := by decide +kernel
theorem dX6_doneOne_18 : decode cX6_doneOne 18 = .ok (.iaload, 1) := by decide +kernel
theorem dX6_doneOne_19 : decode cX6_doneOne 19 = .ok (.istore_n 3, 1) := by decide +kernel
theorem dX6_doneOne_20 : decode cX6_doneOne 20 = .ok (.aload_n 0, 1) := by decide +kernel
theorem dX6_doneOne_21 : decode cX6_doneOne 21 = .ok (.getfield 26, 3) := by decide +kernel
theorem dX6_doneOne_24 : decode cX6_doneOne 24 = .ok (.iload_n 1, 1) := by decide +kernel
theorem dX6_doneOne_25 : decode cX6_doneOne 25 = .ok (.iaload, 1) := by decide +kernel
theorem dX6_doneOne_26 : decode cX6_doneOne 26 = .ok (.tableswitch 103 103 114 #[92, 103, 103, 103, 103, 75, 103, 103, 82, 62, 103, 69], 62) := by decide +kernel
theorem dX6_doneOne_88 : decode cX6_doneOne 88 = .ok (.aload_n 0, 1) := by decide +kernel
theorem dX6_doneOne_89 : decode cX6_doneOne 89 = .ok (.iload_n 2, 1) := by decide +kernel
theorem dX6_doneOne_90 : decode cX6_doneOne 90 = .ok (.iload_n 3, 1) := by decide +kernel
theorem dX6_doneOne_91 : decode cX6_doneOne 91 = .ok (.invokevirtual 120, 3) := by decide +kernel
theorem dX6_doneOne_94 : decode cX6_doneOne 94 = .ok (.ireturn, 1) := by decide +kernel
theorem dX6_doneOne_95 : decode cX6_doneOne 95 = .ok (.aload_n 0, 1) := by decide +kernel
theorem dX6_doneOne_96 : decode cX6_doneOne 96 = .ok (.iload_n 2, 1) := by decide +kernel
theorem dX6_doneOne_97 : decode cX6_doneOne 97 = .ok (.invokevirtual 123, 3) := by decide +kernel
theorem dX6_doneOne_100 : decode cX6_doneOne 100 = .ok (.ireturn, 1) := by decide +kernel
theorem dX6_doneOne_101 : decode cX6_doneOne 101 = .ok (.aload_n 0, 1) := by decide +kernel
theorem dX6_doneOne_102 : decode cX6_doneOne 102 = .ok (.iload_n 2, 1) := by decide +kernel
theorem dX6_doneOne_103 : decode cX6_doneOne 103 = .ok (.iload_n 3, 1) := by decide +kernel
theorem dX6_doneOne_104 : decode cX6_doneOne 104 = .ok (.invokevirtual 126, 3) := by decide +kernel
theorem dX6_doneOne_107 : decode cX6_doneOne 107 = .ok (.ireturn, 1) := by decide +kernel
theorem dX6_doneOne_108 : decode cX6_doneOne 108 = .ok (.aload_n 0, 1) := by decide +kernel
theorem dX6_doneOne_109 : decode cX6_doneOne 109 = .ok (.bipush 11, 2) := by decide +kernel
theorem dX6_doneOne_111 : decode cX6_doneOne 111 = .ok (.iload_n 2, 1) := by decide +kernel
theorem dX6_doneOne_112 : decode cX6_doneOne 112 = .ok (.bipush 9, 2) := by decide +kernel
theorem dX6_doneOne_114 : decode cX6_doneOne 114 = .ok (.invokevirtual 113, 3) := by decide +kernel
theorem dX6_doneOne_117 : decode cX6_doneOne 117 = .ok (.ireturn, 1) := by decide +kernel
theorem dX6_doneOne_118 : decode cX6_doneOne 118 = .ok (.aload_n 0, 1) := by decide +kernel
theorem dX6_doneOne_119 : decode cX6_doneOne 119 = .ok (.bipush 12, 2) := by decide +kernel
theorem dX6_doneOne_121 : decode cX6_doneOne 121 = .ok (.iload_n 2, 1) := by decide +kernel
theorem dX6_doneOne_122 : decode cX6_doneOne 122 = .ok (.sipush 500, 3) := by decide +kernel
theorem dX6_doneOne_125 : decode cX6_doneOne 125 = .ok (.invokevirtual 113, 3) := by decide +kernel
theorem dX6_doneOne_128 : decode cX6_doneOne 128 = .ok (.ireturn, 1) := by decide +kernel
theorem dX6_doneOne_129 : decode cX6_doneOne 129 = .ok (.aload_n 0, 1) := by decide +kernel
theorem dX6_doneOne_130 : decode cX6_doneOne 130 = .ok (.iload_n 2, 1) := by decide +kernel
theorem dX6_doneOne_131 : decode cX6_doneOne 131 = .ok (.iload_n 3, 1) := by decide +kernel
theorem dX6_doneOne_132 : decode cX6_doneOne 132 = .ok (.invokevirtual 117, 3) := by decide +kernel
theorem dX6_doneOne_135 : decode cX6_doneOne 135 = .ok (.ireturn, 1) := by decide +kernel
set_option maxRecDepth 20000 in
theorem ggX6_does_X6_isRead : GoodIn wsX6_does wsX6_isRead := goodIn_r _ [10, 11, 2, 12, 13, 14, 15, 9, 16, 17, 18, 19, 20, 21, 22, 23, 24, 25, 26, 27, 28, 29, 30, 31, 32, 33, 34, 35, 36, 37, 1, 38, 39, 40, 41, 42, 111, 112, 113, 114, 115, 116, 117, 118, 119, 120, 121, 122, 123, 124, 125] (by decide +kernel) (by decide +kernel)
set_option maxRecDepth 20000 in
theorem gX6_does_X6_isRead : GoodIn wsX6_does (wsV RX6 178 RX6 yX6_isRead wsX6_isRead) := goodIn_app (goodIn_of _ (by decide +kernel)) ggX6_does_X6_isRead
set_option maxRecDepth 20000 in
theorem ggX6_does_X6_laysAside : GoodIn wsX6_does wsX6_laysAside := goodIn_r _ [46, 5, 4, 111, 112, 113, 114, 115, 116, 117, 118, 119, 120, 121, 122, 123, 124, 125] (by decide +kernel) (by decide +kernel)
set_option maxRecDepth 20000 in
theorem gX6_does_X6_laysAside : GoodIn wsX6_does (wsV RX6 100 RX6 yX6_laysAside wsX6_laysAside) := goodIn_app (goodIn_of _ (by decide +kernel)) ggX6_does_X6_laysAside
set_option maxRecDepth 20000 in
theorem ggX6_does_X6_doneOne : GoodIn wsX6_does wsX6_doneOne := goodIn_r _ [50, 42, 30, 51, 52, 53, 9, 54, 55, 56, 57, 3, 4, 58, 22, 23, 24, 59, 60, 61, 62, 63, 64, 65, 66, 67, 68, 69, 70, 71, 72, 73, 29, 74, 75, 76, 77, 78, 79, 80, 81, 82, 83, 84, 85, 86, 87, 88, 89, 90, 91, 92, 93, 94, 95, 96, 97, 98, 99, 100, 101, 102, 103, 104, 111, 112, 113, 114, 115, 116, 117, 118, 119, 120, 121, 122, 123, 124, 125] (by decide +kernel) (by decide +kernel)
set_option maxRecDepth 20000 in
theorem gX6_does_X6_doneOne : GoodIn wsX6_does (wsV RX6 181 RX6 yX6_doneOne wsX6_doneOne) := goodIn_app (goodIn_of _ (by decide +kernel)) ggX6_does_X6_doneOne
set_option maxRecDepth 20000 in
theorem ggX6_does_X6_remembers : GoodIn wsX6_does wsX6_remembers := goodIn_r _ [108, 109, 110, 5, 111, 112, 113, 114, 115, 116, 117, 118, 119, 120, 121, 122, 123, 124, 125] (by decide +kernel) (by decide +kernel)
set_option maxRecDepth 20000 in
theorem gX6_does_X6_remembers : GoodIn wsX6_does (wsV RX6 54 RX6 yX6_remembers wsX6_remembers) := goodIn_app (goodIn_of _ (by decide +kernel)) ggX6_does_X6_remembers
theorem dX6_does_0 : decode cX6_does 0 = .ok (.aload_n 0, 1) := by decide +kernel
theorem dX6_does_1 : decode cX6_does 1 = .ok (.invokevirtual 178, 3) := by decide +kernel
theorem dX6_does_4 : decode cX6_does 4 = .ok (.ifCond .ne 11, 3) := by decide +kernel
theorem dX6_does_7 : decode cX6_does 7 = .ok (.bipush (-10), 2) := by decide +kernel
theorem dX6_does_9 : decode cX6_does 9 = .ok (.aload_n 0, 1) := by decide +kernel
theorem dX6_does_10 : decode cX6_does 10 = .ok (.getfield 155, 3) := by decide +kernel
theorem dX6_does_13 : decode cX6_does 13 = .ok (.isub, 1) := by decide +kernel
theorem dX6_does_14 : decode cX6_does 14 = .ok (.ireturn, 1) := by decide +kernel
theorem dX6_does_15 : decode cX6_does 15 = .ok (.aload_n 0, 1) := by decide +kernel
theorem dX6_does_16 : decode cX6_does 16 = .ok (.invokevirtual 100, 3) := by decide +kernel
theorem dX6_does_19 : decode cX6_does 19 = .ok (.iconst 0, 1) := by decide +kernel
theorem dX6_does_20 : decode cX6_does 20 = .ok (.istore_n 1, 1) := by decide +kernel
theorem dX6_does_21 : decode cX6_does 21 = .ok (.iload_n 1, 1) := by decide +kernel
theorem dX6_does_22 : decode cX6_does 22 = .ok (.aload_n 0, 1) := by decide +kernel
theorem dX6_does_23 : decode cX6_does 23 = .ok (.getfield 168, 3) := by decide +kernel
theorem dX6_does_26 : decode cX6_does 26 = .ok (.if_icmp .ge 51, 3) := by decide +kernel
theorem dX6_does_29 : decode cX6_does 29 = .ok (.aload_n 0, 1) := by decide +kernel
theorem dX6_does_30 : decode cX6_does 30 = .ok (.iload_n 1, 1) := by decide +kernel
theorem dX6_does_31 : decode cX6_does 31 = .ok (.invokevirtual 181, 3) := by decide +kernel
theorem dX6_does_34 : decode cX6_does 34 = .ok (.ldc 44, 2) := by decide +kernel
theorem dX6_does_36 : decode cX6_does 36 = .ok (.if_icmp .gt 35, 3) := by decide +kernel
theorem dX6_does_39 : decode cX6_does 39 = .ok (.iconst 0, 1) := by decide +kernel
theorem dX6_does_40 : decode cX6_does 40 = .ok (.istore_n 2, 1) := by decide +kernel
theorem dX6_does_41 : decode cX6_does 41 = .ok (.iload_n 2, 1) := by decide +kernel
theorem dX6_does_42 : decode cX6_does 42 = .ok (.bipush 68, 2) := by decide +kernel
theorem dX6_does_44 : decode cX6_does 44 = .ok (.if_icmp .ge 21, 3) := by decide +kernel
theorem dX6_does_47 : decode cX6_does 47 = .ok (.aload_n 0, 1) := by decide +kernel
theorem dX6_does_48 : decode cX6_does 48 = .ok (.getfield 7, 3) := by decide +kernel
theorem dX6_does_51 : decode cX6_does 51 = .ok (.iload_n 2, 1) := by decide +kernel
theorem dX6_does_52 : decode cX6_does 52 = .ok (.aload_n 0, 1) := by decide +kernel
theorem dX6_does_53 : decode cX6_does 53 = .ok (.getfield 13, 3) := by decide +kernel
theorem dX6_does_56 : decode cX6_does 56 = .ok (.iload_n 2, 1) := by decide +kernel
theorem dX6_does_57 : decode cX6_does 57 = .ok (.laload, 1) := by decide +kernel
theorem dX6_does_58 : decode cX6_does 58 = .ok (.lastore, 1) := by decide +kernel
theorem dX6_does_59 : decode cX6_does 59 = .ok (.iinc 2 1, 3) := by decide +kernel
theorem dX6_does_62 : decode cX6_does 62 = .ok (.goto (-21), 3) := by decide +kernel
theorem dX6_does_65 : decode cX6_does 65 = .ok (.sipush (-1000), 3) := by decide +kernel
theorem dX6_does_68 : decode cX6_does 68 = .ok (.iload_n 1, 1) := by decide +kernel
theorem dX6_does_69 : decode cX6_does 69 = .ok (.isub, 1) := by decide +kernel
theorem dX6_does_70 : decode cX6_does 70 = .ok (.ireturn, 1) := by decide +kernel
theorem dX6_does_71 : decode cX6_does 71 = .ok (.iinc 1 1, 3) := by decide +kernel
theorem dX6_does_74 : decode cX6_does 74 = .ok (.goto (-53), 3) := by decide +kernel
theorem dX6_does_77 : decode cX6_does 77 = .ok (.aload_n 0, 1) := by decide +kernel
theorem dX6_does_78 : decode cX6_does 78 = .ok (.invokevirtual 54, 3) := by decide +kernel
theorem dX6_does_81 : decode cX6_does 81 = .ok (.aload_n 0, 1) := by decide +kernel
theorem dX6_does_82 : decode cX6_does 82 = .ok (.getfield 168, 3) := by decide +kernel
theorem dX6_does_85 : decode cX6_does 85 = .ok (.ireturn, 1) := by decide +kernel
theorem dX6_refusedOf_0 : decode cX6_refusedOf 0 = .ok (.iload_n 1, 1) := by decide +kernel
theorem dX6_refusedOf_1 : decode cX6_refusedOf 1 = .ok (.iconst 3, 1) := by decide +kernel
theorem dX6_refusedOf_2 : decode cX6_refusedOf 2 = .ok (.if_icmp .ge 12, 3) := by decide +kernel
theorem dX6_refusedOf_5 : decode cX6_refusedOf 5 = .ok (.aload_n 0, 1) := by decide +kernel
theorem dX6_refusedOf_6 : decode cX6_refusedOf 6 = .ok (.getfield 19, 3) := by decide +kernel
theorem dX6_refusedOf_9 : decode cX6_refusedOf 9 = .ok (.iload_n 1, 1) := by decide +kernel
theorem dX6_refusedOf_10 : decode cX6_refusedOf 10 = .ok (.iaload, 1) := by decide +kernel
theorem dX6_refusedOf_11 : decode cX6_refusedOf 11 = .ok (.goto 19, 3) := by decide +kernel
theorem dX6_refusedOf_14 : decode cX6_refusedOf 14 = .ok (.iload_n 1, 1) := by decide +kernel
theorem dX6_refusedOf_15 : decode cX6_refusedOf 15 = .ok (.iconst 3, 1) := by decide +kernel
theorem dX6_refusedOf_16 : decode cX6_refusedOf 16 = .ok (.if_icmp .ne 10, 3) := by decide +kernel
theorem dX6_refusedOf_19 : decode cX6_refusedOf 19 = .ok (.aload_n 0, 1) := by decide +kernel
theorem dX6_refusedOf_20 : decode cX6_refusedOf 20 = .ok (.getfield 144, 3) := by decide +kernel
theorem dX6_refusedOf_23 : decode cX6_refusedOf 23 = .ok (.goto 7, 3) := by decide +kernel
theorem dX6_refusedOf_26 : decode cX6_refusedOf 26 = .ok (.aload_n 0, 1) := by decide +kernel
theorem dX6_refusedOf_27 : decode cX6_refusedOf 27 = .ok (.getfield 45, 3) := by decide +kernel
theorem dX6_refusedOf_30 : decode cX6_refusedOf 30 = .ok (.ireturn, 1) := by decide +kernel
set_option maxRecDepth 20000 in
theorem ggX6_refused_X6_in : GoodIn wsX6_refused wsX6_in := goodIn_r _ [6] (by decide +kernel) (by decide +kernel)
set_option maxRecDepth 20000 in
theorem gX6_refused_X6_in : GoodIn wsX6_refused (va_wsS RX6 69 yX6_in wsX6_in) := goodIn_app (goodIn_of _ (by decide +kernel)) ggX6_refused_X6_in
set_option maxRecDepth 20000 in
theorem ggX6_refused_X6_refusedOf : GoodIn wsX6_refused wsX6_refusedOf := goodIn_r _ [10, 11, 12, 13, 18, 19, 20, 21, 22, 23, 24, 25, 26, 27, 28, 29, 30, 31, 32] (by decide +kernel) (by decide +kernel)
set_option maxRecDepth 20000 in
theorem gX6_refused_X6_refusedOf : GoodIn wsX6_refused (wsV RX6 186 RX6 yX6_refusedOf wsX6_refusedOf) := goodIn_app (goodIn_of _ (by decide +kernel)) ggX6_refused_X6_refusedOf
set_option maxRecDepth 20000 in
theorem ggX6_refused_X6_refuses : GoodIn wsX6_refused wsX6_refuses := goodIn_r _ [17, 11, 2, 18, 19, 20, 21, 22, 23, 24, 25, 26, 27, 28, 29, 30, 31, 32] (by decide +kernel) (by decide +kernel)
set_option maxRecDepth 20000 in
theorem gX6_refused_X6_refuses : GoodIn wsX6_refused (wsV RX6 50 RX6 yX6_refuses wsX6_refuses) := goodIn_app (goodIn_of _ (by decide +kernel)) ggX6_refused_X6_refuses
theorem dX6_refused_0 : decode cX6_refused 0 = .ok (.iload_n 1, 1) := by decide +kernel
theorem dX6_refused_1 : decode cX6_refused 1 = .ok (.i2l, 1) := by decide +kernel
theorem dX6_refused_2 : decode cX6_refused 2 = .ok (.lconst 0, 1) := by decide +kernel
theorem dX6_refused_3 : decode cX6_refused 3 = .ok (.ldc2_w 184, 3) := by decide +kernel
theorem dX6_refused_6 : decode cX6_refused 6 = .ok (.invokestatic 69, 3) := by decide +kernel
theorem dX6_refused_9 : decode cX6_refused 9 = .ok (.ifCond .eq 11, 3) := by decide +kernel
theorem dX6_refused_12 : decode cX6_refused 12 = .ok (.aload_n 0, 1) := by decide +kernel
theorem dX6_refused_13 : decode cX6_refused 13 = .ok (.iload_n 1, 1) := by decide +kernel
theorem dX6_refused_14 : decode cX6_refused 14 = .ok (.invokevirtual 186, 3) := by decide +kernel
theorem dX6_refused_17 : decode cX6_refused 17 = .ok (.goto 9, 3) := by decide +kernel
theorem dX6_refused_20 : decode cX6_refused 20 = .ok (.aload_n 0, 1) := by decide +kernel
theorem dX6_refused_21 : decode cX6_refused 21 = .ok (.ldc 44, 2) := by decide +kernel
theorem dX6_refused_23 : decode cX6_refused 23 = .ok (.invokevirtual 50, 3) := by decide +kernel
theorem dX6_refused_26 : decode cX6_refused 26 = .ok (.ireturn, 1) := by decide +kernel
theorem dX6_mix_0 : decode cX6_mix 0 = .ok (.aload_n 0, 1) := by decide +kernel
theorem dX6_mix_1 : decode cX6_mix 1 = .ok (.ldc2_w 189, 3) := by decide +kernel
theorem dX6_mix_4 : decode cX6_mix 4 = .ok (.aload_n 0, 1) := by decide +kernel
theorem dX6_mix_5 : decode cX6_mix 5 = .ok (.getfield 191, 3) := by decide +kernel
theorem dX6_mix_8 : decode cX6_mix 8 = .ok (.lmul, 1) := by decide +kernel
theorem dX6_mix_9 : decode cX6_mix 9 = .ok (.lload_n 1, 1) := by decide +kernel
theorem dX6_mix_10 : decode cX6_mix 10 = .ok (.ladd, 1) := by decide +kernel
theorem dX6_mix_11 : decode cX6_mix 11 = .ok (.putfield 191, 3) := by decide +kernel
theorem dX6_mix_14 : decode cX6_mix 14 = .ok (.return_, 1) := by decide +kernel
set_option maxRecDepth 20000 in
theorem ggX6_digest_X6_refusedOf : GoodIn wsX6_digest wsX6_refusedOf := goodIn_r _ [8, 9, 10, 11, 39, 40, 41, 42, 43, 44, 45, 46, 47, 48, 49, 50, 51, 52, 53] (by decide +kernel) (by decide +kernel)
set_option maxRecDepth 20000 in
theorem gX6_digest_X6_refusedOf : GoodIn wsX6_digest (wsV RX6 186 RX6 yX6_refusedOf wsX6_refusedOf) := goodIn_app (goodIn_of _ (by decide +kernel)) ggX6_digest_X6_refusedOf
set_option maxRecDepth 20000 in
theorem ggX6_digest_X6_mix : GoodIn wsX6_digest wsX6_mix := goodIn_r _ [15, 16, 2, 39, 40, 41, 42, 43, 44, 45, 46, 47, 48, 49, 50, 51, 52, 53] (by decide +kernel) (by decide +kernel)
set_option maxRecDepth 20000 in
theorem gX6_digest_X6_mix : GoodIn wsX6_digest (wsV RX6 197 RX6 yX6_mix wsX6_mix) := goodIn_app (goodIn_of _ (by decide +kernel)) ggX6_digest_X6_mix
set_option maxRecDepth 20000 in
theorem ggX6_digest_X6_toldOf : GoodIn wsX6_digest wsX6_toldOf := goodIn_r _ [20, 3, 21, 22, 23, 7, 24, 25, 39, 40, 41, 42, 43, 44, 45, 46, 47, 48, 49, 50, 51, 52, 53] (by decide +kernel) (by decide +kernel)
set_option maxRecDepth 20000 in
theorem gX6_digest_X6_toldOf : GoodIn wsX6_digest (wsV RX6 131 RX6 yX6_toldOf wsX6_toldOf) := goodIn_app (goodIn_of _ (by decide +kernel)) ggX6_digest_X6_toldOf
set_option maxRecDepth 20000 in
theorem ggX6_digest_X6_bands : GoodIn wsX6_digest wsX6_bands := goodIn_r _ [29, 3, 39, 40, 41, 42, 43, 44, 45, 46, 47, 48, 49, 50, 51, 52, 53] (by decide +kernel) (by decide +kernel)
set_option maxRecDepth 20000 in
theorem gX6_digest_X6_bands : GoodIn wsX6_digest (wsV RX6 201 RX6 yX6_bands wsX6_bands) := goodIn_app (goodIn_of _ (by decide +kernel)) ggX6_digest_X6_bands
set_option maxRecDepth 20000 in
theorem ggX6_digest_X6_bandOf : GoodIn wsX6_digest wsX6_bandOf := goodIn_r _ [33, 3, 34, 39, 40, 41, 42, 43, 44, 45, 46, 47, 48, 49, 50, 51, 52, 53] (by decide +kernel) (by decide +kernel)
set_option maxRecDepth 20000 in
theorem gX6_digest_X6_bandOf : GoodIn wsX6_digest (wsV RX6 134 RX6 yX6_bandOf wsX6_bandOf) := goodIn_app (goodIn_of _ (by decide +kernel)) ggX6_digest_X6_bandOf
set_option maxRecDepth 20000 in
theorem ggX6_digest_X6_lastsBy : GoodIn wsX6_digest wsX6_lastsBy := goodIn_r _ [38, 3, 34, 39, 40, 41, 42, 43, 44, 45, 46, 47, 48, 49, 50, 51, 52, 53] (by decide +kernel) (by decide +kernel)
set_option maxRecDepth 20000 in
theorem gX6_digest_X6_lastsBy : GoodIn wsX6_digest (wsV RX6 137 RX6 yX6_lastsBy wsX6_lastsBy) := goodIn_app (goodIn_of _ (by decide +kernel)) ggX6_digest_X6_lastsBy
theorem dX6_digest_0 : decode cX6_digest 0 = .ok (.aload_n 0, 1) := by decide +kernel
theorem dX6_digest_1 : decode cX6_digest 1 = .ok (.ldc2_w 195, 3) := by decide +kernel
theorem dX6_digest_4 : decode cX6_digest 4 = .ok (.putfield 191, 3) := by decide +kernel
theorem dX6_digest_7 : decode cX6_digest 7 = .ok (.iconst 0, 1) := by decide +kernel
theorem dX6_digest_8 : decode cX6_digest 8 = .ok (.istore_n 1, 1) := by decide +kernel
theorem dX6_digest_9 : decode cX6_digest 9 = .ok (.iload_n 1, 1) := by decide +kernel
theorem dX6_digest_10 : decode cX6_digest 10 = .ok (.iconst 5, 1) := by decide +kernel
theorem dX6_digest_11 : decode cX6_digest 11 = .ok (.if_icmp .ge 19, 3) := by decide +kernel
theorem dX6_digest_14 : decode cX6_digest 14 = .ok (.aload_n 0, 1) := by decide +kernel
theorem dX6_digest_15 : decode cX6_digest 15 = .ok (.aload_n 0, 1) := by decide +kernel
theorem dX6_digest_16 : decode cX6_digest 16 = .ok (.iload_n 1, 1) := by decide +kernel
theorem dX6_digest_17 : decode cX6_digest 17 = .ok (.invokevirtual 186, 3) := by decide +kernel
theorem dX6_digest_20 : decode cX6_digest 20 = .ok (.i2l, 1) := by decide +kernel
theorem dX6_digest_21 : decode cX6_digest 21 = .ok (.invokevirtual 197, 3) := by decide +kernel
theorem dX6_digest_24 : decode cX6_digest 24 = .ok (.iinc 1 1, 3) := by decide +kernel
theorem dX6_digest_27 : decode cX6_digest 27 = .ok (.goto (-18), 3) := by decide +kernel
theorem dX6_digest_30 : decode cX6_digest 30 = .ok (.iconst 0, 1) := by decide +kernel
theorem dX6_digest_31 : decode cX6_digest 31 = .ok (.istore_n 1, 1) := by decide +kernel
theorem dX6_digest_32 : decode cX6_digest 32 = .ok (.iload_n 1, 1) := by decide +kernel
theorem dX6_digest_33 : decode cX6_digest 33 = .ok (.bipush 12, 2) := by decide +kernel
theorem dX6_digest_35 : decode cX6_digest 35 = .ok (.if_icmp .ge 19, 3) := by decide +kernel
theorem dX6_digest_38 : decode cX6_digest 38 = .ok (.aload_n 0, 1) := by decide +kernel
theorem dX6_digest_39 : decode cX6_digest 39 = .ok (.aload_n 0, 1) := by decide +kernel
theorem dX6_digest_40 : decode cX6_digest 40 = .ok (.iload_n 1, 1) := by decide +kernel
theorem dX6_digest_41 : decode cX6_digest 41 = .ok (.invokevirtual 131, 3) := by decide +kernel
theorem dX6_digest_44 : decode cX6_digest 44 = .ok (.i2l, 1) := by decide +kernel
theorem dX6_digest_45 : decode cX6_digest 45 = .ok (.invokevirtual 197, 3) := by decide +kernel
theorem dX6_digest_48 : decode cX6_digest 48 = .ok (.iinc 1 1, 3) := by decide +kernel
theorem dX6_digest_51 : decode cX6_digest 51 = .ok (.goto (-19), 3) := by decide +kernel
theorem dX6_digest_54 : decode cX6_digest 54 = .ok (.iconst 0, 1) := by decide +kernel
theorem dX6_digest_55 : decode cX6_digest 55 = .ok (.istore_n 1, 1) := by decide +kernel
theorem dX6_digest_56 : decode cX6_digest 56 = .ok (.iload_n 1, 1) := by decide +kernel
theorem dX6_digest_57 : decode cX6_digest 57 = .ok (.bipush 13, 2) := by decide +kernel
theorem dX6_digest_59 : decode cX6_digest 59 = .ok (.if_icmp .ge 22, 3) := by decide +kernel
theorem dX6_digest_62 : decode cX6_digest 62 = .ok (.aload_n 0, 1) := by decide +kernel
theorem dX6_digest_63 : decode cX6_digest 63 = .ok (.aload_n 0, 1) := by decide +kernel
theorem dX6_digest_64 : decode cX6_digest 64 = .ok (.getfield 7, 3) := by decide +kernel
theorem dX6_digest_67 : decode cX6_digest 67 = .ok (.bipush 11, 2) := by decide +kernel
theorem dX6_digest_69 : decode cX6_digest 69 = .ok (.iload_n 1, 1) := by decide +kernel
theorem dX6_digest_70 : decode cX6_digest 70 = .ok (.iadd, 1) := by decide +kernel
theorem dX6_digest_71 : decode cX6_digest 71 = .ok (.laload, 1) := by decide +kernel
theorem dX6_digest_72 : decode cX6_digest 72 = .ok (.invokevirtual 197, 3) := by decide +kernel
theorem dX6_digest_75 : decode cX6_digest 75 = .ok (.iinc 1 1, 3) := by decide +kernel
theorem dX6_digest_78 : decode cX6_digest 78 = .ok (.goto (-22), 3) := by decide +kernel
theorem dX6_digest_81 : decode cX6_digest 81 = .ok (.aload_n 0, 1) := by decide +kernel
theorem dX6_digest_82 : decode cX6_digest 82 = .ok (.aload_n 0, 1) := by decide +kernel
theorem dX6_digest_83 : decode cX6_digest 83 = .ok (.invokevirtual 201, 3) := by decide +kernel
theorem dX6_digest_86 : decode cX6_digest 86 = .ok (.i2l, 1) := by decide +kernel
theorem dX6_digest_87 : decode cX6_digest 87 = .ok (.invokevirtual 197, 3) := by decide +kernel
theorem dX6_digest_90 : decode cX6_digest 90 = .ok (.iconst 0, 1) := by decide +kernel
theorem dX6_digest_91 : decode cX6_digest 91 = .ok (.istore_n 1, 1) := by decide +kernel
theorem dX6_digest_92 : decode cX6_digest 92 = .ok (.iload_n 1, 1) := by decide +kernel
theorem dX6_digest_93 : decode cX6_digest 93 = .ok (.bipush 22, 2) := by decide +kernel
theorem dX6_digest_95 : decode cX6_digest 95 = .ok (.if_icmp .ge 31, 3) := by decide +kernel
theorem dX6_digest_98 : decode cX6_digest 98 = .ok (.aload_n 0, 1) := by decide +kernel
theorem dX6_digest_99 : decode cX6_digest 99 = .ok (.aload_n 0, 1) := by decide +kernel
theorem dX6_digest_100 : decode cX6_digest 100 = .ok (.iload_n 1, 1) := by decide +kernel
theorem dX6_digest_101 : decode cX6_digest 101 = .ok (.iconst 0, 1) := by decide +kernel
theorem dX6_digest_102 : decode cX6_digest 102 = .ok (.invokevirtual 134, 3) := by decide +kernel
theorem dX6_digest_105 : decode cX6_digest 105 = .ok (.i2l, 1) := by decide +kernel
theorem dX6_digest_106 : decode cX6_digest 106 = .ok (.invokevirtual 197, 3) := by decide +kernel
theorem dX6_digest_109 : decode cX6_digest 109 = .ok (.aload_n 0, 1) := by decide +kernel
theorem dX6_digest_110 : decode cX6_digest 110 = .ok (.aload_n 0, 1) := by decide +kernel
theorem dX6_digest_111 : decode cX6_digest 111 = .ok (.iload_n 1, 1) := by decide +kernel
theorem dX6_digest_112 : decode cX6_digest 112 = .ok (.iconst 1, 1) := by decide +kernel
theorem dX6_digest_113 : decode cX6_digest 113 = .ok (.invokevirtual 134, 3) := by decide +kernel
theorem dX6_digest_116 : decode cX6_digest 116 = .ok (.i2l, 1) := by decide +kernel
theorem dX6_digest_117 : decode cX6_digest 117 = .ok (.invokevirtual 197, 3) := by decide +kernel
theorem dX6_digest_120 : decode cX6_digest 120 = .ok (.iinc 1 1, 3) := by decide +kernel
theorem dX6_digest_123 : decode cX6_digest 123 = .ok (.goto (-31), 3) := by decide +kernel
theorem dX6_digest_126 : decode cX6_digest 126 = .ok (.iconst 1, 1) := by decide +kernel
theorem dX6_digest_127 : decode cX6_digest 127 = .ok (.istore_n 1, 1) := by decide +kernel
theorem dX6_digest_128 : decode cX6_digest 128 = .ok (.iload_n 1, 1) := by decide +kernel
theorem dX6_digest_129 : decode cX6_digest 129 = .ok (.iconst 4, 1) := by decide +kernel
theorem dX6_digest_130 : decode cX6_digest 130 = .ok (.if_icmp .ge 31, 3) := by decide +kernel
theorem dX6_digest_133 : decode cX6_digest 133 = .ok (.aload_n 0, 1) := by decide +kernel
theorem dX6_digest_134 : decode cX6_digest 134 = .ok (.aload_n 0, 1) := by decide +kernel
theorem dX6_digest_135 : decode cX6_digest 135 = .ok (.iload_n 1, 1) := by decide +kernel
theorem dX6_digest_136 : decode cX6_digest 136 = .ok (.iconst 0, 1) := by decide +kernel
theorem dX6_digest_137 : decode cX6_digest 137 = .ok (.invokevirtual 137, 3) := by decide +kernel
theorem dX6_digest_140 : decode cX6_digest 140 = .ok (.i2l, 1) := by decide +kernel
theorem dX6_digest_141 : decode cX6_digest 141 = .ok (.invokevirtual 197, 3) := by decide +kernel
theorem dX6_digest_144 : decode cX6_digest 144 = .ok (.aload_n 0, 1) := by decide +kernel
theorem dX6_digest_145 : decode cX6_digest 145 = .ok (.aload_n 0, 1) := by decide +kernel
theorem dX6_digest_146 : decode cX6_digest 146 = .ok (.iload_n 1, 1) := by decide +kernel
theorem dX6_digest_147 : decode cX6_digest 147 = .ok (.iconst 1, 1) := by decide +kernel
theorem dX6_digest_148 : decode cX6_digest 148 = .ok (.invokevirtual 137, 3) := by decide +kernel
theorem dX6_digest_151 : decode cX6_digest 151 = .ok (.i2l, 1) := by decide +kernel
theorem dX6_digest_152 : decode cX6_digest 152 = .ok (.invokevirtual 197, 3) := by decide +kernel
theorem dX6_digest_155 : decode cX6_digest 155 = .ok (.iinc 1 1, 3) := by decide +kernel
theorem dX6_digest_158 : decode cX6_digest 158 = .ok (.goto (-30), 3) := by decide +kernel
theorem dX6_digest_161 : decode cX6_digest 161 = .ok (.aload_n 0, 1) := by decide +kernel
theorem dX6_digest_162 : decode cX6_digest 162 = .ok (.getfield 191, 3) := by decide +kernel
theorem dX6_digest_165 : decode cX6_digest 165 = .ok (.lreturn, 1) := by decide +kernel
theorem dJ9_max_7cf53_0 : decode cJ9_max_7cf53 0 = .ok (.iload_n 0, 1) := by decide +kernel
theorem dJ9_max_7cf53_1 : decode cJ9_max_7cf53 1 = .ok (.iload_n 1, 1) := by decide +kernel
theorem dJ9_max_7cf53_2 : decode cJ9_max_7cf53 2 = .ok (.if_icmp .lt 7, 3) := by decide +kernel
theorem dJ9_max_7cf53_5 : decode cJ9_max_7cf53 5 = .ok (.iload_n 0, 1) := by decide +kernel
theorem dJ9_max_7cf53_6 : decode cJ9_max_7cf53 6 = .ok (.goto 4, 3) := by decide +kernel
theorem dJ9_max_7cf53_9 : decode cJ9_max_7cf53 9 = .ok (.iload_n 1, 1) := by decide +kernel
theorem dJ9_max_7cf53_10 : decode cJ9_max_7cf53 10 = .ok (.ireturn, 1) := by decide +kernel
theorem dJ9_max_f86c9_0 : decode cJ9_max_f86c9 0 = .ok (.lload_n 0, 1) := by decide +kernel
theorem dJ9_max_f86c9_1 : decode cJ9_max_f86c9 1 = .ok (.lload_n 2, 1) := by decide +kernel
theorem dJ9_max_f86c9_2 : decode cJ9_max_f86c9 2 = .ok (.lcmp, 1) := by decide +kernel
theorem dJ9_max_f86c9_3 : decode cJ9_max_f86c9 3 = .ok (.ifCond .lt 7, 3) := by decide +kernel
theorem dJ9_max_f86c9_6 : decode cJ9_max_f86c9 6 = .ok (.lload_n 0, 1) := by decide +kernel
theorem dJ9_max_f86c9_7 : decode cJ9_max_f86c9 7 = .ok (.goto 4, 3) := by decide +kernel
theorem dJ9_max_f86c9_10 : decode cJ9_max_f86c9 10 = .ok (.lload_n 2, 1) := by decide +kernel
theorem dJ9_max_f86c9_11 : decode cJ9_max_f86c9 11 = .ok (.lreturn, 1) := by decide +kernel
theorem dJ9_min_7cf53_0 : decode cJ9_min_7cf53 0 = .ok (.iload_n 0, 1) := by decide +kernel
theorem dJ9_min_7cf53_1 : decode cJ9_min_7cf53 1 = .ok (.iload_n 1, 1) := by decide +kernel
theorem dJ9_min_7cf53_2 : decode cJ9_min_7cf53 2 = .ok (.if_icmp .gt 7, 3) := by decide +kernel
theorem dJ9_min_7cf53_5 : decode cJ9_min_7cf53 5 = .ok (.iload_n 0, 1) := by decide +kernel
theorem dJ9_min_7cf53_6 : decode cJ9_min_7cf53 6 = .ok (.goto 4, 3) := by decide +kernel
theorem dJ9_min_7cf53_9 : decode cJ9_min_7cf53 9 = .ok (.iload_n 1, 1) := by decide +kernel
theorem dJ9_min_7cf53_10 : decode cJ9_min_7cf53 10 = .ok (.ireturn, 1) := by decide +kernel
theorem dJ9_min_f86c9_0 : decode cJ9_min_f86c9 0 = .ok (.lload_n 0, 1) := by decide +kernel
theorem dJ9_min_f86c9_1 : decode cJ9_min_f86c9 1 = .ok (.lload_n 2, 1) := by decide +kernel
theorem dJ9_min_f86c9_2 : decode cJ9_min_f86c9 2 = .ok (.lcmp, 1) := by decide +kernel
theorem dJ9_min_f86c9_3 : decode cJ9_min_f86c9 3 = .ok (.ifCond .gt 7, 3) := by decide +kernel
theorem dJ9_min_f86c9_6 : decode cJ9_min_f86c9 6 = .ok (.lload_n 0, 1) := by decide +kernel
theorem dJ9_min_f86c9_7 : decode cJ9_min_f86c9 7 = .ok (.goto 4, 3) := by decide +kernel
theorem dJ9_min_f86c9_10 : decode cJ9_min_f86c9 10 = .ok (.lload_n 2, 1) := by decide +kernel
theorem dJ9_min_f86c9_11 : decode cJ9_min_f86c9 11 = .ok (.lreturn, 1) := by decide +kernel
