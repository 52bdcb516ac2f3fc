theorem dX5_digest_6 : decode cX5_digest 6 = .ok (.iload_n 3, 1) := by decide +kernel
theorem dX5_digest_7 : decode cX5_digest 7 = .ok (.iconst 5, 1) := by decide +kernel
theorem dX5_digest_8 : decode cX5_digest 8 = .ok (.if_icmp .ge 22, 3) := by decide +kernel
theorem dX5_digest_11 : decode cX5_digest 11 = .ok (.ldc2_w 148, 3) := by decide +kernel
theorem dX5_digest_14 : decode cX5_digest 14 = .ok (.lload_n 1, 1) := by decide +kernel
theorem dX5_digest_15 : decode cX5_digest 15 = .ok (.lmul, 1) := by decide +kernel
theorem dX5_digest_16 : decode cX5_digest 16 = .ok (.aload_n 0, 1) := by decide +kernel
theorem dX5_digest_17 : decode cX5_digest 17 = .ok (.iload_n 3, 1) := by decide +kernel
theorem dX5_digest_18 : decode cX5_digest 18 = .ok (.invokevirtual 150, 3) := by decide +kernel
theorem dX5_digest_21 : decode cX5_digest 21 = .ok (.i2l, 1) := by decide +kernel
theorem dX5_digest_22 : decode cX5_digest 22 = .ok (.ladd, 1) := by decide +kernel
theorem dX5_digest_23 : decode cX5_digest 23 = .ok (.lstore_n 1, 1) := by decide +kernel
theorem dX5_digest_24 : decode cX5_digest 24 = .ok (.iinc 3 1, 3) := by decide +kernel
theorem dX5_digest_27 : decode cX5_digest 27 = .ok (.goto (-21), 3) := by decide +kernel
theorem dX5_digest_30 : decode cX5_digest 30 = .ok (.iconst 0, 1) := by decide +kernel
theorem dX5_digest_31 : decode cX5_digest 31 = .ok (.istore_n 3, 1) := by decide +kernel
theorem dX5_digest_32 : decode cX5_digest 32 = .ok (.iload_n 3, 1) := by decide +kernel
theorem dX5_digest_33 : decode cX5_digest 33 = .ok (.bipush 12, 2) := by decide +kernel
theorem dX5_digest_35 : decode cX5_digest 35 = .ok (.if_icmp .ge 22, 3) := by decide +kernel
theorem dX5_digest_38 : decode cX5_digest 38 = .ok (.ldc2_w 148, 3) := by decide +kernel
theorem dX5_digest_41 : decode cX5_digest 41 = .ok (.lload_n 1, 1) := by decide +kernel
theorem dX5_digest_42 : decode cX5_digest 42 = .ok (.lmul, 1) := by decide +kernel
theorem dX5_digest_43 : decode cX5_digest 43 = .ok (.aload_n 0, 1) := by decide +kernel
theorem dX5_digest_44 : decode cX5_digest 44 = .ok (.iload_n 3, 1) := by decide +kernel
theorem dX5_digest_45 : decode cX5_digest 45 = .ok (.invokevirtual 153, 3) := by decide +kernel
theorem dX5_digest_48 : decode cX5_digest 48 = .ok (.i2l, 1) := by decide +kernel
theorem dX5_digest_49 : decode cX5_digest 49 = .ok (.ladd, 1) := by decide +kernel
theorem dX5_digest_50 : decode cX5_digest 50 = .ok (.lstore_n 1, 1) := by decide +kernel
theorem dX5_digest_51 : decode cX5_digest 51 = .ok (.iinc 3 1, 3) := by decide +kernel
theorem dX5_digest_54 : decode cX5_digest 54 = .ok (.goto (-22), 3) := by decide +kernel
theorem dX5_digest_57 : decode cX5_digest 57 = .ok (.iconst 0, 1) := by decide +kernel
theorem dX5_digest_58 : decode cX5_digest 58 = .ok (.istore_n 3, 1) := by decide +kernel
theorem dX5_digest_59 : decode cX5_digest 59 = .ok (.iload_n 3, 1) := by decide +kernel
theorem dX5_digest_60 : decode cX5_digest 60 = .ok (.bipush 13, 2) := by decide +kernel
theorem dX5_digest_62 : decode cX5_digest 62 = .ok (.if_icmp .ge 22, 3) := by decide +kernel
theorem dX5_digest_65 : decode cX5_digest 65 = .ok (.ldc2_w 148, 3) := by decide +kernel
theorem dX5_digest_68 : decode cX5_digest 68 = .ok (.lload_n 1, 1) := by decide +kernel
theorem dX5_digest_69 : decode cX5_digest 69 = .ok (.lmul, 1) := by decide +kernel
theorem dX5_digest_70 : decode cX5_digest 70 = .ok (.aload_n 0, 1) := by decide +kernel
theorem dX5_digest_71 : decode cX5_digest 71 = .ok (.iload_n 3, 1) := by decide +kernel
theorem dX5_digest_72 : decode cX5_digest 72 = .ok (.invokevirtual 156, 3) := by decide +kernel
theorem dX5_digest_75 : decode cX5_digest 75 = .ok (.i2l, 1) := by decide +kernel
theorem dX5_digest_76 : decode cX5_digest 76 = .ok (.ladd, 1) := by decide +kernel
theorem dX5_digest_77 : decode cX5_digest 77 = .ok (.lstore_n 1, 1) := by decide +kernel
theorem dX5_digest_78 : decode cX5_digest 78 = .ok (.iinc 3 1, 3) := by decide +kernel
theorem dX5_digest_81 : decode cX5_digest 81 = .ok (.goto (-22), 3) := by decide +kernel
theorem dX5_digest_84 : decode cX5_digest 84 = .ok (.ldc2_w 148, 3) := by decide +kernel
theorem dX5_digest_87 : decode cX5_digest 87 = .ok (.lload_n 1, 1) := by decide +kernel
theorem dX5_digest_88 : decode cX5_digest 88 = .ok (.lmul, 1) := by decide +kernel
theorem dX5_digest_89 : decode cX5_digest 89 = .ok (.aload_n 0, 1) := by decide +kernel
theorem dX5_digest_90 : decode cX5_digest 90 = .ok (.invokevirtual 159, 3) := by decide +kernel
theorem dX5_digest_93 : decode cX5_digest 93 = .ok (.i2l, 1) := by decide +kernel
theorem dX5_digest_94 : decode cX5_digest 94 = .ok (.ladd, 1) := by decide +kernel
theorem dX5_digest_95 : decode cX5_digest 95 = .ok (.lstore_n 1, 1) := by decide +kernel
theorem dX5_digest_96 : decode cX5_digest 96 = .ok (.iconst 0, 1) := by decide +kernel
theorem dX5_digest_97 : decode cX5_digest 97 = .ok (.istore_n 3, 1) := by decide +kernel
theorem dX5_digest_98 : decode cX5_digest 98 = .ok (.iload_n 3, 1) := by decide +kernel
theorem dX5_digest_99 : decode cX5_digest 99 = .ok (.iconst 2, 1) := by decide +kernel
theorem dX5_digest_100 : decode cX5_digest 100 = .ok (.if_icmp .ge 57, 3) := by decide +kernel
theorem dX5_digest_103 : decode cX5_digest 103 = .ok (.iconst 0, 1) := by decide +kernel
theorem dX5_digest_104 : decode cX5_digest 104 = .ok (.istore 4, 2) := by decide +kernel
theorem dX5_digest_106 : decode cX5_digest 106 = .ok (.iload 4, 2) := by decide +kernel
theorem dX5_digest_108 : decode cX5_digest 108 = .ok (.bipush 11, 2) := by decide +kernel
theorem dX5_digest_110 : decode cX5_digest 110 = .ok (.if_icmp .ge 41, 3) := by decide +kernel
theorem dX5_digest_113 : decode cX5_digest 113 = .ok (.ldc2_w 148, 3) := by decide +kernel
theorem dX5_digest_116 : decode cX5_digest 116 = .ok (.lload_n 1, 1) := by decide +kernel
theorem dX5_digest_117 : decode cX5_digest 117 = .ok (.lmul, 1) := by decide +kernel
theorem dX5_digest_118 : decode cX5_digest 118 = .ok (.aload_n 0, 1) := by decide +kernel
theorem dX5_digest_119 : decode cX5_digest 119 = .ok (.iload_n 3, 1) := by decide +kernel
theorem dX5_digest_120 : decode cX5_digest 120 = .ok (.iload 4, 2) := by decide +kernel
theorem dX5_digest_122 : decode cX5_digest 122 = .ok (.iconst 0, 1) := by decide +kernel
theorem dX5_digest_123 : decode cX5_digest 123 = .ok (.invokevirtual 164, 3) := by decide +kernel
theorem dX5_digest_126 : decode cX5_digest 126 = .ok (.i2l, 1) := by decide +kernel
theorem dX5_digest_127 : decode cX5_digest 127 = .ok (.ladd, 1) := by decide +kernel
theorem dX5_digest_128 : decode cX5_digest 128 = .ok (.lstore_n 1, 1) := by decide +kernel
theorem dX5_digest_129 : decode cX5_digest 129 = .ok (.ldc2_w 148, 3) := by decide +kernel
theorem dX5_digest_132 : decode cX5_digest 132 = .ok (.lload_n 1, 1) := by decide +kernel
theorem dX5_digest_133 : decode cX5_digest 133 = .ok (.lmul, 1) := by decide +kernel
theorem dX5_digest_134 : decode cX5_digest 134 = .ok (.aload_n 0, 1) := by decide +kernel
theorem dX5_digest_135 : decode cX5_digest 135 = .ok (.iload_n 3, 1) := by decide +kernel
theorem dX5_digest_136 : decode cX5_digest 136 = .ok (.iload 4, 2) := by decide +kernel
theorem dX5_digest_138 : decode cX5_digest 138 = .ok (.iconst 1, 1) := by decide +kernel
theorem dX5_digest_139 : decode cX5_digest 139 = .ok (.invokevirtual 164, 3) := by decide +kernel
theorem dX5_digest_142 : decode cX5_digest 142 = .ok (.i2l, 1) := by decide +kernel
theorem dX5_digest_143 : decode cX5_digest 143 = .ok (.ladd, 1) := by decide +kernel
theorem dX5_digest_144 : decode cX5_digest 144 = .ok (.lstore_n 1, 1) := by decide +kernel
theorem dX5_digest_145 : decode cX5_digest 145 = .ok (.iinc 4 1, 3) := by decide +kernel
theorem dX5_digest_148 : decode cX5_digest 148 = .ok (.goto (-42), 3) := by decide +kernel
theorem dX5_digest_151 : decode cX5_digest 151 = .ok (.iinc 3 1, 3) := by decide +kernel
theorem dX5_digest_154 : decode cX5_digest 154 = .ok (.goto (-56), 3) := by decide +kernel
theorem dX5_digest_157 : decode cX5_digest 157 = .ok (.iconst 1, 1) := by decide +kernel
theorem dX5_digest_158 : decode cX5_digest 158 = .ok (.istore_n 3, 1) := by decide +kernel
theorem dX5_digest_159 : decode cX5_digest 159 = .ok (.iload_n 3, 1) := by decide +kernel
theorem dX5_digest_160 : decode cX5_digest 160 = .ok (.iconst 3, 1) := by decide +kernel
theorem dX5_digest_161 : decode cX5_digest 161 = .ok (.if_icmp .gt 37, 3) := by decide +kernel
theorem dX5_digest_164 : decode cX5_digest 164 = .ok (.ldc2_w 148, 3) := by decide +kernel
theorem dX5_digest_167 : decode cX5_digest 167 = .ok (.lload_n 1, 1) := by decide +kernel
theorem dX5_digest_168 : decode cX5_digest 168 = .ok (.lmul, 1) := by decide +kernel
theorem dX5_digest_169 : decode cX5_digest 169 = .ok (.aload_n 0, 1) := by decide +kernel
theorem dX5_digest_170 : decode cX5_digest 170 = .ok (.iload_n 3, 1) := by decide +kernel
theorem dX5_digest_171 : decode cX5_digest 171 = .ok (.iconst 0, 1) := by decide +kernel
theorem dX5_digest_172 : decode cX5_digest 172 = .ok (.invokevirtual 167, 3) := by decide +kernel
theorem dX5_digest_175 : decode cX5_digest 175 = .ok (.i2l, 1) := by decide +kernel
theorem dX5_digest_176 : decode cX5_digest 176 = .ok (.ladd, 1) := by decide +kernel
theorem dX5_digest_177 : decode cX5_digest 177 = .ok (.lstore_n 1, 1) := by decide +kernel
theorem dX5_digest_178 : decode cX5_digest 178 = .ok (.ldc2_w 148, 3) := by decide +kernel
theorem dX5_digest_181 : decode cX5_digest 181 = .ok (.lload_n 1, 1) := by decide +kernel
theorem dX5_digest_182 : decode cX5_digest 182 = .ok (.lmul, 1) := by decide +kernel
theorem dX5_digest_183 : decode cX5_digest 183 = .ok (.aload_n 0, 1) := by decide +kernel
theorem dX5_digest_184 : decode cX5_digest 184 = .ok (.iload_n 3, 1) := by decide +kernel
theorem dX5_digest_185 : decode cX5_digest 185 = .ok (.iconst 1, 1) := by decide +kernel
theorem dX5_digest_186 : decode cX5_digest 186 = .ok (.invokevirtual 167, 3) := by decide +kernel
theorem dX5_digest_189 : decode cX5_digest 189 = .ok (.i2l, 1) := by decide +kernel
theorem dX5_digest_190 : decode cX5_digest 190 = .ok (.ladd, 1) := by decide +kernel
theorem dX5_digest_191 : decode cX5_digest 191 = .ok (.lstore_n 1, 1) := by decide +kernel
theorem dX5_digest_192 : decode cX5_digest 192 = .ok (.iinc 3 1, 3) := by decide +kernel
theorem dX5_digest_195 : decode cX5_digest 195 = .ok (.goto (-36), 3) := by decide +kernel
theorem dX5_digest_198 : decode cX5_digest 198 = .ok (.lload_n 1, 1) := by decide +kernel
theorem dX5_digest_199 : decode cX5_digest 199 = .ok (.lreturn, 1) := by decide +kernel
set_option maxRecDepth 20000 in
theorem ggX5_settled_X5_isRefusal : GoodIn wsX5_settled wsX5_isRefusal := goodIn_r _ [5, 6, 7, 8] (by decide +kernel) (by decide +kernel)
set_option maxRecDepth 20000 in
theorem gX5_settled_X5_isRefusal : GoodIn wsX5_settled (va_wsS RX5 116 yX5_isRefusal wsX5_isRefusal) := goodIn_app (goodIn_of _ (by decide +kernel)) ggX5_settled_X5_isRefusal
set_option maxRecDepth 20000 in
theorem ggX5_settled_X3_keepMarked : GoodIn wsX5_settled wsX3_keepMarked := goodIn_r _ [13, 14, 15, 16, 17, 18, 19, 33, 34, 35] (by decide +kernel) (by decide +kernel)
set_option maxRecDepth 20000 in
theorem gX5_settled_X3_keepMarked : GoodIn wsX5_settled (wsV RX5 123 RX3 yX3_keepMarked wsX3_keepMarked) := goodIn_app (goodIn_of _ (by decide +kernel)) ggX5_settled_X3_keepMarked
set_option maxRecDepth 20000 in
theorem ggX5_settled_X5_counted : GoodIn wsX5_settled wsX5_counted := goodIn_r _ [23, 6, 24, 7, 25, 8, 26, 27, 28, 29, 30, 31, 32] (by decide +kernel) (by decide +kernel)
set_option maxRecDepth 20000 in
theorem gX5_settled_X5_counted : GoodIn wsX5_settled (wsV RX5 68 RX5 yX5_counted wsX5_counted) := goodIn_app (goodIn_of _ (by decide +kernel)) ggX5_settled_X5_counted
theorem dX5_settled_0 : decode cX5_settled 0 = .ok (.iload_n 1, 1) := by decide +kernel
theorem dX5_settled_1 : decode cX5_settled 1 = .ok (.invokestatic 116, 3) := by decide +kernel
theorem dX5_settled_4 : decode cX5_settled 4 = .ok (.ifCond .ne 10, 3) := by decide +kernel
theorem dX5_settled_7 : decode cX5_settled 7 = .ok (.aload_n 0, 1) := by decide +kernel
theorem dX5_settled_8 : decode cX5_settled 8 = .ok (.getfield 19, 3) := by decide +kernel
theorem dX5_settled_11 : decode cX5_settled 11 = .ok (.invokevirtual 123, 3) := by decide +kernel
theorem dX5_settled_14 : decode cX5_settled 14 = .ok (.aload_n 0, 1) := by decide +kernel
theorem dX5_settled_15 : decode cX5_settled 15 = .ok (.iload_n 1, 1) := by decide +kernel
theorem dX5_settled_16 : decode cX5_settled 16 = .ok (.invokevirtual 68, 3) := by decide +kernel
theorem dX5_settled_19 : decode cX5_settled 19 = .ok (.ireturn, 1) := by decide +kernel
theorem dX5_counted_0 : decode cX5_counted 0 = .ok (.iload_n 1, 1) := by decide +kernel
theorem dX5_counted_1 : decode cX5_counted 1 = .ok (.ldc 67, 2) := by decide +kernel
theorem dX5_counted_3 : decode cX5_counted 3 = .ok (.if_icmp .ne 16, 3) := by decide +kernel
theorem dX5_counted_6 : decode cX5_counted 6 = .ok (.aload_n 0, 1) := by decide +kernel
theorem dX5_counted_7 : decode cX5_counted 7 = .ok (.dup, 1) := by decide +kernel
theorem dX5_counted_8 : decode cX5_counted 8 = .ok (.getfield 133, 3) := by decide +kernel
theorem dX5_counted_11 : decode cX5_counted 11 = .ok (.iconst 1, 1) := by decide +kernel
theorem dX5_counted_12 : decode cX5_counted 12 = .ok (.iadd, 1) := by decide +kernel
theorem dX5_counted_13 : decode cX5_counted 13 = .ok (.putfield 133, 3) := by decide +kernel
theorem dX5_counted_16 : decode cX5_counted 16 = .ok (.goto 38, 3) := by decide +kernel
theorem dX5_counted_19 : decode cX5_counted 19 = .ok (.iload_n 1, 1) := by decide +kernel
theorem dX5_counted_20 : decode cX5_counted 20 = .ok (.ldc 129, 2) := by decide +kernel
theorem dX5_counted_22 : decode cX5_counted 22 = .ok (.if_icmp .ne 16, 3) := by decide +kernel
theorem dX5_counted_25 : decode cX5_counted 25 = .ok (.aload_n 0, 1) := by decide +kernel
theorem dX5_counted_26 : decode cX5_counted 26 = .ok (.dup, 1) := by decide +kernel
theorem dX5_counted_27 : decode cX5_counted 27 = .ok (.getfield 137, 3) := by decide +kernel
theorem dX5_counted_30 : decode cX5_counted 30 = .ok (.iconst 1, 1) := by decide +kernel
theorem dX5_counted_31 : decode cX5_counted 31 = .ok (.iadd, 1) := by decide +kernel
theorem dX5_counted_32 : decode cX5_counted 32 = .ok (.putfield 137, 3) := by decide +kernel
theorem dX5_counted_35 : decode cX5_counted 35 = .ok (.goto 19, 3) := by decide +kernel
theorem dX5_counted_38 : decode cX5_counted 38 = .ok (.iload_n 1, 1) := by decide +kernel
theorem dX5_counted_39 : decode cX5_counted 39 = .ok (.ldc 170, 2) := by decide +kernel
theorem dX5_counted_41 : decode cX5_counted 41 = .ok (.if_icmp .ne 13, 3) := by decide +kernel
theorem dX5_counted_44 : decode cX5_counted 44 = .ok (.aload_n 0, 1) := by decide +kernel
theorem dX5_counted_45 : decode cX5_counted 45 = .ok (.dup, 1) := by decide +kernel
theorem dX5_counted_46 : decode cX5_counted 46 = .ok (.getfield 140, 3) := by decide +kernel
theorem dX5_counted_49 : decode cX5_counted 49 = .ok (.iconst 1, 1) := by decide +kernel
theorem dX5_counted_50 : decode cX5_counted 50 = .ok (.iadd, 1) := by decide +kernel
theorem dX5_counted_51 : decode cX5_counted 51 = .ok (.putfield 140, 3) := by decide +kernel
theorem dX5_counted_54 : decode cX5_counted 54 = .ok (.iload_n 1, 1) := by decide +kernel
theorem dX5_counted_55 : decode cX5_counted 55 = .ok (.ireturn, 1) := by decide +kernel
set_option maxRecDepth 20000 in
theorem ggX5_obey_X4_firstOf : GoodIn wsX5_obey wsX4_firstOf := goodIn_r _ [8, 9, 10, 11, 12, 13, 159, 160, 161, 162, 163, 164, 165, 166] (by decide +kernel) (by decide +kernel)
set_option maxRecDepth 20000 in
theorem gX5_obey_X4_firstOf : GoodIn wsX5_obey (wsV RX5 171 RX4 yX4_firstOf wsX4_firstOf) := goodIn_app (goodIn_of _ (by decide +kernel)) ggX5_obey_X4_firstOf
set_option maxRecDepth 20000 in
theorem ggX5_obey_X4_secondOf : GoodIn wsX5_obey wsX4_secondOf := goodIn_r _ [17, 9, 18, 11, 12, 13, 159, 160, 161, 162, 163, 164, 165, 166] (by decide +kernel) (by decide +kernel)
set_option maxRecDepth 20000 in
theorem gX5_obey_X4_secondOf : GoodIn wsX5_obey (wsV RX5 174 RX4 yX4_secondOf wsX4_secondOf) := goodIn_app (goodIn_of _ (by decide +kernel)) ggX5_obey_X4_secondOf
set_option maxRecDepth 20000 in
theorem ggX5_obey_X4_kindOf : GoodIn wsX5_obey wsX4_kindOf := goodIn_r _ [22, 9, 23, 11, 12, 13, 159, 160, 161, 162, 163, 164, 165, 166] (by decide +kernel) (by decide +kernel)
set_option maxRecDepth 20000 in
theorem gX5_obey_X4_kindOf : GoodIn wsX5_obey (wsV RX5 177 RX4 yX4_kindOf wsX4_kindOf) := goodIn_app (goodIn_of _ (by decide +kernel)) ggX5_obey_X4_kindOf
set_option maxRecDepth 20000 in
theorem ggX5_obey_X1_pass : GoodIn wsX5_obey wsX1_pass := goodIn_r _ [28, 29, 30, 31, 32, 33, 34, 35, 36, 37, 38, 39, 40, 41, 42, 43, 11, 12, 13, 44, 45, 46, 27, 47, 48, 49, 50, 51, 52, 53, 54, 55, 56, 57, 167, 168, 169, 170, 171, 172, 173, 174, 175, 176, 177, 178, 179, 180, 181] (by decide +kernel) (by decide +kernel)
set_option maxRecDepth 20000 in
theorem gX5_obey_X1_pass : GoodIn wsX5_obey (wsV RX5 54 RX1 yX1_pass wsX1_pass) := goodIn_app (goodIn_of _ (by decide +kernel)) ggX5_obey_X1_pass
set_option maxRecDepth 20000 in
theorem ggX5_obey_X1_rest : GoodIn wsX5_obey wsX1_rest := goodIn_r _ [61, 29, 62, 41, 63, 36, 37, 38, 39, 34, 40, 30, 42, 43, 64, 65, 66, 67, 27, 68, 11, 12, 13, 69, 70, 71, 72, 73, 74, 32, 33, 35, 75, 76, 77, 78, 79, 80, 81, 82, 83, 84, 85, 86, 87, 88, 89, 90, 91, 92, 93, 94, 95, 96, 97, 98, 31, 53, 99, 100, 101, 102, 103, 104, 105, 106, 107, 108, 109, 110, 54, 55, 56, 57, 48, 167, 168, 169, 170, 171, 172, 173, 174, 175, 176, 177, 178, 179, 180, 181, 182] (by decide +kernel) (by decide +kernel)
set_option maxRecDepth 20000 in
theorem gX5_obey_X1_rest : GoodIn wsX5_obey (wsV RX5 57 RX1 yX1_rest wsX1_rest) := goodIn_app (goodIn_of _ (by decide +kernel)) ggX5_obey_X1_rest
set_option maxRecDepth 20000 in
theorem ggX5_obey_X1_load : GoodIn wsX5_obey wsX1_load := goodIn_r _ [114, 29, 73, 115, 116, 117, 27, 118, 11, 12, 13, 66, 67, 68, 49, 50, 51, 52, 53, 37, 30, 36, 38, 39, 34, 40, 119, 86, 87, 78, 88, 89, 90, 120, 121, 122, 123, 124, 125, 126, 127, 128, 129, 130, 131, 132, 133, 134, 135, 167, 168, 169, 170, 171, 172, 173, 174, 175, 176, 177, 178, 179, 180, 181, 182, 183, 184] (by decide +kernel) (by decide +kernel)
set_option maxRecDepth 20000 in
theorem gX5_obey_X1_load : GoodIn wsX5_obey (wsV RX5 60 RX1 yX1_load wsX1_load) := goodIn_app (goodIn_of _ (by decide +kernel)) ggX5_obey_X1_load
set_option maxRecDepth 20000 in
theorem ggX5_obey_X1_putOffset : GoodIn wsX5_obey wsX1_putOffset := goodIn_r _ [139, 29, 31, 11, 12, 13, 167, 168, 169, 170, 171, 172, 173, 174, 175, 176, 177, 178, 179, 180, 181] (by decide +kernel) (by decide +kernel)
set_option maxRecDepth 20000 in
theorem gX5_obey_X1_putOffset : GoodIn wsX5_obey (wsV RX5 45 RX1 yX1_putOffset wsX1_putOffset) := goodIn_app (goodIn_of _ (by decide +kernel)) ggX5_obey_X1_putOffset
set_option maxRecDepth 20000 in
theorem ggX5_obey_X1_putCling : GoodIn wsX5_obey wsX1_putCling := goodIn_r _ [143, 29, 74, 11, 12, 13, 167, 168, 169, 170, 171, 172, 173, 174, 175, 176, 177, 178, 179, 180, 181] (by decide +kernel) (by decide +kernel)
set_option maxRecDepth 20000 in
theorem gX5_obey_X1_putCling : GoodIn wsX5_obey (wsV RX5 48 RX1 yX1_putCling wsX1_putCling) := goodIn_app (goodIn_of _ (by decide +kernel)) ggX5_obey_X1_putCling
set_option maxRecDepth 20000 in
theorem ggX5_obey_X1_putPoint : GoodIn wsX5_obey wsX1_putPoint := goodIn_r _ [147, 73, 148, 149, 150, 78, 151, 89, 90, 152, 11, 12, 13, 167, 168, 169, 170, 171, 172, 173, 174, 175, 176, 177, 178, 179, 180, 181, 182] (by decide +kernel) (by decide +kernel)
set_option maxRecDepth 20000 in
theorem gX5_obey_X1_putPoint : GoodIn wsX5_obey (wsV RX5 51 RX1 yX1_putPoint wsX1_putPoint) := goodIn_app (goodIn_of _ (by decide +kernel)) ggX5_obey_X1_putPoint
theorem dX5_obey_0 : decode cX5_obey 0 = .ok (.aload_n 0, 1) := by decide +kernel
theorem dX5_obey_1 : decode cX5_obey 1 = .ok (.getfield 26, 3) := by decide +kernel
theorem dX5_obey_4 : decode cX5_obey 4 = .ok (.iload_n 1, 1) := by decide +kernel
theorem dX5_obey_5 : decode cX5_obey 5 = .ok (.invokevirtual 171, 3) := by decide +kernel
theorem dX5_obey_8 : decode cX5_obey 8 = .ok (.istore_n 2, 1) := by decide +kernel
theorem dX5_obey_9 : decode cX5_obey 9 = .ok (.aload_n 0, 1) := by decide +kernel
theorem dX5_obey_10 : decode cX5_obey 10 = .ok (.getfield 26, 3) := by decide +kernel
theorem dX5_obey_13 : decode cX5_obey 13 = .ok (.iload_n 1, 1) := by decide +kernel
theorem dX5_obey_14 : decode cX5_obey 14 = .ok (.invokevirtual 174, 3) := by decide +kernel
theorem dX5_obey_17 : decode cX5_obey 17 = .ok (.istore_n 3, 1) := by decide +kernel
theorem dX5_obey_18 : decode cX5_obey 18 = .ok (.aload_n 0, 1) := by decide +kernel
theorem dX5_obey_19 : decode cX5_obey 19 = .ok (.getfield 26, 3) := by decide +kernel
theorem dX5_obey_22 : decode cX5_obey 22 = .ok (.iload_n 1, 1) := by decide +kernel
theorem dX5_obey_23 : decode cX5_obey 23 = .ok (.invokevirtual 177, 3) := by decide +kernel
theorem dX5_obey_26 : decode cX5_obey 26 = .ok (.tableswitch 135 99 114 #[125, 135, 135, 135, 116, 135, 135, 135, 135, 97, 135, 135, 107, 78, 135, 88], 78) := by decide +kernel
theorem dX5_obey_104 : decode cX5_obey 104 = .ok (.aload_n 0, 1) := by decide +kernel
theorem dX5_obey_105 : decode cX5_obey 105 = .ok (.getfield 10, 3) := by decide +kernel
theorem dX5_obey_108 : decode cX5_obey 108 = .ok (.iload_n 2, 1) := by decide +kernel
theorem dX5_obey_109 : decode cX5_obey 109 = .ok (.iload_n 3, 1) := by decide +kernel
theorem dX5_obey_110 : decode cX5_obey 110 = .ok (.invokevirtual 54, 3) := by decide +kernel
theorem dX5_obey_113 : decode cX5_obey 113 = .ok (.ireturn, 1) := by decide +kernel
theorem dX5_obey_114 : decode cX5_obey 114 = .ok (.aload_n 0, 1) := by decide +kernel
theorem dX5_obey_115 : decode cX5_obey 115 = .ok (.getfield 10, 3) := by decide +kernel
theorem dX5_obey_118 : decode cX5_obey 118 = .ok (.iload_n 2, 1) := by decide +kernel
theorem dX5_obey_119 : decode cX5_obey 119 = .ok (.invokevirtual 57, 3) := by decide +kernel
theorem dX5_obey_122 : decode cX5_obey 122 = .ok (.ireturn, 1) := by decide +kernel
theorem dX5_obey_123 : decode cX5_obey 123 = .ok (.aload_n 0, 1) := by decide +kernel
theorem dX5_obey_124 : decode cX5_obey 124 = .ok (.getfield 10, 3) := by decide +kernel
theorem dX5_obey_127 : decode cX5_obey 127 = .ok (.iload_n 2, 1) := by decide +kernel
theorem dX5_obey_128 : decode cX5_obey 128 = .ok (.iload_n 3, 1) := by decide +kernel
theorem dX5_obey_129 : decode cX5_obey 129 = .ok (.invokevirtual 60, 3) := by decide +kernel
theorem dX5_obey_132 : decode cX5_obey 132 = .ok (.ireturn, 1) := by decide +kernel
theorem dX5_obey_133 : decode cX5_obey 133 = .ok (.aload_n 0, 1) := by decide +kernel
theorem dX5_obey_134 : decode cX5_obey 134 = .ok (.getfield 10, 3) := by decide +kernel
theorem dX5_obey_137 : decode cX5_obey 137 = .ok (.iload_n 2, 1) := by decide +kernel
theorem dX5_obey_138 : decode cX5_obey 138 = .ok (.invokevirtual 45, 3) := by decide +kernel
theorem dX5_obey_141 : decode cX5_obey 141 = .ok (.ireturn, 1) := by decide +kernel
theorem dX5_obey_142 : decode cX5_obey 142 = .ok (.aload_n 0, 1) := by decide +kernel
theorem dX5_obey_143 : decode cX5_obey 143 = .ok (.getfield 10, 3) := by decide +kernel
theorem dX5_obey_146 : decode cX5_obey 146 = .ok (.iload_n 2, 1) := by decide +kernel
theorem dX5_obey_147 : decode cX5_obey 147 = .ok (.invokevirtual 48, 3) := by decide +kernel
theorem dX5_obey_150 : decode cX5_obey 150 = .ok (.ireturn, 1) := by decide +kernel
theorem dX5_obey_151 : decode cX5_obey 151 = .ok (.aload_n 0, 1) := by decide +kernel
theorem dX5_obey_152 : decode cX5_obey 152 = .ok (.getfield 10, 3) := by decide +kernel
theorem dX5_obey_155 : decode cX5_obey 155 = .ok (.iload_n 2, 1) := by decide +kernel
theorem dX5_obey_156 : decode cX5_obey 156 = .ok (.iload_n 3, 1) := by decide +kernel
theorem dX5_obey_157 : decode cX5_obey 157 = .ok (.invokevirtual 51, 3) := by decide +kernel
theorem dX5_obey_160 : decode cX5_obey 160 = .ok (.ireturn, 1) := by decide +kernel
theorem dX5_obey_161 : decode cX5_obey 161 = .ok (.ldc 67, 2) := by decide +kernel
theorem dX5_obey_163 : decode cX5_obey 163 = .ok (.ireturn, 1) := by decide +kernel
theorem dX5_isRefusal_0 : decode cX5_isRefusal 0 = .ok (.iload_n 0, 1) := by decide +kernel
theorem dX5_isRefusal_1 : decode cX5_isRefusal 1 = .ok (.ldc 67, 2) := by decide +kernel
theorem dX5_isRefusal_3 : decode cX5_isRefusal 3 = .ok (.if_icmp .eq 15, 3) := by decide +kernel
theorem dX5_isRefusal_6 : decode cX5_isRefusal 6 = .ok (.iload_n 0, 1) := by decide +kernel
theorem dX5_isRefusal_7 : decode cX5_isRefusal 7 = .ok (.ldc 129, 2) := by decide +kernel
theorem dX5_isRefusal_9 : decode cX5_isRefusal 9 = .ok (.if_icmp .eq 9, 3) := by decide +kernel
theorem dX5_isRefusal_12 : decode cX5_isRefusal 12 = .ok (.iload_n 0, 1) := by decide +kernel
theorem dX5_isRefusal_13 : decode cX5_isRefusal 13 = .ok (.ldc 170, 2) := by decide +kernel
theorem dX5_isRefusal_15 : decode cX5_isRefusal 15 = .ok (.if_icmp .ne 7, 3) := by decide +kernel
theorem dX5_isRefusal_18 : decode cX5_isRefusal 18 = .ok (.iconst 1, 1) := by decide +kernel
theorem dX5_isRefusal_19 : decode cX5_isRefusal 19 = .ok (.goto 4, 3) := by decide +kernel
theorem dX5_isRefusal_22 : decode cX5_isRefusal 22 = .ok (.iconst 0, 1) := by decide +kernel
theorem dX5_isRefusal_23 : decode cX5_isRefusal 23 = .ok (.ireturn, 1) := by decide +kernel
theorem dX5_within_0 : decode cX5_within 0 = .ok (.iload_n 0, 1) := by decide +kernel
theorem dX5_within_1 : decode cX5_within 1 = .ok (.iload_n 1, 1) := by decide +kernel
theorem dX5_within_2 : decode cX5_within 2 = .ok (.if_icmp .lt 12, 3) := by decide +kernel
theorem dX5_within_5 : decode cX5_within 5 = .ok (.iload_n 0, 1) := by decide +kernel
theorem dX5_within_6 : decode cX5_within 6 = .ok (.iload_n 2, 1) := by decide +kernel
theorem dX5_within_7 : decode cX5_within 7 = .ok (.if_icmp .gt 7, 3) := by decide +kernel
theorem dX5_within_10 : decode cX5_within 10 = .ok (.iconst 1, 1) := by decide +kernel
theorem dX5_within_11 : decode cX5_within 11 = .ok (.goto 4, 3) := by decide +kernel
theorem dX5_within_14 : decode cX5_within 14 = .ok (.iconst 0, 1) := by decide +kernel
theorem dX5_within_15 : decode cX5_within 15 = .ok (.ireturn, 1) := by decide +kernel
theorem dX6_init_0 : decode cX6_init 0 = .ok (.aload_n 0, 1) := by decide +kernel
theorem dX6_init_1 : decode cX6_init 1 = .ok (.invokespecial 1, 3) := by decide +kernel
theorem dX6_init_4 : decode cX6_init 4 = .ok (.aload_n 0, 1) := by decide +kernel
theorem dX6_init_5 : decode cX6_init 5 = .ok (.bipush 68, 2) := by decide +kernel
theorem dX6_init_7 : decode cX6_init 7 = .ok (.newarray .long, 2) := by decide +kernel
theorem dX6_init_9 : decode cX6_init 9 = .ok (.putfield 7, 3) := by decide +kernel
theorem dX6_init_12 : decode cX6_init 12 = .ok (.aload_n 0, 1) := by decide +kernel
theorem dX6_init_13 : decode cX6_init 13 = .ok (.bipush 68, 2) := by decide +kernel
theorem dX6_init_15 : decode cX6_init 15 = .ok (.newarray .long, 2) := by decide +kernel
theorem dX6_init_17 : decode cX6_init 17 = .ok (.putfield 13, 3) := by decide +kernel
theorem dX6_init_20 : decode cX6_init 20 = .ok (.aload_n 0, 1) := by decide +kernel
theorem dX6_init_21 : decode cX6_init 21 = .ok (.sipush 340, 3) := by decide +kernel
theorem dX6_init_24 : decode cX6_init 24 = .ok (.newarray .long, 2) := by decide +kernel
theorem dX6_init_26 : decode cX6_init 26 = .ok (.putfield 16, 3) := by decide +kernel
theorem dX6_init_29 : decode cX6_init 29 = .ok (.aload_n 0, 1) := by decide +kernel
theorem dX6_init_30 : decode cX6_init 30 = .ok (.iconst 3, 1) := by decide +kernel
theorem dX6_init_31 : decode cX6_init 31 = .ok (.newarray .int, 2) := by decide +kernel
theorem dX6_init_33 : decode cX6_init 33 = .ok (.putfield 19, 3) := by decide +kernel
theorem dX6_init_36 : decode cX6_init 36 = .ok (.aload_n 0, 1) := by decide +kernel
theorem dX6_init_37 : decode cX6_init 37 = .ok (.bipush 120, 2) := by decide +kernel
theorem dX6_init_39 : decode cX6_init 39 = .ok (.newarray .int, 2) := by decide +kernel
theorem dX6_init_41 : decode cX6_init 41 = .ok (.putfield 23, 3) := by decide +kernel
theorem dX6_init_44 : decode cX6_init 44 = .ok (.aload_n 0, 1) := by decide +kernel
theorem dX6_init_45 : decode cX6_init 45 = .ok (.bipush 60, 2) := by decide +kernel
theorem dX6_init_47 : decode cX6_init 47 = .ok (.newarray .int, 2) := by decide +kernel
theorem dX6_init_49 : decode cX6_init 49 = .ok (.putfield 26, 3) := by decide +kernel
theorem dX6_init_52 : decode cX6_init 52 = .ok (.aload_n 0, 1) := by decide +kernel
theorem dX6_init_53 : decode cX6_init 53 = .ok (.bipush 120, 2) := by decide +kernel
theorem dX6_init_55 : decode cX6_init 55 = .ok (.newarray .int, 2) := by decide +kernel
theorem dX6_init_57 : decode cX6_init 57 = .ok (.putfield 29, 3) := by decide +kernel
theorem dX6_init_60 : decode cX6_init 60 = .ok (.aload_n 0, 1) := by decide +kernel
theorem dX6_init_61 : decode cX6_init 61 = .ok (.getfield 7, 3) := by decide +kernel
theorem dX6_init_64 : decode cX6_init 64 = .ok (.iconst 1, 1) := by decide +kernel
theorem dX6_init_65 : decode cX6_init 65 = .ok (.ldc2_w 32, 3) := by decide +kernel
theorem dX6_init_68 : decode cX6_init 68 = .ok (.lastore, 1) := by decide +kernel
theorem dX6_init_69 : decode cX6_init 69 = .ok (.aload_n 0, 1) := by decide +kernel
theorem dX6_init_70 : decode cX6_init 70 = .ok (.getfield 7, 3) := by decide +kernel
theorem dX6_init_73 : decode cX6_init 73 = .ok (.iconst 2, 1) := by decide +kernel
theorem dX6_init_74 : decode cX6_init 74 = .ok (.ldc2_w 34, 3) := by decide +kernel
theorem dX6_init_77 : decode cX6_init 77 = .ok (.lastore, 1) := by decide +kernel
theorem dX6_init_78 : decode cX6_init 78 = .ok (.aload_n 0, 1) := by decide +kernel
theorem dX6_init_79 : decode cX6_init 79 = .ok (.getfield 7, 3) := by decide +kernel
theorem dX6_init_82 : decode cX6_init 82 = .ok (.iconst 3, 1) := by decide +kernel
theorem dX6_init_83 : decode cX6_init 83 = .ok (.ldc2_w 32, 3) := by decide +kernel
theorem dX6_init_86 : decode cX6_init 86 = .ok (.lastore, 1) := by decide +kernel
theorem dX6_init_87 : decode cX6_init 87 = .ok (.aload_n 0, 1) := by decide +kernel
theorem dX6_init_88 : decode cX6_init 88 = .ok (.getfield 7, 3) := by decide +kernel
theorem dX6_init_91 : decode cX6_init 91 = .ok (.iconst 4, 1) := by decide +kernel
theorem dX6_init_92 : decode cX6_init 92 = .ok (.ldc2_w 36, 3) := by decide +kernel
theorem dX6_init_95 : decode cX6_init 95 = .ok (.lastore, 1) := by decide +kernel
theorem dX6_init_96 : decode cX6_init 96 = .ok (.aload_n 0, 1) := by decide +kernel
theorem dX6_init_97 : decode cX6_init 97 = .ok (.getfield 7, 3) := by decide +kernel
theorem dX6_init_100 : decode cX6_init 100 = .ok (.bipush 9, 2) := by decide +kernel
theorem dX6_init_102 : decode cX6_init 102 = .ok (.ldc2_w 38, 3) := by decide +kernel
theorem dX6_init_105 : decode cX6_init 105 = .ok (.lastore, 1) := by decide +kernel
theorem dX6_init_106 : decode cX6_init 106 = .ok (.aload_n 0, 1) := by decide +kernel
theorem dX6_init_107 : decode cX6_init 107 = .ok (.getfield 7, 3) := by decide +kernel
theorem dX6_init_110 : decode cX6_init 110 = .ok (.bipush 10, 2) := by decide +kernel
theorem dX6_init_112 : decode cX6_init 112 = .ok (.ldc2_w 38, 3) := by decide +kernel
theorem dX6_init_115 : decode cX6_init 115 = .ok (.lastore, 1) := by decide +kernel
theorem dX6_init_116 : decode cX6_init 116 = .ok (.aload_n 0, 1) := by decide +kernel
theorem dX6_init_117 : decode cX6_init 117 = .ok (.getfield 7, 3) := by decide +kernel
theorem dX6_init_120 : decode cX6_init 120 = .ok (.bipush 11, 2) := by decide +kernel
theorem dX6_init_122 : decode cX6_init 122 = .ok (.lconst 1, 1) := by decide +kernel
theorem dX6_init_123 : decode cX6_init 123 = .ok (.lastore, 1) := by decide +kernel
theorem dX6_init_124 : decode cX6_init 124 = .ok (.aload_n 0, 1) := by decide +kernel
theorem dX6_init_125 : decode cX6_init 125 = .ok (.getfield 7, 3) := by decide +kernel
theorem dX6_init_128 : decode cX6_init 128 = .ok (.bipush 12, 2) := by decide +kernel
theorem dX6_init_130 : decode cX6_init 130 = .ok (.ldc2_w 40, 3) := by decide +kernel
theorem dX6_init_133 : decode cX6_init 133 = .ok (.lastore, 1) := by decide +kernel
theorem dX6_init_134 : decode cX6_init 134 = .ok (.iconst 0, 1) := by decide +kernel
theorem dX6_init_135 : decode cX6_init 135 = .ok (.istore_n 1, 1) := by decide +kernel
theorem dX6_init_136 : decode cX6_init 136 = .ok (.iload_n 1, 1) := by decide +kernel
theorem dX6_init_137 : decode cX6_init 137 = .ok (.bipush 11, 2) := by decide +kernel
theorem dX6_init_139 : decode cX6_init 139 = .ok (.if_icmp .ge 28, 3) := by decide +kernel
theorem dX6_init_142 : decode cX6_init 142 = .ok (.aload_n 0, 1) := by decide +kernel
theorem dX6_init_143 : decode cX6_init 143 = .ok (.getfield 7, 3) := by decide +kernel
theorem dX6_init_146 : decode cX6_init 146 = .ok (.bipush 13, 2) := by decide +kernel
theorem dX6_init_148 : decode cX6_init 148 = .ok (.iload_n 1, 1) := by decide +kernel
theorem dX6_init_149 : decode cX6_init 149 = .ok (.iadd, 1) := by decide +kernel
theorem dX6_init_150 : decode cX6_init 150 = .ok (.ldc2_w 42, 3) := by decide +kernel
theorem dX6_init_153 : decode cX6_init 153 = .ok (.ldc2_w 36, 3) := by decide +kernel
theorem dX6_init_156 : decode cX6_init 156 = .ok (.iload_n 1, 1) := by decide +kernel
theorem dX6_init_157 : decode cX6_init 157 = .ok (.i2l, 1) := by decide +kernel
theorem dX6_init_158 : decode cX6_init 158 = .ok (.lmul, 1) := by decide +kernel
theorem dX6_init_159 : decode cX6_init 159 = .ok (.ladd, 1) := by decide +kernel
theorem dX6_init_160 : decode cX6_init 160 = .ok (.lastore, 1) := by decide +kernel
theorem dX6_init_161 : decode cX6_init 161 = .ok (.iinc 1 1, 3) := by decide +kernel
theorem dX6_init_164 : decode cX6_init 164 = .ok (.goto (-28), 3) := by decide +kernel
theorem dX6_init_167 : decode cX6_init 167 = .ok (.return_, 1) := by decide +kernel
theorem dX6_in_0 : decode cX6_in 0 = .ok (.lload_n 0, 1) := by decide +kernel
theorem dX6_in_1 : decode cX6_in 1 = .ok (.lload_n 2, 1) := by decide +kernel
theorem dX6_in_2 : decode cX6_in 2 = .ok (.lcmp, 1) := by decide +kernel
theorem dX6_in_3 : decode cX6_in 3 = .ok (.ifCond .lt 14, 3) := by decide +kernel
theorem dX6_in_6 : decode cX6_in 6 = .ok (.lload_n 0, 1) := by decide +kernel
theorem dX6_in_7 : decode cX6_in 7 = .ok (.lload 4, 2) := by decide +kernel
theorem dX6_in_9 : decode cX6_in 9 = .ok (.lcmp, 1) := by decide +kernel
theorem dX6_in_10 : decode cX6_in 10 = .ok (.ifCond .gt 7, 3) := by decide +kernel
theorem dX6_in_13 : decode cX6_in 13 = .ok (.iconst 1, 1) := by decide +kernel
theorem dX6_in_14 : decode cX6_in 14 = .ok (.goto 4, 3) := by decide +kernel
theorem dX6_in_17 : decode cX6_in 17 = .ok (.iconst 0, 1) := by decide +kernel
theorem dX6_in_18 : decode cX6_in 18 = .ok (.ireturn, 1) := by decide +kernel
theorem dX6_refuses_0 : decode cX6_refuses 0 = .ok (.aload_n 0, 1) := by decide +kernel
theorem dX6_refuses_1 : decode cX6_refuses 1 = .ok (.getfield 19, 3) := by decide +kernel
theorem dX6_refuses_4 : decode cX6_refuses 4 = .ok (.ldc 44, 2) := by decide +kernel
theorem dX6_refuses_6 : decode cX6_refuses 6 = .ok (.iload_n 1, 1) := by decide +kernel
theorem dX6_refuses_7 : decode cX6_refuses 7 = .ok (.isub, 1) := by decide +kernel
theorem dX6_refuses_8 : decode cX6_refuses 8 = .ok (.dup2, 1) := by decide +kernel
theorem dX6_refuses_9 : decode cX6_refuses 9 = .ok (.iaload, 1) := by decide +kernel
theorem dX6_refuses_10 : decode cX6_refuses 10 = .ok (.iconst 1, 1) := by decide +kernel
theorem dX6_refuses_11 : decode cX6_refuses 11 = .ok (.iadd, 1) := by decide +kernel
theorem dX6_refuses_12 : decode cX6_refuses 12 = .ok (.iastore, 1) := by decide +kernel
theorem dX6_refuses_13 : decode cX6_refuses 13 = .ok (.iload_n 1, 1) := by decide +kernel
theorem dX6_refuses_14 : decode cX6_refuses 14 = .ok (.ireturn, 1) := by decide +kernel
theorem dX6_laysAside_0 : decode cX6_laysAside 0 = .ok (.iconst 0, 1) := by decide +kernel
theorem dX6_laysAside_1 : decode cX6_laysAside 1 = .ok (.istore_n 1, 1) := by decide +kernel
theorem dX6_laysAside_2 : decode cX6_laysAside 2 = .ok (.iload_n 1, 1) := by decide +kernel
theorem dX6_laysAside_3 : decode cX6_laysAside 3 = .ok (.bipush 68, 2) := by decide +kernel
theorem dX6_laysAside_5 : decode cX6_laysAside 5 = .ok (.if_icmp .ge 21, 3) := by decide +kernel
theorem dX6_laysAside_8 : decode cX6_laysAside 8 = .ok (.aload_n 0, 1) := by decide +kernel
theorem dX6_laysAside_9 : decode cX6_laysAside 9 = .ok (.getfield 13, 3) := by decide +kernel
theorem dX6_laysAside_12 : decode cX6_laysAside 12 = .ok (.iload_n 1, 1) := by decide +kernel
theorem dX6_laysAside_13 : decode cX6_laysAside 13 = .ok (.aload_n 0, 1) := by decide +kernel
theorem dX6_laysAside_14 : decode cX6_laysAside 14 = .ok (.getfield 7, 3) := by decide +kernel
theorem dX6_laysAside_17 : decode cX6_laysAside 17 = .ok (.iload_n 1, 1) := by decide +kernel
theorem dX6_laysAside_18 : decode cX6_laysAside 18 = .ok (.laload, 1) := by decide +kernel
theorem dX6_laysAside_19 : decode cX6_laysAside 19 = .ok (.lastore, 1) := by decide +kernel
theorem dX6_laysAside_20 : decode cX6_laysAside 20 = .ok (.iinc 1 1, 3) := by decide +kernel
theorem dX6_laysAside_23 : decode cX6_laysAside 23 = .ok (.goto (-21), 3) := by decide +kernel
theorem dX6_laysAside_26 : decode cX6_laysAside 26 = .ok (.return_, 1) := by decide +kernel
theorem dX6_remembers_0 : decode cX6_remembers 0 = .ok (.aload_n 0, 1) := by decide +kernel
theorem dX6_remembers_1 : decode cX6_remembers 1 = .ok (.getfield 45, 3) := by decide +kernel
theorem dX6_remembers_4 : decode cX6_remembers 4 = .ok (.iconst 5, 1) := by decide +kernel
theorem dX6_remembers_5 : decode cX6_remembers 5 = .ok (.if_icmp .ne 43, 3) := by decide +kernel
theorem dX6_remembers_8 : decode cX6_remembers 8 = .ok (.iconst 0, 1) := by decide +kernel
theorem dX6_remembers_9 : decode cX6_remembers 9 = .ok (.istore_n 1, 1) := by decide +kernel
theorem dX6_remembers_10 : decode cX6_remembers 10 = .ok (.iload_n 1, 1) := by decide +kernel
theorem dX6_remembers_11 : decode cX6_remembers 11 = .ok (.sipush 272, 3) := by decide +kernel
theorem dX6_remembers_14 : decode cX6_remembers 14 = .ok (.if_icmp .ge 24, 3) := by decide +kernel
theorem dX6_remembers_17 : decode cX6_remembers 17 = .ok (.aload_n 0, 1) := by decide +kernel
theorem dX6_remembers_18 : decode cX6_remembers 18 = .ok (.getfield 16, 3) := by decide +kernel
theorem dX6_remembers_21 : decode cX6_remembers 21 = .ok (.iload_n 1, 1) := by decide +kernel
theorem dX6_remembers_22 : decode cX6_remembers 22 = .ok (.aload_n 0, 1) := by decide +kernel
theorem dX6_remembers_23 : decode cX6_remembers 23 = .ok (.getfield 16, 3) := by decide +kernel
theorem dX6_remembers_26 : decode cX6_remembers 26 = .ok (.iload_n 1, 1) := by decide +kernel
theorem dX6_remembers_27 : decode cX6_remembers 27 = .ok (.bipush 68, 2) := by decide +kernel
theorem dX6_remembers_29 : decode cX6_remembers 29 = .ok (.iadd, 1) := by decide +kernel
theorem dX6_remembers_30 : decode cX6_remembers 30 = .ok (.laload, 1) := by decide +kernel
theorem dX6_remembers_31 : decode cX6_remembers 31 = .ok (.lastore, 1) := by decide +kernel
theorem dX6_remembers_32 : decode cX6_remembers 32 = .ok (.iinc 1 1, 3) := by decide +kernel
theorem dX6_remembers_35 : decode cX6_remembers 35 = .ok (.goto (-25), 3) := by decide +kernel
theorem dX6_remembers_38 : decode cX6_remembers 38 = .ok (.aload_n 0, 1) := by decide +kernel
theorem dX6_remembers_39 : decode cX6_remembers 39 = .ok (.dup, 1) := by decide +kernel
theorem dX6_remembers_40 : decode cX6_remembers 40 = .ok (.getfield 45, 3) := by decide +kernel
theorem dX6_remembers_43 : decode cX6_remembers 43 = .ok (.iconst 1, 1) := by decide +kernel
theorem dX6_remembers_44 : decode cX6_remembers 44 = .ok (.isub, 1) := by decide +kernel
theorem dX6_remembers_45 : decode cX6_remembers 45 = .ok (.putfield 45, 3) := by decide +kernel
theorem dX6_remembers_48 : decode cX6_remembers 48 = .ok (.iconst 0, 1) := by decide +kernel
theorem dX6_remembers_49 : decode cX6_remembers 49 = .ok (.istore_n 1, 1) := by decide +kernel
theorem dX6_remembers_50 : decode cX6_remembers 50 = .ok (.iload_n 1, 1) := by decide +kernel
theorem dX6_remembers_51 : decode cX6_remembers 51 = .ok (.bipush 68, 2) := by decide +kernel
theorem dX6_remembers_53 : decode cX6_remembers 53 = .ok (.if_icmp .ge 29, 3) := by decide +kernel
theorem dX6_remembers_56 : decode cX6_remembers 56 = .ok (.aload_n 0, 1) := by decide +kernel
theorem dX6_remembers_57 : decode cX6_remembers 57 = .ok (.getfield 16, 3) := by decide +kernel
theorem dX6_remembers_60 : decode cX6_remembers 60 = .ok (.bipush 68, 2) := by decide +kernel
theorem dX6_remembers_62 : decode cX6_remembers 62 = .ok (.aload_n 0, 1) := by decide +kernel
theorem dX6_remembers_63 : decode cX6_remembers 63 = .ok (.getfield 45, 3) := by decide +kernel
theorem dX6_remembers_66 : decode cX6_remembers 66 = .ok (.imul, 1) := by decide +kernel
theorem dX6_remembers_67 : decode cX6_remembers 67 = .ok (.iload_n 1, 1) := by decide +kernel
theorem dX6_remembers_68 : decode cX6_remembers 68 = .ok (.iadd, 1) := by decide +kernel
theorem dX6_remembers_69 : decode cX6_remembers 69 = .ok (.aload_n 0, 1) := by decide +kernel
theorem dX6_remembers_70 : decode cX6_remembers 70 = .ok (.getfield 13, 3) := by decide +kernel
theorem dX6_remembers_73 : decode cX6_remembers 73 = .ok (.iload_n 1, 1) := by decide +kernel
theorem dX6_remembers_74 : decode cX6_remembers 74 = .ok (.laload, 1) := by decide +kernel
theorem dX6_remembers_75 : decode cX6_remembers 75 = .ok (.lastore, 1) := by decide +kernel
theorem dX6_remembers_76 : decode cX6_remembers 76 = .ok (.iinc 1 1, 3) := by decide +kernel
theorem dX6_remembers_79 : decode cX6_remembers 79 = .ok (.goto (-29), 3) := by decide +kernel
theorem dX6_remembers_82 : decode cX6_remembers 82 = .ok (.aload_n 0, 1) := by decide +kernel
theorem dX6_remembers_83 : decode cX6_remembers 83 = .ok (.dup, 1) := by decide +kernel
theorem dX6_remembers_84 : decode cX6_remembers 84 = .ok (.getfield 45, 3) := by decide +kernel
theorem dX6_remembers_87 : decode cX6_remembers 87 = .ok (.iconst 1, 1) := by decide +kernel
theorem dX6_remembers_88 : decode cX6_remembers 88 = .ok (.iadd, 1) := by decide +kernel
theorem dX6_remembers_89 : decode cX6_remembers 89 = .ok (.putfield 45, 3) := by decide +kernel
theorem dX6_remembers_92 : decode cX6_remembers 92 = .ok (.return_, 1) := by decide +kernel
set_option maxRecDepth 20000 in
theorem ggX6_back_X6_refuses : GoodIn wsX6_back wsX6_refuses := goodIn_r _ [9, 10, 11, 12, 13, 14, 15, 16, 17, 18, 19, 20, 21, 22, 23, 24, 25, 26] (by decide +kernel) (by decide +kernel)
set_option maxRecDepth 20000 in
theorem gX6_back_X6_refuses : GoodIn wsX6_back (wsV RX6 50 RX6 yX6_refuses wsX6_refuses) := goodIn_app (goodIn_of _ (by decide +kernel)) ggX6_back_X6_refuses
theorem dX6_back_0 : decode cX6_back 0 = .ok (.aload_n 0, 1) := by decide +kernel
theorem dX6_back_1 : decode cX6_back 1 = .ok (.getfield 45, 3) := by decide +kernel
theorem dX6_back_4 : decode cX6_back 4 = .ok (.ifCond .ne 10, 3) := by decide +kernel
theorem dX6_back_7 : decode cX6_back 7 = .ok (.aload_n 0, 1) := by decide +kernel
theorem dX6_back_8 : decode cX6_back 8 = .ok (.ldc 49, 2) := by decide +kernel
theorem dX6_back_10 : decode cX6_back 10 = .ok (.invokevirtual 50, 3) := by decide +kernel
theorem dX6_back_13 : decode cX6_back 13 = .ok (.ireturn, 1) := by decide +kernel
theorem dX6_back_14 : decode cX6_back 14 = .ok (.aload_n 0, 1) := by decide +kernel
theorem dX6_back_15 : decode cX6_back 15 = .ok (.dup, 1) := by decide +kernel
theorem dX6_back_16 : decode cX6_back 16 = .ok (.getfield 45, 3) := by decide +kernel
theorem dX6_back_19 : decode cX6_back 19 = .ok (.iconst 1, 1) := by decide +kernel
theorem dX6_back_20 : decode cX6_back 20 = .ok (.isub, 1) := by decide +kernel
theorem dX6_back_21 : decode cX6_back 21 = .ok (.putfield 45, 3) := by decide +kernel
theorem dX6_back_24 : decode cX6_back 24 = .ok (.iconst 0, 1) := by decide +kernel
theorem dX6_back_25 : decode cX6_back 25 = .ok (.istore_n 1, 1) := by decide +kernel
theorem dX6_back_26 : decode cX6_back 26 = .ok (.iload_n 1, 1) := by decide +kernel
theorem dX6_back_27 : decode cX6_back 27 = .ok (.bipush 68, 2) := by decide +kernel
theorem dX6_back_29 : decode cX6_back 29 = .ok (.if_icmp .ge 29, 3) := by decide +kernel
theorem dX6_back_32 : decode cX6_back 32 = .ok (.aload_n 0, 1) := by decide +kernel
theorem dX6_back_33 : decode cX6_back 33 = .ok (.getfield 7, 3) := by decide +kernel
theorem dX6_back_36 : decode cX6_back 36 = .ok (.iload_n 1, 1) := by decide +kernel
theorem dX6_back_37 : decode cX6_back 37 = .ok (.aload_n 0, 1) := by decide +kernel
theorem dX6_back_38 : decode cX6_back 38 = .ok (.getfield 16, 3) := by decide +kernel
theorem dX6_back_41 : decode cX6_back 41 = .ok (.bipush 68, 2) := by decide +kernel
theorem dX6_back_43 : decode cX6_back 43 = .ok (.aload_n 0, 1) := by decide +kernel
theorem dX6_back_44 : decode cX6_back 44 = .ok (.getfield 45, 3) := by decide +kernel
theorem dX6_back_47 : decode cX6_back 47 = .ok (.imul, 1) := by decide +kernel
theorem dX6_back_48 : decode cX6_back 48 = .ok (.iload_n 1, 1) := by decide +kernel
theorem dX6_back_49 : decode cX6_back 49 = .ok (.iadd, 1) := by decide +kernel
theorem dX6_back_50 : decode cX6_back 50 = .ok (.laload, 1) := by decide +kernel
theorem dX6_back_51 : decode cX6_back 51 = .ok (.lastore, 1) := by decide +kernel
theorem dX6_back_52 : decode cX6_back 52 = .ok (.iinc 1 1, 3) := by decide +kernel
theorem dX6_back_55 : decode cX6_back 55 = .ok (.goto (-29), 3) := by decide +kernel
theorem dX6_back_58 : decode cX6_back 58 = .ok (.aload_n 0, 1) := by decide +kernel
theorem dX6_back_59 : decode cX6_back 59 = .ok (.getfield 45, 3) := by decide +kernel
theorem dX6_back_62 : decode cX6_back 62 = .ok (.ireturn, 1) := by decide +kernel
set_option maxRecDepth 20000 in
theorem ggX6_finished_X6_refuses : GoodIn wsX6_finished wsX6_refuses := goodIn_r _ [6, 7, 1, 15, 16, 17, 18, 19, 20, 21, 22, 23, 24, 25, 26, 27, 28, 29] (by decide +kernel) (by decide +kernel)
set_option maxRecDepth 20000 in
theorem gX6_finished_X6_refuses : GoodIn wsX6_finished (wsV RX6 50 RX6 yX6_refuses wsX6_refuses) := goodIn_app (goodIn_of _ (by decide +kernel)) ggX6_finished_X6_refuses
set_option maxRecDepth 20000 in
theorem ggX6_finished_X6_remembers : GoodIn wsX6_finished wsX6_remembers := goodIn_r _ [11, 12, 13, 14, 15, 16, 17, 18, 19, 20, 21, 22, 23, 24, 25, 26, 27, 28, 29] (by decide +kernel) (by decide +kernel)
set_option maxRecDepth 20000 in
theorem gX6_finished_X6_remembers : GoodIn wsX6_finished (wsV RX6 54 RX6 yX6_remembers wsX6_remembers) := goodIn_app (goodIn_of _ (by decide +kernel)) ggX6_finished_X6_remembers
theorem dX6_finished_0 : decode cX6_finished 0 = .ok (.iload_n 1, 1) := by decide +kernel
theorem dX6_finished_1 : decode cX6_finished 1 = .ok (.ldc 44, 2) := by decide +kernel
theorem dX6_finished_3 : decode cX6_finished 3 = .ok (.if_icmp .gt 9, 3) := by decide +kernel
theorem dX6_finished_6 : decode cX6_finished 6 = .ok (.aload_n 0, 1) := by decide +kernel
theorem dX6_finished_7 : decode cX6_finished 7 = .ok (.iload_n 1, 1) := by decide +kernel
theorem dX6_finished_8 : decode cX6_finished 8 = .ok (.invokevirtual 50, 3) := by decide +kernel
theorem dX6_finished_11 : decode cX6_finished 11 = .ok (.ireturn, 1) := by decide +kernel
theorem dX6_finished_12 : decode cX6_finished 12 = .ok (.aload_n 0, 1) := by decide +kernel
theorem dX6_finished_13 : decode cX6_finished 13 = .ok (.invokevirtual 54, 3) := by decide +kernel
theorem dX6_finished_16 : decode cX6_finished 16 = .ok (.iload_n 1, 1) := by decide +kernel
theorem dX6_finished_17 : decode cX6_finished 17 = .ok (.ireturn, 1) := by decide +kernel
theorem dX6_voltsAt_0 : decode cX6_voltsAt 0 = .ok (.iload_n 1, 1) := by decide +kernel
theorem dX6_voltsAt_1 : decode cX6_voltsAt 1 = .ok (.sipush 1000, 3) := by decide +kernel
theorem dX6_voltsAt_4 : decode cX6_voltsAt 4 = .ok (.if_icmp .ne 8, 3) := by decide +kernel
theorem dX6_voltsAt_7 : decode cX6_voltsAt 7 = .ok (.bipush 9, 2) := by decide +kernel
theorem dX6_voltsAt_9 : decode cX6_voltsAt 9 = .ok (.goto 7, 3) := by decide +kernel
theorem dX6_voltsAt_12 : decode cX6_voltsAt 12 = .ok (.iload_n 1, 1) := by decide +kernel
theorem dX6_voltsAt_13 : decode cX6_voltsAt 13 = .ok (.bipush 100, 2) := by decide +kernel
theorem dX6_voltsAt_15 : decode cX6_voltsAt 15 = .ok (.idiv, 1) := by decide +kernel
theorem dX6_voltsAt_16 : decode cX6_voltsAt 16 = .ok (.istore_n 2, 1) := by decide +kernel
theorem dX6_voltsAt_17 : decode cX6_voltsAt 17 = .ok (.aload_n 0, 1) := by decide +kernel
theorem dX6_voltsAt_18 : decode cX6_voltsAt 18 = .ok (.getfield 7, 3) := by decide +kernel
theorem dX6_voltsAt_21 : decode cX6_voltsAt 21 = .ok (.bipush 13, 2) := by decide +kernel
theorem dX6_voltsAt_23 : decode cX6_voltsAt 23 = .ok (.iload_n 2, 1) := by decide +kernel
theorem dX6_voltsAt_24 : decode cX6_voltsAt 24 = .ok (.iadd, 1) := by decide +kernel
theorem dX6_voltsAt_25 : decode cX6_voltsAt 25 = .ok (.laload, 1) := by decide +kernel
theorem dX6_voltsAt_26 : decode cX6_voltsAt 26 = .ok (.lstore_n 3, 1) := by decide +kernel
theorem dX6_voltsAt_27 : decode cX6_voltsAt 27 = .ok (.lload_n 3, 1) := by decide +kernel
theorem dX6_voltsAt_28 : decode cX6_voltsAt 28 = .ok (.aload_n 0, 1) := by decide +kernel
theorem dX6_voltsAt_29 : decode cX6_voltsAt 29 = .ok (.getfield 7, 3) := by decide +kernel
theorem dX6_voltsAt_32 : decode cX6_voltsAt 32 = .ok (.bipush 13, 2) := by decide +kernel
theorem dX6_voltsAt_34 : decode cX6_voltsAt 34 = .ok (.iload_n 2, 1) := by decide +kernel
theorem dX6_voltsAt_35 : decode cX6_voltsAt 35 = .ok (.iadd, 1) := by decide +kernel
theorem dX6_voltsAt_36 : decode cX6_voltsAt 36 = .ok (.iconst 1, 1) := by decide +kernel
theorem dX6_voltsAt_37 : decode cX6_voltsAt 37 = .ok (.iadd, 1) := by decide +kernel
theorem dX6_voltsAt_38 : decode cX6_voltsAt 38 = .ok (.laload, 1) := by decide +kernel
theorem dX6_voltsAt_39 : decode cX6_voltsAt 39 = .ok (.lload_n 3, 1) := by decide +kernel
theorem dX6_voltsAt_40 : decode cX6_voltsAt 40 = .ok (.lsub, 1) := by decide +kernel
theorem dX6_voltsAt_41 : decode cX6_voltsAt 41 = .ok (.iload_n 1, 1) := by decide +kernel
theorem dX6_voltsAt_42 : decode cX6_voltsAt 42 = .ok (.bipush 100, 2) := by decide +kernel
theorem dX6_voltsAt_44 : decode cX6_voltsAt 44 = .ok (.iload_n 2, 1) := by decide +kernel
theorem dX6_voltsAt_45 : decode cX6_voltsAt 45 = .ok (.imul, 1) := by decide +kernel
theorem dX6_voltsAt_46 : decode cX6_voltsAt 46 = .ok (.isub, 1) := by decide +kernel
theorem dX6_voltsAt_47 : decode cX6_voltsAt 47 = .ok (.i2l, 1) := by decide +kernel
theorem dX6_voltsAt_48 : decode cX6_voltsAt 48 = .ok (.lmul, 1) := by decide +kernel
theorem dX6_voltsAt_49 : decode cX6_voltsAt 49 = .ok (.ldc2_w 36, 3) := by decide +kernel
theorem dX6_voltsAt_52 : decode cX6_voltsAt 52 = .ok (.ldiv, 1) := by decide +kernel
theorem dX6_voltsAt_53 : decode cX6_voltsAt 53 = .ok (.ladd, 1) := by decide +kernel
theorem dX6_voltsAt_54 : decode cX6_voltsAt 54 = .ok (.l2i, 1) := by decide +kernel
theorem dX6_voltsAt_55 : decode cX6_voltsAt 55 = .ok (.ireturn, 1) := by decide +kernel
set_option maxRecDepth 20000 in
theorem ggX6_turns_X6_voltsAt : GoodIn wsX6_turns wsX6_voltsAt := goodIn_r _ [9, 1, 10, 11, 12, 13, 14, 15, 16, 17, 18, 19, 20, 21, 22, 23, 24, 25] (by decide +kernel) (by decide +kernel)
set_option maxRecDepth 20000 in
theorem gX6_turns_X6_voltsAt : GoodIn wsX6_turns (wsV RX6 64 RX6 yX6_voltsAt wsX6_voltsAt) := goodIn_app (goodIn_of _ (by decide +kernel)) ggX6_turns_X6_voltsAt
theorem dX6_turns_0 : decode cX6_turns 0 = .ok (.aload_n 0, 1) := by decide +kernel
theorem dX6_turns_1 : decode cX6_turns 1 = .ok (.getfield 7, 3) := by decide +kernel
theorem dX6_turns_4 : decode cX6_turns 4 = .ok (.bipush 12, 2) := by decide +kernel
theorem dX6_turns_6 : decode cX6_turns 6 = .ok (.laload, 1) := by decide +kernel
theorem dX6_turns_7 : decode cX6_turns 7 = .ok (.l2i, 1) := by decide +kernel
theorem dX6_turns_8 : decode cX6_turns 8 = .ok (.istore_n 2, 1) := by decide +kernel
theorem dX6_turns_9 : decode cX6_turns 9 = .ok (.aload_n 0, 1) := by decide +kernel
theorem dX6_turns_10 : decode cX6_turns 10 = .ok (.ldc 57, 2) := by decide +kernel
theorem dX6_turns_12 : decode cX6_turns 12 = .ok (.putfield 58, 3) := by decide +kernel
theorem dX6_turns_15 : decode cX6_turns 15 = .ok (.aload_n 0, 1) := by decide +kernel
theorem dX6_turns_16 : decode cX6_turns 16 = .ok (.ldc 57, 2) := by decide +kernel
theorem dX6_turns_18 : decode cX6_turns 18 = .ok (.putfield 61, 3) := by decide +kernel
theorem dX6_turns_21 : decode cX6_turns 21 = .ok (.iconst 0, 1) := by decide +kernel
theorem dX6_turns_22 : decode cX6_turns 22 = .ok (.istore_n 3, 1) := by decide +kernel
theorem dX6_turns_23 : decode cX6_turns 23 = .ok (.iload_n 3, 1) := by decide +kernel
theorem dX6_turns_24 : decode cX6_turns 24 = .ok (.sipush 1000, 3) := by decide +kernel
theorem dX6_turns_27 : decode cX6_turns 27 = .ok (.if_icmp .gt 65, 3) := by decide +kernel
theorem dX6_turns_30 : decode cX6_turns 30 = .ok (.aload_n 0, 1) := by decide +kernel
theorem dX6_turns_31 : decode cX6_turns 31 = .ok (.iload_n 3, 1) := by decide +kernel
theorem dX6_turns_32 : decode cX6_turns 32 = .ok (.invokevirtual 64, 3) := by decide +kernel
theorem dX6_turns_35 : decode cX6_turns 35 = .ok (.istore 4, 2) := by decide +kernel
theorem dX6_turns_37 : decode cX6_turns 37 = .ok (.aload_n 0, 1) := by decide +kernel
theorem dX6_turns_38 : decode cX6_turns 38 = .ok (.aload_n 0, 1) := by decide +kernel
theorem dX6_turns_39 : decode cX6_turns 39 = .ok (.getfield 58, 3) := by decide +kernel
theorem dX6_turns_42 : decode cX6_turns 42 = .ok (.ldc 57, 2) := by decide +kernel
theorem dX6_turns_44 : decode cX6_turns 44 = .ok (.if_icmp .ne 15, 3) := by decide +kernel
theorem dX6_turns_47 : decode cX6_turns 47 = .ok (.iload 4, 2) := by decide +kernel
theorem dX6_turns_49 : decode cX6_turns 49 = .ok (.iload_n 2, 1) := by decide +kernel
theorem dX6_turns_50 : decode cX6_turns 50 = .ok (.iadd, 1) := by decide +kernel
theorem dX6_turns_51 : decode cX6_turns 51 = .ok (.iload_n 1, 1) := by decide +kernel
theorem dX6_turns_52 : decode cX6_turns 52 = .ok (.if_icmp .lt 7, 3) := by decide +kernel
theorem dX6_turns_55 : decode cX6_turns 55 = .ok (.iload_n 3, 1) := by decide +kernel
theorem dX6_turns_56 : decode cX6_turns 56 = .ok (.goto 7, 3) := by decide +kernel
theorem dX6_turns_59 : decode cX6_turns 59 = .ok (.aload_n 0, 1) := by decide +kernel
theorem dX6_turns_60 : decode cX6_turns 60 = .ok (.getfield 58, 3) := by decide +kernel
theorem dX6_turns_63 : decode cX6_turns 63 = .ok (.putfield 58, 3) := by decide +kernel
theorem dX6_turns_66 : decode cX6_turns 66 = .ok (.aload_n 0, 1) := by decide +kernel
theorem dX6_turns_67 : decode cX6_turns 67 = .ok (.iload 4, 2) := by decide +kernel
theorem dX6_turns_69 : decode cX6_turns 69 = .ok (.iload_n 2, 1) := by decide +kernel
theorem dX6_turns_70 : decode cX6_turns 70 = .ok (.isub, 1) := by decide +kernel
theorem dX6_turns_71 : decode cX6_turns 71 = .ok (.iload_n 1, 1) := by decide +kernel
theorem dX6_turns_72 : decode cX6_turns 72 = .ok (.if_icmp .gt 7, 3) := by decide +kernel
theorem dX6_turns_75 : decode cX6_turns 75 = .ok (.iload_n 3, 1) := by decide +kernel
theorem dX6_turns_76 : decode cX6_turns 76 = .ok (.goto 7, 3) := by decide +kernel
theorem dX6_turns_79 : decode cX6_turns 79 = .ok (.aload_n 0, 1) := by decide +kernel
theorem dX6_turns_80 : decode cX6_turns 80 = .ok (.getfield 61, 3) := by decide +kernel
theorem dX6_turns_83 : decode cX6_turns 83 = .ok (.putfield 61, 3) := by decide +kernel
theorem dX6_turns_86 : decode cX6_turns 86 = .ok (.iinc 3 1, 3) := by decide +kernel
theorem dX6_turns_89 : decode cX6_turns 89 = .ok (.goto (-66), 3) := by decide +kernel
theorem dX6_turns_92 : decode cX6_turns 92 = .ok (.aload_n 0, 1) := by decide +kernel
theorem dX6_turns_93 : decode cX6_turns 93 = .ok (.getfield 58, 3) := by decide +kernel
theorem dX6_turns_96 : decode cX6_turns 96 = .ok (.ldc 57, 2) := by decide +kernel
theorem dX6_turns_98 : decode cX6_turns 98 = .ok (.if_icmp .eq 41, 3) := by decide +kernel
theorem dX6_turns_101 : decode cX6_turns 101 = .ok (.aload_n 0, 1) := by decide +kernel
theorem dX6_turns_102 : decode cX6_turns 102 = .ok (.getfield 61, 3) := by decide +kernel
theorem dX6_turns_105 : decode cX6_turns 105 = .ok (.ldc 57, 2) := by decide +kernel
theorem dX6_turns_107 : decode cX6_turns 107 = .ok (.if_icmp .eq 32, 3) := by decide +kernel
theorem dX6_turns_110 : decode cX6_turns 110 = .ok (.aload_n 0, 1) := by decide +kernel
theorem dX6_turns_111 : decode cX6_turns 111 = .ok (.getfield 58, 3) := by decide +kernel
theorem dX6_turns_114 : decode cX6_turns 114 = .ok (.aload_n 0, 1) := by decide +kernel
theorem dX6_turns_115 : decode cX6_turns 115 = .ok (.getfield 61, 3) := by decide +kernel
theorem dX6_turns_118 : decode cX6_turns 118 = .ok (.if_icmp .le 21, 3) := by decide +kernel
theorem dX6_turns_121 : decode cX6_turns 121 = .ok (.aload_n 0, 1) := by decide +kernel
theorem dX6_turns_122 : decode cX6_turns 122 = .ok (.getfield 58, 3) := by decide +kernel
theorem dX6_turns_125 : decode cX6_turns 125 = .ok (.istore_n 3, 1) := by decide +kernel
theorem dX6_turns_126 : decode cX6_turns 126 = .ok (.aload_n 0, 1) := by decide +kernel
theorem dX6_turns_127 : decode cX6_turns 127 = .ok (.aload_n 0, 1) := by decide +kernel
theorem dX6_turns_128 : decode cX6_turns 128 = .ok (.getfield 61, 3) := by decide +kernel
theorem dX6_turns_131 : decode cX6_turns 131 = .ok (.putfield 58, 3) := by decide +kernel
theorem dX6_turns_134 : decode cX6_turns 134 = .ok (.aload_n 0, 1) := by decide +kernel
theorem dX6_turns_135 : decode cX6_turns 135 = .ok (.iload_n 3, 1) := by decide +kernel
theorem dX6_turns_136 : decode cX6_turns 136 = .ok (.putfield 61, 3) := by decide +kernel
theorem dX6_turns_139 : decode cX6_turns 139 = .ok (.return_, 1) := by decide +kernel
theorem dX6_middle_0 : decode cX6_middle 0 = .ok (.aload_n 0, 1) := by decide +kernel
theorem dX6_middle_1 : decode cX6_middle 1 = .ok (.getfield 7, 3) := by decide +kernel
theorem dX6_middle_4 : decode cX6_middle 4 = .ok (.iconst 2, 1) := by decide +kernel
theorem dX6_middle_5 : decode cX6_middle 5 = .ok (.laload, 1) := by decide +kernel
theorem dX6_middle_6 : decode cX6_middle 6 = .ok (.aload_n 0, 1) := by decide +kernel
theorem dX6_middle_7 : decode cX6_middle 7 = .ok (.getfield 7, 3) := by decide +kernel
theorem dX6_middle_10 : decode cX6_middle 10 = .ok (.iconst 3, 1) := by decide +kernel
theorem dX6_middle_11 : decode cX6_middle 11 = .ok (.laload, 1) := by decide +kernel
theorem dX6_middle_12 : decode cX6_middle 12 = .ok (.ladd, 1) := by decide +kernel
theorem dX6_middle_13 : decode cX6_middle 13 = .ok (.lstore_n 1, 1) := by decide +kernel
theorem dX6_middle_14 : decode cX6_middle 14 = .ok (.lload_n 1, 1) := by decide +kernel
theorem dX6_middle_15 : decode cX6_middle 15 = .ok (.lconst 0, 1) := by decide +kernel
theorem dX6_middle_16 : decode cX6_middle 16 = .ok (.lcmp, 1) := by decide +kernel
theorem dX6_middle_17 : decode cX6_middle 17 = .ok (.ifCond .ne 5, 3) := by decide +kernel
theorem dX6_middle_20 : decode cX6_middle 20 = .ok (.iconst 0, 1) := by decide +kernel
theorem dX6_middle_21 : decode cX6_middle 21 = .ok (.ireturn, 1) := by decide +kernel
theorem dX6_middle_22 : decode cX6_middle 22 = .ok (.ldc2_w 32, 3) := by decide +kernel
theorem dX6_middle_25 : decode cX6_middle 25 = .ok (.aload_n 0, 1) := by decide +kernel
theorem dX6_middle_26 : decode cX6_middle 26 = .ok (.getfield 7, 3) := by decide +kernel
theorem dX6_middle_29 : decode cX6_middle 29 = .ok (.iconst 0, 1) := by decide +kernel
theorem dX6_middle_30 : decode cX6_middle 30 = .ok (.laload, 1) := by decide +kernel
theorem dX6_middle_31 : decode cX6_middle 31 = .ok (.aload_n 0, 1) := by decide +kernel
theorem dX6_middle_32 : decode cX6_middle 32 = .ok (.getfield 7, 3) := by decide +kernel
theorem dX6_middle_35 : decode cX6_middle 35 = .ok (.iconst 1, 1) := by decide +kernel
theorem dX6_middle_36 : decode cX6_middle 36 = .ok (.laload, 1) := by decide +kernel
theorem dX6_middle_37 : decode cX6_middle 37 = .ok (.ladd, 1) := by decide +kernel
theorem dX6_middle_38 : decode cX6_middle 38 = .ok (.lmul, 1) := by decide +kernel
theorem dX6_middle_39 : decode cX6_middle 39 = .ok (.lload_n 1, 1) := by decide +kernel
theorem dX6_middle_40 : decode cX6_middle 40 = .ok (.ldiv, 1) := by decide +kernel
theorem dX6_middle_41 : decode cX6_middle 41 = .ok (.lstore_n 3, 1) := by decide +kernel
theorem dX6_middle_42 : decode cX6_middle 42 = .ok (.lload_n 3, 1) := by decide +kernel
theorem dX6_middle_43 : decode cX6_middle 43 = .ok (.ldc2_w 32, 3) := by decide +kernel
theorem dX6_middle_46 : decode cX6_middle 46 = .ok (.lcmp, 1) := by decide +kernel
theorem dX6_middle_47 : decode cX6_middle 47 = .ok (.ifCond .le 9, 3) := by decide +kernel
theorem dX6_middle_50 : decode cX6_middle 50 = .ok (.sipush 1000, 3) := by decide +kernel
theorem dX6_middle_53 : decode cX6_middle 53 = .ok (.goto 5, 3) := by decide +kernel
theorem dX6_middle_56 : decode cX6_middle 56 = .ok (.lload_n 3, 1) := by decide +kernel
theorem dX6_middle_57 : decode cX6_middle 57 = .ok (.l2i, 1) := by decide +kernel
theorem dX6_middle_58 : decode cX6_middle 58 = .ok (.ireturn, 1) := by decide +kernel
set_option maxRecDepth 20000 in
theorem ggX6_putCapacity_X6_in : GoodIn wsX6_putCapacity wsX6_in := goodIn_r _ [9] (by decide +kernel) (by decide +kernel)
set_option maxRecDepth 20000 in
theorem gX6_putCapacity_X6_in : GoodIn wsX6_putCapacity (va_wsS RX6 69 yX6_in wsX6_in) := goodIn_app (goodIn_of _ (by decide +kernel)) ggX6_putCapacity_X6_in
theorem dX6_putCapacity_0 : decode cX6_putCapacity 0 = .ok (.iload_n 1, 1) := by decide +kernel
theorem dX6_putCapacity_1 : decode cX6_putCapacity 1 = .ok (.i2l, 1) := by decide +kernel
theorem dX6_putCapacity_2 : decode cX6_putCapacity 2 = .ok (.lconst 0, 1) := by decide +kernel
theorem dX6_putCapacity_3 : decode cX6_putCapacity 3 = .ok (.ldc2_w 67, 3) := by decide +kernel
theorem dX6_putCapacity_6 : decode cX6_putCapacity 6 = .ok (.invokestatic 69, 3) := by decide +kernel
theorem dX6_putCapacity_9 : decode cX6_putCapacity 9 = .ok (.ifCond .eq 16, 3) := by decide +kernel
theorem dX6_putCapacity_12 : decode cX6_putCapacity 12 = .ok (.iload_n 2, 1) := by decide +kernel
theorem dX6_putCapacity_13 : decode cX6_putCapacity 13 = .ok (.i2l, 1) := by decide +kernel
theorem dX6_putCapacity_14 : decode cX6_putCapacity 14 = .ok (.iload_n 1, 1) := by decide +kernel
theorem dX6_putCapacity_15 : decode cX6_putCapacity 15 = .ok (.i2l, 1) := by decide +kernel
theorem dX6_putCapacity_16 : decode cX6_putCapacity 16 = .ok (.ldc2_w 67, 3) := by decide +kernel
theorem dX6_putCapacity_19 : decode cX6_putCapacity 19 = .ok (.invokestatic 69, 3) := by decide +kernel
theorem dX6_putCapacity_22 : decode cX6_putCapacity 22 = .ok (.ifCond .ne 6, 3) := by decide +kernel
theorem dX6_putCapacity_25 : decode cX6_putCapacity 25 = .ok (.ldc 44, 2) := by decide +kernel
theorem dX6_putCapacity_27 : decode cX6_putCapacity 27 = .ok (.ireturn, 1) := by decide +kernel
theorem dX6_putCapacity_28 : decode cX6_putCapacity 28 = .ok (.aload_n 0, 1) := by decide +kernel
theorem dX6_putCapacity_29 : decode cX6_putCapacity 29 = .ok (.getfield 7, 3) := by decide +kernel
theorem dX6_putCapacity_32 : decode cX6_putCapacity 32 = .ok (.iconst 2, 1) := by decide +kernel
theorem dX6_putCapacity_33 : decode cX6_putCapacity 33 = .ok (.laload, 1) := by decide +kernel
theorem dX6_putCapacity_34 : decode cX6_putCapacity 34 = .ok (.l2i, 1) := by decide +kernel
theorem dX6_putCapacity_35 : decode cX6_putCapacity 35 = .ok (.istore_n 3, 1) := by decide +kernel
theorem dX6_putCapacity_36 : decode cX6_putCapacity 36 = .ok (.aload_n 0, 1) := by decide +kernel
theorem dX6_putCapacity_37 : decode cX6_putCapacity 37 = .ok (.getfield 7, 3) := by decide +kernel
theorem dX6_putCapacity_40 : decode cX6_putCapacity 40 = .ok (.iconst 2, 1) := by decide +kernel
theorem dX6_putCapacity_41 : decode cX6_putCapacity 41 = .ok (.iload_n 1, 1) := by decide +kernel
theorem dX6_putCapacity_42 : decode cX6_putCapacity 42 = .ok (.i2l, 1) := by decide +kernel
theorem dX6_putCapacity_43 : decode cX6_putCapacity 43 = .ok (.lastore, 1) := by decide +kernel
theorem dX6_putCapacity_44 : decode cX6_putCapacity 44 = .ok (.aload_n 0, 1) := by decide +kernel
theorem dX6_putCapacity_45 : decode cX6_putCapacity 45 = .ok (.getfield 7, 3) := by decide +kernel
theorem dX6_putCapacity_48 : decode cX6_putCapacity 48 = .ok (.iconst 3, 1) := by decide +kernel
theorem dX6_putCapacity_49 : decode cX6_putCapacity 49 = .ok (.iload_n 2, 1) := by decide +kernel
theorem dX6_putCapacity_50 : decode cX6_putCapacity 50 = .ok (.i2l, 1) := by decide +kernel
theorem dX6_putCapacity_51 : decode cX6_putCapacity 51 = .ok (.lastore, 1) := by decide +kernel
theorem dX6_putCapacity_52 : decode cX6_putCapacity 52 = .ok (.aload_n 0, 1) := by decide +kernel
theorem dX6_putCapacity_53 : decode cX6_putCapacity 53 = .ok (.getfield 7, 3) := by decide +kernel
theorem dX6_putCapacity_56 : decode cX6_putCapacity 56 = .ok (.iconst 0, 1) := by decide +kernel
theorem dX6_putCapacity_57 : decode cX6_putCapacity 57 = .ok (.lconst 0, 1) := by decide +kernel
theorem dX6_putCapacity_58 : decode cX6_putCapacity 58 = .ok (.lastore, 1) := by decide +kernel
theorem dX6_putCapacity_59 : decode cX6_putCapacity 59 = .ok (.aload_n 0, 1) := by decide +kernel
theorem dX6_putCapacity_60 : decode cX6_putCapacity 60 = .ok (.getfield 7, 3) := by decide +kernel
theorem dX6_putCapacity_63 : decode cX6_putCapacity 63 = .ok (.iconst 1, 1) := by decide +kernel
theorem dX6_putCapacity_64 : decode cX6_putCapacity 64 = .ok (.iload_n 2, 1) := by decide +kernel
theorem dX6_putCapacity_65 : decode cX6_putCapacity 65 = .ok (.i2l, 1) := by decide +kernel
theorem dX6_putCapacity_66 : decode cX6_putCapacity 66 = .ok (.lastore, 1) := by decide +kernel
theorem dX6_putCapacity_67 : decode cX6_putCapacity 67 = .ok (.aload_n 0, 1) := by decide +kernel
theorem dX6_putCapacity_68 : decode cX6_putCapacity 68 = .ok (.getfield 7, 3) := by decide +kernel
theorem dX6_putCapacity_71 : decode cX6_putCapacity 71 = .ok (.iconst 4, 1) := by decide +kernel
theorem dX6_putCapacity_72 : decode cX6_putCapacity 72 = .ok (.ldc2_w 36, 3) := by decide +kernel
theorem dX6_putCapacity_75 : decode cX6_putCapacity 75 = .ok (.lastore, 1) := by decide +kernel
theorem dX6_putCapacity_76 : decode cX6_putCapacity 76 = .ok (.iconst 5, 1) := by decide +kernel
theorem dX6_putCapacity_77 : decode cX6_putCapacity 77 = .ok (.istore 4, 2) := by decide +kernel
theorem dX6_putCapacity_79 : decode cX6_putCapacity 79 = .ok (.iload 4, 2) := by decide +kernel
theorem dX6_putCapacity_81 : decode cX6_putCapacity 81 = .ok (.bipush 9, 2) := by decide +kernel
theorem dX6_putCapacity_83 : decode cX6_putCapacity 83 = .ok (.if_icmp .ge 17, 3) := by decide +kernel
theorem dX6_putCapacity_86 : decode cX6_putCapacity 86 = .ok (.aload_n 0, 1) := by decide +kernel
theorem dX6_putCapacity_87 : decode cX6_putCapacity 87 = .ok (.getfield 7, 3) := by decide +kernel
theorem dX6_putCapacity_90 : decode cX6_putCapacity 90 = .ok (.iload 4, 2) := by decide +kernel
theorem dX6_putCapacity_92 : decode cX6_putCapacity 92 = .ok (.lconst 0, 1) := by decide +kernel
theorem dX6_putCapacity_93 : decode cX6_putCapacity 93 = .ok (.lastore, 1) := by decide +kernel
theorem dX6_putCapacity_94 : decode cX6_putCapacity 94 = .ok (.iinc 4 1, 3) := by decide +kernel
theorem dX6_putCapacity_97 : decode cX6_putCapacity 97 = .ok (.goto (-18), 3) := by decide +kernel
theorem dX6_putCapacity_100 : decode cX6_putCapacity 100 = .ok (.aload_n 0, 1) := by decide +kernel
theorem dX6_putCapacity_101 : decode cX6_putCapacity 101 = .ok (.getfield 7, 3) := by decide +kernel
theorem dX6_putCapacity_104 : decode cX6_putCapacity 104 = .ok (.bipush 9, 2) := by decide +kernel
theorem dX6_putCapacity_106 : decode cX6_putCapacity 106 = .ok (.ldc2_w 38, 3) := by decide +kernel
theorem dX6_putCapacity_109 : decode cX6_putCapacity 109 = .ok (.lastore, 1) := by decide +kernel
theorem dX6_putCapacity_110 : decode cX6_putCapacity 110 = .ok (.aload_n 0, 1) := by decide +kernel
theorem dX6_putCapacity_111 : decode cX6_putCapacity 111 = .ok (.getfield 7, 3) := by decide +kernel
theorem dX6_putCapacity_114 : decode cX6_putCapacity 114 = .ok (.bipush 10, 2) := by decide +kernel
theorem dX6_putCapacity_116 : decode cX6_putCapacity 116 = .ok (.ldc2_w 38, 3) := by decide +kernel
theorem dX6_putCapacity_119 : decode cX6_putCapacity 119 = .ok (.lastore, 1) := by decide +kernel
theorem dX6_putCapacity_120 : decode cX6_putCapacity 120 = .ok (.bipush 24, 2) := by decide +kernel
theorem dX6_putCapacity_122 : decode cX6_putCapacity 122 = .ok (.istore 4, 2) := by decide +kernel
theorem dX6_putCapacity_124 : decode cX6_putCapacity 124 = .ok (.iload 4, 2) := by decide +kernel
theorem dX6_putCapacity_126 : decode cX6_putCapacity 126 = .ok (.bipush 68, 2) := by decide +kernel
theorem dX6_putCapacity_128 : decode cX6_putCapacity 128 = .ok (.if_icmp .ge 17, 3) := by decide +kernel
theorem dX6_putCapacity_131 : decode cX6_putCapacity 131 = .ok (.aload_n 0, 1) := by decide +kernel
theorem dX6_putCapacity_132 : decode cX6_putCapacity 132 = .ok (.getfield 7, 3) := by decide +kernel
theorem dX6_putCapacity_135 : decode cX6_putCapacity 135 = .ok (.iload 4, 2) := by decide +kernel
theorem dX6_putCapacity_137 : decode cX6_putCapacity 137 = .ok (.lconst 0, 1) := by decide +kernel
theorem dX6_putCapacity_138 : decode cX6_putCapacity 138 = .ok (.lastore, 1) := by decide +kernel
theorem dX6_putCapacity_139 : decode cX6_putCapacity 139 = .ok (.iinc 4 1, 3) := by decide +kernel
theorem dX6_putCapacity_142 : decode cX6_putCapacity 142 = .ok (.goto (-18), 3) := by decide +kernel
theorem dX6_putCapacity_145 : decode cX6_putCapacity 145 = .ok (.iload_n 3, 1) := by decide +kernel
theorem dX6_putCapacity_146 : decode cX6_putCapacity 146 = .ok (.ireturn, 1) := by decide +kernel
set_option maxRecDepth 20000 in
theorem ggX6_putCharge_X6_in : GoodIn wsX6_putCharge wsX6_in := goodIn_r _ [7] (by decide +kernel) (by decide +kernel)
set_option maxRecDepth 20000 in
theorem gX6_putCharge_X6_in : GoodIn wsX6_putCharge (va_wsS RX6 69 yX6_in wsX6_in) := goodIn_app (goodIn_of _ (by decide +kernel)) ggX6_putCharge_X6_in
theorem dX6_putCharge_0 : decode cX6_putCharge 0 = .ok (.iload_n 1, 1) := by decide +kernel
theorem dX6_putCharge_1 : decode cX6_putCharge 1 = .ok (.i2l, 1) := by decide +kernel
theorem dX6_putCharge_2 : decode cX6_putCharge 2 = .ok (.lconst 0, 1) := by decide +kernel
theorem dX6_putCharge_3 : decode cX6_putCharge 3 = .ok (.ldc2_w 67, 3) := by decide +kernel
theorem dX6_putCharge_6 : decode cX6_putCharge 6 = .ok (.invokestatic 69, 3) := by decide +kernel
theorem dX6_putCharge_9 : decode cX6_putCharge 9 = .ok (.ifCond .eq 19, 3) := by decide +kernel
theorem dX6_putCharge_12 : decode cX6_putCharge 12 = .ok (.iload_n 2, 1) := by decide +kernel
theorem dX6_putCharge_13 : decode cX6_putCharge 13 = .ok (.i2l, 1) := by decide +kernel
theorem dX6_putCharge_14 : decode cX6_putCharge 14 = .ok (.iload_n 1, 1) := by decide +kernel
theorem dX6_putCharge_15 : decode cX6_putCharge 15 = .ok (.i2l, 1) := by decide +kernel
theorem dX6_putCharge_16 : decode cX6_putCharge 16 = .ok (.aload_n 0, 1) := by decide +kernel
theorem dX6_putCharge_17 : decode cX6_putCharge 17 = .ok (.getfield 7, 3) := by decide +kernel
theorem dX6_putCharge_20 : decode cX6_putCharge 20 = .ok (.iconst 3, 1) := by decide +kernel
theorem dX6_putCharge_21 : decode cX6_putCharge 21 = .ok (.laload, 1) := by decide +kernel
theorem dX6_putCharge_22 : decode cX6_putCharge 22 = .ok (.invokestatic 69, 3) := by decide +kernel
theorem dX6_putCharge_25 : decode cX6_putCharge 25 = .ok (.ifCond .ne 6, 3) := by decide +kernel
theorem dX6_putCharge_28 : decode cX6_putCharge 28 = .ok (.ldc 44, 2) := by decide +kernel
theorem dX6_putCharge_30 : decode cX6_putCharge 30 = .ok (.ireturn, 1) := by decide +kernel
theorem dX6_putCharge_31 : decode cX6_putCharge 31 = .ok (.aload_n 0, 1) := by decide +kernel
theorem dX6_putCharge_32 : decode cX6_putCharge 32 = .ok (.getfield 7, 3) := by decide +kernel
theorem dX6_putCharge_35 : decode cX6_putCharge 35 = .ok (.iconst 1, 1) := by decide +kernel
theorem dX6_putCharge_36 : decode cX6_putCharge 36 = .ok (.laload, 1) := by decide +kernel
theorem dX6_putCharge_37 : decode cX6_putCharge 37 = .ok (.l2i, 1) := by decide +kernel
theorem dX6_putCharge_38 : decode cX6_putCharge 38 = .ok (.istore_n 3, 1) := by decide +kernel
theorem dX6_putCharge_39 : decode cX6_putCharge 39 = .ok (.aload_n 0, 1) := by decide +kernel
theorem dX6_putCharge_40 : decode cX6_putCharge 40 = .ok (.getfield 7, 3) := by decide +kernel
theorem dX6_putCharge_43 : decode cX6_putCharge 43 = .ok (.iconst 0, 1) := by decide +kernel
theorem dX6_putCharge_44 : decode cX6_putCharge 44 = .ok (.iload_n 1, 1) := by decide +kernel
theorem dX6_putCharge_45 : decode cX6_putCharge 45 = .ok (.i2l, 1) := by decide +kernel
theorem dX6_putCharge_46 : decode cX6_putCharge 46 = .ok (.lastore, 1) := by decide +kernel
theorem dX6_putCharge_47 : decode cX6_putCharge 47 = .ok (.aload_n 0, 1) := by decide +kernel
theorem dX6_putCharge_48 : decode cX6_putCharge 48 = .ok (.getfield 7, 3) := by decide +kernel
theorem dX6_putCharge_51 : decode cX6_putCharge 51 = .ok (.iconst 1, 1) := by decide +kernel
theorem dX6_putCharge_52 : decode cX6_putCharge 52 = .ok (.iload_n 2, 1) := by decide +kernel
theorem dX6_putCharge_53 : decode cX6_putCharge 53 = .ok (.i2l, 1) := by decide +kernel
theorem dX6_putCharge_54 : decode cX6_putCharge 54 = .ok (.lastore, 1) := by decide +kernel
theorem dX6_putCharge_55 : decode cX6_putCharge 55 = .ok (.iload_n 3, 1) := by decide +kernel
theorem dX6_putCharge_56 : decode cX6_putCharge 56 = .ok (.ireturn, 1) := by decide +kernel
set_option maxRecDepth 20000 in
theorem ggX6_putSetting_X6_in : GoodIn wsX6_putSetting wsX6_in := goodIn_r _ [6] (by decide +kernel) (by decide +kernel)
set_option maxRecDepth 20000 in
theorem gX6_putSetting_X6_in : GoodIn wsX6_putSetting (va_wsS RX6 69 yX6_in wsX6_in) := goodIn_app (goodIn_of _ (by decide +kernel)) ggX6_putSetting_X6_in
theorem dX6_putSetting_0 : decode cX6_putSetting 0 = .ok (.iload_n 2, 1) := by decide +kernel
theorem dX6_putSetting_1 : decode cX6_putSetting 1 = .ok (.i2l, 1) := by decide +kernel
theorem dX6_putSetting_2 : decode cX6_putSetting 2 = .ok (.lconst 0, 1) := by decide +kernel
theorem dX6_putSetting_3 : decode cX6_putSetting 3 = .ok (.iload_n 3, 1) := by decide +kernel
theorem dX6_putSetting_4 : decode cX6_putSetting 4 = .ok (.i2l, 1) := by decide +kernel
theorem dX6_putSetting_5 : decode cX6_putSetting 5 = .ok (.invokestatic 69, 3) := by decide +kernel
theorem dX6_putSetting_8 : decode cX6_putSetting 8 = .ok (.ifCond .ne 6, 3) := by decide +kernel
theorem dX6_putSetting_11 : decode cX6_putSetting 11 = .ok (.ldc 44, 2) := by decide +kernel
theorem dX6_putSetting_13 : decode cX6_putSetting 13 = .ok (.ireturn, 1) := by decide +kernel
theorem dX6_putSetting_14 : decode cX6_putSetting 14 = .ok (.aload_n 0, 1) := by decide +kernel
theorem dX6_putSetting_15 : decode cX6_putSetting 15 = .ok (.getfield 7, 3) := by decide +kernel
theorem dX6_putSetting_18 : decode cX6_putSetting 18 = .ok (.iload_n 1, 1) := by decide +kernel
theorem dX6_putSetting_19 : decode cX6_putSetting 19 = .ok (.laload, 1) := by decide +kernel
theorem dX6_putSetting_20 : decode cX6_putSetting 20 = .ok (.l2i, 1) := by decide +kernel
theorem dX6_putSetting_21 : decode cX6_putSetting 21 = .ok (.istore 4, 2) := by decide +kernel
theorem dX6_putSetting_23 : decode cX6_putSetting 23 = .ok (.aload_n 0, 1) := by decide +kernel
