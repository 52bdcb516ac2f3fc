theorem dX1_load_35 : decode cX1_load 35 = .ok (.iload_n 1, 1) := by decide +kernel
theorem dX1_load_36 : decode cX1_load 36 = .ok (.idiv, 1) := by decide +kernel
theorem dX1_load_37 : decode cX1_load 37 = .ok (.istore 4, 2) := by decide +kernel
theorem dX1_load_39 : decode cX1_load 39 = .ok (.aload_n 0, 1) := by decide +kernel
theorem dX1_load_40 : decode cX1_load 40 = .ok (.getfield 21, 3) := by decide +kernel
theorem dX1_load_43 : decode cX1_load 43 = .ok (.iload_n 1, 1) := by decide +kernel
theorem dX1_load_44 : decode cX1_load 44 = .ok (.invokestatic 136, 3) := by decide +kernel
theorem dX1_load_47 : decode cX1_load 47 = .ok (.iload_n 3, 1) := by decide +kernel
theorem dX1_load_48 : decode cX1_load 48 = .ok (.invokestatic 139, 3) := by decide +kernel
theorem dX1_load_51 : decode cX1_load 51 = .ok (.iload 4, 2) := by decide +kernel
theorem dX1_load_53 : decode cX1_load 53 = .ok (.invokevirtual 142, 3) := by decide +kernel
theorem dX1_load_56 : decode cX1_load 56 = .ok (.iload 4, 2) := by decide +kernel
theorem dX1_load_58 : decode cX1_load 58 = .ok (.ireturn, 1) := by decide +kernel
set_option maxRecDepth 20000 in
theorem ggX1_tell_X1_middle : GoodIn wsX1_tell wsX1_middle := goodIn_r _ [17, 3, 4, 1, 2, 18, 19, 20, 21, 22, 23, 24, 25, 26, 27, 28, 29, 30, 31, 32, 33, 34, 35, 36] (by decide +kernel) (by decide +kernel)
set_option maxRecDepth 20000 in
theorem gX1_tell_X1_middle : GoodIn wsX1_tell (wsV RX1 105 RX1 yX1_middle wsX1_middle) := goodIn_app (goodIn_of _ (by decide +kernel)) ggX1_tell_X1_middle
theorem dX1_tell_0 : decode cX1_tell 0 = .ok (.iload_n 1, 1) := by decide +kernel
theorem dX1_tell_1 : decode cX1_tell 1 = .ok (.tableswitch 123 0 11 #[63, 68, 73, 78, 83, 88, 93, 98, 103, 108, 113, 118], 63) := by decide +kernel
theorem dX1_tell_64 : decode cX1_tell 64 = .ok (.aload_n 0, 1) := by decide +kernel
theorem dX1_tell_65 : decode cX1_tell 65 = .ok (.getfield 58, 3) := by decide +kernel
theorem dX1_tell_68 : decode cX1_tell 68 = .ok (.ireturn, 1) := by decide +kernel
theorem dX1_tell_69 : decode cX1_tell 69 = .ok (.aload_n 0, 1) := by decide +kernel
theorem dX1_tell_70 : decode cX1_tell 70 = .ok (.getfield 25, 3) := by decide +kernel
theorem dX1_tell_73 : decode cX1_tell 73 = .ok (.ireturn, 1) := by decide +kernel
theorem dX1_tell_74 : decode cX1_tell 74 = .ok (.aload_n 0, 1) := by decide +kernel
theorem dX1_tell_75 : decode cX1_tell 75 = .ok (.getfield 29, 3) := by decide +kernel
theorem dX1_tell_78 : decode cX1_tell 78 = .ok (.ireturn, 1) := by decide +kernel
theorem dX1_tell_79 : decode cX1_tell 79 = .ok (.aload_n 0, 1) := by decide +kernel
theorem dX1_tell_80 : decode cX1_tell 80 = .ok (.getfield 32, 3) := by decide +kernel
theorem dX1_tell_83 : decode cX1_tell 83 = .ok (.ireturn, 1) := by decide +kernel
theorem dX1_tell_84 : decode cX1_tell 84 = .ok (.aload_n 0, 1) := by decide +kernel
theorem dX1_tell_85 : decode cX1_tell 85 = .ok (.invokevirtual 105, 3) := by decide +kernel
theorem dX1_tell_88 : decode cX1_tell 88 = .ok (.ireturn, 1) := by decide +kernel
theorem dX1_tell_89 : decode cX1_tell 89 = .ok (.aload_n 0, 1) := by decide +kernel
theorem dX1_tell_90 : decode cX1_tell 90 = .ok (.getfield 48, 3) := by decide +kernel
theorem dX1_tell_93 : decode cX1_tell 93 = .ok (.ireturn, 1) := by decide +kernel
theorem dX1_tell_94 : decode cX1_tell 94 = .ok (.aload_n 0, 1) := by decide +kernel
theorem dX1_tell_95 : decode cX1_tell 95 = .ok (.getfield 61, 3) := by decide +kernel
theorem dX1_tell_98 : decode cX1_tell 98 = .ok (.ireturn, 1) := by decide +kernel
theorem dX1_tell_99 : decode cX1_tell 99 = .ok (.aload_n 0, 1) := by decide +kernel
theorem dX1_tell_100 : decode cX1_tell 100 = .ok (.getfield 64, 3) := by decide +kernel
theorem dX1_tell_103 : decode cX1_tell 103 = .ok (.ireturn, 1) := by decide +kernel
theorem dX1_tell_104 : decode cX1_tell 104 = .ok (.aload_n 0, 1) := by decide +kernel
theorem dX1_tell_105 : decode cX1_tell 105 = .ok (.getfield 70, 3) := by decide +kernel
theorem dX1_tell_108 : decode cX1_tell 108 = .ok (.ireturn, 1) := by decide +kernel
theorem dX1_tell_109 : decode cX1_tell 109 = .ok (.aload_n 0, 1) := by decide +kernel
theorem dX1_tell_110 : decode cX1_tell 110 = .ok (.getfield 67, 3) := by decide +kernel
theorem dX1_tell_113 : decode cX1_tell 113 = .ok (.ireturn, 1) := by decide +kernel
theorem dX1_tell_114 : decode cX1_tell 114 = .ok (.aload_n 0, 1) := by decide +kernel
theorem dX1_tell_115 : decode cX1_tell 115 = .ok (.getfield 42, 3) := by decide +kernel
theorem dX1_tell_118 : decode cX1_tell 118 = .ok (.ireturn, 1) := by decide +kernel
theorem dX1_tell_119 : decode cX1_tell 119 = .ok (.aload_n 0, 1) := by decide +kernel
theorem dX1_tell_120 : decode cX1_tell 120 = .ok (.getfield 45, 3) := by decide +kernel
theorem dX1_tell_123 : decode cX1_tell 123 = .ok (.ireturn, 1) := by decide +kernel
theorem dX1_tell_124 : decode cX1_tell 124 = .ok (.ldc 77, 2) := by decide +kernel
theorem dX1_tell_126 : decode cX1_tell 126 = .ok (.ireturn, 1) := by decide +kernel
set_option maxRecDepth 20000 in
theorem ggX1_restVoltage_X2_voltsAt : GoodIn wsX1_restVoltage wsX2_voltsAt := goodIn_r _ [6, 7, 8, 24] (by decide +kernel) (by decide +kernel)
set_option maxRecDepth 20000 in
theorem gX1_restVoltage_X2_voltsAt : GoodIn wsX1_restVoltage (wsV RX1 132 RX2 yX2_voltsAt wsX2_voltsAt) := goodIn_app (goodIn_of _ (by decide +kernel)) ggX1_restVoltage_X2_voltsAt
theorem dX1_restVoltage_0 : decode cX1_restVoltage 0 = .ok (.aload_n 0, 1) := by decide +kernel
theorem dX1_restVoltage_1 : decode cX1_restVoltage 1 = .ok (.getfield 12, 3) := by decide +kernel
theorem dX1_restVoltage_4 : decode cX1_restVoltage 4 = .ok (.iload_n 1, 1) := by decide +kernel
theorem dX1_restVoltage_5 : decode cX1_restVoltage 5 = .ok (.invokevirtual 132, 3) := by decide +kernel
theorem dX1_restVoltage_8 : decode cX1_restVoltage 8 = .ok (.ireturn, 1) := by decide +kernel
set_option maxRecDepth 20000 in
theorem ggX1_restBound_X1_isVoltage : GoodIn wsX1_restBound wsX1_isVoltage := goodIn_r _ [15, 16, 17, 18] (by decide +kernel) (by decide +kernel)
set_option maxRecDepth 20000 in
theorem gX1_restBound_X1_isVoltage : GoodIn wsX1_restBound (va_wsS RX1 109 yX1_isVoltage wsX1_isVoltage) := goodIn_app (goodIn_of _ (by decide +kernel)) ggX1_restBound_X1_isVoltage
set_option maxRecDepth 20000 in
theorem ggX1_restBound_X5_within : GoodIn wsX1_restBound wsX5_within := goodIn_r _ [18] (by decide +kernel) (by decide +kernel)
set_option maxRecDepth 20000 in
theorem gX1_restBound_X5_within_n81 : GoodIn wsX1_restBound (wsX5_within) := ggX1_restBound_X5_within
set_option maxRecDepth 20000 in
theorem ggX1_restBound_X2_leastReaching : GoodIn wsX1_restBound wsX2_leastReaching := goodIn_r _ [23, 24, 25, 26, 27, 22, 28, 29, 30, 31, 32, 33, 34, 54] (by decide +kernel) (by decide +kernel)
set_option maxRecDepth 20000 in
theorem gX1_restBound_X2_leastReaching : GoodIn wsX1_restBound (wsV RX1 146 RX2 yX2_leastReaching wsX2_leastReaching) := goodIn_app (goodIn_of _ (by decide +kernel)) ggX1_restBound_X2_leastReaching
set_option maxRecDepth 20000 in
theorem ggX1_restBound_X2_greatestWithin : GoodIn wsX1_restBound wsX2_greatestWithin := goodIn_r _ [38, 24, 25, 26, 27, 22, 28, 29, 30, 31, 32, 33, 34, 54] (by decide +kernel) (by decide +kernel)
set_option maxRecDepth 20000 in
theorem gX1_restBound_X2_greatestWithin : GoodIn wsX1_restBound (wsV RX1 149 RX2 yX2_greatestWithin wsX2_greatestWithin) := goodIn_app (goodIn_of _ (by decide +kernel)) ggX1_restBound_X2_greatestWithin
theorem dX1_restBound_0 : decode cX1_restBound 0 = .ok (.iload_n 1, 1) := by decide +kernel
theorem dX1_restBound_1 : decode cX1_restBound 1 = .ok (.invokestatic 109, 3) := by decide +kernel
theorem dX1_restBound_4 : decode cX1_restBound 4 = .ok (.ifCond .eq 12, 3) := by decide +kernel
theorem dX1_restBound_7 : decode cX1_restBound 7 = .ok (.iload_n 2, 1) := by decide +kernel
theorem dX1_restBound_8 : decode cX1_restBound 8 = .ok (.iconst 0, 1) := by decide +kernel
theorem dX1_restBound_9 : decode cX1_restBound 9 = .ok (.iconst 1, 1) := by decide +kernel
theorem dX1_restBound_10 : decode cX1_restBound 10 = .ok (.invokestatic 81, 3) := by decide +kernel
theorem dX1_restBound_13 : decode cX1_restBound 13 = .ok (.ifCond .ne 6, 3) := by decide +kernel
theorem dX1_restBound_16 : decode cX1_restBound 16 = .ok (.ldc 77, 2) := by decide +kernel
theorem dX1_restBound_18 : decode cX1_restBound 18 = .ok (.ireturn, 1) := by decide +kernel
theorem dX1_restBound_19 : decode cX1_restBound 19 = .ok (.aload_n 0, 1) := by decide +kernel
theorem dX1_restBound_20 : decode cX1_restBound 20 = .ok (.getfield 12, 3) := by decide +kernel
theorem dX1_restBound_23 : decode cX1_restBound 23 = .ok (.iload_n 1, 1) := by decide +kernel
theorem dX1_restBound_24 : decode cX1_restBound 24 = .ok (.aload_n 0, 1) := by decide +kernel
theorem dX1_restBound_25 : decode cX1_restBound 25 = .ok (.getfield 38, 3) := by decide +kernel
theorem dX1_restBound_28 : decode cX1_restBound 28 = .ok (.isub, 1) := by decide +kernel
theorem dX1_restBound_29 : decode cX1_restBound 29 = .ok (.invokevirtual 146, 3) := by decide +kernel
theorem dX1_restBound_32 : decode cX1_restBound 32 = .ok (.istore_n 3, 1) := by decide +kernel
theorem dX1_restBound_33 : decode cX1_restBound 33 = .ok (.aload_n 0, 1) := by decide +kernel
theorem dX1_restBound_34 : decode cX1_restBound 34 = .ok (.getfield 12, 3) := by decide +kernel
theorem dX1_restBound_37 : decode cX1_restBound 37 = .ok (.iload_n 1, 1) := by decide +kernel
theorem dX1_restBound_38 : decode cX1_restBound 38 = .ok (.aload_n 0, 1) := by decide +kernel
theorem dX1_restBound_39 : decode cX1_restBound 39 = .ok (.getfield 38, 3) := by decide +kernel
theorem dX1_restBound_42 : decode cX1_restBound 42 = .ok (.iadd, 1) := by decide +kernel
theorem dX1_restBound_43 : decode cX1_restBound 43 = .ok (.invokevirtual 149, 3) := by decide +kernel
theorem dX1_restBound_46 : decode cX1_restBound 46 = .ok (.istore 4, 2) := by decide +kernel
theorem dX1_restBound_48 : decode cX1_restBound 48 = .ok (.iload_n 3, 1) := by decide +kernel
theorem dX1_restBound_49 : decode cX1_restBound 49 = .ok (.ldc 41, 2) := by decide +kernel
theorem dX1_restBound_51 : decode cX1_restBound 51 = .ok (.if_icmp .eq 10, 3) := by decide +kernel
theorem dX1_restBound_54 : decode cX1_restBound 54 = .ok (.iload 4, 2) := by decide +kernel
theorem dX1_restBound_56 : decode cX1_restBound 56 = .ok (.ldc 41, 2) := by decide +kernel
theorem dX1_restBound_58 : decode cX1_restBound 58 = .ok (.if_icmp .ne 14, 3) := by decide +kernel
theorem dX1_restBound_61 : decode cX1_restBound 61 = .ok (.iload_n 2, 1) := by decide +kernel
theorem dX1_restBound_62 : decode cX1_restBound 62 = .ok (.ifCond .ne 7, 3) := by decide +kernel
theorem dX1_restBound_65 : decode cX1_restBound 65 = .ok (.iload_n 3, 1) := by decide +kernel
theorem dX1_restBound_66 : decode cX1_restBound 66 = .ok (.goto 5, 3) := by decide +kernel
theorem dX1_restBound_69 : decode cX1_restBound 69 = .ok (.iload 4, 2) := by decide +kernel
theorem dX1_restBound_71 : decode cX1_restBound 71 = .ok (.ireturn, 1) := by decide +kernel
theorem dX1_restBound_72 : decode cX1_restBound 72 = .ok (.iload_n 2, 1) := by decide +kernel
theorem dX1_restBound_73 : decode cX1_restBound 73 = .ok (.ifCond .ne 12, 3) := by decide +kernel
theorem dX1_restBound_76 : decode cX1_restBound 76 = .ok (.iload_n 3, 1) := by decide +kernel
theorem dX1_restBound_77 : decode cX1_restBound 77 = .ok (.iload 4, 2) := by decide +kernel
theorem dX1_restBound_79 : decode cX1_restBound 79 = .ok (.invokestatic 94, 3) := by decide +kernel
theorem dX1_restBound_82 : decode cX1_restBound 82 = .ok (.goto 9, 3) := by decide +kernel
theorem dX1_restBound_85 : decode cX1_restBound 85 = .ok (.iload_n 3, 1) := by decide +kernel
theorem dX1_restBound_86 : decode cX1_restBound 86 = .ok (.iload 4, 2) := by decide +kernel
theorem dX1_restBound_88 : decode cX1_restBound 88 = .ok (.invokestatic 89, 3) := by decide +kernel
theorem dX1_restBound_91 : decode cX1_restBound 91 = .ok (.ireturn, 1) := by decide +kernel
set_option maxRecDepth 20000 in
theorem ggX1_tellBand_X5_within : GoodIn wsX1_tellBand wsX5_within := goodIn_r _ [5] (by decide +kernel) (by decide +kernel)
set_option maxRecDepth 20000 in
theorem gX1_tellBand_X5_within_n81 : GoodIn wsX1_tellBand (wsX5_within) := ggX1_tellBand_X5_within
set_option maxRecDepth 20000 in
theorem ggX1_tellBand_X0_resistance : GoodIn wsX1_tellBand wsX0_resistance := goodIn_r _ [10, 11, 12, 13, 14, 15, 16, 9, 17, 3, 4, 5, 37, 38] (by decide +kernel) (by decide +kernel)
set_option maxRecDepth 20000 in
theorem gX1_tellBand_X0_resistance : GoodIn wsX1_tellBand (wsV RX1 152 RX0 yX0_resistance wsX0_resistance) := goodIn_app (goodIn_of _ (by decide +kernel)) ggX1_tellBand_X0_resistance
set_option maxRecDepth 20000 in
theorem ggX1_tellBand_X0_howMany : GoodIn wsX1_tellBand wsX0_howMany := goodIn_r _ [21, 12, 11, 15, 16, 9, 17, 3, 4, 5, 37, 38] (by decide +kernel) (by decide +kernel)
set_option maxRecDepth 20000 in
theorem gX1_tellBand_X0_howMany : GoodIn wsX1_tellBand (wsV RX1 155 RX0 yX0_howMany wsX0_howMany) := goodIn_app (goodIn_of _ (by decide +kernel)) ggX1_tellBand_X0_howMany
theorem dX1_tellBand_0 : decode cX1_tellBand 0 = .ok (.iload_n 3, 1) := by decide +kernel
theorem dX1_tellBand_1 : decode cX1_tellBand 1 = .ok (.iconst 0, 1) := by decide +kernel
theorem dX1_tellBand_2 : decode cX1_tellBand 2 = .ok (.iconst 1, 1) := by decide +kernel
theorem dX1_tellBand_3 : decode cX1_tellBand 3 = .ok (.invokestatic 81, 3) := by decide +kernel
theorem dX1_tellBand_6 : decode cX1_tellBand 6 = .ok (.ifCond .ne 6, 3) := by decide +kernel
theorem dX1_tellBand_9 : decode cX1_tellBand 9 = .ok (.ldc 77, 2) := by decide +kernel
theorem dX1_tellBand_11 : decode cX1_tellBand 11 = .ok (.ireturn, 1) := by decide +kernel
theorem dX1_tellBand_12 : decode cX1_tellBand 12 = .ok (.iload_n 3, 1) := by decide +kernel
theorem dX1_tellBand_13 : decode cX1_tellBand 13 = .ok (.ifCond .ne 15, 3) := by decide +kernel
theorem dX1_tellBand_16 : decode cX1_tellBand 16 = .ok (.aload_n 0, 1) := by decide +kernel
theorem dX1_tellBand_17 : decode cX1_tellBand 17 = .ok (.getfield 21, 3) := by decide +kernel
theorem dX1_tellBand_20 : decode cX1_tellBand 20 = .ok (.iload_n 1, 1) := by decide +kernel
theorem dX1_tellBand_21 : decode cX1_tellBand 21 = .ok (.iload_n 2, 1) := by decide +kernel
theorem dX1_tellBand_22 : decode cX1_tellBand 22 = .ok (.invokevirtual 152, 3) := by decide +kernel
theorem dX1_tellBand_25 : decode cX1_tellBand 25 = .ok (.goto 12, 3) := by decide +kernel
theorem dX1_tellBand_28 : decode cX1_tellBand 28 = .ok (.aload_n 0, 1) := by decide +kernel
theorem dX1_tellBand_29 : decode cX1_tellBand 29 = .ok (.getfield 21, 3) := by decide +kernel
theorem dX1_tellBand_32 : decode cX1_tellBand 32 = .ok (.iload_n 1, 1) := by decide +kernel
theorem dX1_tellBand_33 : decode cX1_tellBand 33 = .ok (.iload_n 2, 1) := by decide +kernel
theorem dX1_tellBand_34 : decode cX1_tellBand 34 = .ok (.invokevirtual 155, 3) := by decide +kernel
theorem dX1_tellBand_37 : decode cX1_tellBand 37 = .ok (.ireturn, 1) := by decide +kernel
set_option maxRecDepth 20000 in
theorem ggX1_usedBands_X0_used : GoodIn wsX1_usedBands wsX0_used := goodIn_r _ [6, 7, 23, 24] (by decide +kernel) (by decide +kernel)
set_option maxRecDepth 20000 in
theorem gX1_usedBands_X0_used : GoodIn wsX1_usedBands (wsV RX1 158 RX0 yX0_used wsX0_used) := goodIn_app (goodIn_of _ (by decide +kernel)) ggX1_usedBands_X0_used
theorem dX1_usedBands_0 : decode cX1_usedBands 0 = .ok (.aload_n 0, 1) := by decide +kernel
theorem dX1_usedBands_1 : decode cX1_usedBands 1 = .ok (.getfield 21, 3) := by decide +kernel
theorem dX1_usedBands_4 : decode cX1_usedBands 4 = .ok (.invokevirtual 158, 3) := by decide +kernel
theorem dX1_usedBands_7 : decode cX1_usedBands 7 = .ok (.ireturn, 1) := by decide +kernel
set_option maxRecDepth 20000 in
theorem ggX1_lasting_X5_within : GoodIn wsX1_lasting wsX5_within := goodIn_r _ [8] (by decide +kernel) (by decide +kernel)
set_option maxRecDepth 20000 in
theorem gX1_lasting_X5_within_n81 : GoodIn wsX1_lasting (wsX5_within) := ggX1_lasting_X5_within
theorem dX1_lasting_0 : decode cX1_lasting 0 = .ok (.iload_n 1, 1) := by decide +kernel
theorem dX1_lasting_1 : decode cX1_lasting 1 = .ok (.iconst 1, 1) := by decide +kernel
theorem dX1_lasting_2 : decode cX1_lasting 2 = .ok (.bipush 99, 2) := by decide +kernel
theorem dX1_lasting_4 : decode cX1_lasting 4 = .ok (.invokestatic 81, 3) := by decide +kernel
theorem dX1_lasting_7 : decode cX1_lasting 7 = .ok (.ifCond .eq 12, 3) := by decide +kernel
theorem dX1_lasting_10 : decode cX1_lasting 10 = .ok (.iload_n 2, 1) := by decide +kernel
theorem dX1_lasting_11 : decode cX1_lasting 11 = .ok (.iconst 0, 1) := by decide +kernel
theorem dX1_lasting_12 : decode cX1_lasting 12 = .ok (.iconst 1, 1) := by decide +kernel
theorem dX1_lasting_13 : decode cX1_lasting 13 = .ok (.invokestatic 81, 3) := by decide +kernel
theorem dX1_lasting_16 : decode cX1_lasting 16 = .ok (.ifCond .ne 6, 3) := by decide +kernel
theorem dX1_lasting_19 : decode cX1_lasting 19 = .ok (.ldc 77, 2) := by decide +kernel
theorem dX1_lasting_21 : decode cX1_lasting 21 = .ok (.ireturn, 1) := by decide +kernel
theorem dX1_lasting_22 : decode cX1_lasting 22 = .ok (.iload_n 2, 1) := by decide +kernel
theorem dX1_lasting_23 : decode cX1_lasting 23 = .ok (.ifCond .ne 15, 3) := by decide +kernel
theorem dX1_lasting_26 : decode cX1_lasting 26 = .ok (.aload_n 0, 1) := by decide +kernel
theorem dX1_lasting_27 : decode cX1_lasting 27 = .ok (.getfield 58, 3) := by decide +kernel
theorem dX1_lasting_30 : decode cX1_lasting 30 = .ok (.iload_n 1, 1) := by decide +kernel
theorem dX1_lasting_31 : decode cX1_lasting 31 = .ok (.aload_n 0, 1) := by decide +kernel
theorem dX1_lasting_32 : decode cX1_lasting 32 = .ok (.getfield 35, 3) := by decide +kernel
theorem dX1_lasting_35 : decode cX1_lasting 35 = .ok (.iadd, 1) := by decide +kernel
theorem dX1_lasting_36 : decode cX1_lasting 36 = .ok (.idiv, 1) := by decide +kernel
theorem dX1_lasting_37 : decode cX1_lasting 37 = .ok (.ireturn, 1) := by decide +kernel
theorem dX1_lasting_38 : decode cX1_lasting 38 = .ok (.iload_n 1, 1) := by decide +kernel
theorem dX1_lasting_39 : decode cX1_lasting 39 = .ok (.aload_n 0, 1) := by decide +kernel
theorem dX1_lasting_40 : decode cX1_lasting 40 = .ok (.getfield 35, 3) := by decide +kernel
theorem dX1_lasting_43 : decode cX1_lasting 43 = .ok (.if_icmp .gt 8, 3) := by decide +kernel
theorem dX1_lasting_46 : decode cX1_lasting 46 = .ok (.ldc 41, 2) := by decide +kernel
theorem dX1_lasting_48 : decode cX1_lasting 48 = .ok (.goto 14, 3) := by decide +kernel
theorem dX1_lasting_51 : decode cX1_lasting 51 = .ok (.aload_n 0, 1) := by decide +kernel
theorem dX1_lasting_52 : decode cX1_lasting 52 = .ok (.getfield 25, 3) := by decide +kernel
theorem dX1_lasting_55 : decode cX1_lasting 55 = .ok (.iload_n 1, 1) := by decide +kernel
theorem dX1_lasting_56 : decode cX1_lasting 56 = .ok (.aload_n 0, 1) := by decide +kernel
theorem dX1_lasting_57 : decode cX1_lasting 57 = .ok (.getfield 35, 3) := by decide +kernel
theorem dX1_lasting_60 : decode cX1_lasting 60 = .ok (.isub, 1) := by decide +kernel
theorem dX1_lasting_61 : decode cX1_lasting 61 = .ok (.idiv, 1) := by decide +kernel
theorem dX1_lasting_62 : decode cX1_lasting 62 = .ok (.ireturn, 1) := by decide +kernel
set_option maxRecDepth 20000 in
theorem ggX1_loadedVoltage_X1_isLoad : GoodIn wsX1_loadedVoltage wsX1_isLoad := goodIn_r _ [9, 10, 11, 12] (by decide +kernel) (by decide +kernel)
set_option maxRecDepth 20000 in
theorem gX1_loadedVoltage_X1_isLoad : GoodIn wsX1_loadedVoltage (va_wsS RX1 129 yX1_isLoad wsX1_isLoad) := goodIn_app (goodIn_of _ (by decide +kernel)) ggX1_loadedVoltage_X1_isLoad
set_option maxRecDepth 20000 in
theorem ggX1_loadedVoltage_X1_middle : GoodIn wsX1_loadedVoltage wsX1_middle := goodIn_r _ [16, 17, 18, 19, 20, 21, 22, 23, 24, 50, 51, 52, 53, 54, 55, 56, 57, 58, 59, 60, 61, 62, 63, 64] (by decide +kernel) (by decide +kernel)
set_option maxRecDepth 20000 in
theorem gX1_loadedVoltage_X1_middle : GoodIn wsX1_loadedVoltage (wsV RX1 105 RX1 yX1_middle wsX1_middle) := goodIn_app (goodIn_of _ (by decide +kernel)) ggX1_loadedVoltage_X1_middle
set_option maxRecDepth 20000 in
theorem ggX1_loadedVoltage_X1_signOf : GoodIn wsX1_loadedVoltage wsX1_signOf := goodIn_r _ [27] (by decide +kernel) (by decide +kernel)
set_option maxRecDepth 20000 in
theorem gX1_loadedVoltage_X1_signOf : GoodIn wsX1_loadedVoltage (va_wsS RX1 136 yX1_signOf wsX1_signOf) := goodIn_app (goodIn_of _ (by decide +kernel)) ggX1_loadedVoltage_X1_signOf
set_option maxRecDepth 20000 in
theorem ggX1_loadedVoltage_X1_tenthOf : GoodIn wsX1_loadedVoltage wsX1_tenthOf := goodIn_r _ [30] (by decide +kernel) (by decide +kernel)
set_option maxRecDepth 20000 in
theorem gX1_loadedVoltage_X1_tenthOf : GoodIn wsX1_loadedVoltage (va_wsS RX1 139 yX1_tenthOf wsX1_tenthOf) := goodIn_app (goodIn_of _ (by decide +kernel)) ggX1_loadedVoltage_X1_tenthOf
set_option maxRecDepth 20000 in
theorem ggX1_loadedVoltage_X0_resistance : GoodIn wsX1_loadedVoltage wsX0_resistance := goodIn_r _ [35, 36, 37, 38, 39, 40, 41, 34, 42, 10, 11, 12, 65, 66] (by decide +kernel) (by decide +kernel)
set_option maxRecDepth 20000 in
theorem gX1_loadedVoltage_X0_resistance : GoodIn wsX1_loadedVoltage (wsV RX1 152 RX0 yX0_resistance wsX0_resistance) := goodIn_app (goodIn_of _ (by decide +kernel)) ggX1_loadedVoltage_X0_resistance
set_option maxRecDepth 20000 in
theorem ggX1_loadedVoltage_X2_voltsAt : GoodIn wsX1_loadedVoltage wsX2_voltsAt := goodIn_r _ [47, 48, 49, 67] (by decide +kernel) (by decide +kernel)
set_option maxRecDepth 20000 in
theorem gX1_loadedVoltage_X2_voltsAt : GoodIn wsX1_loadedVoltage (wsV RX1 132 RX2 yX2_voltsAt wsX2_voltsAt) := goodIn_app (goodIn_of _ (by decide +kernel)) ggX1_loadedVoltage_X2_voltsAt
theorem dX1_loadedVoltage_0 : decode cX1_loadedVoltage 0 = .ok (.iload_n 1, 1) := by decide +kernel
theorem dX1_loadedVoltage_1 : decode cX1_loadedVoltage 1 = .ok (.invokestatic 129, 3) := by decide +kernel
theorem dX1_loadedVoltage_4 : decode cX1_loadedVoltage 4 = .ok (.ifCond .ne 6, 3) := by decide +kernel
theorem dX1_loadedVoltage_7 : decode cX1_loadedVoltage 7 = .ok (.ldc 77, 2) := by decide +kernel
theorem dX1_loadedVoltage_9 : decode cX1_loadedVoltage 9 = .ok (.ireturn, 1) := by decide +kernel
theorem dX1_loadedVoltage_10 : decode cX1_loadedVoltage 10 = .ok (.aload_n 0, 1) := by decide +kernel
theorem dX1_loadedVoltage_11 : decode cX1_loadedVoltage 11 = .ok (.invokevirtual 105, 3) := by decide +kernel
theorem dX1_loadedVoltage_14 : decode cX1_loadedVoltage 14 = .ok (.istore_n 2, 1) := by decide +kernel
theorem dX1_loadedVoltage_15 : decode cX1_loadedVoltage 15 = .ok (.aload_n 0, 1) := by decide +kernel
theorem dX1_loadedVoltage_16 : decode cX1_loadedVoltage 16 = .ok (.getfield 21, 3) := by decide +kernel
theorem dX1_loadedVoltage_19 : decode cX1_loadedVoltage 19 = .ok (.iload_n 1, 1) := by decide +kernel
theorem dX1_loadedVoltage_20 : decode cX1_loadedVoltage 20 = .ok (.invokestatic 136, 3) := by decide +kernel
theorem dX1_loadedVoltage_23 : decode cX1_loadedVoltage 23 = .ok (.iload_n 2, 1) := by decide +kernel
theorem dX1_loadedVoltage_24 : decode cX1_loadedVoltage 24 = .ok (.invokestatic 139, 3) := by decide +kernel
theorem dX1_loadedVoltage_27 : decode cX1_loadedVoltage 27 = .ok (.invokevirtual 152, 3) := by decide +kernel
theorem dX1_loadedVoltage_30 : decode cX1_loadedVoltage 30 = .ok (.istore_n 3, 1) := by decide +kernel
theorem dX1_loadedVoltage_31 : decode cX1_loadedVoltage 31 = .ok (.iload_n 3, 1) := by decide +kernel
theorem dX1_loadedVoltage_32 : decode cX1_loadedVoltage 32 = .ok (.ldc 41, 2) := by decide +kernel
theorem dX1_loadedVoltage_34 : decode cX1_loadedVoltage 34 = .ok (.if_icmp .ne 6, 3) := by decide +kernel
theorem dX1_loadedVoltage_37 : decode cX1_loadedVoltage 37 = .ok (.ldc 97, 2) := by decide +kernel
theorem dX1_loadedVoltage_39 : decode cX1_loadedVoltage 39 = .ok (.ireturn, 1) := by decide +kernel
theorem dX1_loadedVoltage_40 : decode cX1_loadedVoltage 40 = .ok (.aload_n 0, 1) := by decide +kernel
theorem dX1_loadedVoltage_41 : decode cX1_loadedVoltage 41 = .ok (.getfield 12, 3) := by decide +kernel
theorem dX1_loadedVoltage_44 : decode cX1_loadedVoltage 44 = .ok (.iload_n 2, 1) := by decide +kernel
theorem dX1_loadedVoltage_45 : decode cX1_loadedVoltage 45 = .ok (.invokevirtual 132, 3) := by decide +kernel
theorem dX1_loadedVoltage_48 : decode cX1_loadedVoltage 48 = .ok (.iload_n 1, 1) := by decide +kernel
theorem dX1_loadedVoltage_49 : decode cX1_loadedVoltage 49 = .ok (.iload_n 3, 1) := by decide +kernel
theorem dX1_loadedVoltage_50 : decode cX1_loadedVoltage 50 = .ok (.imul, 1) := by decide +kernel
theorem dX1_loadedVoltage_51 : decode cX1_loadedVoltage 51 = .ok (.bipush 100, 2) := by decide +kernel
theorem dX1_loadedVoltage_53 : decode cX1_loadedVoltage 53 = .ok (.idiv, 1) := by decide +kernel
theorem dX1_loadedVoltage_54 : decode cX1_loadedVoltage 54 = .ok (.isub, 1) := by decide +kernel
theorem dX1_loadedVoltage_55 : decode cX1_loadedVoltage 55 = .ok (.ireturn, 1) := by decide +kernel
set_option maxRecDepth 20000 in
theorem ggX1_tellSetting_X5_within : GoodIn wsX1_tellSetting wsX5_within := goodIn_r _ [7] (by decide +kernel) (by decide +kernel)
set_option maxRecDepth 20000 in
theorem gX1_tellSetting_X5_within_n81 : GoodIn wsX1_tellSetting (wsX5_within) := ggX1_tellSetting_X5_within
set_option maxRecDepth 20000 in
theorem ggX1_tellSetting_X2_point : GoodIn wsX1_tellSetting wsX2_point := goodIn_r _ [12, 13, 14, 5, 6, 7, 30] (by decide +kernel) (by decide +kernel)
set_option maxRecDepth 20000 in
theorem gX1_tellSetting_X2_point : GoodIn wsX1_tellSetting (wsV RX1 161 RX2 yX2_point wsX2_point) := goodIn_app (goodIn_of _ (by decide +kernel)) ggX1_tellSetting_X2_point
theorem dX1_tellSetting_0 : decode cX1_tellSetting 0 = .ok (.iload_n 1, 1) := by decide +kernel
theorem dX1_tellSetting_1 : decode cX1_tellSetting 1 = .ok (.lookupswitch 37 #[(0, 27), (1, 32)], 27) := by decide +kernel
theorem dX1_tellSetting_28 : decode cX1_tellSetting 28 = .ok (.aload_n 0, 1) := by decide +kernel
theorem dX1_tellSetting_29 : decode cX1_tellSetting 29 = .ok (.getfield 35, 3) := by decide +kernel
theorem dX1_tellSetting_32 : decode cX1_tellSetting 32 = .ok (.ireturn, 1) := by decide +kernel
theorem dX1_tellSetting_33 : decode cX1_tellSetting 33 = .ok (.aload_n 0, 1) := by decide +kernel
theorem dX1_tellSetting_34 : decode cX1_tellSetting 34 = .ok (.getfield 38, 3) := by decide +kernel
theorem dX1_tellSetting_37 : decode cX1_tellSetting 37 = .ok (.ireturn, 1) := by decide +kernel
theorem dX1_tellSetting_38 : decode cX1_tellSetting 38 = .ok (.iload_n 1, 1) := by decide +kernel
theorem dX1_tellSetting_39 : decode cX1_tellSetting 39 = .ok (.iconst 2, 1) := by decide +kernel
theorem dX1_tellSetting_40 : decode cX1_tellSetting 40 = .ok (.bipush 12, 2) := by decide +kernel
theorem dX1_tellSetting_42 : decode cX1_tellSetting 42 = .ok (.invokestatic 81, 3) := by decide +kernel
theorem dX1_tellSetting_45 : decode cX1_tellSetting 45 = .ok (.ifCond .eq 16, 3) := by decide +kernel
theorem dX1_tellSetting_48 : decode cX1_tellSetting 48 = .ok (.aload_n 0, 1) := by decide +kernel
theorem dX1_tellSetting_49 : decode cX1_tellSetting 49 = .ok (.getfield 12, 3) := by decide +kernel
theorem dX1_tellSetting_52 : decode cX1_tellSetting 52 = .ok (.iload_n 1, 1) := by decide +kernel
theorem dX1_tellSetting_53 : decode cX1_tellSetting 53 = .ok (.iconst 2, 1) := by decide +kernel
theorem dX1_tellSetting_54 : decode cX1_tellSetting 54 = .ok (.isub, 1) := by decide +kernel
theorem dX1_tellSetting_55 : decode cX1_tellSetting 55 = .ok (.invokevirtual 161, 3) := by decide +kernel
theorem dX1_tellSetting_58 : decode cX1_tellSetting 58 = .ok (.goto 5, 3) := by decide +kernel
theorem dX1_tellSetting_61 : decode cX1_tellSetting 61 = .ok (.ldc 77, 2) := by decide +kernel
theorem dX1_tellSetting_63 : decode cX1_tellSetting 63 = .ok (.ireturn, 1) := by decide +kernel
theorem dX1_middle_0 : decode cX1_middle 0 = .ok (.aload_n 0, 1) := by decide +kernel
theorem dX1_middle_1 : decode cX1_middle 1 = .ok (.getfield 29, 3) := by decide +kernel
theorem dX1_middle_4 : decode cX1_middle 4 = .ok (.aload_n 0, 1) := by decide +kernel
theorem dX1_middle_5 : decode cX1_middle 5 = .ok (.getfield 32, 3) := by decide +kernel
theorem dX1_middle_8 : decode cX1_middle 8 = .ok (.iadd, 1) := by decide +kernel
theorem dX1_middle_9 : decode cX1_middle 9 = .ok (.istore_n 1, 1) := by decide +kernel
theorem dX1_middle_10 : decode cX1_middle 10 = .ok (.iload_n 1, 1) := by decide +kernel
theorem dX1_middle_11 : decode cX1_middle 11 = .ok (.ifCond .gt 5, 3) := by decide +kernel
theorem dX1_middle_14 : decode cX1_middle 14 = .ok (.iconst 0, 1) := by decide +kernel
theorem dX1_middle_15 : decode cX1_middle 15 = .ok (.ireturn, 1) := by decide +kernel
theorem dX1_middle_16 : decode cX1_middle 16 = .ok (.sipush 1000, 3) := by decide +kernel
theorem dX1_middle_19 : decode cX1_middle 19 = .ok (.aload_n 0, 1) := by decide +kernel
theorem dX1_middle_20 : decode cX1_middle 20 = .ok (.getfield 58, 3) := by decide +kernel
theorem dX1_middle_23 : decode cX1_middle 23 = .ok (.aload_n 0, 1) := by decide +kernel
theorem dX1_middle_24 : decode cX1_middle 24 = .ok (.getfield 25, 3) := by decide +kernel
theorem dX1_middle_27 : decode cX1_middle 27 = .ok (.iadd, 1) := by decide +kernel
theorem dX1_middle_28 : decode cX1_middle 28 = .ok (.imul, 1) := by decide +kernel
theorem dX1_middle_29 : decode cX1_middle 29 = .ok (.iload_n 1, 1) := by decide +kernel
theorem dX1_middle_30 : decode cX1_middle 30 = .ok (.idiv, 1) := by decide +kernel
theorem dX1_middle_31 : decode cX1_middle 31 = .ok (.sipush 1000, 3) := by decide +kernel
theorem dX1_middle_34 : decode cX1_middle 34 = .ok (.invokestatic 94, 3) := by decide +kernel
theorem dX1_middle_37 : decode cX1_middle 37 = .ok (.ireturn, 1) := by decide +kernel
theorem dX1_signOf_0 : decode cX1_signOf 0 = .ok (.iload_n 0, 1) := by decide +kernel
theorem dX1_signOf_1 : decode cX1_signOf 1 = .ok (.ifCond .le 7, 3) := by decide +kernel
theorem dX1_signOf_4 : decode cX1_signOf 4 = .ok (.iconst 0, 1) := by decide +kernel
theorem dX1_signOf_5 : decode cX1_signOf 5 = .ok (.goto 4, 3) := by decide +kernel
theorem dX1_signOf_8 : decode cX1_signOf 8 = .ok (.iconst 1, 1) := by decide +kernel
theorem dX1_signOf_9 : decode cX1_signOf 9 = .ok (.ireturn, 1) := by decide +kernel
theorem dX1_tenthOf_0 : decode cX1_tenthOf 0 = .ok (.iload_n 0, 1) := by decide +kernel
theorem dX1_tenthOf_1 : decode cX1_tenthOf 1 = .ok (.bipush 100, 2) := by decide +kernel
theorem dX1_tenthOf_3 : decode cX1_tenthOf 3 = .ok (.idiv, 1) := by decide +kernel
theorem dX1_tenthOf_4 : decode cX1_tenthOf 4 = .ok (.ireturn, 1) := by decide +kernel
set_option maxRecDepth 20000 in
theorem ggX1_isLoad_X5_within : GoodIn wsX1_isLoad wsX5_within := goodIn_r _ [3] (by decide +kernel) (by decide +kernel)
set_option maxRecDepth 20000 in
theorem gX1_isLoad_X5_within_n81 : GoodIn wsX1_isLoad (wsX5_within) := ggX1_isLoad_X5_within
theorem dX1_isLoad_0 : decode cX1_isLoad 0 = .ok (.iload_n 0, 1) := by decide +kernel
theorem dX1_isLoad_1 : decode cX1_isLoad 1 = .ok (.ifCond .eq 18, 3) := by decide +kernel
theorem dX1_isLoad_4 : decode cX1_isLoad 4 = .ok (.iload_n 0, 1) := by decide +kernel
theorem dX1_isLoad_5 : decode cX1_isLoad 5 = .ok (.bipush (-99), 2) := by decide +kernel
theorem dX1_isLoad_7 : decode cX1_isLoad 7 = .ok (.bipush 99, 2) := by decide +kernel
theorem dX1_isLoad_9 : decode cX1_isLoad 9 = .ok (.invokestatic 81, 3) := by decide +kernel
theorem dX1_isLoad_12 : decode cX1_isLoad 12 = .ok (.ifCond .eq 7, 3) := by decide +kernel
theorem dX1_isLoad_15 : decode cX1_isLoad 15 = .ok (.iconst 1, 1) := by decide +kernel
theorem dX1_isLoad_16 : decode cX1_isLoad 16 = .ok (.goto 4, 3) := by decide +kernel
theorem dX1_isLoad_19 : decode cX1_isLoad 19 = .ok (.iconst 0, 1) := by decide +kernel
theorem dX1_isLoad_20 : decode cX1_isLoad 20 = .ok (.ireturn, 1) := by decide +kernel
set_option maxRecDepth 20000 in
theorem ggX1_isVoltage_X5_within : GoodIn wsX1_isVoltage wsX5_within := goodIn_r _ [3] (by decide +kernel) (by decide +kernel)
set_option maxRecDepth 20000 in
theorem gX1_isVoltage_X5_within_n81 : GoodIn wsX1_isVoltage (wsX5_within) := ggX1_isVoltage_X5_within
theorem dX1_isVoltage_0 : decode cX1_isVoltage 0 = .ok (.iload_n 0, 1) := by decide +kernel
theorem dX1_isVoltage_1 : decode cX1_isVoltage 1 = .ok (.iconst 0, 1) := by decide +kernel
theorem dX1_isVoltage_2 : decode cX1_isVoltage 2 = .ok (.sipush 9999, 3) := by decide +kernel
theorem dX1_isVoltage_5 : decode cX1_isVoltage 5 = .ok (.invokestatic 81, 3) := by decide +kernel
theorem dX1_isVoltage_8 : decode cX1_isVoltage 8 = .ok (.ireturn, 1) := by decide +kernel
set_option maxRecDepth 20000 in
theorem ggX1_isRange_X5_within : GoodIn wsX1_isRange wsX5_within := goodIn_r _ [4] (by decide +kernel) (by decide +kernel)
set_option maxRecDepth 20000 in
theorem gX1_isRange_X5_within_n81 : GoodIn wsX1_isRange (wsX5_within) := ggX1_isRange_X5_within
theorem dX1_isRange_0 : decode cX1_isRange 0 = .ok (.iload_n 0, 1) := by decide +kernel
theorem dX1_isRange_1 : decode cX1_isRange 1 = .ok (.iconst 0, 1) := by decide +kernel
theorem dX1_isRange_2 : decode cX1_isRange 2 = .ok (.ldc 164, 2) := by decide +kernel
theorem dX1_isRange_4 : decode cX1_isRange 4 = .ok (.invokestatic 81, 3) := by decide +kernel
theorem dX1_isRange_7 : decode cX1_isRange 7 = .ok (.ifCond .eq 22, 3) := by decide +kernel
theorem dX1_isRange_10 : decode cX1_isRange 10 = .ok (.iload_n 1, 1) := by decide +kernel
theorem dX1_isRange_11 : decode cX1_isRange 11 = .ok (.iconst 0, 1) := by decide +kernel
theorem dX1_isRange_12 : decode cX1_isRange 12 = .ok (.ldc 164, 2) := by decide +kernel
theorem dX1_isRange_14 : decode cX1_isRange 14 = .ok (.invokestatic 81, 3) := by decide +kernel
theorem dX1_isRange_17 : decode cX1_isRange 17 = .ok (.ifCond .eq 12, 3) := by decide +kernel
theorem dX1_isRange_20 : decode cX1_isRange 20 = .ok (.iload_n 0, 1) := by decide +kernel
theorem dX1_isRange_21 : decode cX1_isRange 21 = .ok (.iload_n 1, 1) := by decide +kernel
theorem dX1_isRange_22 : decode cX1_isRange 22 = .ok (.if_icmp .gt 7, 3) := by decide +kernel
theorem dX1_isRange_25 : decode cX1_isRange 25 = .ok (.iconst 1, 1) := by decide +kernel
theorem dX1_isRange_26 : decode cX1_isRange 26 = .ok (.goto 4, 3) := by decide +kernel
theorem dX1_isRange_29 : decode cX1_isRange 29 = .ok (.iconst 0, 1) := by decide +kernel
theorem dX1_isRange_30 : decode cX1_isRange 30 = .ok (.ireturn, 1) := by decide +kernel
theorem dX2_init_0 : decode cX2_init 0 = .ok (.aload_n 0, 1) := by decide +kernel
theorem dX2_init_1 : decode cX2_init 1 = .ok (.invokespecial 3, 3) := by decide +kernel
theorem dX2_init_4 : decode cX2_init 4 = .ok (.aload_n 0, 1) := by decide +kernel
theorem dX2_init_5 : decode cX2_init 5 = .ok (.bipush 11, 2) := by decide +kernel
theorem dX2_init_7 : decode cX2_init 7 = .ok (.newarray .int, 2) := by decide +kernel
theorem dX2_init_9 : decode cX2_init 9 = .ok (.putfield 11, 3) := by decide +kernel
theorem dX2_init_12 : decode cX2_init 12 = .ok (.iconst 0, 1) := by decide +kernel
theorem dX2_init_13 : decode cX2_init 13 = .ok (.istore_n 1, 1) := by decide +kernel
theorem dX2_init_14 : decode cX2_init 14 = .ok (.iload_n 1, 1) := by decide +kernel
theorem dX2_init_15 : decode cX2_init 15 = .ok (.bipush 11, 2) := by decide +kernel
theorem dX2_init_17 : decode cX2_init 17 = .ok (.if_icmp .ge 23, 3) := by decide +kernel
theorem dX2_init_20 : decode cX2_init 20 = .ok (.aload_n 0, 1) := by decide +kernel
theorem dX2_init_21 : decode cX2_init 21 = .ok (.getfield 11, 3) := by decide +kernel
theorem dX2_init_24 : decode cX2_init 24 = .ok (.iload_n 1, 1) := by decide +kernel
theorem dX2_init_25 : decode cX2_init 25 = .ok (.sipush 3000, 3) := by decide +kernel
theorem dX2_init_28 : decode cX2_init 28 = .ok (.bipush 100, 2) := by decide +kernel
theorem dX2_init_30 : decode cX2_init 30 = .ok (.iload_n 1, 1) := by decide +kernel
theorem dX2_init_31 : decode cX2_init 31 = .ok (.imul, 1) := by decide +kernel
theorem dX2_init_32 : decode cX2_init 32 = .ok (.iadd, 1) := by decide +kernel
theorem dX2_init_33 : decode cX2_init 33 = .ok (.iastore, 1) := by decide +kernel
theorem dX2_init_34 : decode cX2_init 34 = .ok (.iinc 1 1, 3) := by decide +kernel
theorem dX2_init_37 : decode cX2_init 37 = .ok (.goto (-23), 3) := by decide +kernel
theorem dX2_init_40 : decode cX2_init 40 = .ok (.return_, 1) := by decide +kernel
theorem dX2_copyFrom_0 : decode cX2_copyFrom 0 = .ok (.aload_n 1, 1) := by decide +kernel
theorem dX2_copyFrom_1 : decode cX2_copyFrom 1 = .ok (.getfield 11, 3) := by decide +kernel
theorem dX2_copyFrom_4 : decode cX2_copyFrom 4 = .ok (.iconst 0, 1) := by decide +kernel
theorem dX2_copyFrom_5 : decode cX2_copyFrom 5 = .ok (.aload_n 0, 1) := by decide +kernel
theorem dX2_copyFrom_6 : decode cX2_copyFrom 6 = .ok (.getfield 11, 3) := by decide +kernel
theorem dX2_copyFrom_9 : decode cX2_copyFrom 9 = .ok (.iconst 0, 1) := by decide +kernel
theorem dX2_copyFrom_10 : decode cX2_copyFrom 10 = .ok (.bipush 11, 2) := by decide +kernel
theorem dX2_copyFrom_12 : decode cX2_copyFrom 12 = .ok (.invokestatic 15, 3) := by decide +kernel
theorem dX2_copyFrom_15 : decode cX2_copyFrom 15 = .ok (.return_, 1) := by decide +kernel
set_option maxRecDepth 20000 in
theorem ggX2_point_X5_within : GoodIn wsX2_point wsX5_within := goodIn_r _ [5] (by decide +kernel) (by decide +kernel)
set_option maxRecDepth 20000 in
theorem gX2_point_X5_within_n21 : GoodIn wsX2_point (wsX5_within) := ggX2_point_X5_within
theorem dX2_point_0 : decode cX2_point 0 = .ok (.iload_n 1, 1) := by decide +kernel
theorem dX2_point_1 : decode cX2_point 1 = .ok (.iconst 0, 1) := by decide +kernel
theorem dX2_point_2 : decode cX2_point 2 = .ok (.bipush 10, 2) := by decide +kernel
theorem dX2_point_4 : decode cX2_point 4 = .ok (.invokestatic 21, 3) := by decide +kernel
theorem dX2_point_7 : decode cX2_point 7 = .ok (.ifCond .eq 12, 3) := by decide +kernel
theorem dX2_point_10 : decode cX2_point 10 = .ok (.aload_n 0, 1) := by decide +kernel
theorem dX2_point_11 : decode cX2_point 11 = .ok (.getfield 11, 3) := by decide +kernel
theorem dX2_point_14 : decode cX2_point 14 = .ok (.iload_n 1, 1) := by decide +kernel
theorem dX2_point_15 : decode cX2_point 15 = .ok (.iaload, 1) := by decide +kernel
theorem dX2_point_16 : decode cX2_point 16 = .ok (.goto 5, 3) := by decide +kernel
theorem dX2_point_19 : decode cX2_point 19 = .ok (.ldc 25, 2) := by decide +kernel
theorem dX2_point_21 : decode cX2_point 21 = .ok (.ireturn, 1) := by decide +kernel
set_option maxRecDepth 20000 in
theorem ggX2_putPoint_X5_within : GoodIn wsX2_putPoint wsX5_within := goodIn_r _ [6] (by decide +kernel) (by decide +kernel)
set_option maxRecDepth 20000 in
theorem gX2_putPoint_X5_within_n21 : GoodIn wsX2_putPoint (wsX5_within) := ggX2_putPoint_X5_within
theorem dX2_putPoint_0 : decode cX2_putPoint 0 = .ok (.iload_n 1, 1) := by decide +kernel
theorem dX2_putPoint_1 : decode cX2_putPoint 1 = .ok (.iconst 0, 1) := by decide +kernel
theorem dX2_putPoint_2 : decode cX2_putPoint 2 = .ok (.bipush 10, 2) := by decide +kernel
theorem dX2_putPoint_4 : decode cX2_putPoint 4 = .ok (.invokestatic 21, 3) := by decide +kernel
theorem dX2_putPoint_7 : decode cX2_putPoint 7 = .ok (.ifCond .eq 14, 3) := by decide +kernel
theorem dX2_putPoint_10 : decode cX2_putPoint 10 = .ok (.iload_n 2, 1) := by decide +kernel
theorem dX2_putPoint_11 : decode cX2_putPoint 11 = .ok (.iconst 0, 1) := by decide +kernel
theorem dX2_putPoint_12 : decode cX2_putPoint 12 = .ok (.sipush 9999, 3) := by decide +kernel
theorem dX2_putPoint_15 : decode cX2_putPoint 15 = .ok (.invokestatic 21, 3) := by decide +kernel
theorem dX2_putPoint_18 : decode cX2_putPoint 18 = .ok (.ifCond .ne 6, 3) := by decide +kernel
theorem dX2_putPoint_21 : decode cX2_putPoint 21 = .ok (.ldc 25, 2) := by decide +kernel
theorem dX2_putPoint_23 : decode cX2_putPoint 23 = .ok (.ireturn, 1) := by decide +kernel
theorem dX2_putPoint_24 : decode cX2_putPoint 24 = .ok (.iload_n 1, 1) := by decide +kernel
theorem dX2_putPoint_25 : decode cX2_putPoint 25 = .ok (.ifCond .le 15, 3) := by decide +kernel
theorem dX2_putPoint_28 : decode cX2_putPoint 28 = .ok (.aload_n 0, 1) := by decide +kernel
theorem dX2_putPoint_29 : decode cX2_putPoint 29 = .ok (.getfield 11, 3) := by decide +kernel
theorem dX2_putPoint_32 : decode cX2_putPoint 32 = .ok (.iload_n 1, 1) := by decide +kernel
theorem dX2_putPoint_33 : decode cX2_putPoint 33 = .ok (.iconst 1, 1) := by decide +kernel
theorem dX2_putPoint_34 : decode cX2_putPoint 34 = .ok (.isub, 1) := by decide +kernel
theorem dX2_putPoint_35 : decode cX2_putPoint 35 = .ok (.iaload, 1) := by decide +kernel
theorem dX2_putPoint_36 : decode cX2_putPoint 36 = .ok (.iload_n 2, 1) := by decide +kernel
theorem dX2_putPoint_37 : decode cX2_putPoint 37 = .ok (.if_icmp .ge 21, 3) := by decide +kernel
theorem dX2_putPoint_40 : decode cX2_putPoint 40 = .ok (.iload_n 1, 1) := by decide +kernel
theorem dX2_putPoint_41 : decode cX2_putPoint 41 = .ok (.bipush 10, 2) := by decide +kernel
theorem dX2_putPoint_43 : decode cX2_putPoint 43 = .ok (.if_icmp .ge 18, 3) := by decide +kernel
theorem dX2_putPoint_46 : decode cX2_putPoint 46 = .ok (.aload_n 0, 1) := by decide +kernel
theorem dX2_putPoint_47 : decode cX2_putPoint 47 = .ok (.getfield 11, 3) := by decide +kernel
theorem dX2_putPoint_50 : decode cX2_putPoint 50 = .ok (.iload_n 1, 1) := by decide +kernel
theorem dX2_putPoint_51 : decode cX2_putPoint 51 = .ok (.iconst 1, 1) := by decide +kernel
theorem dX2_putPoint_52 : decode cX2_putPoint 52 = .ok (.iadd, 1) := by decide +kernel
theorem dX2_putPoint_53 : decode cX2_putPoint 53 = .ok (.iaload, 1) := by decide +kernel
theorem dX2_putPoint_54 : decode cX2_putPoint 54 = .ok (.iload_n 2, 1) := by decide +kernel
theorem dX2_putPoint_55 : decode cX2_putPoint 55 = .ok (.if_icmp .gt 6, 3) := by decide +kernel
theorem dX2_putPoint_58 : decode cX2_putPoint 58 = .ok (.ldc 26, 2) := by decide +kernel
theorem dX2_putPoint_60 : decode cX2_putPoint 60 = .ok (.ireturn, 1) := by decide +kernel
theorem dX2_putPoint_61 : decode cX2_putPoint 61 = .ok (.aload_n 0, 1) := by decide +kernel
theorem dX2_putPoint_62 : decode cX2_putPoint 62 = .ok (.getfield 11, 3) := by decide +kernel
theorem dX2_putPoint_65 : decode cX2_putPoint 65 = .ok (.iload_n 1, 1) := by decide +kernel
theorem dX2_putPoint_66 : decode cX2_putPoint 66 = .ok (.iaload, 1) := by decide +kernel
theorem dX2_putPoint_67 : decode cX2_putPoint 67 = .ok (.istore_n 3, 1) := by decide +kernel
theorem dX2_putPoint_68 : decode cX2_putPoint 68 = .ok (.aload_n 0, 1) := by decide +kernel
theorem dX2_putPoint_69 : decode cX2_putPoint 69 = .ok (.getfield 11, 3) := by decide +kernel
theorem dX2_putPoint_72 : decode cX2_putPoint 72 = .ok (.iload_n 1, 1) := by decide +kernel
theorem dX2_putPoint_73 : decode cX2_putPoint 73 = .ok (.iload_n 2, 1) := by decide +kernel
theorem dX2_putPoint_74 : decode cX2_putPoint 74 = .ok (.iastore, 1) := by decide +kernel
theorem dX2_putPoint_75 : decode cX2_putPoint 75 = .ok (.iload_n 3, 1) := by decide +kernel
theorem dX2_putPoint_76 : decode cX2_putPoint 76 = .ok (.ireturn, 1) := by decide +kernel
theorem dX2_voltsAt_0 : decode cX2_voltsAt 0 = .ok (.iload_n 1, 1) := by decide +kernel
theorem dX2_voltsAt_1 : decode cX2_voltsAt 1 = .ok (.ifCond .lt 10, 3) := by decide +kernel
theorem dX2_voltsAt_4 : decode cX2_voltsAt 4 = .ok (.iload_n 1, 1) := by decide +kernel
theorem dX2_voltsAt_5 : decode cX2_voltsAt 5 = .ok (.sipush 1000, 3) := by decide +kernel
theorem dX2_voltsAt_8 : decode cX2_voltsAt 8 = .ok (.if_icmp .le 6, 3) := by decide +kernel
theorem dX2_voltsAt_11 : decode cX2_voltsAt 11 = .ok (.ldc 25, 2) := by decide +kernel
theorem dX2_voltsAt_13 : decode cX2_voltsAt 13 = .ok (.ireturn, 1) := by decide +kernel
theorem dX2_voltsAt_14 : decode cX2_voltsAt 14 = .ok (.iload_n 1, 1) := by decide +kernel
theorem dX2_voltsAt_15 : decode cX2_voltsAt 15 = .ok (.sipush 1000, 3) := by decide +kernel
theorem dX2_voltsAt_18 : decode cX2_voltsAt 18 = .ok (.if_icmp .ne 8, 3) := by decide +kernel
theorem dX2_voltsAt_21 : decode cX2_voltsAt 21 = .ok (.bipush 9, 2) := by decide +kernel
theorem dX2_voltsAt_23 : decode cX2_voltsAt 23 = .ok (.goto 7, 3) := by decide +kernel
theorem dX2_voltsAt_26 : decode cX2_voltsAt 26 = .ok (.iload_n 1, 1) := by decide +kernel
theorem dX2_voltsAt_27 : decode cX2_voltsAt 27 = .ok (.bipush 100, 2) := by decide +kernel
theorem dX2_voltsAt_29 : decode cX2_voltsAt 29 = .ok (.idiv, 1) := by decide +kernel
theorem dX2_voltsAt_30 : decode cX2_voltsAt 30 = .ok (.istore_n 2, 1) := by decide +kernel
theorem dX2_voltsAt_31 : decode cX2_voltsAt 31 = .ok (.aload_n 0, 1) := by decide +kernel
theorem dX2_voltsAt_32 : decode cX2_voltsAt 32 = .ok (.getfield 11, 3) := by decide +kernel
theorem dX2_voltsAt_35 : decode cX2_voltsAt 35 = .ok (.iload_n 2, 1) := by decide +kernel
theorem dX2_voltsAt_36 : decode cX2_voltsAt 36 = .ok (.iaload, 1) := by decide +kernel
theorem dX2_voltsAt_37 : decode cX2_voltsAt 37 = .ok (.aload_n 0, 1) := by decide +kernel
theorem dX2_voltsAt_38 : decode cX2_voltsAt 38 = .ok (.getfield 11, 3) := by decide +kernel
theorem dX2_voltsAt_41 : decode cX2_voltsAt 41 = .ok (.iload_n 2, 1) := by decide +kernel
theorem dX2_voltsAt_42 : decode cX2_voltsAt 42 = .ok (.iconst 1, 1) := by decide +kernel
theorem dX2_voltsAt_43 : decode cX2_voltsAt 43 = .ok (.iadd, 1) := by decide +kernel
theorem dX2_voltsAt_44 : decode cX2_voltsAt 44 = .ok (.iaload, 1) := by decide +kernel
theorem dX2_voltsAt_45 : decode cX2_voltsAt 45 = .ok (.aload_n 0, 1) := by decide +kernel
theorem dX2_voltsAt_46 : decode cX2_voltsAt 46 = .ok (.getfield 11, 3) := by decide +kernel
theorem dX2_voltsAt_49 : decode cX2_voltsAt 49 = .ok (.iload_n 2, 1) := by decide +kernel
theorem dX2_voltsAt_50 : decode cX2_voltsAt 50 = .ok (.iaload, 1) := by decide +kernel
theorem dX2_voltsAt_51 : decode cX2_voltsAt 51 = .ok (.isub, 1) := by decide +kernel
theorem dX2_voltsAt_52 : decode cX2_voltsAt 52 = .ok (.iload_n 1, 1) := by decide +kernel
theorem dX2_voltsAt_53 : decode cX2_voltsAt 53 = .ok (.bipush 100, 2) := by decide +kernel
theorem dX2_voltsAt_55 : decode cX2_voltsAt 55 = .ok (.iload_n 2, 1) := by decide +kernel
theorem dX2_voltsAt_56 : decode cX2_voltsAt 56 = .ok (.imul, 1) := by decide +kernel
theorem dX2_voltsAt_57 : decode cX2_voltsAt 57 = .ok (.isub, 1) := by decide +kernel
theorem dX2_voltsAt_58 : decode cX2_voltsAt 58 = .ok (.imul, 1) := by decide +kernel
theorem dX2_voltsAt_59 : decode cX2_voltsAt 59 = .ok (.bipush 100, 2) := by decide +kernel
theorem dX2_voltsAt_61 : decode cX2_voltsAt 61 = .ok (.idiv, 1) := by decide +kernel
theorem dX2_voltsAt_62 : decode cX2_voltsAt 62 = .ok (.iadd, 1) := by decide +kernel
theorem dX2_voltsAt_63 : decode cX2_voltsAt 63 = .ok (.ireturn, 1) := by decide +kernel
set_option maxRecDepth 20000 in
theorem ggX2_leastReaching_X2_placesBelow : GoodIn wsX2_leastReaching wsX2_placesBelow := goodIn_r _ [6, 7, 8, 9, 5, 10, 11, 12, 13] (by decide +kernel) (by decide +kernel)
set_option maxRecDepth 20000 in
theorem gX2_leastReaching_X2_placesBelow : GoodIn wsX2_leastReaching (wsV RX2 27 RX2 yX2_placesBelow wsX2_placesBelow) := goodIn_app (goodIn_of _ (by decide +kernel)) ggX2_leastReaching_X2_placesBelow
theorem dX2_leastReaching_0 : decode cX2_leastReaching 0 = .ok (.aload_n 0, 1) := by decide +kernel
theorem dX2_leastReaching_1 : decode cX2_leastReaching 1 = .ok (.iload_n 1, 1) := by decide +kernel
theorem dX2_leastReaching_2 : decode cX2_leastReaching 2 = .ok (.invokevirtual 27, 3) := by decide +kernel
theorem dX2_leastReaching_5 : decode cX2_leastReaching 5 = .ok (.istore_n 2, 1) := by decide +kernel
theorem dX2_leastReaching_6 : decode cX2_leastReaching 6 = .ok (.iload_n 2, 1) := by decide +kernel
theorem dX2_leastReaching_7 : decode cX2_leastReaching 7 = .ok (.sipush 1000, 3) := by decide +kernel
theorem dX2_leastReaching_10 : decode cX2_leastReaching 10 = .ok (.if_icmp .le 8, 3) := by decide +kernel
theorem dX2_leastReaching_13 : decode cX2_leastReaching 13 = .ok (.ldc 31, 2) := by decide +kernel
theorem dX2_leastReaching_15 : decode cX2_leastReaching 15 = .ok (.goto 4, 3) := by decide +kernel
theorem dX2_leastReaching_18 : decode cX2_leastReaching 18 = .ok (.iload_n 2, 1) := by decide +kernel
theorem dX2_leastReaching_19 : decode cX2_leastReaching 19 = .ok (.ireturn, 1) := by decide +kernel
set_option maxRecDepth 20000 in
theorem ggX2_greatestWithin_X2_placesBelow : GoodIn wsX2_greatestWithin wsX2_placesBelow := goodIn_r _ [6, 7, 8, 9, 5, 10, 11, 12, 13] (by decide +kernel) (by decide +kernel)
set_option maxRecDepth 20000 in
theorem gX2_greatestWithin_X2_placesBelow : GoodIn wsX2_greatestWithin (wsV RX2 27 RX2 yX2_placesBelow wsX2_placesBelow) := goodIn_app (goodIn_of _ (by decide +kernel)) ggX2_greatestWithin_X2_placesBelow
theorem dX2_greatestWithin_0 : decode cX2_greatestWithin 0 = .ok (.aload_n 0, 1) := by decide +kernel
theorem dX2_greatestWithin_1 : decode cX2_greatestWithin 1 = .ok (.iload_n 1, 1) := by decide +kernel
theorem dX2_greatestWithin_2 : decode cX2_greatestWithin 2 = .ok (.iconst 1, 1) := by decide +kernel
theorem dX2_greatestWithin_3 : decode cX2_greatestWithin 3 = .ok (.iadd, 1) := by decide +kernel
theorem dX2_greatestWithin_4 : decode cX2_greatestWithin 4 = .ok (.invokevirtual 27, 3) := by decide +kernel
theorem dX2_greatestWithin_7 : decode cX2_greatestWithin 7 = .ok (.istore_n 2, 1) := by decide +kernel
theorem dX2_greatestWithin_8 : decode cX2_greatestWithin 8 = .ok (.iload_n 2, 1) := by decide +kernel
theorem dX2_greatestWithin_9 : decode cX2_greatestWithin 9 = .ok (.ifCond .ne 8, 3) := by decide +kernel
theorem dX2_greatestWithin_12 : decode cX2_greatestWithin 12 = .ok (.ldc 31, 2) := by decide +kernel
theorem dX2_greatestWithin_14 : decode cX2_greatestWithin 14 = .ok (.goto 6, 3) := by decide +kernel
theorem dX2_greatestWithin_17 : decode cX2_greatestWithin 17 = .ok (.iload_n 2, 1) := by decide +kernel
theorem dX2_greatestWithin_18 : decode cX2_greatestWithin 18 = .ok (.iconst 1, 1) := by decide +kernel
theorem dX2_greatestWithin_19 : decode cX2_greatestWithin 19 = .ok (.isub, 1) := by decide +kernel
theorem dX2_greatestWithin_20 : decode cX2_greatestWithin 20 = .ok (.ireturn, 1) := by decide +kernel
set_option maxRecDepth 20000 in
theorem ggX2_placesBelow_X2_voltsAt : GoodIn wsX2_placesBelow wsX2_voltsAt := goodIn_r _ [5, 6, 7, 8] (by decide +kernel) (by decide +kernel)
set_option maxRecDepth 20000 in
theorem gX2_placesBelow_X2_voltsAt : GoodIn wsX2_placesBelow (wsV RX2 32 RX2 yX2_voltsAt wsX2_voltsAt) := goodIn_app (goodIn_of _ (by decide +kernel)) ggX2_placesBelow_X2_voltsAt
theorem dX2_placesBelow_0 : decode cX2_placesBelow 0 = .ok (.iconst 0, 1) := by decide +kernel
theorem dX2_placesBelow_1 : decode cX2_placesBelow 1 = .ok (.istore_n 2, 1) := by decide +kernel
theorem dX2_placesBelow_2 : decode cX2_placesBelow 2 = .ok (.sipush 512, 3) := by decide +kernel
theorem dX2_placesBelow_5 : decode cX2_placesBelow 5 = .ok (.istore_n 3, 1) := by decide +kernel
theorem dX2_placesBelow_6 : decode cX2_placesBelow 6 = .ok (.iload_n 3, 1) := by decide +kernel
theorem dX2_placesBelow_7 : decode cX2_placesBelow 7 = .ok (.ifCond .le 38, 3) := by decide +kernel
theorem dX2_placesBelow_10 : decode cX2_placesBelow 10 = .ok (.iload_n 2, 1) := by decide +kernel
theorem dX2_placesBelow_11 : decode cX2_placesBelow 11 = .ok (.iload_n 3, 1) := by decide +kernel
theorem dX2_placesBelow_12 : decode cX2_placesBelow 12 = .ok (.iadd, 1) := by decide +kernel
theorem dX2_placesBelow_13 : decode cX2_placesBelow 13 = .ok (.istore 4, 2) := by decide +kernel
theorem dX2_placesBelow_15 : decode cX2_placesBelow 15 = .ok (.iload 4, 2) := by decide +kernel
theorem dX2_placesBelow_17 : decode cX2_placesBelow 17 = .ok (.sipush 1001, 3) := by decide +kernel
theorem dX2_placesBelow_20 : decode cX2_placesBelow 20 = .ok (.if_icmp .gt 18, 3) := by decide +kernel
theorem dX2_placesBelow_23 : decode cX2_placesBelow 23 = .ok (.aload_n 0, 1) := by decide +kernel
theorem dX2_placesBelow_24 : decode cX2_placesBelow 24 = .ok (.iload 4, 2) := by decide +kernel
theorem dX2_placesBelow_26 : decode cX2_placesBelow 26 = .ok (.iconst 1, 1) := by decide +kernel
theorem dX2_placesBelow_27 : decode cX2_placesBelow 27 = .ok (.isub, 1) := by decide +kernel
theorem dX2_placesBelow_28 : decode cX2_placesBelow 28 = .ok (.invokevirtual 32, 3) := by decide +kernel
theorem dX2_placesBelow_31 : decode cX2_placesBelow 31 = .ok (.iload_n 1, 1) := by decide +kernel
theorem dX2_placesBelow_32 : decode cX2_placesBelow 32 = .ok (.if_icmp .ge 6, 3) := by decide +kernel
theorem dX2_placesBelow_35 : decode cX2_placesBelow 35 = .ok (.iload 4, 2) := by decide +kernel
theorem dX2_placesBelow_37 : decode cX2_placesBelow 37 = .ok (.istore_n 2, 1) := by decide +kernel
theorem dX2_placesBelow_38 : decode cX2_placesBelow 38 = .ok (.iload_n 3, 1) := by decide +kernel
theorem dX2_placesBelow_39 : decode cX2_placesBelow 39 = .ok (.iconst 2, 1) := by decide +kernel
theorem dX2_placesBelow_40 : decode cX2_placesBelow 40 = .ok (.idiv, 1) := by decide +kernel
theorem dX2_placesBelow_41 : decode cX2_placesBelow 41 = .ok (.istore_n 3, 1) := by decide +kernel
theorem dX2_placesBelow_42 : decode cX2_placesBelow 42 = .ok (.goto (-36), 3) := by decide +kernel
theorem dX2_placesBelow_45 : decode cX2_placesBelow 45 = .ok (.iload_n 2, 1) := by decide +kernel
theorem dX2_placesBelow_46 : decode cX2_placesBelow 46 = .ok (.ireturn, 1) := by decide +kernel
set_option maxRecDepth 20000 in
theorem ggX3_init_X1_init : GoodIn wsX3_init wsX1_init := goodIn_r _ [10, 11, 2, 3, 12, 13, 14, 15, 16, 17, 18, 19, 20, 21, 22, 23, 24, 25, 26, 27, 28, 29, 30, 31, 32, 33, 34, 35, 36, 37, 38, 39, 40, 41, 60, 45, 46, 47, 48, 49, 50, 51, 52, 53, 54, 55, 56, 57, 58, 59, 61, 62] (by decide +kernel) (by decide +kernel)
set_option maxRecDepth 20000 in
theorem gX3_init_X1_init : GoodIn wsX3_init (wsX1_init) := ggX3_init_X1_init
theorem dX3_init_0 : decode cX3_init 0 = .ok (.aload_n 0, 1) := by decide +kernel
theorem dX3_init_1 : decode cX3_init 1 = .ok (.invokespecial 3, 3) := by decide +kernel
theorem dX3_init_4 : decode cX3_init 4 = .ok (.aload_n 0, 1) := by decide +kernel
theorem dX3_init_5 : decode cX3_init 5 = .ok (.bipush 6, 2) := by decide +kernel
theorem dX3_init_7 : decode cX3_init 7 = .ok (.anewarray 9, 3) := by decide +kernel
theorem dX3_init_10 : decode cX3_init 10 = .ok (.putfield 11, 3) := by decide +kernel
theorem dX3_init_13 : decode cX3_init 13 = .ok (.iconst 0, 1) := by decide +kernel
theorem dX3_init_14 : decode cX3_init 14 = .ok (.istore_n 1, 1) := by decide +kernel
theorem dX3_init_15 : decode cX3_init 15 = .ok (.iload_n 1, 1) := by decide +kernel
theorem dX3_init_16 : decode cX3_init 16 = .ok (.bipush 6, 2) := by decide +kernel
theorem dX3_init_18 : decode cX3_init 18 = .ok (.if_icmp .ge 22, 3) := by decide +kernel
theorem dX3_init_21 : decode cX3_init 21 = .ok (.aload_n 0, 1) := by decide +kernel
theorem dX3_init_22 : decode cX3_init 22 = .ok (.getfield 11, 3) := by decide +kernel
theorem dX3_init_25 : decode cX3_init 25 = .ok (.iload_n 1, 1) := by decide +kernel
theorem dX3_init_26 : decode cX3_init 26 = .ok (.new 9, 3) := by decide +kernel
theorem dX3_init_29 : decode cX3_init 29 = .ok (.dup, 1) := by decide +kernel
theorem dX3_init_30 : decode cX3_init 30 = .ok (.invokespecial 15, 3) := by decide +kernel
theorem dX3_init_33 : decode cX3_init 33 = .ok (.aastore, 1) := by decide +kernel
theorem dX3_init_34 : decode cX3_init 34 = .ok (.iinc 1 1, 3) := by decide +kernel
theorem dX3_init_37 : decode cX3_init 37 = .ok (.goto (-22), 3) := by decide +kernel
theorem dX3_init_40 : decode cX3_init 40 = .ok (.return_, 1) := by decide +kernel
theorem dX3_size_0 : decode cX3_size 0 = .ok (.aload_n 0, 1) := by decide +kernel
theorem dX3_size_1 : decode cX3_size 1 = .ok (.getfield 16, 3) := by decide +kernel
theorem dX3_size_4 : decode cX3_size 4 = .ok (.ireturn, 1) := by decide +kernel
set_option maxRecDepth 20000 in
theorem ggX3_mark_X1_copyFrom : GoodIn wsX3_mark wsX1_copyFrom := goodIn_r _ [7, 8, 9, 10, 11, 12, 13, 14, 15, 16, 17, 18, 19, 20, 21, 22, 23, 24, 25, 26, 27, 28, 29, 30, 31, 32, 33, 34, 35, 36, 37, 38, 39, 40, 44, 45, 46, 47, 48, 49, 50, 51, 52, 53, 54, 55, 56, 57, 58, 59, 60, 61] (by decide +kernel) (by decide +kernel)
set_option maxRecDepth 20000 in
theorem gX3_mark_X1_copyFrom : GoodIn wsX3_mark (wsV RX3 23 RX1 yX1_copyFrom wsX1_copyFrom) := goodIn_app (goodIn_of _ (by decide +kernel)) ggX3_mark_X1_copyFrom
theorem dX3_mark_0 : decode cX3_mark 0 = .ok (.aload_n 0, 1) := by decide +kernel
theorem dX3_mark_1 : decode cX3_mark 1 = .ok (.getfield 11, 3) := by decide +kernel
theorem dX3_mark_4 : decode cX3_mark 4 = .ok (.aload_n 0, 1) := by decide +kernel
theorem dX3_mark_5 : decode cX3_mark 5 = .ok (.getfield 20, 3) := by decide +kernel
theorem dX3_mark_8 : decode cX3_mark 8 = .ok (.aaload, 1) := by decide +kernel
theorem dX3_mark_9 : decode cX3_mark 9 = .ok (.aload_n 1, 1) := by decide +kernel
theorem dX3_mark_10 : decode cX3_mark 10 = .ok (.invokevirtual 23, 3) := by decide +kernel
theorem dX3_mark_13 : decode cX3_mark 13 = .ok (.return_, 1) := by decide +kernel
set_option maxRecDepth 20000 in
theorem ggX3_restoreMarked_X1_copyFrom : GoodIn wsX3_restoreMarked wsX1_copyFrom := goodIn_r _ [7, 8, 9, 10, 11, 12, 13, 14, 15, 16, 17, 18, 19, 20, 21, 22, 23, 24, 25, 26, 27, 28, 29, 30, 31, 32, 33, 34, 35, 36, 37, 38, 39, 40, 44, 45, 46, 47, 48, 49, 50, 51, 52, 53, 54, 55, 56, 57, 58, 59, 60, 61] (by decide +kernel) (by decide +kernel)
set_option maxRecDepth 20000 in
theorem gX3_restoreMarked_X1_copyFrom : GoodIn wsX3_restoreMarked (wsV RX3 23 RX1 yX1_copyFrom wsX1_copyFrom) := goodIn_app (goodIn_of _ (by decide +kernel)) ggX3_restoreMarked_X1_copyFrom
theorem dX3_restoreMarked_0 : decode cX3_restoreMarked 0 = .ok (.aload_n 1, 1) := by decide +kernel
theorem dX3_restoreMarked_1 : decode cX3_restoreMarked 1 = .ok (.aload_n 0, 1) := by decide +kernel
theorem dX3_restoreMarked_2 : decode cX3_restoreMarked 2 = .ok (.getfield 11, 3) := by decide +kernel
theorem dX3_restoreMarked_5 : decode cX3_restoreMarked 5 = .ok (.aload_n 0, 1) := by decide +kernel
theorem dX3_restoreMarked_6 : decode cX3_restoreMarked 6 = .ok (.getfield 20, 3) := by decide +kernel
theorem dX3_restoreMarked_9 : decode cX3_restoreMarked 9 = .ok (.aaload, 1) := by decide +kernel
theorem dX3_restoreMarked_10 : decode cX3_restoreMarked 10 = .ok (.invokevirtual 23, 3) := by decide +kernel
theorem dX3_restoreMarked_13 : decode cX3_restoreMarked 13 = .ok (.return_, 1) := by decide +kernel
theorem dX3_keepMarked_0 : decode cX3_keepMarked 0 = .ok (.aload_n 0, 1) := by decide +kernel
theorem dX3_keepMarked_1 : decode cX3_keepMarked 1 = .ok (.aload_n 0, 1) := by decide +kernel
theorem dX3_keepMarked_2 : decode cX3_keepMarked 2 = .ok (.getfield 20, 3) := by decide +kernel
theorem dX3_keepMarked_5 : decode cX3_keepMarked 5 = .ok (.iconst 1, 1) := by decide +kernel
theorem dX3_keepMarked_6 : decode cX3_keepMarked 6 = .ok (.iadd, 1) := by decide +kernel
theorem dX3_keepMarked_7 : decode cX3_keepMarked 7 = .ok (.bipush 6, 2) := by decide +kernel
theorem dX3_keepMarked_9 : decode cX3_keepMarked 9 = .ok (.irem, 1) := by decide +kernel
theorem dX3_keepMarked_10 : decode cX3_keepMarked 10 = .ok (.putfield 20, 3) := by decide +kernel
theorem dX3_keepMarked_13 : decode cX3_keepMarked 13 = .ok (.aload_n 0, 1) := by decide +kernel
theorem dX3_keepMarked_14 : decode cX3_keepMarked 14 = .ok (.aload_n 0, 1) := by decide +kernel
theorem dX3_keepMarked_15 : decode cX3_keepMarked 15 = .ok (.getfield 16, 3) := by decide +kernel
theorem dX3_keepMarked_18 : decode cX3_keepMarked 18 = .ok (.iconst 1, 1) := by decide +kernel
theorem dX3_keepMarked_19 : decode cX3_keepMarked 19 = .ok (.iadd, 1) := by decide +kernel
theorem dX3_keepMarked_20 : decode cX3_keepMarked 20 = .ok (.iconst 5, 1) := by decide +kernel
theorem dX3_keepMarked_21 : decode cX3_keepMarked 21 = .ok (.invokestatic 27, 3) := by decide +kernel
theorem dX3_keepMarked_24 : decode cX3_keepMarked 24 = .ok (.putfield 16, 3) := by decide +kernel
theorem dX3_keepMarked_27 : decode cX3_keepMarked 27 = .ok (.return_, 1) := by decide +kernel
set_option maxRecDepth 20000 in
theorem ggX3_takeBack_X3_restoreMarked : GoodIn wsX3_takeBack wsX3_restoreMarked := goodIn_r _ [7, 8, 2, 9, 10, 11, 12, 13, 14, 15, 16, 17, 18, 19, 20, 21, 22, 23, 24, 25, 26, 27, 28, 29, 30, 31, 32, 33, 34, 35, 36, 37, 38, 39, 40, 41, 42, 43, 44, 45, 46, 47, 48, 49, 50, 51, 52, 53, 54, 55, 56, 57, 58, 59, 60, 61, 62, 63, 64, 65, 66, 67] (by decide +kernel) (by decide +kernel)
set_option maxRecDepth 20000 in
theorem gX3_takeBack_X3_restoreMarked : GoodIn wsX3_takeBack (wsV RX3 33 RX3 yX3_restoreMarked wsX3_restoreMarked) := goodIn_app (goodIn_of _ (by decide +kernel)) ggX3_takeBack_X3_restoreMarked
theorem dX3_takeBack_0 : decode cX3_takeBack 0 = .ok (.aload_n 0, 1) := by decide +kernel
theorem dX3_takeBack_1 : decode cX3_takeBack 1 = .ok (.getfield 16, 3) := by decide +kernel
theorem dX3_takeBack_4 : decode cX3_takeBack 4 = .ok (.ifCond .le 34, 3) := by decide +kernel
theorem dX3_takeBack_7 : decode cX3_takeBack 7 = .ok (.aload_n 0, 1) := by decide +kernel
theorem dX3_takeBack_8 : decode cX3_takeBack 8 = .ok (.aload_n 0, 1) := by decide +kernel
theorem dX3_takeBack_9 : decode cX3_takeBack 9 = .ok (.getfield 20, 3) := by decide +kernel
theorem dX3_takeBack_12 : decode cX3_takeBack 12 = .ok (.bipush 6, 2) := by decide +kernel
theorem dX3_takeBack_14 : decode cX3_takeBack 14 = .ok (.iadd, 1) := by decide +kernel
theorem dX3_takeBack_15 : decode cX3_takeBack 15 = .ok (.iconst 1, 1) := by decide +kernel
theorem dX3_takeBack_16 : decode cX3_takeBack 16 = .ok (.isub, 1) := by decide +kernel
theorem dX3_takeBack_17 : decode cX3_takeBack 17 = .ok (.bipush 6, 2) := by decide +kernel
theorem dX3_takeBack_19 : decode cX3_takeBack 19 = .ok (.irem, 1) := by decide +kernel
theorem dX3_takeBack_20 : decode cX3_takeBack 20 = .ok (.putfield 20, 3) := by decide +kernel
theorem dX3_takeBack_23 : decode cX3_takeBack 23 = .ok (.aload_n 0, 1) := by decide +kernel
theorem dX3_takeBack_24 : decode cX3_takeBack 24 = .ok (.dup, 1) := by decide +kernel
theorem dX3_takeBack_25 : decode cX3_takeBack 25 = .ok (.getfield 16, 3) := by decide +kernel
theorem dX3_takeBack_28 : decode cX3_takeBack 28 = .ok (.iconst 1, 1) := by decide +kernel
theorem dX3_takeBack_29 : decode cX3_takeBack 29 = .ok (.isub, 1) := by decide +kernel
theorem dX3_takeBack_30 : decode cX3_takeBack 30 = .ok (.putfield 16, 3) := by decide +kernel
theorem dX3_takeBack_33 : decode cX3_takeBack 33 = .ok (.aload_n 0, 1) := by decide +kernel
theorem dX3_takeBack_34 : decode cX3_takeBack 34 = .ok (.aload_n 1, 1) := by decide +kernel
theorem dX3_takeBack_35 : decode cX3_takeBack 35 = .ok (.invokevirtual 33, 3) := by decide +kernel
theorem dX3_takeBack_38 : decode cX3_takeBack 38 = .ok (.return_, 1) := by decide +kernel
theorem dX4_init_0 : decode cX4_init 0 = .ok (.aload_n 0, 1) := by decide +kernel
theorem dX4_init_1 : decode cX4_init 1 = .ok (.invokespecial 5, 3) := by decide +kernel
theorem dX4_init_4 : decode cX4_init 4 = .ok (.aload_n 0, 1) := by decide +kernel
theorem dX4_init_5 : decode cX4_init 5 = .ok (.bipush 120, 2) := by decide +kernel
theorem dX4_init_7 : decode cX4_init 7 = .ok (.newarray .byte, 2) := by decide +kernel
theorem dX4_init_9 : decode cX4_init 9 = .ok (.putfield 11, 3) := by decide +kernel
theorem dX4_init_12 : decode cX4_init 12 = .ok (.aload_n 0, 1) := by decide +kernel
theorem dX4_init_13 : decode cX4_init 13 = .ok (.bipush 40, 2) := by decide +kernel
theorem dX4_init_15 : decode cX4_init 15 = .ok (.newarray .int, 2) := by decide +kernel
theorem dX4_init_17 : decode cX4_init 17 = .ok (.putfield 15, 3) := by decide +kernel
theorem dX4_init_20 : decode cX4_init 20 = .ok (.aload_n 0, 1) := by decide +kernel
theorem dX4_init_21 : decode cX4_init 21 = .ok (.bipush 40, 2) := by decide +kernel
theorem dX4_init_23 : decode cX4_init 23 = .ok (.newarray .int, 2) := by decide +kernel
theorem dX4_init_25 : decode cX4_init 25 = .ok (.putfield 19, 3) := by decide +kernel
theorem dX4_init_28 : decode cX4_init 28 = .ok (.aload_n 0, 1) := by decide +kernel
theorem dX4_init_29 : decode cX4_init 29 = .ok (.bipush 40, 2) := by decide +kernel
theorem dX4_init_31 : decode cX4_init 31 = .ok (.newarray .int, 2) := by decide +kernel
theorem dX4_init_33 : decode cX4_init 33 = .ok (.putfield 22, 3) := by decide +kernel
theorem dX4_init_36 : decode cX4_init 36 = .ok (.return_, 1) := by decide +kernel
theorem dX4_length_0 : decode cX4_length 0 = .ok (.aload_n 0, 1) := by decide +kernel
theorem dX4_length_1 : decode cX4_length 1 = .ok (.getfield 25, 3) := by decide +kernel
theorem dX4_length_4 : decode cX4_length 4 = .ok (.ireturn, 1) := by decide +kernel
set_option maxRecDepth 20000 in
theorem ggX4_append_X5_within : GoodIn wsX4_append wsX5_within := goodIn_r _ [7] (by decide +kernel) (by decide +kernel)
set_option maxRecDepth 20000 in
theorem gX4_append_X5_within_n29 : GoodIn wsX4_append (wsX5_within) := ggX4_append_X5_within
theorem dX4_append_0 : decode cX4_append 0 = .ok (.iload_n 1, 1) := by decide +kernel
theorem dX4_append_1 : decode cX4_append 1 = .ok (.iconst 0, 1) := by decide +kernel
theorem dX4_append_2 : decode cX4_append 2 = .ok (.bipush 127, 2) := by decide +kernel
theorem dX4_append_4 : decode cX4_append 4 = .ok (.invokestatic 29, 3) := by decide +kernel
theorem dX4_append_7 : decode cX4_append 7 = .ok (.ifCond .ne 6, 3) := by decide +kernel
theorem dX4_append_10 : decode cX4_append 10 = .ok (.ldc 33, 2) := by decide +kernel
theorem dX4_append_12 : decode cX4_append 12 = .ok (.ireturn, 1) := by decide +kernel
theorem dX4_append_13 : decode cX4_append 13 = .ok (.aload_n 0, 1) := by decide +kernel
theorem dX4_append_14 : decode cX4_append 14 = .ok (.getfield 25, 3) := by decide +kernel
theorem dX4_append_17 : decode cX4_append 17 = .ok (.bipush 120, 2) := by decide +kernel
theorem dX4_append_19 : decode cX4_append 19 = .ok (.if_icmp .lt 6, 3) := by decide +kernel
theorem dX4_append_22 : decode cX4_append 22 = .ok (.ldc 34, 2) := by decide +kernel
theorem dX4_append_24 : decode cX4_append 24 = .ok (.ireturn, 1) := by decide +kernel
theorem dX4_append_25 : decode cX4_append 25 = .ok (.aload_n 0, 1) := by decide +kernel
theorem dX4_append_26 : decode cX4_append 26 = .ok (.getfield 11, 3) := by decide +kernel
theorem dX4_append_29 : decode cX4_append 29 = .ok (.aload_n 0, 1) := by decide +kernel
theorem dX4_append_30 : decode cX4_append 30 = .ok (.getfield 25, 3) := by decide +kernel
theorem dX4_append_33 : decode cX4_append 33 = .ok (.iload_n 1, 1) := by decide +kernel
theorem dX4_append_34 : decode cX4_append 34 = .ok (.i2b, 1) := by decide +kernel
theorem dX4_append_35 : decode cX4_append 35 = .ok (.bastore, 1) := by decide +kernel
theorem dX4_append_36 : decode cX4_append 36 = .ok (.aload_n 0, 1) := by decide +kernel
theorem dX4_append_37 : decode cX4_append 37 = .ok (.dup, 1) := by decide +kernel
theorem dX4_append_38 : decode cX4_append 38 = .ok (.getfield 25, 3) := by decide +kernel
theorem dX4_append_41 : decode cX4_append 41 = .ok (.iconst 1, 1) := by decide +kernel
theorem dX4_append_42 : decode cX4_append 42 = .ok (.iadd, 1) := by decide +kernel
theorem dX4_append_43 : decode cX4_append 43 = .ok (.putfield 25, 3) := by decide +kernel
theorem dX4_append_46 : decode cX4_append 46 = .ok (.aload_n 0, 1) := by decide +kernel
theorem dX4_append_47 : decode cX4_append 47 = .ok (.getfield 25, 3) := by decide +kernel
theorem dX4_append_50 : decode cX4_append 50 = .ok (.ireturn, 1) := by decide +kernel
theorem dX4_empty_0 : decode cX4_empty 0 = .ok (.aload_n 0, 1) := by decide +kernel
theorem dX4_empty_1 : decode cX4_empty 1 = .ok (.getfield 25, 3) := by decide +kernel
theorem dX4_empty_4 : decode cX4_empty 4 = .ok (.istore_n 1, 1) := by decide +kernel
theorem dX4_empty_5 : decode cX4_empty 5 = .ok (.aload_n 0, 1) := by decide +kernel
theorem dX4_empty_6 : decode cX4_empty 6 = .ok (.iconst 0, 1) := by decide +kernel
theorem dX4_empty_7 : decode cX4_empty 7 = .ok (.putfield 25, 3) := by decide +kernel
theorem dX4_empty_10 : decode cX4_empty 10 = .ok (.iload_n 1, 1) := by decide +kernel
theorem dX4_empty_11 : decode cX4_empty 11 = .ok (.ireturn, 1) := by decide +kernel
theorem dX4_orders_0 : decode cX4_orders 0 = .ok (.aload_n 0, 1) := by decide +kernel
theorem dX4_orders_1 : decode cX4_orders 1 = .ok (.getfield 35, 3) := by decide +kernel
theorem dX4_orders_4 : decode cX4_orders 4 = .ok (.ireturn, 1) := by decide +kernel
theorem dX4_place_0 : decode cX4_place 0 = .ok (.aload_n 0, 1) := by decide +kernel
theorem dX4_place_1 : decode cX4_place 1 = .ok (.getfield 38, 3) := by decide +kernel
theorem dX4_place_4 : decode cX4_place 4 = .ok (.ireturn, 1) := by decide +kernel
set_option maxRecDepth 20000 in
theorem ggX4_kindOf_X5_within : GoodIn wsX4_kindOf wsX5_within := goodIn_r _ [5] (by decide +kernel) (by decide +kernel)
set_option maxRecDepth 20000 in
theorem gX4_kindOf_X5_within_n29 : GoodIn wsX4_kindOf (wsX5_within) := ggX4_kindOf_X5_within
theorem dX4_kindOf_0 : decode cX4_kindOf 0 = .ok (.iload_n 1, 1) := by decide +kernel
theorem dX4_kindOf_1 : decode cX4_kindOf 1 = .ok (.iconst 0, 1) := by decide +kernel
theorem dX4_kindOf_2 : decode cX4_kindOf 2 = .ok (.aload_n 0, 1) := by decide +kernel
theorem dX4_kindOf_3 : decode cX4_kindOf 3 = .ok (.getfield 35, 3) := by decide +kernel
theorem dX4_kindOf_6 : decode cX4_kindOf 6 = .ok (.iconst 1, 1) := by decide +kernel
theorem dX4_kindOf_7 : decode cX4_kindOf 7 = .ok (.isub, 1) := by decide +kernel
theorem dX4_kindOf_8 : decode cX4_kindOf 8 = .ok (.invokestatic 29, 3) := by decide +kernel
theorem dX4_kindOf_11 : decode cX4_kindOf 11 = .ok (.ifCond .eq 12, 3) := by decide +kernel
theorem dX4_kindOf_14 : decode cX4_kindOf 14 = .ok (.aload_n 0, 1) := by decide +kernel
theorem dX4_kindOf_15 : decode cX4_kindOf 15 = .ok (.getfield 15, 3) := by decide +kernel
theorem dX4_kindOf_18 : decode cX4_kindOf 18 = .ok (.iload_n 1, 1) := by decide +kernel
theorem dX4_kindOf_19 : decode cX4_kindOf 19 = .ok (.iaload, 1) := by decide +kernel
theorem dX4_kindOf_20 : decode cX4_kindOf 20 = .ok (.goto 4, 3) := by decide +kernel
theorem dX4_kindOf_23 : decode cX4_kindOf 23 = .ok (.iconst 0, 1) := by decide +kernel
theorem dX4_kindOf_24 : decode cX4_kindOf 24 = .ok (.ireturn, 1) := by decide +kernel
set_option maxRecDepth 20000 in
theorem ggX4_firstOf_X5_within : GoodIn wsX4_firstOf wsX5_within := goodIn_r _ [5] (by decide +kernel) (by decide +kernel)
set_option maxRecDepth 20000 in
theorem gX4_firstOf_X5_within_n29 : GoodIn wsX4_firstOf (wsX5_within) := ggX4_firstOf_X5_within
theorem dX4_firstOf_0 : decode cX4_firstOf 0 = .ok (.iload_n 1, 1) := by decide +kernel
theorem dX4_firstOf_1 : decode cX4_firstOf 1 = .ok (.iconst 0, 1) := by decide +kernel
theorem dX4_firstOf_2 : decode cX4_firstOf 2 = .ok (.aload_n 0, 1) := by decide +kernel
theorem dX4_firstOf_3 : decode cX4_firstOf 3 = .ok (.getfield 35, 3) := by decide +kernel
theorem dX4_firstOf_6 : decode cX4_firstOf 6 = .ok (.iconst 1, 1) := by decide +kernel
theorem dX4_firstOf_7 : decode cX4_firstOf 7 = .ok (.isub, 1) := by decide +kernel
theorem dX4_firstOf_8 : decode cX4_firstOf 8 = .ok (.invokestatic 29, 3) := by decide +kernel
theorem dX4_firstOf_11 : decode cX4_firstOf 11 = .ok (.ifCond .eq 12, 3) := by decide +kernel
theorem dX4_firstOf_14 : decode cX4_firstOf 14 = .ok (.aload_n 0, 1) := by decide +kernel
theorem dX4_firstOf_15 : decode cX4_firstOf 15 = .ok (.getfield 19, 3) := by decide +kernel
theorem dX4_firstOf_18 : decode cX4_firstOf 18 = .ok (.iload_n 1, 1) := by decide +kernel
theorem dX4_firstOf_19 : decode cX4_firstOf 19 = .ok (.iaload, 1) := by decide +kernel
theorem dX4_firstOf_20 : decode cX4_firstOf 20 = .ok (.goto 4, 3) := by decide +kernel
theorem dX4_firstOf_23 : decode cX4_firstOf 23 = .ok (.iconst 0, 1) := by decide +kernel
theorem dX4_firstOf_24 : decode cX4_firstOf 24 = .ok (.ireturn, 1) := by decide +kernel
set_option maxRecDepth 20000 in
theorem ggX4_secondOf_X5_within : GoodIn wsX4_secondOf wsX5_within := goodIn_r _ [5] (by decide +kernel) (by decide +kernel)
set_option maxRecDepth 20000 in
theorem gX4_secondOf_X5_within_n29 : GoodIn wsX4_secondOf (wsX5_within) := ggX4_secondOf_X5_within
theorem dX4_secondOf_0 : decode cX4_secondOf 0 = .ok (.iload_n 1, 1) := by decide +kernel
theorem dX4_secondOf_1 : decode cX4_secondOf 1 = .ok (.iconst 0, 1) := by decide +kernel
theorem dX4_secondOf_2 : decode cX4_secondOf 2 = .ok (.aload_n 0, 1) := by decide +kernel
theorem dX4_secondOf_3 : decode cX4_secondOf 3 = .ok (.getfield 35, 3) := by decide +kernel
theorem dX4_secondOf_6 : decode cX4_secondOf 6 = .ok (.iconst 1, 1) := by decide +kernel
theorem dX4_secondOf_7 : decode cX4_secondOf 7 = .ok (.isub, 1) := by decide +kernel
theorem dX4_secondOf_8 : decode cX4_secondOf 8 = .ok (.invokestatic 29, 3) := by decide +kernel
theorem dX4_secondOf_11 : decode cX4_secondOf 11 = .ok (.ifCond .eq 12, 3) := by decide +kernel
theorem dX4_secondOf_14 : decode cX4_secondOf 14 = .ok (.aload_n 0, 1) := by decide +kernel
theorem dX4_secondOf_15 : decode cX4_secondOf 15 = .ok (.getfield 22, 3) := by decide +kernel
theorem dX4_secondOf_18 : decode cX4_secondOf 18 = .ok (.iload_n 1, 1) := by decide +kernel
theorem dX4_secondOf_19 : decode cX4_secondOf 19 = .ok (.iaload, 1) := by decide +kernel
theorem dX4_secondOf_20 : decode cX4_secondOf 20 = .ok (.goto 4, 3) := by decide +kernel
theorem dX4_secondOf_23 : decode cX4_secondOf 23 = .ok (.iconst 0, 1) := by decide +kernel
theorem dX4_secondOf_24 : decode cX4_secondOf 24 = .ok (.ireturn, 1) := by decide +kernel
set_option maxRecDepth 20000 in
theorem ggX4_read_X4_skipBlanks : GoodIn wsX4_read wsX4_skipBlanks := goodIn_r _ [8, 1, 3, 9, 10, 11, 7, 12, 13, 35, 36, 37, 38, 39, 40, 41, 42] (by decide +kernel) (by decide +kernel)
set_option maxRecDepth 20000 in
theorem gX4_read_X4_skipBlanks : GoodIn wsX4_read (wsV RX4 41 RX4 yX4_skipBlanks wsX4_skipBlanks) := goodIn_app (goodIn_of _ (by decide +kernel)) ggX4_read_X4_skipBlanks
set_option maxRecDepth 20000 in
theorem ggX4_read_X4_readOrder : GoodIn wsX4_read wsX4_readOrder := goodIn_r _ [17, 2, 1, 18, 19, 20, 21, 9, 10, 11, 7, 12, 3, 13, 22, 23, 24, 25, 26, 27, 28, 29, 30, 31, 4, 5, 6, 8, 32, 33, 34, 35, 36, 37, 38, 39, 40, 41, 42] (by decide +kernel) (by decide +kernel)
set_option maxRecDepth 20000 in
theorem gX4_read_X4_readOrder : GoodIn wsX4_read (wsV RX4 44 RX4 yX4_readOrder wsX4_readOrder) := goodIn_app (goodIn_of _ (by decide +kernel)) ggX4_read_X4_readOrder
theorem dX4_read_0 : decode cX4_read 0 = .ok (.aload_n 0, 1) := by decide +kernel
theorem dX4_read_1 : decode cX4_read 1 = .ok (.iconst 0, 1) := by decide +kernel
theorem dX4_read_2 : decode cX4_read 2 = .ok (.putfield 38, 3) := by decide +kernel
theorem dX4_read_5 : decode cX4_read 5 = .ok (.aload_n 0, 1) := by decide +kernel
theorem dX4_read_6 : decode cX4_read 6 = .ok (.iconst 0, 1) := by decide +kernel
theorem dX4_read_7 : decode cX4_read 7 = .ok (.putfield 35, 3) := by decide +kernel
theorem dX4_read_10 : decode cX4_read 10 = .ok (.aload_n 0, 1) := by decide +kernel
theorem dX4_read_11 : decode cX4_read 11 = .ok (.invokevirtual 41, 3) := by decide +kernel
theorem dX4_read_14 : decode cX4_read 14 = .ok (.iconst 0, 1) := by decide +kernel
theorem dX4_read_15 : decode cX4_read 15 = .ok (.istore_n 1, 1) := by decide +kernel
theorem dX4_read_16 : decode cX4_read 16 = .ok (.iload_n 1, 1) := by decide +kernel
theorem dX4_read_17 : decode cX4_read 17 = .ok (.bipush 40, 2) := by decide +kernel
theorem dX4_read_19 : decode cX4_read 19 = .ok (.if_icmp .ge 33, 3) := by decide +kernel
theorem dX4_read_22 : decode cX4_read 22 = .ok (.aload_n 0, 1) := by decide +kernel
theorem dX4_read_23 : decode cX4_read 23 = .ok (.getfield 38, 3) := by decide +kernel
theorem dX4_read_26 : decode cX4_read 26 = .ok (.aload_n 0, 1) := by decide +kernel
theorem dX4_read_27 : decode cX4_read 27 = .ok (.getfield 25, 3) := by decide +kernel
theorem dX4_read_30 : decode cX4_read 30 = .ok (.if_icmp .ge 22, 3) := by decide +kernel
theorem dX4_read_33 : decode cX4_read 33 = .ok (.aload_n 0, 1) := by decide +kernel
theorem dX4_read_34 : decode cX4_read 34 = .ok (.invokevirtual 44, 3) := by decide +kernel
