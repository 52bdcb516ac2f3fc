theorem dX6_curve_1 : decode cX6_curve 1 = .ok (.invokevirtual 100, 3) := by decide +kernel
theorem dX6_curve_4 : decode cX6_curve 4 = .ok (.aload_n 0, 1) := by decide +kernel
theorem dX6_curve_5 : decode cX6_curve 5 = .ok (.aload_n 0, 1) := by decide +kernel
theorem dX6_curve_6 : decode cX6_curve 6 = .ok (.iload_n 1, 1) := by decide +kernel
theorem dX6_curve_7 : decode cX6_curve 7 = .ok (.iload_n 2, 1) := by decide +kernel
theorem dX6_curve_8 : decode cX6_curve 8 = .ok (.invokevirtual 117, 3) := by decide +kernel
theorem dX6_curve_11 : decode cX6_curve 11 = .ok (.invokevirtual 107, 3) := by decide +kernel
theorem dX6_curve_14 : decode cX6_curve 14 = .ok (.ireturn, 1) := by decide +kernel
set_option maxRecDepth 20000 in
theorem ggX6_passes_X6_laysAside : GoodIn wsX6_passes wsX6_laysAside := goodIn_r _ [5, 6, 7, 44, 45, 46, 47, 48, 49, 50, 51, 52, 53, 54, 55, 56, 57, 58] (by decide +kernel) (by decide +kernel)
set_option maxRecDepth 20000 in
theorem gX6_passes_X6_laysAside : GoodIn wsX6_passes (wsV RX6 100 RX6 yX6_laysAside wsX6_laysAside) := goodIn_app (goodIn_of _ (by decide +kernel)) ggX6_passes_X6_laysAside
set_option maxRecDepth 20000 in
theorem ggX6_passes_X6_putPassing : GoodIn wsX6_passes wsX6_putPassing := goodIn_r _ [11, 12, 13, 14, 15, 7, 16, 17, 18, 4, 19, 20, 21, 22, 23, 24, 25, 26, 27, 28, 44, 45, 46, 47, 48, 49, 50, 51, 52, 53, 54, 55, 56, 57, 58] (by decide +kernel) (by decide +kernel)
set_option maxRecDepth 20000 in
theorem gX6_passes_X6_putPassing : GoodIn wsX6_passes (wsV RX6 120 RX6 yX6_putPassing wsX6_putPassing) := goodIn_app (goodIn_of _ (by decide +kernel)) ggX6_passes_X6_putPassing
set_option maxRecDepth 20000 in
theorem ggX6_passes_X6_finished : GoodIn wsX6_passes wsX6_finished := goodIn_r _ [32, 15, 33, 34, 35, 4, 36, 37, 38, 39, 40, 41, 42, 43, 6, 44, 45, 46, 47, 48, 49, 50, 51, 52, 53, 54, 55, 56, 57, 58] (by decide +kernel) (by decide +kernel)
set_option maxRecDepth 20000 in
theorem gX6_passes_X6_finished : GoodIn wsX6_passes (wsV RX6 107 RX6 yX6_finished wsX6_finished) := goodIn_app (goodIn_of _ (by decide +kernel)) ggX6_passes_X6_finished
theorem dX6_passes_0 : decode cX6_passes 0 = .ok (.aload_n 0, 1) := by decide +kernel
theorem dX6_passes_1 : decode cX6_passes 1 = .ok (.invokevirtual 100, 3) := by decide +kernel
theorem dX6_passes_4 : decode cX6_passes 4 = .ok (.aload_n 0, 1) := by decide +kernel
theorem dX6_passes_5 : decode cX6_passes 5 = .ok (.aload_n 0, 1) := by decide +kernel
theorem dX6_passes_6 : decode cX6_passes 6 = .ok (.iload_n 1, 1) := by decide +kernel
theorem dX6_passes_7 : decode cX6_passes 7 = .ok (.iload_n 2, 1) := by decide +kernel
theorem dX6_passes_8 : decode cX6_passes 8 = .ok (.invokevirtual 120, 3) := by decide +kernel
theorem dX6_passes_11 : decode cX6_passes 11 = .ok (.invokevirtual 107, 3) := by decide +kernel
theorem dX6_passes_14 : decode cX6_passes 14 = .ok (.ireturn, 1) := by decide +kernel
set_option maxRecDepth 20000 in
theorem ggX6_rests_X6_laysAside : GoodIn wsX6_rests wsX6_laysAside := goodIn_r _ [5, 6, 7, 51, 52, 53, 54, 55, 56, 57, 58, 59, 60, 61, 62, 63, 64, 65] (by decide +kernel) (by decide +kernel)
set_option maxRecDepth 20000 in
theorem gX6_rests_X6_laysAside : GoodIn wsX6_rests (wsV RX6 100 RX6 yX6_laysAside wsX6_laysAside) := goodIn_app (goodIn_of _ (by decide +kernel)) ggX6_rests_X6_laysAside
set_option maxRecDepth 20000 in
theorem ggX6_rests_X6_putRest : GoodIn wsX6_rests wsX6_putRest := goodIn_r _ [11, 12, 13, 14, 15, 16, 17, 7, 18, 19, 20, 21, 4, 22, 23, 24, 25, 26, 27, 28, 29, 30, 31, 32, 33, 34, 35, 51, 52, 53, 54, 55, 56, 57, 58, 59, 60, 61, 62, 63, 64, 65] (by decide +kernel) (by decide +kernel)
set_option maxRecDepth 20000 in
theorem gX6_rests_X6_putRest : GoodIn wsX6_rests (wsV RX6 123 RX6 yX6_putRest wsX6_putRest) := goodIn_app (goodIn_of _ (by decide +kernel)) ggX6_rests_X6_putRest
set_option maxRecDepth 20000 in
theorem ggX6_rests_X6_finished : GoodIn wsX6_rests wsX6_finished := goodIn_r _ [39, 13, 40, 41, 42, 4, 43, 44, 45, 46, 47, 48, 49, 50, 6, 51, 52, 53, 54, 55, 56, 57, 58, 59, 60, 61, 62, 63, 64, 65] (by decide +kernel) (by decide +kernel)
set_option maxRecDepth 20000 in
theorem gX6_rests_X6_finished : GoodIn wsX6_rests (wsV RX6 107 RX6 yX6_finished wsX6_finished) := goodIn_app (goodIn_of _ (by decide +kernel)) ggX6_rests_X6_finished
theorem dX6_rests_0 : decode cX6_rests 0 = .ok (.aload_n 0, 1) := by decide +kernel
theorem dX6_rests_1 : decode cX6_rests 1 = .ok (.invokevirtual 100, 3) := by decide +kernel
theorem dX6_rests_4 : decode cX6_rests 4 = .ok (.aload_n 0, 1) := by decide +kernel
theorem dX6_rests_5 : decode cX6_rests 5 = .ok (.aload_n 0, 1) := by decide +kernel
theorem dX6_rests_6 : decode cX6_rests 6 = .ok (.iload_n 1, 1) := by decide +kernel
theorem dX6_rests_7 : decode cX6_rests 7 = .ok (.invokevirtual 123, 3) := by decide +kernel
theorem dX6_rests_10 : decode cX6_rests 10 = .ok (.invokevirtual 107, 3) := by decide +kernel
theorem dX6_rests_13 : decode cX6_rests 13 = .ok (.ireturn, 1) := by decide +kernel
set_option maxRecDepth 20000 in
theorem ggX6_loads_X6_laysAside : GoodIn wsX6_loads wsX6_laysAside := goodIn_r _ [5, 6, 7, 48, 49, 50, 51, 52, 53, 54, 55, 56, 57, 58, 59, 60, 61, 62] (by decide +kernel) (by decide +kernel)
set_option maxRecDepth 20000 in
theorem gX6_loads_X6_laysAside : GoodIn wsX6_loads (wsV RX6 100 RX6 yX6_laysAside wsX6_laysAside) := goodIn_app (goodIn_of _ (by decide +kernel)) ggX6_loads_X6_laysAside
set_option maxRecDepth 20000 in
theorem ggX6_loads_X6_putLoad : GoodIn wsX6_loads wsX6_putLoad := goodIn_r _ [11, 12, 13, 14, 15, 7, 16, 17, 4, 18, 19, 20, 21, 22, 23, 24, 25, 26, 27, 28, 29, 30, 31, 32, 48, 49, 50, 51, 52, 53, 54, 55, 56, 57, 58, 59, 60, 61, 62] (by decide +kernel) (by decide +kernel)
set_option maxRecDepth 20000 in
theorem gX6_loads_X6_putLoad : GoodIn wsX6_loads (wsV RX6 126 RX6 yX6_putLoad wsX6_putLoad) := goodIn_app (goodIn_of _ (by decide +kernel)) ggX6_loads_X6_putLoad
set_option maxRecDepth 20000 in
theorem ggX6_loads_X6_finished : GoodIn wsX6_loads wsX6_finished := goodIn_r _ [36, 15, 37, 38, 39, 4, 40, 41, 42, 43, 44, 45, 46, 47, 6, 48, 49, 50, 51, 52, 53, 54, 55, 56, 57, 58, 59, 60, 61, 62] (by decide +kernel) (by decide +kernel)
set_option maxRecDepth 20000 in
theorem gX6_loads_X6_finished : GoodIn wsX6_loads (wsV RX6 107 RX6 yX6_finished wsX6_finished) := goodIn_app (goodIn_of _ (by decide +kernel)) ggX6_loads_X6_finished
theorem dX6_loads_0 : decode cX6_loads 0 = .ok (.aload_n 0, 1) := by decide +kernel
theorem dX6_loads_1 : decode cX6_loads 1 = .ok (.invokevirtual 100, 3) := by decide +kernel
theorem dX6_loads_4 : decode cX6_loads 4 = .ok (.aload_n 0, 1) := by decide +kernel
theorem dX6_loads_5 : decode cX6_loads 5 = .ok (.aload_n 0, 1) := by decide +kernel
theorem dX6_loads_6 : decode cX6_loads 6 = .ok (.iload_n 1, 1) := by decide +kernel
theorem dX6_loads_7 : decode cX6_loads 7 = .ok (.iload_n 2, 1) := by decide +kernel
theorem dX6_loads_8 : decode cX6_loads 8 = .ok (.invokevirtual 126, 3) := by decide +kernel
theorem dX6_loads_11 : decode cX6_loads 11 = .ok (.invokevirtual 107, 3) := by decide +kernel
theorem dX6_loads_14 : decode cX6_loads 14 = .ok (.ireturn, 1) := by decide +kernel
set_option maxRecDepth 20000 in
theorem ggX6_toldOf_X6_middle : GoodIn wsX6_toldOf wsX6_middle := goodIn_r _ [6, 1, 7, 8, 9, 10, 11, 12, 13, 14, 15, 16, 17, 18, 19, 20, 21, 22] (by decide +kernel) (by decide +kernel)
set_option maxRecDepth 20000 in
theorem gX6_toldOf_X6_middle : GoodIn wsX6_toldOf (wsV RX6 75 RX6 yX6_middle wsX6_middle) := goodIn_app (goodIn_of _ (by decide +kernel)) ggX6_toldOf_X6_middle
theorem dX6_toldOf_0 : decode cX6_toldOf 0 = .ok (.iload_n 1, 1) := by decide +kernel
theorem dX6_toldOf_1 : decode cX6_toldOf 1 = .ok (.iconst 4, 1) := by decide +kernel
theorem dX6_toldOf_2 : decode cX6_toldOf 2 = .ok (.if_icmp .ge 13, 3) := by decide +kernel
theorem dX6_toldOf_5 : decode cX6_toldOf 5 = .ok (.aload_n 0, 1) := by decide +kernel
theorem dX6_toldOf_6 : decode cX6_toldOf 6 = .ok (.getfield 7, 3) := by decide +kernel
theorem dX6_toldOf_9 : decode cX6_toldOf 9 = .ok (.iload_n 1, 1) := by decide +kernel
theorem dX6_toldOf_10 : decode cX6_toldOf 10 = .ok (.laload, 1) := by decide +kernel
theorem dX6_toldOf_11 : decode cX6_toldOf 11 = .ok (.l2i, 1) := by decide +kernel
theorem dX6_toldOf_12 : decode cX6_toldOf 12 = .ok (.goto 24, 3) := by decide +kernel
theorem dX6_toldOf_15 : decode cX6_toldOf 15 = .ok (.iload_n 1, 1) := by decide +kernel
theorem dX6_toldOf_16 : decode cX6_toldOf 16 = .ok (.iconst 4, 1) := by decide +kernel
theorem dX6_toldOf_17 : decode cX6_toldOf 17 = .ok (.if_icmp .ne 10, 3) := by decide +kernel
theorem dX6_toldOf_20 : decode cX6_toldOf 20 = .ok (.aload_n 0, 1) := by decide +kernel
theorem dX6_toldOf_21 : decode cX6_toldOf 21 = .ok (.invokevirtual 75, 3) := by decide +kernel
theorem dX6_toldOf_24 : decode cX6_toldOf 24 = .ok (.goto 12, 3) := by decide +kernel
theorem dX6_toldOf_27 : decode cX6_toldOf 27 = .ok (.aload_n 0, 1) := by decide +kernel
theorem dX6_toldOf_28 : decode cX6_toldOf 28 = .ok (.getfield 7, 3) := by decide +kernel
theorem dX6_toldOf_31 : decode cX6_toldOf 31 = .ok (.iload_n 1, 1) := by decide +kernel
theorem dX6_toldOf_32 : decode cX6_toldOf 32 = .ok (.iconst 1, 1) := by decide +kernel
theorem dX6_toldOf_33 : decode cX6_toldOf 33 = .ok (.isub, 1) := by decide +kernel
theorem dX6_toldOf_34 : decode cX6_toldOf 34 = .ok (.laload, 1) := by decide +kernel
theorem dX6_toldOf_35 : decode cX6_toldOf 35 = .ok (.l2i, 1) := by decide +kernel
theorem dX6_toldOf_36 : decode cX6_toldOf 36 = .ok (.ireturn, 1) := by decide +kernel
set_option maxRecDepth 20000 in
theorem ggX6_told_X6_in : GoodIn wsX6_told wsX6_in := goodIn_r _ [6] (by decide +kernel) (by decide +kernel)
set_option maxRecDepth 20000 in
theorem gX6_told_X6_in : GoodIn wsX6_told (va_wsS RX6 69 yX6_in wsX6_in) := goodIn_app (goodIn_of _ (by decide +kernel)) ggX6_told_X6_in
set_option maxRecDepth 20000 in
theorem ggX6_told_X6_toldOf : GoodIn wsX6_told wsX6_toldOf := goodIn_r _ [10, 11, 12, 13, 14, 5, 15, 16, 22, 23, 24, 25, 26, 27, 28, 29, 30, 31, 32, 33, 34, 35, 36] (by decide +kernel) (by decide +kernel)
set_option maxRecDepth 20000 in
theorem gX6_told_X6_toldOf : GoodIn wsX6_told (wsV RX6 131 RX6 yX6_toldOf wsX6_toldOf) := goodIn_app (goodIn_of _ (by decide +kernel)) ggX6_told_X6_toldOf
set_option maxRecDepth 20000 in
theorem ggX6_told_X6_refuses : GoodIn wsX6_told wsX6_refuses := goodIn_r _ [20, 21, 2, 22, 23, 24, 25, 26, 27, 28, 29, 30, 31, 32, 33, 34, 35, 36] (by decide +kernel) (by decide +kernel)
set_option maxRecDepth 20000 in
theorem gX6_told_X6_refuses : GoodIn wsX6_told (wsV RX6 50 RX6 yX6_refuses wsX6_refuses) := goodIn_app (goodIn_of _ (by decide +kernel)) ggX6_told_X6_refuses
theorem dX6_told_0 : decode cX6_told 0 = .ok (.iload_n 1, 1) := by decide +kernel
theorem dX6_told_1 : decode cX6_told 1 = .ok (.i2l, 1) := by decide +kernel
theorem dX6_told_2 : decode cX6_told 2 = .ok (.lconst 0, 1) := by decide +kernel
theorem dX6_told_3 : decode cX6_told 3 = .ok (.ldc2_w 129, 3) := by decide +kernel
theorem dX6_told_6 : decode cX6_told 6 = .ok (.invokestatic 69, 3) := by decide +kernel
theorem dX6_told_9 : decode cX6_told 9 = .ok (.ifCond .eq 11, 3) := by decide +kernel
theorem dX6_told_12 : decode cX6_told 12 = .ok (.aload_n 0, 1) := by decide +kernel
theorem dX6_told_13 : decode cX6_told 13 = .ok (.iload_n 1, 1) := by decide +kernel
theorem dX6_told_14 : decode cX6_told 14 = .ok (.invokevirtual 131, 3) := by decide +kernel
theorem dX6_told_17 : decode cX6_told 17 = .ok (.goto 9, 3) := by decide +kernel
theorem dX6_told_20 : decode cX6_told 20 = .ok (.aload_n 0, 1) := by decide +kernel
theorem dX6_told_21 : decode cX6_told 21 = .ok (.ldc 44, 2) := by decide +kernel
theorem dX6_told_23 : decode cX6_told 23 = .ok (.invokevirtual 50, 3) := by decide +kernel
theorem dX6_told_26 : decode cX6_told 26 = .ok (.ireturn, 1) := by decide +kernel
set_option maxRecDepth 20000 in
theorem ggX6_volts_X6_in : GoodIn wsX6_volts wsX6_in := goodIn_r _ [6] (by decide +kernel) (by decide +kernel)
set_option maxRecDepth 20000 in
theorem gX6_volts_X6_in : GoodIn wsX6_volts (va_wsS RX6 69 yX6_in wsX6_in) := goodIn_app (goodIn_of _ (by decide +kernel)) ggX6_volts_X6_in
set_option maxRecDepth 20000 in
theorem ggX6_volts_X6_voltsAt : GoodIn wsX6_volts wsX6_voltsAt := goodIn_r _ [10, 11, 12, 18, 19, 20, 21, 22, 23, 24, 25, 26, 27, 28, 29, 30, 31, 32] (by decide +kernel) (by decide +kernel)
set_option maxRecDepth 20000 in
theorem gX6_volts_X6_voltsAt : GoodIn wsX6_volts (wsV RX6 64 RX6 yX6_voltsAt wsX6_voltsAt) := goodIn_app (goodIn_of _ (by decide +kernel)) ggX6_volts_X6_voltsAt
set_option maxRecDepth 20000 in
theorem ggX6_volts_X6_refuses : GoodIn wsX6_volts wsX6_refuses := goodIn_r _ [16, 17, 2, 18, 19, 20, 21, 22, 23, 24, 25, 26, 27, 28, 29, 30, 31, 32] (by decide +kernel) (by decide +kernel)
set_option maxRecDepth 20000 in
theorem gX6_volts_X6_refuses : GoodIn wsX6_volts (wsV RX6 50 RX6 yX6_refuses wsX6_refuses) := goodIn_app (goodIn_of _ (by decide +kernel)) ggX6_volts_X6_refuses
theorem dX6_volts_0 : decode cX6_volts 0 = .ok (.iload_n 1, 1) := by decide +kernel
theorem dX6_volts_1 : decode cX6_volts 1 = .ok (.i2l, 1) := by decide +kernel
theorem dX6_volts_2 : decode cX6_volts 2 = .ok (.lconst 0, 1) := by decide +kernel
theorem dX6_volts_3 : decode cX6_volts 3 = .ok (.ldc2_w 32, 3) := by decide +kernel
theorem dX6_volts_6 : decode cX6_volts 6 = .ok (.invokestatic 69, 3) := by decide +kernel
theorem dX6_volts_9 : decode cX6_volts 9 = .ok (.ifCond .eq 11, 3) := by decide +kernel
theorem dX6_volts_12 : decode cX6_volts 12 = .ok (.aload_n 0, 1) := by decide +kernel
theorem dX6_volts_13 : decode cX6_volts 13 = .ok (.iload_n 1, 1) := by decide +kernel
theorem dX6_volts_14 : decode cX6_volts 14 = .ok (.invokevirtual 64, 3) := by decide +kernel
theorem dX6_volts_17 : decode cX6_volts 17 = .ok (.goto 9, 3) := by decide +kernel
theorem dX6_volts_20 : decode cX6_volts 20 = .ok (.aload_n 0, 1) := by decide +kernel
theorem dX6_volts_21 : decode cX6_volts 21 = .ok (.ldc 44, 2) := by decide +kernel
theorem dX6_volts_23 : decode cX6_volts 23 = .ok (.invokevirtual 50, 3) := by decide +kernel
theorem dX6_volts_26 : decode cX6_volts 26 = .ok (.ireturn, 1) := by decide +kernel
set_option maxRecDepth 20000 in
theorem ggX6_inverse_X6_in : GoodIn wsX6_inverse wsX6_in := goodIn_r _ [8] (by decide +kernel) (by decide +kernel)
set_option maxRecDepth 20000 in
theorem gX6_inverse_X6_in : GoodIn wsX6_inverse (va_wsS RX6 69 yX6_in wsX6_in) := goodIn_app (goodIn_of _ (by decide +kernel)) ggX6_inverse_X6_in
set_option maxRecDepth 20000 in
theorem ggX6_inverse_X6_refuses : GoodIn wsX6_inverse wsX6_refuses := goodIn_r _ [12, 13, 2, 25, 26, 27, 28, 29, 30, 31, 32, 33, 34, 35, 36, 37, 38, 39] (by decide +kernel) (by decide +kernel)
set_option maxRecDepth 20000 in
theorem gX6_inverse_X6_refuses : GoodIn wsX6_inverse (wsV RX6 50 RX6 yX6_refuses wsX6_refuses) := goodIn_app (goodIn_of _ (by decide +kernel)) ggX6_inverse_X6_refuses
set_option maxRecDepth 20000 in
theorem ggX6_inverse_X6_turns : GoodIn wsX6_inverse wsX6_turns := goodIn_r _ [17, 18, 19, 3, 4, 20, 21, 22, 7, 23, 24, 25, 26, 27, 28, 29, 30, 31, 32, 33, 34, 35, 36, 37, 38, 39] (by decide +kernel) (by decide +kernel)
set_option maxRecDepth 20000 in
theorem gX6_inverse_X6_turns : GoodIn wsX6_inverse (wsV RX6 89 RX6 yX6_turns wsX6_turns) := goodIn_app (goodIn_of _ (by decide +kernel)) ggX6_inverse_X6_turns
theorem dX6_inverse_0 : decode cX6_inverse 0 = .ok (.iload_n 1, 1) := by decide +kernel
theorem dX6_inverse_1 : decode cX6_inverse 1 = .ok (.i2l, 1) := by decide +kernel
theorem dX6_inverse_2 : decode cX6_inverse 2 = .ok (.lconst 0, 1) := by decide +kernel
theorem dX6_inverse_3 : decode cX6_inverse 3 = .ok (.ldc2_w 73, 3) := by decide +kernel
theorem dX6_inverse_6 : decode cX6_inverse 6 = .ok (.invokestatic 69, 3) := by decide +kernel
theorem dX6_inverse_9 : decode cX6_inverse 9 = .ok (.ifCond .eq 13, 3) := by decide +kernel
theorem dX6_inverse_12 : decode cX6_inverse 12 = .ok (.iload_n 2, 1) := by decide +kernel
theorem dX6_inverse_13 : decode cX6_inverse 13 = .ok (.i2l, 1) := by decide +kernel
theorem dX6_inverse_14 : decode cX6_inverse 14 = .ok (.lconst 0, 1) := by decide +kernel
theorem dX6_inverse_15 : decode cX6_inverse 15 = .ok (.lconst 1, 1) := by decide +kernel
theorem dX6_inverse_16 : decode cX6_inverse 16 = .ok (.invokestatic 69, 3) := by decide +kernel
theorem dX6_inverse_19 : decode cX6_inverse 19 = .ok (.ifCond .ne 10, 3) := by decide +kernel
theorem dX6_inverse_22 : decode cX6_inverse 22 = .ok (.aload_n 0, 1) := by decide +kernel
theorem dX6_inverse_23 : decode cX6_inverse 23 = .ok (.ldc 44, 2) := by decide +kernel
theorem dX6_inverse_25 : decode cX6_inverse 25 = .ok (.invokevirtual 50, 3) := by decide +kernel
theorem dX6_inverse_28 : decode cX6_inverse 28 = .ok (.ireturn, 1) := by decide +kernel
theorem dX6_inverse_29 : decode cX6_inverse 29 = .ok (.aload_n 0, 1) := by decide +kernel
theorem dX6_inverse_30 : decode cX6_inverse 30 = .ok (.iload_n 1, 1) := by decide +kernel
theorem dX6_inverse_31 : decode cX6_inverse 31 = .ok (.invokevirtual 89, 3) := by decide +kernel
theorem dX6_inverse_34 : decode cX6_inverse 34 = .ok (.iload_n 2, 1) := by decide +kernel
theorem dX6_inverse_35 : decode cX6_inverse 35 = .ok (.ifCond .ne 10, 3) := by decide +kernel
theorem dX6_inverse_38 : decode cX6_inverse 38 = .ok (.aload_n 0, 1) := by decide +kernel
theorem dX6_inverse_39 : decode cX6_inverse 39 = .ok (.getfield 58, 3) := by decide +kernel
theorem dX6_inverse_42 : decode cX6_inverse 42 = .ok (.goto 7, 3) := by decide +kernel
theorem dX6_inverse_45 : decode cX6_inverse 45 = .ok (.aload_n 0, 1) := by decide +kernel
theorem dX6_inverse_46 : decode cX6_inverse 46 = .ok (.getfield 61, 3) := by decide +kernel
theorem dX6_inverse_49 : decode cX6_inverse 49 = .ok (.ireturn, 1) := by decide +kernel
theorem dX6_bandOf_0 : decode cX6_bandOf 0 = .ok (.iload_n 2, 1) := by decide +kernel
theorem dX6_bandOf_1 : decode cX6_bandOf 1 = .ok (.iconst 1, 1) := by decide +kernel
theorem dX6_bandOf_2 : decode cX6_bandOf 2 = .ok (.if_icmp .ne 14, 3) := by decide +kernel
theorem dX6_bandOf_5 : decode cX6_bandOf 5 = .ok (.aload_n 0, 1) := by decide +kernel
theorem dX6_bandOf_6 : decode cX6_bandOf 6 = .ok (.getfield 7, 3) := by decide +kernel
theorem dX6_bandOf_9 : decode cX6_bandOf 9 = .ok (.bipush 24, 2) := by decide +kernel
theorem dX6_bandOf_11 : decode cX6_bandOf 11 = .ok (.iload_n 1, 1) := by decide +kernel
theorem dX6_bandOf_12 : decode cX6_bandOf 12 = .ok (.iadd, 1) := by decide +kernel
theorem dX6_bandOf_13 : decode cX6_bandOf 13 = .ok (.laload, 1) := by decide +kernel
theorem dX6_bandOf_14 : decode cX6_bandOf 14 = .ok (.l2i, 1) := by decide +kernel
theorem dX6_bandOf_15 : decode cX6_bandOf 15 = .ok (.ireturn, 1) := by decide +kernel
theorem dX6_bandOf_16 : decode cX6_bandOf 16 = .ok (.aload_n 0, 1) := by decide +kernel
theorem dX6_bandOf_17 : decode cX6_bandOf 17 = .ok (.getfield 7, 3) := by decide +kernel
theorem dX6_bandOf_20 : decode cX6_bandOf 20 = .ok (.bipush 24, 2) := by decide +kernel
theorem dX6_bandOf_22 : decode cX6_bandOf 22 = .ok (.iload_n 1, 1) := by decide +kernel
theorem dX6_bandOf_23 : decode cX6_bandOf 23 = .ok (.iadd, 1) := by decide +kernel
theorem dX6_bandOf_24 : decode cX6_bandOf 24 = .ok (.laload, 1) := by decide +kernel
theorem dX6_bandOf_25 : decode cX6_bandOf 25 = .ok (.lconst 0, 1) := by decide +kernel
theorem dX6_bandOf_26 : decode cX6_bandOf 26 = .ok (.lcmp, 1) := by decide +kernel
theorem dX6_bandOf_27 : decode cX6_bandOf 27 = .ok (.ifCond .ne 8, 3) := by decide +kernel
theorem dX6_bandOf_30 : decode cX6_bandOf 30 = .ok (.ldc 57, 2) := by decide +kernel
theorem dX6_bandOf_32 : decode cX6_bandOf 32 = .ok (.goto 23, 3) := by decide +kernel
theorem dX6_bandOf_35 : decode cX6_bandOf 35 = .ok (.aload_n 0, 1) := by decide +kernel
theorem dX6_bandOf_36 : decode cX6_bandOf 36 = .ok (.getfield 7, 3) := by decide +kernel
theorem dX6_bandOf_39 : decode cX6_bandOf 39 = .ok (.bipush 46, 2) := by decide +kernel
theorem dX6_bandOf_41 : decode cX6_bandOf 41 = .ok (.iload_n 1, 1) := by decide +kernel
theorem dX6_bandOf_42 : decode cX6_bandOf 42 = .ok (.iadd, 1) := by decide +kernel
theorem dX6_bandOf_43 : decode cX6_bandOf 43 = .ok (.laload, 1) := by decide +kernel
theorem dX6_bandOf_44 : decode cX6_bandOf 44 = .ok (.aload_n 0, 1) := by decide +kernel
theorem dX6_bandOf_45 : decode cX6_bandOf 45 = .ok (.getfield 7, 3) := by decide +kernel
theorem dX6_bandOf_48 : decode cX6_bandOf 48 = .ok (.bipush 24, 2) := by decide +kernel
theorem dX6_bandOf_50 : decode cX6_bandOf 50 = .ok (.iload_n 1, 1) := by decide +kernel
theorem dX6_bandOf_51 : decode cX6_bandOf 51 = .ok (.iadd, 1) := by decide +kernel
theorem dX6_bandOf_52 : decode cX6_bandOf 52 = .ok (.laload, 1) := by decide +kernel
theorem dX6_bandOf_53 : decode cX6_bandOf 53 = .ok (.ldiv, 1) := by decide +kernel
theorem dX6_bandOf_54 : decode cX6_bandOf 54 = .ok (.l2i, 1) := by decide +kernel
theorem dX6_bandOf_55 : decode cX6_bandOf 55 = .ok (.ireturn, 1) := by decide +kernel
set_option maxRecDepth 20000 in
theorem ggX6_band_X6_in : GoodIn wsX6_band wsX6_in := goodIn_r _ [6] (by decide +kernel) (by decide +kernel)
set_option maxRecDepth 20000 in
theorem gX6_band_X6_in : GoodIn wsX6_band (va_wsS RX6 69 yX6_in wsX6_in) := goodIn_app (goodIn_of _ (by decide +kernel)) ggX6_band_X6_in
set_option maxRecDepth 20000 in
theorem ggX6_band_X6_bandOf : GoodIn wsX6_band wsX6_bandOf := goodIn_r _ [10, 11, 12, 18, 19, 20, 21, 22, 23, 24, 25, 26, 27, 28, 29, 30, 31, 32] (by decide +kernel) (by decide +kernel)
set_option maxRecDepth 20000 in
theorem gX6_band_X6_bandOf : GoodIn wsX6_band (wsV RX6 134 RX6 yX6_bandOf wsX6_bandOf) := goodIn_app (goodIn_of _ (by decide +kernel)) ggX6_band_X6_bandOf
set_option maxRecDepth 20000 in
theorem ggX6_band_X6_refuses : GoodIn wsX6_band wsX6_refuses := goodIn_r _ [16, 17, 2, 18, 19, 20, 21, 22, 23, 24, 25, 26, 27, 28, 29, 30, 31, 32] (by decide +kernel) (by decide +kernel)
set_option maxRecDepth 20000 in
theorem gX6_band_X6_refuses : GoodIn wsX6_band (wsV RX6 50 RX6 yX6_refuses wsX6_refuses) := goodIn_app (goodIn_of _ (by decide +kernel)) ggX6_band_X6_refuses
theorem dX6_band_0 : decode cX6_band 0 = .ok (.iload_n 1, 1) := by decide +kernel
theorem dX6_band_1 : decode cX6_band 1 = .ok (.i2l, 1) := by decide +kernel
theorem dX6_band_2 : decode cX6_band 2 = .ok (.lconst 0, 1) := by decide +kernel
theorem dX6_band_3 : decode cX6_band 3 = .ok (.lconst 1, 1) := by decide +kernel
theorem dX6_band_4 : decode cX6_band 4 = .ok (.invokestatic 69, 3) := by decide +kernel
theorem dX6_band_7 : decode cX6_band 7 = .ok (.ifCond .eq 29, 3) := by decide +kernel
theorem dX6_band_10 : decode cX6_band 10 = .ok (.iload_n 2, 1) := by decide +kernel
theorem dX6_band_11 : decode cX6_band 11 = .ok (.i2l, 1) := by decide +kernel
theorem dX6_band_12 : decode cX6_band 12 = .ok (.lconst 0, 1) := by decide +kernel
theorem dX6_band_13 : decode cX6_band 13 = .ok (.ldc2_w 40, 3) := by decide +kernel
theorem dX6_band_16 : decode cX6_band 16 = .ok (.invokestatic 69, 3) := by decide +kernel
theorem dX6_band_19 : decode cX6_band 19 = .ok (.ifCond .eq 17, 3) := by decide +kernel
theorem dX6_band_22 : decode cX6_band 22 = .ok (.iload_n 3, 1) := by decide +kernel
theorem dX6_band_23 : decode cX6_band 23 = .ok (.i2l, 1) := by decide +kernel
theorem dX6_band_24 : decode cX6_band 24 = .ok (.lconst 0, 1) := by decide +kernel
theorem dX6_band_25 : decode cX6_band 25 = .ok (.lconst 1, 1) := by decide +kernel
theorem dX6_band_26 : decode cX6_band 26 = .ok (.invokestatic 69, 3) := by decide +kernel
theorem dX6_band_29 : decode cX6_band 29 = .ok (.ifCond .eq 7, 3) := by decide +kernel
theorem dX6_band_32 : decode cX6_band 32 = .ok (.iconst 1, 1) := by decide +kernel
theorem dX6_band_33 : decode cX6_band 33 = .ok (.goto 4, 3) := by decide +kernel
theorem dX6_band_36 : decode cX6_band 36 = .ok (.iconst 0, 1) := by decide +kernel
theorem dX6_band_37 : decode cX6_band 37 = .ok (.istore 4, 2) := by decide +kernel
theorem dX6_band_39 : decode cX6_band 39 = .ok (.iload 4, 2) := by decide +kernel
theorem dX6_band_41 : decode cX6_band 41 = .ok (.ifCond .eq 17, 3) := by decide +kernel
theorem dX6_band_44 : decode cX6_band 44 = .ok (.aload_n 0, 1) := by decide +kernel
theorem dX6_band_45 : decode cX6_band 45 = .ok (.bipush 11, 2) := by decide +kernel
theorem dX6_band_47 : decode cX6_band 47 = .ok (.iload_n 1, 1) := by decide +kernel
theorem dX6_band_48 : decode cX6_band 48 = .ok (.imul, 1) := by decide +kernel
theorem dX6_band_49 : decode cX6_band 49 = .ok (.iload_n 2, 1) := by decide +kernel
theorem dX6_band_50 : decode cX6_band 50 = .ok (.iadd, 1) := by decide +kernel
theorem dX6_band_51 : decode cX6_band 51 = .ok (.iload_n 3, 1) := by decide +kernel
theorem dX6_band_52 : decode cX6_band 52 = .ok (.invokevirtual 134, 3) := by decide +kernel
theorem dX6_band_55 : decode cX6_band 55 = .ok (.goto 9, 3) := by decide +kernel
theorem dX6_band_58 : decode cX6_band 58 = .ok (.aload_n 0, 1) := by decide +kernel
theorem dX6_band_59 : decode cX6_band 59 = .ok (.ldc 44, 2) := by decide +kernel
theorem dX6_band_61 : decode cX6_band 61 = .ok (.invokevirtual 50, 3) := by decide +kernel
theorem dX6_band_64 : decode cX6_band 64 = .ok (.ireturn, 1) := by decide +kernel
theorem dX6_bands_0 : decode cX6_bands 0 = .ok (.iconst 0, 1) := by decide +kernel
theorem dX6_bands_1 : decode cX6_bands 1 = .ok (.istore_n 1, 1) := by decide +kernel
theorem dX6_bands_2 : decode cX6_bands 2 = .ok (.iconst 0, 1) := by decide +kernel
theorem dX6_bands_3 : decode cX6_bands 3 = .ok (.istore_n 2, 1) := by decide +kernel
theorem dX6_bands_4 : decode cX6_bands 4 = .ok (.iload_n 2, 1) := by decide +kernel
theorem dX6_bands_5 : decode cX6_bands 5 = .ok (.bipush 22, 2) := by decide +kernel
theorem dX6_bands_7 : decode cX6_bands 7 = .ok (.if_icmp .ge 31, 3) := by decide +kernel
theorem dX6_bands_10 : decode cX6_bands 10 = .ok (.iload_n 1, 1) := by decide +kernel
theorem dX6_bands_11 : decode cX6_bands 11 = .ok (.aload_n 0, 1) := by decide +kernel
theorem dX6_bands_12 : decode cX6_bands 12 = .ok (.getfield 7, 3) := by decide +kernel
theorem dX6_bands_15 : decode cX6_bands 15 = .ok (.bipush 24, 2) := by decide +kernel
theorem dX6_bands_17 : decode cX6_bands 17 = .ok (.iload_n 2, 1) := by decide +kernel
theorem dX6_bands_18 : decode cX6_bands 18 = .ok (.iadd, 1) := by decide +kernel
theorem dX6_bands_19 : decode cX6_bands 19 = .ok (.laload, 1) := by decide +kernel
theorem dX6_bands_20 : decode cX6_bands 20 = .ok (.lconst 0, 1) := by decide +kernel
theorem dX6_bands_21 : decode cX6_bands 21 = .ok (.lcmp, 1) := by decide +kernel
theorem dX6_bands_22 : decode cX6_bands 22 = .ok (.ifCond .le 7, 3) := by decide +kernel
theorem dX6_bands_25 : decode cX6_bands 25 = .ok (.iconst 1, 1) := by decide +kernel
theorem dX6_bands_26 : decode cX6_bands 26 = .ok (.goto 4, 3) := by decide +kernel
theorem dX6_bands_29 : decode cX6_bands 29 = .ok (.iconst 0, 1) := by decide +kernel
theorem dX6_bands_30 : decode cX6_bands 30 = .ok (.iadd, 1) := by decide +kernel
theorem dX6_bands_31 : decode cX6_bands 31 = .ok (.istore_n 1, 1) := by decide +kernel
theorem dX6_bands_32 : decode cX6_bands 32 = .ok (.iinc 2 1, 3) := by decide +kernel
theorem dX6_bands_35 : decode cX6_bands 35 = .ok (.goto (-31), 3) := by decide +kernel
theorem dX6_bands_38 : decode cX6_bands 38 = .ok (.iload_n 1, 1) := by decide +kernel
theorem dX6_bands_39 : decode cX6_bands 39 = .ok (.ireturn, 1) := by decide +kernel
theorem dX6_lastsBy_0 : decode cX6_lastsBy 0 = .ok (.aload_n 0, 1) := by decide +kernel
theorem dX6_lastsBy_1 : decode cX6_lastsBy 1 = .ok (.getfield 7, 3) := by decide +kernel
theorem dX6_lastsBy_4 : decode cX6_lastsBy 4 = .ok (.bipush 11, 2) := by decide +kernel
theorem dX6_lastsBy_6 : decode cX6_lastsBy 6 = .ok (.laload, 1) := by decide +kernel
theorem dX6_lastsBy_7 : decode cX6_lastsBy 7 = .ok (.lstore_n 3, 1) := by decide +kernel
theorem dX6_lastsBy_8 : decode cX6_lastsBy 8 = .ok (.iload_n 2, 1) := by decide +kernel
theorem dX6_lastsBy_9 : decode cX6_lastsBy 9 = .ok (.ifCond .ne 16, 3) := by decide +kernel
theorem dX6_lastsBy_12 : decode cX6_lastsBy 12 = .ok (.aload_n 0, 1) := by decide +kernel
theorem dX6_lastsBy_13 : decode cX6_lastsBy 13 = .ok (.getfield 7, 3) := by decide +kernel
theorem dX6_lastsBy_16 : decode cX6_lastsBy 16 = .ok (.iconst 0, 1) := by decide +kernel
theorem dX6_lastsBy_17 : decode cX6_lastsBy 17 = .ok (.laload, 1) := by decide +kernel
theorem dX6_lastsBy_18 : decode cX6_lastsBy 18 = .ok (.iload_n 1, 1) := by decide +kernel
theorem dX6_lastsBy_19 : decode cX6_lastsBy 19 = .ok (.i2l, 1) := by decide +kernel
theorem dX6_lastsBy_20 : decode cX6_lastsBy 20 = .ok (.lload_n 3, 1) := by decide +kernel
theorem dX6_lastsBy_21 : decode cX6_lastsBy 21 = .ok (.ladd, 1) := by decide +kernel
theorem dX6_lastsBy_22 : decode cX6_lastsBy 22 = .ok (.ldiv, 1) := by decide +kernel
theorem dX6_lastsBy_23 : decode cX6_lastsBy 23 = .ok (.l2i, 1) := by decide +kernel
theorem dX6_lastsBy_24 : decode cX6_lastsBy 24 = .ok (.ireturn, 1) := by decide +kernel
theorem dX6_lastsBy_25 : decode cX6_lastsBy 25 = .ok (.iload_n 1, 1) := by decide +kernel
theorem dX6_lastsBy_26 : decode cX6_lastsBy 26 = .ok (.i2l, 1) := by decide +kernel
theorem dX6_lastsBy_27 : decode cX6_lastsBy 27 = .ok (.lload_n 3, 1) := by decide +kernel
theorem dX6_lastsBy_28 : decode cX6_lastsBy 28 = .ok (.lcmp, 1) := by decide +kernel
theorem dX6_lastsBy_29 : decode cX6_lastsBy 29 = .ok (.ifCond .gt 8, 3) := by decide +kernel
theorem dX6_lastsBy_32 : decode cX6_lastsBy 32 = .ok (.ldc 57, 2) := by decide +kernel
theorem dX6_lastsBy_34 : decode cX6_lastsBy 34 = .ok (.goto 15, 3) := by decide +kernel
theorem dX6_lastsBy_37 : decode cX6_lastsBy 37 = .ok (.aload_n 0, 1) := by decide +kernel
theorem dX6_lastsBy_38 : decode cX6_lastsBy 38 = .ok (.getfield 7, 3) := by decide +kernel
theorem dX6_lastsBy_41 : decode cX6_lastsBy 41 = .ok (.iconst 1, 1) := by decide +kernel
theorem dX6_lastsBy_42 : decode cX6_lastsBy 42 = .ok (.laload, 1) := by decide +kernel
theorem dX6_lastsBy_43 : decode cX6_lastsBy 43 = .ok (.iload_n 1, 1) := by decide +kernel
theorem dX6_lastsBy_44 : decode cX6_lastsBy 44 = .ok (.i2l, 1) := by decide +kernel
theorem dX6_lastsBy_45 : decode cX6_lastsBy 45 = .ok (.lload_n 3, 1) := by decide +kernel
theorem dX6_lastsBy_46 : decode cX6_lastsBy 46 = .ok (.lsub, 1) := by decide +kernel
theorem dX6_lastsBy_47 : decode cX6_lastsBy 47 = .ok (.ldiv, 1) := by decide +kernel
theorem dX6_lastsBy_48 : decode cX6_lastsBy 48 = .ok (.l2i, 1) := by decide +kernel
theorem dX6_lastsBy_49 : decode cX6_lastsBy 49 = .ok (.ireturn, 1) := by decide +kernel
set_option maxRecDepth 20000 in
theorem ggX6_lasts_X6_in : GoodIn wsX6_lasts wsX6_in := goodIn_r _ [6] (by decide +kernel) (by decide +kernel)
set_option maxRecDepth 20000 in
theorem gX6_lasts_X6_in : GoodIn wsX6_lasts (va_wsS RX6 69 yX6_in wsX6_in) := goodIn_app (goodIn_of _ (by decide +kernel)) ggX6_lasts_X6_in
set_option maxRecDepth 20000 in
theorem ggX6_lasts_X6_lastsBy : GoodIn wsX6_lasts wsX6_lastsBy := goodIn_r _ [10, 11, 12, 18, 19, 20, 21, 22, 23, 24, 25, 26, 27, 28, 29, 30, 31, 32] (by decide +kernel) (by decide +kernel)
set_option maxRecDepth 20000 in
theorem gX6_lasts_X6_lastsBy : GoodIn wsX6_lasts (wsV RX6 137 RX6 yX6_lastsBy wsX6_lastsBy) := goodIn_app (goodIn_of _ (by decide +kernel)) ggX6_lasts_X6_lastsBy
set_option maxRecDepth 20000 in
theorem ggX6_lasts_X6_refuses : GoodIn wsX6_lasts wsX6_refuses := goodIn_r _ [16, 17, 2, 18, 19, 20, 21, 22, 23, 24, 25, 26, 27, 28, 29, 30, 31, 32] (by decide +kernel) (by decide +kernel)
set_option maxRecDepth 20000 in
theorem gX6_lasts_X6_refuses : GoodIn wsX6_lasts (wsV RX6 50 RX6 yX6_refuses wsX6_refuses) := goodIn_app (goodIn_of _ (by decide +kernel)) ggX6_lasts_X6_refuses
theorem dX6_lasts_0 : decode cX6_lasts 0 = .ok (.iload_n 1, 1) := by decide +kernel
theorem dX6_lasts_1 : decode cX6_lasts 1 = .ok (.i2l, 1) := by decide +kernel
theorem dX6_lasts_2 : decode cX6_lasts 2 = .ok (.lconst 1, 1) := by decide +kernel
theorem dX6_lasts_3 : decode cX6_lasts 3 = .ok (.ldc2_w 81, 3) := by decide +kernel
theorem dX6_lasts_6 : decode cX6_lasts 6 = .ok (.invokestatic 69, 3) := by decide +kernel
theorem dX6_lasts_9 : decode cX6_lasts 9 = .ok (.ifCond .eq 22, 3) := by decide +kernel
theorem dX6_lasts_12 : decode cX6_lasts 12 = .ok (.iload_n 2, 1) := by decide +kernel
theorem dX6_lasts_13 : decode cX6_lasts 13 = .ok (.i2l, 1) := by decide +kernel
theorem dX6_lasts_14 : decode cX6_lasts 14 = .ok (.lconst 0, 1) := by decide +kernel
theorem dX6_lasts_15 : decode cX6_lasts 15 = .ok (.lconst 1, 1) := by decide +kernel
theorem dX6_lasts_16 : decode cX6_lasts 16 = .ok (.invokestatic 69, 3) := by decide +kernel
theorem dX6_lasts_19 : decode cX6_lasts 19 = .ok (.ifCond .eq 12, 3) := by decide +kernel
theorem dX6_lasts_22 : decode cX6_lasts 22 = .ok (.aload_n 0, 1) := by decide +kernel
theorem dX6_lasts_23 : decode cX6_lasts 23 = .ok (.iload_n 1, 1) := by decide +kernel
theorem dX6_lasts_24 : decode cX6_lasts 24 = .ok (.iload_n 2, 1) := by decide +kernel
theorem dX6_lasts_25 : decode cX6_lasts 25 = .ok (.invokevirtual 137, 3) := by decide +kernel
theorem dX6_lasts_28 : decode cX6_lasts 28 = .ok (.goto 9, 3) := by decide +kernel
theorem dX6_lasts_31 : decode cX6_lasts 31 = .ok (.aload_n 0, 1) := by decide +kernel
theorem dX6_lasts_32 : decode cX6_lasts 32 = .ok (.ldc 44, 2) := by decide +kernel
theorem dX6_lasts_34 : decode cX6_lasts 34 = .ok (.invokevirtual 50, 3) := by decide +kernel
theorem dX6_lasts_37 : decode cX6_lasts 37 = .ok (.ireturn, 1) := by decide +kernel
set_option maxRecDepth 20000 in
theorem ggX6_under_X6_in : GoodIn wsX6_under wsX6_in := goodIn_r _ [9] (by decide +kernel) (by decide +kernel)
set_option maxRecDepth 20000 in
theorem gX6_under_X6_in : GoodIn wsX6_under (va_wsS RX6 69 yX6_in wsX6_in) := goodIn_app (goodIn_of _ (by decide +kernel)) ggX6_under_X6_in
set_option maxRecDepth 20000 in
theorem ggX6_under_X6_refuses : GoodIn wsX6_under wsX6_refuses := goodIn_r _ [13, 14, 3, 34, 35, 36, 37, 38, 39, 40, 41, 42, 43, 44, 45, 46, 47, 48] (by decide +kernel) (by decide +kernel)
set_option maxRecDepth 20000 in
theorem gX6_under_X6_refuses : GoodIn wsX6_under (wsV RX6 50 RX6 yX6_refuses wsX6_refuses) := goodIn_app (goodIn_of _ (by decide +kernel)) ggX6_under_X6_refuses
set_option maxRecDepth 20000 in
theorem ggX6_under_X6_bandNow : GoodIn wsX6_under wsX6_bandNow := goodIn_r _ [18, 19, 20, 21, 8, 22, 23, 24, 34, 35, 36, 37, 38, 39, 40, 41, 42, 43, 44, 45, 46, 47, 48] (by decide +kernel) (by decide +kernel)
set_option maxRecDepth 20000 in
theorem gX6_under_X6_bandNow : GoodIn wsX6_under (wsV RX6 97 RX6 yX6_bandNow wsX6_bandNow) := goodIn_app (goodIn_of _ (by decide +kernel)) ggX6_under_X6_bandNow
set_option maxRecDepth 20000 in
theorem ggX6_under_X6_bandOf : GoodIn wsX6_under wsX6_bandOf := goodIn_r _ [28, 23, 4, 34, 35, 36, 37, 38, 39, 40, 41, 42, 43, 44, 45, 46, 47, 48] (by decide +kernel) (by decide +kernel)
set_option maxRecDepth 20000 in
theorem gX6_under_X6_bandOf : GoodIn wsX6_under (wsV RX6 134 RX6 yX6_bandOf wsX6_bandOf) := goodIn_app (goodIn_of _ (by decide +kernel)) ggX6_under_X6_bandOf
set_option maxRecDepth 20000 in
theorem ggX6_under_X6_middle : GoodIn wsX6_under wsX6_middle := goodIn_r _ [22, 23, 24, 34, 35, 36, 37, 38, 39, 40, 41, 42, 43, 44, 45, 46, 47, 48] (by decide +kernel) (by decide +kernel)
set_option maxRecDepth 20000 in
theorem gX6_under_X6_middle : GoodIn wsX6_under (wsV RX6 75 RX6 yX6_middle wsX6_middle) := goodIn_app (goodIn_of _ (by decide +kernel)) ggX6_under_X6_middle
set_option maxRecDepth 20000 in
theorem ggX6_under_X6_voltsAt : GoodIn wsX6_under wsX6_voltsAt := goodIn_r _ [32, 23, 33, 34, 35, 36, 37, 38, 39, 40, 41, 42, 43, 44, 45, 46, 47, 48] (by decide +kernel) (by decide +kernel)
set_option maxRecDepth 20000 in
theorem gX6_under_X6_voltsAt : GoodIn wsX6_under (wsV RX6 64 RX6 yX6_voltsAt wsX6_voltsAt) := goodIn_app (goodIn_of _ (by decide +kernel)) ggX6_under_X6_voltsAt
theorem dX6_under_0 : decode cX6_under 0 = .ok (.iload_n 1, 1) := by decide +kernel
theorem dX6_under_1 : decode cX6_under 1 = .ok (.i2l, 1) := by decide +kernel
theorem dX6_under_2 : decode cX6_under 2 = .ok (.ldc2_w 79, 3) := by decide +kernel
theorem dX6_under_5 : decode cX6_under 5 = .ok (.ldc2_w 81, 3) := by decide +kernel
theorem dX6_under_8 : decode cX6_under 8 = .ok (.invokestatic 69, 3) := by decide +kernel
theorem dX6_under_11 : decode cX6_under 11 = .ok (.ifCond .eq 7, 3) := by decide +kernel
theorem dX6_under_14 : decode cX6_under 14 = .ok (.iload_n 1, 1) := by decide +kernel
theorem dX6_under_15 : decode cX6_under 15 = .ok (.ifCond .ne 10, 3) := by decide +kernel
theorem dX6_under_18 : decode cX6_under 18 = .ok (.aload_n 0, 1) := by decide +kernel
theorem dX6_under_19 : decode cX6_under 19 = .ok (.ldc 44, 2) := by decide +kernel
theorem dX6_under_21 : decode cX6_under 21 = .ok (.invokevirtual 50, 3) := by decide +kernel
theorem dX6_under_24 : decode cX6_under 24 = .ok (.ireturn, 1) := by decide +kernel
theorem dX6_under_25 : decode cX6_under 25 = .ok (.aload_n 0, 1) := by decide +kernel
theorem dX6_under_26 : decode cX6_under 26 = .ok (.aload_n 0, 1) := by decide +kernel
theorem dX6_under_27 : decode cX6_under 27 = .ok (.iload_n 1, 1) := by decide +kernel
theorem dX6_under_28 : decode cX6_under 28 = .ok (.invokevirtual 97, 3) := by decide +kernel
theorem dX6_under_31 : decode cX6_under 31 = .ok (.iconst 0, 1) := by decide +kernel
theorem dX6_under_32 : decode cX6_under 32 = .ok (.invokevirtual 134, 3) := by decide +kernel
theorem dX6_under_35 : decode cX6_under 35 = .ok (.istore_n 2, 1) := by decide +kernel
theorem dX6_under_36 : decode cX6_under 36 = .ok (.iload_n 2, 1) := by decide +kernel
theorem dX6_under_37 : decode cX6_under 37 = .ok (.ldc 57, 2) := by decide +kernel
theorem dX6_under_39 : decode cX6_under 39 = .ok (.if_icmp .ne 12, 3) := by decide +kernel
theorem dX6_under_42 : decode cX6_under 42 = .ok (.aload_n 0, 1) := by decide +kernel
theorem dX6_under_43 : decode cX6_under 43 = .ok (.ldc 49, 2) := by decide +kernel
theorem dX6_under_45 : decode cX6_under 45 = .ok (.invokevirtual 50, 3) := by decide +kernel
theorem dX6_under_48 : decode cX6_under 48 = .ok (.goto 18, 3) := by decide +kernel
theorem dX6_under_51 : decode cX6_under 51 = .ok (.aload_n 0, 1) := by decide +kernel
theorem dX6_under_52 : decode cX6_under 52 = .ok (.aload_n 0, 1) := by decide +kernel
theorem dX6_under_53 : decode cX6_under 53 = .ok (.invokevirtual 75, 3) := by decide +kernel
theorem dX6_under_56 : decode cX6_under 56 = .ok (.invokevirtual 64, 3) := by decide +kernel
theorem dX6_under_59 : decode cX6_under 59 = .ok (.iload_n 1, 1) := by decide +kernel
theorem dX6_under_60 : decode cX6_under 60 = .ok (.iload_n 2, 1) := by decide +kernel
theorem dX6_under_61 : decode cX6_under 61 = .ok (.imul, 1) := by decide +kernel
theorem dX6_under_62 : decode cX6_under 62 = .ok (.bipush 100, 2) := by decide +kernel
theorem dX6_under_64 : decode cX6_under 64 = .ok (.idiv, 1) := by decide +kernel
theorem dX6_under_65 : decode cX6_under 65 = .ok (.isub, 1) := by decide +kernel
theorem dX6_under_66 : decode cX6_under 66 = .ok (.ireturn, 1) := by decide +kernel
set_option maxRecDepth 20000 in
theorem ggX6_setting_X6_in : GoodIn wsX6_setting wsX6_in := goodIn_r _ [7] (by decide +kernel) (by decide +kernel)
set_option maxRecDepth 20000 in
theorem gX6_setting_X6_in : GoodIn wsX6_setting (va_wsS RX6 69 yX6_in wsX6_in) := goodIn_app (goodIn_of _ (by decide +kernel)) ggX6_setting_X6_in
set_option maxRecDepth 20000 in
theorem ggX6_setting_X6_refuses : GoodIn wsX6_setting wsX6_refuses := goodIn_r _ [11, 12, 3, 13, 14, 15, 16, 17, 18, 19, 20, 21, 22, 23, 24, 25, 26, 27] (by decide +kernel) (by decide +kernel)
set_option maxRecDepth 20000 in
theorem gX6_setting_X6_refuses : GoodIn wsX6_setting (wsV RX6 50 RX6 yX6_refuses wsX6_refuses) := goodIn_app (goodIn_of _ (by decide +kernel)) ggX6_setting_X6_refuses
theorem dX6_setting_0 : decode cX6_setting 0 = .ok (.iload_n 1, 1) := by decide +kernel
theorem dX6_setting_1 : decode cX6_setting 1 = .ok (.i2l, 1) := by decide +kernel
theorem dX6_setting_2 : decode cX6_setting 2 = .ok (.lconst 0, 1) := by decide +kernel
theorem dX6_setting_3 : decode cX6_setting 3 = .ok (.ldc2_w 140, 3) := by decide +kernel
theorem dX6_setting_6 : decode cX6_setting 6 = .ok (.invokestatic 69, 3) := by decide +kernel
theorem dX6_setting_9 : decode cX6_setting 9 = .ok (.ifCond .eq 16, 3) := by decide +kernel
theorem dX6_setting_12 : decode cX6_setting 12 = .ok (.aload_n 0, 1) := by decide +kernel
theorem dX6_setting_13 : decode cX6_setting 13 = .ok (.getfield 7, 3) := by decide +kernel
theorem dX6_setting_16 : decode cX6_setting 16 = .ok (.bipush 11, 2) := by decide +kernel
theorem dX6_setting_18 : decode cX6_setting 18 = .ok (.iload_n 1, 1) := by decide +kernel
theorem dX6_setting_19 : decode cX6_setting 19 = .ok (.iadd, 1) := by decide +kernel
theorem dX6_setting_20 : decode cX6_setting 20 = .ok (.laload, 1) := by decide +kernel
theorem dX6_setting_21 : decode cX6_setting 21 = .ok (.l2i, 1) := by decide +kernel
theorem dX6_setting_22 : decode cX6_setting 22 = .ok (.goto 9, 3) := by decide +kernel
theorem dX6_setting_25 : decode cX6_setting 25 = .ok (.aload_n 0, 1) := by decide +kernel
theorem dX6_setting_26 : decode cX6_setting 26 = .ok (.ldc 44, 2) := by decide +kernel
theorem dX6_setting_28 : decode cX6_setting 28 = .ok (.invokevirtual 50, 3) := by decide +kernel
theorem dX6_setting_31 : decode cX6_setting 31 = .ok (.ireturn, 1) := by decide +kernel
set_option maxRecDepth 20000 in
theorem ggX6_type_X6_in : GoodIn wsX6_type wsX6_in := goodIn_r _ [9] (by decide +kernel) (by decide +kernel)
set_option maxRecDepth 20000 in
theorem gX6_type_X6_in : GoodIn wsX6_type (va_wsS RX6 69 yX6_in wsX6_in) := goodIn_app (goodIn_of _ (by decide +kernel)) ggX6_type_X6_in
set_option maxRecDepth 20000 in
theorem ggX6_type_X6_refuses : GoodIn wsX6_type wsX6_refuses := goodIn_r _ [13, 14, 2, 15, 16, 17, 18, 19, 20, 21, 22, 23, 24, 25, 26, 27, 28, 29] (by decide +kernel) (by decide +kernel)
set_option maxRecDepth 20000 in
theorem gX6_type_X6_refuses : GoodIn wsX6_type (wsV RX6 50 RX6 yX6_refuses wsX6_refuses) := goodIn_app (goodIn_of _ (by decide +kernel)) ggX6_type_X6_refuses
theorem dX6_type_0 : decode cX6_type 0 = .ok (.iload_n 1, 1) := by decide +kernel
theorem dX6_type_1 : decode cX6_type 1 = .ok (.i2l, 1) := by decide +kernel
theorem dX6_type_2 : decode cX6_type 2 = .ok (.lconst 0, 1) := by decide +kernel
theorem dX6_type_3 : decode cX6_type 3 = .ok (.ldc2_w 142, 3) := by decide +kernel
theorem dX6_type_6 : decode cX6_type 6 = .ok (.invokestatic 69, 3) := by decide +kernel
theorem dX6_type_9 : decode cX6_type 9 = .ok (.ifCond .ne 10, 3) := by decide +kernel
theorem dX6_type_12 : decode cX6_type 12 = .ok (.aload_n 0, 1) := by decide +kernel
theorem dX6_type_13 : decode cX6_type 13 = .ok (.ldc 44, 2) := by decide +kernel
theorem dX6_type_15 : decode cX6_type 15 = .ok (.invokevirtual 50, 3) := by decide +kernel
theorem dX6_type_18 : decode cX6_type 18 = .ok (.ireturn, 1) := by decide +kernel
theorem dX6_type_19 : decode cX6_type 19 = .ok (.aload_n 0, 1) := by decide +kernel
theorem dX6_type_20 : decode cX6_type 20 = .ok (.getfield 144, 3) := by decide +kernel
theorem dX6_type_23 : decode cX6_type 23 = .ok (.bipush 120, 2) := by decide +kernel
theorem dX6_type_25 : decode cX6_type 25 = .ok (.if_icmp .ne 10, 3) := by decide +kernel
theorem dX6_type_28 : decode cX6_type 28 = .ok (.aload_n 0, 1) := by decide +kernel
theorem dX6_type_29 : decode cX6_type 29 = .ok (.ldc 147, 2) := by decide +kernel
theorem dX6_type_31 : decode cX6_type 31 = .ok (.invokevirtual 50, 3) := by decide +kernel
theorem dX6_type_34 : decode cX6_type 34 = .ok (.ireturn, 1) := by decide +kernel
theorem dX6_type_35 : decode cX6_type 35 = .ok (.aload_n 0, 1) := by decide +kernel
theorem dX6_type_36 : decode cX6_type 36 = .ok (.getfield 23, 3) := by decide +kernel
theorem dX6_type_39 : decode cX6_type 39 = .ok (.aload_n 0, 1) := by decide +kernel
theorem dX6_type_40 : decode cX6_type 40 = .ok (.getfield 144, 3) := by decide +kernel
theorem dX6_type_43 : decode cX6_type 43 = .ok (.iload_n 1, 1) := by decide +kernel
theorem dX6_type_44 : decode cX6_type 44 = .ok (.iastore, 1) := by decide +kernel
theorem dX6_type_45 : decode cX6_type 45 = .ok (.aload_n 0, 1) := by decide +kernel
theorem dX6_type_46 : decode cX6_type 46 = .ok (.dup, 1) := by decide +kernel
theorem dX6_type_47 : decode cX6_type 47 = .ok (.getfield 144, 3) := by decide +kernel
theorem dX6_type_50 : decode cX6_type 50 = .ok (.iconst 1, 1) := by decide +kernel
theorem dX6_type_51 : decode cX6_type 51 = .ok (.iadd, 1) := by decide +kernel
theorem dX6_type_52 : decode cX6_type 52 = .ok (.putfield 144, 3) := by decide +kernel
theorem dX6_type_55 : decode cX6_type 55 = .ok (.aload_n 0, 1) := by decide +kernel
theorem dX6_type_56 : decode cX6_type 56 = .ok (.getfield 144, 3) := by decide +kernel
theorem dX6_type_59 : decode cX6_type 59 = .ok (.ireturn, 1) := by decide +kernel
theorem dX6_clear_0 : decode cX6_clear 0 = .ok (.aload_n 0, 1) := by decide +kernel
theorem dX6_clear_1 : decode cX6_clear 1 = .ok (.getfield 144, 3) := by decide +kernel
theorem dX6_clear_4 : decode cX6_clear 4 = .ok (.istore_n 1, 1) := by decide +kernel
theorem dX6_clear_5 : decode cX6_clear 5 = .ok (.aload_n 0, 1) := by decide +kernel
theorem dX6_clear_6 : decode cX6_clear 6 = .ok (.iconst 0, 1) := by decide +kernel
theorem dX6_clear_7 : decode cX6_clear 7 = .ok (.putfield 144, 3) := by decide +kernel
theorem dX6_clear_10 : decode cX6_clear 10 = .ok (.iload_n 1, 1) := by decide +kernel
theorem dX6_clear_11 : decode cX6_clear 11 = .ok (.ireturn, 1) := by decide +kernel
set_option maxRecDepth 20000 in
theorem ggX6_isAt_X6_in : GoodIn wsX6_isAt wsX6_in := goodIn_r _ [7] (by decide +kernel) (by decide +kernel)
set_option maxRecDepth 20000 in
theorem gX6_isAt_X6_in : GoodIn wsX6_isAt (va_wsS RX6 69 yX6_in wsX6_in) := goodIn_app (goodIn_of _ (by decide +kernel)) ggX6_isAt_X6_in
theorem dX6_isAt_0 : decode cX6_isAt 0 = .ok (.aload_n 0, 1) := by decide +kernel
theorem dX6_isAt_1 : decode cX6_isAt 1 = .ok (.getfield 148, 3) := by decide +kernel
theorem dX6_isAt_4 : decode cX6_isAt 4 = .ok (.aload_n 0, 1) := by decide +kernel
theorem dX6_isAt_5 : decode cX6_isAt 5 = .ok (.getfield 144, 3) := by decide +kernel
theorem dX6_isAt_8 : decode cX6_isAt 8 = .ok (.if_icmp .ge 27, 3) := by decide +kernel
theorem dX6_isAt_11 : decode cX6_isAt 11 = .ok (.aload_n 0, 1) := by decide +kernel
theorem dX6_isAt_12 : decode cX6_isAt 12 = .ok (.getfield 23, 3) := by decide +kernel
theorem dX6_isAt_15 : decode cX6_isAt 15 = .ok (.aload_n 0, 1) := by decide +kernel
theorem dX6_isAt_16 : decode cX6_isAt 16 = .ok (.getfield 148, 3) := by decide +kernel
theorem dX6_isAt_19 : decode cX6_isAt 19 = .ok (.iaload, 1) := by decide +kernel
theorem dX6_isAt_20 : decode cX6_isAt 20 = .ok (.i2l, 1) := by decide +kernel
theorem dX6_isAt_21 : decode cX6_isAt 21 = .ok (.iload_n 1, 1) := by decide +kernel
theorem dX6_isAt_22 : decode cX6_isAt 22 = .ok (.i2l, 1) := by decide +kernel
theorem dX6_isAt_23 : decode cX6_isAt 23 = .ok (.iload_n 2, 1) := by decide +kernel
theorem dX6_isAt_24 : decode cX6_isAt 24 = .ok (.i2l, 1) := by decide +kernel
theorem dX6_isAt_25 : decode cX6_isAt 25 = .ok (.invokestatic 69, 3) := by decide +kernel
theorem dX6_isAt_28 : decode cX6_isAt 28 = .ok (.ifCond .eq 7, 3) := by decide +kernel
theorem dX6_isAt_31 : decode cX6_isAt 31 = .ok (.iconst 1, 1) := by decide +kernel
theorem dX6_isAt_32 : decode cX6_isAt 32 = .ok (.goto 4, 3) := by decide +kernel
theorem dX6_isAt_35 : decode cX6_isAt 35 = .ok (.iconst 0, 1) := by decide +kernel
theorem dX6_isAt_36 : decode cX6_isAt 36 = .ok (.ireturn, 1) := by decide +kernel
set_option maxRecDepth 20000 in
theorem ggX6_blanks_X6_isAt : GoodIn wsX6_blanks wsX6_isAt := goodIn_r _ [6, 1, 7, 8, 9, 10, 5, 11, 12, 13, 14, 15, 16, 17, 18, 19, 20, 21, 22, 23, 24, 25, 26] (by decide +kernel) (by decide +kernel)
set_option maxRecDepth 20000 in
theorem gX6_blanks_X6_isAt : GoodIn wsX6_blanks (wsV RX6 151 RX6 yX6_isAt wsX6_isAt) := goodIn_app (goodIn_of _ (by decide +kernel)) ggX6_blanks_X6_isAt
theorem dX6_blanks_0 : decode cX6_blanks 0 = .ok (.aload_n 0, 1) := by decide +kernel
theorem dX6_blanks_1 : decode cX6_blanks 1 = .ok (.bipush 32, 2) := by decide +kernel
theorem dX6_blanks_3 : decode cX6_blanks 3 = .ok (.bipush 32, 2) := by decide +kernel
theorem dX6_blanks_5 : decode cX6_blanks 5 = .ok (.invokevirtual 151, 3) := by decide +kernel
theorem dX6_blanks_8 : decode cX6_blanks 8 = .ok (.ifCond .eq 16, 3) := by decide +kernel
theorem dX6_blanks_11 : decode cX6_blanks 11 = .ok (.aload_n 0, 1) := by decide +kernel
theorem dX6_blanks_12 : decode cX6_blanks 12 = .ok (.dup, 1) := by decide +kernel
theorem dX6_blanks_13 : decode cX6_blanks 13 = .ok (.getfield 148, 3) := by decide +kernel
theorem dX6_blanks_16 : decode cX6_blanks 16 = .ok (.iconst 1, 1) := by decide +kernel
theorem dX6_blanks_17 : decode cX6_blanks 17 = .ok (.iadd, 1) := by decide +kernel
theorem dX6_blanks_18 : decode cX6_blanks 18 = .ok (.putfield 148, 3) := by decide +kernel
theorem dX6_blanks_21 : decode cX6_blanks 21 = .ok (.goto (-21), 3) := by decide +kernel
theorem dX6_blanks_24 : decode cX6_blanks 24 = .ok (.return_, 1) := by decide +kernel
theorem dX6_fails_0 : decode cX6_fails 0 = .ok (.aload_n 0, 1) := by decide +kernel
theorem dX6_fails_1 : decode cX6_fails 1 = .ok (.aload_n 0, 1) := by decide +kernel
theorem dX6_fails_2 : decode cX6_fails 2 = .ok (.getfield 148, 3) := by decide +kernel
theorem dX6_fails_5 : decode cX6_fails 5 = .ok (.putfield 155, 3) := by decide +kernel
theorem dX6_fails_8 : decode cX6_fails 8 = .ok (.iconst 0, 1) := by decide +kernel
theorem dX6_fails_9 : decode cX6_fails 9 = .ok (.ireturn, 1) := by decide +kernel
theorem dX6_manyOf_0 : decode cX6_manyOf 0 = .ok (.iload_n 0, 1) := by decide +kernel
theorem dX6_manyOf_1 : decode cX6_manyOf 1 = .ok (.tableswitch 83 99 114 #[79, 83, 83, 83, 81, 83, 83, 83, 83, 79, 83, 83, 81, 79, 83, 81], 79) := by decide +kernel
theorem dX6_manyOf_80 : decode cX6_manyOf 80 = .ok (.iconst 2, 1) := by decide +kernel
theorem dX6_manyOf_81 : decode cX6_manyOf 81 = .ok (.ireturn, 1) := by decide +kernel
theorem dX6_manyOf_82 : decode cX6_manyOf 82 = .ok (.iconst 1, 1) := by decide +kernel
theorem dX6_manyOf_83 : decode cX6_manyOf 83 = .ok (.ireturn, 1) := by decide +kernel
theorem dX6_manyOf_84 : decode cX6_manyOf 84 = .ok (.ldc 57, 2) := by decide +kernel
theorem dX6_manyOf_86 : decode cX6_manyOf 86 = .ok (.ireturn, 1) := by decide +kernel
set_option maxRecDepth 20000 in
theorem ggX6_takesNumber_X6_blanks : GoodIn wsX6_takesNumber wsX6_blanks := goodIn_r _ [8, 1, 9, 10, 11, 7, 12, 13, 2, 14, 15, 16, 22, 23, 24, 25, 26, 27, 28, 29, 30, 31, 32, 33, 34, 35, 36] (by decide +kernel) (by decide +kernel)
set_option maxRecDepth 20000 in
theorem gX6_takesNumber_X6_blanks : GoodIn wsX6_takesNumber (wsV RX6 158 RX6 yX6_blanks wsX6_blanks) := goodIn_app (goodIn_of _ (by decide +kernel)) ggX6_takesNumber_X6_blanks
set_option maxRecDepth 20000 in
theorem ggX6_takesNumber_X6_isAt : GoodIn wsX6_takesNumber wsX6_isAt := goodIn_r _ [12, 1, 13, 2, 14, 15, 7, 16, 22, 23, 24, 25, 26, 27, 28, 29, 30, 31, 32, 33, 34, 35, 36] (by decide +kernel) (by decide +kernel)
set_option maxRecDepth 20000 in
theorem gX6_takesNumber_X6_isAt : GoodIn wsX6_takesNumber (wsV RX6 151 RX6 yX6_isAt wsX6_isAt) := goodIn_app (goodIn_of _ (by decide +kernel)) ggX6_takesNumber_X6_isAt
set_option maxRecDepth 20000 in
theorem ggX6_takesNumber_X6_fails : GoodIn wsX6_takesNumber wsX6_fails := goodIn_r _ [20, 1, 21, 22, 23, 24, 25, 26, 27, 28, 29, 30, 31, 32, 33, 34, 35, 36] (by decide +kernel) (by decide +kernel)
set_option maxRecDepth 20000 in
theorem gX6_takesNumber_X6_fails : GoodIn wsX6_takesNumber (wsV RX6 161 RX6 yX6_fails wsX6_fails) := goodIn_app (goodIn_of _ (by decide +kernel)) ggX6_takesNumber_X6_fails
theorem dX6_takesNumber_0 : decode cX6_takesNumber 0 = .ok (.aload_n 0, 1) := by decide +kernel
theorem dX6_takesNumber_1 : decode cX6_takesNumber 1 = .ok (.invokevirtual 158, 3) := by decide +kernel
theorem dX6_takesNumber_4 : decode cX6_takesNumber 4 = .ok (.iload_n 2, 1) := by decide +kernel
theorem dX6_takesNumber_5 : decode cX6_takesNumber 5 = .ok (.ifCond .eq 18, 3) := by decide +kernel
theorem dX6_takesNumber_8 : decode cX6_takesNumber 8 = .ok (.aload_n 0, 1) := by decide +kernel
theorem dX6_takesNumber_9 : decode cX6_takesNumber 9 = .ok (.bipush 45, 2) := by decide +kernel
theorem dX6_takesNumber_11 : decode cX6_takesNumber 11 = .ok (.bipush 45, 2) := by decide +kernel
theorem dX6_takesNumber_13 : decode cX6_takesNumber 13 = .ok (.invokevirtual 151, 3) := by decide +kernel
theorem dX6_takesNumber_16 : decode cX6_takesNumber 16 = .ok (.ifCond .eq 7, 3) := by decide +kernel
theorem dX6_takesNumber_19 : decode cX6_takesNumber 19 = .ok (.iconst 1, 1) := by decide +kernel
theorem dX6_takesNumber_20 : decode cX6_takesNumber 20 = .ok (.goto 4, 3) := by decide +kernel
theorem dX6_takesNumber_23 : decode cX6_takesNumber 23 = .ok (.iconst 0, 1) := by decide +kernel
theorem dX6_takesNumber_24 : decode cX6_takesNumber 24 = .ok (.istore_n 3, 1) := by decide +kernel
theorem dX6_takesNumber_25 : decode cX6_takesNumber 25 = .ok (.aload_n 0, 1) := by decide +kernel
theorem dX6_takesNumber_26 : decode cX6_takesNumber 26 = .ok (.dup, 1) := by decide +kernel
theorem dX6_takesNumber_27 : decode cX6_takesNumber 27 = .ok (.getfield 148, 3) := by decide +kernel
theorem dX6_takesNumber_30 : decode cX6_takesNumber 30 = .ok (.iload_n 3, 1) := by decide +kernel
theorem dX6_takesNumber_31 : decode cX6_takesNumber 31 = .ok (.ifCond .eq 7, 3) := by decide +kernel
theorem dX6_takesNumber_34 : decode cX6_takesNumber 34 = .ok (.iconst 1, 1) := by decide +kernel
theorem dX6_takesNumber_35 : decode cX6_takesNumber 35 = .ok (.goto 4, 3) := by decide +kernel
theorem dX6_takesNumber_38 : decode cX6_takesNumber 38 = .ok (.iconst 0, 1) := by decide +kernel
theorem dX6_takesNumber_39 : decode cX6_takesNumber 39 = .ok (.iadd, 1) := by decide +kernel
theorem dX6_takesNumber_40 : decode cX6_takesNumber 40 = .ok (.putfield 148, 3) := by decide +kernel
theorem dX6_takesNumber_43 : decode cX6_takesNumber 43 = .ok (.aload_n 0, 1) := by decide +kernel
theorem dX6_takesNumber_44 : decode cX6_takesNumber 44 = .ok (.getfield 148, 3) := by decide +kernel
theorem dX6_takesNumber_47 : decode cX6_takesNumber 47 = .ok (.istore 4, 2) := by decide +kernel
theorem dX6_takesNumber_49 : decode cX6_takesNumber 49 = .ok (.iconst 0, 1) := by decide +kernel
theorem dX6_takesNumber_50 : decode cX6_takesNumber 50 = .ok (.istore 5, 2) := by decide +kernel
theorem dX6_takesNumber_52 : decode cX6_takesNumber 52 = .ok (.aload_n 0, 1) := by decide +kernel
theorem dX6_takesNumber_53 : decode cX6_takesNumber 53 = .ok (.bipush 48, 2) := by decide +kernel
theorem dX6_takesNumber_55 : decode cX6_takesNumber 55 = .ok (.bipush 57, 2) := by decide +kernel
theorem dX6_takesNumber_57 : decode cX6_takesNumber 57 = .ok (.invokevirtual 151, 3) := by decide +kernel
theorem dX6_takesNumber_60 : decode cX6_takesNumber 60 = .ok (.ifCond .eq 52, 3) := by decide +kernel
theorem dX6_takesNumber_63 : decode cX6_takesNumber 63 = .ok (.aload_n 0, 1) := by decide +kernel
theorem dX6_takesNumber_64 : decode cX6_takesNumber 64 = .ok (.getfield 148, 3) := by decide +kernel
theorem dX6_takesNumber_67 : decode cX6_takesNumber 67 = .ok (.iload 4, 2) := by decide +kernel
theorem dX6_takesNumber_69 : decode cX6_takesNumber 69 = .ok (.iconst 4, 1) := by decide +kernel
theorem dX6_takesNumber_70 : decode cX6_takesNumber 70 = .ok (.iadd, 1) := by decide +kernel
theorem dX6_takesNumber_71 : decode cX6_takesNumber 71 = .ok (.if_icmp .ne 8, 3) := by decide +kernel
theorem dX6_takesNumber_74 : decode cX6_takesNumber 74 = .ok (.aload_n 0, 1) := by decide +kernel
theorem dX6_takesNumber_75 : decode cX6_takesNumber 75 = .ok (.invokevirtual 161, 3) := by decide +kernel
theorem dX6_takesNumber_78 : decode cX6_takesNumber 78 = .ok (.ireturn, 1) := by decide +kernel
theorem dX6_takesNumber_79 : decode cX6_takesNumber 79 = .ok (.bipush 10, 2) := by decide +kernel
theorem dX6_takesNumber_81 : decode cX6_takesNumber 81 = .ok (.iload 5, 2) := by decide +kernel
theorem dX6_takesNumber_83 : decode cX6_takesNumber 83 = .ok (.imul, 1) := by decide +kernel
theorem dX6_takesNumber_84 : decode cX6_takesNumber 84 = .ok (.aload_n 0, 1) := by decide +kernel
theorem dX6_takesNumber_85 : decode cX6_takesNumber 85 = .ok (.getfield 23, 3) := by decide +kernel
theorem dX6_takesNumber_88 : decode cX6_takesNumber 88 = .ok (.aload_n 0, 1) := by decide +kernel
theorem dX6_takesNumber_89 : decode cX6_takesNumber 89 = .ok (.getfield 148, 3) := by decide +kernel
theorem dX6_takesNumber_92 : decode cX6_takesNumber 92 = .ok (.iaload, 1) := by decide +kernel
theorem dX6_takesNumber_93 : decode cX6_takesNumber 93 = .ok (.iadd, 1) := by decide +kernel
theorem dX6_takesNumber_94 : decode cX6_takesNumber 94 = .ok (.bipush 48, 2) := by decide +kernel
theorem dX6_takesNumber_96 : decode cX6_takesNumber 96 = .ok (.isub, 1) := by decide +kernel
theorem dX6_takesNumber_97 : decode cX6_takesNumber 97 = .ok (.istore 5, 2) := by decide +kernel
theorem dX6_takesNumber_99 : decode cX6_takesNumber 99 = .ok (.aload_n 0, 1) := by decide +kernel
theorem dX6_takesNumber_100 : decode cX6_takesNumber 100 = .ok (.dup, 1) := by decide +kernel
theorem dX6_takesNumber_101 : decode cX6_takesNumber 101 = .ok (.getfield 148, 3) := by decide +kernel
theorem dX6_takesNumber_104 : decode cX6_takesNumber 104 = .ok (.iconst 1, 1) := by decide +kernel
theorem dX6_takesNumber_105 : decode cX6_takesNumber 105 = .ok (.iadd, 1) := by decide +kernel
theorem dX6_takesNumber_106 : decode cX6_takesNumber 106 = .ok (.putfield 148, 3) := by decide +kernel
theorem dX6_takesNumber_109 : decode cX6_takesNumber 109 = .ok (.goto (-57), 3) := by decide +kernel
theorem dX6_takesNumber_112 : decode cX6_takesNumber 112 = .ok (.aload_n 0, 1) := by decide +kernel
theorem dX6_takesNumber_113 : decode cX6_takesNumber 113 = .ok (.getfield 29, 3) := by decide +kernel
theorem dX6_takesNumber_116 : decode cX6_takesNumber 116 = .ok (.iload_n 1, 1) := by decide +kernel
theorem dX6_takesNumber_117 : decode cX6_takesNumber 117 = .ok (.iload_n 3, 1) := by decide +kernel
theorem dX6_takesNumber_118 : decode cX6_takesNumber 118 = .ok (.ifCond .eq 9, 3) := by decide +kernel
theorem dX6_takesNumber_121 : decode cX6_takesNumber 121 = .ok (.iload 5, 2) := by decide +kernel
theorem dX6_takesNumber_123 : decode cX6_takesNumber 123 = .ok (.ineg, 1) := by decide +kernel
theorem dX6_takesNumber_124 : decode cX6_takesNumber 124 = .ok (.goto 5, 3) := by decide +kernel
theorem dX6_takesNumber_127 : decode cX6_takesNumber 127 = .ok (.iload 5, 2) := by decide +kernel
theorem dX6_takesNumber_129 : decode cX6_takesNumber 129 = .ok (.iastore, 1) := by decide +kernel
theorem dX6_takesNumber_130 : decode cX6_takesNumber 130 = .ok (.aload_n 0, 1) := by decide +kernel
theorem dX6_takesNumber_131 : decode cX6_takesNumber 131 = .ok (.getfield 148, 3) := by decide +kernel
theorem dX6_takesNumber_134 : decode cX6_takesNumber 134 = .ok (.iload 4, 2) := by decide +kernel
theorem dX6_takesNumber_136 : decode cX6_takesNumber 136 = .ok (.if_icmp .gt 10, 3) := by decide +kernel
theorem dX6_takesNumber_139 : decode cX6_takesNumber 139 = .ok (.aload_n 0, 1) := by decide +kernel
theorem dX6_takesNumber_140 : decode cX6_takesNumber 140 = .ok (.invokevirtual 161, 3) := by decide +kernel
theorem dX6_takesNumber_143 : decode cX6_takesNumber 143 = .ok (.ifCond .eq 7, 3) := by decide +kernel
theorem dX6_takesNumber_146 : decode cX6_takesNumber 146 = .ok (.iconst 1, 1) := by decide +kernel
theorem dX6_takesNumber_147 : decode cX6_takesNumber 147 = .ok (.goto 4, 3) := by decide +kernel
theorem dX6_takesNumber_150 : decode cX6_takesNumber 150 = .ok (.iconst 0, 1) := by decide +kernel
theorem dX6_takesNumber_151 : decode cX6_takesNumber 151 = .ok (.ireturn, 1) := by decide +kernel
set_option maxRecDepth 20000 in
theorem ggX6_takesOrder_X6_manyOf : GoodIn wsX6_takesOrder wsX6_manyOf := goodIn_r _ [9, 3] (by decide +kernel) (by decide +kernel)
set_option maxRecDepth 20000 in
theorem gX6_takesOrder_X6_manyOf : GoodIn wsX6_takesOrder (va_wsS RX6 165 yX6_manyOf wsX6_manyOf) := goodIn_app (goodIn_of _ (by decide +kernel)) ggX6_takesOrder_X6_manyOf
set_option maxRecDepth 20000 in
theorem ggX6_takesOrder_X6_fails : GoodIn wsX6_takesOrder wsX6_fails := goodIn_r _ [13, 2, 14, 32, 33, 34, 35, 36, 37, 38, 39, 40, 41, 42, 43, 44, 45, 46] (by decide +kernel) (by decide +kernel)
set_option maxRecDepth 20000 in
theorem gX6_takesOrder_X6_fails : GoodIn wsX6_takesOrder (wsV RX6 161 RX6 yX6_fails wsX6_fails) := goodIn_app (goodIn_of _ (by decide +kernel)) ggX6_takesOrder_X6_fails
set_option maxRecDepth 20000 in
theorem ggX6_takesOrder_X6_takesNumber : GoodIn wsX6_takesOrder wsX6_takesNumber := goodIn_r _ [18, 2, 1, 19, 20, 21, 22, 8, 23, 24, 25, 26, 27, 28, 29, 30, 31, 10, 11, 12, 13, 14, 32, 33, 34, 35, 36, 37, 38, 39, 40, 41, 42, 43, 44, 45, 46] (by decide +kernel) (by decide +kernel)
set_option maxRecDepth 20000 in
theorem gX6_takesOrder_X6_takesNumber : GoodIn wsX6_takesOrder (wsV RX6 171 RX6 yX6_takesNumber wsX6_takesNumber) := goodIn_app (goodIn_of _ (by decide +kernel)) ggX6_takesOrder_X6_takesNumber
set_option maxRecDepth 20000 in
theorem ggX6_takesOrder_X6_blanks : GoodIn wsX6_takesOrder wsX6_blanks := goodIn_r _ [23, 2, 24, 25, 26, 8, 27, 28, 1, 29, 30, 31, 32, 33, 34, 35, 36, 37, 38, 39, 40, 41, 42, 43, 44, 45, 46] (by decide +kernel) (by decide +kernel)
set_option maxRecDepth 20000 in
theorem gX6_takesOrder_X6_blanks : GoodIn wsX6_takesOrder (wsV RX6 158 RX6 yX6_blanks wsX6_blanks) := goodIn_app (goodIn_of _ (by decide +kernel)) ggX6_takesOrder_X6_blanks
set_option maxRecDepth 20000 in
theorem ggX6_takesOrder_X6_isAt : GoodIn wsX6_takesOrder wsX6_isAt := goodIn_r _ [27, 2, 28, 1, 29, 30, 8, 31, 32, 33, 34, 35, 36, 37, 38, 39, 40, 41, 42, 43, 44, 45, 46] (by decide +kernel) (by decide +kernel)
set_option maxRecDepth 20000 in
theorem gX6_takesOrder_X6_isAt : GoodIn wsX6_takesOrder (wsV RX6 151 RX6 yX6_isAt wsX6_isAt) := goodIn_app (goodIn_of _ (by decide +kernel)) ggX6_takesOrder_X6_isAt
theorem dX6_takesOrder_0 : decode cX6_takesOrder 0 = .ok (.aload_n 0, 1) := by decide +kernel
theorem dX6_takesOrder_1 : decode cX6_takesOrder 1 = .ok (.getfield 23, 3) := by decide +kernel
theorem dX6_takesOrder_4 : decode cX6_takesOrder 4 = .ok (.aload_n 0, 1) := by decide +kernel
theorem dX6_takesOrder_5 : decode cX6_takesOrder 5 = .ok (.getfield 148, 3) := by decide +kernel
theorem dX6_takesOrder_8 : decode cX6_takesOrder 8 = .ok (.iaload, 1) := by decide +kernel
theorem dX6_takesOrder_9 : decode cX6_takesOrder 9 = .ok (.istore_n 1, 1) := by decide +kernel
theorem dX6_takesOrder_10 : decode cX6_takesOrder 10 = .ok (.iload_n 1, 1) := by decide +kernel
theorem dX6_takesOrder_11 : decode cX6_takesOrder 11 = .ok (.invokestatic 165, 3) := by decide +kernel
theorem dX6_takesOrder_14 : decode cX6_takesOrder 14 = .ok (.istore_n 2, 1) := by decide +kernel
theorem dX6_takesOrder_15 : decode cX6_takesOrder 15 = .ok (.iload_n 2, 1) := by decide +kernel
theorem dX6_takesOrder_16 : decode cX6_takesOrder 16 = .ok (.ldc 57, 2) := by decide +kernel
theorem dX6_takesOrder_18 : decode cX6_takesOrder 18 = .ok (.if_icmp .ne 8, 3) := by decide +kernel
theorem dX6_takesOrder_21 : decode cX6_takesOrder 21 = .ok (.aload_n 0, 1) := by decide +kernel
theorem dX6_takesOrder_22 : decode cX6_takesOrder 22 = .ok (.invokevirtual 161, 3) := by decide +kernel
theorem dX6_takesOrder_25 : decode cX6_takesOrder 25 = .ok (.ireturn, 1) := by decide +kernel
theorem dX6_takesOrder_26 : decode cX6_takesOrder 26 = .ok (.aload_n 0, 1) := by decide +kernel
theorem dX6_takesOrder_27 : decode cX6_takesOrder 27 = .ok (.getfield 26, 3) := by decide +kernel
theorem dX6_takesOrder_30 : decode cX6_takesOrder 30 = .ok (.aload_n 0, 1) := by decide +kernel
theorem dX6_takesOrder_31 : decode cX6_takesOrder 31 = .ok (.getfield 168, 3) := by decide +kernel
theorem dX6_takesOrder_34 : decode cX6_takesOrder 34 = .ok (.iload_n 1, 1) := by decide +kernel
theorem dX6_takesOrder_35 : decode cX6_takesOrder 35 = .ok (.iastore, 1) := by decide +kernel
theorem dX6_takesOrder_36 : decode cX6_takesOrder 36 = .ok (.aload_n 0, 1) := by decide +kernel
theorem dX6_takesOrder_37 : decode cX6_takesOrder 37 = .ok (.dup, 1) := by decide +kernel
theorem dX6_takesOrder_38 : decode cX6_takesOrder 38 = .ok (.getfield 148, 3) := by decide +kernel
theorem dX6_takesOrder_41 : decode cX6_takesOrder 41 = .ok (.iconst 1, 1) := by decide +kernel
theorem dX6_takesOrder_42 : decode cX6_takesOrder 42 = .ok (.iadd, 1) := by decide +kernel
theorem dX6_takesOrder_43 : decode cX6_takesOrder 43 = .ok (.putfield 148, 3) := by decide +kernel
theorem dX6_takesOrder_46 : decode cX6_takesOrder 46 = .ok (.iconst 0, 1) := by decide +kernel
theorem dX6_takesOrder_47 : decode cX6_takesOrder 47 = .ok (.istore_n 3, 1) := by decide +kernel
theorem dX6_takesOrder_48 : decode cX6_takesOrder 48 = .ok (.iload_n 3, 1) := by decide +kernel
theorem dX6_takesOrder_49 : decode cX6_takesOrder 49 = .ok (.iload_n 2, 1) := by decide +kernel
theorem dX6_takesOrder_50 : decode cX6_takesOrder 50 = .ok (.if_icmp .ge 47, 3) := by decide +kernel
theorem dX6_takesOrder_53 : decode cX6_takesOrder 53 = .ok (.aload_n 0, 1) := by decide +kernel
theorem dX6_takesOrder_54 : decode cX6_takesOrder 54 = .ok (.iconst 2, 1) := by decide +kernel
theorem dX6_takesOrder_55 : decode cX6_takesOrder 55 = .ok (.aload_n 0, 1) := by decide +kernel
theorem dX6_takesOrder_56 : decode cX6_takesOrder 56 = .ok (.getfield 168, 3) := by decide +kernel
theorem dX6_takesOrder_59 : decode cX6_takesOrder 59 = .ok (.imul, 1) := by decide +kernel
theorem dX6_takesOrder_60 : decode cX6_takesOrder 60 = .ok (.iload_n 3, 1) := by decide +kernel
theorem dX6_takesOrder_61 : decode cX6_takesOrder 61 = .ok (.iadd, 1) := by decide +kernel
theorem dX6_takesOrder_62 : decode cX6_takesOrder 62 = .ok (.iload_n 3, 1) := by decide +kernel
theorem dX6_takesOrder_63 : decode cX6_takesOrder 63 = .ok (.ifCond .ne 19, 3) := by decide +kernel
theorem dX6_takesOrder_66 : decode cX6_takesOrder 66 = .ok (.iload_n 1, 1) := by decide +kernel
theorem dX6_takesOrder_67 : decode cX6_takesOrder 67 = .ok (.bipush 112, 2) := by decide +kernel
theorem dX6_takesOrder_69 : decode cX6_takesOrder 69 = .ok (.if_icmp .eq 9, 3) := by decide +kernel
theorem dX6_takesOrder_72 : decode cX6_takesOrder 72 = .ok (.iload_n 1, 1) := by decide +kernel
theorem dX6_takesOrder_73 : decode cX6_takesOrder 73 = .ok (.bipush 108, 2) := by decide +kernel
theorem dX6_takesOrder_75 : decode cX6_takesOrder 75 = .ok (.if_icmp .ne 7, 3) := by decide +kernel
theorem dX6_takesOrder_78 : decode cX6_takesOrder 78 = .ok (.iconst 1, 1) := by decide +kernel
theorem dX6_takesOrder_79 : decode cX6_takesOrder 79 = .ok (.goto 4, 3) := by decide +kernel
theorem dX6_takesOrder_82 : decode cX6_takesOrder 82 = .ok (.iconst 0, 1) := by decide +kernel
theorem dX6_takesOrder_83 : decode cX6_takesOrder 83 = .ok (.invokevirtual 171, 3) := by decide +kernel
theorem dX6_takesOrder_86 : decode cX6_takesOrder 86 = .ok (.ifCond .ne 5, 3) := by decide +kernel
theorem dX6_takesOrder_89 : decode cX6_takesOrder 89 = .ok (.iconst 0, 1) := by decide +kernel
theorem dX6_takesOrder_90 : decode cX6_takesOrder 90 = .ok (.ireturn, 1) := by decide +kernel
theorem dX6_takesOrder_91 : decode cX6_takesOrder 91 = .ok (.iinc 3 1, 3) := by decide +kernel
theorem dX6_takesOrder_94 : decode cX6_takesOrder 94 = .ok (.goto (-46), 3) := by decide +kernel
theorem dX6_takesOrder_97 : decode cX6_takesOrder 97 = .ok (.aload_n 0, 1) := by decide +kernel
theorem dX6_takesOrder_98 : decode cX6_takesOrder 98 = .ok (.invokevirtual 158, 3) := by decide +kernel
theorem dX6_takesOrder_101 : decode cX6_takesOrder 101 = .ok (.aload_n 0, 1) := by decide +kernel
theorem dX6_takesOrder_102 : decode cX6_takesOrder 102 = .ok (.bipush 59, 2) := by decide +kernel
theorem dX6_takesOrder_104 : decode cX6_takesOrder 104 = .ok (.bipush 59, 2) := by decide +kernel
theorem dX6_takesOrder_106 : decode cX6_takesOrder 106 = .ok (.invokevirtual 151, 3) := by decide +kernel
theorem dX6_takesOrder_109 : decode cX6_takesOrder 109 = .ok (.ifCond .ne 8, 3) := by decide +kernel
theorem dX6_takesOrder_112 : decode cX6_takesOrder 112 = .ok (.aload_n 0, 1) := by decide +kernel
theorem dX6_takesOrder_113 : decode cX6_takesOrder 113 = .ok (.invokevirtual 161, 3) := by decide +kernel
theorem dX6_takesOrder_116 : decode cX6_takesOrder 116 = .ok (.ireturn, 1) := by decide +kernel
theorem dX6_takesOrder_117 : decode cX6_takesOrder 117 = .ok (.aload_n 0, 1) := by decide +kernel
theorem dX6_takesOrder_118 : decode cX6_takesOrder 118 = .ok (.dup, 1) := by decide +kernel
theorem dX6_takesOrder_119 : decode cX6_takesOrder 119 = .ok (.getfield 148, 3) := by decide +kernel
theorem dX6_takesOrder_122 : decode cX6_takesOrder 122 = .ok (.iconst 1, 1) := by decide +kernel
theorem dX6_takesOrder_123 : decode cX6_takesOrder 123 = .ok (.iadd, 1) := by decide +kernel
theorem dX6_takesOrder_124 : decode cX6_takesOrder 124 = .ok (.putfield 148, 3) := by decide +kernel
theorem dX6_takesOrder_127 : decode cX6_takesOrder 127 = .ok (.aload_n 0, 1) := by decide +kernel
theorem dX6_takesOrder_128 : decode cX6_takesOrder 128 = .ok (.dup, 1) := by decide +kernel
theorem dX6_takesOrder_129 : decode cX6_takesOrder 129 = .ok (.getfield 168, 3) := by decide +kernel
theorem dX6_takesOrder_132 : decode cX6_takesOrder 132 = .ok (.iconst 1, 1) := by decide +kernel
theorem dX6_takesOrder_133 : decode cX6_takesOrder 133 = .ok (.iadd, 1) := by decide +kernel
theorem dX6_takesOrder_134 : decode cX6_takesOrder 134 = .ok (.putfield 168, 3) := by decide +kernel
theorem dX6_takesOrder_137 : decode cX6_takesOrder 137 = .ok (.iconst 1, 1) := by decide +kernel
theorem dX6_takesOrder_138 : decode cX6_takesOrder 138 = .ok (.ireturn, 1) := by decide +kernel
set_option maxRecDepth 20000 in
theorem ggX6_isRead_X6_blanks : GoodIn wsX6_isRead wsX6_blanks := goodIn_r _ [8, 1, 9, 10, 11, 7, 12, 3, 13, 14, 15, 16, 36, 37, 38, 39, 40, 41, 42, 43, 44, 45, 46, 47, 48, 49, 50] (by decide +kernel) (by decide +kernel)
set_option maxRecDepth 20000 in
theorem gX6_isRead_X6_blanks : GoodIn wsX6_isRead (wsV RX6 158 RX6 yX6_blanks wsX6_blanks) := goodIn_app (goodIn_of _ (by decide +kernel)) ggX6_isRead_X6_blanks
set_option maxRecDepth 20000 in
theorem ggX6_isRead_X6_takesOrder : GoodIn wsX6_isRead wsX6_takesOrder := goodIn_r _ [20, 13, 1, 21, 22, 2, 23, 24, 7, 25, 26, 27, 28, 29, 30, 31, 32, 33, 34, 35, 4, 5, 6, 8, 9, 10, 11, 12, 3, 14, 15, 16, 36, 37, 38, 39, 40, 41, 42, 43, 44, 45, 46, 47, 48, 49, 50] (by decide +kernel) (by decide +kernel)
set_option maxRecDepth 20000 in
theorem gX6_isRead_X6_takesOrder : GoodIn wsX6_isRead (wsV RX6 175 RX6 yX6_takesOrder wsX6_takesOrder) := goodIn_app (goodIn_of _ (by decide +kernel)) ggX6_isRead_X6_takesOrder
set_option maxRecDepth 20000 in
theorem ggX6_isRead_X6_fails : GoodIn wsX6_isRead wsX6_fails := goodIn_r _ [29, 1, 30, 36, 37, 38, 39, 40, 41, 42, 43, 44, 45, 46, 47, 48, 49, 50] (by decide +kernel) (by decide +kernel)
set_option maxRecDepth 20000 in
theorem gX6_isRead_X6_fails : GoodIn wsX6_isRead (wsV RX6 161 RX6 yX6_fails wsX6_fails) := goodIn_app (goodIn_of _ (by decide +kernel)) ggX6_isRead_X6_fails
theorem dX6_isRead_0 : decode cX6_isRead 0 = .ok (.aload_n 0, 1) := by decide +kernel
theorem dX6_isRead_1 : decode cX6_isRead 1 = .ok (.iconst 0, 1) := by decide +kernel
theorem dX6_isRead_2 : decode cX6_isRead 2 = .ok (.putfield 148, 3) := by decide +kernel
theorem dX6_isRead_5 : decode cX6_isRead 5 = .ok (.aload_n 0, 1) := by decide +kernel
theorem dX6_isRead_6 : decode cX6_isRead 6 = .ok (.iconst 0, 1) := by decide +kernel
theorem dX6_isRead_7 : decode cX6_isRead 7 = .ok (.putfield 168, 3) := by decide +kernel
theorem dX6_isRead_10 : decode cX6_isRead 10 = .ok (.aload_n 0, 1) := by decide +kernel
theorem dX6_isRead_11 : decode cX6_isRead 11 = .ok (.invokevirtual 158, 3) := by decide +kernel
theorem dX6_isRead_14 : decode cX6_isRead 14 = .ok (.aload_n 0, 1) := by decide +kernel
theorem dX6_isRead_15 : decode cX6_isRead 15 = .ok (.getfield 148, 3) := by decide +kernel
theorem dX6_isRead_18 : decode cX6_isRead 18 = .ok (.aload_n 0, 1) := by decide +kernel
theorem dX6_isRead_19 : decode cX6_isRead 19 = .ok (.getfield 144, 3) := by decide +kernel
theorem dX6_isRead_22 : decode cX6_isRead 22 = .ok (.if_icmp .ge 19, 3) := by decide +kernel
theorem dX6_isRead_25 : decode cX6_isRead 25 = .ok (.aload_n 0, 1) := by decide +kernel
theorem dX6_isRead_26 : decode cX6_isRead 26 = .ok (.invokevirtual 175, 3) := by decide +kernel
theorem dX6_isRead_29 : decode cX6_isRead 29 = .ok (.ifCond .ne 5, 3) := by decide +kernel
theorem dX6_isRead_32 : decode cX6_isRead 32 = .ok (.iconst 0, 1) := by decide +kernel
theorem dX6_isRead_33 : decode cX6_isRead 33 = .ok (.ireturn, 1) := by decide +kernel
theorem dX6_isRead_34 : decode cX6_isRead 34 = .ok (.aload_n 0, 1) := by decide +kernel
theorem dX6_isRead_35 : decode cX6_isRead 35 = .ok (.invokevirtual 158, 3) := by decide +kernel
theorem dX6_isRead_38 : decode cX6_isRead 38 = .ok (.goto (-24), 3) := by decide +kernel
theorem dX6_isRead_41 : decode cX6_isRead 41 = .ok (.aload_n 0, 1) := by decide +kernel
theorem dX6_isRead_42 : decode cX6_isRead 42 = .ok (.getfield 168, 3) := by decide +kernel
theorem dX6_isRead_45 : decode cX6_isRead 45 = .ok (.ifCond .gt 10, 3) := by decide +kernel
theorem dX6_isRead_48 : decode cX6_isRead 48 = .ok (.aload_n 0, 1) := by decide +kernel
theorem dX6_isRead_49 : decode cX6_isRead 49 = .ok (.invokevirtual 161, 3) := by decide +kernel
theorem dX6_isRead_52 : decode cX6_isRead 52 = .ok (.ifCond .eq 7, 3) := by decide +kernel
theorem dX6_isRead_55 : decode cX6_isRead 55 = .ok (.iconst 1, 1) := by decide +kernel
theorem dX6_isRead_56 : decode cX6_isRead 56 = .ok (.goto 4, 3) := by decide +kernel
theorem dX6_isRead_59 : decode cX6_isRead 59 = .ok (.iconst 0, 1) := by decide +kernel
theorem dX6_isRead_60 : decode cX6_isRead 60 = .ok (.ireturn, 1) := by decide +kernel
set_option maxRecDepth 20000 in
theorem ggX6_doneOne_X6_putPassing : GoodIn wsX6_doneOne wsX6_putPassing := goodIn_r _ [7, 8, 9, 10, 11, 12, 13, 14, 15, 6, 16, 17, 18, 19, 20, 21, 22, 23, 24, 25, 64, 65, 66, 67, 68, 69, 70, 71, 72, 73, 74, 75, 76, 77, 78] (by decide +kernel) (by decide +kernel)
set_option maxRecDepth 20000 in
theorem gX6_doneOne_X6_putPassing : GoodIn wsX6_doneOne (wsV RX6 120 RX6 yX6_putPassing wsX6_putPassing) := goodIn_app (goodIn_of _ (by decide +kernel)) ggX6_doneOne_X6_putPassing
set_option maxRecDepth 20000 in
theorem ggX6_doneOne_X6_putRest : GoodIn wsX6_doneOne wsX6_putRest := goodIn_r _ [29, 30, 11, 31, 32, 33, 13, 12, 25, 10, 14, 15, 6, 16, 34, 35, 36, 37, 38, 39, 40, 41, 42, 43, 44, 45, 46, 64, 65, 66, 67, 68, 69, 70, 71, 72, 73, 74, 75, 76, 77, 78] (by decide +kernel) (by decide +kernel)
set_option maxRecDepth 20000 in
theorem gX6_doneOne_X6_putRest : GoodIn wsX6_doneOne (wsV RX6 123 RX6 yX6_putRest wsX6_putRest) := goodIn_app (goodIn_of _ (by decide +kernel)) ggX6_doneOne_X6_putRest
set_option maxRecDepth 20000 in
theorem ggX6_doneOne_X6_putLoad : GoodIn wsX6_doneOne wsX6_putLoad := goodIn_r _ [50, 8, 9, 30, 11, 12, 14, 15, 6, 16, 21, 22, 23, 24, 25, 38, 39, 40, 41, 42, 51, 52, 53, 54, 64, 65, 66, 67, 68, 69, 70, 71, 72, 73, 74, 75, 76, 77, 78] (by decide +kernel) (by decide +kernel)
set_option maxRecDepth 20000 in
theorem gX6_doneOne_X6_putLoad : GoodIn wsX6_doneOne (wsV RX6 126 RX6 yX6_putLoad wsX6_putLoad) := goodIn_app (goodIn_of _ (by decide +kernel)) ggX6_doneOne_X6_putLoad
set_option maxRecDepth 20000 in
theorem ggX6_doneOne_X6_putSetting : GoodIn wsX6_doneOne wsX6_putSetting := goodIn_r _ [58, 11, 12, 14, 15, 6, 16, 64, 65, 66, 67, 68, 69, 70, 71, 72, 73, 74, 75, 76, 77, 78] (by decide +kernel) (by decide +kernel)
set_option maxRecDepth 20000 in
theorem gX6_doneOne_X6_putSetting : GoodIn wsX6_doneOne (wsV RX6 113 RX6 yX6_putSetting wsX6_putSetting) := goodIn_app (goodIn_of _ (by decide +kernel)) ggX6_doneOne_X6_putSetting
set_option maxRecDepth 20000 in
theorem ggX6_doneOne_X6_putPoint : GoodIn wsX6_doneOne wsX6_putPoint := goodIn_r _ [62, 63, 30, 11, 12, 13, 14, 15, 6, 16, 64, 65, 66, 67, 68, 69, 70, 71, 72, 73, 74, 75, 76, 77, 78] (by decide +kernel) (by decide +kernel)
set_option maxRecDepth 20000 in
theorem gX6_doneOne_X6_putPoint : GoodIn wsX6_doneOne (wsV RX6 117 RX6 yX6_putPoint wsX6_putPoint) := goodIn_app (goodIn_of _ (by decide +kernel)) ggX6_doneOne_X6_putPoint
theorem dX6_doneOne_0 : decode cX6_doneOne 0 = .ok (.aload_n 0, 1) := by decide +kernel
theorem dX6_doneOne_1 : decode cX6_doneOne 1 = .ok (.getfield 29, 3) := by decide +kernel
theorem dX6_doneOne_4 : decode cX6_doneOne 4 = .ok (.iconst 2, 1) := by decide +kernel
theorem dX6_doneOne_5 : decode cX6_doneOne 5 = .ok (.iload_n 1, 1) := by decide +kernel
theorem dX6_doneOne_6 : decode cX6_doneOne 6 = .ok (.imul, 1) := by decide +kernel
theorem dX6_doneOne_7 : decode cX6_doneOne 7 = .ok (.iaload, 1) := by decide +kernel
theorem dX6_doneOne_8 : decode cX6_doneOne 8 = .ok (.istore_n 2, 1) := by decide +kernel
theorem dX6_doneOne_9 : decode cX6_doneOne 9 = .ok (.aload_n 0, 1) := by decide +kernel
theorem dX6_doneOne_10 : decode cX6_doneOne 10 = .ok (.getfield 29, 3) := by decide +kernel
theorem dX6_doneOne_13 : decode cX6_doneOne 13 = .ok (.iconst 2, 1) := by decide +kernel
theorem dX6_doneOne_14 : decode cX6_doneOne 14 = .ok (.iload_n 1, 1) := by decide +kernel
theorem dX6_doneOne_15 : decode cX6_doneOne 15 = .ok (.imul, 1) := by decide +kernel
