theorem dX0_init_0 : decode cX0_init 0 = .ok (.aload_n 0, 1) := by decide +kernel
theorem dX0_init_1 : decode cX0_init 1 = .ok (.invokespecial 3, 3) := by decide +kernel
theorem dX0_init_4 : decode cX0_init 4 = .ok (.aload_n 0, 1) := by decide +kernel
theorem dX0_init_5 : decode cX0_init 5 = .ok (.bipush 22, 2) := by decide +kernel
theorem dX0_init_7 : decode cX0_init 7 = .ok (.newarray .long, 2) := by decide +kernel
theorem dX0_init_9 : decode cX0_init 9 = .ok (.putfield 11, 3) := by decide +kernel
theorem dX0_init_12 : decode cX0_init 12 = .ok (.aload_n 0, 1) := by decide +kernel
theorem dX0_init_13 : decode cX0_init 13 = .ok (.bipush 22, 2) := by decide +kernel
theorem dX0_init_15 : decode cX0_init 15 = .ok (.newarray .int, 2) := by decide +kernel
theorem dX0_init_17 : decode cX0_init 17 = .ok (.putfield 15, 3) := by decide +kernel
theorem dX0_init_20 : decode cX0_init 20 = .ok (.return_, 1) := by decide +kernel
theorem dX0_copyFrom_0 : decode cX0_copyFrom 0 = .ok (.aload_n 1, 1) := by decide +kernel
theorem dX0_copyFrom_1 : decode cX0_copyFrom 1 = .ok (.getfield 11, 3) := by decide +kernel
theorem dX0_copyFrom_4 : decode cX0_copyFrom 4 = .ok (.iconst 0, 1) := by decide +kernel
theorem dX0_copyFrom_5 : decode cX0_copyFrom 5 = .ok (.aload_n 0, 1) := by decide +kernel
theorem dX0_copyFrom_6 : decode cX0_copyFrom 6 = .ok (.getfield 11, 3) := by decide +kernel
theorem dX0_copyFrom_9 : decode cX0_copyFrom 9 = .ok (.iconst 0, 1) := by decide +kernel
theorem dX0_copyFrom_10 : decode cX0_copyFrom 10 = .ok (.bipush 22, 2) := by decide +kernel
theorem dX0_copyFrom_12 : decode cX0_copyFrom 12 = .ok (.invokestatic 19, 3) := by decide +kernel
theorem dX0_copyFrom_15 : decode cX0_copyFrom 15 = .ok (.aload_n 1, 1) := by decide +kernel
theorem dX0_copyFrom_16 : decode cX0_copyFrom 16 = .ok (.getfield 15, 3) := by decide +kernel
theorem dX0_copyFrom_19 : decode cX0_copyFrom 19 = .ok (.iconst 0, 1) := by decide +kernel
theorem dX0_copyFrom_20 : decode cX0_copyFrom 20 = .ok (.aload_n 0, 1) := by decide +kernel
theorem dX0_copyFrom_21 : decode cX0_copyFrom 21 = .ok (.getfield 15, 3) := by decide +kernel
theorem dX0_copyFrom_24 : decode cX0_copyFrom 24 = .ok (.iconst 0, 1) := by decide +kernel
theorem dX0_copyFrom_25 : decode cX0_copyFrom 25 = .ok (.bipush 22, 2) := by decide +kernel
theorem dX0_copyFrom_27 : decode cX0_copyFrom 27 = .ok (.invokestatic 19, 3) := by decide +kernel
theorem dX0_copyFrom_30 : decode cX0_copyFrom 30 = .ok (.return_, 1) := by decide +kernel
theorem dX0_forget_0 : decode cX0_forget 0 = .ok (.iconst 0, 1) := by decide +kernel
theorem dX0_forget_1 : decode cX0_forget 1 = .ok (.istore_n 1, 1) := by decide +kernel
theorem dX0_forget_2 : decode cX0_forget 2 = .ok (.iload_n 1, 1) := by decide +kernel
theorem dX0_forget_3 : decode cX0_forget 3 = .ok (.bipush 22, 2) := by decide +kernel
theorem dX0_forget_5 : decode cX0_forget 5 = .ok (.if_icmp .ge 23, 3) := by decide +kernel
theorem dX0_forget_8 : decode cX0_forget 8 = .ok (.aload_n 0, 1) := by decide +kernel
theorem dX0_forget_9 : decode cX0_forget 9 = .ok (.getfield 11, 3) := by decide +kernel
theorem dX0_forget_12 : decode cX0_forget 12 = .ok (.iload_n 1, 1) := by decide +kernel
theorem dX0_forget_13 : decode cX0_forget 13 = .ok (.lconst 0, 1) := by decide +kernel
theorem dX0_forget_14 : decode cX0_forget 14 = .ok (.lastore, 1) := by decide +kernel
theorem dX0_forget_15 : decode cX0_forget 15 = .ok (.aload_n 0, 1) := by decide +kernel
theorem dX0_forget_16 : decode cX0_forget 16 = .ok (.getfield 15, 3) := by decide +kernel
theorem dX0_forget_19 : decode cX0_forget 19 = .ok (.iload_n 1, 1) := by decide +kernel
theorem dX0_forget_20 : decode cX0_forget 20 = .ok (.iconst 0, 1) := by decide +kernel
theorem dX0_forget_21 : decode cX0_forget 21 = .ok (.iastore, 1) := by decide +kernel
theorem dX0_forget_22 : decode cX0_forget 22 = .ok (.iinc 1 1, 3) := by decide +kernel
theorem dX0_forget_25 : decode cX0_forget 25 = .ok (.goto (-23), 3) := by decide +kernel
theorem dX0_forget_28 : decode cX0_forget 28 = .ok (.return_, 1) := by decide +kernel
set_option maxRecDepth 20000 in
theorem ggX0_add_X0_isBand : GoodIn wsX0_add wsX0_isBand := goodIn_r _ [6, 7, 8, 9] (by decide +kernel) (by decide +kernel)
set_option maxRecDepth 20000 in
theorem gX0_add_X0_isBand : GoodIn wsX0_add (va_wsS RX0 25 yX0_isBand wsX0_isBand) := goodIn_app (goodIn_of _ (by decide +kernel)) ggX0_add_X0_isBand
theorem dX0_add_0 : decode cX0_add 0 = .ok (.iload_n 1, 1) := by decide +kernel
theorem dX0_add_1 : decode cX0_add 1 = .ok (.iload_n 2, 1) := by decide +kernel
theorem dX0_add_2 : decode cX0_add 2 = .ok (.invokestatic 25, 3) := by decide +kernel
theorem dX0_add_5 : decode cX0_add 5 = .ok (.ifCond .eq 34, 3) := by decide +kernel
theorem dX0_add_8 : decode cX0_add 8 = .ok (.iload_n 1, 1) := by decide +kernel
theorem dX0_add_9 : decode cX0_add 9 = .ok (.bipush 11, 2) := by decide +kernel
theorem dX0_add_11 : decode cX0_add 11 = .ok (.imul, 1) := by decide +kernel
theorem dX0_add_12 : decode cX0_add 12 = .ok (.iload_n 2, 1) := by decide +kernel
theorem dX0_add_13 : decode cX0_add 13 = .ok (.iadd, 1) := by decide +kernel
theorem dX0_add_14 : decode cX0_add 14 = .ok (.istore 4, 2) := by decide +kernel
theorem dX0_add_16 : decode cX0_add 16 = .ok (.aload_n 0, 1) := by decide +kernel
theorem dX0_add_17 : decode cX0_add 17 = .ok (.getfield 11, 3) := by decide +kernel
theorem dX0_add_20 : decode cX0_add 20 = .ok (.iload 4, 2) := by decide +kernel
theorem dX0_add_22 : decode cX0_add 22 = .ok (.dup2, 1) := by decide +kernel
theorem dX0_add_23 : decode cX0_add 23 = .ok (.laload, 1) := by decide +kernel
theorem dX0_add_24 : decode cX0_add 24 = .ok (.iload_n 3, 1) := by decide +kernel
theorem dX0_add_25 : decode cX0_add 25 = .ok (.i2l, 1) := by decide +kernel
theorem dX0_add_26 : decode cX0_add 26 = .ok (.ladd, 1) := by decide +kernel
theorem dX0_add_27 : decode cX0_add 27 = .ok (.lastore, 1) := by decide +kernel
theorem dX0_add_28 : decode cX0_add 28 = .ok (.aload_n 0, 1) := by decide +kernel
theorem dX0_add_29 : decode cX0_add 29 = .ok (.getfield 15, 3) := by decide +kernel
theorem dX0_add_32 : decode cX0_add 32 = .ok (.iload 4, 2) := by decide +kernel
theorem dX0_add_34 : decode cX0_add 34 = .ok (.dup2, 1) := by decide +kernel
theorem dX0_add_35 : decode cX0_add 35 = .ok (.iaload, 1) := by decide +kernel
theorem dX0_add_36 : decode cX0_add 36 = .ok (.iconst 1, 1) := by decide +kernel
theorem dX0_add_37 : decode cX0_add 37 = .ok (.iadd, 1) := by decide +kernel
theorem dX0_add_38 : decode cX0_add 38 = .ok (.iastore, 1) := by decide +kernel
theorem dX0_add_39 : decode cX0_add 39 = .ok (.return_, 1) := by decide +kernel
set_option maxRecDepth 20000 in
theorem ggX0_resistance_X0_isBand : GoodIn wsX0_resistance wsX0_isBand := goodIn_r _ [8, 9, 10, 11] (by decide +kernel) (by decide +kernel)
set_option maxRecDepth 20000 in
theorem gX0_resistance_X0_isBand : GoodIn wsX0_resistance (va_wsS RX0 25 yX0_isBand wsX0_isBand) := goodIn_app (goodIn_of _ (by decide +kernel)) ggX0_resistance_X0_isBand
theorem dX0_resistance_0 : decode cX0_resistance 0 = .ok (.iload_n 1, 1) := by decide +kernel
theorem dX0_resistance_1 : decode cX0_resistance 1 = .ok (.iload_n 2, 1) := by decide +kernel
theorem dX0_resistance_2 : decode cX0_resistance 2 = .ok (.invokestatic 25, 3) := by decide +kernel
theorem dX0_resistance_5 : decode cX0_resistance 5 = .ok (.ifCond .ne 6, 3) := by decide +kernel
theorem dX0_resistance_8 : decode cX0_resistance 8 = .ok (.ldc 29, 2) := by decide +kernel
theorem dX0_resistance_10 : decode cX0_resistance 10 = .ok (.ireturn, 1) := by decide +kernel
theorem dX0_resistance_11 : decode cX0_resistance 11 = .ok (.iload_n 1, 1) := by decide +kernel
theorem dX0_resistance_12 : decode cX0_resistance 12 = .ok (.bipush 11, 2) := by decide +kernel
theorem dX0_resistance_14 : decode cX0_resistance 14 = .ok (.imul, 1) := by decide +kernel
theorem dX0_resistance_15 : decode cX0_resistance 15 = .ok (.iload_n 2, 1) := by decide +kernel
theorem dX0_resistance_16 : decode cX0_resistance 16 = .ok (.iadd, 1) := by decide +kernel
theorem dX0_resistance_17 : decode cX0_resistance 17 = .ok (.istore_n 3, 1) := by decide +kernel
theorem dX0_resistance_18 : decode cX0_resistance 18 = .ok (.aload_n 0, 1) := by decide +kernel
theorem dX0_resistance_19 : decode cX0_resistance 19 = .ok (.getfield 15, 3) := by decide +kernel
theorem dX0_resistance_22 : decode cX0_resistance 22 = .ok (.iload_n 3, 1) := by decide +kernel
theorem dX0_resistance_23 : decode cX0_resistance 23 = .ok (.iaload, 1) := by decide +kernel
theorem dX0_resistance_24 : decode cX0_resistance 24 = .ok (.ifCond .ne 8, 3) := by decide +kernel
theorem dX0_resistance_27 : decode cX0_resistance 27 = .ok (.ldc 30, 2) := by decide +kernel
theorem dX0_resistance_29 : decode cX0_resistance 29 = .ok (.goto 18, 3) := by decide +kernel
theorem dX0_resistance_32 : decode cX0_resistance 32 = .ok (.aload_n 0, 1) := by decide +kernel
theorem dX0_resistance_33 : decode cX0_resistance 33 = .ok (.getfield 11, 3) := by decide +kernel
theorem dX0_resistance_36 : decode cX0_resistance 36 = .ok (.iload_n 3, 1) := by decide +kernel
theorem dX0_resistance_37 : decode cX0_resistance 37 = .ok (.laload, 1) := by decide +kernel
theorem dX0_resistance_38 : decode cX0_resistance 38 = .ok (.aload_n 0, 1) := by decide +kernel
theorem dX0_resistance_39 : decode cX0_resistance 39 = .ok (.getfield 15, 3) := by decide +kernel
theorem dX0_resistance_42 : decode cX0_resistance 42 = .ok (.iload_n 3, 1) := by decide +kernel
theorem dX0_resistance_43 : decode cX0_resistance 43 = .ok (.iaload, 1) := by decide +kernel
theorem dX0_resistance_44 : decode cX0_resistance 44 = .ok (.i2l, 1) := by decide +kernel
theorem dX0_resistance_45 : decode cX0_resistance 45 = .ok (.ldiv, 1) := by decide +kernel
theorem dX0_resistance_46 : decode cX0_resistance 46 = .ok (.l2i, 1) := by decide +kernel
theorem dX0_resistance_47 : decode cX0_resistance 47 = .ok (.ireturn, 1) := by decide +kernel
set_option maxRecDepth 20000 in
theorem ggX0_howMany_X0_isBand : GoodIn wsX0_howMany wsX0_isBand := goodIn_r _ [6, 7, 8, 9] (by decide +kernel) (by decide +kernel)
set_option maxRecDepth 20000 in
theorem gX0_howMany_X0_isBand : GoodIn wsX0_howMany (va_wsS RX0 25 yX0_isBand wsX0_isBand) := goodIn_app (goodIn_of _ (by decide +kernel)) ggX0_howMany_X0_isBand
theorem dX0_howMany_0 : decode cX0_howMany 0 = .ok (.iload_n 1, 1) := by decide +kernel
theorem dX0_howMany_1 : decode cX0_howMany 1 = .ok (.iload_n 2, 1) := by decide +kernel
theorem dX0_howMany_2 : decode cX0_howMany 2 = .ok (.invokestatic 25, 3) := by decide +kernel
theorem dX0_howMany_5 : decode cX0_howMany 5 = .ok (.ifCond .eq 17, 3) := by decide +kernel
theorem dX0_howMany_8 : decode cX0_howMany 8 = .ok (.aload_n 0, 1) := by decide +kernel
theorem dX0_howMany_9 : decode cX0_howMany 9 = .ok (.getfield 15, 3) := by decide +kernel
theorem dX0_howMany_12 : decode cX0_howMany 12 = .ok (.iload_n 1, 1) := by decide +kernel
theorem dX0_howMany_13 : decode cX0_howMany 13 = .ok (.bipush 11, 2) := by decide +kernel
theorem dX0_howMany_15 : decode cX0_howMany 15 = .ok (.imul, 1) := by decide +kernel
theorem dX0_howMany_16 : decode cX0_howMany 16 = .ok (.iload_n 2, 1) := by decide +kernel
theorem dX0_howMany_17 : decode cX0_howMany 17 = .ok (.iadd, 1) := by decide +kernel
theorem dX0_howMany_18 : decode cX0_howMany 18 = .ok (.iaload, 1) := by decide +kernel
theorem dX0_howMany_19 : decode cX0_howMany 19 = .ok (.goto 5, 3) := by decide +kernel
theorem dX0_howMany_22 : decode cX0_howMany 22 = .ok (.ldc 29, 2) := by decide +kernel
theorem dX0_howMany_24 : decode cX0_howMany 24 = .ok (.ireturn, 1) := by decide +kernel
theorem dX0_used_0 : decode cX0_used 0 = .ok (.iconst 0, 1) := by decide +kernel
theorem dX0_used_1 : decode cX0_used 1 = .ok (.istore_n 1, 1) := by decide +kernel
theorem dX0_used_2 : decode cX0_used 2 = .ok (.iconst 0, 1) := by decide +kernel
theorem dX0_used_3 : decode cX0_used 3 = .ok (.istore_n 2, 1) := by decide +kernel
theorem dX0_used_4 : decode cX0_used 4 = .ok (.iload_n 2, 1) := by decide +kernel
theorem dX0_used_5 : decode cX0_used 5 = .ok (.bipush 22, 2) := by decide +kernel
theorem dX0_used_7 : decode cX0_used 7 = .ok (.if_icmp .ge 21, 3) := by decide +kernel
theorem dX0_used_10 : decode cX0_used 10 = .ok (.aload_n 0, 1) := by decide +kernel
theorem dX0_used_11 : decode cX0_used 11 = .ok (.getfield 15, 3) := by decide +kernel
theorem dX0_used_14 : decode cX0_used 14 = .ok (.iload_n 2, 1) := by decide +kernel
theorem dX0_used_15 : decode cX0_used 15 = .ok (.iaload, 1) := by decide +kernel
theorem dX0_used_16 : decode cX0_used 16 = .ok (.ifCond .eq 6, 3) := by decide +kernel
theorem dX0_used_19 : decode cX0_used 19 = .ok (.iinc 1 1, 3) := by decide +kernel
theorem dX0_used_22 : decode cX0_used 22 = .ok (.iinc 2 1, 3) := by decide +kernel
theorem dX0_used_25 : decode cX0_used 25 = .ok (.goto (-21), 3) := by decide +kernel
theorem dX0_used_28 : decode cX0_used 28 = .ok (.iload_n 1, 1) := by decide +kernel
theorem dX0_used_29 : decode cX0_used 29 = .ok (.ireturn, 1) := by decide +kernel
set_option maxRecDepth 20000 in
theorem ggX0_isBand_X5_within : GoodIn wsX0_isBand wsX5_within := goodIn_r _ [3] (by decide +kernel) (by decide +kernel)
set_option maxRecDepth 20000 in
theorem gX0_isBand_X5_within_n31 : GoodIn wsX0_isBand (wsX5_within) := ggX0_isBand_X5_within
theorem dX0_isBand_0 : decode cX0_isBand 0 = .ok (.iload_n 0, 1) := by decide +kernel
theorem dX0_isBand_1 : decode cX0_isBand 1 = .ok (.iconst 0, 1) := by decide +kernel
theorem dX0_isBand_2 : decode cX0_isBand 2 = .ok (.iconst 1, 1) := by decide +kernel
theorem dX0_isBand_3 : decode cX0_isBand 3 = .ok (.invokestatic 31, 3) := by decide +kernel
theorem dX0_isBand_6 : decode cX0_isBand 6 = .ok (.ifCond .eq 17, 3) := by decide +kernel
theorem dX0_isBand_9 : decode cX0_isBand 9 = .ok (.iload_n 1, 1) := by decide +kernel
theorem dX0_isBand_10 : decode cX0_isBand 10 = .ok (.iconst 0, 1) := by decide +kernel
theorem dX0_isBand_11 : decode cX0_isBand 11 = .ok (.bipush 10, 2) := by decide +kernel
theorem dX0_isBand_13 : decode cX0_isBand 13 = .ok (.invokestatic 31, 3) := by decide +kernel
theorem dX0_isBand_16 : decode cX0_isBand 16 = .ok (.ifCond .eq 7, 3) := by decide +kernel
theorem dX0_isBand_19 : decode cX0_isBand 19 = .ok (.iconst 1, 1) := by decide +kernel
theorem dX0_isBand_20 : decode cX0_isBand 20 = .ok (.goto 4, 3) := by decide +kernel
theorem dX0_isBand_23 : decode cX0_isBand 23 = .ok (.iconst 0, 1) := by decide +kernel
theorem dX0_isBand_24 : decode cX0_isBand 24 = .ok (.ireturn, 1) := by decide +kernel
set_option maxRecDepth 20000 in
theorem ggX1_init_X2_init : GoodIn wsX1_init wsX2_init := goodIn_r _ [23, 24, 2, 3, 25, 26, 34] (by decide +kernel) (by decide +kernel)
set_option maxRecDepth 20000 in
theorem gX1_init_X2_init : GoodIn wsX1_init (wsX2_init) := ggX1_init_X2_init
set_option maxRecDepth 20000 in
theorem ggX1_init_X0_init : GoodIn wsX1_init wsX0_init := goodIn_r _ [29, 30, 2, 3, 31, 32, 25, 33, 50, 51] (by decide +kernel) (by decide +kernel)
set_option maxRecDepth 20000 in
theorem gX1_init_X0_init : GoodIn wsX1_init (wsX0_init) := ggX1_init_X0_init
theorem dX1_init_0 : decode cX1_init 0 = .ok (.aload_n 0, 1) := by decide +kernel
theorem dX1_init_1 : decode cX1_init 1 = .ok (.invokespecial 5, 3) := by decide +kernel
theorem dX1_init_4 : decode cX1_init 4 = .ok (.aload_n 0, 1) := by decide +kernel
theorem dX1_init_5 : decode cX1_init 5 = .ok (.new 1, 3) := by decide +kernel
theorem dX1_init_8 : decode cX1_init 8 = .ok (.dup, 1) := by decide +kernel
theorem dX1_init_9 : decode cX1_init 9 = .ok (.invokespecial 11, 3) := by decide +kernel
theorem dX1_init_12 : decode cX1_init 12 = .ok (.putfield 12, 3) := by decide +kernel
theorem dX1_init_15 : decode cX1_init 15 = .ok (.aload_n 0, 1) := by decide +kernel
theorem dX1_init_16 : decode cX1_init 16 = .ok (.new 18, 3) := by decide +kernel
theorem dX1_init_19 : decode cX1_init 19 = .ok (.dup, 1) := by decide +kernel
theorem dX1_init_20 : decode cX1_init 20 = .ok (.invokespecial 20, 3) := by decide +kernel
theorem dX1_init_23 : decode cX1_init 23 = .ok (.putfield 21, 3) := by decide +kernel
theorem dX1_init_26 : decode cX1_init 26 = .ok (.aload_n 0, 1) := by decide +kernel
theorem dX1_init_27 : decode cX1_init 27 = .ok (.sipush 1000, 3) := by decide +kernel
theorem dX1_init_30 : decode cX1_init 30 = .ok (.putfield 25, 3) := by decide +kernel
theorem dX1_init_33 : decode cX1_init 33 = .ok (.aload_n 0, 1) := by decide +kernel
theorem dX1_init_34 : decode cX1_init 34 = .ok (.sipush 500, 3) := by decide +kernel
theorem dX1_init_37 : decode cX1_init 37 = .ok (.putfield 29, 3) := by decide +kernel
theorem dX1_init_40 : decode cX1_init 40 = .ok (.aload_n 0, 1) := by decide +kernel
theorem dX1_init_41 : decode cX1_init 41 = .ok (.sipush 1000, 3) := by decide +kernel
theorem dX1_init_44 : decode cX1_init 44 = .ok (.putfield 32, 3) := by decide +kernel
theorem dX1_init_47 : decode cX1_init 47 = .ok (.aload_n 0, 1) := by decide +kernel
theorem dX1_init_48 : decode cX1_init 48 = .ok (.iconst 1, 1) := by decide +kernel
theorem dX1_init_49 : decode cX1_init 49 = .ok (.putfield 35, 3) := by decide +kernel
theorem dX1_init_52 : decode cX1_init 52 = .ok (.aload_n 0, 1) := by decide +kernel
theorem dX1_init_53 : decode cX1_init 53 = .ok (.bipush 10, 2) := by decide +kernel
theorem dX1_init_55 : decode cX1_init 55 = .ok (.putfield 38, 3) := by decide +kernel
theorem dX1_init_58 : decode cX1_init 58 = .ok (.aload_n 0, 1) := by decide +kernel
theorem dX1_init_59 : decode cX1_init 59 = .ok (.ldc 41, 2) := by decide +kernel
theorem dX1_init_61 : decode cX1_init 61 = .ok (.putfield 42, 3) := by decide +kernel
theorem dX1_init_64 : decode cX1_init 64 = .ok (.aload_n 0, 1) := by decide +kernel
theorem dX1_init_65 : decode cX1_init 65 = .ok (.ldc 41, 2) := by decide +kernel
theorem dX1_init_67 : decode cX1_init 67 = .ok (.putfield 45, 3) := by decide +kernel
theorem dX1_init_70 : decode cX1_init 70 = .ok (.aload_n 0, 1) := by decide +kernel
theorem dX1_init_71 : decode cX1_init 71 = .ok (.bipush 100, 2) := by decide +kernel
theorem dX1_init_73 : decode cX1_init 73 = .ok (.putfield 48, 3) := by decide +kernel
theorem dX1_init_76 : decode cX1_init 76 = .ok (.return_, 1) := by decide +kernel
set_option maxRecDepth 20000 in
theorem ggX1_copyFrom_X2_copyFrom : GoodIn wsX1_copyFrom wsX2_copyFrom := goodIn_r _ [20, 21, 22, 23, 24, 25, 49] (by decide +kernel) (by decide +kernel)
set_option maxRecDepth 20000 in
theorem gX1_copyFrom_X2_copyFrom : GoodIn wsX1_copyFrom (wsV RX1 51 RX2 yX2_copyFrom wsX2_copyFrom) := goodIn_app (goodIn_of _ (by decide +kernel)) ggX1_copyFrom_X2_copyFrom
set_option maxRecDepth 20000 in
theorem ggX1_copyFrom_X0_copyFrom : GoodIn wsX1_copyFrom wsX0_copyFrom := goodIn_r _ [30, 31, 32, 23, 24, 25, 33, 50, 51] (by decide +kernel) (by decide +kernel)
set_option maxRecDepth 20000 in
theorem gX1_copyFrom_X0_copyFrom : GoodIn wsX1_copyFrom (wsV RX1 55 RX0 yX0_copyFrom wsX0_copyFrom) := goodIn_app (goodIn_of _ (by decide +kernel)) ggX1_copyFrom_X0_copyFrom
theorem dX1_copyFrom_0 : decode cX1_copyFrom 0 = .ok (.aload_n 0, 1) := by decide +kernel
theorem dX1_copyFrom_1 : decode cX1_copyFrom 1 = .ok (.getfield 12, 3) := by decide +kernel
theorem dX1_copyFrom_4 : decode cX1_copyFrom 4 = .ok (.aload_n 1, 1) := by decide +kernel
theorem dX1_copyFrom_5 : decode cX1_copyFrom 5 = .ok (.getfield 12, 3) := by decide +kernel
theorem dX1_copyFrom_8 : decode cX1_copyFrom 8 = .ok (.invokevirtual 51, 3) := by decide +kernel
theorem dX1_copyFrom_11 : decode cX1_copyFrom 11 = .ok (.aload_n 0, 1) := by decide +kernel
theorem dX1_copyFrom_12 : decode cX1_copyFrom 12 = .ok (.getfield 21, 3) := by decide +kernel
theorem dX1_copyFrom_15 : decode cX1_copyFrom 15 = .ok (.aload_n 1, 1) := by decide +kernel
theorem dX1_copyFrom_16 : decode cX1_copyFrom 16 = .ok (.getfield 21, 3) := by decide +kernel
theorem dX1_copyFrom_19 : decode cX1_copyFrom 19 = .ok (.invokevirtual 55, 3) := by decide +kernel
theorem dX1_copyFrom_22 : decode cX1_copyFrom 22 = .ok (.aload_n 0, 1) := by decide +kernel
theorem dX1_copyFrom_23 : decode cX1_copyFrom 23 = .ok (.aload_n 1, 1) := by decide +kernel
theorem dX1_copyFrom_24 : decode cX1_copyFrom 24 = .ok (.getfield 58, 3) := by decide +kernel
theorem dX1_copyFrom_27 : decode cX1_copyFrom 27 = .ok (.putfield 58, 3) := by decide +kernel
theorem dX1_copyFrom_30 : decode cX1_copyFrom 30 = .ok (.aload_n 0, 1) := by decide +kernel
theorem dX1_copyFrom_31 : decode cX1_copyFrom 31 = .ok (.aload_n 1, 1) := by decide +kernel
theorem dX1_copyFrom_32 : decode cX1_copyFrom 32 = .ok (.getfield 25, 3) := by decide +kernel
theorem dX1_copyFrom_35 : decode cX1_copyFrom 35 = .ok (.putfield 25, 3) := by decide +kernel
theorem dX1_copyFrom_38 : decode cX1_copyFrom 38 = .ok (.aload_n 0, 1) := by decide +kernel
theorem dX1_copyFrom_39 : decode cX1_copyFrom 39 = .ok (.aload_n 1, 1) := by decide +kernel
theorem dX1_copyFrom_40 : decode cX1_copyFrom 40 = .ok (.getfield 29, 3) := by decide +kernel
theorem dX1_copyFrom_43 : decode cX1_copyFrom 43 = .ok (.putfield 29, 3) := by decide +kernel
theorem dX1_copyFrom_46 : decode cX1_copyFrom 46 = .ok (.aload_n 0, 1) := by decide +kernel
theorem dX1_copyFrom_47 : decode cX1_copyFrom 47 = .ok (.aload_n 1, 1) := by decide +kernel
theorem dX1_copyFrom_48 : decode cX1_copyFrom 48 = .ok (.getfield 32, 3) := by decide +kernel
theorem dX1_copyFrom_51 : decode cX1_copyFrom 51 = .ok (.putfield 32, 3) := by decide +kernel
theorem dX1_copyFrom_54 : decode cX1_copyFrom 54 = .ok (.aload_n 0, 1) := by decide +kernel
theorem dX1_copyFrom_55 : decode cX1_copyFrom 55 = .ok (.aload_n 1, 1) := by decide +kernel
theorem dX1_copyFrom_56 : decode cX1_copyFrom 56 = .ok (.getfield 35, 3) := by decide +kernel
theorem dX1_copyFrom_59 : decode cX1_copyFrom 59 = .ok (.putfield 35, 3) := by decide +kernel
theorem dX1_copyFrom_62 : decode cX1_copyFrom 62 = .ok (.aload_n 0, 1) := by decide +kernel
theorem dX1_copyFrom_63 : decode cX1_copyFrom 63 = .ok (.aload_n 1, 1) := by decide +kernel
theorem dX1_copyFrom_64 : decode cX1_copyFrom 64 = .ok (.getfield 38, 3) := by decide +kernel
theorem dX1_copyFrom_67 : decode cX1_copyFrom 67 = .ok (.putfield 38, 3) := by decide +kernel
theorem dX1_copyFrom_70 : decode cX1_copyFrom 70 = .ok (.aload_n 0, 1) := by decide +kernel
theorem dX1_copyFrom_71 : decode cX1_copyFrom 71 = .ok (.aload_n 1, 1) := by decide +kernel
theorem dX1_copyFrom_72 : decode cX1_copyFrom 72 = .ok (.getfield 61, 3) := by decide +kernel
theorem dX1_copyFrom_75 : decode cX1_copyFrom 75 = .ok (.putfield 61, 3) := by decide +kernel
theorem dX1_copyFrom_78 : decode cX1_copyFrom 78 = .ok (.aload_n 0, 1) := by decide +kernel
theorem dX1_copyFrom_79 : decode cX1_copyFrom 79 = .ok (.aload_n 1, 1) := by decide +kernel
theorem dX1_copyFrom_80 : decode cX1_copyFrom 80 = .ok (.getfield 64, 3) := by decide +kernel
theorem dX1_copyFrom_83 : decode cX1_copyFrom 83 = .ok (.putfield 64, 3) := by decide +kernel
theorem dX1_copyFrom_86 : decode cX1_copyFrom 86 = .ok (.aload_n 0, 1) := by decide +kernel
theorem dX1_copyFrom_87 : decode cX1_copyFrom 87 = .ok (.aload_n 1, 1) := by decide +kernel
theorem dX1_copyFrom_88 : decode cX1_copyFrom 88 = .ok (.getfield 67, 3) := by decide +kernel
theorem dX1_copyFrom_91 : decode cX1_copyFrom 91 = .ok (.putfield 67, 3) := by decide +kernel
theorem dX1_copyFrom_94 : decode cX1_copyFrom 94 = .ok (.aload_n 0, 1) := by decide +kernel
theorem dX1_copyFrom_95 : decode cX1_copyFrom 95 = .ok (.aload_n 1, 1) := by decide +kernel
theorem dX1_copyFrom_96 : decode cX1_copyFrom 96 = .ok (.getfield 42, 3) := by decide +kernel
theorem dX1_copyFrom_99 : decode cX1_copyFrom 99 = .ok (.putfield 42, 3) := by decide +kernel
theorem dX1_copyFrom_102 : decode cX1_copyFrom 102 = .ok (.aload_n 0, 1) := by decide +kernel
theorem dX1_copyFrom_103 : decode cX1_copyFrom 103 = .ok (.aload_n 1, 1) := by decide +kernel
theorem dX1_copyFrom_104 : decode cX1_copyFrom 104 = .ok (.getfield 45, 3) := by decide +kernel
theorem dX1_copyFrom_107 : decode cX1_copyFrom 107 = .ok (.putfield 45, 3) := by decide +kernel
theorem dX1_copyFrom_110 : decode cX1_copyFrom 110 = .ok (.aload_n 0, 1) := by decide +kernel
theorem dX1_copyFrom_111 : decode cX1_copyFrom 111 = .ok (.aload_n 1, 1) := by decide +kernel
theorem dX1_copyFrom_112 : decode cX1_copyFrom 112 = .ok (.getfield 70, 3) := by decide +kernel
theorem dX1_copyFrom_115 : decode cX1_copyFrom 115 = .ok (.putfield 70, 3) := by decide +kernel
theorem dX1_copyFrom_118 : decode cX1_copyFrom 118 = .ok (.aload_n 0, 1) := by decide +kernel
theorem dX1_copyFrom_119 : decode cX1_copyFrom 119 = .ok (.aload_n 1, 1) := by decide +kernel
theorem dX1_copyFrom_120 : decode cX1_copyFrom 120 = .ok (.getfield 48, 3) := by decide +kernel
theorem dX1_copyFrom_123 : decode cX1_copyFrom 123 = .ok (.putfield 48, 3) := by decide +kernel
theorem dX1_copyFrom_126 : decode cX1_copyFrom 126 = .ok (.return_, 1) := by decide +kernel
set_option maxRecDepth 20000 in
theorem ggX1_begin_X1_isRange : GoodIn wsX1_begin wsX1_isRange := goodIn_r _ [18, 19, 20, 21, 22] (by decide +kernel) (by decide +kernel)
set_option maxRecDepth 20000 in
theorem gX1_begin_X1_isRange : GoodIn wsX1_begin (va_wsS RX1 73 yX1_isRange wsX1_isRange) := goodIn_app (goodIn_of _ (by decide +kernel)) ggX1_begin_X1_isRange
set_option maxRecDepth 20000 in
theorem ggX1_begin_X0_forget : GoodIn wsX1_begin wsX0_forget := goodIn_r _ [27, 28, 29, 45, 46] (by decide +kernel) (by decide +kernel)
set_option maxRecDepth 20000 in
theorem gX1_begin_X0_forget : GoodIn wsX1_begin (wsV RX1 78 RX0 yX0_forget wsX0_forget) := goodIn_app (goodIn_of _ (by decide +kernel)) ggX1_begin_X0_forget
theorem dX1_begin_0 : decode cX1_begin 0 = .ok (.iload_n 1, 1) := by decide +kernel
theorem dX1_begin_1 : decode cX1_begin 1 = .ok (.iload_n 2, 1) := by decide +kernel
theorem dX1_begin_2 : decode cX1_begin 2 = .ok (.invokestatic 73, 3) := by decide +kernel
theorem dX1_begin_5 : decode cX1_begin 5 = .ok (.ifCond .ne 6, 3) := by decide +kernel
theorem dX1_begin_8 : decode cX1_begin 8 = .ok (.ldc 77, 2) := by decide +kernel
theorem dX1_begin_10 : decode cX1_begin 10 = .ok (.ireturn, 1) := by decide +kernel
theorem dX1_begin_11 : decode cX1_begin 11 = .ok (.aload_n 0, 1) := by decide +kernel
theorem dX1_begin_12 : decode cX1_begin 12 = .ok (.getfield 29, 3) := by decide +kernel
theorem dX1_begin_15 : decode cX1_begin 15 = .ok (.istore_n 3, 1) := by decide +kernel
theorem dX1_begin_16 : decode cX1_begin 16 = .ok (.aload_n 0, 1) := by decide +kernel
theorem dX1_begin_17 : decode cX1_begin 17 = .ok (.iload_n 1, 1) := by decide +kernel
theorem dX1_begin_18 : decode cX1_begin 18 = .ok (.putfield 29, 3) := by decide +kernel
theorem dX1_begin_21 : decode cX1_begin 21 = .ok (.aload_n 0, 1) := by decide +kernel
theorem dX1_begin_22 : decode cX1_begin 22 = .ok (.iload_n 2, 1) := by decide +kernel
theorem dX1_begin_23 : decode cX1_begin 23 = .ok (.putfield 32, 3) := by decide +kernel
theorem dX1_begin_26 : decode cX1_begin 26 = .ok (.aload_n 0, 1) := by decide +kernel
theorem dX1_begin_27 : decode cX1_begin 27 = .ok (.iconst 0, 1) := by decide +kernel
theorem dX1_begin_28 : decode cX1_begin 28 = .ok (.putfield 58, 3) := by decide +kernel
theorem dX1_begin_31 : decode cX1_begin 31 = .ok (.aload_n 0, 1) := by decide +kernel
theorem dX1_begin_32 : decode cX1_begin 32 = .ok (.iload_n 2, 1) := by decide +kernel
theorem dX1_begin_33 : decode cX1_begin 33 = .ok (.putfield 25, 3) := by decide +kernel
theorem dX1_begin_36 : decode cX1_begin 36 = .ok (.aload_n 0, 1) := by decide +kernel
theorem dX1_begin_37 : decode cX1_begin 37 = .ok (.iconst 0, 1) := by decide +kernel
theorem dX1_begin_38 : decode cX1_begin 38 = .ok (.putfield 61, 3) := by decide +kernel
theorem dX1_begin_41 : decode cX1_begin 41 = .ok (.aload_n 0, 1) := by decide +kernel
theorem dX1_begin_42 : decode cX1_begin 42 = .ok (.iconst 0, 1) := by decide +kernel
theorem dX1_begin_43 : decode cX1_begin 43 = .ok (.putfield 64, 3) := by decide +kernel
theorem dX1_begin_46 : decode cX1_begin 46 = .ok (.aload_n 0, 1) := by decide +kernel
theorem dX1_begin_47 : decode cX1_begin 47 = .ok (.iconst 0, 1) := by decide +kernel
theorem dX1_begin_48 : decode cX1_begin 48 = .ok (.putfield 67, 3) := by decide +kernel
theorem dX1_begin_51 : decode cX1_begin 51 = .ok (.aload_n 0, 1) := by decide +kernel
theorem dX1_begin_52 : decode cX1_begin 52 = .ok (.ldc 41, 2) := by decide +kernel
theorem dX1_begin_54 : decode cX1_begin 54 = .ok (.putfield 42, 3) := by decide +kernel
theorem dX1_begin_57 : decode cX1_begin 57 = .ok (.aload_n 0, 1) := by decide +kernel
theorem dX1_begin_58 : decode cX1_begin 58 = .ok (.ldc 41, 2) := by decide +kernel
theorem dX1_begin_60 : decode cX1_begin 60 = .ok (.putfield 45, 3) := by decide +kernel
theorem dX1_begin_63 : decode cX1_begin 63 = .ok (.aload_n 0, 1) := by decide +kernel
theorem dX1_begin_64 : decode cX1_begin 64 = .ok (.iconst 0, 1) := by decide +kernel
theorem dX1_begin_65 : decode cX1_begin 65 = .ok (.putfield 70, 3) := by decide +kernel
theorem dX1_begin_68 : decode cX1_begin 68 = .ok (.aload_n 0, 1) := by decide +kernel
theorem dX1_begin_69 : decode cX1_begin 69 = .ok (.bipush 100, 2) := by decide +kernel
theorem dX1_begin_71 : decode cX1_begin 71 = .ok (.putfield 48, 3) := by decide +kernel
theorem dX1_begin_74 : decode cX1_begin 74 = .ok (.aload_n 0, 1) := by decide +kernel
theorem dX1_begin_75 : decode cX1_begin 75 = .ok (.getfield 21, 3) := by decide +kernel
theorem dX1_begin_78 : decode cX1_begin 78 = .ok (.invokevirtual 78, 3) := by decide +kernel
theorem dX1_begin_81 : decode cX1_begin 81 = .ok (.iload_n 3, 1) := by decide +kernel
theorem dX1_begin_82 : decode cX1_begin 82 = .ok (.ireturn, 1) := by decide +kernel
set_option maxRecDepth 20000 in
theorem ggX1_hold_X1_isRange : GoodIn wsX1_hold wsX1_isRange := goodIn_r _ [8, 9, 10, 11, 12] (by decide +kernel) (by decide +kernel)
set_option maxRecDepth 20000 in
theorem gX1_hold_X1_isRange : GoodIn wsX1_hold (va_wsS RX1 73 yX1_isRange wsX1_isRange) := goodIn_app (goodIn_of _ (by decide +kernel)) ggX1_hold_X1_isRange
theorem dX1_hold_0 : decode cX1_hold 0 = .ok (.iload_n 1, 1) := by decide +kernel
theorem dX1_hold_1 : decode cX1_hold 1 = .ok (.iload_n 2, 1) := by decide +kernel
theorem dX1_hold_2 : decode cX1_hold 2 = .ok (.invokestatic 73, 3) := by decide +kernel
theorem dX1_hold_5 : decode cX1_hold 5 = .ok (.ifCond .eq 11, 3) := by decide +kernel
theorem dX1_hold_8 : decode cX1_hold 8 = .ok (.iload_n 2, 1) := by decide +kernel
theorem dX1_hold_9 : decode cX1_hold 9 = .ok (.aload_n 0, 1) := by decide +kernel
theorem dX1_hold_10 : decode cX1_hold 10 = .ok (.getfield 32, 3) := by decide +kernel
theorem dX1_hold_13 : decode cX1_hold 13 = .ok (.if_icmp .le 6, 3) := by decide +kernel
theorem dX1_hold_16 : decode cX1_hold 16 = .ok (.ldc 77, 2) := by decide +kernel
theorem dX1_hold_18 : decode cX1_hold 18 = .ok (.ireturn, 1) := by decide +kernel
theorem dX1_hold_19 : decode cX1_hold 19 = .ok (.aload_n 0, 1) := by decide +kernel
theorem dX1_hold_20 : decode cX1_hold 20 = .ok (.getfield 25, 3) := by decide +kernel
theorem dX1_hold_23 : decode cX1_hold 23 = .ok (.istore_n 3, 1) := by decide +kernel
theorem dX1_hold_24 : decode cX1_hold 24 = .ok (.aload_n 0, 1) := by decide +kernel
theorem dX1_hold_25 : decode cX1_hold 25 = .ok (.iload_n 1, 1) := by decide +kernel
theorem dX1_hold_26 : decode cX1_hold 26 = .ok (.putfield 58, 3) := by decide +kernel
theorem dX1_hold_29 : decode cX1_hold 29 = .ok (.aload_n 0, 1) := by decide +kernel
theorem dX1_hold_30 : decode cX1_hold 30 = .ok (.iload_n 2, 1) := by decide +kernel
theorem dX1_hold_31 : decode cX1_hold 31 = .ok (.putfield 25, 3) := by decide +kernel
theorem dX1_hold_34 : decode cX1_hold 34 = .ok (.iload_n 3, 1) := by decide +kernel
theorem dX1_hold_35 : decode cX1_hold 35 = .ok (.ireturn, 1) := by decide +kernel
set_option maxRecDepth 20000 in
theorem ggX1_putOffset_X5_within : GoodIn wsX1_putOffset wsX5_within := goodIn_r _ [5] (by decide +kernel) (by decide +kernel)
set_option maxRecDepth 20000 in
theorem gX1_putOffset_X5_within_n81 : GoodIn wsX1_putOffset (wsX5_within) := ggX1_putOffset_X5_within
theorem dX1_putOffset_0 : decode cX1_putOffset 0 = .ok (.iload_n 1, 1) := by decide +kernel
theorem dX1_putOffset_1 : decode cX1_putOffset 1 = .ok (.iconst 0, 1) := by decide +kernel
theorem dX1_putOffset_2 : decode cX1_putOffset 2 = .ok (.bipush 9, 2) := by decide +kernel
theorem dX1_putOffset_4 : decode cX1_putOffset 4 = .ok (.invokestatic 81, 3) := by decide +kernel
theorem dX1_putOffset_7 : decode cX1_putOffset 7 = .ok (.ifCond .ne 6, 3) := by decide +kernel
theorem dX1_putOffset_10 : decode cX1_putOffset 10 = .ok (.ldc 77, 2) := by decide +kernel
theorem dX1_putOffset_12 : decode cX1_putOffset 12 = .ok (.ireturn, 1) := by decide +kernel
theorem dX1_putOffset_13 : decode cX1_putOffset 13 = .ok (.aload_n 0, 1) := by decide +kernel
theorem dX1_putOffset_14 : decode cX1_putOffset 14 = .ok (.getfield 35, 3) := by decide +kernel
theorem dX1_putOffset_17 : decode cX1_putOffset 17 = .ok (.istore_n 2, 1) := by decide +kernel
theorem dX1_putOffset_18 : decode cX1_putOffset 18 = .ok (.aload_n 0, 1) := by decide +kernel
theorem dX1_putOffset_19 : decode cX1_putOffset 19 = .ok (.iload_n 1, 1) := by decide +kernel
theorem dX1_putOffset_20 : decode cX1_putOffset 20 = .ok (.putfield 35, 3) := by decide +kernel
theorem dX1_putOffset_23 : decode cX1_putOffset 23 = .ok (.iload_n 2, 1) := by decide +kernel
theorem dX1_putOffset_24 : decode cX1_putOffset 24 = .ok (.ireturn, 1) := by decide +kernel
set_option maxRecDepth 20000 in
theorem ggX1_putCling_X5_within : GoodIn wsX1_putCling wsX5_within := goodIn_r _ [5] (by decide +kernel) (by decide +kernel)
set_option maxRecDepth 20000 in
theorem gX1_putCling_X5_within_n81 : GoodIn wsX1_putCling (wsX5_within) := ggX1_putCling_X5_within
theorem dX1_putCling_0 : decode cX1_putCling 0 = .ok (.iload_n 1, 1) := by decide +kernel
theorem dX1_putCling_1 : decode cX1_putCling 1 = .ok (.iconst 0, 1) := by decide +kernel
theorem dX1_putCling_2 : decode cX1_putCling 2 = .ok (.sipush 500, 3) := by decide +kernel
theorem dX1_putCling_5 : decode cX1_putCling 5 = .ok (.invokestatic 81, 3) := by decide +kernel
theorem dX1_putCling_8 : decode cX1_putCling 8 = .ok (.ifCond .ne 6, 3) := by decide +kernel
theorem dX1_putCling_11 : decode cX1_putCling 11 = .ok (.ldc 77, 2) := by decide +kernel
theorem dX1_putCling_13 : decode cX1_putCling 13 = .ok (.ireturn, 1) := by decide +kernel
theorem dX1_putCling_14 : decode cX1_putCling 14 = .ok (.aload_n 0, 1) := by decide +kernel
theorem dX1_putCling_15 : decode cX1_putCling 15 = .ok (.getfield 38, 3) := by decide +kernel
theorem dX1_putCling_18 : decode cX1_putCling 18 = .ok (.istore_n 2, 1) := by decide +kernel
theorem dX1_putCling_19 : decode cX1_putCling 19 = .ok (.aload_n 0, 1) := by decide +kernel
theorem dX1_putCling_20 : decode cX1_putCling 20 = .ok (.iload_n 1, 1) := by decide +kernel
theorem dX1_putCling_21 : decode cX1_putCling 21 = .ok (.putfield 38, 3) := by decide +kernel
theorem dX1_putCling_24 : decode cX1_putCling 24 = .ok (.iload_n 2, 1) := by decide +kernel
theorem dX1_putCling_25 : decode cX1_putCling 25 = .ok (.ireturn, 1) := by decide +kernel
set_option maxRecDepth 20000 in
theorem ggX1_putPoint_X2_putPoint : GoodIn wsX1_putPoint wsX2_putPoint := goodIn_r _ [6, 7, 8, 9, 10, 11, 12, 28] (by decide +kernel) (by decide +kernel)
set_option maxRecDepth 20000 in
theorem gX1_putPoint_X2_putPoint : GoodIn wsX1_putPoint (wsV RX1 85 RX2 yX2_putPoint wsX2_putPoint) := goodIn_app (goodIn_of _ (by decide +kernel)) ggX1_putPoint_X2_putPoint
theorem dX1_putPoint_0 : decode cX1_putPoint 0 = .ok (.aload_n 0, 1) := by decide +kernel
theorem dX1_putPoint_1 : decode cX1_putPoint 1 = .ok (.getfield 12, 3) := by decide +kernel
theorem dX1_putPoint_4 : decode cX1_putPoint 4 = .ok (.iload_n 1, 1) := by decide +kernel
theorem dX1_putPoint_5 : decode cX1_putPoint 5 = .ok (.iload_n 2, 1) := by decide +kernel
theorem dX1_putPoint_6 : decode cX1_putPoint 6 = .ok (.invokevirtual 85, 3) := by decide +kernel
theorem dX1_putPoint_9 : decode cX1_putPoint 9 = .ok (.ireturn, 1) := by decide +kernel
set_option maxRecDepth 20000 in
theorem ggX1_pass_X5_within : GoodIn wsX1_pass wsX5_within := goodIn_r _ [18] (by decide +kernel) (by decide +kernel)
set_option maxRecDepth 20000 in
theorem gX1_pass_X5_within_n81 : GoodIn wsX1_pass (wsX5_within) := ggX1_pass_X5_within
set_option maxRecDepth 20000 in
theorem ggX1_pass_X1_showPassing : GoodIn wsX1_pass wsX1_showPassing := goodIn_r _ [23, 24, 4, 5, 6, 7, 10, 11, 12, 25, 26, 27, 22, 28, 29, 9, 2, 8, 34, 35, 36, 37, 38, 39, 40, 41, 42, 43, 44, 45, 46, 47, 48] (by decide +kernel) (by decide +kernel)
set_option maxRecDepth 20000 in
theorem gX1_pass_X1_showPassing : GoodIn wsX1_pass (wsV RX1 98 RX1 yX1_showPassing wsX1_showPassing) := goodIn_app (goodIn_of _ (by decide +kernel)) ggX1_pass_X1_showPassing
set_option maxRecDepth 20000 in
theorem ggX1_pass_X1_showEmpty : GoodIn wsX1_pass wsX1_showEmpty := goodIn_r _ [33, 8, 24, 34, 35, 36, 37, 38, 39, 40, 41, 42, 43, 44, 45, 46, 47, 48] (by decide +kernel) (by decide +kernel)
set_option maxRecDepth 20000 in
theorem gX1_pass_X1_showEmpty : GoodIn wsX1_pass (wsV RX1 102 RX1 yX1_showEmpty wsX1_showEmpty) := goodIn_app (goodIn_of _ (by decide +kernel)) ggX1_pass_X1_showEmpty
theorem dX1_pass_0 : decode cX1_pass 0 = .ok (.iload_n 1, 1) := by decide +kernel
theorem dX1_pass_1 : decode cX1_pass 1 = .ok (.bipush (-99), 2) := by decide +kernel
theorem dX1_pass_3 : decode cX1_pass 3 = .ok (.bipush 99, 2) := by decide +kernel
theorem dX1_pass_5 : decode cX1_pass 5 = .ok (.invokestatic 81, 3) := by decide +kernel
theorem dX1_pass_8 : decode cX1_pass 8 = .ok (.ifCond .eq 14, 3) := by decide +kernel
theorem dX1_pass_11 : decode cX1_pass 11 = .ok (.iload_n 2, 1) := by decide +kernel
theorem dX1_pass_12 : decode cX1_pass 12 = .ok (.iconst 1, 1) := by decide +kernel
theorem dX1_pass_13 : decode cX1_pass 13 = .ok (.sipush 999, 3) := by decide +kernel
theorem dX1_pass_16 : decode cX1_pass 16 = .ok (.invokestatic 81, 3) := by decide +kernel
theorem dX1_pass_19 : decode cX1_pass 19 = .ok (.ifCond .ne 6, 3) := by decide +kernel
theorem dX1_pass_22 : decode cX1_pass 22 = .ok (.ldc 77, 2) := by decide +kernel
theorem dX1_pass_24 : decode cX1_pass 24 = .ok (.ireturn, 1) := by decide +kernel
theorem dX1_pass_25 : decode cX1_pass 25 = .ok (.aload_n 0, 1) := by decide +kernel
theorem dX1_pass_26 : decode cX1_pass 26 = .ok (.getfield 58, 3) := by decide +kernel
theorem dX1_pass_29 : decode cX1_pass 29 = .ok (.iload_n 2, 1) := by decide +kernel
theorem dX1_pass_30 : decode cX1_pass 30 = .ok (.iload_n 1, 1) := by decide +kernel
theorem dX1_pass_31 : decode cX1_pass 31 = .ok (.aload_n 0, 1) := by decide +kernel
theorem dX1_pass_32 : decode cX1_pass 32 = .ok (.getfield 35, 3) := by decide +kernel
theorem dX1_pass_35 : decode cX1_pass 35 = .ok (.iadd, 1) := by decide +kernel
theorem dX1_pass_36 : decode cX1_pass 36 = .ok (.imul, 1) := by decide +kernel
theorem dX1_pass_37 : decode cX1_pass 37 = .ok (.isub, 1) := by decide +kernel
theorem dX1_pass_38 : decode cX1_pass 38 = .ok (.iconst 0, 1) := by decide +kernel
theorem dX1_pass_39 : decode cX1_pass 39 = .ok (.invokestatic 89, 3) := by decide +kernel
theorem dX1_pass_42 : decode cX1_pass 42 = .ok (.istore_n 3, 1) := by decide +kernel
theorem dX1_pass_43 : decode cX1_pass 43 = .ok (.aload_n 0, 1) := by decide +kernel
theorem dX1_pass_44 : decode cX1_pass 44 = .ok (.getfield 25, 3) := by decide +kernel
theorem dX1_pass_47 : decode cX1_pass 47 = .ok (.iload_n 2, 1) := by decide +kernel
theorem dX1_pass_48 : decode cX1_pass 48 = .ok (.iload_n 1, 1) := by decide +kernel
theorem dX1_pass_49 : decode cX1_pass 49 = .ok (.aload_n 0, 1) := by decide +kernel
theorem dX1_pass_50 : decode cX1_pass 50 = .ok (.getfield 35, 3) := by decide +kernel
theorem dX1_pass_53 : decode cX1_pass 53 = .ok (.isub, 1) := by decide +kernel
theorem dX1_pass_54 : decode cX1_pass 54 = .ok (.imul, 1) := by decide +kernel
theorem dX1_pass_55 : decode cX1_pass 55 = .ok (.isub, 1) := by decide +kernel
theorem dX1_pass_56 : decode cX1_pass 56 = .ok (.aload_n 0, 1) := by decide +kernel
theorem dX1_pass_57 : decode cX1_pass 57 = .ok (.getfield 32, 3) := by decide +kernel
theorem dX1_pass_60 : decode cX1_pass 60 = .ok (.invokestatic 94, 3) := by decide +kernel
theorem dX1_pass_63 : decode cX1_pass 63 = .ok (.istore 4, 2) := by decide +kernel
theorem dX1_pass_65 : decode cX1_pass 65 = .ok (.iload 4, 2) := by decide +kernel
theorem dX1_pass_67 : decode cX1_pass 67 = .ok (.ifCond .lt 17, 3) := by decide +kernel
theorem dX1_pass_70 : decode cX1_pass 70 = .ok (.iload_n 3, 1) := by decide +kernel
theorem dX1_pass_71 : decode cX1_pass 71 = .ok (.aload_n 0, 1) := by decide +kernel
theorem dX1_pass_72 : decode cX1_pass 72 = .ok (.getfield 32, 3) := by decide +kernel
theorem dX1_pass_75 : decode cX1_pass 75 = .ok (.if_icmp .gt 9, 3) := by decide +kernel
theorem dX1_pass_78 : decode cX1_pass 78 = .ok (.iload_n 3, 1) := by decide +kernel
theorem dX1_pass_79 : decode cX1_pass 79 = .ok (.iload 4, 2) := by decide +kernel
theorem dX1_pass_81 : decode cX1_pass 81 = .ok (.if_icmp .le 6, 3) := by decide +kernel
theorem dX1_pass_84 : decode cX1_pass 84 = .ok (.ldc 97, 2) := by decide +kernel
theorem dX1_pass_86 : decode cX1_pass 86 = .ok (.ireturn, 1) := by decide +kernel
theorem dX1_pass_87 : decode cX1_pass 87 = .ok (.aload_n 0, 1) := by decide +kernel
theorem dX1_pass_88 : decode cX1_pass 88 = .ok (.iload_n 3, 1) := by decide +kernel
theorem dX1_pass_89 : decode cX1_pass 89 = .ok (.putfield 58, 3) := by decide +kernel
theorem dX1_pass_92 : decode cX1_pass 92 = .ok (.aload_n 0, 1) := by decide +kernel
theorem dX1_pass_93 : decode cX1_pass 93 = .ok (.iload 4, 2) := by decide +kernel
theorem dX1_pass_95 : decode cX1_pass 95 = .ok (.putfield 25, 3) := by decide +kernel
theorem dX1_pass_98 : decode cX1_pass 98 = .ok (.aload_n 0, 1) := by decide +kernel
theorem dX1_pass_99 : decode cX1_pass 99 = .ok (.dup, 1) := by decide +kernel
theorem dX1_pass_100 : decode cX1_pass 100 = .ok (.getfield 61, 3) := by decide +kernel
theorem dX1_pass_103 : decode cX1_pass 103 = .ok (.iload_n 2, 1) := by decide +kernel
theorem dX1_pass_104 : decode cX1_pass 104 = .ok (.iload_n 1, 1) := by decide +kernel
theorem dX1_pass_105 : decode cX1_pass 105 = .ok (.imul, 1) := by decide +kernel
theorem dX1_pass_106 : decode cX1_pass 106 = .ok (.iadd, 1) := by decide +kernel
theorem dX1_pass_107 : decode cX1_pass 107 = .ok (.putfield 61, 3) := by decide +kernel
theorem dX1_pass_110 : decode cX1_pass 110 = .ok (.aload_n 0, 1) := by decide +kernel
theorem dX1_pass_111 : decode cX1_pass 111 = .ok (.dup, 1) := by decide +kernel
theorem dX1_pass_112 : decode cX1_pass 112 = .ok (.getfield 64, 3) := by decide +kernel
theorem dX1_pass_115 : decode cX1_pass 115 = .ok (.iload_n 2, 1) := by decide +kernel
theorem dX1_pass_116 : decode cX1_pass 116 = .ok (.iadd, 1) := by decide +kernel
theorem dX1_pass_117 : decode cX1_pass 117 = .ok (.putfield 64, 3) := by decide +kernel
theorem dX1_pass_120 : decode cX1_pass 120 = .ok (.aload_n 0, 1) := by decide +kernel
theorem dX1_pass_121 : decode cX1_pass 121 = .ok (.iload_n 1, 1) := by decide +kernel
theorem dX1_pass_122 : decode cX1_pass 122 = .ok (.iload_n 2, 1) := by decide +kernel
theorem dX1_pass_123 : decode cX1_pass 123 = .ok (.invokevirtual 98, 3) := by decide +kernel
theorem dX1_pass_126 : decode cX1_pass 126 = .ok (.aload_n 0, 1) := by decide +kernel
theorem dX1_pass_127 : decode cX1_pass 127 = .ok (.invokevirtual 102, 3) := by decide +kernel
theorem dX1_pass_130 : decode cX1_pass 130 = .ok (.aload_n 0, 1) := by decide +kernel
theorem dX1_pass_131 : decode cX1_pass 131 = .ok (.getfield 25, 3) := by decide +kernel
theorem dX1_pass_134 : decode cX1_pass 134 = .ok (.aload_n 0, 1) := by decide +kernel
theorem dX1_pass_135 : decode cX1_pass 135 = .ok (.getfield 58, 3) := by decide +kernel
theorem dX1_pass_138 : decode cX1_pass 138 = .ok (.isub, 1) := by decide +kernel
theorem dX1_pass_139 : decode cX1_pass 139 = .ok (.ireturn, 1) := by decide +kernel
set_option maxRecDepth 20000 in
theorem ggX1_showPassing_X1_middle : GoodIn wsX1_showPassing wsX1_middle := goodIn_r _ [13, 14, 15, 16, 17, 6, 7, 4, 8, 18, 19, 20, 21, 22, 23, 24, 25, 26, 27, 28, 29, 30, 31, 32] (by decide +kernel) (by decide +kernel)
set_option maxRecDepth 20000 in
theorem gX1_showPassing_X1_middle : GoodIn wsX1_showPassing (wsV RX1 105 RX1 yX1_middle wsX1_middle) := goodIn_app (goodIn_of _ (by decide +kernel)) ggX1_showPassing_X1_middle
theorem dX1_showPassing_0 : decode cX1_showPassing 0 = .ok (.aload_n 0, 1) := by decide +kernel
theorem dX1_showPassing_1 : decode cX1_showPassing 1 = .ok (.invokevirtual 105, 3) := by decide +kernel
theorem dX1_showPassing_4 : decode cX1_showPassing 4 = .ok (.bipush 10, 2) := by decide +kernel
theorem dX1_showPassing_6 : decode cX1_showPassing 6 = .ok (.idiv, 1) := by decide +kernel
theorem dX1_showPassing_7 : decode cX1_showPassing 7 = .ok (.istore_n 3, 1) := by decide +kernel
theorem dX1_showPassing_8 : decode cX1_showPassing 8 = .ok (.iload_n 1, 1) := by decide +kernel
theorem dX1_showPassing_9 : decode cX1_showPassing 9 = .ok (.ifCond .le 27, 3) := by decide +kernel
theorem dX1_showPassing_12 : decode cX1_showPassing 12 = .ok (.aload_n 0, 1) := by decide +kernel
theorem dX1_showPassing_13 : decode cX1_showPassing 13 = .ok (.aload_n 0, 1) := by decide +kernel
theorem dX1_showPassing_14 : decode cX1_showPassing 14 = .ok (.getfield 48, 3) := by decide +kernel
theorem dX1_showPassing_17 : decode cX1_showPassing 17 = .ok (.aload_n 0, 1) := by decide +kernel
theorem dX1_showPassing_18 : decode cX1_showPassing 18 = .ok (.getfield 48, 3) := by decide +kernel
theorem dX1_showPassing_21 : decode cX1_showPassing 21 = .ok (.iload_n 2, 1) := by decide +kernel
theorem dX1_showPassing_22 : decode cX1_showPassing 22 = .ok (.isub, 1) := by decide +kernel
theorem dX1_showPassing_23 : decode cX1_showPassing 23 = .ok (.iload_n 3, 1) := by decide +kernel
theorem dX1_showPassing_24 : decode cX1_showPassing 24 = .ok (.invokestatic 89, 3) := by decide +kernel
theorem dX1_showPassing_27 : decode cX1_showPassing 27 = .ok (.invokestatic 94, 3) := by decide +kernel
theorem dX1_showPassing_30 : decode cX1_showPassing 30 = .ok (.putfield 48, 3) := by decide +kernel
theorem dX1_showPassing_33 : decode cX1_showPassing 33 = .ok (.goto 28, 3) := by decide +kernel
theorem dX1_showPassing_36 : decode cX1_showPassing 36 = .ok (.iload_n 1, 1) := by decide +kernel
theorem dX1_showPassing_37 : decode cX1_showPassing 37 = .ok (.ifCond .ge 24, 3) := by decide +kernel
theorem dX1_showPassing_40 : decode cX1_showPassing 40 = .ok (.aload_n 0, 1) := by decide +kernel
theorem dX1_showPassing_41 : decode cX1_showPassing 41 = .ok (.aload_n 0, 1) := by decide +kernel
theorem dX1_showPassing_42 : decode cX1_showPassing 42 = .ok (.getfield 48, 3) := by decide +kernel
theorem dX1_showPassing_45 : decode cX1_showPassing 45 = .ok (.aload_n 0, 1) := by decide +kernel
theorem dX1_showPassing_46 : decode cX1_showPassing 46 = .ok (.getfield 48, 3) := by decide +kernel
theorem dX1_showPassing_49 : decode cX1_showPassing 49 = .ok (.iload_n 2, 1) := by decide +kernel
theorem dX1_showPassing_50 : decode cX1_showPassing 50 = .ok (.iadd, 1) := by decide +kernel
theorem dX1_showPassing_51 : decode cX1_showPassing 51 = .ok (.iload_n 3, 1) := by decide +kernel
theorem dX1_showPassing_52 : decode cX1_showPassing 52 = .ok (.invokestatic 94, 3) := by decide +kernel
theorem dX1_showPassing_55 : decode cX1_showPassing 55 = .ok (.invokestatic 89, 3) := by decide +kernel
theorem dX1_showPassing_58 : decode cX1_showPassing 58 = .ok (.putfield 48, 3) := by decide +kernel
theorem dX1_showPassing_61 : decode cX1_showPassing 61 = .ok (.return_, 1) := by decide +kernel
theorem dX1_showEmpty_0 : decode cX1_showEmpty 0 = .ok (.aload_n 0, 1) := by decide +kernel
theorem dX1_showEmpty_1 : decode cX1_showEmpty 1 = .ok (.getfield 25, 3) := by decide +kernel
theorem dX1_showEmpty_4 : decode cX1_showEmpty 4 = .ok (.ifCond .ne 8, 3) := by decide +kernel
theorem dX1_showEmpty_7 : decode cX1_showEmpty 7 = .ok (.aload_n 0, 1) := by decide +kernel
theorem dX1_showEmpty_8 : decode cX1_showEmpty 8 = .ok (.iconst 0, 1) := by decide +kernel
theorem dX1_showEmpty_9 : decode cX1_showEmpty 9 = .ok (.putfield 48, 3) := by decide +kernel
theorem dX1_showEmpty_12 : decode cX1_showEmpty 12 = .ok (.return_, 1) := by decide +kernel
set_option maxRecDepth 20000 in
theorem ggX1_rest_X1_isVoltage : GoodIn wsX1_rest wsX1_isVoltage := goodIn_r _ [19, 20, 21, 22] (by decide +kernel) (by decide +kernel)
set_option maxRecDepth 20000 in
theorem gX1_rest_X1_isVoltage : GoodIn wsX1_rest (va_wsS RX1 109 yX1_isVoltage wsX1_isVoltage) := goodIn_app (goodIn_of _ (by decide +kernel)) ggX1_rest_X1_isVoltage
set_option maxRecDepth 20000 in
theorem ggX1_rest_X1_restBound : GoodIn wsX1_rest wsX1_restBound := goodIn_r _ [26, 1, 27, 28, 2, 7, 8, 9, 10, 29, 30, 31, 16, 17, 18, 19, 20, 21, 22, 32, 33, 34, 35, 36, 37, 38, 39, 40, 41, 42, 43, 44, 45, 46, 47, 48, 49, 50, 51, 75, 76, 77, 78, 79, 80, 81, 82, 83, 84, 85, 86, 87, 88, 89, 90] (by decide +kernel) (by decide +kernel)
set_option maxRecDepth 20000 in
theorem gX1_rest_X1_restBound : GoodIn wsX1_rest (wsV RX1 113 RX1 yX1_restBound wsX1_restBound) := goodIn_app (goodIn_of _ (by decide +kernel)) ggX1_rest_X1_restBound
set_option maxRecDepth 20000 in
theorem ggX1_rest_X1_learnCapacity : GoodIn wsX1_rest wsX1_learnCapacity := goodIn_r _ [55, 12, 56, 13, 57, 6, 15, 58, 59, 60, 9, 61, 14, 62, 63, 64, 65, 75, 76, 77, 78, 79, 80, 81, 82, 83, 84, 85, 86, 87, 88, 89] (by decide +kernel) (by decide +kernel)
set_option maxRecDepth 20000 in
theorem gX1_rest_X1_learnCapacity : GoodIn wsX1_rest (wsV RX1 116 RX1 yX1_learnCapacity wsX1_learnCapacity) := goodIn_app (goodIn_of _ (by decide +kernel)) ggX1_rest_X1_learnCapacity
set_option maxRecDepth 20000 in
theorem ggX1_rest_X1_narrowCharge : GoodIn wsX1_rest wsX1_narrowCharge := goodIn_r _ [69, 11, 57, 29, 30, 9, 31, 5, 6, 7, 8, 10, 65, 75, 76, 77, 78, 79, 80, 81, 82, 83, 84, 85, 86, 87, 88, 89] (by decide +kernel) (by decide +kernel)
set_option maxRecDepth 20000 in
theorem gX1_rest_X1_narrowCharge : GoodIn wsX1_rest (wsV RX1 119 RX1 yX1_narrowCharge wsX1_narrowCharge) := goodIn_app (goodIn_of _ (by decide +kernel)) ggX1_rest_X1_narrowCharge
set_option maxRecDepth 20000 in
theorem ggX1_rest_X1_showEmpty : GoodIn wsX1_rest wsX1_showEmpty := goodIn_r _ [73, 5, 74, 75, 76, 77, 78, 79, 80, 81, 82, 83, 84, 85, 86, 87, 88, 89] (by decide +kernel) (by decide +kernel)
set_option maxRecDepth 20000 in
theorem gX1_rest_X1_showEmpty : GoodIn wsX1_rest (wsV RX1 102 RX1 yX1_showEmpty wsX1_showEmpty) := goodIn_app (goodIn_of _ (by decide +kernel)) ggX1_rest_X1_showEmpty
theorem dX1_rest_0 : decode cX1_rest 0 = .ok (.iload_n 1, 1) := by decide +kernel
theorem dX1_rest_1 : decode cX1_rest 1 = .ok (.invokestatic 109, 3) := by decide +kernel
theorem dX1_rest_4 : decode cX1_rest 4 = .ok (.ifCond .ne 6, 3) := by decide +kernel
theorem dX1_rest_7 : decode cX1_rest 7 = .ok (.ldc 77, 2) := by decide +kernel
theorem dX1_rest_9 : decode cX1_rest 9 = .ok (.ireturn, 1) := by decide +kernel
theorem dX1_rest_10 : decode cX1_rest 10 = .ok (.aload_n 0, 1) := by decide +kernel
theorem dX1_rest_11 : decode cX1_rest 11 = .ok (.iload_n 1, 1) := by decide +kernel
theorem dX1_rest_12 : decode cX1_rest 12 = .ok (.iconst 0, 1) := by decide +kernel
theorem dX1_rest_13 : decode cX1_rest 13 = .ok (.invokevirtual 113, 3) := by decide +kernel
theorem dX1_rest_16 : decode cX1_rest 16 = .ok (.istore_n 2, 1) := by decide +kernel
theorem dX1_rest_17 : decode cX1_rest 17 = .ok (.aload_n 0, 1) := by decide +kernel
theorem dX1_rest_18 : decode cX1_rest 18 = .ok (.iload_n 1, 1) := by decide +kernel
theorem dX1_rest_19 : decode cX1_rest 19 = .ok (.iconst 1, 1) := by decide +kernel
theorem dX1_rest_20 : decode cX1_rest 20 = .ok (.invokevirtual 113, 3) := by decide +kernel
theorem dX1_rest_23 : decode cX1_rest 23 = .ok (.istore_n 3, 1) := by decide +kernel
theorem dX1_rest_24 : decode cX1_rest 24 = .ok (.iload_n 2, 1) := by decide +kernel
theorem dX1_rest_25 : decode cX1_rest 25 = .ok (.ldc 41, 2) := by decide +kernel
theorem dX1_rest_27 : decode cX1_rest 27 = .ok (.if_icmp .eq 9, 3) := by decide +kernel
theorem dX1_rest_30 : decode cX1_rest 30 = .ok (.iload_n 3, 1) := by decide +kernel
theorem dX1_rest_31 : decode cX1_rest 31 = .ok (.ldc 41, 2) := by decide +kernel
theorem dX1_rest_33 : decode cX1_rest 33 = .ok (.if_icmp .ne 6, 3) := by decide +kernel
theorem dX1_rest_36 : decode cX1_rest 36 = .ok (.ldc 97, 2) := by decide +kernel
theorem dX1_rest_38 : decode cX1_rest 38 = .ok (.ireturn, 1) := by decide +kernel
theorem dX1_rest_39 : decode cX1_rest 39 = .ok (.aload_n 0, 1) := by decide +kernel
theorem dX1_rest_40 : decode cX1_rest 40 = .ok (.getfield 67, 3) := by decide +kernel
theorem dX1_rest_43 : decode cX1_rest 43 = .ok (.ifCond .le 9, 3) := by decide +kernel
theorem dX1_rest_46 : decode cX1_rest 46 = .ok (.aload_n 0, 1) := by decide +kernel
theorem dX1_rest_47 : decode cX1_rest 47 = .ok (.iload_n 2, 1) := by decide +kernel
theorem dX1_rest_48 : decode cX1_rest 48 = .ok (.iload_n 3, 1) := by decide +kernel
theorem dX1_rest_49 : decode cX1_rest 49 = .ok (.invokevirtual 116, 3) := by decide +kernel
theorem dX1_rest_52 : decode cX1_rest 52 = .ok (.aload_n 0, 1) := by decide +kernel
theorem dX1_rest_53 : decode cX1_rest 53 = .ok (.iload_n 2, 1) := by decide +kernel
theorem dX1_rest_54 : decode cX1_rest 54 = .ok (.iload_n 3, 1) := by decide +kernel
theorem dX1_rest_55 : decode cX1_rest 55 = .ok (.invokevirtual 119, 3) := by decide +kernel
theorem dX1_rest_58 : decode cX1_rest 58 = .ok (.aload_n 0, 1) := by decide +kernel
theorem dX1_rest_59 : decode cX1_rest 59 = .ok (.aload_n 0, 1) := by decide +kernel
theorem dX1_rest_60 : decode cX1_rest 60 = .ok (.getfield 25, 3) := by decide +kernel
theorem dX1_rest_63 : decode cX1_rest 63 = .ok (.aload_n 0, 1) := by decide +kernel
theorem dX1_rest_64 : decode cX1_rest 64 = .ok (.getfield 32, 3) := by decide +kernel
theorem dX1_rest_67 : decode cX1_rest 67 = .ok (.invokestatic 94, 3) := by decide +kernel
theorem dX1_rest_70 : decode cX1_rest 70 = .ok (.putfield 25, 3) := by decide +kernel
theorem dX1_rest_73 : decode cX1_rest 73 = .ok (.aload_n 0, 1) := by decide +kernel
theorem dX1_rest_74 : decode cX1_rest 74 = .ok (.aload_n 0, 1) := by decide +kernel
theorem dX1_rest_75 : decode cX1_rest 75 = .ok (.getfield 58, 3) := by decide +kernel
theorem dX1_rest_78 : decode cX1_rest 78 = .ok (.aload_n 0, 1) := by decide +kernel
theorem dX1_rest_79 : decode cX1_rest 79 = .ok (.getfield 32, 3) := by decide +kernel
theorem dX1_rest_82 : decode cX1_rest 82 = .ok (.invokestatic 94, 3) := by decide +kernel
theorem dX1_rest_85 : decode cX1_rest 85 = .ok (.putfield 58, 3) := by decide +kernel
theorem dX1_rest_88 : decode cX1_rest 88 = .ok (.aload_n 0, 1) := by decide +kernel
theorem dX1_rest_89 : decode cX1_rest 89 = .ok (.iconst 0, 1) := by decide +kernel
theorem dX1_rest_90 : decode cX1_rest 90 = .ok (.putfield 61, 3) := by decide +kernel
theorem dX1_rest_93 : decode cX1_rest 93 = .ok (.aload_n 0, 1) := by decide +kernel
theorem dX1_rest_94 : decode cX1_rest 94 = .ok (.iconst 0, 1) := by decide +kernel
theorem dX1_rest_95 : decode cX1_rest 95 = .ok (.putfield 64, 3) := by decide +kernel
theorem dX1_rest_98 : decode cX1_rest 98 = .ok (.aload_n 0, 1) := by decide +kernel
theorem dX1_rest_99 : decode cX1_rest 99 = .ok (.iload_n 2, 1) := by decide +kernel
theorem dX1_rest_100 : decode cX1_rest 100 = .ok (.putfield 42, 3) := by decide +kernel
theorem dX1_rest_103 : decode cX1_rest 103 = .ok (.aload_n 0, 1) := by decide +kernel
theorem dX1_rest_104 : decode cX1_rest 104 = .ok (.iload_n 3, 1) := by decide +kernel
theorem dX1_rest_105 : decode cX1_rest 105 = .ok (.putfield 45, 3) := by decide +kernel
theorem dX1_rest_108 : decode cX1_rest 108 = .ok (.aload_n 0, 1) := by decide +kernel
theorem dX1_rest_109 : decode cX1_rest 109 = .ok (.dup, 1) := by decide +kernel
theorem dX1_rest_110 : decode cX1_rest 110 = .ok (.getfield 67, 3) := by decide +kernel
theorem dX1_rest_113 : decode cX1_rest 113 = .ok (.iconst 1, 1) := by decide +kernel
theorem dX1_rest_114 : decode cX1_rest 114 = .ok (.iadd, 1) := by decide +kernel
theorem dX1_rest_115 : decode cX1_rest 115 = .ok (.putfield 67, 3) := by decide +kernel
theorem dX1_rest_118 : decode cX1_rest 118 = .ok (.aload_n 0, 1) := by decide +kernel
theorem dX1_rest_119 : decode cX1_rest 119 = .ok (.invokevirtual 102, 3) := by decide +kernel
theorem dX1_rest_122 : decode cX1_rest 122 = .ok (.aload_n 0, 1) := by decide +kernel
theorem dX1_rest_123 : decode cX1_rest 123 = .ok (.getfield 25, 3) := by decide +kernel
theorem dX1_rest_126 : decode cX1_rest 126 = .ok (.aload_n 0, 1) := by decide +kernel
theorem dX1_rest_127 : decode cX1_rest 127 = .ok (.getfield 58, 3) := by decide +kernel
theorem dX1_rest_130 : decode cX1_rest 130 = .ok (.isub, 1) := by decide +kernel
theorem dX1_rest_131 : decode cX1_rest 131 = .ok (.ireturn, 1) := by decide +kernel
theorem dX1_learnCapacity_0 : decode cX1_learnCapacity 0 = .ok (.aload_n 0, 1) := by decide +kernel
theorem dX1_learnCapacity_1 : decode cX1_learnCapacity 1 = .ok (.getfield 61, 3) := by decide +kernel
theorem dX1_learnCapacity_4 : decode cX1_learnCapacity 4 = .ok (.i2l, 1) := by decide +kernel
theorem dX1_learnCapacity_5 : decode cX1_learnCapacity 5 = .ok (.aload_n 0, 1) := by decide +kernel
theorem dX1_learnCapacity_6 : decode cX1_learnCapacity 6 = .ok (.getfield 35, 3) := by decide +kernel
theorem dX1_learnCapacity_9 : decode cX1_learnCapacity 9 = .ok (.i2l, 1) := by decide +kernel
theorem dX1_learnCapacity_10 : decode cX1_learnCapacity 10 = .ok (.aload_n 0, 1) := by decide +kernel
theorem dX1_learnCapacity_11 : decode cX1_learnCapacity 11 = .ok (.getfield 64, 3) := by decide +kernel
theorem dX1_learnCapacity_14 : decode cX1_learnCapacity 14 = .ok (.i2l, 1) := by decide +kernel
theorem dX1_learnCapacity_15 : decode cX1_learnCapacity 15 = .ok (.lmul, 1) := by decide +kernel
theorem dX1_learnCapacity_16 : decode cX1_learnCapacity 16 = .ok (.lsub, 1) := by decide +kernel
theorem dX1_learnCapacity_17 : decode cX1_learnCapacity 17 = .ok (.lstore_n 3, 1) := by decide +kernel
theorem dX1_learnCapacity_18 : decode cX1_learnCapacity 18 = .ok (.aload_n 0, 1) := by decide +kernel
theorem dX1_learnCapacity_19 : decode cX1_learnCapacity 19 = .ok (.getfield 61, 3) := by decide +kernel
theorem dX1_learnCapacity_22 : decode cX1_learnCapacity 22 = .ok (.i2l, 1) := by decide +kernel
theorem dX1_learnCapacity_23 : decode cX1_learnCapacity 23 = .ok (.aload_n 0, 1) := by decide +kernel
theorem dX1_learnCapacity_24 : decode cX1_learnCapacity 24 = .ok (.getfield 35, 3) := by decide +kernel
theorem dX1_learnCapacity_27 : decode cX1_learnCapacity 27 = .ok (.i2l, 1) := by decide +kernel
theorem dX1_learnCapacity_28 : decode cX1_learnCapacity 28 = .ok (.aload_n 0, 1) := by decide +kernel
theorem dX1_learnCapacity_29 : decode cX1_learnCapacity 29 = .ok (.getfield 64, 3) := by decide +kernel
theorem dX1_learnCapacity_32 : decode cX1_learnCapacity 32 = .ok (.i2l, 1) := by decide +kernel
theorem dX1_learnCapacity_33 : decode cX1_learnCapacity 33 = .ok (.lmul, 1) := by decide +kernel
theorem dX1_learnCapacity_34 : decode cX1_learnCapacity 34 = .ok (.ladd, 1) := by decide +kernel
theorem dX1_learnCapacity_35 : decode cX1_learnCapacity 35 = .ok (.lstore 5, 2) := by decide +kernel
theorem dX1_learnCapacity_37 : decode cX1_learnCapacity 37 = .ok (.aload_n 0, 1) := by decide +kernel
theorem dX1_learnCapacity_38 : decode cX1_learnCapacity 38 = .ok (.getfield 29, 3) := by decide +kernel
theorem dX1_learnCapacity_41 : decode cX1_learnCapacity 41 = .ok (.i2l, 1) := by decide +kernel
theorem dX1_learnCapacity_42 : decode cX1_learnCapacity 42 = .ok (.lstore 7, 2) := by decide +kernel
theorem dX1_learnCapacity_44 : decode cX1_learnCapacity 44 = .ok (.aload_n 0, 1) := by decide +kernel
theorem dX1_learnCapacity_45 : decode cX1_learnCapacity 45 = .ok (.getfield 32, 3) := by decide +kernel
theorem dX1_learnCapacity_48 : decode cX1_learnCapacity 48 = .ok (.i2l, 1) := by decide +kernel
theorem dX1_learnCapacity_49 : decode cX1_learnCapacity 49 = .ok (.lstore 9, 2) := by decide +kernel
theorem dX1_learnCapacity_51 : decode cX1_learnCapacity 51 = .ok (.lload_n 3, 1) := by decide +kernel
theorem dX1_learnCapacity_52 : decode cX1_learnCapacity 52 = .ok (.lconst 0, 1) := by decide +kernel
theorem dX1_learnCapacity_53 : decode cX1_learnCapacity 53 = .ok (.lcmp, 1) := by decide +kernel
theorem dX1_learnCapacity_54 : decode cX1_learnCapacity 54 = .ok (.ifCond .le 32, 3) := by decide +kernel
theorem dX1_learnCapacity_57 : decode cX1_learnCapacity 57 = .ok (.aload_n 0, 1) := by decide +kernel
theorem dX1_learnCapacity_58 : decode cX1_learnCapacity 58 = .ok (.getfield 45, 3) := by decide +kernel
theorem dX1_learnCapacity_61 : decode cX1_learnCapacity 61 = .ok (.iload_n 1, 1) := by decide +kernel
theorem dX1_learnCapacity_62 : decode cX1_learnCapacity 62 = .ok (.isub, 1) := by decide +kernel
theorem dX1_learnCapacity_63 : decode cX1_learnCapacity 63 = .ok (.ifCond .le 23, 3) := by decide +kernel
theorem dX1_learnCapacity_66 : decode cX1_learnCapacity 66 = .ok (.lload 7, 2) := by decide +kernel
theorem dX1_learnCapacity_68 : decode cX1_learnCapacity 68 = .ok (.ldc2_w 122, 3) := by decide +kernel
theorem dX1_learnCapacity_71 : decode cX1_learnCapacity 71 = .ok (.lload_n 3, 1) := by decide +kernel
theorem dX1_learnCapacity_72 : decode cX1_learnCapacity 72 = .ok (.lmul, 1) := by decide +kernel
theorem dX1_learnCapacity_73 : decode cX1_learnCapacity 73 = .ok (.aload_n 0, 1) := by decide +kernel
theorem dX1_learnCapacity_74 : decode cX1_learnCapacity 74 = .ok (.getfield 45, 3) := by decide +kernel
theorem dX1_learnCapacity_77 : decode cX1_learnCapacity 77 = .ok (.iload_n 1, 1) := by decide +kernel
theorem dX1_learnCapacity_78 : decode cX1_learnCapacity 78 = .ok (.isub, 1) := by decide +kernel
theorem dX1_learnCapacity_79 : decode cX1_learnCapacity 79 = .ok (.i2l, 1) := by decide +kernel
theorem dX1_learnCapacity_80 : decode cX1_learnCapacity 80 = .ok (.ldiv, 1) := by decide +kernel
theorem dX1_learnCapacity_81 : decode cX1_learnCapacity 81 = .ok (.invokestatic 124, 3) := by decide +kernel
theorem dX1_learnCapacity_84 : decode cX1_learnCapacity 84 = .ok (.lstore 7, 2) := by decide +kernel
theorem dX1_learnCapacity_86 : decode cX1_learnCapacity 86 = .ok (.lload 5, 2) := by decide +kernel
theorem dX1_learnCapacity_88 : decode cX1_learnCapacity 88 = .ok (.lconst 0, 1) := by decide +kernel
theorem dX1_learnCapacity_89 : decode cX1_learnCapacity 89 = .ok (.lcmp, 1) := by decide +kernel
theorem dX1_learnCapacity_90 : decode cX1_learnCapacity 90 = .ok (.ifCond .le 43, 3) := by decide +kernel
theorem dX1_learnCapacity_93 : decode cX1_learnCapacity 93 = .ok (.aload_n 0, 1) := by decide +kernel
theorem dX1_learnCapacity_94 : decode cX1_learnCapacity 94 = .ok (.getfield 42, 3) := by decide +kernel
theorem dX1_learnCapacity_97 : decode cX1_learnCapacity 97 = .ok (.iload_n 2, 1) := by decide +kernel
theorem dX1_learnCapacity_98 : decode cX1_learnCapacity 98 = .ok (.isub, 1) := by decide +kernel
theorem dX1_learnCapacity_99 : decode cX1_learnCapacity 99 = .ok (.ifCond .le 34, 3) := by decide +kernel
theorem dX1_learnCapacity_102 : decode cX1_learnCapacity 102 = .ok (.aload_n 0, 1) := by decide +kernel
theorem dX1_learnCapacity_103 : decode cX1_learnCapacity 103 = .ok (.getfield 42, 3) := by decide +kernel
theorem dX1_learnCapacity_106 : decode cX1_learnCapacity 106 = .ok (.iload_n 2, 1) := by decide +kernel
theorem dX1_learnCapacity_107 : decode cX1_learnCapacity 107 = .ok (.isub, 1) := by decide +kernel
theorem dX1_learnCapacity_108 : decode cX1_learnCapacity 108 = .ok (.istore 11, 2) := by decide +kernel
theorem dX1_learnCapacity_110 : decode cX1_learnCapacity 110 = .ok (.lload 9, 2) := by decide +kernel
theorem dX1_learnCapacity_112 : decode cX1_learnCapacity 112 = .ok (.ldc2_w 122, 3) := by decide +kernel
theorem dX1_learnCapacity_115 : decode cX1_learnCapacity 115 = .ok (.lload 5, 2) := by decide +kernel
theorem dX1_learnCapacity_117 : decode cX1_learnCapacity 117 = .ok (.lmul, 1) := by decide +kernel
theorem dX1_learnCapacity_118 : decode cX1_learnCapacity 118 = .ok (.iload 11, 2) := by decide +kernel
theorem dX1_learnCapacity_120 : decode cX1_learnCapacity 120 = .ok (.i2l, 1) := by decide +kernel
theorem dX1_learnCapacity_121 : decode cX1_learnCapacity 121 = .ok (.ladd, 1) := by decide +kernel
theorem dX1_learnCapacity_122 : decode cX1_learnCapacity 122 = .ok (.lconst 1, 1) := by decide +kernel
theorem dX1_learnCapacity_123 : decode cX1_learnCapacity 123 = .ok (.lsub, 1) := by decide +kernel
theorem dX1_learnCapacity_124 : decode cX1_learnCapacity 124 = .ok (.iload 11, 2) := by decide +kernel
theorem dX1_learnCapacity_126 : decode cX1_learnCapacity 126 = .ok (.i2l, 1) := by decide +kernel
theorem dX1_learnCapacity_127 : decode cX1_learnCapacity 127 = .ok (.ldiv, 1) := by decide +kernel
theorem dX1_learnCapacity_128 : decode cX1_learnCapacity 128 = .ok (.invokestatic 127, 3) := by decide +kernel
theorem dX1_learnCapacity_131 : decode cX1_learnCapacity 131 = .ok (.lstore 9, 2) := by decide +kernel
theorem dX1_learnCapacity_133 : decode cX1_learnCapacity 133 = .ok (.lload 7, 2) := by decide +kernel
theorem dX1_learnCapacity_135 : decode cX1_learnCapacity 135 = .ok (.lload 9, 2) := by decide +kernel
theorem dX1_learnCapacity_137 : decode cX1_learnCapacity 137 = .ok (.lcmp, 1) := by decide +kernel
theorem dX1_learnCapacity_138 : decode cX1_learnCapacity 138 = .ok (.ifCond .le 14, 3) := by decide +kernel
theorem dX1_learnCapacity_141 : decode cX1_learnCapacity 141 = .ok (.aload_n 0, 1) := by decide +kernel
theorem dX1_learnCapacity_142 : decode cX1_learnCapacity 142 = .ok (.dup, 1) := by decide +kernel
theorem dX1_learnCapacity_143 : decode cX1_learnCapacity 143 = .ok (.getfield 70, 3) := by decide +kernel
theorem dX1_learnCapacity_146 : decode cX1_learnCapacity 146 = .ok (.iconst 1, 1) := by decide +kernel
theorem dX1_learnCapacity_147 : decode cX1_learnCapacity 147 = .ok (.iadd, 1) := by decide +kernel
theorem dX1_learnCapacity_148 : decode cX1_learnCapacity 148 = .ok (.putfield 70, 3) := by decide +kernel
theorem dX1_learnCapacity_151 : decode cX1_learnCapacity 151 = .ok (.return_, 1) := by decide +kernel
theorem dX1_learnCapacity_152 : decode cX1_learnCapacity 152 = .ok (.aload_n 0, 1) := by decide +kernel
theorem dX1_learnCapacity_153 : decode cX1_learnCapacity 153 = .ok (.lload 7, 2) := by decide +kernel
theorem dX1_learnCapacity_155 : decode cX1_learnCapacity 155 = .ok (.l2i, 1) := by decide +kernel
theorem dX1_learnCapacity_156 : decode cX1_learnCapacity 156 = .ok (.putfield 29, 3) := by decide +kernel
theorem dX1_learnCapacity_159 : decode cX1_learnCapacity 159 = .ok (.aload_n 0, 1) := by decide +kernel
theorem dX1_learnCapacity_160 : decode cX1_learnCapacity 160 = .ok (.lload 9, 2) := by decide +kernel
theorem dX1_learnCapacity_162 : decode cX1_learnCapacity 162 = .ok (.l2i, 1) := by decide +kernel
theorem dX1_learnCapacity_163 : decode cX1_learnCapacity 163 = .ok (.putfield 32, 3) := by decide +kernel
theorem dX1_learnCapacity_166 : decode cX1_learnCapacity 166 = .ok (.return_, 1) := by decide +kernel
theorem dX1_narrowCharge_0 : decode cX1_narrowCharge 0 = .ok (.aload_n 0, 1) := by decide +kernel
theorem dX1_narrowCharge_1 : decode cX1_narrowCharge 1 = .ok (.getfield 58, 3) := by decide +kernel
theorem dX1_narrowCharge_4 : decode cX1_narrowCharge 4 = .ok (.iload_n 1, 1) := by decide +kernel
theorem dX1_narrowCharge_5 : decode cX1_narrowCharge 5 = .ok (.aload_n 0, 1) := by decide +kernel
theorem dX1_narrowCharge_6 : decode cX1_narrowCharge 6 = .ok (.getfield 29, 3) := by decide +kernel
theorem dX1_narrowCharge_9 : decode cX1_narrowCharge 9 = .ok (.imul, 1) := by decide +kernel
theorem dX1_narrowCharge_10 : decode cX1_narrowCharge 10 = .ok (.sipush 1000, 3) := by decide +kernel
theorem dX1_narrowCharge_13 : decode cX1_narrowCharge 13 = .ok (.idiv, 1) := by decide +kernel
theorem dX1_narrowCharge_14 : decode cX1_narrowCharge 14 = .ok (.invokestatic 89, 3) := by decide +kernel
theorem dX1_narrowCharge_17 : decode cX1_narrowCharge 17 = .ok (.istore_n 3, 1) := by decide +kernel
theorem dX1_narrowCharge_18 : decode cX1_narrowCharge 18 = .ok (.aload_n 0, 1) := by decide +kernel
theorem dX1_narrowCharge_19 : decode cX1_narrowCharge 19 = .ok (.getfield 25, 3) := by decide +kernel
theorem dX1_narrowCharge_22 : decode cX1_narrowCharge 22 = .ok (.iload_n 2, 1) := by decide +kernel
theorem dX1_narrowCharge_23 : decode cX1_narrowCharge 23 = .ok (.aload_n 0, 1) := by decide +kernel
theorem dX1_narrowCharge_24 : decode cX1_narrowCharge 24 = .ok (.getfield 32, 3) := by decide +kernel
theorem dX1_narrowCharge_27 : decode cX1_narrowCharge 27 = .ok (.imul, 1) := by decide +kernel
theorem dX1_narrowCharge_28 : decode cX1_narrowCharge 28 = .ok (.sipush 1000, 3) := by decide +kernel
theorem dX1_narrowCharge_31 : decode cX1_narrowCharge 31 = .ok (.iadd, 1) := by decide +kernel
theorem dX1_narrowCharge_32 : decode cX1_narrowCharge 32 = .ok (.iconst 1, 1) := by decide +kernel
theorem dX1_narrowCharge_33 : decode cX1_narrowCharge 33 = .ok (.isub, 1) := by decide +kernel
theorem dX1_narrowCharge_34 : decode cX1_narrowCharge 34 = .ok (.sipush 1000, 3) := by decide +kernel
theorem dX1_narrowCharge_37 : decode cX1_narrowCharge 37 = .ok (.idiv, 1) := by decide +kernel
theorem dX1_narrowCharge_38 : decode cX1_narrowCharge 38 = .ok (.invokestatic 94, 3) := by decide +kernel
theorem dX1_narrowCharge_41 : decode cX1_narrowCharge 41 = .ok (.istore 4, 2) := by decide +kernel
theorem dX1_narrowCharge_43 : decode cX1_narrowCharge 43 = .ok (.iload_n 3, 1) := by decide +kernel
theorem dX1_narrowCharge_44 : decode cX1_narrowCharge 44 = .ok (.iload 4, 2) := by decide +kernel
theorem dX1_narrowCharge_46 : decode cX1_narrowCharge 46 = .ok (.if_icmp .le 14, 3) := by decide +kernel
theorem dX1_narrowCharge_49 : decode cX1_narrowCharge 49 = .ok (.aload_n 0, 1) := by decide +kernel
theorem dX1_narrowCharge_50 : decode cX1_narrowCharge 50 = .ok (.dup, 1) := by decide +kernel
theorem dX1_narrowCharge_51 : decode cX1_narrowCharge 51 = .ok (.getfield 70, 3) := by decide +kernel
theorem dX1_narrowCharge_54 : decode cX1_narrowCharge 54 = .ok (.iconst 1, 1) := by decide +kernel
theorem dX1_narrowCharge_55 : decode cX1_narrowCharge 55 = .ok (.iadd, 1) := by decide +kernel
theorem dX1_narrowCharge_56 : decode cX1_narrowCharge 56 = .ok (.putfield 70, 3) := by decide +kernel
theorem dX1_narrowCharge_59 : decode cX1_narrowCharge 59 = .ok (.return_, 1) := by decide +kernel
theorem dX1_narrowCharge_60 : decode cX1_narrowCharge 60 = .ok (.aload_n 0, 1) := by decide +kernel
theorem dX1_narrowCharge_61 : decode cX1_narrowCharge 61 = .ok (.iload_n 3, 1) := by decide +kernel
theorem dX1_narrowCharge_62 : decode cX1_narrowCharge 62 = .ok (.putfield 58, 3) := by decide +kernel
theorem dX1_narrowCharge_65 : decode cX1_narrowCharge 65 = .ok (.aload_n 0, 1) := by decide +kernel
theorem dX1_narrowCharge_66 : decode cX1_narrowCharge 66 = .ok (.iload 4, 2) := by decide +kernel
theorem dX1_narrowCharge_68 : decode cX1_narrowCharge 68 = .ok (.putfield 25, 3) := by decide +kernel
theorem dX1_narrowCharge_71 : decode cX1_narrowCharge 71 = .ok (.return_, 1) := by decide +kernel
set_option maxRecDepth 20000 in
theorem ggX1_load_X1_isLoad : GoodIn wsX1_load wsX1_isLoad := goodIn_r _ [7, 8, 9, 10] (by decide +kernel) (by decide +kernel)
set_option maxRecDepth 20000 in
theorem gX1_load_X1_isLoad : GoodIn wsX1_load (va_wsS RX1 129 yX1_isLoad wsX1_isLoad) := goodIn_app (goodIn_of _ (by decide +kernel)) ggX1_load_X1_isLoad
set_option maxRecDepth 20000 in
theorem ggX1_load_X1_isVoltage : GoodIn wsX1_load wsX1_isVoltage := goodIn_r _ [13, 8, 9, 10] (by decide +kernel) (by decide +kernel)
set_option maxRecDepth 20000 in
theorem gX1_load_X1_isVoltage : GoodIn wsX1_load (va_wsS RX1 109 yX1_isVoltage wsX1_isVoltage) := goodIn_app (goodIn_of _ (by decide +kernel)) ggX1_load_X1_isVoltage
set_option maxRecDepth 20000 in
theorem ggX1_load_X1_middle : GoodIn wsX1_load wsX1_middle := goodIn_r _ [17, 18, 19, 20, 21, 22, 23, 24, 25, 49, 50, 51, 52, 53, 54, 55, 56, 57, 58, 59, 60, 61, 62, 63] (by decide +kernel) (by decide +kernel)
set_option maxRecDepth 20000 in
theorem gX1_load_X1_middle : GoodIn wsX1_load (wsV RX1 105 RX1 yX1_middle wsX1_middle) := goodIn_app (goodIn_of _ (by decide +kernel)) ggX1_load_X1_middle
set_option maxRecDepth 20000 in
theorem ggX1_load_X2_voltsAt : GoodIn wsX1_load wsX2_voltsAt := goodIn_r _ [30, 31, 32, 64] (by decide +kernel) (by decide +kernel)
set_option maxRecDepth 20000 in
theorem gX1_load_X2_voltsAt : GoodIn wsX1_load (wsV RX1 132 RX2 yX2_voltsAt wsX2_voltsAt) := goodIn_app (goodIn_of _ (by decide +kernel)) ggX1_load_X2_voltsAt
set_option maxRecDepth 20000 in
theorem ggX1_load_X1_signOf : GoodIn wsX1_load wsX1_signOf := goodIn_r _ [35] (by decide +kernel) (by decide +kernel)
set_option maxRecDepth 20000 in
theorem gX1_load_X1_signOf : GoodIn wsX1_load (va_wsS RX1 136 yX1_signOf wsX1_signOf) := goodIn_app (goodIn_of _ (by decide +kernel)) ggX1_load_X1_signOf
set_option maxRecDepth 20000 in
theorem ggX1_load_X1_tenthOf : GoodIn wsX1_load wsX1_tenthOf := goodIn_r _ [38] (by decide +kernel) (by decide +kernel)
set_option maxRecDepth 20000 in
theorem gX1_load_X1_tenthOf : GoodIn wsX1_load (va_wsS RX1 139 yX1_tenthOf wsX1_tenthOf) := goodIn_app (goodIn_of _ (by decide +kernel)) ggX1_load_X1_tenthOf
set_option maxRecDepth 20000 in
theorem ggX1_load_X0_add : GoodIn wsX1_load wsX0_add := goodIn_r _ [43, 44, 45, 46, 47, 42, 48, 8, 9, 10, 65, 66] (by decide +kernel) (by decide +kernel)
set_option maxRecDepth 20000 in
theorem gX1_load_X0_add : GoodIn wsX1_load (wsV RX1 142 RX0 yX0_add wsX0_add) := goodIn_app (goodIn_of _ (by decide +kernel)) ggX1_load_X0_add
theorem dX1_load_0 : decode cX1_load 0 = .ok (.iload_n 1, 1) := by decide +kernel
theorem dX1_load_1 : decode cX1_load 1 = .ok (.invokestatic 129, 3) := by decide +kernel
theorem dX1_load_4 : decode cX1_load 4 = .ok (.ifCond .eq 10, 3) := by decide +kernel
theorem dX1_load_7 : decode cX1_load 7 = .ok (.iload_n 2, 1) := by decide +kernel
theorem dX1_load_8 : decode cX1_load 8 = .ok (.invokestatic 109, 3) := by decide +kernel
theorem dX1_load_11 : decode cX1_load 11 = .ok (.ifCond .ne 6, 3) := by decide +kernel
theorem dX1_load_14 : decode cX1_load 14 = .ok (.ldc 77, 2) := by decide +kernel
theorem dX1_load_16 : decode cX1_load 16 = .ok (.ireturn, 1) := by decide +kernel
theorem dX1_load_17 : decode cX1_load 17 = .ok (.aload_n 0, 1) := by decide +kernel
theorem dX1_load_18 : decode cX1_load 18 = .ok (.invokevirtual 105, 3) := by decide +kernel
theorem dX1_load_21 : decode cX1_load 21 = .ok (.istore_n 3, 1) := by decide +kernel
theorem dX1_load_22 : decode cX1_load 22 = .ok (.bipush 100, 2) := by decide +kernel
theorem dX1_load_24 : decode cX1_load 24 = .ok (.aload_n 0, 1) := by decide +kernel
theorem dX1_load_25 : decode cX1_load 25 = .ok (.getfield 12, 3) := by decide +kernel
theorem dX1_load_28 : decode cX1_load 28 = .ok (.iload_n 3, 1) := by decide +kernel
theorem dX1_load_29 : decode cX1_load 29 = .ok (.invokevirtual 132, 3) := by decide +kernel
theorem dX1_load_32 : decode cX1_load 32 = .ok (.iload_n 2, 1) := by decide +kernel
theorem dX1_load_33 : decode cX1_load 33 = .ok (.isub, 1) := by decide +kernel
theorem dX1_load_34 : decode cX1_load 34 = .ok (.imul, 1) := by decide +kernel
