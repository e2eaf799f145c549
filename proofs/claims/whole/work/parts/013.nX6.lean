set_option maxRecDepth 20000 in
theorem ggX6_init_X4_init : GoodIn wsX6_init wsX4_init := goodIn_r _ [30, 31, 2, 3, 32, 33, 34, 35, 36, 37, 38, 21, 22, 39, 40, 26, 27, 41, 42, 43, 44, 45, 46, 47, 48, 49, 50, 94, 95, 96, 97, 98, 99, 100, 101, 102, 103, 117, 118, 119, 120] (by decide +kernel) (by decide +kernel)
set_option maxRecDepth 20000 in
theorem gX6_init_X4_init_n9 : GoodIn wsX6_init (wsX4_init) := ggX6_init_X4_init
set_option maxRecDepth 20000 in
theorem ggX6_init_X3_init : GoodIn wsX6_init wsX3_init := goodIn_r _ [53, 54, 2, 3, 55, 56, 5, 6, 29, 30, 31, 32, 33, 34, 35, 36, 37, 38, 21, 22, 39, 40, 26, 27, 41, 42, 43, 44, 45, 46, 47, 48, 49, 50, 111, 112, 94, 95, 96, 97, 98, 99, 100, 101, 102, 103, 117, 118, 119, 120] (by decide +kernel) (by decide +kernel)
set_option maxRecDepth 20000 in
theorem gX6_init_X3_init : GoodIn wsX6_init (wsX3_init) := ggX6_init_X3_init
set_option maxRecDepth 20000 in
theorem ggX6_init_X1_init : GoodIn wsX6_init wsX1_init := goodIn_r _ [58, 59, 2, 3, 36, 60, 113, 114] (by decide +kernel) (by decide +kernel)
set_option maxRecDepth 20000 in
theorem gX6_init_X1_init_n25 : GoodIn wsX6_init (wsX1_init) := ggX6_init_X1_init
set_option maxRecDepth 20000 in
theorem ggX6_init_X0_init : GoodIn wsX6_init wsX0_init := goodIn_r _ [62, 63, 2, 3, 33, 64, 115, 116] (by decide +kernel) (by decide +kernel)
set_option maxRecDepth 20000 in
theorem gX6_init_X0_init_n32 : GoodIn wsX6_init (wsX0_init) := ggX6_init_X0_init
set_option maxRecDepth 20000 in
theorem ggX6_init_X2_init : GoodIn wsX6_init wsX2_init := goodIn_r _ [43, 44, 2, 3, 33, 45, 117] (by decide +kernel) (by decide +kernel)
set_option maxRecDepth 20000 in
theorem gX6_init_X2_init_n39 : GoodIn wsX6_init (wsX2_init) := ggX6_init_X2_init
set_option maxRecDepth 20000 in
theorem ggX6_init_X5_init : GoodIn wsX6_init wsX5_init := goodIn_r _ [47, 48, 2, 3, 36, 49, 50, 118, 119, 120] (by decide +kernel) (by decide +kernel)
set_option maxRecDepth 20000 in
theorem gX6_init_X5_init_n49 : GoodIn wsX6_init (wsX5_init) := ggX6_init_X5_init
set_option maxRecDepth 20000 in
theorem ggX6_init_X6_putRegistersRight : GoodIn wsX6_init wsX6_putRegistersRight := goodIn_r _ [69, 7, 19, 70, 71, 72, 22, 73, 45, 74, 75, 76, 18, 77, 78, 79, 80, 6, 81, 82, 83, 84, 85, 64, 86, 87, 88, 89, 90, 91, 92, 93, 104, 105, 106, 107, 108, 109, 110, 94, 95, 96, 97, 98, 99, 100, 101, 102, 103, 117, 115, 116] (by decide +kernel) (by decide +kernel)
set_option maxRecDepth 20000 in
theorem gX6_init_X6_putRegistersRight : GoodIn wsX6_init (wsV RX6 61 RX6 yX6_putRegistersRight wsX6_putRegistersRight) := goodIn_app (goodIn_of _ (by decide +kernel)) ggX6_init_X6_putRegistersRight
theorem dX6_init_0 : decode cX6_init 0 = .ok (.aload_n 0, 1) := by decide +kernel
theorem dX6_init_1 : decode cX6_init 1 = .ok (.invokespecial 1, 3) := by decide +kernel
theorem dX6_init_4 : decode cX6_init 4 = .ok (.aload_n 0, 1) := by decide +kernel
theorem dX6_init_5 : decode cX6_init 5 = .ok (.new 7, 3) := by decide +kernel
theorem dX6_init_8 : decode cX6_init 8 = .ok (.dup, 1) := by decide +kernel
theorem dX6_init_9 : decode cX6_init 9 = .ok (.invokespecial 9, 3) := by decide +kernel
theorem dX6_init_12 : decode cX6_init 12 = .ok (.putfield 10, 3) := by decide +kernel
theorem dX6_init_15 : decode cX6_init 15 = .ok (.aload_n 0, 1) := by decide +kernel
theorem dX6_init_16 : decode cX6_init 16 = .ok (.new 16, 3) := by decide +kernel
theorem dX6_init_19 : decode cX6_init 19 = .ok (.dup, 1) := by decide +kernel
theorem dX6_init_20 : decode cX6_init 20 = .ok (.invokespecial 18, 3) := by decide +kernel
theorem dX6_init_23 : decode cX6_init 23 = .ok (.putfield 19, 3) := by decide +kernel
theorem dX6_init_26 : decode cX6_init 26 = .ok (.aload_n 0, 1) := by decide +kernel
theorem dX6_init_27 : decode cX6_init 27 = .ok (.new 23, 3) := by decide +kernel
theorem dX6_init_30 : decode cX6_init 30 = .ok (.dup, 1) := by decide +kernel
theorem dX6_init_31 : decode cX6_init 31 = .ok (.invokespecial 25, 3) := by decide +kernel
theorem dX6_init_34 : decode cX6_init 34 = .ok (.putfield 26, 3) := by decide +kernel
theorem dX6_init_37 : decode cX6_init 37 = .ok (.aload_n 0, 1) := by decide +kernel
theorem dX6_init_38 : decode cX6_init 38 = .ok (.new 30, 3) := by decide +kernel
theorem dX6_init_41 : decode cX6_init 41 = .ok (.dup, 1) := by decide +kernel
theorem dX6_init_42 : decode cX6_init 42 = .ok (.invokespecial 32, 3) := by decide +kernel
theorem dX6_init_45 : decode cX6_init 45 = .ok (.putfield 33, 3) := by decide +kernel
theorem dX6_init_48 : decode cX6_init 48 = .ok (.aload_n 0, 1) := by decide +kernel
theorem dX6_init_49 : decode cX6_init 49 = .ok (.new 37, 3) := by decide +kernel
theorem dX6_init_52 : decode cX6_init 52 = .ok (.dup, 1) := by decide +kernel
theorem dX6_init_53 : decode cX6_init 53 = .ok (.invokespecial 39, 3) := by decide +kernel
theorem dX6_init_56 : decode cX6_init 56 = .ok (.putfield 40, 3) := by decide +kernel
theorem dX6_init_59 : decode cX6_init 59 = .ok (.aload_n 0, 1) := by decide +kernel
theorem dX6_init_60 : decode cX6_init 60 = .ok (.new 37, 3) := by decide +kernel
theorem dX6_init_63 : decode cX6_init 63 = .ok (.dup, 1) := by decide +kernel
theorem dX6_init_64 : decode cX6_init 64 = .ok (.invokespecial 39, 3) := by decide +kernel
theorem dX6_init_67 : decode cX6_init 67 = .ok (.putfield 44, 3) := by decide +kernel
theorem dX6_init_70 : decode cX6_init 70 = .ok (.aload_n 0, 1) := by decide +kernel
theorem dX6_init_71 : decode cX6_init 71 = .ok (.new 47, 3) := by decide +kernel
theorem dX6_init_74 : decode cX6_init 74 = .ok (.dup, 1) := by decide +kernel
theorem dX6_init_75 : decode cX6_init 75 = .ok (.invokespecial 49, 3) := by decide +kernel
theorem dX6_init_78 : decode cX6_init 78 = .ok (.putfield 50, 3) := by decide +kernel
theorem dX6_init_81 : decode cX6_init 81 = .ok (.aload_n 0, 1) := by decide +kernel
theorem dX6_init_82 : decode cX6_init 82 = .ok (.getfield 10, 3) := by decide +kernel
theorem dX6_init_85 : decode cX6_init 85 = .ok (.iconst 2, 1) := by decide +kernel
theorem dX6_init_86 : decode cX6_init 86 = .ok (.putfield 54, 3) := by decide +kernel
theorem dX6_init_89 : decode cX6_init 89 = .ok (.aload_n 0, 1) := by decide +kernel
theorem dX6_init_90 : decode cX6_init 90 = .ok (.aload_n 0, 1) := by decide +kernel
theorem dX6_init_91 : decode cX6_init 91 = .ok (.getfield 10, 3) := by decide +kernel
theorem dX6_init_94 : decode cX6_init 94 = .ok (.getfield 58, 3) := by decide +kernel
theorem dX6_init_97 : decode cX6_init 97 = .ok (.invokevirtual 61, 3) := by decide +kernel
theorem dX6_init_100 : decode cX6_init 100 = .ok (.return_, 1) := by decide +kernel
set_option maxRecDepth 20000 in
theorem ggX6_begin_X3_keep : GoodIn wsX6_begin wsX3_keep := goodIn_r _ [9, 10, 11, 12, 13, 14, 8, 15, 16, 17, 18, 19, 20, 21, 22, 23, 24, 25, 26, 27, 28, 29, 30, 31, 32, 33, 34, 35, 36, 37, 38, 39, 40, 41, 42, 43, 44, 94, 95, 84, 85, 86, 87, 88, 89, 90, 91, 92, 93, 96, 97, 98, 99] (by decide +kernel) (by decide +kernel)
set_option maxRecDepth 20000 in
theorem gX6_begin_X3_keep : GoodIn wsX6_begin (wsV RX6 72 RX3 yX3_keep wsX3_keep) := goodIn_app (goodIn_of _ (by decide +kernel)) ggX6_begin_X3_keep
set_option maxRecDepth 20000 in
theorem ggX6_begin_X6_putRegistersRight : GoodIn wsX6_begin wsX6_putRegistersRight := goodIn_r _ [49, 4, 50, 51, 52, 53, 34, 54, 36, 55, 56, 57, 58, 59, 60, 61, 62, 19, 63, 64, 65, 66, 67, 68, 69, 70, 71, 72, 73, 74, 75, 76, 77, 78, 79, 80, 81, 82, 83, 84, 85, 86, 87, 88, 89, 90, 91, 92, 93, 96, 100, 101] (by decide +kernel) (by decide +kernel)
set_option maxRecDepth 20000 in
theorem gX6_begin_X6_putRegistersRight : GoodIn wsX6_begin (wsV RX6 61 RX6 yX6_putRegistersRight wsX6_putRegistersRight) := goodIn_app (goodIn_of _ (by decide +kernel)) ggX6_begin_X6_putRegistersRight
theorem dX6_begin_0 : decode cX6_begin 0 = .ok (.iload_n 1, 1) := by decide +kernel
theorem dX6_begin_1 : decode cX6_begin 1 = .ok (.ifCond .lt 18, 3) := by decide +kernel
theorem dX6_begin_4 : decode cX6_begin 4 = .ok (.iload_n 1, 1) := by decide +kernel
theorem dX6_begin_5 : decode cX6_begin 5 = .ok (.iconst 5, 1) := by decide +kernel
theorem dX6_begin_6 : decode cX6_begin 6 = .ok (.if_icmp .gt 13, 3) := by decide +kernel
theorem dX6_begin_9 : decode cX6_begin 9 = .ok (.iload_n 2, 1) := by decide +kernel
theorem dX6_begin_10 : decode cX6_begin 10 = .ok (.ifCond .lt 9, 3) := by decide +kernel
theorem dX6_begin_13 : decode cX6_begin 13 = .ok (.iload_n 2, 1) := by decide +kernel
theorem dX6_begin_14 : decode cX6_begin 14 = .ok (.bipush 99, 2) := by decide +kernel
theorem dX6_begin_16 : decode cX6_begin 16 = .ok (.if_icmp .le 13, 3) := by decide +kernel
theorem dX6_begin_19 : decode cX6_begin 19 = .ok (.new 65, 3) := by decide +kernel
theorem dX6_begin_22 : decode cX6_begin 22 = .ok (.dup, 1) := by decide +kernel
theorem dX6_begin_23 : decode cX6_begin 23 = .ok (.ldc 67, 2) := by decide +kernel
theorem dX6_begin_25 : decode cX6_begin 25 = .ok (.invokespecial 69, 3) := by decide +kernel
theorem dX6_begin_28 : decode cX6_begin 28 = .ok (.athrow, 1) := by decide +kernel
theorem dX6_begin_29 : decode cX6_begin 29 = .ok (.aload_n 0, 1) := by decide +kernel
theorem dX6_begin_30 : decode cX6_begin 30 = .ok (.getfield 19, 3) := by decide +kernel
theorem dX6_begin_33 : decode cX6_begin 33 = .ok (.aload_n 0, 1) := by decide +kernel
theorem dX6_begin_34 : decode cX6_begin 34 = .ok (.getfield 10, 3) := by decide +kernel
theorem dX6_begin_37 : decode cX6_begin 37 = .ok (.invokevirtual 72, 3) := by decide +kernel
theorem dX6_begin_40 : decode cX6_begin 40 = .ok (.aload_n 0, 1) := by decide +kernel
theorem dX6_begin_41 : decode cX6_begin 41 = .ok (.getfield 10, 3) := by decide +kernel
theorem dX6_begin_44 : decode cX6_begin 44 = .ok (.getfield 76, 3) := by decide +kernel
theorem dX6_begin_47 : decode cX6_begin 47 = .ok (.istore_n 3, 1) := by decide +kernel
theorem dX6_begin_48 : decode cX6_begin 48 = .ok (.aload_n 0, 1) := by decide +kernel
theorem dX6_begin_49 : decode cX6_begin 49 = .ok (.getfield 10, 3) := by decide +kernel
theorem dX6_begin_52 : decode cX6_begin 52 = .ok (.iload_n 1, 1) := by decide +kernel
theorem dX6_begin_53 : decode cX6_begin 53 = .ok (.putfield 54, 3) := by decide +kernel
theorem dX6_begin_56 : decode cX6_begin 56 = .ok (.aload_n 0, 1) := by decide +kernel
theorem dX6_begin_57 : decode cX6_begin 57 = .ok (.getfield 10, 3) := by decide +kernel
theorem dX6_begin_60 : decode cX6_begin 60 = .ok (.iload_n 2, 1) := by decide +kernel
theorem dX6_begin_61 : decode cX6_begin 61 = .ok (.putfield 79, 3) := by decide +kernel
theorem dX6_begin_64 : decode cX6_begin 64 = .ok (.aload_n 0, 1) := by decide +kernel
theorem dX6_begin_65 : decode cX6_begin 65 = .ok (.getfield 10, 3) := by decide +kernel
theorem dX6_begin_68 : decode cX6_begin 68 = .ok (.iconst 0, 1) := by decide +kernel
theorem dX6_begin_69 : decode cX6_begin 69 = .ok (.putfield 76, 3) := by decide +kernel
theorem dX6_begin_72 : decode cX6_begin 72 = .ok (.aload_n 0, 1) := by decide +kernel
theorem dX6_begin_73 : decode cX6_begin 73 = .ok (.aload_n 0, 1) := by decide +kernel
theorem dX6_begin_74 : decode cX6_begin 74 = .ok (.getfield 10, 3) := by decide +kernel
theorem dX6_begin_77 : decode cX6_begin 77 = .ok (.getfield 58, 3) := by decide +kernel
theorem dX6_begin_80 : decode cX6_begin 80 = .ok (.invokevirtual 61, 3) := by decide +kernel
theorem dX6_begin_83 : decode cX6_begin 83 = .ok (.iload_n 3, 1) := by decide +kernel
theorem dX6_begin_84 : decode cX6_begin 84 = .ok (.ireturn, 1) := by decide +kernel
set_option maxRecDepth 20000 in
theorem ggX6_print_X4_hasRoomFor : GoodIn wsX6_print wsX4_hasRoomFor := goodIn_r _ [11, 12, 78, 79, 80, 81, 82, 83, 84, 85, 86, 87] (by decide +kernel) (by decide +kernel)
set_option maxRecDepth 20000 in
theorem gX6_print_X4_hasRoomFor : GoodIn wsX6_print (wsV RX6 84 RX4 yX4_hasRoomFor wsX4_hasRoomFor) := goodIn_app (goodIn_of _ (by decide +kernel)) ggX6_print_X4_hasRoomFor
set_option maxRecDepth 20000 in
theorem ggX6_print_X3_keep : GoodIn wsX6_print wsX3_keep := goodIn_r _ [17, 18, 19, 20, 21, 22, 16, 23, 24, 25, 26, 10, 27, 28, 29, 12, 30, 31, 32, 33, 34, 35, 36, 37, 38, 39, 40, 41, 42, 43, 44, 45, 46, 47, 48, 49, 50, 88, 89, 78, 79, 80, 81, 82, 83, 84, 85, 86, 87, 90, 91, 92, 93] (by decide +kernel) (by decide +kernel)
set_option maxRecDepth 20000 in
theorem gX6_print_X3_keep : GoodIn wsX6_print (wsV RX6 72 RX3 yX3_keep wsX3_keep) := goodIn_app (goodIn_of _ (by decide +kernel)) ggX6_print_X3_keep
set_option maxRecDepth 20000 in
theorem ggX6_print_X4_addRows : GoodIn wsX6_print wsX4_addRows := goodIn_r _ [54, 12, 32, 35, 33, 34, 36, 55, 56, 57, 40, 58, 42, 59, 60, 61, 10, 62, 29, 28, 63, 64, 65, 66, 67, 68, 46, 69, 70, 48, 50, 49, 78, 79, 80, 81, 82, 83, 84, 85, 86, 87, 90, 91, 92, 93] (by decide +kernel) (by decide +kernel)
set_option maxRecDepth 20000 in
theorem gX6_print_X4_addRows : GoodIn wsX6_print (wsV RX6 93 RX4 yX4_addRows wsX4_addRows) := goodIn_app (goodIn_of _ (by decide +kernel)) ggX6_print_X4_addRows
theorem dX6_print_0 : decode cX6_print 0 = .ok (.iload_n 1, 1) := by decide +kernel
theorem dX6_print_1 : decode cX6_print 1 = .ok (.iconst 1, 1) := by decide +kernel
theorem dX6_print_2 : decode cX6_print 2 = .ok (.if_icmp .lt 9, 3) := by decide +kernel
theorem dX6_print_5 : decode cX6_print 5 = .ok (.iload_n 1, 1) := by decide +kernel
theorem dX6_print_6 : decode cX6_print 6 = .ok (.bipush 40, 2) := by decide +kernel
theorem dX6_print_8 : decode cX6_print 8 = .ok (.if_icmp .le 13, 3) := by decide +kernel
theorem dX6_print_11 : decode cX6_print 11 = .ok (.new 65, 3) := by decide +kernel
theorem dX6_print_14 : decode cX6_print 14 = .ok (.dup, 1) := by decide +kernel
theorem dX6_print_15 : decode cX6_print 15 = .ok (.ldc 82, 2) := by decide +kernel
theorem dX6_print_17 : decode cX6_print 17 = .ok (.invokespecial 69, 3) := by decide +kernel
theorem dX6_print_20 : decode cX6_print 20 = .ok (.athrow, 1) := by decide +kernel
theorem dX6_print_21 : decode cX6_print 21 = .ok (.aload_n 0, 1) := by decide +kernel
theorem dX6_print_22 : decode cX6_print 22 = .ok (.getfield 10, 3) := by decide +kernel
theorem dX6_print_25 : decode cX6_print 25 = .ok (.iload_n 1, 1) := by decide +kernel
theorem dX6_print_26 : decode cX6_print 26 = .ok (.invokevirtual 84, 3) := by decide +kernel
theorem dX6_print_29 : decode cX6_print 29 = .ok (.ifCond .ne 13, 3) := by decide +kernel
theorem dX6_print_32 : decode cX6_print 32 = .ok (.new 88, 3) := by decide +kernel
theorem dX6_print_35 : decode cX6_print 35 = .ok (.dup, 1) := by decide +kernel
theorem dX6_print_36 : decode cX6_print 36 = .ok (.ldc 90, 2) := by decide +kernel
theorem dX6_print_38 : decode cX6_print 38 = .ok (.invokespecial 92, 3) := by decide +kernel
theorem dX6_print_41 : decode cX6_print 41 = .ok (.athrow, 1) := by decide +kernel
theorem dX6_print_42 : decode cX6_print 42 = .ok (.aload_n 0, 1) := by decide +kernel
theorem dX6_print_43 : decode cX6_print 43 = .ok (.getfield 19, 3) := by decide +kernel
theorem dX6_print_46 : decode cX6_print 46 = .ok (.aload_n 0, 1) := by decide +kernel
theorem dX6_print_47 : decode cX6_print 47 = .ok (.getfield 10, 3) := by decide +kernel
theorem dX6_print_50 : decode cX6_print 50 = .ok (.invokevirtual 72, 3) := by decide +kernel
theorem dX6_print_53 : decode cX6_print 53 = .ok (.aload_n 0, 1) := by decide +kernel
theorem dX6_print_54 : decode cX6_print 54 = .ok (.getfield 10, 3) := by decide +kernel
theorem dX6_print_57 : decode cX6_print 57 = .ok (.iload_n 1, 1) := by decide +kernel
theorem dX6_print_58 : decode cX6_print 58 = .ok (.invokevirtual 93, 3) := by decide +kernel
theorem dX6_print_61 : decode cX6_print 61 = .ok (.ireturn, 1) := by decide +kernel
set_option maxRecDepth 20000 in
theorem ggX6_slip_X6_isRegister : GoodIn wsX6_slip wsX6_isRegister := goodIn_r _ [12] (by decide +kernel) (by decide +kernel)
set_option maxRecDepth 20000 in
theorem gX6_slip_X6_isRegister : GoodIn wsX6_slip (va_wsS RX6 97 yX6_isRegister wsX6_isRegister) := goodIn_app (goodIn_of _ (by decide +kernel)) ggX6_slip_X6_isRegister
set_option maxRecDepth 20000 in
theorem ggX6_slip_X6_tenToThe : GoodIn wsX6_slip wsX6_tenToThe := goodIn_r _ [15, 16] (by decide +kernel) (by decide +kernel)
set_option maxRecDepth 20000 in
theorem gX6_slip_X6_tenToThe : GoodIn wsX6_slip (va_wsS RX6 107 yX6_tenToThe wsX6_tenToThe) := goodIn_app (goodIn_of _ (by decide +kernel)) ggX6_slip_X6_tenToThe
set_option maxRecDepth 20000 in
theorem ggX6_slip_X2_canTake : GoodIn wsX6_slip wsX2_canTake := goodIn_r _ [21, 22, 23, 24, 84] (by decide +kernel) (by decide +kernel)
set_option maxRecDepth 20000 in
theorem gX6_slip_X2_canTake : GoodIn wsX6_slip (wsV RX6 111 RX2 yX2_canTake wsX2_canTake) := goodIn_app (goodIn_of _ (by decide +kernel)) ggX6_slip_X2_canTake
set_option maxRecDepth 20000 in
theorem ggX6_slip_X3_keep : GoodIn wsX6_slip wsX3_keep := goodIn_r _ [29, 30, 31, 32, 33, 34, 28, 35, 36, 37, 38, 39, 40, 41, 42, 43, 44, 45, 46, 47, 48, 49, 50, 51, 52, 53, 20, 54, 22, 55, 56, 57, 58, 59, 60, 61, 62, 85, 86, 74, 75, 76, 77, 78, 79, 80, 81, 82, 83, 84, 87, 88, 89] (by decide +kernel) (by decide +kernel)
set_option maxRecDepth 20000 in
theorem gX6_slip_X3_keep : GoodIn wsX6_slip (wsV RX6 72 RX3 yX3_keep wsX3_keep) := goodIn_app (goodIn_of _ (by decide +kernel)) ggX6_slip_X3_keep
set_option maxRecDepth 20000 in
theorem ggX6_slip_X2_add : GoodIn wsX6_slip wsX2_add := goodIn_r _ [66, 22, 84] (by decide +kernel) (by decide +kernel)
set_option maxRecDepth 20000 in
theorem gX6_slip_X2_add : GoodIn wsX6_slip (wsV RX6 117 RX2 yX2_add wsX2_add) := goodIn_app (goodIn_of _ (by decide +kernel)) ggX6_slip_X2_add
theorem dX6_slip_0 : decode cX6_slip 0 = .ok (.iload_n 1, 1) := by decide +kernel
theorem dX6_slip_1 : decode cX6_slip 1 = .ok (.invokestatic 97, 3) := by decide +kernel
theorem dX6_slip_4 : decode cX6_slip 4 = .ok (.ifCond .ne 13, 3) := by decide +kernel
theorem dX6_slip_7 : decode cX6_slip 7 = .ok (.new 100, 3) := by decide +kernel
theorem dX6_slip_10 : decode cX6_slip 10 = .ok (.dup, 1) := by decide +kernel
theorem dX6_slip_11 : decode cX6_slip 11 = .ok (.ldc 102, 2) := by decide +kernel
theorem dX6_slip_13 : decode cX6_slip 13 = .ok (.invokespecial 104, 3) := by decide +kernel
theorem dX6_slip_16 : decode cX6_slip 16 = .ok (.athrow, 1) := by decide +kernel
theorem dX6_slip_17 : decode cX6_slip 17 = .ok (.iload_n 2, 1) := by decide +kernel
theorem dX6_slip_18 : decode cX6_slip 18 = .ok (.ifCond .lt 21, 3) := by decide +kernel
theorem dX6_slip_21 : decode cX6_slip 21 = .ok (.iload_n 2, 1) := by decide +kernel
theorem dX6_slip_22 : decode cX6_slip 22 = .ok (.bipush 10, 2) := by decide +kernel
theorem dX6_slip_24 : decode cX6_slip 24 = .ok (.if_icmp .ge 15, 3) := by decide +kernel
theorem dX6_slip_27 : decode cX6_slip 27 = .ok (.iload_n 3, 1) := by decide +kernel
theorem dX6_slip_28 : decode cX6_slip 28 = .ok (.bipush (-9), 2) := by decide +kernel
theorem dX6_slip_30 : decode cX6_slip 30 = .ok (.if_icmp .lt 9, 3) := by decide +kernel
theorem dX6_slip_33 : decode cX6_slip 33 = .ok (.iload_n 3, 1) := by decide +kernel
theorem dX6_slip_34 : decode cX6_slip 34 = .ok (.bipush 9, 2) := by decide +kernel
theorem dX6_slip_36 : decode cX6_slip 36 = .ok (.if_icmp .le 13, 3) := by decide +kernel
theorem dX6_slip_39 : decode cX6_slip 39 = .ok (.new 65, 3) := by decide +kernel
theorem dX6_slip_42 : decode cX6_slip 42 = .ok (.dup, 1) := by decide +kernel
theorem dX6_slip_43 : decode cX6_slip 43 = .ok (.ldc 105, 2) := by decide +kernel
theorem dX6_slip_45 : decode cX6_slip 45 = .ok (.invokespecial 69, 3) := by decide +kernel
theorem dX6_slip_48 : decode cX6_slip 48 = .ok (.athrow, 1) := by decide +kernel
theorem dX6_slip_49 : decode cX6_slip 49 = .ok (.iload_n 3, 1) := by decide +kernel
theorem dX6_slip_50 : decode cX6_slip 50 = .ok (.i2l, 1) := by decide +kernel
theorem dX6_slip_51 : decode cX6_slip 51 = .ok (.iload_n 2, 1) := by decide +kernel
theorem dX6_slip_52 : decode cX6_slip 52 = .ok (.invokestatic 107, 3) := by decide +kernel
theorem dX6_slip_55 : decode cX6_slip 55 = .ok (.lmul, 1) := by decide +kernel
theorem dX6_slip_56 : decode cX6_slip 56 = .ok (.lstore 4, 2) := by decide +kernel
theorem dX6_slip_58 : decode cX6_slip 58 = .ok (.aload_n 0, 1) := by decide +kernel
theorem dX6_slip_59 : decode cX6_slip 59 = .ok (.getfield 10, 3) := by decide +kernel
theorem dX6_slip_62 : decode cX6_slip 62 = .ok (.getfield 58, 3) := by decide +kernel
theorem dX6_slip_65 : decode cX6_slip 65 = .ok (.iload_n 1, 1) := by decide +kernel
theorem dX6_slip_66 : decode cX6_slip 66 = .ok (.lload 4, 2) := by decide +kernel
theorem dX6_slip_68 : decode cX6_slip 68 = .ok (.invokevirtual 111, 3) := by decide +kernel
theorem dX6_slip_71 : decode cX6_slip 71 = .ok (.ifCond .ne 13, 3) := by decide +kernel
theorem dX6_slip_74 : decode cX6_slip 74 = .ok (.new 88, 3) := by decide +kernel
theorem dX6_slip_77 : decode cX6_slip 77 = .ok (.dup, 1) := by decide +kernel
theorem dX6_slip_78 : decode cX6_slip 78 = .ok (.ldc 115, 2) := by decide +kernel
theorem dX6_slip_80 : decode cX6_slip 80 = .ok (.invokespecial 92, 3) := by decide +kernel
theorem dX6_slip_83 : decode cX6_slip 83 = .ok (.athrow, 1) := by decide +kernel
theorem dX6_slip_84 : decode cX6_slip 84 = .ok (.aload_n 0, 1) := by decide +kernel
theorem dX6_slip_85 : decode cX6_slip 85 = .ok (.getfield 19, 3) := by decide +kernel
theorem dX6_slip_88 : decode cX6_slip 88 = .ok (.aload_n 0, 1) := by decide +kernel
theorem dX6_slip_89 : decode cX6_slip 89 = .ok (.getfield 10, 3) := by decide +kernel
theorem dX6_slip_92 : decode cX6_slip 92 = .ok (.invokevirtual 72, 3) := by decide +kernel
theorem dX6_slip_95 : decode cX6_slip 95 = .ok (.aload_n 0, 1) := by decide +kernel
theorem dX6_slip_96 : decode cX6_slip 96 = .ok (.getfield 10, 3) := by decide +kernel
theorem dX6_slip_99 : decode cX6_slip 99 = .ok (.getfield 58, 3) := by decide +kernel
theorem dX6_slip_102 : decode cX6_slip 102 = .ok (.iload_n 1, 1) := by decide +kernel
theorem dX6_slip_103 : decode cX6_slip 103 = .ok (.lload 4, 2) := by decide +kernel
theorem dX6_slip_105 : decode cX6_slip 105 = .ok (.invokevirtual 117, 3) := by decide +kernel
theorem dX6_slip_108 : decode cX6_slip 108 = .ok (.lload 4, 2) := by decide +kernel
theorem dX6_slip_110 : decode cX6_slip 110 = .ok (.lreturn, 1) := by decide +kernel
set_option maxRecDepth 20000 in
theorem ggX6_correct_X3_keep : GoodIn wsX6_correct wsX3_keep := goodIn_r _ [7, 8, 9, 10, 11, 12, 6, 13, 14, 15, 16, 17, 18, 19, 20, 21, 22, 23, 24, 25, 26, 27, 28, 29, 30, 31, 32, 33, 34, 35, 36, 37, 38, 39, 40, 41, 42, 101, 102, 91, 92, 93, 94, 95, 96, 97, 98, 99, 100, 103, 104, 105, 106] (by decide +kernel) (by decide +kernel)
set_option maxRecDepth 20000 in
theorem gX6_correct_X3_keep : GoodIn wsX6_correct (wsV RX6 72 RX3 yX3_keep wsX3_keep) := goodIn_app (goodIn_of _ (by decide +kernel)) ggX6_correct_X3_keep
set_option maxRecDepth 20000 in
theorem ggX6_correct_X6_wrongRegisters : GoodIn wsX6_correct wsX6_wrongRegisters := goodIn_r _ [47, 48, 2, 49, 50, 51, 46, 52, 53, 54, 55, 56, 32, 57, 34, 58, 59, 60, 61, 62, 63, 64, 65, 17, 66, 67, 68, 69, 70, 71, 72, 73, 74, 75, 76, 77, 78, 79, 80, 81, 82, 83, 84, 85, 86, 87, 88, 89, 90, 91, 92, 93, 94, 95, 96, 97, 98, 99, 100, 103, 107, 108] (by decide +kernel) (by decide +kernel)
set_option maxRecDepth 20000 in
theorem gX6_correct_X6_wrongRegisters : GoodIn wsX6_correct (wsV RX6 121 RX6 yX6_wrongRegisters wsX6_wrongRegisters) := goodIn_app (goodIn_of _ (by decide +kernel)) ggX6_correct_X6_wrongRegisters
set_option maxRecDepth 20000 in
theorem ggX6_correct_X6_putRegistersRight : GoodIn wsX6_correct wsX6_putRegistersRight := goodIn_r _ [52, 2, 53, 54, 55, 56, 32, 57, 34, 58, 59, 60, 61, 62, 63, 64, 65, 17, 66, 67, 68, 69, 70, 71, 72, 73, 74, 75, 76, 77, 78, 79, 84, 85, 86, 87, 88, 89, 90, 91, 92, 93, 94, 95, 96, 97, 98, 99, 100, 103, 107, 108] (by decide +kernel) (by decide +kernel)
set_option maxRecDepth 20000 in
theorem gX6_correct_X6_putRegistersRight : GoodIn wsX6_correct (wsV RX6 61 RX6 yX6_putRegistersRight wsX6_putRegistersRight) := goodIn_app (goodIn_of _ (by decide +kernel)) ggX6_correct_X6_putRegistersRight
theorem dX6_correct_0 : decode cX6_correct 0 = .ok (.aload_n 0, 1) := by decide +kernel
theorem dX6_correct_1 : decode cX6_correct 1 = .ok (.getfield 19, 3) := by decide +kernel
theorem dX6_correct_4 : decode cX6_correct 4 = .ok (.aload_n 0, 1) := by decide +kernel
theorem dX6_correct_5 : decode cX6_correct 5 = .ok (.getfield 10, 3) := by decide +kernel
theorem dX6_correct_8 : decode cX6_correct 8 = .ok (.invokevirtual 72, 3) := by decide +kernel
theorem dX6_correct_11 : decode cX6_correct 11 = .ok (.aload_n 0, 1) := by decide +kernel
theorem dX6_correct_12 : decode cX6_correct 12 = .ok (.invokevirtual 121, 3) := by decide +kernel
theorem dX6_correct_15 : decode cX6_correct 15 = .ok (.istore_n 1, 1) := by decide +kernel
theorem dX6_correct_16 : decode cX6_correct 16 = .ok (.aload_n 0, 1) := by decide +kernel
theorem dX6_correct_17 : decode cX6_correct 17 = .ok (.aload_n 0, 1) := by decide +kernel
theorem dX6_correct_18 : decode cX6_correct 18 = .ok (.getfield 10, 3) := by decide +kernel
theorem dX6_correct_21 : decode cX6_correct 21 = .ok (.getfield 58, 3) := by decide +kernel
theorem dX6_correct_24 : decode cX6_correct 24 = .ok (.invokevirtual 61, 3) := by decide +kernel
theorem dX6_correct_27 : decode cX6_correct 27 = .ok (.iload_n 1, 1) := by decide +kernel
theorem dX6_correct_28 : decode cX6_correct 28 = .ok (.ireturn, 1) := by decide +kernel
set_option maxRecDepth 20000 in
theorem ggX6_strike_X4_hasRow : GoodIn wsX6_strike wsX4_hasRow := goodIn_r _ [9, 10, 65, 66, 67, 68, 69, 70, 71, 72, 73, 74] (by decide +kernel) (by decide +kernel)
set_option maxRecDepth 20000 in
theorem gX6_strike_X4_hasRow : GoodIn wsX6_strike (wsV RX6 125 RX4 yX4_hasRow wsX4_hasRow) := goodIn_app (goodIn_of _ (by decide +kernel)) ggX6_strike_X4_hasRow
set_option maxRecDepth 20000 in
theorem ggX6_strike_X3_keep : GoodIn wsX6_strike wsX3_keep := goodIn_r _ [15, 16, 17, 18, 19, 20, 14, 21, 22, 23, 24, 8, 25, 26, 27, 10, 28, 29, 30, 31, 32, 33, 34, 35, 36, 37, 38, 39, 40, 41, 42, 43, 44, 45, 46, 47, 48, 75, 76, 65, 66, 67, 68, 69, 70, 71, 72, 73, 74, 77, 78, 79, 80] (by decide +kernel) (by decide +kernel)
set_option maxRecDepth 20000 in
theorem gX6_strike_X3_keep : GoodIn wsX6_strike (wsV RX6 72 RX3 yX3_keep wsX3_keep) := goodIn_app (goodIn_of _ (by decide +kernel)) ggX6_strike_X3_keep
set_option maxRecDepth 20000 in
theorem ggX6_strike_X4_strikeAnew : GoodIn wsX6_strike wsX4_strikeAnew := goodIn_r _ [52, 30, 31, 32, 34, 29, 53, 54, 55, 44, 56, 57, 46, 48, 47, 65, 66, 67, 68, 69, 70, 71, 72, 73, 74, 78, 79, 80] (by decide +kernel) (by decide +kernel)
set_option maxRecDepth 20000 in
theorem gX6_strike_X4_strikeAnew : GoodIn wsX6_strike (wsV RX6 130 RX4 yX4_strikeAnew wsX4_strikeAnew) := goodIn_app (goodIn_of _ (by decide +kernel)) ggX6_strike_X4_strikeAnew
theorem dX6_strike_0 : decode cX6_strike 0 = .ok (.aload_n 0, 1) := by decide +kernel
theorem dX6_strike_1 : decode cX6_strike 1 = .ok (.getfield 10, 3) := by decide +kernel
theorem dX6_strike_4 : decode cX6_strike 4 = .ok (.iload_n 1, 1) := by decide +kernel
theorem dX6_strike_5 : decode cX6_strike 5 = .ok (.invokevirtual 125, 3) := by decide +kernel
theorem dX6_strike_8 : decode cX6_strike 8 = .ok (.ifCond .ne 13, 3) := by decide +kernel
theorem dX6_strike_11 : decode cX6_strike 11 = .ok (.new 100, 3) := by decide +kernel
theorem dX6_strike_14 : decode cX6_strike 14 = .ok (.dup, 1) := by decide +kernel
theorem dX6_strike_15 : decode cX6_strike 15 = .ok (.ldc 128, 2) := by decide +kernel
theorem dX6_strike_17 : decode cX6_strike 17 = .ok (.invokespecial 104, 3) := by decide +kernel
theorem dX6_strike_20 : decode cX6_strike 20 = .ok (.athrow, 1) := by decide +kernel
theorem dX6_strike_21 : decode cX6_strike 21 = .ok (.aload_n 0, 1) := by decide +kernel
theorem dX6_strike_22 : decode cX6_strike 22 = .ok (.getfield 19, 3) := by decide +kernel
theorem dX6_strike_25 : decode cX6_strike 25 = .ok (.aload_n 0, 1) := by decide +kernel
theorem dX6_strike_26 : decode cX6_strike 26 = .ok (.getfield 10, 3) := by decide +kernel
theorem dX6_strike_29 : decode cX6_strike 29 = .ok (.invokevirtual 72, 3) := by decide +kernel
theorem dX6_strike_32 : decode cX6_strike 32 = .ok (.aload_n 0, 1) := by decide +kernel
theorem dX6_strike_33 : decode cX6_strike 33 = .ok (.getfield 10, 3) := by decide +kernel
theorem dX6_strike_36 : decode cX6_strike 36 = .ok (.iload_n 1, 1) := by decide +kernel
theorem dX6_strike_37 : decode cX6_strike 37 = .ok (.invokevirtual 130, 3) := by decide +kernel
theorem dX6_strike_40 : decode cX6_strike 40 = .ok (.ireturn, 1) := by decide +kernel
set_option maxRecDepth 20000 in
theorem ggX6_renew_X6_isDigit : GoodIn wsX6_renew wsX6_isDigit := goodIn_r _ [8] (by decide +kernel) (by decide +kernel)
set_option maxRecDepth 20000 in
theorem gX6_renew_X6_isDigit : GoodIn wsX6_renew (va_wsS RX6 133 yX6_isDigit wsX6_isDigit) := goodIn_app (goodIn_of _ (by decide +kernel)) ggX6_renew_X6_isDigit
set_option maxRecDepth 20000 in
theorem ggX6_renew_X3_keep : GoodIn wsX6_renew wsX3_keep := goodIn_r _ [13, 14, 15, 16, 17, 18, 12, 19, 20, 21, 22, 23, 24, 25, 26, 27, 28, 29, 30, 31, 32, 33, 34, 35, 36, 37, 38, 39, 40, 41, 42, 43, 44, 45, 46, 47, 48, 70, 71, 60, 61, 62, 63, 64, 65, 66, 67, 68, 69, 72, 73, 74, 75] (by decide +kernel) (by decide +kernel)
set_option maxRecDepth 20000 in
theorem gX6_renew_X3_keep : GoodIn wsX6_renew (wsV RX6 72 RX3 yX3_keep wsX3_keep) := goodIn_app (goodIn_of _ (by decide +kernel)) ggX6_renew_X3_keep
set_option maxRecDepth 20000 in
theorem ggX6_renew_X5_makeNew : GoodIn wsX6_renew wsX5_makeNew := goodIn_r _ [52, 46, 73, 74, 75] (by decide +kernel) (by decide +kernel)
set_option maxRecDepth 20000 in
theorem gX6_renew_X5_makeNew : GoodIn wsX6_renew (wsV RX6 141 RX5 yX5_makeNew wsX5_makeNew) := goodIn_app (goodIn_of _ (by decide +kernel)) ggX6_renew_X5_makeNew
theorem dX6_renew_0 : decode cX6_renew 0 = .ok (.iload_n 1, 1) := by decide +kernel
theorem dX6_renew_1 : decode cX6_renew 1 = .ok (.invokestatic 133, 3) := by decide +kernel
theorem dX6_renew_4 : decode cX6_renew 4 = .ok (.ifCond .ne 13, 3) := by decide +kernel
theorem dX6_renew_7 : decode cX6_renew 7 = .ok (.new 100, 3) := by decide +kernel
theorem dX6_renew_10 : decode cX6_renew 10 = .ok (.dup, 1) := by decide +kernel
theorem dX6_renew_11 : decode cX6_renew 11 = .ok (.ldc 136, 2) := by decide +kernel
theorem dX6_renew_13 : decode cX6_renew 13 = .ok (.invokespecial 104, 3) := by decide +kernel
theorem dX6_renew_16 : decode cX6_renew 16 = .ok (.athrow, 1) := by decide +kernel
theorem dX6_renew_17 : decode cX6_renew 17 = .ok (.aload_n 0, 1) := by decide +kernel
theorem dX6_renew_18 : decode cX6_renew 18 = .ok (.getfield 19, 3) := by decide +kernel
theorem dX6_renew_21 : decode cX6_renew 21 = .ok (.aload_n 0, 1) := by decide +kernel
theorem dX6_renew_22 : decode cX6_renew 22 = .ok (.getfield 10, 3) := by decide +kernel
theorem dX6_renew_25 : decode cX6_renew 25 = .ok (.invokevirtual 72, 3) := by decide +kernel
theorem dX6_renew_28 : decode cX6_renew 28 = .ok (.aload_n 0, 1) := by decide +kernel
theorem dX6_renew_29 : decode cX6_renew 29 = .ok (.getfield 10, 3) := by decide +kernel
theorem dX6_renew_32 : decode cX6_renew 32 = .ok (.getfield 138, 3) := by decide +kernel
theorem dX6_renew_35 : decode cX6_renew 35 = .ok (.iload_n 1, 1) := by decide +kernel
theorem dX6_renew_36 : decode cX6_renew 36 = .ok (.invokevirtual 141, 3) := by decide +kernel
theorem dX6_renew_39 : decode cX6_renew 39 = .ok (.ireturn, 1) := by decide +kernel
set_option maxRecDepth 20000 in
theorem ggX6_set_X6_isSetting : GoodIn wsX6_set wsX6_isSetting := goodIn_r _ [10] (by decide +kernel) (by decide +kernel)
set_option maxRecDepth 20000 in
theorem gX6_set_X6_isSetting : GoodIn wsX6_set (va_wsS RX6 144 yX6_isSetting wsX6_isSetting) := goodIn_app (goodIn_of _ (by decide +kernel)) ggX6_set_X6_isSetting
set_option maxRecDepth 20000 in
theorem ggX6_set_X3_keep : GoodIn wsX6_set wsX3_keep := goodIn_r _ [15, 16, 17, 18, 19, 20, 14, 21, 22, 23, 24, 25, 26, 27, 28, 29, 30, 31, 32, 33, 34, 35, 36, 37, 38, 39, 40, 41, 42, 43, 44, 45, 46, 47, 48, 49, 50, 75, 76, 62, 63, 64, 65, 66, 67, 68, 69, 70, 71, 77, 72, 73, 74] (by decide +kernel) (by decide +kernel)
set_option maxRecDepth 20000 in
theorem gX6_set_X3_keep : GoodIn wsX6_set (wsV RX6 72 RX3 yX3_keep wsX3_keep) := goodIn_app (goodIn_of _ (by decide +kernel)) ggX6_set_X3_keep
set_option maxRecDepth 20000 in
theorem ggX6_set_X6_settingNow : GoodIn wsX6_set wsX6_settingNow := goodIn_r _ [54, 6, 55, 56, 57, 58, 59, 60, 61, 62, 63, 64, 65, 66, 67, 68, 69, 70, 71, 72, 73, 74] (by decide +kernel) (by decide +kernel)
set_option maxRecDepth 20000 in
theorem gX6_set_X6_settingNow : GoodIn wsX6_set (wsV RX6 151 RX6 yX6_settingNow wsX6_settingNow) := goodIn_app (goodIn_of _ (by decide +kernel)) ggX6_set_X6_settingNow
theorem dX6_set_0 : decode cX6_set 0 = .ok (.iload_n 1, 1) := by decide +kernel
theorem dX6_set_1 : decode cX6_set 1 = .ok (.invokestatic 144, 3) := by decide +kernel
theorem dX6_set_4 : decode cX6_set 4 = .ok (.ifCond .ne 13, 3) := by decide +kernel
theorem dX6_set_7 : decode cX6_set 7 = .ok (.new 100, 3) := by decide +kernel
theorem dX6_set_10 : decode cX6_set 10 = .ok (.dup, 1) := by decide +kernel
theorem dX6_set_11 : decode cX6_set 11 = .ok (.ldc 147, 2) := by decide +kernel
theorem dX6_set_13 : decode cX6_set 13 = .ok (.invokespecial 104, 3) := by decide +kernel
theorem dX6_set_16 : decode cX6_set 16 = .ok (.athrow, 1) := by decide +kernel
theorem dX6_set_17 : decode cX6_set 17 = .ok (.iload_n 1, 1) := by decide +kernel
theorem dX6_set_18 : decode cX6_set 18 = .ok (.ifCond .ne 8, 3) := by decide +kernel
theorem dX6_set_21 : decode cX6_set 21 = .ok (.bipush 20, 2) := by decide +kernel
theorem dX6_set_23 : decode cX6_set 23 = .ok (.goto 6, 3) := by decide +kernel
theorem dX6_set_26 : decode cX6_set 26 = .ok (.sipush 999, 3) := by decide +kernel
theorem dX6_set_29 : decode cX6_set 29 = .ok (.istore_n 3, 1) := by decide +kernel
theorem dX6_set_30 : decode cX6_set 30 = .ok (.iload_n 2, 1) := by decide +kernel
theorem dX6_set_31 : decode cX6_set 31 = .ok (.iconst 1, 1) := by decide +kernel
theorem dX6_set_32 : decode cX6_set 32 = .ok (.if_icmp .lt 8, 3) := by decide +kernel
theorem dX6_set_35 : decode cX6_set 35 = .ok (.iload_n 2, 1) := by decide +kernel
theorem dX6_set_36 : decode cX6_set 36 = .ok (.iload_n 3, 1) := by decide +kernel
theorem dX6_set_37 : decode cX6_set 37 = .ok (.if_icmp .le 13, 3) := by decide +kernel
theorem dX6_set_40 : decode cX6_set 40 = .ok (.new 65, 3) := by decide +kernel
theorem dX6_set_43 : decode cX6_set 43 = .ok (.dup, 1) := by decide +kernel
theorem dX6_set_44 : decode cX6_set 44 = .ok (.ldc 149, 2) := by decide +kernel
theorem dX6_set_46 : decode cX6_set 46 = .ok (.invokespecial 69, 3) := by decide +kernel
theorem dX6_set_49 : decode cX6_set 49 = .ok (.athrow, 1) := by decide +kernel
theorem dX6_set_50 : decode cX6_set 50 = .ok (.aload_n 0, 1) := by decide +kernel
theorem dX6_set_51 : decode cX6_set 51 = .ok (.getfield 19, 3) := by decide +kernel
theorem dX6_set_54 : decode cX6_set 54 = .ok (.aload_n 0, 1) := by decide +kernel
theorem dX6_set_55 : decode cX6_set 55 = .ok (.getfield 10, 3) := by decide +kernel
theorem dX6_set_58 : decode cX6_set 58 = .ok (.invokevirtual 72, 3) := by decide +kernel
theorem dX6_set_61 : decode cX6_set 61 = .ok (.aload_n 0, 1) := by decide +kernel
theorem dX6_set_62 : decode cX6_set 62 = .ok (.iload_n 1, 1) := by decide +kernel
theorem dX6_set_63 : decode cX6_set 63 = .ok (.invokevirtual 151, 3) := by decide +kernel
theorem dX6_set_66 : decode cX6_set 66 = .ok (.istore 4, 2) := by decide +kernel
theorem dX6_set_68 : decode cX6_set 68 = .ok (.iload_n 1, 1) := by decide +kernel
theorem dX6_set_69 : decode cX6_set 69 = .ok (.ifCond .ne 14, 3) := by decide +kernel
theorem dX6_set_72 : decode cX6_set 72 = .ok (.aload_n 0, 1) := by decide +kernel
theorem dX6_set_73 : decode cX6_set 73 = .ok (.getfield 10, 3) := by decide +kernel
theorem dX6_set_76 : decode cX6_set 76 = .ok (.iload_n 2, 1) := by decide +kernel
theorem dX6_set_77 : decode cX6_set 77 = .ok (.putfield 154, 3) := by decide +kernel
theorem dX6_set_80 : decode cX6_set 80 = .ok (.goto 14, 3) := by decide +kernel
theorem dX6_set_83 : decode cX6_set 83 = .ok (.aload_n 0, 1) := by decide +kernel
theorem dX6_set_84 : decode cX6_set 84 = .ok (.getfield 10, 3) := by decide +kernel
theorem dX6_set_87 : decode cX6_set 87 = .ok (.getfield 138, 3) := by decide +kernel
theorem dX6_set_90 : decode cX6_set 90 = .ok (.iload_n 2, 1) := by decide +kernel
theorem dX6_set_91 : decode cX6_set 91 = .ok (.putfield 157, 3) := by decide +kernel
theorem dX6_set_94 : decode cX6_set 94 = .ok (.iload 4, 2) := by decide +kernel
theorem dX6_set_96 : decode cX6_set 96 = .ok (.ireturn, 1) := by decide +kernel
set_option maxRecDepth 20000 in
theorem ggX6_append_X1_isCode : GoodIn wsX6_append wsX1_isCode := goodIn_r _ [9] (by decide +kernel) (by decide +kernel)
set_option maxRecDepth 20000 in
theorem gX6_append_X1_isCode : GoodIn wsX6_append (va_wsS RX6 160 yX1_isCode wsX1_isCode) := goodIn_app (goodIn_of _ (by decide +kernel)) ggX6_append_X1_isCode
set_option maxRecDepth 20000 in
theorem ggX6_append_X1_isFull : GoodIn wsX6_append wsX1_isFull := goodIn_r _ [13, 14, 27, 28] (by decide +kernel) (by decide +kernel)
set_option maxRecDepth 20000 in
theorem gX6_append_X1_isFull : GoodIn wsX6_append (wsV RX6 165 RX1 yX1_isFull wsX1_isFull) := goodIn_app (goodIn_of _ (by decide +kernel)) ggX6_append_X1_isFull
set_option maxRecDepth 20000 in
theorem ggX6_append_X1_add : GoodIn wsX6_append wsX1_add := goodIn_r _ [18, 14, 19, 27, 28] (by decide +kernel) (by decide +kernel)
set_option maxRecDepth 20000 in
theorem gX6_append_X1_add : GoodIn wsX6_append (wsV RX6 171 RX1 yX1_add wsX1_add) := goodIn_app (goodIn_of _ (by decide +kernel)) ggX6_append_X1_add
theorem dX6_append_0 : decode cX6_append 0 = .ok (.iload_n 1, 1) := by decide +kernel
theorem dX6_append_1 : decode cX6_append 1 = .ok (.invokestatic 160, 3) := by decide +kernel
theorem dX6_append_4 : decode cX6_append 4 = .ok (.ifCond .ne 13, 3) := by decide +kernel
theorem dX6_append_7 : decode cX6_append 7 = .ok (.new 65, 3) := by decide +kernel
theorem dX6_append_10 : decode cX6_append 10 = .ok (.dup, 1) := by decide +kernel
theorem dX6_append_11 : decode cX6_append 11 = .ok (.ldc 163, 2) := by decide +kernel
theorem dX6_append_13 : decode cX6_append 13 = .ok (.invokespecial 69, 3) := by decide +kernel
theorem dX6_append_16 : decode cX6_append 16 = .ok (.athrow, 1) := by decide +kernel
theorem dX6_append_17 : decode cX6_append 17 = .ok (.aload_n 0, 1) := by decide +kernel
theorem dX6_append_18 : decode cX6_append 18 = .ok (.getfield 26, 3) := by decide +kernel
theorem dX6_append_21 : decode cX6_append 21 = .ok (.invokevirtual 165, 3) := by decide +kernel
theorem dX6_append_24 : decode cX6_append 24 = .ok (.ifCond .eq 13, 3) := by decide +kernel
theorem dX6_append_27 : decode cX6_append 27 = .ok (.new 88, 3) := by decide +kernel
theorem dX6_append_30 : decode cX6_append 30 = .ok (.dup, 1) := by decide +kernel
theorem dX6_append_31 : decode cX6_append 31 = .ok (.ldc 169, 2) := by decide +kernel
theorem dX6_append_33 : decode cX6_append 33 = .ok (.invokespecial 92, 3) := by decide +kernel
theorem dX6_append_36 : decode cX6_append 36 = .ok (.athrow, 1) := by decide +kernel
theorem dX6_append_37 : decode cX6_append 37 = .ok (.aload_n 0, 1) := by decide +kernel
theorem dX6_append_38 : decode cX6_append 38 = .ok (.getfield 26, 3) := by decide +kernel
theorem dX6_append_41 : decode cX6_append 41 = .ok (.iload_n 1, 1) := by decide +kernel
theorem dX6_append_42 : decode cX6_append 42 = .ok (.invokevirtual 171, 3) := by decide +kernel
theorem dX6_append_45 : decode cX6_append 45 = .ok (.aload_n 0, 1) := by decide +kernel
theorem dX6_append_46 : decode cX6_append 46 = .ok (.getfield 26, 3) := by decide +kernel
theorem dX6_append_49 : decode cX6_append 49 = .ok (.getfield 174, 3) := by decide +kernel
theorem dX6_append_52 : decode cX6_append 52 = .ok (.ireturn, 1) := by decide +kernel
theorem dX6_clearBuffer_0 : decode cX6_clearBuffer 0 = .ok (.aload_n 0, 1) := by decide +kernel
theorem dX6_clearBuffer_1 : decode cX6_clearBuffer 1 = .ok (.getfield 26, 3) := by decide +kernel
theorem dX6_clearBuffer_4 : decode cX6_clearBuffer 4 = .ok (.getfield 174, 3) := by decide +kernel
theorem dX6_clearBuffer_7 : decode cX6_clearBuffer 7 = .ok (.istore_n 1, 1) := by decide +kernel
theorem dX6_clearBuffer_8 : decode cX6_clearBuffer 8 = .ok (.aload_n 0, 1) := by decide +kernel
theorem dX6_clearBuffer_9 : decode cX6_clearBuffer 9 = .ok (.getfield 26, 3) := by decide +kernel
theorem dX6_clearBuffer_12 : decode cX6_clearBuffer 12 = .ok (.iconst 0, 1) := by decide +kernel
theorem dX6_clearBuffer_13 : decode cX6_clearBuffer 13 = .ok (.putfield 174, 3) := by decide +kernel
theorem dX6_clearBuffer_16 : decode cX6_clearBuffer 16 = .ok (.iload_n 1, 1) := by decide +kernel
theorem dX6_clearBuffer_17 : decode cX6_clearBuffer 17 = .ok (.ireturn, 1) := by decide +kernel
set_option maxRecDepth 20000 in
theorem ggX6_firstError_X1_errorIndex : GoodIn wsX6_firstError wsX1_errorIndex := goodIn_r _ [6, 7, 8, 9, 10, 5, 11, 12, 13, 14, 15, 16, 17, 18, 19, 20, 21, 22, 23, 31, 32] (by decide +kernel) (by decide +kernel)
set_option maxRecDepth 20000 in
theorem gX6_firstError_X1_errorIndex : GoodIn wsX6_firstError (wsV RX6 177 RX1 yX1_errorIndex wsX1_errorIndex) := goodIn_app (goodIn_of _ (by decide +kernel)) ggX6_firstError_X1_errorIndex
theorem dX6_firstError_0 : decode cX6_firstError 0 = .ok (.aload_n 0, 1) := by decide +kernel
theorem dX6_firstError_1 : decode cX6_firstError 1 = .ok (.getfield 26, 3) := by decide +kernel
theorem dX6_firstError_4 : decode cX6_firstError 4 = .ok (.invokevirtual 177, 3) := by decide +kernel
theorem dX6_firstError_7 : decode cX6_firstError 7 = .ok (.ireturn, 1) := by decide +kernel
set_option maxRecDepth 20000 in
theorem ggX6_obey_X1_isComplete : GoodIn wsX6_obey wsX1_isComplete := goodIn_r _ [10, 11, 12, 13, 14, 9, 15, 16, 17, 18, 19, 20, 21, 22, 23, 24, 25, 26, 27, 180, 181] (by decide +kernel) (by decide +kernel)
set_option maxRecDepth 20000 in
theorem gX6_obey_X1_isComplete : GoodIn wsX6_obey (wsV RX6 180 RX1 yX1_isComplete wsX1_isComplete) := goodIn_app (goodIn_of _ (by decide +kernel)) ggX6_obey_X1_isComplete
set_option maxRecDepth 20000 in
theorem ggX6_obey_X3_keep : GoodIn wsX6_obey wsX3_keep := goodIn_r _ [32, 33, 34, 35, 36, 37, 31, 38, 39, 40, 41, 42, 43, 44, 45, 46, 47, 48, 49, 50, 51, 52, 53, 54, 55, 56, 57, 58, 59, 60, 61, 62, 63, 64, 65, 66, 67, 182, 183, 184, 185, 186, 187, 188, 189, 190, 191, 192, 193, 194, 195, 196, 197] (by decide +kernel) (by decide +kernel)
set_option maxRecDepth 20000 in
theorem gX6_obey_X3_keep : GoodIn wsX6_obey (wsV RX6 72 RX3 yX3_keep wsX3_keep) := goodIn_app (goodIn_of _ (by decide +kernel)) ggX6_obey_X3_keep
set_option maxRecDepth 20000 in
theorem ggX6_obey_X1_beginsOrder : GoodIn wsX6_obey wsX1_beginsOrder := goodIn_r _ [71, 72, 73, 74, 9, 75, 11, 12, 180, 181] (by decide +kernel) (by decide +kernel)
set_option maxRecDepth 20000 in
theorem gX6_obey_X1_beginsOrder : GoodIn wsX6_obey (wsV RX6 185 RX1 yX1_beginsOrder wsX1_beginsOrder) := goodIn_app (goodIn_of _ (by decide +kernel)) ggX6_obey_X1_beginsOrder
set_option maxRecDepth 20000 in
theorem ggX6_obey_X6_carryOut : GoodIn wsX6_obey wsX6_carryOut := goodIn_r _ [80, 3, 5, 81, 73, 74, 9, 75, 11, 12, 82, 83, 84, 85, 86, 87, 88, 89, 72, 22, 23, 24, 90, 91, 92, 79, 93, 94, 95, 96, 42, 97, 46, 98, 99, 100, 101, 49, 52, 50, 51, 53, 102, 103, 104, 57, 105, 59, 106, 107, 108, 109, 45, 44, 110, 111, 112, 113, 114, 115, 63, 116, 117, 65, 67, 66, 118, 119, 120, 121, 122, 123, 124, 125, 126, 127, 128, 129, 130, 131, 132, 133, 134, 135, 136, 137, 138, 139, 140, 141, 142, 143, 144, 145, 146, 147, 148, 149, 150, 151, 152, 153, 154, 155, 156, 157, 158, 159, 160, 161, 162, 163, 164, 165, 166, 167, 168, 169, 170, 171, 172, 173, 174, 175, 176, 177, 178, 179, 184, 185, 186, 187, 188, 189, 190, 191, 192, 193, 180, 181, 194, 195, 196, 197, 198, 199] (by decide +kernel) (by decide +kernel)
set_option maxRecDepth 20000 in
theorem gX6_obey_X6_carryOut : GoodIn wsX6_obey (wsV RX6 188 RX6 yX6_carryOut wsX6_carryOut) := goodIn_app (goodIn_of _ (by decide +kernel)) ggX6_obey_X6_carryOut
theorem dX6_obey_0 : decode cX6_obey 0 = .ok (.aload_n 0, 1) := by decide +kernel
theorem dX6_obey_1 : decode cX6_obey 1 = .ok (.getfield 26, 3) := by decide +kernel
theorem dX6_obey_4 : decode cX6_obey 4 = .ok (.invokevirtual 180, 3) := by decide +kernel
theorem dX6_obey_7 : decode cX6_obey 7 = .ok (.ifCond .ne 13, 3) := by decide +kernel
theorem dX6_obey_10 : decode cX6_obey 10 = .ok (.new 65, 3) := by decide +kernel
theorem dX6_obey_13 : decode cX6_obey 13 = .ok (.dup, 1) := by decide +kernel
theorem dX6_obey_14 : decode cX6_obey 14 = .ok (.ldc 183, 2) := by decide +kernel
theorem dX6_obey_16 : decode cX6_obey 16 = .ok (.invokespecial 69, 3) := by decide +kernel
theorem dX6_obey_19 : decode cX6_obey 19 = .ok (.athrow, 1) := by decide +kernel
theorem dX6_obey_20 : decode cX6_obey 20 = .ok (.aload_n 0, 1) := by decide +kernel
theorem dX6_obey_21 : decode cX6_obey 21 = .ok (.getfield 19, 3) := by decide +kernel
theorem dX6_obey_24 : decode cX6_obey 24 = .ok (.aload_n 0, 1) := by decide +kernel
theorem dX6_obey_25 : decode cX6_obey 25 = .ok (.getfield 10, 3) := by decide +kernel
theorem dX6_obey_28 : decode cX6_obey 28 = .ok (.invokevirtual 72, 3) := by decide +kernel
theorem dX6_obey_31 : decode cX6_obey 31 = .ok (.iconst 0, 1) := by decide +kernel
theorem dX6_obey_32 : decode cX6_obey 32 = .ok (.istore_n 1, 1) := by decide +kernel
theorem dX6_obey_33 : decode cX6_obey 33 = .ok (.iconst 1, 1) := by decide +kernel
theorem dX6_obey_34 : decode cX6_obey 34 = .ok (.istore_n 2, 1) := by decide +kernel
theorem dX6_obey_35 : decode cX6_obey 35 = .ok (.iconst 0, 1) := by decide +kernel
theorem dX6_obey_36 : decode cX6_obey 36 = .ok (.istore_n 3, 1) := by decide +kernel
theorem dX6_obey_37 : decode cX6_obey 37 = .ok (.iload_n 3, 1) := by decide +kernel
theorem dX6_obey_38 : decode cX6_obey 38 = .ok (.aload_n 0, 1) := by decide +kernel
theorem dX6_obey_39 : decode cX6_obey 39 = .ok (.getfield 26, 3) := by decide +kernel
theorem dX6_obey_42 : decode cX6_obey 42 = .ok (.getfield 174, 3) := by decide +kernel
theorem dX6_obey_45 : decode cX6_obey 45 = .ok (.if_icmp .ge 42, 3) := by decide +kernel
theorem dX6_obey_48 : decode cX6_obey 48 = .ok (.iload_n 2, 1) := by decide +kernel
theorem dX6_obey_49 : decode cX6_obey 49 = .ok (.ifCond .eq 38, 3) := by decide +kernel
theorem dX6_obey_52 : decode cX6_obey 52 = .ok (.aload_n 0, 1) := by decide +kernel
theorem dX6_obey_53 : decode cX6_obey 53 = .ok (.getfield 26, 3) := by decide +kernel
theorem dX6_obey_56 : decode cX6_obey 56 = .ok (.iload_n 3, 1) := by decide +kernel
theorem dX6_obey_57 : decode cX6_obey 57 = .ok (.invokevirtual 185, 3) := by decide +kernel
theorem dX6_obey_60 : decode cX6_obey 60 = .ok (.ifCond .eq 21, 3) := by decide +kernel
theorem dX6_obey_63 : decode cX6_obey 63 = .ok (.aload_n 0, 1) := by decide +kernel
theorem dX6_obey_64 : decode cX6_obey 64 = .ok (.iload_n 3, 1) := by decide +kernel
theorem dX6_obey_65 : decode cX6_obey 65 = .ok (.invokevirtual 188, 3) := by decide +kernel
theorem dX6_obey_68 : decode cX6_obey 68 = .ok (.istore_n 2, 1) := by decide +kernel
theorem dX6_obey_69 : decode cX6_obey 69 = .ok (.iload_n 1, 1) := by decide +kernel
theorem dX6_obey_70 : decode cX6_obey 70 = .ok (.iload_n 2, 1) := by decide +kernel
theorem dX6_obey_71 : decode cX6_obey 71 = .ok (.ifCond .eq 7, 3) := by decide +kernel
theorem dX6_obey_74 : decode cX6_obey 74 = .ok (.iconst 1, 1) := by decide +kernel
theorem dX6_obey_75 : decode cX6_obey 75 = .ok (.goto 4, 3) := by decide +kernel
theorem dX6_obey_78 : decode cX6_obey 78 = .ok (.iconst 0, 1) := by decide +kernel
theorem dX6_obey_79 : decode cX6_obey 79 = .ok (.iadd, 1) := by decide +kernel
theorem dX6_obey_80 : decode cX6_obey 80 = .ok (.istore_n 1, 1) := by decide +kernel
theorem dX6_obey_81 : decode cX6_obey 81 = .ok (.iinc 3 1, 3) := by decide +kernel
theorem dX6_obey_84 : decode cX6_obey 84 = .ok (.goto (-47), 3) := by decide +kernel
theorem dX6_obey_87 : decode cX6_obey 87 = .ok (.aload_n 0, 1) := by decide +kernel
theorem dX6_obey_88 : decode cX6_obey 88 = .ok (.getfield 26, 3) := by decide +kernel
theorem dX6_obey_91 : decode cX6_obey 91 = .ok (.iconst 0, 1) := by decide +kernel
theorem dX6_obey_92 : decode cX6_obey 92 = .ok (.putfield 174, 3) := by decide +kernel
theorem dX6_obey_95 : decode cX6_obey 95 = .ok (.iload_n 1, 1) := by decide +kernel
theorem dX6_obey_96 : decode cX6_obey 96 = .ok (.ireturn, 1) := by decide +kernel
set_option maxRecDepth 20000 in
theorem ggX6_undo_X3_giveBack : GoodIn wsX6_undo wsX3_giveBack := goodIn_r _ [9, 10, 11, 12, 13, 14, 15, 16, 17, 18, 19, 20, 21, 22, 23, 24, 25, 26, 27, 28, 29, 30, 31, 32, 33, 34, 35, 36, 37, 38, 39, 40, 48, 49, 50, 51, 52, 53, 54, 55, 56, 57, 58, 59, 60, 61, 62, 63] (by decide +kernel) (by decide +kernel)
set_option maxRecDepth 20000 in
theorem gX6_undo_X3_giveBack : GoodIn wsX6_undo (wsV RX6 196 RX3 yX3_giveBack wsX3_giveBack) := goodIn_app (goodIn_of _ (by decide +kernel)) ggX6_undo_X3_giveBack
theorem dX6_undo_0 : decode cX6_undo 0 = .ok (.aload_n 0, 1) := by decide +kernel
theorem dX6_undo_1 : decode cX6_undo 1 = .ok (.getfield 19, 3) := by decide +kernel
theorem dX6_undo_4 : decode cX6_undo 4 = .ok (.getfield 191, 3) := by decide +kernel
theorem dX6_undo_7 : decode cX6_undo 7 = .ok (.ifCond .ne 13, 3) := by decide +kernel
theorem dX6_undo_10 : decode cX6_undo 10 = .ok (.new 88, 3) := by decide +kernel
theorem dX6_undo_13 : decode cX6_undo 13 = .ok (.dup, 1) := by decide +kernel
theorem dX6_undo_14 : decode cX6_undo 14 = .ok (.ldc 194, 2) := by decide +kernel
theorem dX6_undo_16 : decode cX6_undo 16 = .ok (.invokespecial 92, 3) := by decide +kernel
theorem dX6_undo_19 : decode cX6_undo 19 = .ok (.athrow, 1) := by decide +kernel
theorem dX6_undo_20 : decode cX6_undo 20 = .ok (.aload_n 0, 1) := by decide +kernel
theorem dX6_undo_21 : decode cX6_undo 21 = .ok (.getfield 19, 3) := by decide +kernel
theorem dX6_undo_24 : decode cX6_undo 24 = .ok (.aload_n 0, 1) := by decide +kernel
theorem dX6_undo_25 : decode cX6_undo 25 = .ok (.getfield 10, 3) := by decide +kernel
theorem dX6_undo_28 : decode cX6_undo 28 = .ok (.invokevirtual 196, 3) := by decide +kernel
theorem dX6_undo_31 : decode cX6_undo 31 = .ok (.aload_n 0, 1) := by decide +kernel
theorem dX6_undo_32 : decode cX6_undo 32 = .ok (.getfield 19, 3) := by decide +kernel
theorem dX6_undo_35 : decode cX6_undo 35 = .ok (.getfield 191, 3) := by decide +kernel
theorem dX6_undo_38 : decode cX6_undo 38 = .ok (.ireturn, 1) := by decide +kernel
set_option maxRecDepth 20000 in
theorem ggX6_row_X4_hasRow : GoodIn wsX6_row wsX4_hasRow := goodIn_r _ [10, 11, 25, 26, 27, 28, 29, 30, 31, 32, 33, 34] (by decide +kernel) (by decide +kernel)
set_option maxRecDepth 20000 in
theorem gX6_row_X4_hasRow : GoodIn wsX6_row (wsV RX6 125 RX4 yX4_hasRow wsX4_hasRow) := goodIn_app (goodIn_of _ (by decide +kernel)) ggX6_row_X4_hasRow
set_option maxRecDepth 20000 in
theorem ggX6_row_X4_error : GoodIn wsX6_row wsX4_error := goodIn_r _ [15, 16, 17, 25, 26, 27, 28, 29, 30, 31, 32, 33, 34] (by decide +kernel) (by decide +kernel)
set_option maxRecDepth 20000 in
theorem gX6_row_X4_error : GoodIn wsX6_row (wsV RX6 208 RX4 yX4_error wsX4_error) := goodIn_app (goodIn_of _ (by decide +kernel)) ggX6_row_X4_error
theorem dX6_row_0 : decode cX6_row 0 = .ok (.aload_n 0, 1) := by decide +kernel
theorem dX6_row_1 : decode cX6_row 1 = .ok (.getfield 10, 3) := by decide +kernel
theorem dX6_row_4 : decode cX6_row 4 = .ok (.iload_n 1, 1) := by decide +kernel
theorem dX6_row_5 : decode cX6_row 5 = .ok (.invokevirtual 125, 3) := by decide +kernel
theorem dX6_row_8 : decode cX6_row 8 = .ok (.ifCond .ne 13, 3) := by decide +kernel
theorem dX6_row_11 : decode cX6_row 11 = .ok (.new 100, 3) := by decide +kernel
theorem dX6_row_14 : decode cX6_row 14 = .ok (.dup, 1) := by decide +kernel
theorem dX6_row_15 : decode cX6_row 15 = .ok (.ldc 128, 2) := by decide +kernel
theorem dX6_row_17 : decode cX6_row 17 = .ok (.invokespecial 104, 3) := by decide +kernel
theorem dX6_row_20 : decode cX6_row 20 = .ok (.athrow, 1) := by decide +kernel
theorem dX6_row_21 : decode cX6_row 21 = .ok (.iload_n 2, 1) := by decide +kernel
theorem dX6_row_22 : decode cX6_row 22 = .ok (.ifCond .lt 8, 3) := by decide +kernel
theorem dX6_row_25 : decode cX6_row 25 = .ok (.iload_n 2, 1) := by decide +kernel
theorem dX6_row_26 : decode cX6_row 26 = .ok (.iconst 5, 1) := by decide +kernel
theorem dX6_row_27 : decode cX6_row 27 = .ok (.if_icmp .lt 13, 3) := by decide +kernel
theorem dX6_row_30 : decode cX6_row 30 = .ok (.new 65, 3) := by decide +kernel
theorem dX6_row_33 : decode cX6_row 33 = .ok (.dup, 1) := by decide +kernel
theorem dX6_row_34 : decode cX6_row 34 = .ok (.ldc 199, 2) := by decide +kernel
theorem dX6_row_36 : decode cX6_row 36 = .ok (.invokespecial 69, 3) := by decide +kernel
theorem dX6_row_39 : decode cX6_row 39 = .ok (.athrow, 1) := by decide +kernel
theorem dX6_row_40 : decode cX6_row 40 = .ok (.iload_n 2, 1) := by decide +kernel
theorem dX6_row_41 : decode cX6_row 41 = .ok (.tableswitch 71 0 3 #[31, 42, 52, 62], 31) := by decide +kernel
theorem dX6_row_72 : decode cX6_row 72 = .ok (.aload_n 0, 1) := by decide +kernel
theorem dX6_row_73 : decode cX6_row 73 = .ok (.getfield 10, 3) := by decide +kernel
theorem dX6_row_76 : decode cX6_row 76 = .ok (.getfield 79, 3) := by decide +kernel
theorem dX6_row_79 : decode cX6_row 79 = .ok (.iload_n 1, 1) := by decide +kernel
theorem dX6_row_80 : decode cX6_row 80 = .ok (.iadd, 1) := by decide +kernel
theorem dX6_row_81 : decode cX6_row 81 = .ok (.i2l, 1) := by decide +kernel
theorem dX6_row_82 : decode cX6_row 82 = .ok (.lreturn, 1) := by decide +kernel
theorem dX6_row_83 : decode cX6_row 83 = .ok (.aload_n 0, 1) := by decide +kernel
theorem dX6_row_84 : decode cX6_row 84 = .ok (.getfield 10, 3) := by decide +kernel
theorem dX6_row_87 : decode cX6_row 87 = .ok (.getfield 201, 3) := by decide +kernel
theorem dX6_row_90 : decode cX6_row 90 = .ok (.iload_n 1, 1) := by decide +kernel
theorem dX6_row_91 : decode cX6_row 91 = .ok (.laload, 1) := by decide +kernel
theorem dX6_row_92 : decode cX6_row 92 = .ok (.lreturn, 1) := by decide +kernel
theorem dX6_row_93 : decode cX6_row 93 = .ok (.aload_n 0, 1) := by decide +kernel
theorem dX6_row_94 : decode cX6_row 94 = .ok (.getfield 10, 3) := by decide +kernel
theorem dX6_row_97 : decode cX6_row 97 = .ok (.getfield 205, 3) := by decide +kernel
theorem dX6_row_100 : decode cX6_row 100 = .ok (.iload_n 1, 1) := by decide +kernel
theorem dX6_row_101 : decode cX6_row 101 = .ok (.laload, 1) := by decide +kernel
theorem dX6_row_102 : decode cX6_row 102 = .ok (.lreturn, 1) := by decide +kernel
theorem dX6_row_103 : decode cX6_row 103 = .ok (.aload_n 0, 1) := by decide +kernel
theorem dX6_row_104 : decode cX6_row 104 = .ok (.getfield 10, 3) := by decide +kernel
theorem dX6_row_107 : decode cX6_row 107 = .ok (.iload_n 1, 1) := by decide +kernel
theorem dX6_row_108 : decode cX6_row 108 = .ok (.invokevirtual 208, 3) := by decide +kernel
theorem dX6_row_111 : decode cX6_row 111 = .ok (.lreturn, 1) := by decide +kernel
theorem dX6_row_112 : decode cX6_row 112 = .ok (.aload_n 0, 1) := by decide +kernel
theorem dX6_row_113 : decode cX6_row 113 = .ok (.getfield 10, 3) := by decide +kernel
theorem dX6_row_116 : decode cX6_row 116 = .ok (.getfield 211, 3) := by decide +kernel
theorem dX6_row_119 : decode cX6_row 119 = .ok (.iload_n 1, 1) := by decide +kernel
theorem dX6_row_120 : decode cX6_row 120 = .ok (.iaload, 1) := by decide +kernel
theorem dX6_row_121 : decode cX6_row 121 = .ok (.i2l, 1) := by decide +kernel
theorem dX6_row_122 : decode cX6_row 122 = .ok (.lreturn, 1) := by decide +kernel
set_option maxRecDepth 20000 in
theorem ggX6_register_X6_isRegister : GoodIn wsX6_register wsX6_isRegister := goodIn_r _ [8] (by decide +kernel) (by decide +kernel)
set_option maxRecDepth 20000 in
theorem gX6_register_X6_isRegister : GoodIn wsX6_register (va_wsS RX6 97 yX6_isRegister wsX6_isRegister) := goodIn_app (goodIn_of _ (by decide +kernel)) ggX6_register_X6_isRegister
set_option maxRecDepth 20000 in
theorem ggX6_register_X6_putRegistersRight : GoodIn wsX6_register wsX6_putRegistersRight := goodIn_r _ [12, 3, 13, 14, 15, 16, 17, 18, 19, 20, 21, 22, 23, 24, 25, 26, 27, 28, 29, 30, 31, 32, 33, 34, 35, 36, 37, 38, 39, 40, 41, 42, 43, 44, 45, 46, 47, 48, 49, 50, 51, 52, 53, 54, 55, 56, 57, 58, 59, 60, 61, 62] (by decide +kernel) (by decide +kernel)
set_option maxRecDepth 20000 in
theorem gX6_register_X6_putRegistersRight : GoodIn wsX6_register (wsV RX6 61 RX6 yX6_putRegistersRight wsX6_putRegistersRight) := goodIn_app (goodIn_of _ (by decide +kernel)) ggX6_register_X6_putRegistersRight
theorem dX6_register_0 : decode cX6_register 0 = .ok (.iload_n 1, 1) := by decide +kernel
theorem dX6_register_1 : decode cX6_register 1 = .ok (.invokestatic 97, 3) := by decide +kernel
theorem dX6_register_4 : decode cX6_register 4 = .ok (.ifCond .ne 13, 3) := by decide +kernel
theorem dX6_register_7 : decode cX6_register 7 = .ok (.new 100, 3) := by decide +kernel
theorem dX6_register_10 : decode cX6_register 10 = .ok (.dup, 1) := by decide +kernel
theorem dX6_register_11 : decode cX6_register 11 = .ok (.ldc 102, 2) := by decide +kernel
theorem dX6_register_13 : decode cX6_register 13 = .ok (.invokespecial 104, 3) := by decide +kernel
theorem dX6_register_16 : decode cX6_register 16 = .ok (.athrow, 1) := by decide +kernel
theorem dX6_register_17 : decode cX6_register 17 = .ok (.iload_n 2, 1) := by decide +kernel
theorem dX6_register_18 : decode cX6_register 18 = .ok (.ifCond .ne 16, 3) := by decide +kernel
theorem dX6_register_21 : decode cX6_register 21 = .ok (.aload_n 0, 1) := by decide +kernel
theorem dX6_register_22 : decode cX6_register 22 = .ok (.getfield 10, 3) := by decide +kernel
theorem dX6_register_25 : decode cX6_register 25 = .ok (.getfield 58, 3) := by decide +kernel
theorem dX6_register_28 : decode cX6_register 28 = .ok (.getfield 215, 3) := by decide +kernel
theorem dX6_register_31 : decode cX6_register 31 = .ok (.iload_n 1, 1) := by decide +kernel
theorem dX6_register_32 : decode cX6_register 32 = .ok (.laload, 1) := by decide +kernel
theorem dX6_register_33 : decode cX6_register 33 = .ok (.lreturn, 1) := by decide +kernel
theorem dX6_register_34 : decode cX6_register 34 = .ok (.aload_n 0, 1) := by decide +kernel
theorem dX6_register_35 : decode cX6_register 35 = .ok (.aload_n 0, 1) := by decide +kernel
theorem dX6_register_36 : decode cX6_register 36 = .ok (.getfield 40, 3) := by decide +kernel
theorem dX6_register_39 : decode cX6_register 39 = .ok (.invokevirtual 61, 3) := by decide +kernel
theorem dX6_register_42 : decode cX6_register 42 = .ok (.aload_n 0, 1) := by decide +kernel
theorem dX6_register_43 : decode cX6_register 43 = .ok (.getfield 40, 3) := by decide +kernel
theorem dX6_register_46 : decode cX6_register 46 = .ok (.getfield 215, 3) := by decide +kernel
theorem dX6_register_49 : decode cX6_register 49 = .ok (.iload_n 1, 1) := by decide +kernel
theorem dX6_register_50 : decode cX6_register 50 = .ok (.laload, 1) := by decide +kernel
theorem dX6_register_51 : decode cX6_register 51 = .ok (.lreturn, 1) := by decide +kernel
set_option maxRecDepth 20000 in
theorem ggX6_group_X4_wholeGroups : GoodIn wsX6_group wsX4_wholeGroups := goodIn_r _ [8, 9, 41, 42, 43, 44, 45, 46, 47, 48, 49, 50] (by decide +kernel) (by decide +kernel)
set_option maxRecDepth 20000 in
theorem gX6_group_X4_wholeGroups : GoodIn wsX6_group (wsV RX6 220 RX4 yX4_wholeGroups wsX4_wholeGroups) := goodIn_app (goodIn_of _ (by decide +kernel)) ggX6_group_X4_wholeGroups
set_option maxRecDepth 20000 in
theorem ggX6_group_X4_printedSum : GoodIn wsX6_group wsX4_printedSum := goodIn_r _ [13, 14, 41, 42, 43, 44, 45, 46, 47, 48, 49, 50] (by decide +kernel) (by decide +kernel)
set_option maxRecDepth 20000 in
theorem gX6_group_X4_printedSum : GoodIn wsX6_group (wsV RX6 223 RX4 yX4_printedSum wsX4_printedSum) := goodIn_app (goodIn_of _ (by decide +kernel)) ggX6_group_X4_printedSum
set_option maxRecDepth 20000 in
theorem ggX6_group_X4_rightSum : GoodIn wsX6_group wsX4_rightSum := goodIn_r _ [18, 19, 41, 42, 43, 44, 45, 46, 47, 48, 49, 50] (by decide +kernel) (by decide +kernel)
set_option maxRecDepth 20000 in
theorem gX6_group_X4_rightSum : GoodIn wsX6_group (wsV RX6 227 RX4 yX4_rightSum wsX4_rightSum) := goodIn_app (goodIn_of _ (by decide +kernel)) ggX6_group_X4_rightSum
set_option maxRecDepth 20000 in
theorem ggX6_group_X4_isFoundWrong : GoodIn wsX6_group wsX4_isFoundWrong := goodIn_r _ [23, 24, 11, 12, 7, 13, 14, 25, 16, 17, 18, 19, 41, 42, 43, 44, 45, 46, 47, 48, 49, 50] (by decide +kernel) (by decide +kernel)
set_option maxRecDepth 20000 in
theorem gX6_group_X4_isFoundWrong : GoodIn wsX6_group (wsV RX6 230 RX4 yX4_isFoundWrong wsX4_isFoundWrong) := goodIn_app (goodIn_of _ (by decide +kernel)) ggX6_group_X4_isFoundWrong
set_option maxRecDepth 20000 in
theorem ggX6_group_X4_wrongRows : GoodIn wsX6_group wsX4_wrongRows := goodIn_r _ [29, 30, 31, 32, 7, 33, 14, 19, 41, 42, 43, 44, 45, 46, 47, 48, 49, 50] (by decide +kernel) (by decide +kernel)
set_option maxRecDepth 20000 in
theorem gX6_group_X4_wrongRows : GoodIn wsX6_group (wsV RX6 234 RX4 yX4_wrongRows wsX4_wrongRows) := goodIn_app (goodIn_of _ (by decide +kernel)) ggX6_group_X4_wrongRows
theorem dX6_group_0 : decode cX6_group 0 = .ok (.iload_n 1, 1) := by decide +kernel
theorem dX6_group_1 : decode cX6_group 1 = .ok (.ifCond .lt 12, 3) := by decide +kernel
theorem dX6_group_4 : decode cX6_group 4 = .ok (.iload_n 2, 1) := by decide +kernel
theorem dX6_group_5 : decode cX6_group 5 = .ok (.ifCond .lt 8, 3) := by decide +kernel
theorem dX6_group_8 : decode cX6_group 8 = .ok (.iload_n 2, 1) := by decide +kernel
theorem dX6_group_9 : decode cX6_group 9 = .ok (.iconst 4, 1) := by decide +kernel
theorem dX6_group_10 : decode cX6_group 10 = .ok (.if_icmp .lt 13, 3) := by decide +kernel
theorem dX6_group_13 : decode cX6_group 13 = .ok (.new 65, 3) := by decide +kernel
theorem dX6_group_16 : decode cX6_group 16 = .ok (.dup, 1) := by decide +kernel
theorem dX6_group_17 : decode cX6_group 17 = .ok (.ldc 218, 2) := by decide +kernel
theorem dX6_group_19 : decode cX6_group 19 = .ok (.invokespecial 69, 3) := by decide +kernel
theorem dX6_group_22 : decode cX6_group 22 = .ok (.athrow, 1) := by decide +kernel
theorem dX6_group_23 : decode cX6_group 23 = .ok (.iload_n 1, 1) := by decide +kernel
theorem dX6_group_24 : decode cX6_group 24 = .ok (.aload_n 0, 1) := by decide +kernel
theorem dX6_group_25 : decode cX6_group 25 = .ok (.getfield 10, 3) := by decide +kernel
theorem dX6_group_28 : decode cX6_group 28 = .ok (.aload_n 0, 1) := by decide +kernel
theorem dX6_group_29 : decode cX6_group 29 = .ok (.getfield 10, 3) := by decide +kernel
theorem dX6_group_32 : decode cX6_group 32 = .ok (.getfield 154, 3) := by decide +kernel
theorem dX6_group_35 : decode cX6_group 35 = .ok (.invokevirtual 220, 3) := by decide +kernel
theorem dX6_group_38 : decode cX6_group 38 = .ok (.if_icmp .lt 5, 3) := by decide +kernel
theorem dX6_group_41 : decode cX6_group 41 = .ok (.lconst 0, 1) := by decide +kernel
theorem dX6_group_42 : decode cX6_group 42 = .ok (.lreturn, 1) := by decide +kernel
theorem dX6_group_43 : decode cX6_group 43 = .ok (.iload_n 1, 1) := by decide +kernel
theorem dX6_group_44 : decode cX6_group 44 = .ok (.aload_n 0, 1) := by decide +kernel
theorem dX6_group_45 : decode cX6_group 45 = .ok (.getfield 10, 3) := by decide +kernel
theorem dX6_group_48 : decode cX6_group 48 = .ok (.getfield 154, 3) := by decide +kernel
theorem dX6_group_51 : decode cX6_group 51 = .ok (.imul, 1) := by decide +kernel
theorem dX6_group_52 : decode cX6_group 52 = .ok (.istore_n 3, 1) := by decide +kernel
theorem dX6_group_53 : decode cX6_group 53 = .ok (.iload_n 3, 1) := by decide +kernel
theorem dX6_group_54 : decode cX6_group 54 = .ok (.aload_n 0, 1) := by decide +kernel
theorem dX6_group_55 : decode cX6_group 55 = .ok (.getfield 10, 3) := by decide +kernel
theorem dX6_group_58 : decode cX6_group 58 = .ok (.getfield 154, 3) := by decide +kernel
theorem dX6_group_61 : decode cX6_group 61 = .ok (.iadd, 1) := by decide +kernel
theorem dX6_group_62 : decode cX6_group 62 = .ok (.istore 4, 2) := by decide +kernel
theorem dX6_group_64 : decode cX6_group 64 = .ok (.iload_n 2, 1) := by decide +kernel
theorem dX6_group_65 : decode cX6_group 65 = .ok (.tableswitch 68 0 2 #[27, 38, 49], 27) := by decide +kernel
theorem dX6_group_92 : decode cX6_group 92 = .ok (.aload_n 0, 1) := by decide +kernel
theorem dX6_group_93 : decode cX6_group 93 = .ok (.getfield 10, 3) := by decide +kernel
theorem dX6_group_96 : decode cX6_group 96 = .ok (.iload_n 3, 1) := by decide +kernel
theorem dX6_group_97 : decode cX6_group 97 = .ok (.iload 4, 2) := by decide +kernel
theorem dX6_group_99 : decode cX6_group 99 = .ok (.invokevirtual 223, 3) := by decide +kernel
theorem dX6_group_102 : decode cX6_group 102 = .ok (.lreturn, 1) := by decide +kernel
theorem dX6_group_103 : decode cX6_group 103 = .ok (.aload_n 0, 1) := by decide +kernel
theorem dX6_group_104 : decode cX6_group 104 = .ok (.getfield 10, 3) := by decide +kernel
theorem dX6_group_107 : decode cX6_group 107 = .ok (.iload_n 3, 1) := by decide +kernel
theorem dX6_group_108 : decode cX6_group 108 = .ok (.iload 4, 2) := by decide +kernel
theorem dX6_group_110 : decode cX6_group 110 = .ok (.invokevirtual 227, 3) := by decide +kernel
theorem dX6_group_113 : decode cX6_group 113 = .ok (.lreturn, 1) := by decide +kernel
theorem dX6_group_114 : decode cX6_group 114 = .ok (.aload_n 0, 1) := by decide +kernel
theorem dX6_group_115 : decode cX6_group 115 = .ok (.getfield 10, 3) := by decide +kernel
theorem dX6_group_118 : decode cX6_group 118 = .ok (.iload_n 3, 1) := by decide +kernel
theorem dX6_group_119 : decode cX6_group 119 = .ok (.iload 4, 2) := by decide +kernel
theorem dX6_group_121 : decode cX6_group 121 = .ok (.invokevirtual 230, 3) := by decide +kernel
theorem dX6_group_124 : decode cX6_group 124 = .ok (.ifCond .eq 7, 3) := by decide +kernel
theorem dX6_group_127 : decode cX6_group 127 = .ok (.lconst 1, 1) := by decide +kernel
theorem dX6_group_128 : decode cX6_group 128 = .ok (.goto 4, 3) := by decide +kernel
theorem dX6_group_131 : decode cX6_group 131 = .ok (.lconst 0, 1) := by decide +kernel
theorem dX6_group_132 : decode cX6_group 132 = .ok (.lreturn, 1) := by decide +kernel
theorem dX6_group_133 : decode cX6_group 133 = .ok (.aload_n 0, 1) := by decide +kernel
theorem dX6_group_134 : decode cX6_group 134 = .ok (.getfield 10, 3) := by decide +kernel
theorem dX6_group_137 : decode cX6_group 137 = .ok (.iload_n 3, 1) := by decide +kernel
theorem dX6_group_138 : decode cX6_group 138 = .ok (.iload 4, 2) := by decide +kernel
theorem dX6_group_140 : decode cX6_group 140 = .ok (.invokevirtual 234, 3) := by decide +kernel
theorem dX6_group_143 : decode cX6_group 143 = .ok (.i2l, 1) := by decide +kernel
theorem dX6_group_144 : decode cX6_group 144 = .ok (.lreturn, 1) := by decide +kernel
set_option maxRecDepth 20000 in
theorem ggX6_difference_X4_hasRow : GoodIn wsX6_difference wsX4_hasRow := goodIn_r _ [11, 12, 39, 40, 41, 42, 43, 44, 45, 46, 47, 48] (by decide +kernel) (by decide +kernel)
set_option maxRecDepth 20000 in
theorem gX6_difference_X4_hasRow : GoodIn wsX6_difference (wsV RX6 125 RX4 yX4_hasRow wsX4_hasRow) := goodIn_app (goodIn_of _ (by decide +kernel)) ggX6_difference_X4_hasRow
set_option maxRecDepth 20000 in
theorem ggX6_difference_X0_clear : GoodIn wsX6_difference wsX0_clear := goodIn_r _ [17, 18, 49, 50] (by decide +kernel) (by decide +kernel)
set_option maxRecDepth 20000 in
theorem gX6_difference_X0_clear : GoodIn wsX6_difference (wsV RX6 240 RX0 yX0_clear wsX0_clear) := goodIn_app (goodIn_of _ (by decide +kernel)) ggX6_difference_X0_clear
set_option maxRecDepth 20000 in
theorem ggX6_difference_X0_put : GoodIn wsX6_difference wsX0_put := goodIn_r _ [22, 18, 23, 49, 50] (by decide +kernel) (by decide +kernel)
set_option maxRecDepth 20000 in
theorem gX6_difference_X0_put : GoodIn wsX6_difference (wsV RX6 243 RX0 yX0_put wsX0_put) := goodIn_app (goodIn_of _ (by decide +kernel)) ggX6_difference_X0_put
set_option maxRecDepth 20000 in
theorem ggX6_difference_X0_raiseOrder : GoodIn wsX6_difference wsX0_raiseOrder := goodIn_r _ [27, 18, 23, 49, 50] (by decide +kernel) (by decide +kernel)
set_option maxRecDepth 20000 in
theorem gX6_difference_X0_raiseOrder : GoodIn wsX6_difference (wsV RX6 247 RX0 yX0_raiseOrder wsX0_raiseOrder) := goodIn_app (goodIn_of _ (by decide +kernel)) ggX6_difference_X0_raiseOrder
set_option maxRecDepth 20000 in
theorem ggX6_difference_X0_leading : GoodIn wsX6_difference wsX0_leading := goodIn_r _ [31, 18, 23, 49, 50] (by decide +kernel) (by decide +kernel)
set_option maxRecDepth 20000 in
theorem gX6_difference_X0_leading : GoodIn wsX6_difference (wsV RX6 250 RX0 yX0_leading wsX0_leading) := goodIn_app (goodIn_of _ (by decide +kernel)) ggX6_difference_X0_leading
theorem dX6_difference_0 : decode cX6_difference 0 = .ok (.iload_n 1, 1) := by decide +kernel
theorem dX6_difference_1 : decode cX6_difference 1 = .ok (.ifCond .lt 9, 3) := by decide +kernel
theorem dX6_difference_4 : decode cX6_difference 4 = .ok (.iload_n 1, 1) := by decide +kernel
theorem dX6_difference_5 : decode cX6_difference 5 = .ok (.bipush 6, 2) := by decide +kernel
theorem dX6_difference_7 : decode cX6_difference 7 = .ok (.if_icmp .lt 13, 3) := by decide +kernel
theorem dX6_difference_10 : decode cX6_difference 10 = .ok (.new 65, 3) := by decide +kernel
theorem dX6_difference_13 : decode cX6_difference 13 = .ok (.dup, 1) := by decide +kernel
theorem dX6_difference_14 : decode cX6_difference 14 = .ok (.ldc 238, 2) := by decide +kernel
theorem dX6_difference_16 : decode cX6_difference 16 = .ok (.invokespecial 69, 3) := by decide +kernel
theorem dX6_difference_19 : decode cX6_difference 19 = .ok (.athrow, 1) := by decide +kernel
theorem dX6_difference_20 : decode cX6_difference 20 = .ok (.aload_n 0, 1) := by decide +kernel
theorem dX6_difference_21 : decode cX6_difference 21 = .ok (.getfield 10, 3) := by decide +kernel
theorem dX6_difference_24 : decode cX6_difference 24 = .ok (.iload_n 2, 1) := by decide +kernel
theorem dX6_difference_25 : decode cX6_difference 25 = .ok (.invokevirtual 125, 3) := by decide +kernel
theorem dX6_difference_28 : decode cX6_difference 28 = .ok (.ifCond .ne 13, 3) := by decide +kernel
theorem dX6_difference_31 : decode cX6_difference 31 = .ok (.new 100, 3) := by decide +kernel
theorem dX6_difference_34 : decode cX6_difference 34 = .ok (.dup, 1) := by decide +kernel
theorem dX6_difference_35 : decode cX6_difference 35 = .ok (.ldc 128, 2) := by decide +kernel
theorem dX6_difference_37 : decode cX6_difference 37 = .ok (.invokespecial 104, 3) := by decide +kernel
theorem dX6_difference_40 : decode cX6_difference 40 = .ok (.athrow, 1) := by decide +kernel
theorem dX6_difference_41 : decode cX6_difference 41 = .ok (.aload_n 0, 1) := by decide +kernel
theorem dX6_difference_42 : decode cX6_difference 42 = .ok (.getfield 10, 3) := by decide +kernel
theorem dX6_difference_45 : decode cX6_difference 45 = .ok (.iload_n 2, 1) := by decide +kernel
theorem dX6_difference_46 : decode cX6_difference 46 = .ok (.iload_n 1, 1) := by decide +kernel
theorem dX6_difference_47 : decode cX6_difference 47 = .ok (.iadd, 1) := by decide +kernel
theorem dX6_difference_48 : decode cX6_difference 48 = .ok (.invokevirtual 125, 3) := by decide +kernel
theorem dX6_difference_51 : decode cX6_difference 51 = .ok (.ifCond .ne 5, 3) := by decide +kernel
theorem dX6_difference_54 : decode cX6_difference 54 = .ok (.lconst 0, 1) := by decide +kernel
theorem dX6_difference_55 : decode cX6_difference 55 = .ok (.lreturn, 1) := by decide +kernel
theorem dX6_difference_56 : decode cX6_difference 56 = .ok (.aload_n 0, 1) := by decide +kernel
theorem dX6_difference_57 : decode cX6_difference 57 = .ok (.getfield 33, 3) := by decide +kernel
theorem dX6_difference_60 : decode cX6_difference 60 = .ok (.invokevirtual 240, 3) := by decide +kernel
theorem dX6_difference_63 : decode cX6_difference 63 = .ok (.iload_n 2, 1) := by decide +kernel
theorem dX6_difference_64 : decode cX6_difference 64 = .ok (.istore_n 3, 1) := by decide +kernel
theorem dX6_difference_65 : decode cX6_difference 65 = .ok (.iload_n 3, 1) := by decide +kernel
theorem dX6_difference_66 : decode cX6_difference 66 = .ok (.iload_n 2, 1) := by decide +kernel
theorem dX6_difference_67 : decode cX6_difference 67 = .ok (.iload_n 1, 1) := by decide +kernel
theorem dX6_difference_68 : decode cX6_difference 68 = .ok (.iadd, 1) := by decide +kernel
theorem dX6_difference_69 : decode cX6_difference 69 = .ok (.if_icmp .gt 25, 3) := by decide +kernel
theorem dX6_difference_72 : decode cX6_difference 72 = .ok (.aload_n 0, 1) := by decide +kernel
theorem dX6_difference_73 : decode cX6_difference 73 = .ok (.getfield 33, 3) := by decide +kernel
theorem dX6_difference_76 : decode cX6_difference 76 = .ok (.aload_n 0, 1) := by decide +kernel
theorem dX6_difference_77 : decode cX6_difference 77 = .ok (.getfield 10, 3) := by decide +kernel
theorem dX6_difference_80 : decode cX6_difference 80 = .ok (.getfield 201, 3) := by decide +kernel
theorem dX6_difference_83 : decode cX6_difference 83 = .ok (.iload_n 3, 1) := by decide +kernel
theorem dX6_difference_84 : decode cX6_difference 84 = .ok (.laload, 1) := by decide +kernel
theorem dX6_difference_85 : decode cX6_difference 85 = .ok (.invokevirtual 243, 3) := by decide +kernel
theorem dX6_difference_88 : decode cX6_difference 88 = .ok (.iinc 3 1, 3) := by decide +kernel
theorem dX6_difference_91 : decode cX6_difference 91 = .ok (.goto (-26), 3) := by decide +kernel
theorem dX6_difference_94 : decode cX6_difference 94 = .ok (.iconst 0, 1) := by decide +kernel
theorem dX6_difference_95 : decode cX6_difference 95 = .ok (.istore_n 3, 1) := by decide +kernel
theorem dX6_difference_96 : decode cX6_difference 96 = .ok (.iload_n 3, 1) := by decide +kernel
theorem dX6_difference_97 : decode cX6_difference 97 = .ok (.iload_n 1, 1) := by decide +kernel
theorem dX6_difference_98 : decode cX6_difference 98 = .ok (.if_icmp .ge 16, 3) := by decide +kernel
theorem dX6_difference_101 : decode cX6_difference 101 = .ok (.aload_n 0, 1) := by decide +kernel
theorem dX6_difference_102 : decode cX6_difference 102 = .ok (.getfield 33, 3) := by decide +kernel
theorem dX6_difference_105 : decode cX6_difference 105 = .ok (.invokevirtual 247, 3) := by decide +kernel
theorem dX6_difference_108 : decode cX6_difference 108 = .ok (.iinc 3 1, 3) := by decide +kernel
theorem dX6_difference_111 : decode cX6_difference 111 = .ok (.goto (-15), 3) := by decide +kernel
theorem dX6_difference_114 : decode cX6_difference 114 = .ok (.aload_n 0, 1) := by decide +kernel
theorem dX6_difference_115 : decode cX6_difference 115 = .ok (.getfield 33, 3) := by decide +kernel
theorem dX6_difference_118 : decode cX6_difference 118 = .ok (.invokevirtual 250, 3) := by decide +kernel
theorem dX6_difference_121 : decode cX6_difference 121 = .ok (.lreturn, 1) := by decide +kernel
set_option maxRecDepth 20000 in
theorem ggX6_wear_X6_isDigit : GoodIn wsX6_wear wsX6_isDigit := goodIn_r _ [7] (by decide +kernel) (by decide +kernel)
set_option maxRecDepth 20000 in
theorem gX6_wear_X6_isDigit : GoodIn wsX6_wear (va_wsS RX6 133 yX6_isDigit wsX6_isDigit) := goodIn_app (goodIn_of _ (by decide +kernel)) ggX6_wear_X6_isDigit
theorem dX6_wear_0 : decode cX6_wear 0 = .ok (.iload_n 1, 1) := by decide +kernel
theorem dX6_wear_1 : decode cX6_wear 1 = .ok (.invokestatic 133, 3) := by decide +kernel
theorem dX6_wear_4 : decode cX6_wear 4 = .ok (.ifCond .ne 13, 3) := by decide +kernel
theorem dX6_wear_7 : decode cX6_wear 7 = .ok (.new 100, 3) := by decide +kernel
theorem dX6_wear_10 : decode cX6_wear 10 = .ok (.dup, 1) := by decide +kernel
theorem dX6_wear_11 : decode cX6_wear 11 = .ok (.ldc 136, 2) := by decide +kernel
theorem dX6_wear_13 : decode cX6_wear 13 = .ok (.invokespecial 104, 3) := by decide +kernel
theorem dX6_wear_16 : decode cX6_wear 16 = .ok (.athrow, 1) := by decide +kernel
theorem dX6_wear_17 : decode cX6_wear 17 = .ok (.aload_n 0, 1) := by decide +kernel
theorem dX6_wear_18 : decode cX6_wear 18 = .ok (.getfield 10, 3) := by decide +kernel
theorem dX6_wear_21 : decode cX6_wear 21 = .ok (.getfield 138, 3) := by decide +kernel
theorem dX6_wear_24 : decode cX6_wear 24 = .ok (.getfield 254, 3) := by decide +kernel
theorem dX6_wear_27 : decode cX6_wear 27 = .ok (.iload_n 1, 1) := by decide +kernel
theorem dX6_wear_28 : decode cX6_wear 28 = .ok (.iaload, 1) := by decide +kernel
theorem dX6_wear_29 : decode cX6_wear 29 = .ok (.ireturn, 1) := by decide +kernel
set_option maxRecDepth 20000 in
theorem ggX6_count_X4_wrongRows : GoodIn wsX6_count wsX4_wrongRows := goodIn_r _ [9, 10, 11, 12, 8, 13, 14, 15, 98, 99, 100, 101, 102, 103, 104, 105, 106, 107] (by decide +kernel) (by decide +kernel)
set_option maxRecDepth 20000 in
theorem gX6_count_X4_wrongRows : GoodIn wsX6_count (wsV RX6 234 RX4 yX4_wrongRows wsX4_wrongRows) := goodIn_app (goodIn_of _ (by decide +kernel)) ggX6_count_X4_wrongRows
set_option maxRecDepth 20000 in
theorem ggX6_count_X4_firstWrongRow : GoodIn wsX6_count wsX4_firstWrongRow := goodIn_r _ [19, 20, 10, 11, 12, 8, 13, 14, 15, 98, 99, 100, 101, 102, 103, 104, 105, 106, 107] (by decide +kernel) (by decide +kernel)
set_option maxRecDepth 20000 in
theorem gX6_count_X4_firstWrongRow : GoodIn wsX6_count (wsV RX6 259 RX4 yX4_firstWrongRow wsX4_firstWrongRow) := goodIn_app (goodIn_of _ (by decide +kernel)) ggX6_count_X4_firstWrongRow
set_option maxRecDepth 20000 in
theorem ggX6_count_X4_wholeGroups : GoodIn wsX6_count wsX4_wholeGroups := goodIn_r _ [24, 20, 98, 99, 100, 101, 102, 103, 104, 105, 106, 107] (by decide +kernel) (by decide +kernel)
set_option maxRecDepth 20000 in
theorem gX6_count_X4_wholeGroups : GoodIn wsX6_count (wsV RX6 220 RX4 yX4_wholeGroups wsX4_wholeGroups) := goodIn_app (goodIn_of _ (by decide +kernel)) ggX6_count_X4_wholeGroups
set_option maxRecDepth 20000 in
theorem ggX6_count_X4_groupsFoundWrong : GoodIn wsX6_count wsX4_groupsFoundWrong := goodIn_r _ [28, 29, 30, 22, 23, 8, 24, 20, 31, 32, 33, 34, 35, 36, 37, 38, 14, 39, 40, 41, 42, 15, 98, 99, 100, 101, 102, 103, 104, 105, 106, 107] (by decide +kernel) (by decide +kernel)
set_option maxRecDepth 20000 in
theorem gX6_count_X4_groupsFoundWrong : GoodIn wsX6_count (wsV RX6 262 RX4 yX4_groupsFoundWrong wsX4_groupsFoundWrong) := goodIn_app (goodIn_of _ (by decide +kernel)) ggX6_count_X4_groupsFoundWrong
set_option maxRecDepth 20000 in
theorem ggX6_count_X4_blurredDigits : GoodIn wsX6_count wsX4_blurredDigits := goodIn_r _ [46, 20, 47, 98, 99, 100, 101, 102, 103, 104, 105, 106, 107] (by decide +kernel) (by decide +kernel)
set_option maxRecDepth 20000 in
theorem gX6_count_X4_blurredDigits : GoodIn wsX6_count (wsV RX6 265 RX4 yX4_blurredDigits wsX4_blurredDigits) := goodIn_app (goodIn_of _ (by decide +kernel)) ggX6_count_X4_blurredDigits
set_option maxRecDepth 20000 in
theorem ggX6_count_X6_wrongRegisters : GoodIn wsX6_count wsX6_wrongRegisters := goodIn_r _ [52, 53, 3, 54, 55, 56, 51, 57, 58, 59, 60, 61, 62, 63, 64, 65, 66, 67, 68, 69, 70, 71, 72, 8, 73, 74, 75, 76, 77, 78, 79, 80, 81, 82, 83, 84, 85, 86, 87, 88, 89, 90, 91, 92, 93, 94, 95, 96, 97, 98, 99, 100, 101, 102, 103, 104, 105, 106, 107, 113, 114, 115] (by decide +kernel) (by decide +kernel)
set_option maxRecDepth 20000 in
theorem gX6_count_X6_wrongRegisters : GoodIn wsX6_count (wsV RX6 121 RX6 yX6_wrongRegisters wsX6_wrongRegisters) := goodIn_app (goodIn_of _ (by decide +kernel)) ggX6_count_X6_wrongRegisters
theorem dX6_count_0 : decode cX6_count 0 = .ok (.iload_n 1, 1) := by decide +kernel
theorem dX6_count_1 : decode cX6_count 1 = .ok (.ifCond .lt 9, 3) := by decide +kernel
theorem dX6_count_4 : decode cX6_count 4 = .ok (.iload_n 1, 1) := by decide +kernel
theorem dX6_count_5 : decode cX6_count 5 = .ok (.bipush 12, 2) := by decide +kernel
theorem dX6_count_7 : decode cX6_count 7 = .ok (.if_icmp .lt 14, 3) := by decide +kernel
theorem dX6_count_10 : decode cX6_count 10 = .ok (.new 65, 3) := by decide +kernel
theorem dX6_count_13 : decode cX6_count 13 = .ok (.dup, 1) := by decide +kernel
theorem dX6_count_14 : decode cX6_count 14 = .ok (.ldc_w 257, 3) := by decide +kernel
theorem dX6_count_17 : decode cX6_count 17 = .ok (.invokespecial 69, 3) := by decide +kernel
theorem dX6_count_20 : decode cX6_count 20 = .ok (.athrow, 1) := by decide +kernel
theorem dX6_count_21 : decode cX6_count 21 = .ok (.iload_n 1, 1) := by decide +kernel
theorem dX6_count_22 : decode cX6_count 22 = .ok (.tableswitch 161 0 10 #[58, 66, 74, 82, 98, 106, 121, 129, 137, 142, 153], 58) := by decide +kernel
theorem dX6_count_80 : decode cX6_count 80 = .ok (.aload_n 0, 1) := by decide +kernel
theorem dX6_count_81 : decode cX6_count 81 = .ok (.getfield 10, 3) := by decide +kernel
theorem dX6_count_84 : decode cX6_count 84 = .ok (.getfield 54, 3) := by decide +kernel
theorem dX6_count_87 : decode cX6_count 87 = .ok (.ireturn, 1) := by decide +kernel
theorem dX6_count_88 : decode cX6_count 88 = .ok (.aload_n 0, 1) := by decide +kernel
theorem dX6_count_89 : decode cX6_count 89 = .ok (.getfield 10, 3) := by decide +kernel
theorem dX6_count_92 : decode cX6_count 92 = .ok (.getfield 79, 3) := by decide +kernel
theorem dX6_count_95 : decode cX6_count 95 = .ok (.ireturn, 1) := by decide +kernel
theorem dX6_count_96 : decode cX6_count 96 = .ok (.aload_n 0, 1) := by decide +kernel
theorem dX6_count_97 : decode cX6_count 97 = .ok (.getfield 10, 3) := by decide +kernel
theorem dX6_count_100 : decode cX6_count 100 = .ok (.getfield 76, 3) := by decide +kernel
theorem dX6_count_103 : decode cX6_count 103 = .ok (.ireturn, 1) := by decide +kernel
theorem dX6_count_104 : decode cX6_count 104 = .ok (.aload_n 0, 1) := by decide +kernel
theorem dX6_count_105 : decode cX6_count 105 = .ok (.getfield 10, 3) := by decide +kernel
theorem dX6_count_108 : decode cX6_count 108 = .ok (.iconst 0, 1) := by decide +kernel
theorem dX6_count_109 : decode cX6_count 109 = .ok (.aload_n 0, 1) := by decide +kernel
theorem dX6_count_110 : decode cX6_count 110 = .ok (.getfield 10, 3) := by decide +kernel
theorem dX6_count_113 : decode cX6_count 113 = .ok (.getfield 76, 3) := by decide +kernel
theorem dX6_count_116 : decode cX6_count 116 = .ok (.invokevirtual 234, 3) := by decide +kernel
theorem dX6_count_119 : decode cX6_count 119 = .ok (.ireturn, 1) := by decide +kernel
theorem dX6_count_120 : decode cX6_count 120 = .ok (.aload_n 0, 1) := by decide +kernel
theorem dX6_count_121 : decode cX6_count 121 = .ok (.getfield 10, 3) := by decide +kernel
theorem dX6_count_124 : decode cX6_count 124 = .ok (.invokevirtual 259, 3) := by decide +kernel
theorem dX6_count_127 : decode cX6_count 127 = .ok (.ireturn, 1) := by decide +kernel
theorem dX6_count_128 : decode cX6_count 128 = .ok (.aload_n 0, 1) := by decide +kernel
theorem dX6_count_129 : decode cX6_count 129 = .ok (.getfield 10, 3) := by decide +kernel
theorem dX6_count_132 : decode cX6_count 132 = .ok (.aload_n 0, 1) := by decide +kernel
theorem dX6_count_133 : decode cX6_count 133 = .ok (.getfield 10, 3) := by decide +kernel
theorem dX6_count_136 : decode cX6_count 136 = .ok (.getfield 154, 3) := by decide +kernel
theorem dX6_count_139 : decode cX6_count 139 = .ok (.invokevirtual 220, 3) := by decide +kernel
theorem dX6_count_142 : decode cX6_count 142 = .ok (.ireturn, 1) := by decide +kernel
theorem dX6_count_143 : decode cX6_count 143 = .ok (.aload_n 0, 1) := by decide +kernel
theorem dX6_count_144 : decode cX6_count 144 = .ok (.getfield 10, 3) := by decide +kernel
theorem dX6_count_147 : decode cX6_count 147 = .ok (.invokevirtual 262, 3) := by decide +kernel
theorem dX6_count_150 : decode cX6_count 150 = .ok (.ireturn, 1) := by decide +kernel
theorem dX6_count_151 : decode cX6_count 151 = .ok (.aload_n 0, 1) := by decide +kernel
theorem dX6_count_152 : decode cX6_count 152 = .ok (.getfield 10, 3) := by decide +kernel
theorem dX6_count_155 : decode cX6_count 155 = .ok (.invokevirtual 265, 3) := by decide +kernel
theorem dX6_count_158 : decode cX6_count 158 = .ok (.ireturn, 1) := by decide +kernel
theorem dX6_count_159 : decode cX6_count 159 = .ok (.aload_n 0, 1) := by decide +kernel
theorem dX6_count_160 : decode cX6_count 160 = .ok (.invokevirtual 121, 3) := by decide +kernel
theorem dX6_count_163 : decode cX6_count 163 = .ok (.ireturn, 1) := by decide +kernel
theorem dX6_count_164 : decode cX6_count 164 = .ok (.aload_n 0, 1) := by decide +kernel
theorem dX6_count_165 : decode cX6_count 165 = .ok (.getfield 10, 3) := by decide +kernel
theorem dX6_count_168 : decode cX6_count 168 = .ok (.getfield 138, 3) := by decide +kernel
theorem dX6_count_171 : decode cX6_count 171 = .ok (.getfield 268, 3) := by decide +kernel
theorem dX6_count_174 : decode cX6_count 174 = .ok (.ireturn, 1) := by decide +kernel
theorem dX6_count_175 : decode cX6_count 175 = .ok (.aload_n 0, 1) := by decide +kernel
theorem dX6_count_176 : decode cX6_count 176 = .ok (.getfield 10, 3) := by decide +kernel
theorem dX6_count_179 : decode cX6_count 179 = .ok (.getfield 271, 3) := by decide +kernel
theorem dX6_count_182 : decode cX6_count 182 = .ok (.ireturn, 1) := by decide +kernel
theorem dX6_count_183 : decode cX6_count 183 = .ok (.aload_n 0, 1) := by decide +kernel
theorem dX6_count_184 : decode cX6_count 184 = .ok (.getfield 19, 3) := by decide +kernel
theorem dX6_count_187 : decode cX6_count 187 = .ok (.getfield 191, 3) := by decide +kernel
theorem dX6_count_190 : decode cX6_count 190 = .ok (.ireturn, 1) := by decide +kernel
set_option maxRecDepth 20000 in
theorem ggX6_setting_X6_isSetting : GoodIn wsX6_setting wsX6_isSetting := goodIn_r _ [6] (by decide +kernel) (by decide +kernel)
set_option maxRecDepth 20000 in
theorem gX6_setting_X6_isSetting : GoodIn wsX6_setting (va_wsS RX6 144 yX6_isSetting wsX6_isSetting) := goodIn_app (goodIn_of _ (by decide +kernel)) ggX6_setting_X6_isSetting
set_option maxRecDepth 20000 in
theorem ggX6_setting_X6_settingNow : GoodIn wsX6_setting wsX6_settingNow := goodIn_r _ [10, 11, 12, 13, 14, 15, 16, 17, 18, 19, 20, 21, 22, 23, 24, 25, 26, 27, 28, 29, 30, 31] (by decide +kernel) (by decide +kernel)
set_option maxRecDepth 20000 in
theorem gX6_setting_X6_settingNow : GoodIn wsX6_setting (wsV RX6 151 RX6 yX6_settingNow wsX6_settingNow) := goodIn_app (goodIn_of _ (by decide +kernel)) ggX6_setting_X6_settingNow
theorem dX6_setting_0 : decode cX6_setting 0 = .ok (.iload_n 1, 1) := by decide +kernel
theorem dX6_setting_1 : decode cX6_setting 1 = .ok (.invokestatic 144, 3) := by decide +kernel
theorem dX6_setting_4 : decode cX6_setting 4 = .ok (.ifCond .ne 13, 3) := by decide +kernel
theorem dX6_setting_7 : decode cX6_setting 7 = .ok (.new 100, 3) := by decide +kernel
theorem dX6_setting_10 : decode cX6_setting 10 = .ok (.dup, 1) := by decide +kernel
theorem dX6_setting_11 : decode cX6_setting 11 = .ok (.ldc 147, 2) := by decide +kernel
theorem dX6_setting_13 : decode cX6_setting 13 = .ok (.invokespecial 104, 3) := by decide +kernel
theorem dX6_setting_16 : decode cX6_setting 16 = .ok (.athrow, 1) := by decide +kernel
theorem dX6_setting_17 : decode cX6_setting 17 = .ok (.aload_n 0, 1) := by decide +kernel
theorem dX6_setting_18 : decode cX6_setting 18 = .ok (.iload_n 1, 1) := by decide +kernel
theorem dX6_setting_19 : decode cX6_setting 19 = .ok (.invokevirtual 151, 3) := by decide +kernel
theorem dX6_setting_22 : decode cX6_setting 22 = .ok (.ireturn, 1) := by decide +kernel
set_option maxRecDepth 20000 in
theorem ggX6_guess_X4_firstWrongRow : GoodIn wsX6_guess wsX4_firstWrongRow := goodIn_r _ [10, 11, 12, 13, 14, 9, 15, 16, 17, 57, 58, 59, 60, 61, 62, 63, 64, 65, 66] (by decide +kernel) (by decide +kernel)
set_option maxRecDepth 20000 in
theorem gX6_guess_X4_firstWrongRow : GoodIn wsX6_guess (wsV RX6 259 RX4 yX4_firstWrongRow wsX4_firstWrongRow) := goodIn_app (goodIn_of _ (by decide +kernel)) ggX6_guess_X4_firstWrongRow
set_option maxRecDepth 20000 in
theorem ggX6_guess_X6_findSlippedRegister : GoodIn wsX6_guess wsX6_findSlippedRegister := goodIn_r _ [22, 4, 3, 23, 24, 25, 26, 27, 28, 29, 30, 31, 9, 32, 16, 17, 33, 34, 35, 36, 37, 38, 39, 40, 41, 42, 43, 44, 45, 50, 51, 52, 53, 54, 55, 56, 57, 58, 59, 60, 61, 62, 63, 64, 65, 66, 67, 68] (by decide +kernel) (by decide +kernel)
set_option maxRecDepth 20000 in
theorem gX6_guess_X6_findSlippedRegister : GoodIn wsX6_guess (wsV RX6 276 RX6 yX6_findSlippedRegister wsX6_findSlippedRegister) := goodIn_app (goodIn_of _ (by decide +kernel)) ggX6_guess_X6_findSlippedRegister
set_option maxRecDepth 20000 in
theorem ggX6_guess_X0_leading : GoodIn wsX6_guess wsX0_leading := goodIn_r _ [49, 28, 37, 67, 68] (by decide +kernel) (by decide +kernel)
set_option maxRecDepth 20000 in
theorem gX6_guess_X0_leading : GoodIn wsX6_guess (wsV RX6 250 RX0 yX0_leading wsX0_leading) := goodIn_app (goodIn_of _ (by decide +kernel)) ggX6_guess_X0_leading
theorem dX6_guess_0 : decode cX6_guess 0 = .ok (.iload_n 1, 1) := by decide +kernel
theorem dX6_guess_1 : decode cX6_guess 1 = .ok (.ifCond .lt 8, 3) := by decide +kernel
theorem dX6_guess_4 : decode cX6_guess 4 = .ok (.iload_n 1, 1) := by decide +kernel
theorem dX6_guess_5 : decode cX6_guess 5 = .ok (.iconst 3, 1) := by decide +kernel
theorem dX6_guess_6 : decode cX6_guess 6 = .ok (.if_icmp .lt 14, 3) := by decide +kernel
theorem dX6_guess_9 : decode cX6_guess 9 = .ok (.new 65, 3) := by decide +kernel
theorem dX6_guess_12 : decode cX6_guess 12 = .ok (.dup, 1) := by decide +kernel
theorem dX6_guess_13 : decode cX6_guess 13 = .ok (.ldc_w 274, 3) := by decide +kernel
theorem dX6_guess_16 : decode cX6_guess 16 = .ok (.invokespecial 69, 3) := by decide +kernel
theorem dX6_guess_19 : decode cX6_guess 19 = .ok (.athrow, 1) := by decide +kernel
theorem dX6_guess_20 : decode cX6_guess 20 = .ok (.aload_n 0, 1) := by decide +kernel
theorem dX6_guess_21 : decode cX6_guess 21 = .ok (.getfield 10, 3) := by decide +kernel
theorem dX6_guess_24 : decode cX6_guess 24 = .ok (.invokevirtual 259, 3) := by decide +kernel
theorem dX6_guess_27 : decode cX6_guess 27 = .ok (.istore_n 2, 1) := by decide +kernel
theorem dX6_guess_28 : decode cX6_guess 28 = .ok (.iload_n 2, 1) := by decide +kernel
theorem dX6_guess_29 : decode cX6_guess 29 = .ok (.iconst (-1), 1) := by decide +kernel
theorem dX6_guess_30 : decode cX6_guess 30 = .ok (.if_icmp .ne 7, 3) := by decide +kernel
theorem dX6_guess_33 : decode cX6_guess 33 = .ok (.iconst (-1), 1) := by decide +kernel
theorem dX6_guess_34 : decode cX6_guess 34 = .ok (.goto 8, 3) := by decide +kernel
theorem dX6_guess_37 : decode cX6_guess 37 = .ok (.aload_n 0, 1) := by decide +kernel
theorem dX6_guess_38 : decode cX6_guess 38 = .ok (.iload_n 2, 1) := by decide +kernel
theorem dX6_guess_39 : decode cX6_guess 39 = .ok (.invokevirtual 276, 3) := by decide +kernel
theorem dX6_guess_42 : decode cX6_guess 42 = .ok (.istore_n 3, 1) := by decide +kernel
theorem dX6_guess_43 : decode cX6_guess 43 = .ok (.iload_n 1, 1) := by decide +kernel
theorem dX6_guess_44 : decode cX6_guess 44 = .ok (.iconst 1, 1) := by decide +kernel
theorem dX6_guess_45 : decode cX6_guess 45 = .ok (.if_icmp .ne 20, 3) := by decide +kernel
theorem dX6_guess_48 : decode cX6_guess 48 = .ok (.iload_n 3, 1) := by decide +kernel
theorem dX6_guess_49 : decode cX6_guess 49 = .ok (.iconst (-1), 1) := by decide +kernel
theorem dX6_guess_50 : decode cX6_guess 50 = .ok (.if_icmp .ne 7, 3) := by decide +kernel
theorem dX6_guess_53 : decode cX6_guess 53 = .ok (.lconst 0, 1) := by decide +kernel
theorem dX6_guess_54 : decode cX6_guess 54 = .ok (.goto 10, 3) := by decide +kernel
theorem dX6_guess_57 : decode cX6_guess 57 = .ok (.aload_n 0, 1) := by decide +kernel
theorem dX6_guess_58 : decode cX6_guess 58 = .ok (.getfield 33, 3) := by decide +kernel
theorem dX6_guess_61 : decode cX6_guess 61 = .ok (.invokevirtual 250, 3) := by decide +kernel
theorem dX6_guess_64 : decode cX6_guess 64 = .ok (.lreturn, 1) := by decide +kernel
theorem dX6_guess_65 : decode cX6_guess 65 = .ok (.iload_n 3, 1) := by decide +kernel
theorem dX6_guess_66 : decode cX6_guess 66 = .ok (.iconst (-1), 1) := by decide +kernel
theorem dX6_guess_67 : decode cX6_guess 67 = .ok (.if_icmp .ne 7, 3) := by decide +kernel
theorem dX6_guess_70 : decode cX6_guess 70 = .ok (.ldc2_w 279, 3) := by decide +kernel
theorem dX6_guess_73 : decode cX6_guess 73 = .ok (.lreturn, 1) := by decide +kernel
theorem dX6_guess_74 : decode cX6_guess 74 = .ok (.iload_n 1, 1) := by decide +kernel
theorem dX6_guess_75 : decode cX6_guess 75 = .ok (.ifCond .ne 8, 3) := by decide +kernel
theorem dX6_guess_78 : decode cX6_guess 78 = .ok (.iload_n 3, 1) := by decide +kernel
theorem dX6_guess_79 : decode cX6_guess 79 = .ok (.i2l, 1) := by decide +kernel
theorem dX6_guess_80 : decode cX6_guess 80 = .ok (.goto 7, 3) := by decide +kernel
theorem dX6_guess_83 : decode cX6_guess 83 = .ok (.iload_n 2, 1) := by decide +kernel
theorem dX6_guess_84 : decode cX6_guess 84 = .ok (.iload_n 3, 1) := by decide +kernel
theorem dX6_guess_85 : decode cX6_guess 85 = .ok (.isub, 1) := by decide +kernel
theorem dX6_guess_86 : decode cX6_guess 86 = .ok (.i2l, 1) := by decide +kernel
theorem dX6_guess_87 : decode cX6_guess 87 = .ok (.lreturn, 1) := by decide +kernel
set_option maxRecDepth 20000 in
theorem ggX6_ifPrinted_X2_copyFrom : GoodIn wsX6_ifPrinted wsX2_copyFrom := goodIn_r _ [10, 11, 56] (by decide +kernel) (by decide +kernel)
set_option maxRecDepth 20000 in
theorem gX6_ifPrinted_X2_copyFrom : GoodIn wsX6_ifPrinted (wsV RX6 283 RX2 yX2_copyFrom wsX2_copyFrom) := goodIn_app (goodIn_of _ (by decide +kernel)) ggX6_ifPrinted_X2_copyFrom
set_option maxRecDepth 20000 in
theorem ggX6_ifPrinted_X5_copyFrom : GoodIn wsX6_ifPrinted wsX5_copyFrom := goodIn_r _ [16, 17, 18, 19, 57, 58, 59] (by decide +kernel) (by decide +kernel)
set_option maxRecDepth 20000 in
theorem gX6_ifPrinted_X5_copyFrom : GoodIn wsX6_ifPrinted (wsV RX6 286 RX5 yX5_copyFrom wsX5_copyFrom) := goodIn_app (goodIn_of _ (by decide +kernel)) ggX6_ifPrinted_X5_copyFrom
set_option maxRecDepth 20000 in
theorem ggX6_ifPrinted_X2_nextNumber : GoodIn wsX6_ifPrinted wsX2_nextNumber := goodIn_r _ [23, 11, 56] (by decide +kernel) (by decide +kernel)
set_option maxRecDepth 20000 in
theorem gX6_ifPrinted_X2_nextNumber : GoodIn wsX6_ifPrinted (wsV RX6 289 RX2 yX2_nextNumber wsX2_nextNumber) := goodIn_app (goodIn_of _ (by decide +kernel)) ggX6_ifPrinted_X2_nextNumber
set_option maxRecDepth 20000 in
theorem ggX6_ifPrinted_X5_printDigits : GoodIn wsX6_ifPrinted wsX5_printDigits := goodIn_r _ [27, 28, 17, 19, 18, 57, 58, 59] (by decide +kernel) (by decide +kernel)
set_option maxRecDepth 20000 in
theorem gX6_ifPrinted_X5_printDigits : GoodIn wsX6_ifPrinted (wsV RX6 292 RX5 yX5_printDigits wsX5_printDigits) := goodIn_app (goodIn_of _ (by decide +kernel)) ggX6_ifPrinted_X5_printDigits
set_option maxRecDepth 20000 in
theorem ggX6_ifPrinted_X4_reckonRight : GoodIn wsX6_ifPrinted wsX4_reckonRight := goodIn_r _ [33, 34, 35, 36, 37, 32, 38, 46, 47, 48, 49, 50, 51, 52, 53, 54, 55] (by decide +kernel) (by decide +kernel)
set_option maxRecDepth 20000 in
theorem gX6_ifPrinted_X4_reckonRight : GoodIn wsX6_ifPrinted (wsV RX6 296 RX4 yX4_reckonRight wsX4_reckonRight) := goodIn_app (goodIn_of _ (by decide +kernel)) ggX6_ifPrinted_X4_reckonRight
theorem dX6_ifPrinted_0 : decode cX6_ifPrinted 0 = .ok (.iload_n 1, 1) := by decide +kernel
theorem dX6_ifPrinted_1 : decode cX6_ifPrinted 1 = .ok (.iconst 1, 1) := by decide +kernel
theorem dX6_ifPrinted_2 : decode cX6_ifPrinted 2 = .ok (.if_icmp .lt 18, 3) := by decide +kernel
theorem dX6_ifPrinted_5 : decode cX6_ifPrinted 5 = .ok (.iload_n 1, 1) := by decide +kernel
theorem dX6_ifPrinted_6 : decode cX6_ifPrinted 6 = .ok (.bipush 40, 2) := by decide +kernel
theorem dX6_ifPrinted_8 : decode cX6_ifPrinted 8 = .ok (.if_icmp .gt 12, 3) := by decide +kernel
theorem dX6_ifPrinted_11 : decode cX6_ifPrinted 11 = .ok (.iload_n 2, 1) := by decide +kernel
theorem dX6_ifPrinted_12 : decode cX6_ifPrinted 12 = .ok (.ifCond .lt 8, 3) := by decide +kernel
theorem dX6_ifPrinted_15 : decode cX6_ifPrinted 15 = .ok (.iload_n 2, 1) := by decide +kernel
theorem dX6_ifPrinted_16 : decode cX6_ifPrinted 16 = .ok (.iconst 3, 1) := by decide +kernel
theorem dX6_ifPrinted_17 : decode cX6_ifPrinted 17 = .ok (.if_icmp .lt 14, 3) := by decide +kernel
theorem dX6_ifPrinted_20 : decode cX6_ifPrinted 20 = .ok (.new 65, 3) := by decide +kernel
theorem dX6_ifPrinted_23 : decode cX6_ifPrinted 23 = .ok (.dup, 1) := by decide +kernel
theorem dX6_ifPrinted_24 : decode cX6_ifPrinted 24 = .ok (.ldc_w 281, 3) := by decide +kernel
theorem dX6_ifPrinted_27 : decode cX6_ifPrinted 27 = .ok (.invokespecial 69, 3) := by decide +kernel
theorem dX6_ifPrinted_30 : decode cX6_ifPrinted 30 = .ok (.athrow, 1) := by decide +kernel
theorem dX6_ifPrinted_31 : decode cX6_ifPrinted 31 = .ok (.aload_n 0, 1) := by decide +kernel
theorem dX6_ifPrinted_32 : decode cX6_ifPrinted 32 = .ok (.getfield 44, 3) := by decide +kernel
theorem dX6_ifPrinted_35 : decode cX6_ifPrinted 35 = .ok (.aload_n 0, 1) := by decide +kernel
theorem dX6_ifPrinted_36 : decode cX6_ifPrinted 36 = .ok (.getfield 10, 3) := by decide +kernel
theorem dX6_ifPrinted_39 : decode cX6_ifPrinted 39 = .ok (.getfield 58, 3) := by decide +kernel
theorem dX6_ifPrinted_42 : decode cX6_ifPrinted 42 = .ok (.invokevirtual 283, 3) := by decide +kernel
theorem dX6_ifPrinted_45 : decode cX6_ifPrinted 45 = .ok (.aload_n 0, 1) := by decide +kernel
theorem dX6_ifPrinted_46 : decode cX6_ifPrinted 46 = .ok (.getfield 50, 3) := by decide +kernel
theorem dX6_ifPrinted_49 : decode cX6_ifPrinted 49 = .ok (.aload_n 0, 1) := by decide +kernel
theorem dX6_ifPrinted_50 : decode cX6_ifPrinted 50 = .ok (.getfield 10, 3) := by decide +kernel
theorem dX6_ifPrinted_53 : decode cX6_ifPrinted 53 = .ok (.getfield 138, 3) := by decide +kernel
theorem dX6_ifPrinted_56 : decode cX6_ifPrinted 56 = .ok (.invokevirtual 286, 3) := by decide +kernel
theorem dX6_ifPrinted_59 : decode cX6_ifPrinted 59 = .ok (.lconst 0, 1) := by decide +kernel
theorem dX6_ifPrinted_60 : decode cX6_ifPrinted 60 = .ok (.lstore_n 3, 1) := by decide +kernel
theorem dX6_ifPrinted_61 : decode cX6_ifPrinted 61 = .ok (.iconst 0, 1) := by decide +kernel
theorem dX6_ifPrinted_62 : decode cX6_ifPrinted 62 = .ok (.istore 5, 2) := by decide +kernel
theorem dX6_ifPrinted_64 : decode cX6_ifPrinted 64 = .ok (.iconst 0, 1) := by decide +kernel
theorem dX6_ifPrinted_65 : decode cX6_ifPrinted 65 = .ok (.istore 6, 2) := by decide +kernel
theorem dX6_ifPrinted_67 : decode cX6_ifPrinted 67 = .ok (.iconst 0, 1) := by decide +kernel
theorem dX6_ifPrinted_68 : decode cX6_ifPrinted 68 = .ok (.istore 7, 2) := by decide +kernel
theorem dX6_ifPrinted_70 : decode cX6_ifPrinted 70 = .ok (.iload 7, 2) := by decide +kernel
theorem dX6_ifPrinted_72 : decode cX6_ifPrinted 72 = .ok (.iload_n 1, 1) := by decide +kernel
theorem dX6_ifPrinted_73 : decode cX6_ifPrinted 73 = .ok (.if_icmp .ge 62, 3) := by decide +kernel
theorem dX6_ifPrinted_76 : decode cX6_ifPrinted 76 = .ok (.aload_n 0, 1) := by decide +kernel
theorem dX6_ifPrinted_77 : decode cX6_ifPrinted 77 = .ok (.getfield 44, 3) := by decide +kernel
theorem dX6_ifPrinted_80 : decode cX6_ifPrinted 80 = .ok (.invokevirtual 289, 3) := by decide +kernel
theorem dX6_ifPrinted_83 : decode cX6_ifPrinted 83 = .ok (.lstore_n 3, 1) := by decide +kernel
theorem dX6_ifPrinted_84 : decode cX6_ifPrinted 84 = .ok (.iload 5, 2) := by decide +kernel
theorem dX6_ifPrinted_86 : decode cX6_ifPrinted 86 = .ok (.aload_n 0, 1) := by decide +kernel
theorem dX6_ifPrinted_87 : decode cX6_ifPrinted 87 = .ok (.getfield 50, 3) := by decide +kernel
theorem dX6_ifPrinted_90 : decode cX6_ifPrinted 90 = .ok (.lload_n 3, 1) := by decide +kernel
theorem dX6_ifPrinted_91 : decode cX6_ifPrinted 91 = .ok (.invokevirtual 292, 3) := by decide +kernel
theorem dX6_ifPrinted_94 : decode cX6_ifPrinted 94 = .ok (.iadd, 1) := by decide +kernel
theorem dX6_ifPrinted_95 : decode cX6_ifPrinted 95 = .ok (.istore 5, 2) := by decide +kernel
theorem dX6_ifPrinted_97 : decode cX6_ifPrinted 97 = .ok (.iload 6, 2) := by decide +kernel
theorem dX6_ifPrinted_99 : decode cX6_ifPrinted 99 = .ok (.lload_n 3, 1) := by decide +kernel
theorem dX6_ifPrinted_100 : decode cX6_ifPrinted 100 = .ok (.aload_n 0, 1) := by decide +kernel
theorem dX6_ifPrinted_101 : decode cX6_ifPrinted 101 = .ok (.getfield 10, 3) := by decide +kernel
theorem dX6_ifPrinted_104 : decode cX6_ifPrinted 104 = .ok (.aload_n 0, 1) := by decide +kernel
theorem dX6_ifPrinted_105 : decode cX6_ifPrinted 105 = .ok (.getfield 10, 3) := by decide +kernel
theorem dX6_ifPrinted_108 : decode cX6_ifPrinted 108 = .ok (.getfield 76, 3) := by decide +kernel
theorem dX6_ifPrinted_111 : decode cX6_ifPrinted 111 = .ok (.iload 7, 2) := by decide +kernel
theorem dX6_ifPrinted_113 : decode cX6_ifPrinted 113 = .ok (.iadd, 1) := by decide +kernel
theorem dX6_ifPrinted_114 : decode cX6_ifPrinted 114 = .ok (.invokevirtual 296, 3) := by decide +kernel
theorem dX6_ifPrinted_117 : decode cX6_ifPrinted 117 = .ok (.lcmp, 1) := by decide +kernel
theorem dX6_ifPrinted_118 : decode cX6_ifPrinted 118 = .ok (.ifCond .eq 7, 3) := by decide +kernel
theorem dX6_ifPrinted_121 : decode cX6_ifPrinted 121 = .ok (.iconst 1, 1) := by decide +kernel
theorem dX6_ifPrinted_122 : decode cX6_ifPrinted 122 = .ok (.goto 4, 3) := by decide +kernel
theorem dX6_ifPrinted_125 : decode cX6_ifPrinted 125 = .ok (.iconst 0, 1) := by decide +kernel
theorem dX6_ifPrinted_126 : decode cX6_ifPrinted 126 = .ok (.iadd, 1) := by decide +kernel
theorem dX6_ifPrinted_127 : decode cX6_ifPrinted 127 = .ok (.istore 6, 2) := by decide +kernel
theorem dX6_ifPrinted_129 : decode cX6_ifPrinted 129 = .ok (.iinc 7 1, 3) := by decide +kernel
theorem dX6_ifPrinted_132 : decode cX6_ifPrinted 132 = .ok (.goto (-62), 3) := by decide +kernel
theorem dX6_ifPrinted_135 : decode cX6_ifPrinted 135 = .ok (.iload_n 2, 1) := by decide +kernel
theorem dX6_ifPrinted_136 : decode cX6_ifPrinted 136 = .ok (.ifCond .ne 5, 3) := by decide +kernel
theorem dX6_ifPrinted_139 : decode cX6_ifPrinted 139 = .ok (.lload_n 3, 1) := by decide +kernel
theorem dX6_ifPrinted_140 : decode cX6_ifPrinted 140 = .ok (.lreturn, 1) := by decide +kernel
theorem dX6_ifPrinted_141 : decode cX6_ifPrinted 141 = .ok (.iload_n 2, 1) := by decide +kernel
theorem dX6_ifPrinted_142 : decode cX6_ifPrinted 142 = .ok (.iconst 1, 1) := by decide +kernel
theorem dX6_ifPrinted_143 : decode cX6_ifPrinted 143 = .ok (.if_icmp .ne 9, 3) := by decide +kernel
theorem dX6_ifPrinted_146 : decode cX6_ifPrinted 146 = .ok (.iload 5, 2) := by decide +kernel
theorem dX6_ifPrinted_148 : decode cX6_ifPrinted 148 = .ok (.i2l, 1) := by decide +kernel
theorem dX6_ifPrinted_149 : decode cX6_ifPrinted 149 = .ok (.goto 6, 3) := by decide +kernel
theorem dX6_ifPrinted_152 : decode cX6_ifPrinted 152 = .ok (.iload 6, 2) := by decide +kernel
theorem dX6_ifPrinted_154 : decode cX6_ifPrinted 154 = .ok (.i2l, 1) := by decide +kernel
theorem dX6_ifPrinted_155 : decode cX6_ifPrinted 155 = .ok (.lreturn, 1) := by decide +kernel
set_option maxRecDepth 20000 in
theorem ggX6_bestGroup_X4_findsAllWith : GoodIn wsX6_bestGroup wsX4_findsAllWith := goodIn_r _ [6, 7, 8, 9, 10, 5, 11, 12, 13, 14, 15, 16, 17, 18, 19, 20, 21, 22, 23, 24, 25, 26, 27, 28, 29, 30, 31, 32, 33, 41, 42, 43, 44, 45, 46, 47, 48, 49, 50] (by decide +kernel) (by decide +kernel)
set_option maxRecDepth 20000 in
theorem gX6_bestGroup_X4_findsAllWith : GoodIn wsX6_bestGroup (wsV RX6 299 RX4 yX4_findsAllWith wsX4_findsAllWith) := goodIn_app (goodIn_of _ (by decide +kernel)) ggX6_bestGroup_X4_findsAllWith
theorem dX6_bestGroup_0 : decode cX6_bestGroup 0 = .ok (.bipush 20, 2) := by decide +kernel
theorem dX6_bestGroup_2 : decode cX6_bestGroup 2 = .ok (.istore_n 1, 1) := by decide +kernel
theorem dX6_bestGroup_3 : decode cX6_bestGroup 3 = .ok (.iload_n 1, 1) := by decide +kernel
theorem dX6_bestGroup_4 : decode cX6_bestGroup 4 = .ok (.iconst 1, 1) := by decide +kernel
theorem dX6_bestGroup_5 : decode cX6_bestGroup 5 = .ok (.if_icmp .lt 22, 3) := by decide +kernel
theorem dX6_bestGroup_8 : decode cX6_bestGroup 8 = .ok (.aload_n 0, 1) := by decide +kernel
theorem dX6_bestGroup_9 : decode cX6_bestGroup 9 = .ok (.getfield 10, 3) := by decide +kernel
theorem dX6_bestGroup_12 : decode cX6_bestGroup 12 = .ok (.iload_n 1, 1) := by decide +kernel
theorem dX6_bestGroup_13 : decode cX6_bestGroup 13 = .ok (.invokevirtual 299, 3) := by decide +kernel
theorem dX6_bestGroup_16 : decode cX6_bestGroup 16 = .ok (.ifCond .eq 5, 3) := by decide +kernel
theorem dX6_bestGroup_19 : decode cX6_bestGroup 19 = .ok (.iload_n 1, 1) := by decide +kernel
theorem dX6_bestGroup_20 : decode cX6_bestGroup 20 = .ok (.ireturn, 1) := by decide +kernel
theorem dX6_bestGroup_21 : decode cX6_bestGroup 21 = .ok (.iinc 1 (-1), 3) := by decide +kernel
theorem dX6_bestGroup_24 : decode cX6_bestGroup 24 = .ok (.goto (-21), 3) := by decide +kernel
theorem dX6_bestGroup_27 : decode cX6_bestGroup 27 = .ok (.iconst 0, 1) := by decide +kernel
theorem dX6_bestGroup_28 : decode cX6_bestGroup 28 = .ok (.ireturn, 1) := by decide +kernel
theorem dX6_mostWorn_0 : decode cX6_mostWorn 0 = .ok (.iconst 0, 1) := by decide +kernel
theorem dX6_mostWorn_1 : decode cX6_mostWorn 1 = .ok (.istore_n 1, 1) := by decide +kernel
theorem dX6_mostWorn_2 : decode cX6_mostWorn 2 = .ok (.iconst 1, 1) := by decide +kernel
theorem dX6_mostWorn_3 : decode cX6_mostWorn 3 = .ok (.istore_n 2, 1) := by decide +kernel
theorem dX6_mostWorn_4 : decode cX6_mostWorn 4 = .ok (.iload_n 2, 1) := by decide +kernel
theorem dX6_mostWorn_5 : decode cX6_mostWorn 5 = .ok (.bipush 10, 2) := by decide +kernel
theorem dX6_mostWorn_7 : decode cX6_mostWorn 7 = .ok (.if_icmp .ge 38, 3) := by decide +kernel
theorem dX6_mostWorn_10 : decode cX6_mostWorn 10 = .ok (.aload_n 0, 1) := by decide +kernel
theorem dX6_mostWorn_11 : decode cX6_mostWorn 11 = .ok (.getfield 10, 3) := by decide +kernel
theorem dX6_mostWorn_14 : decode cX6_mostWorn 14 = .ok (.getfield 138, 3) := by decide +kernel
theorem dX6_mostWorn_17 : decode cX6_mostWorn 17 = .ok (.getfield 254, 3) := by decide +kernel
theorem dX6_mostWorn_20 : decode cX6_mostWorn 20 = .ok (.iload_n 2, 1) := by decide +kernel
theorem dX6_mostWorn_21 : decode cX6_mostWorn 21 = .ok (.iaload, 1) := by decide +kernel
theorem dX6_mostWorn_22 : decode cX6_mostWorn 22 = .ok (.aload_n 0, 1) := by decide +kernel
theorem dX6_mostWorn_23 : decode cX6_mostWorn 23 = .ok (.getfield 10, 3) := by decide +kernel
theorem dX6_mostWorn_26 : decode cX6_mostWorn 26 = .ok (.getfield 138, 3) := by decide +kernel
theorem dX6_mostWorn_29 : decode cX6_mostWorn 29 = .ok (.getfield 254, 3) := by decide +kernel
theorem dX6_mostWorn_32 : decode cX6_mostWorn 32 = .ok (.iload_n 1, 1) := by decide +kernel
theorem dX6_mostWorn_33 : decode cX6_mostWorn 33 = .ok (.iaload, 1) := by decide +kernel
theorem dX6_mostWorn_34 : decode cX6_mostWorn 34 = .ok (.if_icmp .le 5, 3) := by decide +kernel
theorem dX6_mostWorn_37 : decode cX6_mostWorn 37 = .ok (.iload_n 2, 1) := by decide +kernel
theorem dX6_mostWorn_38 : decode cX6_mostWorn 38 = .ok (.istore_n 1, 1) := by decide +kernel
theorem dX6_mostWorn_39 : decode cX6_mostWorn 39 = .ok (.iinc 2 1, 3) := by decide +kernel
theorem dX6_mostWorn_42 : decode cX6_mostWorn 42 = .ok (.goto (-38), 3) := by decide +kernel
theorem dX6_mostWorn_45 : decode cX6_mostWorn 45 = .ok (.iload_n 1, 1) := by decide +kernel
theorem dX6_mostWorn_46 : decode cX6_mostWorn 46 = .ok (.ireturn, 1) := by decide +kernel
set_option maxRecDepth 20000 in
theorem ggX6_rightness_X4_faultlessRows : GoodIn wsX6_rightness wsX4_faultlessRows := goodIn_r _ [6, 7, 8, 9, 10, 11, 5, 12, 13, 14, 22, 23, 24, 25, 26, 27, 28, 29, 30, 31] (by decide +kernel) (by decide +kernel)
set_option maxRecDepth 20000 in
theorem gX6_rightness_X4_faultlessRows : GoodIn wsX6_rightness (wsV RX6 302 RX4 yX4_faultlessRows wsX4_faultlessRows) := goodIn_app (goodIn_of _ (by decide +kernel)) ggX6_rightness_X4_faultlessRows
theorem dX6_rightness_0 : decode cX6_rightness 0 = .ok (.aload_n 0, 1) := by decide +kernel
theorem dX6_rightness_1 : decode cX6_rightness 1 = .ok (.getfield 10, 3) := by decide +kernel
theorem dX6_rightness_4 : decode cX6_rightness 4 = .ok (.getfield 76, 3) := by decide +kernel
theorem dX6_rightness_7 : decode cX6_rightness 7 = .ok (.ifCond .ne 5, 3) := by decide +kernel
theorem dX6_rightness_10 : decode cX6_rightness 10 = .ok (.dconst 1, 1) := by decide +kernel
theorem dX6_rightness_11 : decode cX6_rightness 11 = .ok (.dreturn, 1) := by decide +kernel
theorem dX6_rightness_12 : decode cX6_rightness 12 = .ok (.aload_n 0, 1) := by decide +kernel
theorem dX6_rightness_13 : decode cX6_rightness 13 = .ok (.getfield 10, 3) := by decide +kernel
theorem dX6_rightness_16 : decode cX6_rightness 16 = .ok (.invokevirtual 302, 3) := by decide +kernel
theorem dX6_rightness_19 : decode cX6_rightness 19 = .ok (.i2d, 1) := by decide +kernel
theorem dX6_rightness_20 : decode cX6_rightness 20 = .ok (.aload_n 0, 1) := by decide +kernel
theorem dX6_rightness_21 : decode cX6_rightness 21 = .ok (.getfield 10, 3) := by decide +kernel
theorem dX6_rightness_24 : decode cX6_rightness 24 = .ok (.getfield 76, 3) := by decide +kernel
theorem dX6_rightness_27 : decode cX6_rightness 27 = .ok (.i2d, 1) := by decide +kernel
theorem dX6_rightness_28 : decode cX6_rightness 28 = .ok (.ddiv, 1) := by decide +kernel
theorem dX6_rightness_29 : decode cX6_rightness 29 = .ok (.dreturn, 1) := by decide +kernel
set_option maxRecDepth 20000 in
theorem ggX6_digest_X6_digestCounts : GoodIn wsX6_digest wsX6_digestCounts := goodIn_ca (goodIn_r _ [6, 7, 8, 9, 5, 10, 11, 12, 13, 14, 15, 16, 17, 18, 19, 20, 21, 22, 23, 24, 25, 26, 27, 28, 29, 30, 31, 32, 33, 34, 35, 36, 37, 38, 39, 40, 41, 42, 43, 44, 45, 46, 47, 48, 49, 50, 51, 52, 53, 54, 55, 56, 57, 58, 59, 60, 61, 62, 63, 64, 65, 66, 67, 68, 69, 70, 71, 72, 73, 74, 75, 76, 77, 78, 79, 80, 81, 82, 83, 84, 85, 86, 87, 88, 89, 90, 91, 92, 93, 94, 95, 96, 97, 98, 99, 100, 101, 102, 103, 104, 105, 106, 107, 247, 248, 249, 250, 251, 252, 253, 254, 255, 256, 257, 258, 259, 260, 261, 262, 263, 264, 265, 266, 267, 268, 269, 270, 271] (by decide +kernel) (by decide +kernel)) (goodIn_sub (fun _ h => List.mem_cons_of_mem _ (List.mem_append_left _ (List.mem_append_right _ h))) (by decide +kernel))
set_option maxRecDepth 20000 in
theorem gX6_digest_X6_digestCounts : GoodIn wsX6_digest (wsV RX6 307 RX6 yX6_digestCounts wsX6_digestCounts) := goodIn_app (goodIn_of _ (by decide +kernel)) ggX6_digest_X6_digestCounts
set_option maxRecDepth 20000 in
theorem ggX6_digest_X6_digestRegisters : GoodIn wsX6_digest wsX6_digestRegisters := goodIn_r _ [111, 62, 13, 63, 64, 65, 5, 66, 67, 68, 69, 70, 71, 72, 73, 74, 75, 76, 77, 78, 79, 80, 81, 18, 82, 83, 84, 85, 86, 87, 88, 89, 90, 91, 92, 93, 94, 95, 100, 101, 102, 103, 247, 248, 249, 250, 251, 252, 253, 254, 255, 256, 257, 258, 259, 260, 261, 262, 263, 269, 270, 271] (by decide +kernel) (by decide +kernel)
set_option maxRecDepth 20000 in
theorem gX6_digest_X6_digestRegisters : GoodIn wsX6_digest (wsV RX6 311 RX6 yX6_digestRegisters wsX6_digestRegisters) := goodIn_app (goodIn_of _ (by decide +kernel)) ggX6_digest_X6_digestRegisters
set_option maxRecDepth 20000 in
theorem ggX6_digest_X6_digestRows : GoodIn wsX6_digest wsX6_digestRows := goodIn_ca (goodIn_ca (goodIn_r _ [115, 13, 116, 117, 118, 5, 119, 120, 121, 11, 12, 122, 123, 124, 18, 125, 30, 126, 127, 128, 129, 24, 25, 100, 101, 102, 103, 247, 248, 249, 250, 251, 252, 253, 254, 255, 256, 257, 258, 259, 260, 261, 262, 263] (by decide +kernel) (by decide +kernel)) (goodIn_sub (fun _ h => List.mem_cons_of_mem _ (List.mem_append_right _ h)) (by decide +kernel))) (goodIn_sub (fun _ h => List.mem_cons_of_mem _ (List.mem_append_left _ (List.mem_append_right _ h))) (by decide +kernel))
set_option maxRecDepth 20000 in
theorem gX6_digest_X6_digestRows : GoodIn wsX6_digest (wsV RX6 314 RX6 yX6_digestRows wsX6_digestRows) := goodIn_app (goodIn_of _ (by decide +kernel)) ggX6_digest_X6_digestRows
set_option maxRecDepth 20000 in
theorem ggX6_digest_X6_digestGroups : GoodIn wsX6_digest wsX6_digestGroups := goodIn_ca (goodIn_r _ [133, 13, 31, 32, 33, 18, 34, 30, 134, 135, 136, 5, 137, 11, 12, 138, 46, 47, 48, 24, 139, 50, 51, 52, 25, 140, 42, 43, 44, 45, 49, 15, 16, 17, 19, 20, 21, 22, 23, 100, 101, 102, 103, 247, 248, 249, 250, 251, 252, 253, 254, 255, 256, 257, 258, 259, 260, 261, 262, 263] (by decide +kernel) (by decide +kernel)) (goodIn_sub (fun _ h => List.mem_cons_of_mem _ (List.mem_append_left _ (List.mem_append_right _ h))) (by decide +kernel))
set_option maxRecDepth 20000 in
theorem gX6_digest_X6_digestGroups : GoodIn wsX6_digest (wsV RX6 317 RX6 yX6_digestGroups wsX6_digestGroups) := goodIn_app (goodIn_of _ (by decide +kernel)) ggX6_digest_X6_digestGroups
set_option maxRecDepth 20000 in
theorem ggX6_digest_X6_digestDifferences : GoodIn wsX6_digest wsX6_digestDifferences := goodIn_ca (goodIn_ca (goodIn_r _ [144, 13, 145, 146, 147, 5, 148, 11, 12, 120, 121, 67, 122, 123, 124, 18, 125, 30, 149, 75, 76, 77, 78, 79, 150, 84, 85, 86, 87, 151, 93, 94, 95, 152, 89, 90, 91, 100, 101, 102, 103, 247, 248, 249, 250, 251, 252, 253, 254, 255, 256, 257, 258, 259, 260, 261, 262, 263, 270, 271] (by decide +kernel) (by decide +kernel)) (goodIn_sub (fun _ h => List.mem_cons_of_mem _ (List.mem_append_left _ (List.mem_append_right _ h))) (by decide +kernel))) (goodIn_sub (fun _ h => List.mem_cons_of_mem _ (List.mem_append_right _ h)) (by decide +kernel))
set_option maxRecDepth 20000 in
theorem gX6_digest_X6_digestDifferences : GoodIn wsX6_digest (wsV RX6 320 RX6 yX6_digestDifferences wsX6_digestDifferences) := goodIn_app (goodIn_of _ (by decide +kernel)) ggX6_digest_X6_digestDifferences
set_option maxRecDepth 20000 in
theorem ggX6_digest_X6_digestTypes : GoodIn wsX6_digest wsX6_digestTypes := goodIn_r _ [156, 13, 100, 101, 5, 102, 103, 247, 248, 249, 250, 251, 252, 253, 254, 255, 256, 257, 258, 259, 260, 261, 262, 263, 264, 265, 266] (by decide +kernel) (by decide +kernel)
set_option maxRecDepth 20000 in
theorem gX6_digest_X6_digestTypes : GoodIn wsX6_digest (wsV RX6 323 RX6 yX6_digestTypes wsX6_digestTypes) := goodIn_app (goodIn_of _ (by decide +kernel)) ggX6_digest_X6_digestTypes
set_option maxRecDepth 20000 in
theorem ggX6_digest_X6_digestForecasts : GoodIn wsX6_digest wsX6_digestForecasts := goodIn_ca (goodIn_r _ [160, 161, 162, 163, 5, 164, 11, 12, 13, 67, 165, 26, 27, 28, 18, 29, 30, 20, 21, 22, 23, 24, 25, 166, 167, 168, 169, 149, 75, 76, 77, 78, 79, 126, 127, 128, 129, 150, 84, 85, 86, 87, 170, 171, 172, 173, 151, 93, 94, 95, 152, 89, 90, 91, 100, 101, 102, 103, 174, 175, 176, 177, 178, 179, 180, 181, 182, 71, 183, 73, 184, 185, 186, 187, 188, 189, 190, 191, 192, 193, 194, 195, 196, 197, 198, 199, 200, 201, 202, 203, 204, 205, 206, 207, 81, 82, 208, 209, 210, 211, 212, 213, 214, 215, 40, 32, 33, 34, 216, 16, 17, 19, 41, 42, 43, 44, 45, 46, 47, 48, 49, 50, 51, 52, 217, 218, 219, 220, 221, 222, 223, 224, 225, 226, 227, 228, 57, 229, 230, 231, 232, 233, 234, 247, 248, 249, 250, 251, 252, 253, 254, 255, 256, 257, 258, 259, 260, 261, 262, 263, 270, 271, 269, 264, 265, 266] (by decide +kernel) (by decide +kernel)) (goodIn_sub (fun _ h => List.mem_cons_of_mem _ (List.mem_append_left _ (List.mem_append_right _ h))) (by decide +kernel))
set_option maxRecDepth 20000 in
theorem gX6_digest_X6_digestForecasts : GoodIn wsX6_digest (wsV RX6 326 RX6 yX6_digestForecasts wsX6_digestForecasts) := goodIn_app (goodIn_of _ (by decide +kernel)) ggX6_digest_X6_digestForecasts
set_option maxRecDepth 20000 in
theorem ggX6_digest_X6_digestText : GoodIn wsX6_digest wsX6_digestText := goodIn_r _ [238, 239, 100, 101, 5, 102, 103, 240, 241, 242, 243, 244, 245, 246, 247, 248, 249, 250, 251, 252, 253, 272, 273] (by decide +kernel) (by decide +kernel)
set_option maxRecDepth 20000 in
theorem gX6_digest_X6_digestText : GoodIn wsX6_digest (wsV RX6 329 RX6 yX6_digestText wsX6_digestText) := goodIn_app (goodIn_of _ (by decide +kernel)) ggX6_digest_X6_digestText
theorem dX6_digest_0 : decode cX6_digest 0 = .ok (.ldc2_w 305, 3) := by decide +kernel
theorem dX6_digest_3 : decode cX6_digest 3 = .ok (.lstore_n 1, 1) := by decide +kernel
theorem dX6_digest_4 : decode cX6_digest 4 = .ok (.aload_n 0, 1) := by decide +kernel
theorem dX6_digest_5 : decode cX6_digest 5 = .ok (.lload_n 1, 1) := by decide +kernel
theorem dX6_digest_6 : decode cX6_digest 6 = .ok (.invokevirtual 307, 3) := by decide +kernel
theorem dX6_digest_9 : decode cX6_digest 9 = .ok (.lstore_n 1, 1) := by decide +kernel
theorem dX6_digest_10 : decode cX6_digest 10 = .ok (.aload_n 0, 1) := by decide +kernel
theorem dX6_digest_11 : decode cX6_digest 11 = .ok (.lload_n 1, 1) := by decide +kernel
theorem dX6_digest_12 : decode cX6_digest 12 = .ok (.invokevirtual 311, 3) := by decide +kernel
theorem dX6_digest_15 : decode cX6_digest 15 = .ok (.lstore_n 1, 1) := by decide +kernel
theorem dX6_digest_16 : decode cX6_digest 16 = .ok (.aload_n 0, 1) := by decide +kernel
theorem dX6_digest_17 : decode cX6_digest 17 = .ok (.lload_n 1, 1) := by decide +kernel
theorem dX6_digest_18 : decode cX6_digest 18 = .ok (.invokevirtual 314, 3) := by decide +kernel
theorem dX6_digest_21 : decode cX6_digest 21 = .ok (.lstore_n 1, 1) := by decide +kernel
theorem dX6_digest_22 : decode cX6_digest 22 = .ok (.aload_n 0, 1) := by decide +kernel
theorem dX6_digest_23 : decode cX6_digest 23 = .ok (.lload_n 1, 1) := by decide +kernel
theorem dX6_digest_24 : decode cX6_digest 24 = .ok (.invokevirtual 317, 3) := by decide +kernel
theorem dX6_digest_27 : decode cX6_digest 27 = .ok (.lstore_n 1, 1) := by decide +kernel
theorem dX6_digest_28 : decode cX6_digest 28 = .ok (.aload_n 0, 1) := by decide +kernel
theorem dX6_digest_29 : decode cX6_digest 29 = .ok (.lload_n 1, 1) := by decide +kernel
theorem dX6_digest_30 : decode cX6_digest 30 = .ok (.invokevirtual 320, 3) := by decide +kernel
theorem dX6_digest_33 : decode cX6_digest 33 = .ok (.lstore_n 1, 1) := by decide +kernel
theorem dX6_digest_34 : decode cX6_digest 34 = .ok (.aload_n 0, 1) := by decide +kernel
theorem dX6_digest_35 : decode cX6_digest 35 = .ok (.lload_n 1, 1) := by decide +kernel
theorem dX6_digest_36 : decode cX6_digest 36 = .ok (.invokevirtual 323, 3) := by decide +kernel
theorem dX6_digest_39 : decode cX6_digest 39 = .ok (.lstore_n 1, 1) := by decide +kernel
theorem dX6_digest_40 : decode cX6_digest 40 = .ok (.aload_n 0, 1) := by decide +kernel
theorem dX6_digest_41 : decode cX6_digest 41 = .ok (.lload_n 1, 1) := by decide +kernel
theorem dX6_digest_42 : decode cX6_digest 42 = .ok (.invokevirtual 326, 3) := by decide +kernel
theorem dX6_digest_45 : decode cX6_digest 45 = .ok (.lstore_n 1, 1) := by decide +kernel
theorem dX6_digest_46 : decode cX6_digest 46 = .ok (.aload_n 0, 1) := by decide +kernel
theorem dX6_digest_47 : decode cX6_digest 47 = .ok (.lload_n 1, 1) := by decide +kernel
theorem dX6_digest_48 : decode cX6_digest 48 = .ok (.invokevirtual 329, 3) := by decide +kernel
theorem dX6_digest_51 : decode cX6_digest 51 = .ok (.lreturn, 1) := by decide +kernel
theorem dX6_isRegister_0 : decode cX6_isRegister 0 = .ok (.iload_n 0, 1) := by decide +kernel
theorem dX6_isRegister_1 : decode cX6_isRegister 1 = .ok (.ifCond .lt 13, 3) := by decide +kernel
theorem dX6_isRegister_4 : decode cX6_isRegister 4 = .ok (.iload_n 0, 1) := by decide +kernel
theorem dX6_isRegister_5 : decode cX6_isRegister 5 = .ok (.bipush 6, 2) := by decide +kernel
theorem dX6_isRegister_7 : decode cX6_isRegister 7 = .ok (.if_icmp .ge 7, 3) := by decide +kernel
theorem dX6_isRegister_10 : decode cX6_isRegister 10 = .ok (.iconst 1, 1) := by decide +kernel
theorem dX6_isRegister_11 : decode cX6_isRegister 11 = .ok (.goto 4, 3) := by decide +kernel
theorem dX6_isRegister_14 : decode cX6_isRegister 14 = .ok (.iconst 0, 1) := by decide +kernel
theorem dX6_isRegister_15 : decode cX6_isRegister 15 = .ok (.ireturn, 1) := by decide +kernel
theorem dX6_isDigit_0 : decode cX6_isDigit 0 = .ok (.iload_n 0, 1) := by decide +kernel
theorem dX6_isDigit_1 : decode cX6_isDigit 1 = .ok (.ifCond .lt 13, 3) := by decide +kernel
theorem dX6_isDigit_4 : decode cX6_isDigit 4 = .ok (.iload_n 0, 1) := by decide +kernel
theorem dX6_isDigit_5 : decode cX6_isDigit 5 = .ok (.bipush 10, 2) := by decide +kernel
theorem dX6_isDigit_7 : decode cX6_isDigit 7 = .ok (.if_icmp .ge 7, 3) := by decide +kernel
theorem dX6_isDigit_10 : decode cX6_isDigit 10 = .ok (.iconst 1, 1) := by decide +kernel
theorem dX6_isDigit_11 : decode cX6_isDigit 11 = .ok (.goto 4, 3) := by decide +kernel
theorem dX6_isDigit_14 : decode cX6_isDigit 14 = .ok (.iconst 0, 1) := by decide +kernel
theorem dX6_isDigit_15 : decode cX6_isDigit 15 = .ok (.ireturn, 1) := by decide +kernel
theorem dX6_isSetting_0 : decode cX6_isSetting 0 = .ok (.iload_n 0, 1) := by decide +kernel
theorem dX6_isSetting_1 : decode cX6_isSetting 1 = .ok (.ifCond .lt 12, 3) := by decide +kernel
theorem dX6_isSetting_4 : decode cX6_isSetting 4 = .ok (.iload_n 0, 1) := by decide +kernel
theorem dX6_isSetting_5 : decode cX6_isSetting 5 = .ok (.iconst 2, 1) := by decide +kernel
theorem dX6_isSetting_6 : decode cX6_isSetting 6 = .ok (.if_icmp .ge 7, 3) := by decide +kernel
theorem dX6_isSetting_9 : decode cX6_isSetting 9 = .ok (.iconst 1, 1) := by decide +kernel
theorem dX6_isSetting_10 : decode cX6_isSetting 10 = .ok (.goto 4, 3) := by decide +kernel
theorem dX6_isSetting_13 : decode cX6_isSetting 13 = .ok (.iconst 0, 1) := by decide +kernel
theorem dX6_isSetting_14 : decode cX6_isSetting 14 = .ok (.ireturn, 1) := by decide +kernel
theorem dX6_tenToThe_0 : decode cX6_tenToThe 0 = .ok (.lconst 1, 1) := by decide +kernel
theorem dX6_tenToThe_1 : decode cX6_tenToThe 1 = .ok (.lstore_n 1, 1) := by decide +kernel
theorem dX6_tenToThe_2 : decode cX6_tenToThe 2 = .ok (.iconst 0, 1) := by decide +kernel
theorem dX6_tenToThe_3 : decode cX6_tenToThe 3 = .ok (.istore_n 3, 1) := by decide +kernel
theorem dX6_tenToThe_4 : decode cX6_tenToThe 4 = .ok (.iload_n 3, 1) := by decide +kernel
theorem dX6_tenToThe_5 : decode cX6_tenToThe 5 = .ok (.iload_n 0, 1) := by decide +kernel
theorem dX6_tenToThe_6 : decode cX6_tenToThe 6 = .ok (.if_icmp .ge 15, 3) := by decide +kernel
theorem dX6_tenToThe_9 : decode cX6_tenToThe 9 = .ok (.lload_n 1, 1) := by decide +kernel
theorem dX6_tenToThe_10 : decode cX6_tenToThe 10 = .ok (.ldc2_w 332, 3) := by decide +kernel
theorem dX6_tenToThe_13 : decode cX6_tenToThe 13 = .ok (.lmul, 1) := by decide +kernel
theorem dX6_tenToThe_14 : decode cX6_tenToThe 14 = .ok (.lstore_n 1, 1) := by decide +kernel
theorem dX6_tenToThe_15 : decode cX6_tenToThe 15 = .ok (.iinc 3 1, 3) := by decide +kernel
theorem dX6_tenToThe_18 : decode cX6_tenToThe 18 = .ok (.goto (-14), 3) := by decide +kernel
theorem dX6_tenToThe_21 : decode cX6_tenToThe 21 = .ok (.lload_n 1, 1) := by decide +kernel
theorem dX6_tenToThe_22 : decode cX6_tenToThe 22 = .ok (.lreturn, 1) := by decide +kernel
theorem dX6_settingNow_0 : decode cX6_settingNow 0 = .ok (.iload_n 1, 1) := by decide +kernel
theorem dX6_settingNow_1 : decode cX6_settingNow 1 = .ok (.ifCond .ne 13, 3) := by decide +kernel
theorem dX6_settingNow_4 : decode cX6_settingNow 4 = .ok (.aload_n 0, 1) := by decide +kernel
theorem dX6_settingNow_5 : decode cX6_settingNow 5 = .ok (.getfield 10, 3) := by decide +kernel
theorem dX6_settingNow_8 : decode cX6_settingNow 8 = .ok (.getfield 154, 3) := by decide +kernel
theorem dX6_settingNow_11 : decode cX6_settingNow 11 = .ok (.goto 13, 3) := by decide +kernel
theorem dX6_settingNow_14 : decode cX6_settingNow 14 = .ok (.aload_n 0, 1) := by decide +kernel
theorem dX6_settingNow_15 : decode cX6_settingNow 15 = .ok (.getfield 10, 3) := by decide +kernel
theorem dX6_settingNow_18 : decode cX6_settingNow 18 = .ok (.getfield 138, 3) := by decide +kernel
theorem dX6_settingNow_21 : decode cX6_settingNow 21 = .ok (.getfield 157, 3) := by decide +kernel
theorem dX6_settingNow_24 : decode cX6_settingNow 24 = .ok (.ireturn, 1) := by decide +kernel
set_option maxRecDepth 20000 in
theorem ggX6_putRegistersRight_X2_putRight : GoodIn wsX6_putRegistersRight wsX2_putRight := goodIn_r _ [7, 8, 9, 10, 11, 12, 13, 14, 15, 16, 17, 18, 19, 20, 21, 22, 23, 24, 25, 26, 27, 28, 29, 30, 31, 49, 50, 51] (by decide +kernel) (by decide +kernel)
set_option maxRecDepth 20000 in
theorem gX6_putRegistersRight_X2_putRight : GoodIn wsX6_putRegistersRight (wsV RX6 334 RX2 yX2_putRight wsX2_putRight) := goodIn_app (goodIn_of _ (by decide +kernel)) ggX6_putRegistersRight_X2_putRight
theorem dX6_putRegistersRight_0 : decode cX6_putRegistersRight 0 = .ok (.aload_n 1, 1) := by decide +kernel
theorem dX6_putRegistersRight_1 : decode cX6_putRegistersRight 1 = .ok (.aload_n 0, 1) := by decide +kernel
theorem dX6_putRegistersRight_2 : decode cX6_putRegistersRight 2 = .ok (.getfield 10, 3) := by decide +kernel
theorem dX6_putRegistersRight_5 : decode cX6_putRegistersRight 5 = .ok (.getfield 54, 3) := by decide +kernel
theorem dX6_putRegistersRight_8 : decode cX6_putRegistersRight 8 = .ok (.aload_n 0, 1) := by decide +kernel
theorem dX6_putRegistersRight_9 : decode cX6_putRegistersRight 9 = .ok (.getfield 10, 3) := by decide +kernel
theorem dX6_putRegistersRight_12 : decode cX6_putRegistersRight 12 = .ok (.getfield 79, 3) := by decide +kernel
theorem dX6_putRegistersRight_15 : decode cX6_putRegistersRight 15 = .ok (.aload_n 0, 1) := by decide +kernel
theorem dX6_putRegistersRight_16 : decode cX6_putRegistersRight 16 = .ok (.getfield 10, 3) := by decide +kernel
theorem dX6_putRegistersRight_19 : decode cX6_putRegistersRight 19 = .ok (.getfield 76, 3) := by decide +kernel
theorem dX6_putRegistersRight_22 : decode cX6_putRegistersRight 22 = .ok (.iadd, 1) := by decide +kernel
theorem dX6_putRegistersRight_23 : decode cX6_putRegistersRight 23 = .ok (.aload_n 0, 1) := by decide +kernel
theorem dX6_putRegistersRight_24 : decode cX6_putRegistersRight 24 = .ok (.getfield 33, 3) := by decide +kernel
theorem dX6_putRegistersRight_27 : decode cX6_putRegistersRight 27 = .ok (.invokevirtual 334, 3) := by decide +kernel
theorem dX6_putRegistersRight_30 : decode cX6_putRegistersRight 30 = .ok (.return_, 1) := by decide +kernel
set_option maxRecDepth 20000 in
theorem ggX6_wrongRegisters_X6_putRegistersRight : GoodIn wsX6_wrongRegisters wsX6_putRegistersRight := goodIn_r _ [7, 2, 8, 9, 10, 11, 12, 13, 14, 15, 16, 17, 18, 19, 20, 21, 22, 23, 24, 25, 26, 27, 28, 29, 30, 31, 32, 33, 34, 35, 36, 37, 42, 43, 44, 45, 46, 47, 48, 49, 50, 51, 52, 53, 54, 55, 56, 57, 58, 59, 60, 61] (by decide +kernel) (by decide +kernel)
set_option maxRecDepth 20000 in
theorem gX6_wrongRegisters_X6_putRegistersRight : GoodIn wsX6_wrongRegisters (wsV RX6 61 RX6 yX6_putRegistersRight wsX6_putRegistersRight) := goodIn_app (goodIn_of _ (by decide +kernel)) ggX6_wrongRegisters_X6_putRegistersRight
set_option maxRecDepth 20000 in
theorem ggX6_wrongRegisters_X2_countUnlike : GoodIn wsX6_wrongRegisters wsX2_countUnlike := goodIn_r _ [41, 14, 59] (by decide +kernel) (by decide +kernel)
set_option maxRecDepth 20000 in
theorem gX6_wrongRegisters_X2_countUnlike : GoodIn wsX6_wrongRegisters (wsV RX6 338 RX2 yX2_countUnlike wsX2_countUnlike) := goodIn_app (goodIn_of _ (by decide +kernel)) ggX6_wrongRegisters_X2_countUnlike
theorem dX6_wrongRegisters_0 : decode cX6_wrongRegisters 0 = .ok (.aload_n 0, 1) := by decide +kernel
theorem dX6_wrongRegisters_1 : decode cX6_wrongRegisters 1 = .ok (.aload_n 0, 1) := by decide +kernel
theorem dX6_wrongRegisters_2 : decode cX6_wrongRegisters 2 = .ok (.getfield 40, 3) := by decide +kernel
theorem dX6_wrongRegisters_5 : decode cX6_wrongRegisters 5 = .ok (.invokevirtual 61, 3) := by decide +kernel
theorem dX6_wrongRegisters_8 : decode cX6_wrongRegisters 8 = .ok (.aload_n 0, 1) := by decide +kernel
theorem dX6_wrongRegisters_9 : decode cX6_wrongRegisters 9 = .ok (.getfield 10, 3) := by decide +kernel
theorem dX6_wrongRegisters_12 : decode cX6_wrongRegisters 12 = .ok (.getfield 58, 3) := by decide +kernel
theorem dX6_wrongRegisters_15 : decode cX6_wrongRegisters 15 = .ok (.aload_n 0, 1) := by decide +kernel
theorem dX6_wrongRegisters_16 : decode cX6_wrongRegisters 16 = .ok (.getfield 40, 3) := by decide +kernel
theorem dX6_wrongRegisters_19 : decode cX6_wrongRegisters 19 = .ok (.invokevirtual 338, 3) := by decide +kernel
theorem dX6_wrongRegisters_22 : decode cX6_wrongRegisters 22 = .ok (.ireturn, 1) := by decide +kernel
set_option maxRecDepth 20000 in
theorem ggX6_carryOut_X1_codeAt : GoodIn wsX6_carryOut wsX1_codeAt := goodIn_r _ [7, 8, 9, 138, 139] (by decide +kernel) (by decide +kernel)
set_option maxRecDepth 20000 in
theorem gX6_carryOut_X1_codeAt : GoodIn wsX6_carryOut (wsV RX6 342 RX1 yX1_codeAt wsX1_codeAt) := goodIn_app (goodIn_of _ (by decide +kernel)) ggX6_carryOut_X1_codeAt
set_option maxRecDepth 20000 in
theorem ggX6_carryOut_X1_numberAt : GoodIn wsX6_carryOut wsX1_numberAt := goodIn_r _ [13, 14, 15, 16, 6, 17, 18, 4, 5, 7, 8, 9, 19, 20, 21, 138, 139] (by decide +kernel) (by decide +kernel)
set_option maxRecDepth 20000 in
theorem gX6_carryOut_X1_numberAt : GoodIn wsX6_carryOut (wsV RX6 345 RX1 yX1_numberAt wsX1_numberAt) := goodIn_app (goodIn_of _ (by decide +kernel)) ggX6_carryOut_X1_numberAt
set_option maxRecDepth 20000 in
theorem ggX6_carryOut_X6_carryOutPrint : GoodIn wsX6_carryOut wsX6_carryOutPrint := goodIn_r _ [26, 2, 27, 28, 29, 30, 31, 32, 33, 34, 35, 36, 37, 38, 39, 40, 41, 42, 43, 44, 45, 46, 47, 48, 49, 50, 51, 52, 53, 54, 55, 56, 57, 58, 59, 60, 61, 62, 63, 64, 65, 121, 122, 123, 124, 125, 126, 127, 128, 129, 130, 131, 132, 133, 134, 135, 136, 137, 140, 141, 142, 143] (by decide +kernel) (by decide +kernel)
set_option maxRecDepth 20000 in
theorem gX6_carryOut_X6_carryOutPrint : GoodIn wsX6_carryOut (wsV RX6 348 RX6 yX6_carryOutPrint wsX6_carryOutPrint) := goodIn_app (goodIn_of _ (by decide +kernel)) ggX6_carryOut_X6_carryOutPrint
set_option maxRecDepth 20000 in
theorem ggX6_carryOut_X6_carryOutSlip : GoodIn wsX6_carryOut wsX6_carryOutSlip := goodIn_r _ [69, 1, 2, 70, 15, 16, 6, 17, 18, 4, 5, 7, 8, 9, 19, 20, 21, 71, 72, 25, 73, 74, 3, 75, 76, 77, 78, 79, 80, 45, 81, 47, 82, 83, 84, 85, 86, 87, 121, 122, 123, 124, 125, 126, 127, 128, 129, 130, 131, 132, 133, 134, 135, 136, 137, 138, 139, 140] (by decide +kernel) (by decide +kernel)
set_option maxRecDepth 20000 in
theorem gX6_carryOut_X6_carryOutSlip : GoodIn wsX6_carryOut (wsV RX6 351 RX6 yX6_carryOutSlip wsX6_carryOutSlip) := goodIn_app (goodIn_of _ (by decide +kernel)) ggX6_carryOut_X6_carryOutSlip
set_option maxRecDepth 20000 in
theorem ggX6_carryOut_X6_putRegistersRight : GoodIn wsX6_carryOut wsX6_putRegistersRight := goodIn_r _ [91, 2, 92, 93, 94, 95, 45, 96, 47, 97, 98, 99, 100, 101, 102, 103, 55, 30, 56, 104, 105, 106, 107, 108, 109, 110, 111, 112, 113, 114, 115, 116, 121, 122, 123, 124, 125, 126, 127, 128, 129, 130, 131, 132, 133, 134, 135, 136, 137, 140, 144, 145] (by decide +kernel) (by decide +kernel)
set_option maxRecDepth 20000 in
theorem gX6_carryOut_X6_putRegistersRight : GoodIn wsX6_carryOut (wsV RX6 61 RX6 yX6_putRegistersRight wsX6_putRegistersRight) := goodIn_app (goodIn_of _ (by decide +kernel)) ggX6_carryOut_X6_putRegistersRight
set_option maxRecDepth 20000 in
theorem ggX6_carryOut_X1_digitAt : GoodIn wsX6_carryOut wsX1_digitAt := goodIn_r _ [17, 18, 4, 5, 6, 7, 8, 9, 19, 20, 21, 138, 139] (by decide +kernel) (by decide +kernel)
set_option maxRecDepth 20000 in
theorem gX6_carryOut_X1_digitAt : GoodIn wsX6_carryOut (wsV RX6 354 RX1 yX1_digitAt wsX1_digitAt) := goodIn_app (goodIn_of _ (by decide +kernel)) ggX6_carryOut_X1_digitAt
set_option maxRecDepth 20000 in
theorem ggX6_carryOut_X5_makeNew : GoodIn wsX6_carryOut wsX5_makeNew := goodIn_r _ [120, 63, 141, 142, 143] (by decide +kernel) (by decide +kernel)
set_option maxRecDepth 20000 in
theorem gX6_carryOut_X5_makeNew : GoodIn wsX6_carryOut (wsV RX6 141 RX5 yX5_makeNew wsX5_makeNew) := goodIn_app (goodIn_of _ (by decide +kernel)) ggX6_carryOut_X5_makeNew
theorem dX6_carryOut_0 : decode cX6_carryOut 0 = .ok (.aload_n 0, 1) := by decide +kernel
theorem dX6_carryOut_1 : decode cX6_carryOut 1 = .ok (.getfield 26, 3) := by decide +kernel
theorem dX6_carryOut_4 : decode cX6_carryOut 4 = .ok (.iload_n 1, 1) := by decide +kernel
theorem dX6_carryOut_5 : decode cX6_carryOut 5 = .ok (.invokevirtual 342, 3) := by decide +kernel
theorem dX6_carryOut_8 : decode cX6_carryOut 8 = .ok (.lookupswitch 70 #[(99, 57), (112, 36), (115, 51)], 36) := by decide +kernel
theorem dX6_carryOut_44 : decode cX6_carryOut 44 = .ok (.aload_n 0, 1) := by decide +kernel
theorem dX6_carryOut_45 : decode cX6_carryOut 45 = .ok (.aload_n 0, 1) := by decide +kernel
theorem dX6_carryOut_46 : decode cX6_carryOut 46 = .ok (.getfield 26, 3) := by decide +kernel
theorem dX6_carryOut_49 : decode cX6_carryOut 49 = .ok (.iload_n 1, 1) := by decide +kernel
theorem dX6_carryOut_50 : decode cX6_carryOut 50 = .ok (.iconst 1, 1) := by decide +kernel
theorem dX6_carryOut_51 : decode cX6_carryOut 51 = .ok (.iadd, 1) := by decide +kernel
theorem dX6_carryOut_52 : decode cX6_carryOut 52 = .ok (.invokevirtual 345, 3) := by decide +kernel
theorem dX6_carryOut_55 : decode cX6_carryOut 55 = .ok (.invokevirtual 348, 3) := by decide +kernel
theorem dX6_carryOut_58 : decode cX6_carryOut 58 = .ok (.ireturn, 1) := by decide +kernel
theorem dX6_carryOut_59 : decode cX6_carryOut 59 = .ok (.aload_n 0, 1) := by decide +kernel
theorem dX6_carryOut_60 : decode cX6_carryOut 60 = .ok (.iload_n 1, 1) := by decide +kernel
theorem dX6_carryOut_61 : decode cX6_carryOut 61 = .ok (.invokevirtual 351, 3) := by decide +kernel
theorem dX6_carryOut_64 : decode cX6_carryOut 64 = .ok (.ireturn, 1) := by decide +kernel
theorem dX6_carryOut_65 : decode cX6_carryOut 65 = .ok (.aload_n 0, 1) := by decide +kernel
theorem dX6_carryOut_66 : decode cX6_carryOut 66 = .ok (.aload_n 0, 1) := by decide +kernel
theorem dX6_carryOut_67 : decode cX6_carryOut 67 = .ok (.getfield 10, 3) := by decide +kernel
theorem dX6_carryOut_70 : decode cX6_carryOut 70 = .ok (.getfield 58, 3) := by decide +kernel
theorem dX6_carryOut_73 : decode cX6_carryOut 73 = .ok (.invokevirtual 61, 3) := by decide +kernel
theorem dX6_carryOut_76 : decode cX6_carryOut 76 = .ok (.iconst 1, 1) := by decide +kernel
theorem dX6_carryOut_77 : decode cX6_carryOut 77 = .ok (.ireturn, 1) := by decide +kernel
theorem dX6_carryOut_78 : decode cX6_carryOut 78 = .ok (.aload_n 0, 1) := by decide +kernel
theorem dX6_carryOut_79 : decode cX6_carryOut 79 = .ok (.getfield 10, 3) := by decide +kernel
theorem dX6_carryOut_82 : decode cX6_carryOut 82 = .ok (.getfield 138, 3) := by decide +kernel
theorem dX6_carryOut_85 : decode cX6_carryOut 85 = .ok (.aload_n 0, 1) := by decide +kernel
theorem dX6_carryOut_86 : decode cX6_carryOut 86 = .ok (.getfield 26, 3) := by decide +kernel
theorem dX6_carryOut_89 : decode cX6_carryOut 89 = .ok (.iload_n 1, 1) := by decide +kernel
theorem dX6_carryOut_90 : decode cX6_carryOut 90 = .ok (.iconst 1, 1) := by decide +kernel
theorem dX6_carryOut_91 : decode cX6_carryOut 91 = .ok (.iadd, 1) := by decide +kernel
theorem dX6_carryOut_92 : decode cX6_carryOut 92 = .ok (.invokevirtual 354, 3) := by decide +kernel
theorem dX6_carryOut_95 : decode cX6_carryOut 95 = .ok (.invokevirtual 141, 3) := by decide +kernel
theorem dX6_carryOut_98 : decode cX6_carryOut 98 = .ok (.pop, 1) := by decide +kernel
theorem dX6_carryOut_99 : decode cX6_carryOut 99 = .ok (.iconst 1, 1) := by decide +kernel
theorem dX6_carryOut_100 : decode cX6_carryOut 100 = .ok (.ireturn, 1) := by decide +kernel
set_option maxRecDepth 20000 in
theorem ggX6_carryOutPrint_X4_hasRoomFor : GoodIn wsX6_carryOutPrint wsX4_hasRoomFor := goodIn_r _ [6, 7, 48, 49, 50, 51, 52, 53, 54, 55, 56, 57] (by decide +kernel) (by decide +kernel)
set_option maxRecDepth 20000 in
theorem gX6_carryOutPrint_X4_hasRoomFor : GoodIn wsX6_carryOutPrint (wsV RX6 84 RX4 yX4_hasRoomFor wsX4_hasRoomFor) := goodIn_app (goodIn_of _ (by decide +kernel)) ggX6_carryOutPrint_X4_hasRoomFor
set_option maxRecDepth 20000 in
theorem ggX6_carryOutPrint_X4_addRows : GoodIn wsX6_carryOutPrint wsX4_addRows := goodIn_r _ [11, 7, 12, 13, 14, 15, 16, 17, 18, 19, 20, 21, 22, 23, 24, 25, 5, 26, 27, 28, 29, 30, 31, 32, 33, 34, 35, 36, 37, 38, 39, 40, 48, 49, 50, 51, 52, 53, 54, 55, 56, 57, 58, 59, 60, 61] (by decide +kernel) (by decide +kernel)
set_option maxRecDepth 20000 in
theorem gX6_carryOutPrint_X4_addRows : GoodIn wsX6_carryOutPrint (wsV RX6 93 RX4 yX4_addRows wsX4_addRows) := goodIn_app (goodIn_of _ (by decide +kernel)) ggX6_carryOutPrint_X4_addRows
theorem dX6_carryOutPrint_0 : decode cX6_carryOutPrint 0 = .ok (.aload_n 0, 1) := by decide +kernel
theorem dX6_carryOutPrint_1 : decode cX6_carryOutPrint 1 = .ok (.getfield 10, 3) := by decide +kernel
theorem dX6_carryOutPrint_4 : decode cX6_carryOutPrint 4 = .ok (.iload_n 1, 1) := by decide +kernel
theorem dX6_carryOutPrint_5 : decode cX6_carryOutPrint 5 = .ok (.invokevirtual 84, 3) := by decide +kernel
theorem dX6_carryOutPrint_8 : decode cX6_carryOutPrint 8 = .ok (.ifCond .ne 5, 3) := by decide +kernel
theorem dX6_carryOutPrint_11 : decode cX6_carryOutPrint 11 = .ok (.iconst 0, 1) := by decide +kernel
theorem dX6_carryOutPrint_12 : decode cX6_carryOutPrint 12 = .ok (.ireturn, 1) := by decide +kernel
theorem dX6_carryOutPrint_13 : decode cX6_carryOutPrint 13 = .ok (.aload_n 0, 1) := by decide +kernel
theorem dX6_carryOutPrint_14 : decode cX6_carryOutPrint 14 = .ok (.getfield 10, 3) := by decide +kernel
theorem dX6_carryOutPrint_17 : decode cX6_carryOutPrint 17 = .ok (.iload_n 1, 1) := by decide +kernel
theorem dX6_carryOutPrint_18 : decode cX6_carryOutPrint 18 = .ok (.invokevirtual 93, 3) := by decide +kernel
theorem dX6_carryOutPrint_21 : decode cX6_carryOutPrint 21 = .ok (.pop, 1) := by decide +kernel
theorem dX6_carryOutPrint_22 : decode cX6_carryOutPrint 22 = .ok (.iconst 1, 1) := by decide +kernel
theorem dX6_carryOutPrint_23 : decode cX6_carryOutPrint 23 = .ok (.ireturn, 1) := by decide +kernel
set_option maxRecDepth 20000 in
theorem ggX6_carryOutSlip_X1_digitAt : GoodIn wsX6_carryOutSlip wsX1_digitAt := goodIn_r _ [7, 8, 9, 10, 6, 11, 12, 13, 14, 15, 16, 55, 56] (by decide +kernel) (by decide +kernel)
set_option maxRecDepth 20000 in
theorem gX6_carryOutSlip_X1_digitAt : GoodIn wsX6_carryOutSlip (wsV RX6 354 RX1 yX1_digitAt wsX1_digitAt) := goodIn_app (goodIn_of _ (by decide +kernel)) ggX6_carryOutSlip_X1_digitAt
set_option maxRecDepth 20000 in
theorem ggX6_carryOutSlip_X6_tenToThe : GoodIn wsX6_carryOutSlip wsX6_tenToThe := goodIn_r _ [20, 21] (by decide +kernel) (by decide +kernel)
set_option maxRecDepth 20000 in
theorem gX6_carryOutSlip_X6_tenToThe : GoodIn wsX6_carryOutSlip (va_wsS RX6 107 yX6_tenToThe wsX6_tenToThe) := goodIn_app (goodIn_of _ (by decide +kernel)) ggX6_carryOutSlip_X6_tenToThe
set_option maxRecDepth 20000 in
theorem ggX6_carryOutSlip_X1_codeAt : GoodIn wsX6_carryOutSlip wsX1_codeAt := goodIn_r _ [11, 12, 13, 55, 56] (by decide +kernel) (by decide +kernel)
set_option maxRecDepth 20000 in
theorem gX6_carryOutSlip_X1_codeAt : GoodIn wsX6_carryOutSlip (wsV RX6 342 RX1 yX1_codeAt wsX1_codeAt) := goodIn_app (goodIn_of _ (by decide +kernel)) ggX6_carryOutSlip_X1_codeAt
set_option maxRecDepth 20000 in
theorem ggX6_carryOutSlip_X6_isRegister : GoodIn wsX6_carryOutSlip wsX6_isRegister := goodIn_r _ [25] (by decide +kernel) (by decide +kernel)
set_option maxRecDepth 20000 in
theorem gX6_carryOutSlip_X6_isRegister : GoodIn wsX6_carryOutSlip (va_wsS RX6 97 yX6_isRegister wsX6_isRegister) := goodIn_app (goodIn_of _ (by decide +kernel)) ggX6_carryOutSlip_X6_isRegister
set_option maxRecDepth 20000 in
theorem ggX6_carryOutSlip_X2_canTake : GoodIn wsX6_carryOutSlip wsX2_canTake := goodIn_r _ [30, 31, 32, 33, 57] (by decide +kernel) (by decide +kernel)
set_option maxRecDepth 20000 in
theorem gX6_carryOutSlip_X2_canTake : GoodIn wsX6_carryOutSlip (wsV RX6 111 RX2 yX2_canTake wsX2_canTake) := goodIn_app (goodIn_of _ (by decide +kernel)) ggX6_carryOutSlip_X2_canTake
set_option maxRecDepth 20000 in
theorem ggX6_carryOutSlip_X2_add : GoodIn wsX6_carryOutSlip wsX2_add := goodIn_r _ [37, 31, 57] (by decide +kernel) (by decide +kernel)
set_option maxRecDepth 20000 in
theorem gX6_carryOutSlip_X2_add : GoodIn wsX6_carryOutSlip (wsV RX6 117 RX2 yX2_add wsX2_add) := goodIn_app (goodIn_of _ (by decide +kernel)) ggX6_carryOutSlip_X2_add
theorem dX6_carryOutSlip_0 : decode cX6_carryOutSlip 0 = .ok (.aload_n 0, 1) := by decide +kernel
theorem dX6_carryOutSlip_1 : decode cX6_carryOutSlip 1 = .ok (.getfield 26, 3) := by decide +kernel
theorem dX6_carryOutSlip_4 : decode cX6_carryOutSlip 4 = .ok (.iload_n 1, 1) := by decide +kernel
theorem dX6_carryOutSlip_5 : decode cX6_carryOutSlip 5 = .ok (.iconst 1, 1) := by decide +kernel
theorem dX6_carryOutSlip_6 : decode cX6_carryOutSlip 6 = .ok (.iadd, 1) := by decide +kernel
theorem dX6_carryOutSlip_7 : decode cX6_carryOutSlip 7 = .ok (.invokevirtual 354, 3) := by decide +kernel
theorem dX6_carryOutSlip_10 : decode cX6_carryOutSlip 10 = .ok (.istore_n 2, 1) := by decide +kernel
theorem dX6_carryOutSlip_11 : decode cX6_carryOutSlip 11 = .ok (.aload_n 0, 1) := by decide +kernel
theorem dX6_carryOutSlip_12 : decode cX6_carryOutSlip 12 = .ok (.getfield 26, 3) := by decide +kernel
theorem dX6_carryOutSlip_15 : decode cX6_carryOutSlip 15 = .ok (.iload_n 1, 1) := by decide +kernel
theorem dX6_carryOutSlip_16 : decode cX6_carryOutSlip 16 = .ok (.iconst 4, 1) := by decide +kernel
theorem dX6_carryOutSlip_17 : decode cX6_carryOutSlip 17 = .ok (.iadd, 1) := by decide +kernel
theorem dX6_carryOutSlip_18 : decode cX6_carryOutSlip 18 = .ok (.invokevirtual 354, 3) := by decide +kernel
theorem dX6_carryOutSlip_21 : decode cX6_carryOutSlip 21 = .ok (.i2l, 1) := by decide +kernel
theorem dX6_carryOutSlip_22 : decode cX6_carryOutSlip 22 = .ok (.aload_n 0, 1) := by decide +kernel
theorem dX6_carryOutSlip_23 : decode cX6_carryOutSlip 23 = .ok (.getfield 26, 3) := by decide +kernel
theorem dX6_carryOutSlip_26 : decode cX6_carryOutSlip 26 = .ok (.iload_n 1, 1) := by decide +kernel
theorem dX6_carryOutSlip_27 : decode cX6_carryOutSlip 27 = .ok (.iconst 2, 1) := by decide +kernel
theorem dX6_carryOutSlip_28 : decode cX6_carryOutSlip 28 = .ok (.iadd, 1) := by decide +kernel
theorem dX6_carryOutSlip_29 : decode cX6_carryOutSlip 29 = .ok (.invokevirtual 354, 3) := by decide +kernel
theorem dX6_carryOutSlip_32 : decode cX6_carryOutSlip 32 = .ok (.invokestatic 107, 3) := by decide +kernel
theorem dX6_carryOutSlip_35 : decode cX6_carryOutSlip 35 = .ok (.lmul, 1) := by decide +kernel
theorem dX6_carryOutSlip_36 : decode cX6_carryOutSlip 36 = .ok (.lstore_n 3, 1) := by decide +kernel
theorem dX6_carryOutSlip_37 : decode cX6_carryOutSlip 37 = .ok (.aload_n 0, 1) := by decide +kernel
theorem dX6_carryOutSlip_38 : decode cX6_carryOutSlip 38 = .ok (.getfield 26, 3) := by decide +kernel
theorem dX6_carryOutSlip_41 : decode cX6_carryOutSlip 41 = .ok (.iload_n 1, 1) := by decide +kernel
theorem dX6_carryOutSlip_42 : decode cX6_carryOutSlip 42 = .ok (.iconst 3, 1) := by decide +kernel
theorem dX6_carryOutSlip_43 : decode cX6_carryOutSlip 43 = .ok (.iadd, 1) := by decide +kernel
theorem dX6_carryOutSlip_44 : decode cX6_carryOutSlip 44 = .ok (.invokevirtual 342, 3) := by decide +kernel
theorem dX6_carryOutSlip_47 : decode cX6_carryOutSlip 47 = .ok (.bipush 45, 2) := by decide +kernel
theorem dX6_carryOutSlip_49 : decode cX6_carryOutSlip 49 = .ok (.if_icmp .ne 6, 3) := by decide +kernel
theorem dX6_carryOutSlip_52 : decode cX6_carryOutSlip 52 = .ok (.lload_n 3, 1) := by decide +kernel
theorem dX6_carryOutSlip_53 : decode cX6_carryOutSlip 53 = .ok (.lneg, 1) := by decide +kernel
theorem dX6_carryOutSlip_54 : decode cX6_carryOutSlip 54 = .ok (.lstore_n 3, 1) := by decide +kernel
theorem dX6_carryOutSlip_55 : decode cX6_carryOutSlip 55 = .ok (.iload_n 2, 1) := by decide +kernel
theorem dX6_carryOutSlip_56 : decode cX6_carryOutSlip 56 = .ok (.invokestatic 97, 3) := by decide +kernel
theorem dX6_carryOutSlip_59 : decode cX6_carryOutSlip 59 = .ok (.ifCond .eq 18, 3) := by decide +kernel
theorem dX6_carryOutSlip_62 : decode cX6_carryOutSlip 62 = .ok (.aload_n 0, 1) := by decide +kernel
theorem dX6_carryOutSlip_63 : decode cX6_carryOutSlip 63 = .ok (.getfield 10, 3) := by decide +kernel
theorem dX6_carryOutSlip_66 : decode cX6_carryOutSlip 66 = .ok (.getfield 58, 3) := by decide +kernel
theorem dX6_carryOutSlip_69 : decode cX6_carryOutSlip 69 = .ok (.iload_n 2, 1) := by decide +kernel
theorem dX6_carryOutSlip_70 : decode cX6_carryOutSlip 70 = .ok (.lload_n 3, 1) := by decide +kernel
theorem dX6_carryOutSlip_71 : decode cX6_carryOutSlip 71 = .ok (.invokevirtual 111, 3) := by decide +kernel
theorem dX6_carryOutSlip_74 : decode cX6_carryOutSlip 74 = .ok (.ifCond .ne 5, 3) := by decide +kernel
theorem dX6_carryOutSlip_77 : decode cX6_carryOutSlip 77 = .ok (.iconst 0, 1) := by decide +kernel
theorem dX6_carryOutSlip_78 : decode cX6_carryOutSlip 78 = .ok (.ireturn, 1) := by decide +kernel
theorem dX6_carryOutSlip_79 : decode cX6_carryOutSlip 79 = .ok (.aload_n 0, 1) := by decide +kernel
theorem dX6_carryOutSlip_80 : decode cX6_carryOutSlip 80 = .ok (.getfield 10, 3) := by decide +kernel
theorem dX6_carryOutSlip_83 : decode cX6_carryOutSlip 83 = .ok (.getfield 58, 3) := by decide +kernel
theorem dX6_carryOutSlip_86 : decode cX6_carryOutSlip 86 = .ok (.iload_n 2, 1) := by decide +kernel
theorem dX6_carryOutSlip_87 : decode cX6_carryOutSlip 87 = .ok (.lload_n 3, 1) := by decide +kernel
theorem dX6_carryOutSlip_88 : decode cX6_carryOutSlip 88 = .ok (.invokevirtual 117, 3) := by decide +kernel
theorem dX6_carryOutSlip_91 : decode cX6_carryOutSlip 91 = .ok (.iconst 1, 1) := by decide +kernel
theorem dX6_carryOutSlip_92 : decode cX6_carryOutSlip 92 = .ok (.ireturn, 1) := by decide +kernel
set_option maxRecDepth 20000 in
theorem ggX6_findSlippedRegister_X0_clear : GoodIn wsX6_findSlippedRegister wsX0_clear := goodIn_r _ [7, 8, 46, 47] (by decide +kernel) (by decide +kernel)
set_option maxRecDepth 20000 in
theorem gX6_findSlippedRegister_X0_clear : GoodIn wsX6_findSlippedRegister (wsV RX6 240 RX0 yX0_clear wsX0_clear) := goodIn_app (goodIn_of _ (by decide +kernel)) ggX6_findSlippedRegister_X0_clear
set_option maxRecDepth 20000 in
theorem ggX6_findSlippedRegister_X4_error : GoodIn wsX6_findSlippedRegister wsX4_error := goodIn_r _ [13, 14, 15, 36, 37, 38, 39, 40, 41, 42, 43, 44, 45] (by decide +kernel) (by decide +kernel)
set_option maxRecDepth 20000 in
theorem gX6_findSlippedRegister_X4_error : GoodIn wsX6_findSlippedRegister (wsV RX6 208 RX4 yX4_error wsX4_error) := goodIn_app (goodIn_of _ (by decide +kernel)) ggX6_findSlippedRegister_X4_error
set_option maxRecDepth 20000 in
theorem ggX6_findSlippedRegister_X0_put : GoodIn wsX6_findSlippedRegister wsX0_put := goodIn_r _ [19, 8, 20, 46, 47] (by decide +kernel) (by decide +kernel)
set_option maxRecDepth 20000 in
theorem gX6_findSlippedRegister_X0_put : GoodIn wsX6_findSlippedRegister (wsV RX6 243 RX0 yX0_put wsX0_put) := goodIn_app (goodIn_of _ (by decide +kernel)) ggX6_findSlippedRegister_X0_put
set_option maxRecDepth 20000 in
theorem ggX6_findSlippedRegister_X0_areOneNumber : GoodIn wsX6_findSlippedRegister wsX0_areOneNumber := goodIn_r _ [24, 8, 20, 46, 47] (by decide +kernel) (by decide +kernel)
set_option maxRecDepth 20000 in
theorem gX6_findSlippedRegister_X0_areOneNumber : GoodIn wsX6_findSlippedRegister (wsV RX6 357 RX0 yX0_areOneNumber wsX0_areOneNumber) := goodIn_app (goodIn_of _ (by decide +kernel)) ggX6_findSlippedRegister_X0_areOneNumber
set_option maxRecDepth 20000 in
theorem ggX6_findSlippedRegister_X0_raiseOrder : GoodIn wsX6_findSlippedRegister wsX0_raiseOrder := goodIn_r _ [28, 8, 20, 46, 47] (by decide +kernel) (by decide +kernel)
set_option maxRecDepth 20000 in
theorem gX6_findSlippedRegister_X0_raiseOrder : GoodIn wsX6_findSlippedRegister (wsV RX6 247 RX0 yX0_raiseOrder wsX0_raiseOrder) := goodIn_app (goodIn_of _ (by decide +kernel)) ggX6_findSlippedRegister_X0_raiseOrder
theorem dX6_findSlippedRegister_0 : decode cX6_findSlippedRegister 0 = .ok (.aload_n 0, 1) := by decide +kernel
theorem dX6_findSlippedRegister_1 : decode cX6_findSlippedRegister 1 = .ok (.getfield 33, 3) := by decide +kernel
theorem dX6_findSlippedRegister_4 : decode cX6_findSlippedRegister 4 = .ok (.invokevirtual 240, 3) := by decide +kernel
theorem dX6_findSlippedRegister_7 : decode cX6_findSlippedRegister 7 = .ok (.iload_n 1, 1) := by decide +kernel
theorem dX6_findSlippedRegister_8 : decode cX6_findSlippedRegister 8 = .ok (.istore_n 2, 1) := by decide +kernel
theorem dX6_findSlippedRegister_9 : decode cX6_findSlippedRegister 9 = .ok (.iload_n 2, 1) := by decide +kernel
theorem dX6_findSlippedRegister_10 : decode cX6_findSlippedRegister 10 = .ok (.aload_n 0, 1) := by decide +kernel
theorem dX6_findSlippedRegister_11 : decode cX6_findSlippedRegister 11 = .ok (.getfield 10, 3) := by decide +kernel
theorem dX6_findSlippedRegister_14 : decode cX6_findSlippedRegister 14 = .ok (.getfield 76, 3) := by decide +kernel
theorem dX6_findSlippedRegister_17 : decode cX6_findSlippedRegister 17 = .ok (.if_icmp .ge 24, 3) := by decide +kernel
theorem dX6_findSlippedRegister_20 : decode cX6_findSlippedRegister 20 = .ok (.aload_n 0, 1) := by decide +kernel
theorem dX6_findSlippedRegister_21 : decode cX6_findSlippedRegister 21 = .ok (.getfield 33, 3) := by decide +kernel
theorem dX6_findSlippedRegister_24 : decode cX6_findSlippedRegister 24 = .ok (.aload_n 0, 1) := by decide +kernel
theorem dX6_findSlippedRegister_25 : decode cX6_findSlippedRegister 25 = .ok (.getfield 10, 3) := by decide +kernel
theorem dX6_findSlippedRegister_28 : decode cX6_findSlippedRegister 28 = .ok (.iload_n 2, 1) := by decide +kernel
theorem dX6_findSlippedRegister_29 : decode cX6_findSlippedRegister 29 = .ok (.invokevirtual 208, 3) := by decide +kernel
theorem dX6_findSlippedRegister_32 : decode cX6_findSlippedRegister 32 = .ok (.invokevirtual 243, 3) := by decide +kernel
theorem dX6_findSlippedRegister_35 : decode cX6_findSlippedRegister 35 = .ok (.iinc 2 1, 3) := by decide +kernel
theorem dX6_findSlippedRegister_38 : decode cX6_findSlippedRegister 38 = .ok (.goto (-29), 3) := by decide +kernel
theorem dX6_findSlippedRegister_41 : decode cX6_findSlippedRegister 41 = .ok (.iconst 0, 1) := by decide +kernel
theorem dX6_findSlippedRegister_42 : decode cX6_findSlippedRegister 42 = .ok (.istore_n 2, 1) := by decide +kernel
theorem dX6_findSlippedRegister_43 : decode cX6_findSlippedRegister 43 = .ok (.iload_n 2, 1) := by decide +kernel
theorem dX6_findSlippedRegister_44 : decode cX6_findSlippedRegister 44 = .ok (.bipush 6, 2) := by decide +kernel
theorem dX6_findSlippedRegister_46 : decode cX6_findSlippedRegister 46 = .ok (.if_icmp .ge 28, 3) := by decide +kernel
theorem dX6_findSlippedRegister_49 : decode cX6_findSlippedRegister 49 = .ok (.aload_n 0, 1) := by decide +kernel
theorem dX6_findSlippedRegister_50 : decode cX6_findSlippedRegister 50 = .ok (.getfield 33, 3) := by decide +kernel
theorem dX6_findSlippedRegister_53 : decode cX6_findSlippedRegister 53 = .ok (.invokevirtual 357, 3) := by decide +kernel
theorem dX6_findSlippedRegister_56 : decode cX6_findSlippedRegister 56 = .ok (.ifCond .eq 5, 3) := by decide +kernel
theorem dX6_findSlippedRegister_59 : decode cX6_findSlippedRegister 59 = .ok (.iload_n 2, 1) := by decide +kernel
theorem dX6_findSlippedRegister_60 : decode cX6_findSlippedRegister 60 = .ok (.ireturn, 1) := by decide +kernel
theorem dX6_findSlippedRegister_61 : decode cX6_findSlippedRegister 61 = .ok (.aload_n 0, 1) := by decide +kernel
theorem dX6_findSlippedRegister_62 : decode cX6_findSlippedRegister 62 = .ok (.getfield 33, 3) := by decide +kernel
theorem dX6_findSlippedRegister_65 : decode cX6_findSlippedRegister 65 = .ok (.invokevirtual 247, 3) := by decide +kernel
theorem dX6_findSlippedRegister_68 : decode cX6_findSlippedRegister 68 = .ok (.iinc 2 1, 3) := by decide +kernel
theorem dX6_findSlippedRegister_71 : decode cX6_findSlippedRegister 71 = .ok (.goto (-28), 3) := by decide +kernel
theorem dX6_findSlippedRegister_74 : decode cX6_findSlippedRegister 74 = .ok (.iconst (-1), 1) := by decide +kernel
theorem dX6_findSlippedRegister_75 : decode cX6_findSlippedRegister 75 = .ok (.ireturn, 1) := by decide +kernel
theorem dX6_mix_0 : decode cX6_mix 0 = .ok (.ldc2_w 360, 3) := by decide +kernel
theorem dX6_mix_3 : decode cX6_mix 3 = .ok (.lload_n 0, 1) := by decide +kernel
theorem dX6_mix_4 : decode cX6_mix 4 = .ok (.lmul, 1) := by decide +kernel
theorem dX6_mix_5 : decode cX6_mix 5 = .ok (.lload_n 2, 1) := by decide +kernel
theorem dX6_mix_6 : decode cX6_mix 6 = .ok (.ladd, 1) := by decide +kernel
theorem dX6_mix_7 : decode cX6_mix 7 = .ok (.lreturn, 1) := by decide +kernel
set_option maxRecDepth 20000 in
theorem ggX6_digestCounts_X6_count : GoodIn wsX6_digestCounts wsX6_count := goodIn_ca (goodIn_r _ [5, 6, 7, 8, 9, 10, 11, 12, 13, 14, 15, 16, 17, 18, 19, 20, 21, 22, 23, 24, 25, 26, 27, 28, 29, 30, 31, 32, 33, 34, 35, 36, 37, 38, 39, 40, 41, 42, 43, 44, 45, 46, 47, 48, 49, 50, 51, 52, 53, 54, 55, 4, 56, 57, 58, 59, 60, 61, 62, 63, 64, 65, 66, 67, 68, 69, 70, 71, 72, 73, 74, 75, 76, 77, 78, 79, 80, 81, 82, 83, 84, 85, 86, 87, 88, 89, 90, 91, 92, 93, 94, 103, 104, 105, 106, 107, 108, 109, 110, 111, 112, 113, 114, 115, 116, 117, 118, 119, 120, 121, 122, 123, 124, 125, 126, 127] (by decide +kernel) (by decide +kernel)) (goodIn_sub (fun _ h => List.mem_cons_of_mem _ (List.mem_append_right _ h)) (by decide +kernel))
set_option maxRecDepth 20000 in
theorem gX6_digestCounts_X6_count : GoodIn wsX6_digestCounts (wsV RX6 362 RX6 yX6_count wsX6_count) := goodIn_app (goodIn_of _ (by decide +kernel)) ggX6_digestCounts_X6_count
set_option maxRecDepth 20000 in
theorem ggX6_digestCounts_X6_mix : GoodIn wsX6_digestCounts wsX6_mix := goodIn_r _ [97, 98] (by decide +kernel) (by decide +kernel)
set_option maxRecDepth 20000 in
theorem gX6_digestCounts_X6_mix : GoodIn wsX6_digestCounts (va_wsS RX6 365 yX6_mix wsX6_mix) := goodIn_app (goodIn_of _ (by decide +kernel)) ggX6_digestCounts_X6_mix
set_option maxRecDepth 20000 in
theorem ggX6_digestCounts_X6_settingNow : GoodIn wsX6_digestCounts wsX6_settingNow := goodIn_r _ [102, 8, 103, 104, 105, 106, 107, 108, 109, 110, 111, 112, 113, 114, 115, 116, 117, 118, 119, 120, 121, 122] (by decide +kernel) (by decide +kernel)
set_option maxRecDepth 20000 in
theorem gX6_digestCounts_X6_settingNow : GoodIn wsX6_digestCounts (wsV RX6 151 RX6 yX6_settingNow wsX6_settingNow) := goodIn_app (goodIn_of _ (by decide +kernel)) ggX6_digestCounts_X6_settingNow
theorem dX6_digestCounts_0 : decode cX6_digestCounts 0 = .ok (.lload_n 1, 1) := by decide +kernel
theorem dX6_digestCounts_1 : decode cX6_digestCounts 1 = .ok (.lstore_n 3, 1) := by decide +kernel
theorem dX6_digestCounts_2 : decode cX6_digestCounts 2 = .ok (.iconst 0, 1) := by decide +kernel
theorem dX6_digestCounts_3 : decode cX6_digestCounts 3 = .ok (.istore 5, 2) := by decide +kernel
theorem dX6_digestCounts_5 : decode cX6_digestCounts 5 = .ok (.iload 5, 2) := by decide +kernel
theorem dX6_digestCounts_7 : decode cX6_digestCounts 7 = .ok (.bipush 12, 2) := by decide +kernel
theorem dX6_digestCounts_9 : decode cX6_digestCounts 9 = .ok (.if_icmp .ge 21, 3) := by decide +kernel
theorem dX6_digestCounts_12 : decode cX6_digestCounts 12 = .ok (.lload_n 3, 1) := by decide +kernel
theorem dX6_digestCounts_13 : decode cX6_digestCounts 13 = .ok (.aload_n 0, 1) := by decide +kernel
theorem dX6_digestCounts_14 : decode cX6_digestCounts 14 = .ok (.iload 5, 2) := by decide +kernel
theorem dX6_digestCounts_16 : decode cX6_digestCounts 16 = .ok (.invokevirtual 362, 3) := by decide +kernel
theorem dX6_digestCounts_19 : decode cX6_digestCounts 19 = .ok (.i2l, 1) := by decide +kernel
theorem dX6_digestCounts_20 : decode cX6_digestCounts 20 = .ok (.invokestatic 365, 3) := by decide +kernel
theorem dX6_digestCounts_23 : decode cX6_digestCounts 23 = .ok (.lstore_n 3, 1) := by decide +kernel
theorem dX6_digestCounts_24 : decode cX6_digestCounts 24 = .ok (.iinc 5 1, 3) := by decide +kernel
theorem dX6_digestCounts_27 : decode cX6_digestCounts 27 = .ok (.goto (-22), 3) := by decide +kernel
theorem dX6_digestCounts_30 : decode cX6_digestCounts 30 = .ok (.iconst 0, 1) := by decide +kernel
theorem dX6_digestCounts_31 : decode cX6_digestCounts 31 = .ok (.istore 5, 2) := by decide +kernel
theorem dX6_digestCounts_33 : decode cX6_digestCounts 33 = .ok (.iload 5, 2) := by decide +kernel
theorem dX6_digestCounts_35 : decode cX6_digestCounts 35 = .ok (.iconst 2, 1) := by decide +kernel
theorem dX6_digestCounts_36 : decode cX6_digestCounts 36 = .ok (.if_icmp .ge 21, 3) := by decide +kernel
theorem dX6_digestCounts_39 : decode cX6_digestCounts 39 = .ok (.lload_n 3, 1) := by decide +kernel
theorem dX6_digestCounts_40 : decode cX6_digestCounts 40 = .ok (.aload_n 0, 1) := by decide +kernel
theorem dX6_digestCounts_41 : decode cX6_digestCounts 41 = .ok (.iload 5, 2) := by decide +kernel
theorem dX6_digestCounts_43 : decode cX6_digestCounts 43 = .ok (.invokevirtual 151, 3) := by decide +kernel
theorem dX6_digestCounts_46 : decode cX6_digestCounts 46 = .ok (.i2l, 1) := by decide +kernel
theorem dX6_digestCounts_47 : decode cX6_digestCounts 47 = .ok (.invokestatic 365, 3) := by decide +kernel
theorem dX6_digestCounts_50 : decode cX6_digestCounts 50 = .ok (.lstore_n 3, 1) := by decide +kernel
theorem dX6_digestCounts_51 : decode cX6_digestCounts 51 = .ok (.iinc 5 1, 3) := by decide +kernel
theorem dX6_digestCounts_54 : decode cX6_digestCounts 54 = .ok (.goto (-21), 3) := by decide +kernel
theorem dX6_digestCounts_57 : decode cX6_digestCounts 57 = .ok (.lload_n 3, 1) := by decide +kernel
theorem dX6_digestCounts_58 : decode cX6_digestCounts 58 = .ok (.lreturn, 1) := by decide +kernel
set_option maxRecDepth 20000 in
theorem ggX6_digestRegisters_X6_putRegistersRight : GoodIn wsX6_digestRegisters wsX6_putRegistersRight := goodIn_r _ [7, 2, 8, 9, 10, 11, 12, 13, 14, 15, 16, 17, 18, 19, 20, 21, 22, 23, 24, 25, 26, 27, 28, 29, 30, 31, 32, 33, 34, 35, 36, 37, 42, 43, 44, 45, 46, 47, 48, 49, 50, 51, 52, 53, 54, 55, 56, 57, 58, 59, 60, 61] (by decide +kernel) (by decide +kernel)
set_option maxRecDepth 20000 in
theorem gX6_digestRegisters_X6_putRegistersRight : GoodIn wsX6_digestRegisters (wsV RX6 61 RX6 yX6_putRegistersRight wsX6_putRegistersRight) := goodIn_app (goodIn_of _ (by decide +kernel)) ggX6_digestRegisters_X6_putRegistersRight
set_option maxRecDepth 20000 in
theorem ggX6_digestRegisters_X6_mix : GoodIn wsX6_digestRegisters wsX6_mix := goodIn_r _ [40, 41] (by decide +kernel) (by decide +kernel)
set_option maxRecDepth 20000 in
theorem gX6_digestRegisters_X6_mix : GoodIn wsX6_digestRegisters (va_wsS RX6 365 yX6_mix wsX6_mix) := goodIn_app (goodIn_of _ (by decide +kernel)) ggX6_digestRegisters_X6_mix
theorem dX6_digestRegisters_0 : decode cX6_digestRegisters 0 = .ok (.lload_n 1, 1) := by decide +kernel
theorem dX6_digestRegisters_1 : decode cX6_digestRegisters 1 = .ok (.lstore_n 3, 1) := by decide +kernel
theorem dX6_digestRegisters_2 : decode cX6_digestRegisters 2 = .ok (.aload_n 0, 1) := by decide +kernel
theorem dX6_digestRegisters_3 : decode cX6_digestRegisters 3 = .ok (.aload_n 0, 1) := by decide +kernel
theorem dX6_digestRegisters_4 : decode cX6_digestRegisters 4 = .ok (.getfield 40, 3) := by decide +kernel
theorem dX6_digestRegisters_7 : decode cX6_digestRegisters 7 = .ok (.invokevirtual 61, 3) := by decide +kernel
theorem dX6_digestRegisters_10 : decode cX6_digestRegisters 10 = .ok (.iconst 0, 1) := by decide +kernel
theorem dX6_digestRegisters_11 : decode cX6_digestRegisters 11 = .ok (.istore 5, 2) := by decide +kernel
theorem dX6_digestRegisters_13 : decode cX6_digestRegisters 13 = .ok (.iload 5, 2) := by decide +kernel
theorem dX6_digestRegisters_15 : decode cX6_digestRegisters 15 = .ok (.bipush 6, 2) := by decide +kernel
theorem dX6_digestRegisters_17 : decode cX6_digestRegisters 17 = .ok (.if_icmp .ge 42, 3) := by decide +kernel
theorem dX6_digestRegisters_20 : decode cX6_digestRegisters 20 = .ok (.lload_n 3, 1) := by decide +kernel
theorem dX6_digestRegisters_21 : decode cX6_digestRegisters 21 = .ok (.aload_n 0, 1) := by decide +kernel
theorem dX6_digestRegisters_22 : decode cX6_digestRegisters 22 = .ok (.getfield 10, 3) := by decide +kernel
theorem dX6_digestRegisters_25 : decode cX6_digestRegisters 25 = .ok (.getfield 58, 3) := by decide +kernel
theorem dX6_digestRegisters_28 : decode cX6_digestRegisters 28 = .ok (.getfield 215, 3) := by decide +kernel
theorem dX6_digestRegisters_31 : decode cX6_digestRegisters 31 = .ok (.iload 5, 2) := by decide +kernel
theorem dX6_digestRegisters_33 : decode cX6_digestRegisters 33 = .ok (.laload, 1) := by decide +kernel
theorem dX6_digestRegisters_34 : decode cX6_digestRegisters 34 = .ok (.invokestatic 365, 3) := by decide +kernel
theorem dX6_digestRegisters_37 : decode cX6_digestRegisters 37 = .ok (.lstore_n 3, 1) := by decide +kernel
theorem dX6_digestRegisters_38 : decode cX6_digestRegisters 38 = .ok (.lload_n 3, 1) := by decide +kernel
theorem dX6_digestRegisters_39 : decode cX6_digestRegisters 39 = .ok (.aload_n 0, 1) := by decide +kernel
theorem dX6_digestRegisters_40 : decode cX6_digestRegisters 40 = .ok (.getfield 40, 3) := by decide +kernel
theorem dX6_digestRegisters_43 : decode cX6_digestRegisters 43 = .ok (.getfield 215, 3) := by decide +kernel
theorem dX6_digestRegisters_46 : decode cX6_digestRegisters 46 = .ok (.iload 5, 2) := by decide +kernel
theorem dX6_digestRegisters_48 : decode cX6_digestRegisters 48 = .ok (.laload, 1) := by decide +kernel
theorem dX6_digestRegisters_49 : decode cX6_digestRegisters 49 = .ok (.invokestatic 365, 3) := by decide +kernel
theorem dX6_digestRegisters_52 : decode cX6_digestRegisters 52 = .ok (.lstore_n 3, 1) := by decide +kernel
theorem dX6_digestRegisters_53 : decode cX6_digestRegisters 53 = .ok (.iinc 5 1, 3) := by decide +kernel
theorem dX6_digestRegisters_56 : decode cX6_digestRegisters 56 = .ok (.goto (-43), 3) := by decide +kernel
theorem dX6_digestRegisters_59 : decode cX6_digestRegisters 59 = .ok (.lload_n 3, 1) := by decide +kernel
theorem dX6_digestRegisters_60 : decode cX6_digestRegisters 60 = .ok (.lreturn, 1) := by decide +kernel
set_option maxRecDepth 20000 in
theorem ggX6_digestRows_X6_row : GoodIn wsX6_digestRows wsX6_row := goodIn_ca (goodIn_ca (goodIn_r _ [6, 7, 8, 9, 10, 1, 11, 12, 13, 14, 15, 16, 17, 18, 19, 20, 21, 22, 27, 28, 29, 30, 31, 32, 33, 34, 35, 36, 37, 38, 39, 40, 41, 42, 43] (by decide +kernel) (by decide +kernel)) (goodIn_sub (fun _ h => List.mem_cons_of_mem _ (List.mem_append_left _ (List.mem_append_right _ h))) (by decide +kernel))) (goodIn_sub (fun _ h => List.mem_cons_of_mem _ (List.mem_append_right _ h)) (by decide +kernel))
set_option maxRecDepth 20000 in
theorem gX6_digestRows_X6_row : GoodIn wsX6_digestRows (wsV RX6 369 RX6 yX6_row wsX6_row) := goodIn_app (goodIn_of _ (by decide +kernel)) ggX6_digestRows_X6_row
set_option maxRecDepth 20000 in
theorem ggX6_digestRows_X6_mix : GoodIn wsX6_digestRows wsX6_mix := goodIn_r _ [25, 26] (by decide +kernel) (by decide +kernel)
set_option maxRecDepth 20000 in
theorem gX6_digestRows_X6_mix : GoodIn wsX6_digestRows (va_wsS RX6 365 yX6_mix wsX6_mix) := goodIn_app (goodIn_of _ (by decide +kernel)) ggX6_digestRows_X6_mix
theorem dX6_digestRows_0 : decode cX6_digestRows 0 = .ok (.lload_n 1, 1) := by decide +kernel
theorem dX6_digestRows_1 : decode cX6_digestRows 1 = .ok (.lstore_n 3, 1) := by decide +kernel
theorem dX6_digestRows_2 : decode cX6_digestRows 2 = .ok (.iconst 0, 1) := by decide +kernel
theorem dX6_digestRows_3 : decode cX6_digestRows 3 = .ok (.istore 5, 2) := by decide +kernel
theorem dX6_digestRows_5 : decode cX6_digestRows 5 = .ok (.iload 5, 2) := by decide +kernel
theorem dX6_digestRows_7 : decode cX6_digestRows 7 = .ok (.aload_n 0, 1) := by decide +kernel
theorem dX6_digestRows_8 : decode cX6_digestRows 8 = .ok (.getfield 10, 3) := by decide +kernel
theorem dX6_digestRows_11 : decode cX6_digestRows 11 = .ok (.getfield 76, 3) := by decide +kernel
theorem dX6_digestRows_14 : decode cX6_digestRows 14 = .ok (.if_icmp .ge 37, 3) := by decide +kernel
theorem dX6_digestRows_17 : decode cX6_digestRows 17 = .ok (.iconst 0, 1) := by decide +kernel
theorem dX6_digestRows_18 : decode cX6_digestRows 18 = .ok (.istore 6, 2) := by decide +kernel
theorem dX6_digestRows_20 : decode cX6_digestRows 20 = .ok (.iload 6, 2) := by decide +kernel
theorem dX6_digestRows_22 : decode cX6_digestRows 22 = .ok (.iconst 5, 1) := by decide +kernel
theorem dX6_digestRows_23 : decode cX6_digestRows 23 = .ok (.if_icmp .ge 22, 3) := by decide +kernel
theorem dX6_digestRows_26 : decode cX6_digestRows 26 = .ok (.lload_n 3, 1) := by decide +kernel
theorem dX6_digestRows_27 : decode cX6_digestRows 27 = .ok (.aload_n 0, 1) := by decide +kernel
theorem dX6_digestRows_28 : decode cX6_digestRows 28 = .ok (.iload 5, 2) := by decide +kernel
theorem dX6_digestRows_30 : decode cX6_digestRows 30 = .ok (.iload 6, 2) := by decide +kernel
theorem dX6_digestRows_32 : decode cX6_digestRows 32 = .ok (.invokevirtual 369, 3) := by decide +kernel
theorem dX6_digestRows_35 : decode cX6_digestRows 35 = .ok (.invokestatic 365, 3) := by decide +kernel
theorem dX6_digestRows_38 : decode cX6_digestRows 38 = .ok (.lstore_n 3, 1) := by decide +kernel
theorem dX6_digestRows_39 : decode cX6_digestRows 39 = .ok (.iinc 6 1, 3) := by decide +kernel
theorem dX6_digestRows_42 : decode cX6_digestRows 42 = .ok (.goto (-22), 3) := by decide +kernel
theorem dX6_digestRows_45 : decode cX6_digestRows 45 = .ok (.iinc 5 1, 3) := by decide +kernel
theorem dX6_digestRows_48 : decode cX6_digestRows 48 = .ok (.goto (-43), 3) := by decide +kernel
theorem dX6_digestRows_51 : decode cX6_digestRows 51 = .ok (.lload_n 3, 1) := by decide +kernel
theorem dX6_digestRows_52 : decode cX6_digestRows 52 = .ok (.lreturn, 1) := by decide +kernel
set_option maxRecDepth 20000 in
theorem ggX6_digestGroups_X4_wholeGroups : GoodIn wsX6_digestGroups wsX4_wholeGroups := goodIn_r _ [6, 7, 50, 51, 52, 53, 54, 55, 56, 57, 58, 59] (by decide +kernel) (by decide +kernel)
set_option maxRecDepth 20000 in
theorem gX6_digestGroups_X4_wholeGroups : GoodIn wsX6_digestGroups (wsV RX6 220 RX4 yX4_wholeGroups wsX4_wholeGroups) := goodIn_app (goodIn_of _ (by decide +kernel)) ggX6_digestGroups_X4_wholeGroups
set_option maxRecDepth 20000 in
theorem ggX6_digestGroups_X6_group : GoodIn wsX6_digestGroups wsX6_group := goodIn_ca (goodIn_r _ [12, 13, 14, 1, 2, 3, 4, 5, 6, 7, 15, 16, 17, 18, 19, 20, 21, 22, 23, 24, 25, 26, 27, 28, 29, 30, 31, 32, 33, 34, 35, 36, 37, 38, 43, 44, 45, 46, 47, 48, 49, 50, 51, 52, 53, 54, 55, 56, 57, 58, 59] (by decide +kernel) (by decide +kernel)) (goodIn_sub (fun _ h => List.mem_cons_of_mem _ (List.mem_append_right _ h)) (by decide +kernel))
set_option maxRecDepth 20000 in
theorem gX6_digestGroups_X6_group : GoodIn wsX6_digestGroups (wsV RX6 372 RX6 yX6_group wsX6_group) := goodIn_app (goodIn_of _ (by decide +kernel)) ggX6_digestGroups_X6_group
set_option maxRecDepth 20000 in
theorem ggX6_digestGroups_X6_mix : GoodIn wsX6_digestGroups wsX6_mix := goodIn_r _ [41, 42] (by decide +kernel) (by decide +kernel)
set_option maxRecDepth 20000 in
theorem gX6_digestGroups_X6_mix : GoodIn wsX6_digestGroups (va_wsS RX6 365 yX6_mix wsX6_mix) := goodIn_app (goodIn_of _ (by decide +kernel)) ggX6_digestGroups_X6_mix
theorem dX6_digestGroups_0 : decode cX6_digestGroups 0 = .ok (.lload_n 1, 1) := by decide +kernel
theorem dX6_digestGroups_1 : decode cX6_digestGroups 1 = .ok (.lstore_n 3, 1) := by decide +kernel
theorem dX6_digestGroups_2 : decode cX6_digestGroups 2 = .ok (.aload_n 0, 1) := by decide +kernel
theorem dX6_digestGroups_3 : decode cX6_digestGroups 3 = .ok (.getfield 10, 3) := by decide +kernel
theorem dX6_digestGroups_6 : decode cX6_digestGroups 6 = .ok (.aload_n 0, 1) := by decide +kernel
theorem dX6_digestGroups_7 : decode cX6_digestGroups 7 = .ok (.getfield 10, 3) := by decide +kernel
theorem dX6_digestGroups_10 : decode cX6_digestGroups 10 = .ok (.getfield 154, 3) := by decide +kernel
theorem dX6_digestGroups_13 : decode cX6_digestGroups 13 = .ok (.invokevirtual 220, 3) := by decide +kernel
theorem dX6_digestGroups_16 : decode cX6_digestGroups 16 = .ok (.istore 5, 2) := by decide +kernel
theorem dX6_digestGroups_18 : decode cX6_digestGroups 18 = .ok (.iconst 0, 1) := by decide +kernel
theorem dX6_digestGroups_19 : decode cX6_digestGroups 19 = .ok (.istore 6, 2) := by decide +kernel
theorem dX6_digestGroups_21 : decode cX6_digestGroups 21 = .ok (.iload 6, 2) := by decide +kernel
theorem dX6_digestGroups_23 : decode cX6_digestGroups 23 = .ok (.iload 5, 2) := by decide +kernel
theorem dX6_digestGroups_25 : decode cX6_digestGroups 25 = .ok (.if_icmp .ge 37, 3) := by decide +kernel
theorem dX6_digestGroups_28 : decode cX6_digestGroups 28 = .ok (.iconst 0, 1) := by decide +kernel
theorem dX6_digestGroups_29 : decode cX6_digestGroups 29 = .ok (.istore 7, 2) := by decide +kernel
theorem dX6_digestGroups_31 : decode cX6_digestGroups 31 = .ok (.iload 7, 2) := by decide +kernel
theorem dX6_digestGroups_33 : decode cX6_digestGroups 33 = .ok (.iconst 4, 1) := by decide +kernel
theorem dX6_digestGroups_34 : decode cX6_digestGroups 34 = .ok (.if_icmp .ge 22, 3) := by decide +kernel
theorem dX6_digestGroups_37 : decode cX6_digestGroups 37 = .ok (.lload_n 3, 1) := by decide +kernel
theorem dX6_digestGroups_38 : decode cX6_digestGroups 38 = .ok (.aload_n 0, 1) := by decide +kernel
theorem dX6_digestGroups_39 : decode cX6_digestGroups 39 = .ok (.iload 6, 2) := by decide +kernel
theorem dX6_digestGroups_41 : decode cX6_digestGroups 41 = .ok (.iload 7, 2) := by decide +kernel
theorem dX6_digestGroups_43 : decode cX6_digestGroups 43 = .ok (.invokevirtual 372, 3) := by decide +kernel
theorem dX6_digestGroups_46 : decode cX6_digestGroups 46 = .ok (.invokestatic 365, 3) := by decide +kernel
theorem dX6_digestGroups_49 : decode cX6_digestGroups 49 = .ok (.lstore_n 3, 1) := by decide +kernel
theorem dX6_digestGroups_50 : decode cX6_digestGroups 50 = .ok (.iinc 7 1, 3) := by decide +kernel
theorem dX6_digestGroups_53 : decode cX6_digestGroups 53 = .ok (.goto (-22), 3) := by decide +kernel
theorem dX6_digestGroups_56 : decode cX6_digestGroups 56 = .ok (.iinc 6 1, 3) := by decide +kernel
theorem dX6_digestGroups_59 : decode cX6_digestGroups 59 = .ok (.goto (-38), 3) := by decide +kernel
theorem dX6_digestGroups_62 : decode cX6_digestGroups 62 = .ok (.lload_n 3, 1) := by decide +kernel
theorem dX6_digestGroups_63 : decode cX6_digestGroups 63 = .ok (.lreturn, 1) := by decide +kernel
set_option maxRecDepth 20000 in
theorem ggX6_digestDifferences_X6_difference : GoodIn wsX6_digestDifferences wsX6_difference := goodIn_ca (goodIn_ca (goodIn_r _ [6, 7, 8, 9, 10, 1, 11, 12, 13, 14, 15, 16, 17, 18, 19, 20, 21, 22, 23, 24, 25, 26, 27, 28, 29, 30, 31, 32, 33, 34, 35, 36, 41, 42, 43, 44, 45, 46, 47, 48, 49, 50, 51, 52, 53, 54, 55, 56, 57, 58, 59] (by decide +kernel) (by decide +kernel)) (goodIn_sub (fun _ h => List.mem_cons_of_mem _ (List.mem_append_left _ (List.mem_append_right _ h))) (by decide +kernel))) (goodIn_sub (fun _ h => List.mem_cons_of_mem _ (List.mem_append_right _ h)) (by decide +kernel))
set_option maxRecDepth 20000 in
theorem gX6_digestDifferences_X6_difference : GoodIn wsX6_digestDifferences (wsV RX6 375 RX6 yX6_difference wsX6_difference) := goodIn_app (goodIn_of _ (by decide +kernel)) ggX6_digestDifferences_X6_difference
set_option maxRecDepth 20000 in
theorem ggX6_digestDifferences_X6_mix : GoodIn wsX6_digestDifferences wsX6_mix := goodIn_r _ [39, 40] (by decide +kernel) (by decide +kernel)
set_option maxRecDepth 20000 in
theorem gX6_digestDifferences_X6_mix : GoodIn wsX6_digestDifferences (va_wsS RX6 365 yX6_mix wsX6_mix) := goodIn_app (goodIn_of _ (by decide +kernel)) ggX6_digestDifferences_X6_mix
theorem dX6_digestDifferences_0 : decode cX6_digestDifferences 0 = .ok (.lload_n 1, 1) := by decide +kernel
theorem dX6_digestDifferences_1 : decode cX6_digestDifferences 1 = .ok (.lstore_n 3, 1) := by decide +kernel
theorem dX6_digestDifferences_2 : decode cX6_digestDifferences 2 = .ok (.aload_n 0, 1) := by decide +kernel
theorem dX6_digestDifferences_3 : decode cX6_digestDifferences 3 = .ok (.getfield 10, 3) := by decide +kernel
theorem dX6_digestDifferences_6 : decode cX6_digestDifferences 6 = .ok (.getfield 76, 3) := by decide +kernel
theorem dX6_digestDifferences_9 : decode cX6_digestDifferences 9 = .ok (.ifCond .le 31, 3) := by decide +kernel
theorem dX6_digestDifferences_12 : decode cX6_digestDifferences 12 = .ok (.iconst 0, 1) := by decide +kernel
theorem dX6_digestDifferences_13 : decode cX6_digestDifferences 13 = .ok (.istore 5, 2) := by decide +kernel
theorem dX6_digestDifferences_15 : decode cX6_digestDifferences 15 = .ok (.iload 5, 2) := by decide +kernel
theorem dX6_digestDifferences_17 : decode cX6_digestDifferences 17 = .ok (.bipush 6, 2) := by decide +kernel
theorem dX6_digestDifferences_19 : decode cX6_digestDifferences 19 = .ok (.if_icmp .ge 21, 3) := by decide +kernel
theorem dX6_digestDifferences_22 : decode cX6_digestDifferences 22 = .ok (.lload_n 3, 1) := by decide +kernel
theorem dX6_digestDifferences_23 : decode cX6_digestDifferences 23 = .ok (.aload_n 0, 1) := by decide +kernel
theorem dX6_digestDifferences_24 : decode cX6_digestDifferences 24 = .ok (.iload 5, 2) := by decide +kernel
theorem dX6_digestDifferences_26 : decode cX6_digestDifferences 26 = .ok (.iconst 0, 1) := by decide +kernel
theorem dX6_digestDifferences_27 : decode cX6_digestDifferences 27 = .ok (.invokevirtual 375, 3) := by decide +kernel
theorem dX6_digestDifferences_30 : decode cX6_digestDifferences 30 = .ok (.invokestatic 365, 3) := by decide +kernel
theorem dX6_digestDifferences_33 : decode cX6_digestDifferences 33 = .ok (.lstore_n 3, 1) := by decide +kernel
theorem dX6_digestDifferences_34 : decode cX6_digestDifferences 34 = .ok (.iinc 5 1, 3) := by decide +kernel
theorem dX6_digestDifferences_37 : decode cX6_digestDifferences 37 = .ok (.goto (-22), 3) := by decide +kernel
theorem dX6_digestDifferences_40 : decode cX6_digestDifferences 40 = .ok (.lload_n 3, 1) := by decide +kernel
theorem dX6_digestDifferences_41 : decode cX6_digestDifferences 41 = .ok (.lreturn, 1) := by decide +kernel
set_option maxRecDepth 20000 in
theorem ggX6_digestTypes_X6_mix : GoodIn wsX6_digestTypes wsX6_mix := goodIn_r _ [5, 6] (by decide +kernel) (by decide +kernel)
set_option maxRecDepth 20000 in
theorem gX6_digestTypes_X6_mix : GoodIn wsX6_digestTypes (va_wsS RX6 365 yX6_mix wsX6_mix) := goodIn_app (goodIn_of _ (by decide +kernel)) ggX6_digestTypes_X6_mix
theorem dX6_digestTypes_0 : decode cX6_digestTypes 0 = .ok (.lload_n 1, 1) := by decide +kernel
theorem dX6_digestTypes_1 : decode cX6_digestTypes 1 = .ok (.lstore_n 3, 1) := by decide +kernel
theorem dX6_digestTypes_2 : decode cX6_digestTypes 2 = .ok (.iconst 0, 1) := by decide +kernel
theorem dX6_digestTypes_3 : decode cX6_digestTypes 3 = .ok (.istore 5, 2) := by decide +kernel
theorem dX6_digestTypes_5 : decode cX6_digestTypes 5 = .ok (.iload 5, 2) := by decide +kernel
theorem dX6_digestTypes_7 : decode cX6_digestTypes 7 = .ok (.bipush 10, 2) := by decide +kernel
theorem dX6_digestTypes_9 : decode cX6_digestTypes 9 = .ok (.if_icmp .ge 28, 3) := by decide +kernel
theorem dX6_digestTypes_12 : decode cX6_digestTypes 12 = .ok (.lload_n 3, 1) := by decide +kernel
theorem dX6_digestTypes_13 : decode cX6_digestTypes 13 = .ok (.aload_n 0, 1) := by decide +kernel
theorem dX6_digestTypes_14 : decode cX6_digestTypes 14 = .ok (.getfield 10, 3) := by decide +kernel
theorem dX6_digestTypes_17 : decode cX6_digestTypes 17 = .ok (.getfield 138, 3) := by decide +kernel
theorem dX6_digestTypes_20 : decode cX6_digestTypes 20 = .ok (.getfield 254, 3) := by decide +kernel
theorem dX6_digestTypes_23 : decode cX6_digestTypes 23 = .ok (.iload 5, 2) := by decide +kernel
theorem dX6_digestTypes_25 : decode cX6_digestTypes 25 = .ok (.iaload, 1) := by decide +kernel
theorem dX6_digestTypes_26 : decode cX6_digestTypes 26 = .ok (.i2l, 1) := by decide +kernel
theorem dX6_digestTypes_27 : decode cX6_digestTypes 27 = .ok (.invokestatic 365, 3) := by decide +kernel
theorem dX6_digestTypes_30 : decode cX6_digestTypes 30 = .ok (.lstore_n 3, 1) := by decide +kernel
theorem dX6_digestTypes_31 : decode cX6_digestTypes 31 = .ok (.iinc 5 1, 3) := by decide +kernel
theorem dX6_digestTypes_34 : decode cX6_digestTypes 34 = .ok (.goto (-29), 3) := by decide +kernel
theorem dX6_digestTypes_37 : decode cX6_digestTypes 37 = .ok (.lload_n 3, 1) := by decide +kernel
theorem dX6_digestTypes_38 : decode cX6_digestTypes 38 = .ok (.lreturn, 1) := by decide +kernel
set_option maxRecDepth 20000 in
theorem ggX6_digestForecasts_X6_guess : GoodIn wsX6_digestForecasts wsX6_guess := goodIn_ca (goodIn_r _ [5, 6, 7, 8, 9, 10, 11, 12, 13, 14, 15, 16, 17, 18, 19, 20, 21, 22, 23, 24, 25, 4, 26, 27, 28, 29, 30, 31, 32, 33, 34, 35, 36, 37, 38, 39, 40, 41, 42, 43, 44, 45, 46, 47, 48, 49, 50, 51, 52, 53, 143, 144, 145, 146, 147, 148, 149, 150, 151, 152, 153, 154, 155, 156, 157, 158, 159, 160, 161] (by decide +kernel) (by decide +kernel)) (goodIn_sub (fun _ h => List.mem_cons_of_mem _ (List.mem_append_right _ h)) (by decide +kernel))
set_option maxRecDepth 20000 in
theorem gX6_digestForecasts_X6_guess : GoodIn wsX6_digestForecasts (wsV RX6 378 RX6 yX6_guess wsX6_guess) := goodIn_app (goodIn_of _ (by decide +kernel)) ggX6_digestForecasts_X6_guess
set_option maxRecDepth 20000 in
theorem ggX6_digestForecasts_X6_mix : GoodIn wsX6_digestForecasts wsX6_mix := goodIn_r _ [56, 57] (by decide +kernel) (by decide +kernel)
set_option maxRecDepth 20000 in
theorem gX6_digestForecasts_X6_mix : GoodIn wsX6_digestForecasts (va_wsS RX6 365 yX6_mix wsX6_mix) := goodIn_app (goodIn_of _ (by decide +kernel)) ggX6_digestForecasts_X6_mix
set_option maxRecDepth 20000 in
theorem ggX6_digestForecasts_X6_ifPrinted : GoodIn wsX6_digestForecasts wsX6_ifPrinted := goodIn_ca (goodIn_r _ [61, 6, 7, 62, 8, 63, 64, 65, 66, 67, 68, 69, 70, 71, 72, 73, 74, 75, 76, 77, 78, 79, 80, 81, 82, 83, 84, 85, 86, 87, 88, 89, 14, 90, 91, 92, 93, 94, 95, 143, 144, 145, 146, 147, 148, 149, 150, 151, 152, 153, 154, 155, 156, 157, 158, 159, 162, 163, 164, 165] (by decide +kernel) (by decide +kernel)) (goodIn_sub (fun _ h => List.mem_cons_of_mem _ (List.mem_append_right _ h)) (by decide +kernel))
set_option maxRecDepth 20000 in
theorem gX6_digestForecasts_X6_ifPrinted : GoodIn wsX6_digestForecasts (wsV RX6 381 RX6 yX6_ifPrinted wsX6_ifPrinted) := goodIn_app (goodIn_of _ (by decide +kernel)) ggX6_digestForecasts_X6_ifPrinted
set_option maxRecDepth 20000 in
theorem ggX6_digestForecasts_X6_bestGroup : GoodIn wsX6_digestForecasts wsX6_bestGroup := goodIn_r _ [99, 8, 100, 101, 102, 14, 103, 16, 104, 105, 106, 107, 108, 109, 110, 111, 17, 18, 19, 20, 21, 22, 112, 113, 114, 115, 116, 117, 118, 119, 120, 121, 122, 123, 143, 144, 145, 146, 147, 148, 149, 150, 151, 152, 153, 154, 155, 156, 157, 158, 159] (by decide +kernel) (by decide +kernel)
set_option maxRecDepth 20000 in
theorem gX6_digestForecasts_X6_bestGroup : GoodIn wsX6_digestForecasts (wsV RX6 384 RX6 yX6_bestGroup wsX6_bestGroup) := goodIn_app (goodIn_of _ (by decide +kernel)) ggX6_digestForecasts_X6_bestGroup
set_option maxRecDepth 20000 in
theorem ggX6_digestForecasts_X6_mostWorn : GoodIn wsX6_digestForecasts wsX6_mostWorn := goodIn_r _ [127, 8, 143, 144, 145, 146, 147, 148, 149, 150, 151, 152, 153, 154, 155, 156, 157, 158, 159, 163, 164, 165] (by decide +kernel) (by decide +kernel)
set_option maxRecDepth 20000 in
theorem gX6_digestForecasts_X6_mostWorn : GoodIn wsX6_digestForecasts (wsV RX6 387 RX6 yX6_mostWorn wsX6_mostWorn) := goodIn_app (goodIn_of _ (by decide +kernel)) ggX6_digestForecasts_X6_mostWorn
set_option maxRecDepth 20000 in
theorem ggX6_digestForecasts_X6_rightness : GoodIn wsX6_digestForecasts wsX6_rightness := goodIn_r _ [131, 8, 132, 133, 134, 14, 135, 16, 136, 17, 18, 19, 20, 21, 22, 143, 144, 145, 146, 147, 148, 149, 150, 151, 152, 153, 154, 155, 156, 157, 158, 159] (by decide +kernel) (by decide +kernel)
set_option maxRecDepth 20000 in
theorem gX6_digestForecasts_X6_rightness : GoodIn wsX6_digestForecasts (wsV RX6 390 RX6 yX6_rightness wsX6_rightness) := goodIn_app (goodIn_of _ (by decide +kernel)) ggX6_digestForecasts_X6_rightness
set_option maxRecDepth 20000 in
theorem ggX6_digestForecasts_X6_bitsOfShare : GoodIn wsX6_digestForecasts wsX6_bitsOfShare := goodIn_r _ [139, 140, 141, 142] (by decide +kernel) (by decide +kernel)
set_option maxRecDepth 20000 in
theorem gX6_digestForecasts_X6_bitsOfShare : GoodIn wsX6_digestForecasts (va_wsS RX6 394 yX6_bitsOfShare wsX6_bitsOfShare) := goodIn_app (goodIn_of _ (by decide +kernel)) ggX6_digestForecasts_X6_bitsOfShare
theorem dX6_digestForecasts_0 : decode cX6_digestForecasts 0 = .ok (.lload_n 1, 1) := by decide +kernel
theorem dX6_digestForecasts_1 : decode cX6_digestForecasts 1 = .ok (.lstore_n 3, 1) := by decide +kernel
theorem dX6_digestForecasts_2 : decode cX6_digestForecasts 2 = .ok (.iconst 0, 1) := by decide +kernel
theorem dX6_digestForecasts_3 : decode cX6_digestForecasts 3 = .ok (.istore 5, 2) := by decide +kernel
theorem dX6_digestForecasts_5 : decode cX6_digestForecasts 5 = .ok (.iload 5, 2) := by decide +kernel
theorem dX6_digestForecasts_7 : decode cX6_digestForecasts 7 = .ok (.iconst 3, 1) := by decide +kernel
theorem dX6_digestForecasts_8 : decode cX6_digestForecasts 8 = .ok (.if_icmp .ge 20, 3) := by decide +kernel
theorem dX6_digestForecasts_11 : decode cX6_digestForecasts 11 = .ok (.lload_n 3, 1) := by decide +kernel
theorem dX6_digestForecasts_12 : decode cX6_digestForecasts 12 = .ok (.aload_n 0, 1) := by decide +kernel
theorem dX6_digestForecasts_13 : decode cX6_digestForecasts 13 = .ok (.iload 5, 2) := by decide +kernel
theorem dX6_digestForecasts_15 : decode cX6_digestForecasts 15 = .ok (.invokevirtual 378, 3) := by decide +kernel
theorem dX6_digestForecasts_18 : decode cX6_digestForecasts 18 = .ok (.invokestatic 365, 3) := by decide +kernel
theorem dX6_digestForecasts_21 : decode cX6_digestForecasts 21 = .ok (.lstore_n 3, 1) := by decide +kernel
theorem dX6_digestForecasts_22 : decode cX6_digestForecasts 22 = .ok (.iinc 5 1, 3) := by decide +kernel
theorem dX6_digestForecasts_25 : decode cX6_digestForecasts 25 = .ok (.goto (-20), 3) := by decide +kernel
theorem dX6_digestForecasts_28 : decode cX6_digestForecasts 28 = .ok (.iconst 0, 1) := by decide +kernel
theorem dX6_digestForecasts_29 : decode cX6_digestForecasts 29 = .ok (.istore 5, 2) := by decide +kernel
theorem dX6_digestForecasts_31 : decode cX6_digestForecasts 31 = .ok (.iload 5, 2) := by decide +kernel
theorem dX6_digestForecasts_33 : decode cX6_digestForecasts 33 = .ok (.iconst 3, 1) := by decide +kernel
theorem dX6_digestForecasts_34 : decode cX6_digestForecasts 34 = .ok (.if_icmp .ge 21, 3) := by decide +kernel
theorem dX6_digestForecasts_37 : decode cX6_digestForecasts 37 = .ok (.lload_n 3, 1) := by decide +kernel
theorem dX6_digestForecasts_38 : decode cX6_digestForecasts 38 = .ok (.aload_n 0, 1) := by decide +kernel
theorem dX6_digestForecasts_39 : decode cX6_digestForecasts 39 = .ok (.iconst 3, 1) := by decide +kernel
theorem dX6_digestForecasts_40 : decode cX6_digestForecasts 40 = .ok (.iload 5, 2) := by decide +kernel
theorem dX6_digestForecasts_42 : decode cX6_digestForecasts 42 = .ok (.invokevirtual 381, 3) := by decide +kernel
theorem dX6_digestForecasts_45 : decode cX6_digestForecasts 45 = .ok (.invokestatic 365, 3) := by decide +kernel
theorem dX6_digestForecasts_48 : decode cX6_digestForecasts 48 = .ok (.lstore_n 3, 1) := by decide +kernel
theorem dX6_digestForecasts_49 : decode cX6_digestForecasts 49 = .ok (.iinc 5 1, 3) := by decide +kernel
theorem dX6_digestForecasts_52 : decode cX6_digestForecasts 52 = .ok (.goto (-21), 3) := by decide +kernel
theorem dX6_digestForecasts_55 : decode cX6_digestForecasts 55 = .ok (.lload_n 3, 1) := by decide +kernel
theorem dX6_digestForecasts_56 : decode cX6_digestForecasts 56 = .ok (.aload_n 0, 1) := by decide +kernel
theorem dX6_digestForecasts_57 : decode cX6_digestForecasts 57 = .ok (.invokevirtual 384, 3) := by decide +kernel
theorem dX6_digestForecasts_60 : decode cX6_digestForecasts 60 = .ok (.i2l, 1) := by decide +kernel
theorem dX6_digestForecasts_61 : decode cX6_digestForecasts 61 = .ok (.invokestatic 365, 3) := by decide +kernel
theorem dX6_digestForecasts_64 : decode cX6_digestForecasts 64 = .ok (.lstore_n 3, 1) := by decide +kernel
theorem dX6_digestForecasts_65 : decode cX6_digestForecasts 65 = .ok (.lload_n 3, 1) := by decide +kernel
theorem dX6_digestForecasts_66 : decode cX6_digestForecasts 66 = .ok (.aload_n 0, 1) := by decide +kernel
theorem dX6_digestForecasts_67 : decode cX6_digestForecasts 67 = .ok (.invokevirtual 387, 3) := by decide +kernel
theorem dX6_digestForecasts_70 : decode cX6_digestForecasts 70 = .ok (.i2l, 1) := by decide +kernel
theorem dX6_digestForecasts_71 : decode cX6_digestForecasts 71 = .ok (.invokestatic 365, 3) := by decide +kernel
theorem dX6_digestForecasts_74 : decode cX6_digestForecasts 74 = .ok (.lstore_n 3, 1) := by decide +kernel
theorem dX6_digestForecasts_75 : decode cX6_digestForecasts 75 = .ok (.lload_n 3, 1) := by decide +kernel
theorem dX6_digestForecasts_76 : decode cX6_digestForecasts 76 = .ok (.aload_n 0, 1) := by decide +kernel
theorem dX6_digestForecasts_77 : decode cX6_digestForecasts 77 = .ok (.invokevirtual 390, 3) := by decide +kernel
theorem dX6_digestForecasts_80 : decode cX6_digestForecasts 80 = .ok (.invokestatic 394, 3) := by decide +kernel
theorem dX6_digestForecasts_83 : decode cX6_digestForecasts 83 = .ok (.invokestatic 365, 3) := by decide +kernel
theorem dX6_digestForecasts_86 : decode cX6_digestForecasts 86 = .ok (.lreturn, 1) := by decide +kernel
set_option maxRecDepth 20000 in
theorem ggX6_digestText_X6_mix : GoodIn wsX6_digestText wsX6_mix := goodIn_r _ [5, 6] (by decide +kernel) (by decide +kernel)
set_option maxRecDepth 20000 in
theorem gX6_digestText_X6_mix : GoodIn wsX6_digestText (va_wsS RX6 365 yX6_mix wsX6_mix) := goodIn_app (goodIn_of _ (by decide +kernel)) ggX6_digestText_X6_mix
set_option maxRecDepth 20000 in
theorem ggX6_digestText_X1_codeAt : GoodIn wsX6_digestText wsX1_codeAt := goodIn_r _ [11, 12, 13, 21, 22] (by decide +kernel) (by decide +kernel)
set_option maxRecDepth 20000 in
theorem gX6_digestText_X1_codeAt : GoodIn wsX6_digestText (wsV RX6 342 RX1 yX1_codeAt wsX1_codeAt) := goodIn_app (goodIn_of _ (by decide +kernel)) ggX6_digestText_X1_codeAt
theorem dX6_digestText_0 : decode cX6_digestText 0 = .ok (.lload_n 1, 1) := by decide +kernel
theorem dX6_digestText_1 : decode cX6_digestText 1 = .ok (.aload_n 0, 1) := by decide +kernel
theorem dX6_digestText_2 : decode cX6_digestText 2 = .ok (.getfield 26, 3) := by decide +kernel
theorem dX6_digestText_5 : decode cX6_digestText 5 = .ok (.getfield 174, 3) := by decide +kernel
theorem dX6_digestText_8 : decode cX6_digestText 8 = .ok (.i2l, 1) := by decide +kernel
theorem dX6_digestText_9 : decode cX6_digestText 9 = .ok (.invokestatic 365, 3) := by decide +kernel
theorem dX6_digestText_12 : decode cX6_digestText 12 = .ok (.lstore_n 3, 1) := by decide +kernel
theorem dX6_digestText_13 : decode cX6_digestText 13 = .ok (.iconst 0, 1) := by decide +kernel
theorem dX6_digestText_14 : decode cX6_digestText 14 = .ok (.istore 5, 2) := by decide +kernel
theorem dX6_digestText_16 : decode cX6_digestText 16 = .ok (.iload 5, 2) := by decide +kernel
theorem dX6_digestText_18 : decode cX6_digestText 18 = .ok (.aload_n 0, 1) := by decide +kernel
theorem dX6_digestText_19 : decode cX6_digestText 19 = .ok (.getfield 26, 3) := by decide +kernel
theorem dX6_digestText_22 : decode cX6_digestText 22 = .ok (.getfield 174, 3) := by decide +kernel
theorem dX6_digestText_25 : decode cX6_digestText 25 = .ok (.if_icmp .ge 24, 3) := by decide +kernel
theorem dX6_digestText_28 : decode cX6_digestText 28 = .ok (.lload_n 3, 1) := by decide +kernel
theorem dX6_digestText_29 : decode cX6_digestText 29 = .ok (.aload_n 0, 1) := by decide +kernel
theorem dX6_digestText_30 : decode cX6_digestText 30 = .ok (.getfield 26, 3) := by decide +kernel
theorem dX6_digestText_33 : decode cX6_digestText 33 = .ok (.iload 5, 2) := by decide +kernel
theorem dX6_digestText_35 : decode cX6_digestText 35 = .ok (.invokevirtual 342, 3) := by decide +kernel
theorem dX6_digestText_38 : decode cX6_digestText 38 = .ok (.i2l, 1) := by decide +kernel
theorem dX6_digestText_39 : decode cX6_digestText 39 = .ok (.invokestatic 365, 3) := by decide +kernel
theorem dX6_digestText_42 : decode cX6_digestText 42 = .ok (.lstore_n 3, 1) := by decide +kernel
theorem dX6_digestText_43 : decode cX6_digestText 43 = .ok (.iinc 5 1, 3) := by decide +kernel
theorem dX6_digestText_46 : decode cX6_digestText 46 = .ok (.goto (-30), 3) := by decide +kernel
theorem dX6_digestText_49 : decode cX6_digestText 49 = .ok (.lload_n 3, 1) := by decide +kernel
theorem dX6_digestText_50 : decode cX6_digestText 50 = .ok (.lreturn, 1) := by decide +kernel
theorem dX6_bitsOfShare_0 : decode cX6_bitsOfShare 0 = .ok (.dload_n 0, 1) := by decide +kernel
theorem dX6_bitsOfShare_1 : decode cX6_bitsOfShare 1 = .ok (.dconst 0, 1) := by decide +kernel
theorem dX6_bitsOfShare_2 : decode cX6_bitsOfShare 2 = .ok (.dcmp .g, 1) := by decide +kernel
theorem dX6_bitsOfShare_3 : decode cX6_bitsOfShare 3 = .ok (.ifCond .gt 5, 3) := by decide +kernel
theorem dX6_bitsOfShare_6 : decode cX6_bitsOfShare 6 = .ok (.lconst 0, 1) := by decide +kernel
theorem dX6_bitsOfShare_7 : decode cX6_bitsOfShare 7 = .ok (.lreturn, 1) := by decide +kernel
theorem dX6_bitsOfShare_8 : decode cX6_bitsOfShare 8 = .ok (.dload_n 0, 1) := by decide +kernel
theorem dX6_bitsOfShare_9 : decode cX6_bitsOfShare 9 = .ok (.dstore_n 2, 1) := by decide +kernel
theorem dX6_bitsOfShare_10 : decode cX6_bitsOfShare 10 = .ok (.ldc2_w 398, 3) := by decide +kernel
theorem dX6_bitsOfShare_13 : decode cX6_bitsOfShare 13 = .ok (.lstore 4, 2) := by decide +kernel
theorem dX6_bitsOfShare_15 : decode cX6_bitsOfShare 15 = .ok (.iconst 0, 1) := by decide +kernel
theorem dX6_bitsOfShare_16 : decode cX6_bitsOfShare 16 = .ok (.istore 6, 2) := by decide +kernel
theorem dX6_bitsOfShare_18 : decode cX6_bitsOfShare 18 = .ok (.iload 6, 2) := by decide +kernel
theorem dX6_bitsOfShare_20 : decode cX6_bitsOfShare 20 = .ok (.bipush 40, 2) := by decide +kernel
theorem dX6_bitsOfShare_22 : decode cX6_bitsOfShare 22 = .ok (.if_icmp .ge 27, 3) := by decide +kernel
theorem dX6_bitsOfShare_25 : decode cX6_bitsOfShare 25 = .ok (.dload_n 2, 1) := by decide +kernel
theorem dX6_bitsOfShare_26 : decode cX6_bitsOfShare 26 = .ok (.dconst 1, 1) := by decide +kernel
theorem dX6_bitsOfShare_27 : decode cX6_bitsOfShare 27 = .ok (.dcmp .g, 1) := by decide +kernel
theorem dX6_bitsOfShare_28 : decode cX6_bitsOfShare 28 = .ok (.ifCond .ge 21, 3) := by decide +kernel
theorem dX6_bitsOfShare_31 : decode cX6_bitsOfShare 31 = .ok (.dload_n 2, 1) := by decide +kernel
theorem dX6_bitsOfShare_32 : decode cX6_bitsOfShare 32 = .ok (.ldc2_w 400, 3) := by decide +kernel
theorem dX6_bitsOfShare_35 : decode cX6_bitsOfShare 35 = .ok (.dmul, 1) := by decide +kernel
theorem dX6_bitsOfShare_36 : decode cX6_bitsOfShare 36 = .ok (.dstore_n 2, 1) := by decide +kernel
theorem dX6_bitsOfShare_37 : decode cX6_bitsOfShare 37 = .ok (.lload 4, 2) := by decide +kernel
theorem dX6_bitsOfShare_39 : decode cX6_bitsOfShare 39 = .ok (.lconst 1, 1) := by decide +kernel
theorem dX6_bitsOfShare_40 : decode cX6_bitsOfShare 40 = .ok (.lsub, 1) := by decide +kernel
theorem dX6_bitsOfShare_41 : decode cX6_bitsOfShare 41 = .ok (.lstore 4, 2) := by decide +kernel
theorem dX6_bitsOfShare_43 : decode cX6_bitsOfShare 43 = .ok (.iinc 6 1, 3) := by decide +kernel
theorem dX6_bitsOfShare_46 : decode cX6_bitsOfShare 46 = .ok (.goto (-28), 3) := by decide +kernel
theorem dX6_bitsOfShare_49 : decode cX6_bitsOfShare 49 = .ok (.dload_n 2, 1) := by decide +kernel
theorem dX6_bitsOfShare_50 : decode cX6_bitsOfShare 50 = .ok (.dconst 1, 1) := by decide +kernel
theorem dX6_bitsOfShare_51 : decode cX6_bitsOfShare 51 = .ok (.dsub, 1) := by decide +kernel
theorem dX6_bitsOfShare_52 : decode cX6_bitsOfShare 52 = .ok (.ldc2_w 402, 3) := by decide +kernel
theorem dX6_bitsOfShare_55 : decode cX6_bitsOfShare 55 = .ok (.dmul, 1) := by decide +kernel
theorem dX6_bitsOfShare_56 : decode cX6_bitsOfShare 56 = .ok (.d2l, 1) := by decide +kernel
theorem dX6_bitsOfShare_57 : decode cX6_bitsOfShare 57 = .ok (.lstore 6, 2) := by decide +kernel
theorem dX6_bitsOfShare_59 : decode cX6_bitsOfShare 59 = .ok (.lload 4, 2) := by decide +kernel
theorem dX6_bitsOfShare_61 : decode cX6_bitsOfShare 61 = .ok (.bipush 52, 2) := by decide +kernel
theorem dX6_bitsOfShare_63 : decode cX6_bitsOfShare 63 = .ok (.lshl, 1) := by decide +kernel
theorem dX6_bitsOfShare_64 : decode cX6_bitsOfShare 64 = .ok (.lload 6, 2) := by decide +kernel
theorem dX6_bitsOfShare_66 : decode cX6_bitsOfShare 66 = .ok (.ladd, 1) := by decide +kernel
theorem dX6_bitsOfShare_67 : decode cX6_bitsOfShare 67 = .ok (.lreturn, 1) := by decide +kernel
