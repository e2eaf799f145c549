set_option maxRecDepth 20000 in
theorem ggX7_init_X7_corrects : GoodIn wsX7_init wsX7_corrects := goodIn_r _ [18, 19, 20, 17, 21, 22, 23, 24, 25, 26, 27] (by decide +kernel) (by decide +kernel)
set_option maxRecDepth 20000 in
theorem gX7_init_X7_corrects : GoodIn wsX7_init (va_wsS RX7 35 yX7_corrects wsX7_corrects) := goodIn_app (goodIn_of _ (by decide +kernel)) ggX7_init_X7_corrects
theorem dX7_init_0 : decode cX7_init 0 = .ok (.aload_n 0, 1) := by decide +kernel
theorem dX7_init_1 : decode cX7_init 1 = .ok (.invokespecial 1, 3) := by decide +kernel
theorem dX7_init_4 : decode cX7_init 4 = .ok (.aload_n 0, 1) := by decide +kernel
theorem dX7_init_5 : decode cX7_init 5 = .ok (.bipush 103, 2) := by decide +kernel
theorem dX7_init_7 : decode cX7_init 7 = .ok (.newarray .long, 2) := by decide +kernel
theorem dX7_init_9 : decode cX7_init 9 = .ok (.putfield 7, 3) := by decide +kernel
theorem dX7_init_12 : decode cX7_init 12 = .ok (.aload_n 0, 1) := by decide +kernel
theorem dX7_init_13 : decode cX7_init 13 = .ok (.bipush 103, 2) := by decide +kernel
theorem dX7_init_15 : decode cX7_init 15 = .ok (.newarray .long, 2) := by decide +kernel
theorem dX7_init_17 : decode cX7_init 17 = .ok (.putfield 13, 3) := by decide +kernel
theorem dX7_init_20 : decode cX7_init 20 = .ok (.aload_n 0, 1) := by decide +kernel
theorem dX7_init_21 : decode cX7_init 21 = .ok (.sipush 618, 3) := by decide +kernel
theorem dX7_init_24 : decode cX7_init 24 = .ok (.newarray .long, 2) := by decide +kernel
theorem dX7_init_26 : decode cX7_init 26 = .ok (.putfield 16, 3) := by decide +kernel
theorem dX7_init_29 : decode cX7_init 29 = .ok (.aload_n 0, 1) := by decide +kernel
theorem dX7_init_30 : decode cX7_init 30 = .ok (.bipush 60, 2) := by decide +kernel
theorem dX7_init_32 : decode cX7_init 32 = .ok (.newarray .int, 2) := by decide +kernel
theorem dX7_init_34 : decode cX7_init 34 = .ok (.putfield 19, 3) := by decide +kernel
theorem dX7_init_37 : decode cX7_init 37 = .ok (.aload_n 0, 1) := by decide +kernel
theorem dX7_init_38 : decode cX7_init 38 = .ok (.bipush 124, 2) := by decide +kernel
theorem dX7_init_40 : decode cX7_init 40 = .ok (.newarray .int, 2) := by decide +kernel
theorem dX7_init_42 : decode cX7_init 42 = .ok (.putfield 23, 3) := by decide +kernel
theorem dX7_init_45 : decode cX7_init 45 = .ok (.aload_n 0, 1) := by decide +kernel
theorem dX7_init_46 : decode cX7_init 46 = .ok (.bipush 40, 2) := by decide +kernel
theorem dX7_init_48 : decode cX7_init 48 = .ok (.newarray .long, 2) := by decide +kernel
theorem dX7_init_50 : decode cX7_init 50 = .ok (.putfield 26, 3) := by decide +kernel
theorem dX7_init_53 : decode cX7_init 53 = .ok (.aload_n 0, 1) := by decide +kernel
theorem dX7_init_54 : decode cX7_init 54 = .ok (.getfield 7, 3) := by decide +kernel
theorem dX7_init_57 : decode cX7_init 57 = .ok (.iconst 0, 1) := by decide +kernel
theorem dX7_init_58 : decode cX7_init 58 = .ok (.ldc2_w 29, 3) := by decide +kernel
theorem dX7_init_61 : decode cX7_init 61 = .ok (.lastore, 1) := by decide +kernel
theorem dX7_init_62 : decode cX7_init 62 = .ok (.aload_n 0, 1) := by decide +kernel
theorem dX7_init_63 : decode cX7_init 63 = .ok (.getfield 7, 3) := by decide +kernel
theorem dX7_init_66 : decode cX7_init 66 = .ok (.iconst 1, 1) := by decide +kernel
theorem dX7_init_67 : decode cX7_init 67 = .ok (.ldc2_w 31, 3) := by decide +kernel
theorem dX7_init_70 : decode cX7_init 70 = .ok (.lastore, 1) := by decide +kernel
theorem dX7_init_71 : decode cX7_init 71 = .ok (.aload_n 0, 1) := by decide +kernel
theorem dX7_init_72 : decode cX7_init 72 = .ok (.getfield 7, 3) := by decide +kernel
theorem dX7_init_75 : decode cX7_init 75 = .ok (.iconst 2, 1) := by decide +kernel
theorem dX7_init_76 : decode cX7_init 76 = .ok (.ldc2_w 33, 3) := by decide +kernel
theorem dX7_init_79 : decode cX7_init 79 = .ok (.lastore, 1) := by decide +kernel
theorem dX7_init_80 : decode cX7_init 80 = .ok (.aload_n 0, 1) := by decide +kernel
theorem dX7_init_81 : decode cX7_init 81 = .ok (.getfield 7, 3) := by decide +kernel
theorem dX7_init_84 : decode cX7_init 84 = .ok (.invokestatic 35, 3) := by decide +kernel
theorem dX7_init_87 : decode cX7_init 87 = .ok (.pop, 1) := by decide +kernel
theorem dX7_init_88 : decode cX7_init 88 = .ok (.return_, 1) := by decide +kernel
theorem dX7_thrown_0 : decode cX7_thrown 0 = .ok (.aload_n 0, 1) := by decide +kernel
theorem dX7_thrown_1 : decode cX7_thrown 1 = .ok (.getfield 39, 3) := by decide +kernel
theorem dX7_thrown_4 : decode cX7_thrown 4 = .ok (.ireturn, 1) := by decide +kernel
theorem dX7_fails_0 : decode cX7_fails 0 = .ok (.aload_n 0, 1) := by decide +kernel
theorem dX7_fails_1 : decode cX7_fails 1 = .ok (.iload_n 1, 1) := by decide +kernel
theorem dX7_fails_2 : decode cX7_fails 2 = .ok (.putfield 39, 3) := by decide +kernel
theorem dX7_fails_5 : decode cX7_fails 5 = .ok (.iconst 0, 1) := by decide +kernel
theorem dX7_fails_6 : decode cX7_fails 6 = .ok (.ireturn, 1) := by decide +kernel
theorem dX7_in_0 : decode cX7_in 0 = .ok (.lload_n 0, 1) := by decide +kernel
theorem dX7_in_1 : decode cX7_in 1 = .ok (.lload_n 2, 1) := by decide +kernel
theorem dX7_in_2 : decode cX7_in 2 = .ok (.lcmp, 1) := by decide +kernel
theorem dX7_in_3 : decode cX7_in 3 = .ok (.ifCond .lt 14, 3) := by decide +kernel
theorem dX7_in_6 : decode cX7_in 6 = .ok (.lload_n 0, 1) := by decide +kernel
theorem dX7_in_7 : decode cX7_in 7 = .ok (.lload 4, 2) := by decide +kernel
theorem dX7_in_9 : decode cX7_in 9 = .ok (.lcmp, 1) := by decide +kernel
theorem dX7_in_10 : decode cX7_in 10 = .ok (.ifCond .gt 7, 3) := by decide +kernel
theorem dX7_in_13 : decode cX7_in 13 = .ok (.iconst 1, 1) := by decide +kernel
theorem dX7_in_14 : decode cX7_in 14 = .ok (.goto 4, 3) := by decide +kernel
theorem dX7_in_17 : decode cX7_in 17 = .ok (.iconst 0, 1) := by decide +kernel
theorem dX7_in_18 : decode cX7_in 18 = .ok (.ireturn, 1) := by decide +kernel
set_option maxRecDepth 20000 in
theorem ggX7_isRow_X7_in : GoodIn wsX7_isRow wsX7_in := goodIn_r _ [5] (by decide +kernel) (by decide +kernel)
set_option maxRecDepth 20000 in
theorem gX7_isRow_X7_in : GoodIn wsX7_isRow (va_wsS RX7 43 yX7_in wsX7_in) := goodIn_app (goodIn_of _ (by decide +kernel)) ggX7_isRow_X7_in
theorem dX7_isRow_0 : decode cX7_isRow 0 = .ok (.iload_n 1, 1) := by decide +kernel
theorem dX7_isRow_1 : decode cX7_isRow 1 = .ok (.i2l, 1) := by decide +kernel
theorem dX7_isRow_2 : decode cX7_isRow 2 = .ok (.lconst 0, 1) := by decide +kernel
theorem dX7_isRow_3 : decode cX7_isRow 3 = .ok (.aload_n 0, 1) := by decide +kernel
theorem dX7_isRow_4 : decode cX7_isRow 4 = .ok (.getfield 7, 3) := by decide +kernel
theorem dX7_isRow_7 : decode cX7_isRow 7 = .ok (.iconst 4, 1) := by decide +kernel
theorem dX7_isRow_8 : decode cX7_isRow 8 = .ok (.laload, 1) := by decide +kernel
theorem dX7_isRow_9 : decode cX7_isRow 9 = .ok (.lconst 1, 1) := by decide +kernel
theorem dX7_isRow_10 : decode cX7_isRow 10 = .ok (.lsub, 1) := by decide +kernel
theorem dX7_isRow_11 : decode cX7_isRow 11 = .ok (.invokestatic 43, 3) := by decide +kernel
theorem dX7_isRow_14 : decode cX7_isRow 14 = .ok (.ireturn, 1) := by decide +kernel
theorem dX7_saves_0 : decode cX7_saves 0 = .ok (.aload_n 0, 1) := by decide +kernel
theorem dX7_saves_1 : decode cX7_saves 1 = .ok (.getfield 47, 3) := by decide +kernel
theorem dX7_saves_4 : decode cX7_saves 4 = .ok (.bipush 6, 2) := by decide +kernel
theorem dX7_saves_6 : decode cX7_saves 6 = .ok (.if_icmp .ne 43, 3) := by decide +kernel
theorem dX7_saves_9 : decode cX7_saves 9 = .ok (.iconst 0, 1) := by decide +kernel
theorem dX7_saves_10 : decode cX7_saves 10 = .ok (.istore_n 1, 1) := by decide +kernel
theorem dX7_saves_11 : decode cX7_saves 11 = .ok (.iload_n 1, 1) := by decide +kernel
theorem dX7_saves_12 : decode cX7_saves 12 = .ok (.sipush 515, 3) := by decide +kernel
theorem dX7_saves_15 : decode cX7_saves 15 = .ok (.if_icmp .ge 24, 3) := by decide +kernel
theorem dX7_saves_18 : decode cX7_saves 18 = .ok (.aload_n 0, 1) := by decide +kernel
theorem dX7_saves_19 : decode cX7_saves 19 = .ok (.getfield 16, 3) := by decide +kernel
theorem dX7_saves_22 : decode cX7_saves 22 = .ok (.iload_n 1, 1) := by decide +kernel
theorem dX7_saves_23 : decode cX7_saves 23 = .ok (.aload_n 0, 1) := by decide +kernel
theorem dX7_saves_24 : decode cX7_saves 24 = .ok (.getfield 16, 3) := by decide +kernel
theorem dX7_saves_27 : decode cX7_saves 27 = .ok (.iload_n 1, 1) := by decide +kernel
theorem dX7_saves_28 : decode cX7_saves 28 = .ok (.bipush 103, 2) := by decide +kernel
theorem dX7_saves_30 : decode cX7_saves 30 = .ok (.iadd, 1) := by decide +kernel
theorem dX7_saves_31 : decode cX7_saves 31 = .ok (.laload, 1) := by decide +kernel
theorem dX7_saves_32 : decode cX7_saves 32 = .ok (.lastore, 1) := by decide +kernel
theorem dX7_saves_33 : decode cX7_saves 33 = .ok (.iinc 1 1, 3) := by decide +kernel
theorem dX7_saves_36 : decode cX7_saves 36 = .ok (.goto (-25), 3) := by decide +kernel
theorem dX7_saves_39 : decode cX7_saves 39 = .ok (.aload_n 0, 1) := by decide +kernel
theorem dX7_saves_40 : decode cX7_saves 40 = .ok (.dup, 1) := by decide +kernel
theorem dX7_saves_41 : decode cX7_saves 41 = .ok (.getfield 47, 3) := by decide +kernel
theorem dX7_saves_44 : decode cX7_saves 44 = .ok (.iconst 1, 1) := by decide +kernel
theorem dX7_saves_45 : decode cX7_saves 45 = .ok (.isub, 1) := by decide +kernel
theorem dX7_saves_46 : decode cX7_saves 46 = .ok (.putfield 47, 3) := by decide +kernel
theorem dX7_saves_49 : decode cX7_saves 49 = .ok (.iconst 0, 1) := by decide +kernel
theorem dX7_saves_50 : decode cX7_saves 50 = .ok (.istore_n 1, 1) := by decide +kernel
theorem dX7_saves_51 : decode cX7_saves 51 = .ok (.iload_n 1, 1) := by decide +kernel
theorem dX7_saves_52 : decode cX7_saves 52 = .ok (.bipush 103, 2) := by decide +kernel
theorem dX7_saves_54 : decode cX7_saves 54 = .ok (.if_icmp .ge 29, 3) := by decide +kernel
theorem dX7_saves_57 : decode cX7_saves 57 = .ok (.aload_n 0, 1) := by decide +kernel
theorem dX7_saves_58 : decode cX7_saves 58 = .ok (.getfield 16, 3) := by decide +kernel
theorem dX7_saves_61 : decode cX7_saves 61 = .ok (.bipush 103, 2) := by decide +kernel
theorem dX7_saves_63 : decode cX7_saves 63 = .ok (.aload_n 0, 1) := by decide +kernel
theorem dX7_saves_64 : decode cX7_saves 64 = .ok (.getfield 47, 3) := by decide +kernel
theorem dX7_saves_67 : decode cX7_saves 67 = .ok (.imul, 1) := by decide +kernel
theorem dX7_saves_68 : decode cX7_saves 68 = .ok (.iload_n 1, 1) := by decide +kernel
theorem dX7_saves_69 : decode cX7_saves 69 = .ok (.iadd, 1) := by decide +kernel
theorem dX7_saves_70 : decode cX7_saves 70 = .ok (.aload_n 0, 1) := by decide +kernel
theorem dX7_saves_71 : decode cX7_saves 71 = .ok (.getfield 7, 3) := by decide +kernel
theorem dX7_saves_74 : decode cX7_saves 74 = .ok (.iload_n 1, 1) := by decide +kernel
theorem dX7_saves_75 : decode cX7_saves 75 = .ok (.laload, 1) := by decide +kernel
theorem dX7_saves_76 : decode cX7_saves 76 = .ok (.lastore, 1) := by decide +kernel
theorem dX7_saves_77 : decode cX7_saves 77 = .ok (.iinc 1 1, 3) := by decide +kernel
theorem dX7_saves_80 : decode cX7_saves 80 = .ok (.goto (-29), 3) := by decide +kernel
theorem dX7_saves_83 : decode cX7_saves 83 = .ok (.aload_n 0, 1) := by decide +kernel
theorem dX7_saves_84 : decode cX7_saves 84 = .ok (.dup, 1) := by decide +kernel
theorem dX7_saves_85 : decode cX7_saves 85 = .ok (.getfield 47, 3) := by decide +kernel
theorem dX7_saves_88 : decode cX7_saves 88 = .ok (.iconst 1, 1) := by decide +kernel
theorem dX7_saves_89 : decode cX7_saves 89 = .ok (.iadd, 1) := by decide +kernel
theorem dX7_saves_90 : decode cX7_saves 90 = .ok (.putfield 47, 3) := by decide +kernel
theorem dX7_saves_93 : decode cX7_saves 93 = .ok (.return_, 1) := by decide +kernel
set_option maxRecDepth 20000 in
theorem ggX7_undo_X7_fails : GoodIn wsX7_undo wsX7_fails := goodIn_r _ [9, 1, 10, 11, 12, 13, 14, 15, 16, 17, 18, 19, 20, 21] (by decide +kernel) (by decide +kernel)
set_option maxRecDepth 20000 in
theorem gX7_undo_X7_fails : GoodIn wsX7_undo (wsV RX7 50 RX7 yX7_fails wsX7_fails) := goodIn_app (goodIn_of _ (by decide +kernel)) ggX7_undo_X7_fails
theorem dX7_undo_0 : decode cX7_undo 0 = .ok (.aload_n 0, 1) := by decide +kernel
theorem dX7_undo_1 : decode cX7_undo 1 = .ok (.iconst 0, 1) := by decide +kernel
theorem dX7_undo_2 : decode cX7_undo 2 = .ok (.putfield 39, 3) := by decide +kernel
theorem dX7_undo_5 : decode cX7_undo 5 = .ok (.aload_n 0, 1) := by decide +kernel
theorem dX7_undo_6 : decode cX7_undo 6 = .ok (.getfield 47, 3) := by decide +kernel
theorem dX7_undo_9 : decode cX7_undo 9 = .ok (.ifCond .ne 9, 3) := by decide +kernel
theorem dX7_undo_12 : decode cX7_undo 12 = .ok (.aload_n 0, 1) := by decide +kernel
theorem dX7_undo_13 : decode cX7_undo 13 = .ok (.iconst 1, 1) := by decide +kernel
theorem dX7_undo_14 : decode cX7_undo 14 = .ok (.invokevirtual 50, 3) := by decide +kernel
theorem dX7_undo_17 : decode cX7_undo 17 = .ok (.ireturn, 1) := by decide +kernel
theorem dX7_undo_18 : decode cX7_undo 18 = .ok (.aload_n 0, 1) := by decide +kernel
theorem dX7_undo_19 : decode cX7_undo 19 = .ok (.dup, 1) := by decide +kernel
theorem dX7_undo_20 : decode cX7_undo 20 = .ok (.getfield 47, 3) := by decide +kernel
theorem dX7_undo_23 : decode cX7_undo 23 = .ok (.iconst 1, 1) := by decide +kernel
theorem dX7_undo_24 : decode cX7_undo 24 = .ok (.isub, 1) := by decide +kernel
theorem dX7_undo_25 : decode cX7_undo 25 = .ok (.putfield 47, 3) := by decide +kernel
theorem dX7_undo_28 : decode cX7_undo 28 = .ok (.iconst 0, 1) := by decide +kernel
theorem dX7_undo_29 : decode cX7_undo 29 = .ok (.istore_n 1, 1) := by decide +kernel
theorem dX7_undo_30 : decode cX7_undo 30 = .ok (.iload_n 1, 1) := by decide +kernel
theorem dX7_undo_31 : decode cX7_undo 31 = .ok (.bipush 103, 2) := by decide +kernel
theorem dX7_undo_33 : decode cX7_undo 33 = .ok (.if_icmp .ge 29, 3) := by decide +kernel
theorem dX7_undo_36 : decode cX7_undo 36 = .ok (.aload_n 0, 1) := by decide +kernel
theorem dX7_undo_37 : decode cX7_undo 37 = .ok (.getfield 7, 3) := by decide +kernel
theorem dX7_undo_40 : decode cX7_undo 40 = .ok (.iload_n 1, 1) := by decide +kernel
theorem dX7_undo_41 : decode cX7_undo 41 = .ok (.aload_n 0, 1) := by decide +kernel
theorem dX7_undo_42 : decode cX7_undo 42 = .ok (.getfield 16, 3) := by decide +kernel
theorem dX7_undo_45 : decode cX7_undo 45 = .ok (.bipush 103, 2) := by decide +kernel
theorem dX7_undo_47 : decode cX7_undo 47 = .ok (.aload_n 0, 1) := by decide +kernel
theorem dX7_undo_48 : decode cX7_undo 48 = .ok (.getfield 47, 3) := by decide +kernel
theorem dX7_undo_51 : decode cX7_undo 51 = .ok (.imul, 1) := by decide +kernel
theorem dX7_undo_52 : decode cX7_undo 52 = .ok (.iload_n 1, 1) := by decide +kernel
theorem dX7_undo_53 : decode cX7_undo 53 = .ok (.iadd, 1) := by decide +kernel
theorem dX7_undo_54 : decode cX7_undo 54 = .ok (.laload, 1) := by decide +kernel
theorem dX7_undo_55 : decode cX7_undo 55 = .ok (.lastore, 1) := by decide +kernel
theorem dX7_undo_56 : decode cX7_undo 56 = .ok (.iinc 1 1, 3) := by decide +kernel
theorem dX7_undo_59 : decode cX7_undo 59 = .ok (.goto (-29), 3) := by decide +kernel
theorem dX7_undo_62 : decode cX7_undo 62 = .ok (.aload_n 0, 1) := by decide +kernel
theorem dX7_undo_63 : decode cX7_undo 63 = .ok (.getfield 47, 3) := by decide +kernel
theorem dX7_undo_66 : decode cX7_undo 66 = .ok (.ireturn, 1) := by decide +kernel
theorem dX7_right_0 : decode cX7_right 0 = .ok (.aload_n 0, 1) := by decide +kernel
theorem dX7_right_1 : decode cX7_right 1 = .ok (.iconst 3, 1) := by decide +kernel
theorem dX7_right_2 : decode cX7_right 2 = .ok (.laload, 1) := by decide +kernel
theorem dX7_right_3 : decode cX7_right 3 = .ok (.iload_n 1, 1) := by decide +kernel
theorem dX7_right_4 : decode cX7_right 4 = .ok (.i2l, 1) := by decide +kernel
theorem dX7_right_5 : decode cX7_right 5 = .ok (.ladd, 1) := by decide +kernel
theorem dX7_right_6 : decode cX7_right 6 = .ok (.lstore_n 2, 1) := by decide +kernel
theorem dX7_right_7 : decode cX7_right 7 = .ok (.lconst 1, 1) := by decide +kernel
theorem dX7_right_8 : decode cX7_right 8 = .ok (.lstore 4, 2) := by decide +kernel
theorem dX7_right_10 : decode cX7_right 10 = .ok (.iconst 0, 1) := by decide +kernel
theorem dX7_right_11 : decode cX7_right 11 = .ok (.istore 6, 2) := by decide +kernel
theorem dX7_right_13 : decode cX7_right 13 = .ok (.iload 6, 2) := by decide +kernel
theorem dX7_right_15 : decode cX7_right 15 = .ok (.i2l, 1) := by decide +kernel
theorem dX7_right_16 : decode cX7_right 16 = .ok (.aload_n 0, 1) := by decide +kernel
theorem dX7_right_17 : decode cX7_right 17 = .ok (.iconst 2, 1) := by decide +kernel
theorem dX7_right_18 : decode cX7_right 18 = .ok (.laload, 1) := by decide +kernel
theorem dX7_right_19 : decode cX7_right 19 = .ok (.lcmp, 1) := by decide +kernel
theorem dX7_right_20 : decode cX7_right 20 = .ok (.ifCond .ge 15, 3) := by decide +kernel
theorem dX7_right_23 : decode cX7_right 23 = .ok (.lload 4, 2) := by decide +kernel
theorem dX7_right_25 : decode cX7_right 25 = .ok (.lload_n 2, 1) := by decide +kernel
theorem dX7_right_26 : decode cX7_right 26 = .ok (.lmul, 1) := by decide +kernel
theorem dX7_right_27 : decode cX7_right 27 = .ok (.lstore 4, 2) := by decide +kernel
theorem dX7_right_29 : decode cX7_right 29 = .ok (.iinc 6 1, 3) := by decide +kernel
theorem dX7_right_32 : decode cX7_right 32 = .ok (.goto (-19), 3) := by decide +kernel
theorem dX7_right_35 : decode cX7_right 35 = .ok (.lload 4, 2) := by decide +kernel
theorem dX7_right_37 : decode cX7_right 37 = .ok (.lreturn, 1) := by decide +kernel
set_option maxRecDepth 20000 in
theorem ggX7_rightDifference_X7_right : GoodIn wsX7_rightDifference wsX7_right := goodIn_r _ [4] (by decide +kernel) (by decide +kernel)
set_option maxRecDepth 20000 in
theorem gX7_rightDifference_X7_right : GoodIn wsX7_rightDifference (va_wsS RX7 54 yX7_right wsX7_right) := goodIn_app (goodIn_of _ (by decide +kernel)) ggX7_rightDifference_X7_right
theorem dX7_rightDifference_0 : decode cX7_rightDifference 0 = .ok (.lconst 0, 1) := by decide +kernel
theorem dX7_rightDifference_1 : decode cX7_rightDifference 1 = .ok (.lstore_n 3, 1) := by decide +kernel
theorem dX7_rightDifference_2 : decode cX7_rightDifference 2 = .ok (.lconst 1, 1) := by decide +kernel
theorem dX7_rightDifference_3 : decode cX7_rightDifference 3 = .ok (.lstore 5, 2) := by decide +kernel
theorem dX7_rightDifference_5 : decode cX7_rightDifference 5 = .ok (.iconst 0, 1) := by decide +kernel
theorem dX7_rightDifference_6 : decode cX7_rightDifference 6 = .ok (.istore 7, 2) := by decide +kernel
theorem dX7_rightDifference_8 : decode cX7_rightDifference 8 = .ok (.iload 7, 2) := by decide +kernel
theorem dX7_rightDifference_10 : decode cX7_rightDifference 10 = .ok (.iload_n 1, 1) := by decide +kernel
theorem dX7_rightDifference_11 : decode cX7_rightDifference 11 = .ok (.if_icmp .gt 54, 3) := by decide +kernel
theorem dX7_rightDifference_14 : decode cX7_rightDifference 14 = .ok (.lload_n 3, 1) := by decide +kernel
theorem dX7_rightDifference_15 : decode cX7_rightDifference 15 = .ok (.iload_n 1, 1) := by decide +kernel
theorem dX7_rightDifference_16 : decode cX7_rightDifference 16 = .ok (.iload 7, 2) := by decide +kernel
theorem dX7_rightDifference_18 : decode cX7_rightDifference 18 = .ok (.isub, 1) := by decide +kernel
theorem dX7_rightDifference_19 : decode cX7_rightDifference 19 = .ok (.iconst 2, 1) := by decide +kernel
theorem dX7_rightDifference_20 : decode cX7_rightDifference 20 = .ok (.irem, 1) := by decide +kernel
theorem dX7_rightDifference_21 : decode cX7_rightDifference 21 = .ok (.ifCond .ne 8, 3) := by decide +kernel
theorem dX7_rightDifference_24 : decode cX7_rightDifference 24 = .ok (.lload 5, 2) := by decide +kernel
theorem dX7_rightDifference_26 : decode cX7_rightDifference 26 = .ok (.goto 6, 3) := by decide +kernel
theorem dX7_rightDifference_29 : decode cX7_rightDifference 29 = .ok (.lload 5, 2) := by decide +kernel
theorem dX7_rightDifference_31 : decode cX7_rightDifference 31 = .ok (.lneg, 1) := by decide +kernel
theorem dX7_rightDifference_32 : decode cX7_rightDifference 32 = .ok (.aload_n 0, 1) := by decide +kernel
theorem dX7_rightDifference_33 : decode cX7_rightDifference 33 = .ok (.iload_n 2, 1) := by decide +kernel
theorem dX7_rightDifference_34 : decode cX7_rightDifference 34 = .ok (.iload 7, 2) := by decide +kernel
theorem dX7_rightDifference_36 : decode cX7_rightDifference 36 = .ok (.iadd, 1) := by decide +kernel
theorem dX7_rightDifference_37 : decode cX7_rightDifference 37 = .ok (.invokestatic 54, 3) := by decide +kernel
theorem dX7_rightDifference_40 : decode cX7_rightDifference 40 = .ok (.lmul, 1) := by decide +kernel
theorem dX7_rightDifference_41 : decode cX7_rightDifference 41 = .ok (.ladd, 1) := by decide +kernel
theorem dX7_rightDifference_42 : decode cX7_rightDifference 42 = .ok (.lstore_n 3, 1) := by decide +kernel
theorem dX7_rightDifference_43 : decode cX7_rightDifference 43 = .ok (.lload 5, 2) := by decide +kernel
theorem dX7_rightDifference_45 : decode cX7_rightDifference 45 = .ok (.iload_n 1, 1) := by decide +kernel
theorem dX7_rightDifference_46 : decode cX7_rightDifference 46 = .ok (.iload 7, 2) := by decide +kernel
theorem dX7_rightDifference_48 : decode cX7_rightDifference 48 = .ok (.isub, 1) := by decide +kernel
theorem dX7_rightDifference_49 : decode cX7_rightDifference 49 = .ok (.i2l, 1) := by decide +kernel
theorem dX7_rightDifference_50 : decode cX7_rightDifference 50 = .ok (.lmul, 1) := by decide +kernel
theorem dX7_rightDifference_51 : decode cX7_rightDifference 51 = .ok (.iload 7, 2) := by decide +kernel
theorem dX7_rightDifference_53 : decode cX7_rightDifference 53 = .ok (.iconst 1, 1) := by decide +kernel
theorem dX7_rightDifference_54 : decode cX7_rightDifference 54 = .ok (.iadd, 1) := by decide +kernel
theorem dX7_rightDifference_55 : decode cX7_rightDifference 55 = .ok (.i2l, 1) := by decide +kernel
theorem dX7_rightDifference_56 : decode cX7_rightDifference 56 = .ok (.ldiv, 1) := by decide +kernel
theorem dX7_rightDifference_57 : decode cX7_rightDifference 57 = .ok (.lstore 5, 2) := by decide +kernel
theorem dX7_rightDifference_59 : decode cX7_rightDifference 59 = .ok (.iinc 7 1, 3) := by decide +kernel
theorem dX7_rightDifference_62 : decode cX7_rightDifference 62 = .ok (.goto (-54), 3) := by decide +kernel
theorem dX7_rightDifference_65 : decode cX7_rightDifference 65 = .ok (.lload_n 3, 1) := by decide +kernel
theorem dX7_rightDifference_66 : decode cX7_rightDifference 66 = .ok (.lreturn, 1) := by decide +kernel
set_option maxRecDepth 20000 in
theorem ggX7_wrong_X7_rightDifference : GoodIn wsX7_wrong wsX7_rightDifference := goodIn_r _ [4, 5, 6, 3, 7] (by decide +kernel) (by decide +kernel)
set_option maxRecDepth 20000 in
theorem gX7_wrong_X7_rightDifference : GoodIn wsX7_wrong (va_wsS RX7 58 yX7_rightDifference wsX7_rightDifference) := goodIn_app (goodIn_of _ (by decide +kernel)) ggX7_wrong_X7_rightDifference
theorem dX7_wrong_0 : decode cX7_wrong 0 = .ok (.iconst 0, 1) := by decide +kernel
theorem dX7_wrong_1 : decode cX7_wrong 1 = .ok (.istore_n 1, 1) := by decide +kernel
theorem dX7_wrong_2 : decode cX7_wrong 2 = .ok (.iconst 0, 1) := by decide +kernel
theorem dX7_wrong_3 : decode cX7_wrong 3 = .ok (.istore_n 2, 1) := by decide +kernel
theorem dX7_wrong_4 : decode cX7_wrong 4 = .ok (.iload_n 2, 1) := by decide +kernel
theorem dX7_wrong_5 : decode cX7_wrong 5 = .ok (.bipush 6, 2) := by decide +kernel
theorem dX7_wrong_7 : decode cX7_wrong 7 = .ok (.if_icmp .ge 36, 3) := by decide +kernel
theorem dX7_wrong_10 : decode cX7_wrong 10 = .ok (.iload_n 1, 1) := by decide +kernel
theorem dX7_wrong_11 : decode cX7_wrong 11 = .ok (.aload_n 0, 1) := by decide +kernel
theorem dX7_wrong_12 : decode cX7_wrong 12 = .ok (.bipush 7, 2) := by decide +kernel
theorem dX7_wrong_14 : decode cX7_wrong 14 = .ok (.iload_n 2, 1) := by decide +kernel
theorem dX7_wrong_15 : decode cX7_wrong 15 = .ok (.iadd, 1) := by decide +kernel
theorem dX7_wrong_16 : decode cX7_wrong 16 = .ok (.laload, 1) := by decide +kernel
theorem dX7_wrong_17 : decode cX7_wrong 17 = .ok (.aload_n 0, 1) := by decide +kernel
theorem dX7_wrong_18 : decode cX7_wrong 18 = .ok (.iload_n 2, 1) := by decide +kernel
theorem dX7_wrong_19 : decode cX7_wrong 19 = .ok (.aload_n 0, 1) := by decide +kernel
theorem dX7_wrong_20 : decode cX7_wrong 20 = .ok (.iconst 4, 1) := by decide +kernel
theorem dX7_wrong_21 : decode cX7_wrong 21 = .ok (.laload, 1) := by decide +kernel
theorem dX7_wrong_22 : decode cX7_wrong 22 = .ok (.l2i, 1) := by decide +kernel
theorem dX7_wrong_23 : decode cX7_wrong 23 = .ok (.invokestatic 58, 3) := by decide +kernel
theorem dX7_wrong_26 : decode cX7_wrong 26 = .ok (.lcmp, 1) := by decide +kernel
theorem dX7_wrong_27 : decode cX7_wrong 27 = .ok (.ifCond .ne 7, 3) := by decide +kernel
theorem dX7_wrong_30 : decode cX7_wrong 30 = .ok (.iconst 0, 1) := by decide +kernel
theorem dX7_wrong_31 : decode cX7_wrong 31 = .ok (.goto 4, 3) := by decide +kernel
theorem dX7_wrong_34 : decode cX7_wrong 34 = .ok (.iconst 1, 1) := by decide +kernel
theorem dX7_wrong_35 : decode cX7_wrong 35 = .ok (.iadd, 1) := by decide +kernel
theorem dX7_wrong_36 : decode cX7_wrong 36 = .ok (.istore_n 1, 1) := by decide +kernel
theorem dX7_wrong_37 : decode cX7_wrong 37 = .ok (.iinc 2 1, 3) := by decide +kernel
theorem dX7_wrong_40 : decode cX7_wrong 40 = .ok (.goto (-36), 3) := by decide +kernel
theorem dX7_wrong_43 : decode cX7_wrong 43 = .ok (.iload_n 1, 1) := by decide +kernel
theorem dX7_wrong_44 : decode cX7_wrong 44 = .ok (.ireturn, 1) := by decide +kernel
set_option maxRecDepth 20000 in
theorem ggX7_corrects_X7_wrong : GoodIn wsX7_corrects wsX7_wrong := goodIn_r _ [4, 5, 6, 3, 7, 8, 9, 10] (by decide +kernel) (by decide +kernel)
set_option maxRecDepth 20000 in
theorem gX7_corrects_X7_wrong : GoodIn wsX7_corrects (va_wsS RX7 62 yX7_wrong wsX7_wrong) := goodIn_app (goodIn_of _ (by decide +kernel)) ggX7_corrects_X7_wrong
set_option maxRecDepth 20000 in
theorem ggX7_corrects_X7_rightDifference : GoodIn wsX7_corrects wsX7_rightDifference := goodIn_r _ [7, 8, 9, 3, 10] (by decide +kernel) (by decide +kernel)
set_option maxRecDepth 20000 in
theorem gX7_corrects_X7_rightDifference : GoodIn wsX7_corrects (va_wsS RX7 58 yX7_rightDifference wsX7_rightDifference) := goodIn_app (goodIn_of _ (by decide +kernel)) ggX7_corrects_X7_rightDifference
theorem dX7_corrects_0 : decode cX7_corrects 0 = .ok (.aload_n 0, 1) := by decide +kernel
theorem dX7_corrects_1 : decode cX7_corrects 1 = .ok (.invokestatic 62, 3) := by decide +kernel
theorem dX7_corrects_4 : decode cX7_corrects 4 = .ok (.istore_n 1, 1) := by decide +kernel
theorem dX7_corrects_5 : decode cX7_corrects 5 = .ok (.iconst 0, 1) := by decide +kernel
theorem dX7_corrects_6 : decode cX7_corrects 6 = .ok (.istore_n 2, 1) := by decide +kernel
theorem dX7_corrects_7 : decode cX7_corrects 7 = .ok (.iload_n 2, 1) := by decide +kernel
theorem dX7_corrects_8 : decode cX7_corrects 8 = .ok (.bipush 6, 2) := by decide +kernel
theorem dX7_corrects_10 : decode cX7_corrects 10 = .ok (.if_icmp .ge 24, 3) := by decide +kernel
theorem dX7_corrects_13 : decode cX7_corrects 13 = .ok (.aload_n 0, 1) := by decide +kernel
theorem dX7_corrects_14 : decode cX7_corrects 14 = .ok (.bipush 7, 2) := by decide +kernel
theorem dX7_corrects_16 : decode cX7_corrects 16 = .ok (.iload_n 2, 1) := by decide +kernel
theorem dX7_corrects_17 : decode cX7_corrects 17 = .ok (.iadd, 1) := by decide +kernel
theorem dX7_corrects_18 : decode cX7_corrects 18 = .ok (.aload_n 0, 1) := by decide +kernel
theorem dX7_corrects_19 : decode cX7_corrects 19 = .ok (.iload_n 2, 1) := by decide +kernel
theorem dX7_corrects_20 : decode cX7_corrects 20 = .ok (.aload_n 0, 1) := by decide +kernel
theorem dX7_corrects_21 : decode cX7_corrects 21 = .ok (.iconst 4, 1) := by decide +kernel
theorem dX7_corrects_22 : decode cX7_corrects 22 = .ok (.laload, 1) := by decide +kernel
theorem dX7_corrects_23 : decode cX7_corrects 23 = .ok (.l2i, 1) := by decide +kernel
theorem dX7_corrects_24 : decode cX7_corrects 24 = .ok (.invokestatic 58, 3) := by decide +kernel
theorem dX7_corrects_27 : decode cX7_corrects 27 = .ok (.lastore, 1) := by decide +kernel
theorem dX7_corrects_28 : decode cX7_corrects 28 = .ok (.iinc 2 1, 3) := by decide +kernel
theorem dX7_corrects_31 : decode cX7_corrects 31 = .ok (.goto (-24), 3) := by decide +kernel
theorem dX7_corrects_34 : decode cX7_corrects 34 = .ok (.iload_n 1, 1) := by decide +kernel
theorem dX7_corrects_35 : decode cX7_corrects 35 = .ok (.ireturn, 1) := by decide +kernel
theorem dX7_strikes_0 : decode cX7_strikes 0 = .ok (.lload_n 1, 1) := by decide +kernel
theorem dX7_strikes_1 : decode cX7_strikes 1 = .ok (.lconst 0, 1) := by decide +kernel
theorem dX7_strikes_2 : decode cX7_strikes 2 = .ok (.lcmp, 1) := by decide +kernel
theorem dX7_strikes_3 : decode cX7_strikes 3 = .ok (.ifCond .ge 8, 3) := by decide +kernel
theorem dX7_strikes_6 : decode cX7_strikes 6 = .ok (.lload_n 1, 1) := by decide +kernel
theorem dX7_strikes_7 : decode cX7_strikes 7 = .ok (.lneg, 1) := by decide +kernel
theorem dX7_strikes_8 : decode cX7_strikes 8 = .ok (.goto 4, 3) := by decide +kernel
theorem dX7_strikes_11 : decode cX7_strikes 11 = .ok (.lload_n 1, 1) := by decide +kernel
theorem dX7_strikes_12 : decode cX7_strikes 12 = .ok (.lstore_n 3, 1) := by decide +kernel
theorem dX7_strikes_13 : decode cX7_strikes 13 = .ok (.iconst 0, 1) := by decide +kernel
theorem dX7_strikes_14 : decode cX7_strikes 14 = .ok (.istore 5, 2) := by decide +kernel
theorem dX7_strikes_16 : decode cX7_strikes 16 = .ok (.iconst 1, 1) := by decide +kernel
theorem dX7_strikes_17 : decode cX7_strikes 17 = .ok (.istore 6, 2) := by decide +kernel
theorem dX7_strikes_19 : decode cX7_strikes 19 = .ok (.lconst 1, 1) := by decide +kernel
theorem dX7_strikes_20 : decode cX7_strikes 20 = .ok (.lstore 7, 2) := by decide +kernel
theorem dX7_strikes_22 : decode cX7_strikes 22 = .ok (.lload_n 3, 1) := by decide +kernel
theorem dX7_strikes_23 : decode cX7_strikes 23 = .ok (.lload 7, 2) := by decide +kernel
theorem dX7_strikes_25 : decode cX7_strikes 25 = .ok (.ldiv, 1) := by decide +kernel
theorem dX7_strikes_26 : decode cX7_strikes 26 = .ok (.ldc2_w 65, 3) := by decide +kernel
theorem dX7_strikes_29 : decode cX7_strikes 29 = .ok (.lcmp, 1) := by decide +kernel
theorem dX7_strikes_30 : decode cX7_strikes 30 = .ok (.ifCond .lt 14, 3) := by decide +kernel
theorem dX7_strikes_33 : decode cX7_strikes 33 = .ok (.lload 7, 2) := by decide +kernel
theorem dX7_strikes_35 : decode cX7_strikes 35 = .ok (.ldc2_w 65, 3) := by decide +kernel
theorem dX7_strikes_38 : decode cX7_strikes 38 = .ok (.lmul, 1) := by decide +kernel
theorem dX7_strikes_39 : decode cX7_strikes 39 = .ok (.lstore 7, 2) := by decide +kernel
theorem dX7_strikes_41 : decode cX7_strikes 41 = .ok (.goto (-19), 3) := by decide +kernel
theorem dX7_strikes_44 : decode cX7_strikes 44 = .ok (.iload 6, 2) := by decide +kernel
theorem dX7_strikes_46 : decode cX7_strikes 46 = .ok (.ifCond .eq 81, 3) := by decide +kernel
theorem dX7_strikes_49 : decode cX7_strikes 49 = .ok (.lload_n 3, 1) := by decide +kernel
theorem dX7_strikes_50 : decode cX7_strikes 50 = .ok (.lload 7, 2) := by decide +kernel
theorem dX7_strikes_52 : decode cX7_strikes 52 = .ok (.ldiv, 1) := by decide +kernel
theorem dX7_strikes_53 : decode cX7_strikes 53 = .ok (.ldc2_w 65, 3) := by decide +kernel
theorem dX7_strikes_56 : decode cX7_strikes 56 = .ok (.lrem, 1) := by decide +kernel
theorem dX7_strikes_57 : decode cX7_strikes 57 = .ok (.l2i, 1) := by decide +kernel
theorem dX7_strikes_58 : decode cX7_strikes 58 = .ok (.istore 9, 2) := by decide +kernel
theorem dX7_strikes_60 : decode cX7_strikes 60 = .ok (.aload_n 0, 1) := by decide +kernel
theorem dX7_strikes_61 : decode cX7_strikes 61 = .ok (.bipush 13, 2) := by decide +kernel
theorem dX7_strikes_63 : decode cX7_strikes 63 = .ok (.iload 9, 2) := by decide +kernel
theorem dX7_strikes_65 : decode cX7_strikes 65 = .ok (.iadd, 1) := by decide +kernel
theorem dX7_strikes_66 : decode cX7_strikes 66 = .ok (.dup2, 1) := by decide +kernel
theorem dX7_strikes_67 : decode cX7_strikes 67 = .ok (.laload, 1) := by decide +kernel
theorem dX7_strikes_68 : decode cX7_strikes 68 = .ok (.lconst 1, 1) := by decide +kernel
theorem dX7_strikes_69 : decode cX7_strikes 69 = .ok (.ladd, 1) := by decide +kernel
theorem dX7_strikes_70 : decode cX7_strikes 70 = .ok (.lastore, 1) := by decide +kernel
theorem dX7_strikes_71 : decode cX7_strikes 71 = .ok (.aload_n 0, 1) := by decide +kernel
theorem dX7_strikes_72 : decode cX7_strikes 72 = .ok (.iconst 5, 1) := by decide +kernel
theorem dX7_strikes_73 : decode cX7_strikes 73 = .ok (.dup2, 1) := by decide +kernel
theorem dX7_strikes_74 : decode cX7_strikes 74 = .ok (.laload, 1) := by decide +kernel
theorem dX7_strikes_75 : decode cX7_strikes 75 = .ok (.lconst 1, 1) := by decide +kernel
theorem dX7_strikes_76 : decode cX7_strikes 76 = .ok (.ladd, 1) := by decide +kernel
theorem dX7_strikes_77 : decode cX7_strikes 77 = .ok (.lastore, 1) := by decide +kernel
theorem dX7_strikes_78 : decode cX7_strikes 78 = .ok (.iload 5, 2) := by decide +kernel
theorem dX7_strikes_80 : decode cX7_strikes 80 = .ok (.aload_n 0, 1) := by decide +kernel
theorem dX7_strikes_81 : decode cX7_strikes 81 = .ok (.bipush 13, 2) := by decide +kernel
theorem dX7_strikes_83 : decode cX7_strikes 83 = .ok (.iload 9, 2) := by decide +kernel
theorem dX7_strikes_85 : decode cX7_strikes 85 = .ok (.iadd, 1) := by decide +kernel
theorem dX7_strikes_86 : decode cX7_strikes 86 = .ok (.laload, 1) := by decide +kernel
theorem dX7_strikes_87 : decode cX7_strikes 87 = .ok (.aload_n 0, 1) := by decide +kernel
theorem dX7_strikes_88 : decode cX7_strikes 88 = .ok (.iconst 1, 1) := by decide +kernel
theorem dX7_strikes_89 : decode cX7_strikes 89 = .ok (.laload, 1) := by decide +kernel
theorem dX7_strikes_90 : decode cX7_strikes 90 = .ok (.lcmp, 1) := by decide +kernel
theorem dX7_strikes_91 : decode cX7_strikes 91 = .ok (.ifCond .le 7, 3) := by decide +kernel
theorem dX7_strikes_94 : decode cX7_strikes 94 = .ok (.iconst 1, 1) := by decide +kernel
theorem dX7_strikes_95 : decode cX7_strikes 95 = .ok (.goto 4, 3) := by decide +kernel
theorem dX7_strikes_98 : decode cX7_strikes 98 = .ok (.iconst 0, 1) := by decide +kernel
theorem dX7_strikes_99 : decode cX7_strikes 99 = .ok (.iadd, 1) := by decide +kernel
theorem dX7_strikes_100 : decode cX7_strikes 100 = .ok (.istore 5, 2) := by decide +kernel
theorem dX7_strikes_102 : decode cX7_strikes 102 = .ok (.lload 7, 2) := by decide +kernel
theorem dX7_strikes_104 : decode cX7_strikes 104 = .ok (.lconst 1, 1) := by decide +kernel
theorem dX7_strikes_105 : decode cX7_strikes 105 = .ok (.lcmp, 1) := by decide +kernel
theorem dX7_strikes_106 : decode cX7_strikes 106 = .ok (.ifCond .le 7, 3) := by decide +kernel
theorem dX7_strikes_109 : decode cX7_strikes 109 = .ok (.iconst 1, 1) := by decide +kernel
theorem dX7_strikes_110 : decode cX7_strikes 110 = .ok (.goto 4, 3) := by decide +kernel
theorem dX7_strikes_113 : decode cX7_strikes 113 = .ok (.iconst 0, 1) := by decide +kernel
theorem dX7_strikes_114 : decode cX7_strikes 114 = .ok (.istore 6, 2) := by decide +kernel
theorem dX7_strikes_116 : decode cX7_strikes 116 = .ok (.lload 7, 2) := by decide +kernel
theorem dX7_strikes_118 : decode cX7_strikes 118 = .ok (.ldc2_w 65, 3) := by decide +kernel
theorem dX7_strikes_121 : decode cX7_strikes 121 = .ok (.ldiv, 1) := by decide +kernel
theorem dX7_strikes_122 : decode cX7_strikes 122 = .ok (.lstore 7, 2) := by decide +kernel
theorem dX7_strikes_124 : decode cX7_strikes 124 = .ok (.goto (-80), 3) := by decide +kernel
theorem dX7_strikes_127 : decode cX7_strikes 127 = .ok (.iload 5, 2) := by decide +kernel
theorem dX7_strikes_129 : decode cX7_strikes 129 = .ok (.ireturn, 1) := by decide +kernel
set_option maxRecDepth 20000 in
theorem ggX7_rows_X7_strikes : GoodIn wsX7_rows wsX7_strikes := goodIn_r _ [4, 5] (by decide +kernel) (by decide +kernel)
set_option maxRecDepth 20000 in
theorem gX7_rows_X7_strikes : GoodIn wsX7_rows (va_wsS RX7 67 yX7_strikes wsX7_strikes) := goodIn_app (goodIn_of _ (by decide +kernel)) ggX7_rows_X7_strikes
theorem dX7_rows_0 : decode cX7_rows 0 = .ok (.aload_n 0, 1) := by decide +kernel
theorem dX7_rows_1 : decode cX7_rows 1 = .ok (.aload_n 0, 1) := by decide +kernel
theorem dX7_rows_2 : decode cX7_rows 2 = .ok (.bipush 7, 2) := by decide +kernel
theorem dX7_rows_4 : decode cX7_rows 4 = .ok (.laload, 1) := by decide +kernel
theorem dX7_rows_5 : decode cX7_rows 5 = .ok (.invokestatic 67, 3) := by decide +kernel
theorem dX7_rows_8 : decode cX7_rows 8 = .ok (.istore_n 1, 1) := by decide +kernel
theorem dX7_rows_9 : decode cX7_rows 9 = .ok (.iconst 0, 1) := by decide +kernel
theorem dX7_rows_10 : decode cX7_rows 10 = .ok (.istore_n 2, 1) := by decide +kernel
theorem dX7_rows_11 : decode cX7_rows 11 = .ok (.iload_n 2, 1) := by decide +kernel
theorem dX7_rows_12 : decode cX7_rows 12 = .ok (.iconst 5, 1) := by decide +kernel
theorem dX7_rows_13 : decode cX7_rows 13 = .ok (.if_icmp .ge 26, 3) := by decide +kernel
theorem dX7_rows_16 : decode cX7_rows 16 = .ok (.aload_n 0, 1) := by decide +kernel
theorem dX7_rows_17 : decode cX7_rows 17 = .ok (.bipush 7, 2) := by decide +kernel
theorem dX7_rows_19 : decode cX7_rows 19 = .ok (.iload_n 2, 1) := by decide +kernel
theorem dX7_rows_20 : decode cX7_rows 20 = .ok (.iadd, 1) := by decide +kernel
theorem dX7_rows_21 : decode cX7_rows 21 = .ok (.dup2, 1) := by decide +kernel
theorem dX7_rows_22 : decode cX7_rows 22 = .ok (.laload, 1) := by decide +kernel
theorem dX7_rows_23 : decode cX7_rows 23 = .ok (.aload_n 0, 1) := by decide +kernel
theorem dX7_rows_24 : decode cX7_rows 24 = .ok (.bipush 7, 2) := by decide +kernel
theorem dX7_rows_26 : decode cX7_rows 26 = .ok (.iload_n 2, 1) := by decide +kernel
theorem dX7_rows_27 : decode cX7_rows 27 = .ok (.iadd, 1) := by decide +kernel
theorem dX7_rows_28 : decode cX7_rows 28 = .ok (.iconst 1, 1) := by decide +kernel
theorem dX7_rows_29 : decode cX7_rows 29 = .ok (.iadd, 1) := by decide +kernel
theorem dX7_rows_30 : decode cX7_rows 30 = .ok (.laload, 1) := by decide +kernel
theorem dX7_rows_31 : decode cX7_rows 31 = .ok (.ladd, 1) := by decide +kernel
theorem dX7_rows_32 : decode cX7_rows 32 = .ok (.lastore, 1) := by decide +kernel
theorem dX7_rows_33 : decode cX7_rows 33 = .ok (.iinc 2 1, 3) := by decide +kernel
theorem dX7_rows_36 : decode cX7_rows 36 = .ok (.goto (-25), 3) := by decide +kernel
theorem dX7_rows_39 : decode cX7_rows 39 = .ok (.aload_n 0, 1) := by decide +kernel
theorem dX7_rows_40 : decode cX7_rows 40 = .ok (.iconst 4, 1) := by decide +kernel
theorem dX7_rows_41 : decode cX7_rows 41 = .ok (.dup2, 1) := by decide +kernel
theorem dX7_rows_42 : decode cX7_rows 42 = .ok (.laload, 1) := by decide +kernel
theorem dX7_rows_43 : decode cX7_rows 43 = .ok (.lconst 1, 1) := by decide +kernel
theorem dX7_rows_44 : decode cX7_rows 44 = .ok (.ladd, 1) := by decide +kernel
theorem dX7_rows_45 : decode cX7_rows 45 = .ok (.lastore, 1) := by decide +kernel
theorem dX7_rows_46 : decode cX7_rows 46 = .ok (.iload_n 1, 1) := by decide +kernel
theorem dX7_rows_47 : decode cX7_rows 47 = .ok (.ireturn, 1) := by decide +kernel
set_option maxRecDepth 20000 in
theorem ggX7_prints_X7_rows : GoodIn wsX7_prints wsX7_rows := goodIn_r _ [5, 6, 7, 4, 8, 9] (by decide +kernel) (by decide +kernel)
set_option maxRecDepth 20000 in
theorem gX7_prints_X7_rows : GoodIn wsX7_prints (va_wsS RX7 71 yX7_rows wsX7_rows) := goodIn_app (goodIn_of _ (by decide +kernel)) ggX7_prints_X7_rows
theorem dX7_prints_0 : decode cX7_prints 0 = .ok (.iconst 0, 1) := by decide +kernel
theorem dX7_prints_1 : decode cX7_prints 1 = .ok (.istore_n 2, 1) := by decide +kernel
theorem dX7_prints_2 : decode cX7_prints 2 = .ok (.iconst 0, 1) := by decide +kernel
theorem dX7_prints_3 : decode cX7_prints 3 = .ok (.istore_n 3, 1) := by decide +kernel
theorem dX7_prints_4 : decode cX7_prints 4 = .ok (.iload_n 3, 1) := by decide +kernel
theorem dX7_prints_5 : decode cX7_prints 5 = .ok (.iload_n 1, 1) := by decide +kernel
theorem dX7_prints_6 : decode cX7_prints 6 = .ok (.if_icmp .ge 67, 3) := by decide +kernel
theorem dX7_prints_9 : decode cX7_prints 9 = .ok (.aload_n 0, 1) := by decide +kernel
theorem dX7_prints_10 : decode cX7_prints 10 = .ok (.getfield 7, 3) := by decide +kernel
theorem dX7_prints_13 : decode cX7_prints 13 = .ok (.iconst 4, 1) := by decide +kernel
theorem dX7_prints_14 : decode cX7_prints 14 = .ok (.laload, 1) := by decide +kernel
theorem dX7_prints_15 : decode cX7_prints 15 = .ok (.l2i, 1) := by decide +kernel
theorem dX7_prints_16 : decode cX7_prints 16 = .ok (.istore 4, 2) := by decide +kernel
theorem dX7_prints_18 : decode cX7_prints 18 = .ok (.aload_n 0, 1) := by decide +kernel
theorem dX7_prints_19 : decode cX7_prints 19 = .ok (.getfield 7, 3) := by decide +kernel
theorem dX7_prints_22 : decode cX7_prints 22 = .ok (.bipush 23, 2) := by decide +kernel
theorem dX7_prints_24 : decode cX7_prints 24 = .ok (.iload 4, 2) := by decide +kernel
theorem dX7_prints_26 : decode cX7_prints 26 = .ok (.iadd, 1) := by decide +kernel
theorem dX7_prints_27 : decode cX7_prints 27 = .ok (.aload_n 0, 1) := by decide +kernel
theorem dX7_prints_28 : decode cX7_prints 28 = .ok (.getfield 7, 3) := by decide +kernel
theorem dX7_prints_31 : decode cX7_prints 31 = .ok (.bipush 7, 2) := by decide +kernel
theorem dX7_prints_33 : decode cX7_prints 33 = .ok (.laload, 1) := by decide +kernel
theorem dX7_prints_34 : decode cX7_prints 34 = .ok (.lastore, 1) := by decide +kernel
theorem dX7_prints_35 : decode cX7_prints 35 = .ok (.aload_n 0, 1) := by decide +kernel
theorem dX7_prints_36 : decode cX7_prints 36 = .ok (.getfield 7, 3) := by decide +kernel
theorem dX7_prints_39 : decode cX7_prints 39 = .ok (.bipush 63, 2) := by decide +kernel
theorem dX7_prints_41 : decode cX7_prints 41 = .ok (.iload 4, 2) := by decide +kernel
theorem dX7_prints_43 : decode cX7_prints 43 = .ok (.iadd, 1) := by decide +kernel
theorem dX7_prints_44 : decode cX7_prints 44 = .ok (.aload_n 0, 1) := by decide +kernel
theorem dX7_prints_45 : decode cX7_prints 45 = .ok (.getfield 7, 3) := by decide +kernel
theorem dX7_prints_48 : decode cX7_prints 48 = .ok (.invokestatic 71, 3) := by decide +kernel
theorem dX7_prints_51 : decode cX7_prints 51 = .ok (.i2l, 1) := by decide +kernel
theorem dX7_prints_52 : decode cX7_prints 52 = .ok (.lastore, 1) := by decide +kernel
theorem dX7_prints_53 : decode cX7_prints 53 = .ok (.iload_n 2, 1) := by decide +kernel
theorem dX7_prints_54 : decode cX7_prints 54 = .ok (.aload_n 0, 1) := by decide +kernel
theorem dX7_prints_55 : decode cX7_prints 55 = .ok (.getfield 7, 3) := by decide +kernel
theorem dX7_prints_58 : decode cX7_prints 58 = .ok (.bipush 63, 2) := by decide +kernel
theorem dX7_prints_60 : decode cX7_prints 60 = .ok (.iload 4, 2) := by decide +kernel
theorem dX7_prints_62 : decode cX7_prints 62 = .ok (.iadd, 1) := by decide +kernel
theorem dX7_prints_63 : decode cX7_prints 63 = .ok (.laload, 1) := by decide +kernel
theorem dX7_prints_64 : decode cX7_prints 64 = .ok (.l2i, 1) := by decide +kernel
theorem dX7_prints_65 : decode cX7_prints 65 = .ok (.iadd, 1) := by decide +kernel
theorem dX7_prints_66 : decode cX7_prints 66 = .ok (.istore_n 2, 1) := by decide +kernel
theorem dX7_prints_67 : decode cX7_prints 67 = .ok (.iinc 3 1, 3) := by decide +kernel
theorem dX7_prints_70 : decode cX7_prints 70 = .ok (.goto (-66), 3) := by decide +kernel
theorem dX7_prints_73 : decode cX7_prints 73 = .ok (.iload_n 2, 1) := by decide +kernel
theorem dX7_prints_74 : decode cX7_prints 74 = .ok (.ireturn, 1) := by decide +kernel
set_option maxRecDepth 20000 in
theorem ggX7_begin_X7_in : GoodIn wsX7_begin wsX7_in := goodIn_r _ [8] (by decide +kernel) (by decide +kernel)
set_option maxRecDepth 20000 in
theorem gX7_begin_X7_in : GoodIn wsX7_begin (va_wsS RX7 43 yX7_in wsX7_in) := goodIn_app (goodIn_of _ (by decide +kernel)) ggX7_begin_X7_in
set_option maxRecDepth 20000 in
theorem ggX7_begin_X7_fails : GoodIn wsX7_begin wsX7_fails := goodIn_r _ [12, 1, 31, 32, 33, 34, 35, 36, 37, 38, 39, 40, 41, 42] (by decide +kernel) (by decide +kernel)
set_option maxRecDepth 20000 in
theorem gX7_begin_X7_fails : GoodIn wsX7_begin (wsV RX7 50 RX7 yX7_fails wsX7_fails) := goodIn_app (goodIn_of _ (by decide +kernel)) ggX7_begin_X7_fails
set_option maxRecDepth 20000 in
theorem ggX7_begin_X7_saves : GoodIn wsX7_begin wsX7_saves := goodIn_r _ [16, 17, 18, 4, 31, 32, 33, 34, 35, 36, 37, 38, 39, 40, 41, 42] (by decide +kernel) (by decide +kernel)
set_option maxRecDepth 20000 in
theorem gX7_begin_X7_saves : GoodIn wsX7_begin (wsV RX7 76 RX7 yX7_saves wsX7_saves) := goodIn_app (goodIn_of _ (by decide +kernel)) ggX7_begin_X7_saves
set_option maxRecDepth 20000 in
theorem ggX7_begin_X7_corrects : GoodIn wsX7_begin wsX7_corrects := goodIn_r _ [21, 22, 23, 7, 24, 25, 26, 27, 28, 29, 30] (by decide +kernel) (by decide +kernel)
set_option maxRecDepth 20000 in
theorem gX7_begin_X7_corrects : GoodIn wsX7_begin (va_wsS RX7 35 yX7_corrects wsX7_corrects) := goodIn_app (goodIn_of _ (by decide +kernel)) ggX7_begin_X7_corrects
theorem dX7_begin_0 : decode cX7_begin 0 = .ok (.aload_n 0, 1) := by decide +kernel
theorem dX7_begin_1 : decode cX7_begin 1 = .ok (.iconst 0, 1) := by decide +kernel
theorem dX7_begin_2 : decode cX7_begin 2 = .ok (.putfield 39, 3) := by decide +kernel
theorem dX7_begin_5 : decode cX7_begin 5 = .ok (.iload_n 1, 1) := by decide +kernel
theorem dX7_begin_6 : decode cX7_begin 6 = .ok (.i2l, 1) := by decide +kernel
theorem dX7_begin_7 : decode cX7_begin 7 = .ok (.lconst 0, 1) := by decide +kernel
theorem dX7_begin_8 : decode cX7_begin 8 = .ok (.ldc2_w 29, 3) := by decide +kernel
theorem dX7_begin_11 : decode cX7_begin 11 = .ok (.invokestatic 43, 3) := by decide +kernel
theorem dX7_begin_14 : decode cX7_begin 14 = .ok (.ifCond .eq 15, 3) := by decide +kernel
theorem dX7_begin_17 : decode cX7_begin 17 = .ok (.iload_n 2, 1) := by decide +kernel
theorem dX7_begin_18 : decode cX7_begin 18 = .ok (.i2l, 1) := by decide +kernel
theorem dX7_begin_19 : decode cX7_begin 19 = .ok (.lconst 0, 1) := by decide +kernel
theorem dX7_begin_20 : decode cX7_begin 20 = .ok (.ldc2_w 74, 3) := by decide +kernel
theorem dX7_begin_23 : decode cX7_begin 23 = .ok (.invokestatic 43, 3) := by decide +kernel
theorem dX7_begin_26 : decode cX7_begin 26 = .ok (.ifCond .ne 9, 3) := by decide +kernel
theorem dX7_begin_29 : decode cX7_begin 29 = .ok (.aload_n 0, 1) := by decide +kernel
theorem dX7_begin_30 : decode cX7_begin 30 = .ok (.iconst 1, 1) := by decide +kernel
theorem dX7_begin_31 : decode cX7_begin 31 = .ok (.invokevirtual 50, 3) := by decide +kernel
theorem dX7_begin_34 : decode cX7_begin 34 = .ok (.ireturn, 1) := by decide +kernel
theorem dX7_begin_35 : decode cX7_begin 35 = .ok (.aload_n 0, 1) := by decide +kernel
theorem dX7_begin_36 : decode cX7_begin 36 = .ok (.invokevirtual 76, 3) := by decide +kernel
theorem dX7_begin_39 : decode cX7_begin 39 = .ok (.aload_n 0, 1) := by decide +kernel
theorem dX7_begin_40 : decode cX7_begin 40 = .ok (.getfield 7, 3) := by decide +kernel
theorem dX7_begin_43 : decode cX7_begin 43 = .ok (.iconst 4, 1) := by decide +kernel
theorem dX7_begin_44 : decode cX7_begin 44 = .ok (.laload, 1) := by decide +kernel
theorem dX7_begin_45 : decode cX7_begin 45 = .ok (.l2i, 1) := by decide +kernel
theorem dX7_begin_46 : decode cX7_begin 46 = .ok (.istore_n 3, 1) := by decide +kernel
theorem dX7_begin_47 : decode cX7_begin 47 = .ok (.aload_n 0, 1) := by decide +kernel
theorem dX7_begin_48 : decode cX7_begin 48 = .ok (.getfield 7, 3) := by decide +kernel
theorem dX7_begin_51 : decode cX7_begin 51 = .ok (.iconst 2, 1) := by decide +kernel
theorem dX7_begin_52 : decode cX7_begin 52 = .ok (.iload_n 1, 1) := by decide +kernel
theorem dX7_begin_53 : decode cX7_begin 53 = .ok (.i2l, 1) := by decide +kernel
theorem dX7_begin_54 : decode cX7_begin 54 = .ok (.lastore, 1) := by decide +kernel
theorem dX7_begin_55 : decode cX7_begin 55 = .ok (.aload_n 0, 1) := by decide +kernel
theorem dX7_begin_56 : decode cX7_begin 56 = .ok (.getfield 7, 3) := by decide +kernel
theorem dX7_begin_59 : decode cX7_begin 59 = .ok (.iconst 3, 1) := by decide +kernel
theorem dX7_begin_60 : decode cX7_begin 60 = .ok (.iload_n 2, 1) := by decide +kernel
theorem dX7_begin_61 : decode cX7_begin 61 = .ok (.i2l, 1) := by decide +kernel
theorem dX7_begin_62 : decode cX7_begin 62 = .ok (.lastore, 1) := by decide +kernel
theorem dX7_begin_63 : decode cX7_begin 63 = .ok (.aload_n 0, 1) := by decide +kernel
theorem dX7_begin_64 : decode cX7_begin 64 = .ok (.getfield 7, 3) := by decide +kernel
theorem dX7_begin_67 : decode cX7_begin 67 = .ok (.iconst 4, 1) := by decide +kernel
theorem dX7_begin_68 : decode cX7_begin 68 = .ok (.lconst 0, 1) := by decide +kernel
theorem dX7_begin_69 : decode cX7_begin 69 = .ok (.lastore, 1) := by decide +kernel
theorem dX7_begin_70 : decode cX7_begin 70 = .ok (.aload_n 0, 1) := by decide +kernel
theorem dX7_begin_71 : decode cX7_begin 71 = .ok (.getfield 7, 3) := by decide +kernel
theorem dX7_begin_74 : decode cX7_begin 74 = .ok (.invokestatic 35, 3) := by decide +kernel
theorem dX7_begin_77 : decode cX7_begin 77 = .ok (.pop, 1) := by decide +kernel
theorem dX7_begin_78 : decode cX7_begin 78 = .ok (.iload_n 3, 1) := by decide +kernel
theorem dX7_begin_79 : decode cX7_begin 79 = .ok (.ireturn, 1) := by decide +kernel
set_option maxRecDepth 20000 in
theorem ggX7_mayPrint_X7_in : GoodIn wsX7_mayPrint wsX7_in := goodIn_r _ [6] (by decide +kernel) (by decide +kernel)
set_option maxRecDepth 20000 in
theorem gX7_mayPrint_X7_in : GoodIn wsX7_mayPrint (va_wsS RX7 43 yX7_in wsX7_in) := goodIn_app (goodIn_of _ (by decide +kernel)) ggX7_mayPrint_X7_in
theorem dX7_mayPrint_0 : decode cX7_mayPrint 0 = .ok (.iload_n 1, 1) := by decide +kernel
theorem dX7_mayPrint_1 : decode cX7_mayPrint 1 = .ok (.i2l, 1) := by decide +kernel
theorem dX7_mayPrint_2 : decode cX7_mayPrint 2 = .ok (.lconst 1, 1) := by decide +kernel
theorem dX7_mayPrint_3 : decode cX7_mayPrint 3 = .ok (.ldc2_w 79, 3) := by decide +kernel
theorem dX7_mayPrint_6 : decode cX7_mayPrint 6 = .ok (.invokestatic 43, 3) := by decide +kernel
theorem dX7_mayPrint_9 : decode cX7_mayPrint 9 = .ok (.ifCond .ne 7, 3) := by decide +kernel
theorem dX7_mayPrint_12 : decode cX7_mayPrint 12 = .ok (.iconst 1, 1) := by decide +kernel
theorem dX7_mayPrint_13 : decode cX7_mayPrint 13 = .ok (.goto 24, 3) := by decide +kernel
theorem dX7_mayPrint_16 : decode cX7_mayPrint 16 = .ok (.aload_n 0, 1) := by decide +kernel
theorem dX7_mayPrint_17 : decode cX7_mayPrint 17 = .ok (.getfield 7, 3) := by decide +kernel
theorem dX7_mayPrint_20 : decode cX7_mayPrint 20 = .ok (.iconst 4, 1) := by decide +kernel
theorem dX7_mayPrint_21 : decode cX7_mayPrint 21 = .ok (.laload, 1) := by decide +kernel
theorem dX7_mayPrint_22 : decode cX7_mayPrint 22 = .ok (.iload_n 1, 1) := by decide +kernel
theorem dX7_mayPrint_23 : decode cX7_mayPrint 23 = .ok (.i2l, 1) := by decide +kernel
theorem dX7_mayPrint_24 : decode cX7_mayPrint 24 = .ok (.ladd, 1) := by decide +kernel
theorem dX7_mayPrint_25 : decode cX7_mayPrint 25 = .ok (.ldc2_w 79, 3) := by decide +kernel
theorem dX7_mayPrint_28 : decode cX7_mayPrint 28 = .ok (.lcmp, 1) := by decide +kernel
theorem dX7_mayPrint_29 : decode cX7_mayPrint 29 = .ok (.ifCond .le 7, 3) := by decide +kernel
theorem dX7_mayPrint_32 : decode cX7_mayPrint 32 = .ok (.iconst 2, 1) := by decide +kernel
theorem dX7_mayPrint_33 : decode cX7_mayPrint 33 = .ok (.goto 4, 3) := by decide +kernel
theorem dX7_mayPrint_36 : decode cX7_mayPrint 36 = .ok (.iconst 0, 1) := by decide +kernel
theorem dX7_mayPrint_37 : decode cX7_mayPrint 37 = .ok (.ireturn, 1) := by decide +kernel
set_option maxRecDepth 20000 in
theorem ggX7_print_X7_mayPrint : GoodIn wsX7_print wsX7_mayPrint := goodIn_r _ [6, 7, 8, 9, 10, 5, 11, 29, 30, 31, 32, 33, 34, 35, 36, 37, 38, 39, 40] (by decide +kernel) (by decide +kernel)
set_option maxRecDepth 20000 in
theorem gX7_print_X7_mayPrint : GoodIn wsX7_print (wsV RX7 81 RX7 yX7_mayPrint wsX7_mayPrint) := goodIn_app (goodIn_of _ (by decide +kernel)) ggX7_print_X7_mayPrint
set_option maxRecDepth 20000 in
theorem ggX7_print_X7_saves : GoodIn wsX7_print wsX7_saves := goodIn_r _ [15, 16, 17, 8, 29, 30, 31, 32, 33, 34, 35, 36, 37, 38, 39, 40] (by decide +kernel) (by decide +kernel)
set_option maxRecDepth 20000 in
theorem gX7_print_X7_saves : GoodIn wsX7_print (wsV RX7 76 RX7 yX7_saves wsX7_saves) := goodIn_app (goodIn_of _ (by decide +kernel)) ggX7_print_X7_saves
set_option maxRecDepth 20000 in
theorem ggX7_print_X7_prints : GoodIn wsX7_print wsX7_prints := goodIn_r _ [21, 8, 22, 23, 5, 24, 25, 26, 27, 28, 29, 30, 31, 32, 33, 34, 35, 36, 37, 38, 39, 40] (by decide +kernel) (by decide +kernel)
set_option maxRecDepth 20000 in
theorem gX7_print_X7_prints : GoodIn wsX7_print (wsV RX7 84 RX7 yX7_prints wsX7_prints) := goodIn_app (goodIn_of _ (by decide +kernel)) ggX7_print_X7_prints
theorem dX7_print_0 : decode cX7_print 0 = .ok (.aload_n 0, 1) := by decide +kernel
theorem dX7_print_1 : decode cX7_print 1 = .ok (.aload_n 0, 1) := by decide +kernel
theorem dX7_print_2 : decode cX7_print 2 = .ok (.iload_n 1, 1) := by decide +kernel
theorem dX7_print_3 : decode cX7_print 3 = .ok (.invokevirtual 81, 3) := by decide +kernel
theorem dX7_print_6 : decode cX7_print 6 = .ok (.putfield 39, 3) := by decide +kernel
theorem dX7_print_9 : decode cX7_print 9 = .ok (.aload_n 0, 1) := by decide +kernel
theorem dX7_print_10 : decode cX7_print 10 = .ok (.getfield 39, 3) := by decide +kernel
theorem dX7_print_13 : decode cX7_print 13 = .ok (.ifCond .eq 5, 3) := by decide +kernel
theorem dX7_print_16 : decode cX7_print 16 = .ok (.iconst 0, 1) := by decide +kernel
theorem dX7_print_17 : decode cX7_print 17 = .ok (.ireturn, 1) := by decide +kernel
theorem dX7_print_18 : decode cX7_print 18 = .ok (.aload_n 0, 1) := by decide +kernel
theorem dX7_print_19 : decode cX7_print 19 = .ok (.invokevirtual 76, 3) := by decide +kernel
theorem dX7_print_22 : decode cX7_print 22 = .ok (.aload_n 0, 1) := by decide +kernel
theorem dX7_print_23 : decode cX7_print 23 = .ok (.iload_n 1, 1) := by decide +kernel
theorem dX7_print_24 : decode cX7_print 24 = .ok (.invokevirtual 84, 3) := by decide +kernel
theorem dX7_print_27 : decode cX7_print 27 = .ok (.ireturn, 1) := by decide +kernel
theorem dX7_slipped_0 : decode cX7_slipped 0 = .ok (.iload_n 1, 1) := by decide +kernel
theorem dX7_slipped_1 : decode cX7_slipped 1 = .ok (.i2l, 1) := by decide +kernel
theorem dX7_slipped_2 : decode cX7_slipped 2 = .ok (.lstore_n 2, 1) := by decide +kernel
theorem dX7_slipped_3 : decode cX7_slipped 3 = .ok (.iconst 0, 1) := by decide +kernel
theorem dX7_slipped_4 : decode cX7_slipped 4 = .ok (.istore 4, 2) := by decide +kernel
theorem dX7_slipped_6 : decode cX7_slipped 6 = .ok (.iload 4, 2) := by decide +kernel
theorem dX7_slipped_8 : decode cX7_slipped 8 = .ok (.iload_n 0, 1) := by decide +kernel
theorem dX7_slipped_9 : decode cX7_slipped 9 = .ok (.if_icmp .ge 15, 3) := by decide +kernel
theorem dX7_slipped_12 : decode cX7_slipped 12 = .ok (.lload_n 2, 1) := by decide +kernel
theorem dX7_slipped_13 : decode cX7_slipped 13 = .ok (.ldc2_w 65, 3) := by decide +kernel
theorem dX7_slipped_16 : decode cX7_slipped 16 = .ok (.lmul, 1) := by decide +kernel
theorem dX7_slipped_17 : decode cX7_slipped 17 = .ok (.lstore_n 2, 1) := by decide +kernel
theorem dX7_slipped_18 : decode cX7_slipped 18 = .ok (.iinc 4 1, 3) := by decide +kernel
theorem dX7_slipped_21 : decode cX7_slipped 21 = .ok (.goto (-15), 3) := by decide +kernel
theorem dX7_slipped_24 : decode cX7_slipped 24 = .ok (.lload_n 2, 1) := by decide +kernel
theorem dX7_slipped_25 : decode cX7_slipped 25 = .ok (.lreturn, 1) := by decide +kernel
set_option maxRecDepth 20000 in
theorem ggX7_maySlip_X7_in : GoodIn wsX7_maySlip wsX7_in := goodIn_r _ [10] (by decide +kernel) (by decide +kernel)
set_option maxRecDepth 20000 in
theorem gX7_maySlip_X7_in : GoodIn wsX7_maySlip (va_wsS RX7 43 yX7_in wsX7_in) := goodIn_app (goodIn_of _ (by decide +kernel)) ggX7_maySlip_X7_in
set_option maxRecDepth 20000 in
theorem ggX7_maySlip_X7_slipped : GoodIn wsX7_maySlip wsX7_slipped := goodIn_r _ [13, 14] (by decide +kernel) (by decide +kernel)
set_option maxRecDepth 20000 in
theorem gX7_maySlip_X7_slipped : GoodIn wsX7_maySlip (va_wsS RX7 91 yX7_slipped wsX7_slipped) := goodIn_app (goodIn_of _ (by decide +kernel)) ggX7_maySlip_X7_slipped
theorem dX7_maySlip_0 : decode cX7_maySlip 0 = .ok (.iload_n 1, 1) := by decide +kernel
theorem dX7_maySlip_1 : decode cX7_maySlip 1 = .ok (.i2l, 1) := by decide +kernel
theorem dX7_maySlip_2 : decode cX7_maySlip 2 = .ok (.lconst 0, 1) := by decide +kernel
theorem dX7_maySlip_3 : decode cX7_maySlip 3 = .ok (.ldc2_w 29, 3) := by decide +kernel
theorem dX7_maySlip_6 : decode cX7_maySlip 6 = .ok (.invokestatic 43, 3) := by decide +kernel
theorem dX7_maySlip_9 : decode cX7_maySlip 9 = .ok (.ifCond .ne 5, 3) := by decide +kernel
theorem dX7_maySlip_12 : decode cX7_maySlip 12 = .ok (.iconst 1, 1) := by decide +kernel
theorem dX7_maySlip_13 : decode cX7_maySlip 13 = .ok (.ireturn, 1) := by decide +kernel
theorem dX7_maySlip_14 : decode cX7_maySlip 14 = .ok (.iload_n 2, 1) := by decide +kernel
theorem dX7_maySlip_15 : decode cX7_maySlip 15 = .ok (.i2l, 1) := by decide +kernel
theorem dX7_maySlip_16 : decode cX7_maySlip 16 = .ok (.lconst 0, 1) := by decide +kernel
theorem dX7_maySlip_17 : decode cX7_maySlip 17 = .ok (.ldc2_w 87, 3) := by decide +kernel
theorem dX7_maySlip_20 : decode cX7_maySlip 20 = .ok (.invokestatic 43, 3) := by decide +kernel
theorem dX7_maySlip_23 : decode cX7_maySlip 23 = .ok (.ifCond .eq 17, 3) := by decide +kernel
theorem dX7_maySlip_26 : decode cX7_maySlip 26 = .ok (.iload_n 3, 1) := by decide +kernel
theorem dX7_maySlip_27 : decode cX7_maySlip 27 = .ok (.i2l, 1) := by decide +kernel
theorem dX7_maySlip_28 : decode cX7_maySlip 28 = .ok (.ldc2_w 89, 3) := by decide +kernel
theorem dX7_maySlip_31 : decode cX7_maySlip 31 = .ok (.ldc2_w 87, 3) := by decide +kernel
theorem dX7_maySlip_34 : decode cX7_maySlip 34 = .ok (.invokestatic 43, 3) := by decide +kernel
theorem dX7_maySlip_37 : decode cX7_maySlip 37 = .ok (.ifCond .ne 5, 3) := by decide +kernel
theorem dX7_maySlip_40 : decode cX7_maySlip 40 = .ok (.iconst 2, 1) := by decide +kernel
theorem dX7_maySlip_41 : decode cX7_maySlip 41 = .ok (.ireturn, 1) := by decide +kernel
theorem dX7_maySlip_42 : decode cX7_maySlip 42 = .ok (.aload_n 0, 1) := by decide +kernel
theorem dX7_maySlip_43 : decode cX7_maySlip 43 = .ok (.getfield 7, 3) := by decide +kernel
theorem dX7_maySlip_46 : decode cX7_maySlip 46 = .ok (.bipush 7, 2) := by decide +kernel
theorem dX7_maySlip_48 : decode cX7_maySlip 48 = .ok (.iload_n 1, 1) := by decide +kernel
theorem dX7_maySlip_49 : decode cX7_maySlip 49 = .ok (.iadd, 1) := by decide +kernel
theorem dX7_maySlip_50 : decode cX7_maySlip 50 = .ok (.laload, 1) := by decide +kernel
theorem dX7_maySlip_51 : decode cX7_maySlip 51 = .ok (.iload_n 2, 1) := by decide +kernel
theorem dX7_maySlip_52 : decode cX7_maySlip 52 = .ok (.iload_n 3, 1) := by decide +kernel
theorem dX7_maySlip_53 : decode cX7_maySlip 53 = .ok (.invokestatic 91, 3) := by decide +kernel
theorem dX7_maySlip_56 : decode cX7_maySlip 56 = .ok (.ladd, 1) := by decide +kernel
theorem dX7_maySlip_57 : decode cX7_maySlip 57 = .ok (.ldc2_w 95, 3) := by decide +kernel
theorem dX7_maySlip_60 : decode cX7_maySlip 60 = .ok (.ldc2_w 97, 3) := by decide +kernel
theorem dX7_maySlip_63 : decode cX7_maySlip 63 = .ok (.invokestatic 43, 3) := by decide +kernel
theorem dX7_maySlip_66 : decode cX7_maySlip 66 = .ok (.ifCond .eq 7, 3) := by decide +kernel
theorem dX7_maySlip_69 : decode cX7_maySlip 69 = .ok (.iconst 0, 1) := by decide +kernel
theorem dX7_maySlip_70 : decode cX7_maySlip 70 = .ok (.goto 4, 3) := by decide +kernel
theorem dX7_maySlip_73 : decode cX7_maySlip 73 = .ok (.iconst 3, 1) := by decide +kernel
theorem dX7_maySlip_74 : decode cX7_maySlip 74 = .ok (.ireturn, 1) := by decide +kernel
set_option maxRecDepth 20000 in
theorem ggX7_slip_X7_maySlip : GoodIn wsX7_slip wsX7_maySlip := goodIn_r _ [7, 8, 9, 10, 2, 11, 12, 13, 14, 6, 15, 16, 17, 18, 19, 26, 27, 28, 29, 30, 31, 32, 33, 34, 35, 36, 37] (by decide +kernel) (by decide +kernel)
set_option maxRecDepth 20000 in
theorem gX7_slip_X7_maySlip : GoodIn wsX7_slip (wsV RX7 99 RX7 yX7_maySlip wsX7_maySlip) := goodIn_app (goodIn_of _ (by decide +kernel)) ggX7_slip_X7_maySlip
set_option maxRecDepth 20000 in
theorem ggX7_slip_X7_saves : GoodIn wsX7_slip wsX7_saves := goodIn_r _ [23, 24, 25, 2, 26, 27, 28, 29, 30, 31, 32, 33, 34, 35, 36, 37] (by decide +kernel) (by decide +kernel)
set_option maxRecDepth 20000 in
theorem gX7_slip_X7_saves : GoodIn wsX7_slip (wsV RX7 76 RX7 yX7_saves wsX7_saves) := goodIn_app (goodIn_of _ (by decide +kernel)) ggX7_slip_X7_saves
set_option maxRecDepth 20000 in
theorem ggX7_slip_X7_slipped : GoodIn wsX7_slip wsX7_slipped := goodIn_r _ [18, 19] (by decide +kernel) (by decide +kernel)
set_option maxRecDepth 20000 in
theorem gX7_slip_X7_slipped : GoodIn wsX7_slip (va_wsS RX7 91 yX7_slipped wsX7_slipped) := goodIn_app (goodIn_of _ (by decide +kernel)) ggX7_slip_X7_slipped
theorem dX7_slip_0 : decode cX7_slip 0 = .ok (.aload_n 0, 1) := by decide +kernel
theorem dX7_slip_1 : decode cX7_slip 1 = .ok (.aload_n 0, 1) := by decide +kernel
theorem dX7_slip_2 : decode cX7_slip 2 = .ok (.iload_n 1, 1) := by decide +kernel
theorem dX7_slip_3 : decode cX7_slip 3 = .ok (.iload_n 2, 1) := by decide +kernel
theorem dX7_slip_4 : decode cX7_slip 4 = .ok (.iload_n 3, 1) := by decide +kernel
theorem dX7_slip_5 : decode cX7_slip 5 = .ok (.invokevirtual 99, 3) := by decide +kernel
theorem dX7_slip_8 : decode cX7_slip 8 = .ok (.putfield 39, 3) := by decide +kernel
theorem dX7_slip_11 : decode cX7_slip 11 = .ok (.aload_n 0, 1) := by decide +kernel
theorem dX7_slip_12 : decode cX7_slip 12 = .ok (.getfield 39, 3) := by decide +kernel
theorem dX7_slip_15 : decode cX7_slip 15 = .ok (.ifCond .eq 5, 3) := by decide +kernel
theorem dX7_slip_18 : decode cX7_slip 18 = .ok (.lconst 0, 1) := by decide +kernel
theorem dX7_slip_19 : decode cX7_slip 19 = .ok (.lreturn, 1) := by decide +kernel
theorem dX7_slip_20 : decode cX7_slip 20 = .ok (.aload_n 0, 1) := by decide +kernel
theorem dX7_slip_21 : decode cX7_slip 21 = .ok (.invokevirtual 76, 3) := by decide +kernel
theorem dX7_slip_24 : decode cX7_slip 24 = .ok (.aload_n 0, 1) := by decide +kernel
theorem dX7_slip_25 : decode cX7_slip 25 = .ok (.getfield 7, 3) := by decide +kernel
theorem dX7_slip_28 : decode cX7_slip 28 = .ok (.bipush 7, 2) := by decide +kernel
theorem dX7_slip_30 : decode cX7_slip 30 = .ok (.iload_n 1, 1) := by decide +kernel
theorem dX7_slip_31 : decode cX7_slip 31 = .ok (.iadd, 1) := by decide +kernel
theorem dX7_slip_32 : decode cX7_slip 32 = .ok (.dup2, 1) := by decide +kernel
theorem dX7_slip_33 : decode cX7_slip 33 = .ok (.laload, 1) := by decide +kernel
theorem dX7_slip_34 : decode cX7_slip 34 = .ok (.iload_n 2, 1) := by decide +kernel
theorem dX7_slip_35 : decode cX7_slip 35 = .ok (.iload_n 3, 1) := by decide +kernel
theorem dX7_slip_36 : decode cX7_slip 36 = .ok (.invokestatic 91, 3) := by decide +kernel
theorem dX7_slip_39 : decode cX7_slip 39 = .ok (.ladd, 1) := by decide +kernel
theorem dX7_slip_40 : decode cX7_slip 40 = .ok (.lastore, 1) := by decide +kernel
theorem dX7_slip_41 : decode cX7_slip 41 = .ok (.iload_n 2, 1) := by decide +kernel
theorem dX7_slip_42 : decode cX7_slip 42 = .ok (.iload_n 3, 1) := by decide +kernel
theorem dX7_slip_43 : decode cX7_slip 43 = .ok (.invokestatic 91, 3) := by decide +kernel
theorem dX7_slip_46 : decode cX7_slip 46 = .ok (.lreturn, 1) := by decide +kernel
set_option maxRecDepth 20000 in
theorem ggX7_correct_X7_saves : GoodIn wsX7_correct wsX7_saves := goodIn_r _ [7, 8, 9, 2, 22, 23, 24, 25, 26, 27, 28, 29, 30, 31, 32, 33] (by decide +kernel) (by decide +kernel)
set_option maxRecDepth 20000 in
theorem gX7_correct_X7_saves : GoodIn wsX7_correct (wsV RX7 76 RX7 yX7_saves wsX7_saves) := goodIn_app (goodIn_of _ (by decide +kernel)) ggX7_correct_X7_saves
set_option maxRecDepth 20000 in
theorem ggX7_correct_X7_corrects : GoodIn wsX7_correct wsX7_corrects := goodIn_r _ [12, 13, 14, 6, 15, 16, 17, 18, 19, 20, 21] (by decide +kernel) (by decide +kernel)
set_option maxRecDepth 20000 in
theorem gX7_correct_X7_corrects : GoodIn wsX7_correct (va_wsS RX7 35 yX7_corrects wsX7_corrects) := goodIn_app (goodIn_of _ (by decide +kernel)) ggX7_correct_X7_corrects
theorem dX7_correct_0 : decode cX7_correct 0 = .ok (.aload_n 0, 1) := by decide +kernel
theorem dX7_correct_1 : decode cX7_correct 1 = .ok (.iconst 0, 1) := by decide +kernel
theorem dX7_correct_2 : decode cX7_correct 2 = .ok (.putfield 39, 3) := by decide +kernel
theorem dX7_correct_5 : decode cX7_correct 5 = .ok (.aload_n 0, 1) := by decide +kernel
theorem dX7_correct_6 : decode cX7_correct 6 = .ok (.invokevirtual 76, 3) := by decide +kernel
theorem dX7_correct_9 : decode cX7_correct 9 = .ok (.aload_n 0, 1) := by decide +kernel
theorem dX7_correct_10 : decode cX7_correct 10 = .ok (.getfield 7, 3) := by decide +kernel
theorem dX7_correct_13 : decode cX7_correct 13 = .ok (.invokestatic 35, 3) := by decide +kernel
theorem dX7_correct_16 : decode cX7_correct 16 = .ok (.ireturn, 1) := by decide +kernel
set_option maxRecDepth 20000 in
theorem ggX7_strike_X7_isRow : GoodIn wsX7_strike wsX7_isRow := goodIn_r _ [7, 2, 8, 9, 6, 10, 28, 29, 30, 31, 32, 33, 34, 35, 36, 37, 38, 39] (by decide +kernel) (by decide +kernel)
set_option maxRecDepth 20000 in
theorem gX7_strike_X7_isRow : GoodIn wsX7_strike (wsV RX7 103 RX7 yX7_isRow wsX7_isRow) := goodIn_app (goodIn_of _ (by decide +kernel)) ggX7_strike_X7_isRow
set_option maxRecDepth 20000 in
theorem ggX7_strike_X7_fails : GoodIn wsX7_strike wsX7_fails := goodIn_r _ [14, 1, 28, 29, 30, 31, 32, 33, 34, 35, 36, 37, 38, 39] (by decide +kernel) (by decide +kernel)
set_option maxRecDepth 20000 in
theorem gX7_strike_X7_fails : GoodIn wsX7_strike (wsV RX7 50 RX7 yX7_fails wsX7_fails) := goodIn_app (goodIn_of _ (by decide +kernel)) ggX7_strike_X7_fails
set_option maxRecDepth 20000 in
theorem ggX7_strike_X7_saves : GoodIn wsX7_strike wsX7_saves := goodIn_r _ [18, 19, 20, 2, 28, 29, 30, 31, 32, 33, 34, 35, 36, 37, 38, 39] (by decide +kernel) (by decide +kernel)
set_option maxRecDepth 20000 in
theorem gX7_strike_X7_saves : GoodIn wsX7_strike (wsV RX7 76 RX7 yX7_saves wsX7_saves) := goodIn_app (goodIn_of _ (by decide +kernel)) ggX7_strike_X7_saves
set_option maxRecDepth 20000 in
theorem ggX7_strike_X7_right : GoodIn wsX7_strike wsX7_right := goodIn_r _ [23] (by decide +kernel) (by decide +kernel)
set_option maxRecDepth 20000 in
theorem gX7_strike_X7_right : GoodIn wsX7_strike (va_wsS RX7 54 yX7_right wsX7_right) := goodIn_app (goodIn_of _ (by decide +kernel)) ggX7_strike_X7_right
set_option maxRecDepth 20000 in
theorem ggX7_strike_X7_strikes : GoodIn wsX7_strike wsX7_strikes := goodIn_r _ [26, 27] (by decide +kernel) (by decide +kernel)
set_option maxRecDepth 20000 in
theorem gX7_strike_X7_strikes : GoodIn wsX7_strike (va_wsS RX7 67 yX7_strikes wsX7_strikes) := goodIn_app (goodIn_of _ (by decide +kernel)) ggX7_strike_X7_strikes
theorem dX7_strike_0 : decode cX7_strike 0 = .ok (.aload_n 0, 1) := by decide +kernel
theorem dX7_strike_1 : decode cX7_strike 1 = .ok (.iconst 0, 1) := by decide +kernel
theorem dX7_strike_2 : decode cX7_strike 2 = .ok (.putfield 39, 3) := by decide +kernel
theorem dX7_strike_5 : decode cX7_strike 5 = .ok (.aload_n 0, 1) := by decide +kernel
theorem dX7_strike_6 : decode cX7_strike 6 = .ok (.iload_n 1, 1) := by decide +kernel
theorem dX7_strike_7 : decode cX7_strike 7 = .ok (.invokevirtual 103, 3) := by decide +kernel
theorem dX7_strike_10 : decode cX7_strike 10 = .ok (.ifCond .ne 9, 3) := by decide +kernel
theorem dX7_strike_13 : decode cX7_strike 13 = .ok (.aload_n 0, 1) := by decide +kernel
theorem dX7_strike_14 : decode cX7_strike 14 = .ok (.iconst 1, 1) := by decide +kernel
theorem dX7_strike_15 : decode cX7_strike 15 = .ok (.invokevirtual 50, 3) := by decide +kernel
theorem dX7_strike_18 : decode cX7_strike 18 = .ok (.ireturn, 1) := by decide +kernel
theorem dX7_strike_19 : decode cX7_strike 19 = .ok (.aload_n 0, 1) := by decide +kernel
theorem dX7_strike_20 : decode cX7_strike 20 = .ok (.invokevirtual 76, 3) := by decide +kernel
theorem dX7_strike_23 : decode cX7_strike 23 = .ok (.aload_n 0, 1) := by decide +kernel
theorem dX7_strike_24 : decode cX7_strike 24 = .ok (.getfield 7, 3) := by decide +kernel
theorem dX7_strike_27 : decode cX7_strike 27 = .ok (.bipush 23, 2) := by decide +kernel
theorem dX7_strike_29 : decode cX7_strike 29 = .ok (.iload_n 1, 1) := by decide +kernel
theorem dX7_strike_30 : decode cX7_strike 30 = .ok (.iadd, 1) := by decide +kernel
theorem dX7_strike_31 : decode cX7_strike 31 = .ok (.aload_n 0, 1) := by decide +kernel
theorem dX7_strike_32 : decode cX7_strike 32 = .ok (.getfield 7, 3) := by decide +kernel
theorem dX7_strike_35 : decode cX7_strike 35 = .ok (.iload_n 1, 1) := by decide +kernel
theorem dX7_strike_36 : decode cX7_strike 36 = .ok (.invokestatic 54, 3) := by decide +kernel
theorem dX7_strike_39 : decode cX7_strike 39 = .ok (.lastore, 1) := by decide +kernel
theorem dX7_strike_40 : decode cX7_strike 40 = .ok (.aload_n 0, 1) := by decide +kernel
theorem dX7_strike_41 : decode cX7_strike 41 = .ok (.getfield 7, 3) := by decide +kernel
theorem dX7_strike_44 : decode cX7_strike 44 = .ok (.bipush 63, 2) := by decide +kernel
theorem dX7_strike_46 : decode cX7_strike 46 = .ok (.iload_n 1, 1) := by decide +kernel
theorem dX7_strike_47 : decode cX7_strike 47 = .ok (.iadd, 1) := by decide +kernel
theorem dX7_strike_48 : decode cX7_strike 48 = .ok (.aload_n 0, 1) := by decide +kernel
theorem dX7_strike_49 : decode cX7_strike 49 = .ok (.getfield 7, 3) := by decide +kernel
theorem dX7_strike_52 : decode cX7_strike 52 = .ok (.aload_n 0, 1) := by decide +kernel
theorem dX7_strike_53 : decode cX7_strike 53 = .ok (.getfield 7, 3) := by decide +kernel
theorem dX7_strike_56 : decode cX7_strike 56 = .ok (.bipush 23, 2) := by decide +kernel
theorem dX7_strike_58 : decode cX7_strike 58 = .ok (.iload_n 1, 1) := by decide +kernel
theorem dX7_strike_59 : decode cX7_strike 59 = .ok (.iadd, 1) := by decide +kernel
theorem dX7_strike_60 : decode cX7_strike 60 = .ok (.laload, 1) := by decide +kernel
theorem dX7_strike_61 : decode cX7_strike 61 = .ok (.invokestatic 67, 3) := by decide +kernel
theorem dX7_strike_64 : decode cX7_strike 64 = .ok (.i2l, 1) := by decide +kernel
theorem dX7_strike_65 : decode cX7_strike 65 = .ok (.lastore, 1) := by decide +kernel
theorem dX7_strike_66 : decode cX7_strike 66 = .ok (.aload_n 0, 1) := by decide +kernel
theorem dX7_strike_67 : decode cX7_strike 67 = .ok (.getfield 7, 3) := by decide +kernel
theorem dX7_strike_70 : decode cX7_strike 70 = .ok (.bipush 6, 2) := by decide +kernel
theorem dX7_strike_72 : decode cX7_strike 72 = .ok (.dup2, 1) := by decide +kernel
theorem dX7_strike_73 : decode cX7_strike 73 = .ok (.laload, 1) := by decide +kernel
theorem dX7_strike_74 : decode cX7_strike 74 = .ok (.lconst 1, 1) := by decide +kernel
theorem dX7_strike_75 : decode cX7_strike 75 = .ok (.ladd, 1) := by decide +kernel
theorem dX7_strike_76 : decode cX7_strike 76 = .ok (.lastore, 1) := by decide +kernel
theorem dX7_strike_77 : decode cX7_strike 77 = .ok (.aload_n 0, 1) := by decide +kernel
theorem dX7_strike_78 : decode cX7_strike 78 = .ok (.getfield 7, 3) := by decide +kernel
theorem dX7_strike_81 : decode cX7_strike 81 = .ok (.bipush 63, 2) := by decide +kernel
theorem dX7_strike_83 : decode cX7_strike 83 = .ok (.iload_n 1, 1) := by decide +kernel
theorem dX7_strike_84 : decode cX7_strike 84 = .ok (.iadd, 1) := by decide +kernel
theorem dX7_strike_85 : decode cX7_strike 85 = .ok (.laload, 1) := by decide +kernel
theorem dX7_strike_86 : decode cX7_strike 86 = .ok (.l2i, 1) := by decide +kernel
theorem dX7_strike_87 : decode cX7_strike 87 = .ok (.ireturn, 1) := by decide +kernel
theorem dX7_changes_0 : decode cX7_changes 0 = .ok (.aload_n 0, 1) := by decide +kernel
theorem dX7_changes_1 : decode cX7_changes 1 = .ok (.getfield 7, 3) := by decide +kernel
theorem dX7_changes_4 : decode cX7_changes 4 = .ok (.iload_n 1, 1) := by decide +kernel
theorem dX7_changes_5 : decode cX7_changes 5 = .ok (.laload, 1) := by decide +kernel
theorem dX7_changes_6 : decode cX7_changes 6 = .ok (.l2i, 1) := by decide +kernel
theorem dX7_changes_7 : decode cX7_changes 7 = .ok (.istore_n 3, 1) := by decide +kernel
theorem dX7_changes_8 : decode cX7_changes 8 = .ok (.aload_n 0, 1) := by decide +kernel
theorem dX7_changes_9 : decode cX7_changes 9 = .ok (.getfield 7, 3) := by decide +kernel
theorem dX7_changes_12 : decode cX7_changes 12 = .ok (.iload_n 1, 1) := by decide +kernel
theorem dX7_changes_13 : decode cX7_changes 13 = .ok (.iload_n 2, 1) := by decide +kernel
theorem dX7_changes_14 : decode cX7_changes 14 = .ok (.i2l, 1) := by decide +kernel
theorem dX7_changes_15 : decode cX7_changes 15 = .ok (.lastore, 1) := by decide +kernel
theorem dX7_changes_16 : decode cX7_changes 16 = .ok (.iload_n 3, 1) := by decide +kernel
theorem dX7_changes_17 : decode cX7_changes 17 = .ok (.ireturn, 1) := by decide +kernel
set_option maxRecDepth 20000 in
theorem ggX7_renew_X7_in : GoodIn wsX7_renew wsX7_in := goodIn_r _ [6] (by decide +kernel) (by decide +kernel)
set_option maxRecDepth 20000 in
theorem gX7_renew_X7_in : GoodIn wsX7_renew (va_wsS RX7 43 yX7_in wsX7_in) := goodIn_app (goodIn_of _ (by decide +kernel)) ggX7_renew_X7_in
set_option maxRecDepth 20000 in
theorem ggX7_renew_X7_fails : GoodIn wsX7_renew wsX7_fails := goodIn_r _ [10, 1, 22, 23, 24, 25, 26, 27, 28, 29, 30, 31, 32, 33] (by decide +kernel) (by decide +kernel)
set_option maxRecDepth 20000 in
theorem gX7_renew_X7_fails : GoodIn wsX7_renew (wsV RX7 50 RX7 yX7_fails wsX7_fails) := goodIn_app (goodIn_of _ (by decide +kernel)) ggX7_renew_X7_fails
set_option maxRecDepth 20000 in
theorem ggX7_renew_X7_saves : GoodIn wsX7_renew wsX7_saves := goodIn_r _ [14, 15, 16, 17, 22, 23, 24, 25, 26, 27, 28, 29, 30, 31, 32, 33] (by decide +kernel) (by decide +kernel)
set_option maxRecDepth 20000 in
theorem gX7_renew_X7_saves : GoodIn wsX7_renew (wsV RX7 76 RX7 yX7_saves wsX7_saves) := goodIn_app (goodIn_of _ (by decide +kernel)) ggX7_renew_X7_saves
set_option maxRecDepth 20000 in
theorem ggX7_renew_X7_changes : GoodIn wsX7_renew wsX7_changes := goodIn_r _ [21, 17, 22, 23, 24, 25, 26, 27, 28, 29, 30, 31, 32, 33] (by decide +kernel) (by decide +kernel)
set_option maxRecDepth 20000 in
theorem gX7_renew_X7_changes : GoodIn wsX7_renew (wsV RX7 107 RX7 yX7_changes wsX7_changes) := goodIn_app (goodIn_of _ (by decide +kernel)) ggX7_renew_X7_changes
theorem dX7_renew_0 : decode cX7_renew 0 = .ok (.aload_n 0, 1) := by decide +kernel
theorem dX7_renew_1 : decode cX7_renew 1 = .ok (.iconst 0, 1) := by decide +kernel
theorem dX7_renew_2 : decode cX7_renew 2 = .ok (.putfield 39, 3) := by decide +kernel
theorem dX7_renew_5 : decode cX7_renew 5 = .ok (.iload_n 1, 1) := by decide +kernel
theorem dX7_renew_6 : decode cX7_renew 6 = .ok (.i2l, 1) := by decide +kernel
theorem dX7_renew_7 : decode cX7_renew 7 = .ok (.lconst 0, 1) := by decide +kernel
theorem dX7_renew_8 : decode cX7_renew 8 = .ok (.ldc2_w 87, 3) := by decide +kernel
theorem dX7_renew_11 : decode cX7_renew 11 = .ok (.invokestatic 43, 3) := by decide +kernel
theorem dX7_renew_14 : decode cX7_renew 14 = .ok (.ifCond .ne 9, 3) := by decide +kernel
theorem dX7_renew_17 : decode cX7_renew 17 = .ok (.aload_n 0, 1) := by decide +kernel
theorem dX7_renew_18 : decode cX7_renew 18 = .ok (.iconst 1, 1) := by decide +kernel
theorem dX7_renew_19 : decode cX7_renew 19 = .ok (.invokevirtual 50, 3) := by decide +kernel
theorem dX7_renew_22 : decode cX7_renew 22 = .ok (.ireturn, 1) := by decide +kernel
theorem dX7_renew_23 : decode cX7_renew 23 = .ok (.aload_n 0, 1) := by decide +kernel
theorem dX7_renew_24 : decode cX7_renew 24 = .ok (.invokevirtual 76, 3) := by decide +kernel
theorem dX7_renew_27 : decode cX7_renew 27 = .ok (.aload_n 0, 1) := by decide +kernel
theorem dX7_renew_28 : decode cX7_renew 28 = .ok (.bipush 13, 2) := by decide +kernel
theorem dX7_renew_30 : decode cX7_renew 30 = .ok (.iload_n 1, 1) := by decide +kernel
theorem dX7_renew_31 : decode cX7_renew 31 = .ok (.iadd, 1) := by decide +kernel
theorem dX7_renew_32 : decode cX7_renew 32 = .ok (.iconst 0, 1) := by decide +kernel
theorem dX7_renew_33 : decode cX7_renew 33 = .ok (.invokevirtual 107, 3) := by decide +kernel
theorem dX7_renew_36 : decode cX7_renew 36 = .ok (.ireturn, 1) := by decide +kernel
set_option maxRecDepth 20000 in
theorem ggX7_set_X7_in : GoodIn wsX7_set wsX7_in := goodIn_r _ [7] (by decide +kernel) (by decide +kernel)
set_option maxRecDepth 20000 in
theorem gX7_set_X7_in : GoodIn wsX7_set (va_wsS RX7 43 yX7_in wsX7_in) := goodIn_app (goodIn_of _ (by decide +kernel)) ggX7_set_X7_in
set_option maxRecDepth 20000 in
theorem ggX7_set_X7_fails : GoodIn wsX7_set wsX7_fails := goodIn_r _ [11, 1, 23, 24, 25, 26, 27, 28, 29, 30, 31, 32, 33, 34] (by decide +kernel) (by decide +kernel)
set_option maxRecDepth 20000 in
theorem gX7_set_X7_fails : GoodIn wsX7_set (wsV RX7 50 RX7 yX7_fails wsX7_fails) := goodIn_app (goodIn_of _ (by decide +kernel)) ggX7_set_X7_fails
set_option maxRecDepth 20000 in
theorem ggX7_set_X7_saves : GoodIn wsX7_set wsX7_saves := goodIn_r _ [15, 16, 17, 18, 23, 24, 25, 26, 27, 28, 29, 30, 31, 32, 33, 34] (by decide +kernel) (by decide +kernel)
set_option maxRecDepth 20000 in
theorem gX7_set_X7_saves : GoodIn wsX7_set (wsV RX7 76 RX7 yX7_saves wsX7_saves) := goodIn_app (goodIn_of _ (by decide +kernel)) ggX7_set_X7_saves
set_option maxRecDepth 20000 in
theorem ggX7_set_X7_changes : GoodIn wsX7_set wsX7_changes := goodIn_r _ [22, 18, 23, 24, 25, 26, 27, 28, 29, 30, 31, 32, 33, 34] (by decide +kernel) (by decide +kernel)
set_option maxRecDepth 20000 in
theorem gX7_set_X7_changes : GoodIn wsX7_set (wsV RX7 107 RX7 yX7_changes wsX7_changes) := goodIn_app (goodIn_of _ (by decide +kernel)) ggX7_set_X7_changes
theorem dX7_set_0 : decode cX7_set 0 = .ok (.aload_n 0, 1) := by decide +kernel
theorem dX7_set_1 : decode cX7_set 1 = .ok (.iconst 0, 1) := by decide +kernel
theorem dX7_set_2 : decode cX7_set 2 = .ok (.putfield 39, 3) := by decide +kernel
theorem dX7_set_5 : decode cX7_set 5 = .ok (.iload_n 1, 1) := by decide +kernel
theorem dX7_set_6 : decode cX7_set 6 = .ok (.i2l, 1) := by decide +kernel
theorem dX7_set_7 : decode cX7_set 7 = .ok (.lconst 0, 1) := by decide +kernel
theorem dX7_set_8 : decode cX7_set 8 = .ok (.lconst 1, 1) := by decide +kernel
theorem dX7_set_9 : decode cX7_set 9 = .ok (.invokestatic 43, 3) := by decide +kernel
theorem dX7_set_12 : decode cX7_set 12 = .ok (.ifCond .ne 9, 3) := by decide +kernel
theorem dX7_set_15 : decode cX7_set 15 = .ok (.aload_n 0, 1) := by decide +kernel
theorem dX7_set_16 : decode cX7_set 16 = .ok (.iconst 1, 1) := by decide +kernel
theorem dX7_set_17 : decode cX7_set 17 = .ok (.invokevirtual 50, 3) := by decide +kernel
theorem dX7_set_20 : decode cX7_set 20 = .ok (.ireturn, 1) := by decide +kernel
theorem dX7_set_21 : decode cX7_set 21 = .ok (.iload_n 2, 1) := by decide +kernel
theorem dX7_set_22 : decode cX7_set 22 = .ok (.i2l, 1) := by decide +kernel
theorem dX7_set_23 : decode cX7_set 23 = .ok (.lconst 1, 1) := by decide +kernel
theorem dX7_set_24 : decode cX7_set 24 = .ok (.iload_n 1, 1) := by decide +kernel
theorem dX7_set_25 : decode cX7_set 25 = .ok (.ifCond .ne 9, 3) := by decide +kernel
theorem dX7_set_28 : decode cX7_set 28 = .ok (.ldc2_w 111, 3) := by decide +kernel
theorem dX7_set_31 : decode cX7_set 31 = .ok (.goto 6, 3) := by decide +kernel
theorem dX7_set_34 : decode cX7_set 34 = .ok (.ldc2_w 113, 3) := by decide +kernel
theorem dX7_set_37 : decode cX7_set 37 = .ok (.invokestatic 43, 3) := by decide +kernel
theorem dX7_set_40 : decode cX7_set 40 = .ok (.ifCond .ne 9, 3) := by decide +kernel
theorem dX7_set_43 : decode cX7_set 43 = .ok (.aload_n 0, 1) := by decide +kernel
theorem dX7_set_44 : decode cX7_set 44 = .ok (.iconst 2, 1) := by decide +kernel
theorem dX7_set_45 : decode cX7_set 45 = .ok (.invokevirtual 50, 3) := by decide +kernel
theorem dX7_set_48 : decode cX7_set 48 = .ok (.ireturn, 1) := by decide +kernel
theorem dX7_set_49 : decode cX7_set 49 = .ok (.aload_n 0, 1) := by decide +kernel
theorem dX7_set_50 : decode cX7_set 50 = .ok (.invokevirtual 76, 3) := by decide +kernel
theorem dX7_set_53 : decode cX7_set 53 = .ok (.aload_n 0, 1) := by decide +kernel
theorem dX7_set_54 : decode cX7_set 54 = .ok (.iload_n 1, 1) := by decide +kernel
theorem dX7_set_55 : decode cX7_set 55 = .ok (.iload_n 2, 1) := by decide +kernel
theorem dX7_set_56 : decode cX7_set 56 = .ok (.invokevirtual 107, 3) := by decide +kernel
theorem dX7_set_59 : decode cX7_set 59 = .ok (.ireturn, 1) := by decide +kernel
set_option maxRecDepth 20000 in
theorem ggX7_append_X7_in : GoodIn wsX7_append wsX7_in := goodIn_r _ [9] (by decide +kernel) (by decide +kernel)
set_option maxRecDepth 20000 in
theorem gX7_append_X7_in : GoodIn wsX7_append (va_wsS RX7 43 yX7_in wsX7_in) := goodIn_app (goodIn_of _ (by decide +kernel)) ggX7_append_X7_in
set_option maxRecDepth 20000 in
theorem ggX7_append_X7_fails : GoodIn wsX7_append wsX7_fails := goodIn_r _ [13, 1, 14, 15, 16, 17, 18, 19, 20, 21, 22, 23, 24, 25] (by decide +kernel) (by decide +kernel)
set_option maxRecDepth 20000 in
theorem gX7_append_X7_fails : GoodIn wsX7_append (wsV RX7 50 RX7 yX7_fails wsX7_fails) := goodIn_app (goodIn_of _ (by decide +kernel)) ggX7_append_X7_fails
theorem dX7_append_0 : decode cX7_append 0 = .ok (.aload_n 0, 1) := by decide +kernel
theorem dX7_append_1 : decode cX7_append 1 = .ok (.iconst 0, 1) := by decide +kernel
theorem dX7_append_2 : decode cX7_append 2 = .ok (.putfield 39, 3) := by decide +kernel
theorem dX7_append_5 : decode cX7_append 5 = .ok (.iload_n 1, 1) := by decide +kernel
theorem dX7_append_6 : decode cX7_append 6 = .ok (.i2l, 1) := by decide +kernel
theorem dX7_append_7 : decode cX7_append 7 = .ok (.ldc2_w 115, 3) := by decide +kernel
theorem dX7_append_10 : decode cX7_append 10 = .ok (.ldc2_w 117, 3) := by decide +kernel
theorem dX7_append_13 : decode cX7_append 13 = .ok (.invokestatic 43, 3) := by decide +kernel
theorem dX7_append_16 : decode cX7_append 16 = .ok (.ifCond .ne 9, 3) := by decide +kernel
theorem dX7_append_19 : decode cX7_append 19 = .ok (.aload_n 0, 1) := by decide +kernel
theorem dX7_append_20 : decode cX7_append 20 = .ok (.iconst 1, 1) := by decide +kernel
theorem dX7_append_21 : decode cX7_append 21 = .ok (.invokevirtual 50, 3) := by decide +kernel
theorem dX7_append_24 : decode cX7_append 24 = .ok (.ireturn, 1) := by decide +kernel
theorem dX7_append_25 : decode cX7_append 25 = .ok (.aload_n 0, 1) := by decide +kernel
theorem dX7_append_26 : decode cX7_append 26 = .ok (.getfield 119, 3) := by decide +kernel
theorem dX7_append_29 : decode cX7_append 29 = .ok (.bipush 60, 2) := by decide +kernel
theorem dX7_append_31 : decode cX7_append 31 = .ok (.if_icmp .ne 9, 3) := by decide +kernel
theorem dX7_append_34 : decode cX7_append 34 = .ok (.aload_n 0, 1) := by decide +kernel
theorem dX7_append_35 : decode cX7_append 35 = .ok (.iconst 2, 1) := by decide +kernel
theorem dX7_append_36 : decode cX7_append 36 = .ok (.invokevirtual 50, 3) := by decide +kernel
theorem dX7_append_39 : decode cX7_append 39 = .ok (.ireturn, 1) := by decide +kernel
theorem dX7_append_40 : decode cX7_append 40 = .ok (.aload_n 0, 1) := by decide +kernel
theorem dX7_append_41 : decode cX7_append 41 = .ok (.getfield 19, 3) := by decide +kernel
theorem dX7_append_44 : decode cX7_append 44 = .ok (.aload_n 0, 1) := by decide +kernel
theorem dX7_append_45 : decode cX7_append 45 = .ok (.getfield 119, 3) := by decide +kernel
theorem dX7_append_48 : decode cX7_append 48 = .ok (.iload_n 1, 1) := by decide +kernel
theorem dX7_append_49 : decode cX7_append 49 = .ok (.iastore, 1) := by decide +kernel
theorem dX7_append_50 : decode cX7_append 50 = .ok (.aload_n 0, 1) := by decide +kernel
theorem dX7_append_51 : decode cX7_append 51 = .ok (.dup, 1) := by decide +kernel
theorem dX7_append_52 : decode cX7_append 52 = .ok (.getfield 119, 3) := by decide +kernel
theorem dX7_append_55 : decode cX7_append 55 = .ok (.iconst 1, 1) := by decide +kernel
theorem dX7_append_56 : decode cX7_append 56 = .ok (.iadd, 1) := by decide +kernel
theorem dX7_append_57 : decode cX7_append 57 = .ok (.putfield 119, 3) := by decide +kernel
theorem dX7_append_60 : decode cX7_append 60 = .ok (.aload_n 0, 1) := by decide +kernel
theorem dX7_append_61 : decode cX7_append 61 = .ok (.getfield 119, 3) := by decide +kernel
theorem dX7_append_64 : decode cX7_append 64 = .ok (.ireturn, 1) := by decide +kernel
theorem dX7_clearBuffer_0 : decode cX7_clearBuffer 0 = .ok (.aload_n 0, 1) := by decide +kernel
theorem dX7_clearBuffer_1 : decode cX7_clearBuffer 1 = .ok (.iconst 0, 1) := by decide +kernel
theorem dX7_clearBuffer_2 : decode cX7_clearBuffer 2 = .ok (.putfield 39, 3) := by decide +kernel
theorem dX7_clearBuffer_5 : decode cX7_clearBuffer 5 = .ok (.aload_n 0, 1) := by decide +kernel
theorem dX7_clearBuffer_6 : decode cX7_clearBuffer 6 = .ok (.getfield 119, 3) := by decide +kernel
theorem dX7_clearBuffer_9 : decode cX7_clearBuffer 9 = .ok (.istore_n 1, 1) := by decide +kernel
theorem dX7_clearBuffer_10 : decode cX7_clearBuffer 10 = .ok (.aload_n 0, 1) := by decide +kernel
theorem dX7_clearBuffer_11 : decode cX7_clearBuffer 11 = .ok (.iconst 0, 1) := by decide +kernel
theorem dX7_clearBuffer_12 : decode cX7_clearBuffer 12 = .ok (.putfield 119, 3) := by decide +kernel
theorem dX7_clearBuffer_15 : decode cX7_clearBuffer 15 = .ok (.iload_n 1, 1) := by decide +kernel
theorem dX7_clearBuffer_16 : decode cX7_clearBuffer 16 = .ok (.ireturn, 1) := by decide +kernel
set_option maxRecDepth 20000 in
theorem ggX7_isAt_X7_in : GoodIn wsX7_isAt wsX7_in := goodIn_r _ [7] (by decide +kernel) (by decide +kernel)
set_option maxRecDepth 20000 in
theorem gX7_isAt_X7_in : GoodIn wsX7_isAt (va_wsS RX7 43 yX7_in wsX7_in) := goodIn_app (goodIn_of _ (by decide +kernel)) ggX7_isAt_X7_in
theorem dX7_isAt_0 : decode cX7_isAt 0 = .ok (.aload_n 0, 1) := by decide +kernel
theorem dX7_isAt_1 : decode cX7_isAt 1 = .ok (.getfield 122, 3) := by decide +kernel
theorem dX7_isAt_4 : decode cX7_isAt 4 = .ok (.aload_n 0, 1) := by decide +kernel
theorem dX7_isAt_5 : decode cX7_isAt 5 = .ok (.getfield 119, 3) := by decide +kernel
theorem dX7_isAt_8 : decode cX7_isAt 8 = .ok (.if_icmp .ge 27, 3) := by decide +kernel
theorem dX7_isAt_11 : decode cX7_isAt 11 = .ok (.aload_n 0, 1) := by decide +kernel
theorem dX7_isAt_12 : decode cX7_isAt 12 = .ok (.getfield 19, 3) := by decide +kernel
theorem dX7_isAt_15 : decode cX7_isAt 15 = .ok (.aload_n 0, 1) := by decide +kernel
theorem dX7_isAt_16 : decode cX7_isAt 16 = .ok (.getfield 122, 3) := by decide +kernel
theorem dX7_isAt_19 : decode cX7_isAt 19 = .ok (.iaload, 1) := by decide +kernel
theorem dX7_isAt_20 : decode cX7_isAt 20 = .ok (.i2l, 1) := by decide +kernel
theorem dX7_isAt_21 : decode cX7_isAt 21 = .ok (.iload_n 1, 1) := by decide +kernel
theorem dX7_isAt_22 : decode cX7_isAt 22 = .ok (.i2l, 1) := by decide +kernel
theorem dX7_isAt_23 : decode cX7_isAt 23 = .ok (.iload_n 2, 1) := by decide +kernel
theorem dX7_isAt_24 : decode cX7_isAt 24 = .ok (.i2l, 1) := by decide +kernel
theorem dX7_isAt_25 : decode cX7_isAt 25 = .ok (.invokestatic 43, 3) := by decide +kernel
theorem dX7_isAt_28 : decode cX7_isAt 28 = .ok (.ifCond .eq 7, 3) := by decide +kernel
theorem dX7_isAt_31 : decode cX7_isAt 31 = .ok (.iconst 1, 1) := by decide +kernel
theorem dX7_isAt_32 : decode cX7_isAt 32 = .ok (.goto 4, 3) := by decide +kernel
theorem dX7_isAt_35 : decode cX7_isAt 35 = .ok (.iconst 0, 1) := by decide +kernel
theorem dX7_isAt_36 : decode cX7_isAt 36 = .ok (.ireturn, 1) := by decide +kernel
theorem dX7_stops_0 : decode cX7_stops 0 = .ok (.aload_n 0, 1) := by decide +kernel
theorem dX7_stops_1 : decode cX7_stops 1 = .ok (.aload_n 0, 1) := by decide +kernel
theorem dX7_stops_2 : decode cX7_stops 2 = .ok (.getfield 122, 3) := by decide +kernel
theorem dX7_stops_5 : decode cX7_stops 5 = .ok (.aload_n 0, 1) := by decide +kernel
theorem dX7_stops_6 : decode cX7_stops 6 = .ok (.getfield 119, 3) := by decide +kernel
theorem dX7_stops_9 : decode cX7_stops 9 = .ok (.if_icmp .ge 7, 3) := by decide +kernel
theorem dX7_stops_12 : decode cX7_stops 12 = .ok (.iconst 1, 1) := by decide +kernel
theorem dX7_stops_13 : decode cX7_stops 13 = .ok (.goto 4, 3) := by decide +kernel
theorem dX7_stops_16 : decode cX7_stops 16 = .ok (.iconst 0, 1) := by decide +kernel
theorem dX7_stops_17 : decode cX7_stops 17 = .ok (.putfield 125, 3) := by decide +kernel
theorem dX7_stops_20 : decode cX7_stops 20 = .ok (.iconst 0, 1) := by decide +kernel
theorem dX7_stops_21 : decode cX7_stops 21 = .ok (.ireturn, 1) := by decide +kernel
set_option maxRecDepth 20000 in
theorem ggX7_isFigure_X7_isAt : GoodIn wsX7_isFigure wsX7_isAt := goodIn_r _ [9, 4, 10, 3, 11, 12, 8, 13, 19, 20, 21, 22, 23, 24, 25, 26, 27, 28, 29, 30] (by decide +kernel) (by decide +kernel)
set_option maxRecDepth 20000 in
theorem gX7_isFigure_X7_isAt : GoodIn wsX7_isFigure (wsV RX7 129 RX7 yX7_isAt wsX7_isAt) := goodIn_app (goodIn_of _ (by decide +kernel)) ggX7_isFigure_X7_isAt
set_option maxRecDepth 20000 in
theorem ggX7_isFigure_X7_stops : GoodIn wsX7_isFigure wsX7_stops := goodIn_r _ [17, 4, 10, 18, 19, 20, 21, 22, 23, 24, 25, 26, 27, 28, 29, 30] (by decide +kernel) (by decide +kernel)
set_option maxRecDepth 20000 in
theorem gX7_isFigure_X7_stops : GoodIn wsX7_isFigure (wsV RX7 133 RX7 yX7_stops wsX7_stops) := goodIn_app (goodIn_of _ (by decide +kernel)) ggX7_isFigure_X7_stops
theorem dX7_isFigure_0 : decode cX7_isFigure 0 = .ok (.aload_n 0, 1) := by decide +kernel
theorem dX7_isFigure_1 : decode cX7_isFigure 1 = .ok (.iload_n 2, 1) := by decide +kernel
theorem dX7_isFigure_2 : decode cX7_isFigure 2 = .ok (.iload_n 3, 1) := by decide +kernel
theorem dX7_isFigure_3 : decode cX7_isFigure 3 = .ok (.invokevirtual 129, 3) := by decide +kernel
theorem dX7_isFigure_6 : decode cX7_isFigure 6 = .ok (.ifCond .ne 8, 3) := by decide +kernel
theorem dX7_isFigure_9 : decode cX7_isFigure 9 = .ok (.aload_n 0, 1) := by decide +kernel
theorem dX7_isFigure_10 : decode cX7_isFigure 10 = .ok (.invokevirtual 133, 3) := by decide +kernel
theorem dX7_isFigure_13 : decode cX7_isFigure 13 = .ok (.ireturn, 1) := by decide +kernel
theorem dX7_isFigure_14 : decode cX7_isFigure 14 = .ok (.aload_n 0, 1) := by decide +kernel
theorem dX7_isFigure_15 : decode cX7_isFigure 15 = .ok (.getfield 23, 3) := by decide +kernel
theorem dX7_isFigure_18 : decode cX7_isFigure 18 = .ok (.iconst 4, 1) := by decide +kernel
theorem dX7_isFigure_19 : decode cX7_isFigure 19 = .ok (.aload_n 0, 1) := by decide +kernel
theorem dX7_isFigure_20 : decode cX7_isFigure 20 = .ok (.getfield 137, 3) := by decide +kernel
theorem dX7_isFigure_23 : decode cX7_isFigure 23 = .ok (.imul, 1) := by decide +kernel
theorem dX7_isFigure_24 : decode cX7_isFigure 24 = .ok (.iload_n 1, 1) := by decide +kernel
theorem dX7_isFigure_25 : decode cX7_isFigure 25 = .ok (.iadd, 1) := by decide +kernel
theorem dX7_isFigure_26 : decode cX7_isFigure 26 = .ok (.aload_n 0, 1) := by decide +kernel
theorem dX7_isFigure_27 : decode cX7_isFigure 27 = .ok (.getfield 19, 3) := by decide +kernel
theorem dX7_isFigure_30 : decode cX7_isFigure 30 = .ok (.aload_n 0, 1) := by decide +kernel
theorem dX7_isFigure_31 : decode cX7_isFigure 31 = .ok (.getfield 122, 3) := by decide +kernel
theorem dX7_isFigure_34 : decode cX7_isFigure 34 = .ok (.iaload, 1) := by decide +kernel
theorem dX7_isFigure_35 : decode cX7_isFigure 35 = .ok (.bipush 48, 2) := by decide +kernel
theorem dX7_isFigure_37 : decode cX7_isFigure 37 = .ok (.isub, 1) := by decide +kernel
theorem dX7_isFigure_38 : decode cX7_isFigure 38 = .ok (.iastore, 1) := by decide +kernel
theorem dX7_isFigure_39 : decode cX7_isFigure 39 = .ok (.aload_n 0, 1) := by decide +kernel
theorem dX7_isFigure_40 : decode cX7_isFigure 40 = .ok (.dup, 1) := by decide +kernel
theorem dX7_isFigure_41 : decode cX7_isFigure 41 = .ok (.getfield 122, 3) := by decide +kernel
theorem dX7_isFigure_44 : decode cX7_isFigure 44 = .ok (.iconst 1, 1) := by decide +kernel
theorem dX7_isFigure_45 : decode cX7_isFigure 45 = .ok (.iadd, 1) := by decide +kernel
theorem dX7_isFigure_46 : decode cX7_isFigure 46 = .ok (.putfield 122, 3) := by decide +kernel
theorem dX7_isFigure_49 : decode cX7_isFigure 49 = .ok (.iconst 1, 1) := by decide +kernel
theorem dX7_isFigure_50 : decode cX7_isFigure 50 = .ok (.ireturn, 1) := by decide +kernel
set_option maxRecDepth 20000 in
theorem ggX7_isRows_X7_isFigure : GoodIn wsX7_isRows wsX7_isFigure := goodIn_r _ [9, 1, 2, 3, 4, 10, 11, 12, 8, 13, 14, 15, 16, 17, 18, 19, 20, 21, 22, 23, 24, 25, 26, 27, 28, 29, 30, 31, 32, 33, 34] (by decide +kernel) (by decide +kernel)
set_option maxRecDepth 20000 in
theorem gX7_isRows_X7_isFigure : GoodIn wsX7_isRows (wsV RX7 140 RX7 yX7_isFigure wsX7_isFigure) := goodIn_app (goodIn_of _ (by decide +kernel)) ggX7_isRows_X7_isFigure
set_option maxRecDepth 20000 in
theorem ggX7_isRows_X7_isAt : GoodIn wsX7_isRows wsX7_isAt := goodIn_r _ [13, 4, 14, 3, 15, 16, 8, 17, 23, 24, 25, 26, 27, 28, 29, 30, 31, 32, 33, 34] (by decide +kernel) (by decide +kernel)
set_option maxRecDepth 20000 in
theorem gX7_isRows_X7_isAt : GoodIn wsX7_isRows (wsV RX7 129 RX7 yX7_isAt wsX7_isAt) := goodIn_app (goodIn_of _ (by decide +kernel)) ggX7_isRows_X7_isAt
theorem dX7_isRows_0 : decode cX7_isRows 0 = .ok (.aload_n 0, 1) := by decide +kernel
theorem dX7_isRows_1 : decode cX7_isRows 1 = .ok (.iconst 1, 1) := by decide +kernel
theorem dX7_isRows_2 : decode cX7_isRows 2 = .ok (.bipush 49, 2) := by decide +kernel
theorem dX7_isRows_4 : decode cX7_isRows 4 = .ok (.bipush 57, 2) := by decide +kernel
theorem dX7_isRows_6 : decode cX7_isRows 6 = .ok (.invokevirtual 140, 3) := by decide +kernel
theorem dX7_isRows_9 : decode cX7_isRows 9 = .ok (.ifCond .ne 5, 3) := by decide +kernel
theorem dX7_isRows_12 : decode cX7_isRows 12 = .ok (.iconst 0, 1) := by decide +kernel
theorem dX7_isRows_13 : decode cX7_isRows 13 = .ok (.ireturn, 1) := by decide +kernel
theorem dX7_isRows_14 : decode cX7_isRows 14 = .ok (.aload_n 0, 1) := by decide +kernel
theorem dX7_isRows_15 : decode cX7_isRows 15 = .ok (.getfield 23, 3) := by decide +kernel
theorem dX7_isRows_18 : decode cX7_isRows 18 = .ok (.iconst 4, 1) := by decide +kernel
theorem dX7_isRows_19 : decode cX7_isRows 19 = .ok (.aload_n 0, 1) := by decide +kernel
theorem dX7_isRows_20 : decode cX7_isRows 20 = .ok (.getfield 137, 3) := by decide +kernel
theorem dX7_isRows_23 : decode cX7_isRows 23 = .ok (.imul, 1) := by decide +kernel
theorem dX7_isRows_24 : decode cX7_isRows 24 = .ok (.iconst 1, 1) := by decide +kernel
theorem dX7_isRows_25 : decode cX7_isRows 25 = .ok (.iadd, 1) := by decide +kernel
theorem dX7_isRows_26 : decode cX7_isRows 26 = .ok (.iaload, 1) := by decide +kernel
theorem dX7_isRows_27 : decode cX7_isRows 27 = .ok (.istore_n 1, 1) := by decide +kernel
theorem dX7_isRows_28 : decode cX7_isRows 28 = .ok (.aload_n 0, 1) := by decide +kernel
theorem dX7_isRows_29 : decode cX7_isRows 29 = .ok (.bipush 48, 2) := by decide +kernel
theorem dX7_isRows_31 : decode cX7_isRows 31 = .ok (.bipush 57, 2) := by decide +kernel
theorem dX7_isRows_33 : decode cX7_isRows 33 = .ok (.invokevirtual 129, 3) := by decide +kernel
theorem dX7_isRows_36 : decode cX7_isRows 36 = .ok (.ifCond .eq 65, 3) := by decide +kernel
theorem dX7_isRows_39 : decode cX7_isRows 39 = .ok (.bipush 10, 2) := by decide +kernel
theorem dX7_isRows_41 : decode cX7_isRows 41 = .ok (.iload_n 1, 1) := by decide +kernel
theorem dX7_isRows_42 : decode cX7_isRows 42 = .ok (.imul, 1) := by decide +kernel
theorem dX7_isRows_43 : decode cX7_isRows 43 = .ok (.aload_n 0, 1) := by decide +kernel
theorem dX7_isRows_44 : decode cX7_isRows 44 = .ok (.getfield 19, 3) := by decide +kernel
theorem dX7_isRows_47 : decode cX7_isRows 47 = .ok (.aload_n 0, 1) := by decide +kernel
theorem dX7_isRows_48 : decode cX7_isRows 48 = .ok (.getfield 122, 3) := by decide +kernel
theorem dX7_isRows_51 : decode cX7_isRows 51 = .ok (.iaload, 1) := by decide +kernel
theorem dX7_isRows_52 : decode cX7_isRows 52 = .ok (.iadd, 1) := by decide +kernel
theorem dX7_isRows_53 : decode cX7_isRows 53 = .ok (.bipush 48, 2) := by decide +kernel
theorem dX7_isRows_55 : decode cX7_isRows 55 = .ok (.isub, 1) := by decide +kernel
theorem dX7_isRows_56 : decode cX7_isRows 56 = .ok (.bipush 40, 2) := by decide +kernel
theorem dX7_isRows_58 : decode cX7_isRows 58 = .ok (.if_icmp .gt 43, 3) := by decide +kernel
theorem dX7_isRows_61 : decode cX7_isRows 61 = .ok (.aload_n 0, 1) := by decide +kernel
theorem dX7_isRows_62 : decode cX7_isRows 62 = .ok (.getfield 23, 3) := by decide +kernel
theorem dX7_isRows_65 : decode cX7_isRows 65 = .ok (.iconst 4, 1) := by decide +kernel
theorem dX7_isRows_66 : decode cX7_isRows 66 = .ok (.aload_n 0, 1) := by decide +kernel
theorem dX7_isRows_67 : decode cX7_isRows 67 = .ok (.getfield 137, 3) := by decide +kernel
theorem dX7_isRows_70 : decode cX7_isRows 70 = .ok (.imul, 1) := by decide +kernel
theorem dX7_isRows_71 : decode cX7_isRows 71 = .ok (.iconst 1, 1) := by decide +kernel
theorem dX7_isRows_72 : decode cX7_isRows 72 = .ok (.iadd, 1) := by decide +kernel
theorem dX7_isRows_73 : decode cX7_isRows 73 = .ok (.bipush 10, 2) := by decide +kernel
theorem dX7_isRows_75 : decode cX7_isRows 75 = .ok (.iload_n 1, 1) := by decide +kernel
theorem dX7_isRows_76 : decode cX7_isRows 76 = .ok (.imul, 1) := by decide +kernel
theorem dX7_isRows_77 : decode cX7_isRows 77 = .ok (.aload_n 0, 1) := by decide +kernel
theorem dX7_isRows_78 : decode cX7_isRows 78 = .ok (.getfield 19, 3) := by decide +kernel
theorem dX7_isRows_81 : decode cX7_isRows 81 = .ok (.aload_n 0, 1) := by decide +kernel
theorem dX7_isRows_82 : decode cX7_isRows 82 = .ok (.getfield 122, 3) := by decide +kernel
theorem dX7_isRows_85 : decode cX7_isRows 85 = .ok (.iaload, 1) := by decide +kernel
theorem dX7_isRows_86 : decode cX7_isRows 86 = .ok (.iadd, 1) := by decide +kernel
theorem dX7_isRows_87 : decode cX7_isRows 87 = .ok (.bipush 48, 2) := by decide +kernel
theorem dX7_isRows_89 : decode cX7_isRows 89 = .ok (.isub, 1) := by decide +kernel
theorem dX7_isRows_90 : decode cX7_isRows 90 = .ok (.iastore, 1) := by decide +kernel
theorem dX7_isRows_91 : decode cX7_isRows 91 = .ok (.aload_n 0, 1) := by decide +kernel
theorem dX7_isRows_92 : decode cX7_isRows 92 = .ok (.dup, 1) := by decide +kernel
theorem dX7_isRows_93 : decode cX7_isRows 93 = .ok (.getfield 122, 3) := by decide +kernel
theorem dX7_isRows_96 : decode cX7_isRows 96 = .ok (.iconst 1, 1) := by decide +kernel
theorem dX7_isRows_97 : decode cX7_isRows 97 = .ok (.iadd, 1) := by decide +kernel
theorem dX7_isRows_98 : decode cX7_isRows 98 = .ok (.putfield 122, 3) := by decide +kernel
theorem dX7_isRows_101 : decode cX7_isRows 101 = .ok (.iconst 1, 1) := by decide +kernel
theorem dX7_isRows_102 : decode cX7_isRows 102 = .ok (.ireturn, 1) := by decide +kernel
set_option maxRecDepth 20000 in
theorem ggX7_isSlip_X7_isFigure : GoodIn wsX7_isSlip wsX7_isFigure := goodIn_r _ [9, 3, 4, 1, 2, 10, 11, 12, 8, 13, 14, 15, 16, 17, 18, 19, 20, 21, 22, 23, 24, 25, 26, 27, 28, 29, 30, 31, 32, 33, 34] (by decide +kernel) (by decide +kernel)
set_option maxRecDepth 20000 in
theorem gX7_isSlip_X7_isFigure : GoodIn wsX7_isSlip (wsV RX7 140 RX7 yX7_isFigure wsX7_isFigure) := goodIn_app (goodIn_of _ (by decide +kernel)) ggX7_isSlip_X7_isFigure
set_option maxRecDepth 20000 in
theorem ggX7_isSlip_X7_isAt : GoodIn wsX7_isSlip wsX7_isAt := goodIn_r _ [13, 2, 14, 1, 15, 16, 8, 17, 23, 24, 25, 26, 27, 28, 29, 30, 31, 32, 33, 34] (by decide +kernel) (by decide +kernel)
set_option maxRecDepth 20000 in
theorem gX7_isSlip_X7_isAt : GoodIn wsX7_isSlip (wsV RX7 129 RX7 yX7_isAt wsX7_isAt) := goodIn_app (goodIn_of _ (by decide +kernel)) ggX7_isSlip_X7_isAt
set_option maxRecDepth 20000 in
theorem ggX7_isSlip_X7_stops : GoodIn wsX7_isSlip wsX7_stops := goodIn_r _ [21, 2, 14, 22, 23, 24, 25, 26, 27, 28, 29, 30, 31, 32, 33, 34] (by decide +kernel) (by decide +kernel)
set_option maxRecDepth 20000 in
theorem gX7_isSlip_X7_stops : GoodIn wsX7_isSlip (wsV RX7 133 RX7 yX7_stops wsX7_stops) := goodIn_app (goodIn_of _ (by decide +kernel)) ggX7_isSlip_X7_stops
theorem dX7_isSlip_0 : decode cX7_isSlip 0 = .ok (.aload_n 0, 1) := by decide +kernel
theorem dX7_isSlip_1 : decode cX7_isSlip 1 = .ok (.iconst 1, 1) := by decide +kernel
theorem dX7_isSlip_2 : decode cX7_isSlip 2 = .ok (.bipush 48, 2) := by decide +kernel
theorem dX7_isSlip_4 : decode cX7_isSlip 4 = .ok (.bipush 53, 2) := by decide +kernel
theorem dX7_isSlip_6 : decode cX7_isSlip 6 = .ok (.invokevirtual 140, 3) := by decide +kernel
theorem dX7_isSlip_9 : decode cX7_isSlip 9 = .ok (.ifCond .eq 15, 3) := by decide +kernel
theorem dX7_isSlip_12 : decode cX7_isSlip 12 = .ok (.aload_n 0, 1) := by decide +kernel
theorem dX7_isSlip_13 : decode cX7_isSlip 13 = .ok (.iconst 2, 1) := by decide +kernel
theorem dX7_isSlip_14 : decode cX7_isSlip 14 = .ok (.bipush 48, 2) := by decide +kernel
theorem dX7_isSlip_16 : decode cX7_isSlip 16 = .ok (.bipush 57, 2) := by decide +kernel
theorem dX7_isSlip_18 : decode cX7_isSlip 18 = .ok (.invokevirtual 140, 3) := by decide +kernel
theorem dX7_isSlip_21 : decode cX7_isSlip 21 = .ok (.ifCond .ne 5, 3) := by decide +kernel
theorem dX7_isSlip_24 : decode cX7_isSlip 24 = .ok (.iconst 0, 1) := by decide +kernel
theorem dX7_isSlip_25 : decode cX7_isSlip 25 = .ok (.ireturn, 1) := by decide +kernel
theorem dX7_isSlip_26 : decode cX7_isSlip 26 = .ok (.aload_n 0, 1) := by decide +kernel
theorem dX7_isSlip_27 : decode cX7_isSlip 27 = .ok (.bipush 43, 2) := by decide +kernel
theorem dX7_isSlip_29 : decode cX7_isSlip 29 = .ok (.bipush 43, 2) := by decide +kernel
theorem dX7_isSlip_31 : decode cX7_isSlip 31 = .ok (.invokevirtual 129, 3) := by decide +kernel
theorem dX7_isSlip_34 : decode cX7_isSlip 34 = .ok (.ifCond .ne 19, 3) := by decide +kernel
theorem dX7_isSlip_37 : decode cX7_isSlip 37 = .ok (.aload_n 0, 1) := by decide +kernel
theorem dX7_isSlip_38 : decode cX7_isSlip 38 = .ok (.bipush 45, 2) := by decide +kernel
theorem dX7_isSlip_40 : decode cX7_isSlip 40 = .ok (.bipush 45, 2) := by decide +kernel
theorem dX7_isSlip_42 : decode cX7_isSlip 42 = .ok (.invokevirtual 129, 3) := by decide +kernel
theorem dX7_isSlip_45 : decode cX7_isSlip 45 = .ok (.ifCond .ne 8, 3) := by decide +kernel
theorem dX7_isSlip_48 : decode cX7_isSlip 48 = .ok (.aload_n 0, 1) := by decide +kernel
theorem dX7_isSlip_49 : decode cX7_isSlip 49 = .ok (.invokevirtual 133, 3) := by decide +kernel
theorem dX7_isSlip_52 : decode cX7_isSlip 52 = .ok (.ireturn, 1) := by decide +kernel
theorem dX7_isSlip_53 : decode cX7_isSlip 53 = .ok (.aload_n 0, 1) := by decide +kernel
theorem dX7_isSlip_54 : decode cX7_isSlip 54 = .ok (.getfield 19, 3) := by decide +kernel
theorem dX7_isSlip_57 : decode cX7_isSlip 57 = .ok (.aload_n 0, 1) := by decide +kernel
theorem dX7_isSlip_58 : decode cX7_isSlip 58 = .ok (.getfield 122, 3) := by decide +kernel
theorem dX7_isSlip_61 : decode cX7_isSlip 61 = .ok (.iaload, 1) := by decide +kernel
theorem dX7_isSlip_62 : decode cX7_isSlip 62 = .ok (.bipush 45, 2) := by decide +kernel
theorem dX7_isSlip_64 : decode cX7_isSlip 64 = .ok (.if_icmp .ne 7, 3) := by decide +kernel
theorem dX7_isSlip_67 : decode cX7_isSlip 67 = .ok (.iconst (-1), 1) := by decide +kernel
theorem dX7_isSlip_68 : decode cX7_isSlip 68 = .ok (.goto 4, 3) := by decide +kernel
theorem dX7_isSlip_71 : decode cX7_isSlip 71 = .ok (.iconst 1, 1) := by decide +kernel
theorem dX7_isSlip_72 : decode cX7_isSlip 72 = .ok (.istore_n 1, 1) := by decide +kernel
theorem dX7_isSlip_73 : decode cX7_isSlip 73 = .ok (.aload_n 0, 1) := by decide +kernel
theorem dX7_isSlip_74 : decode cX7_isSlip 74 = .ok (.dup, 1) := by decide +kernel
theorem dX7_isSlip_75 : decode cX7_isSlip 75 = .ok (.getfield 122, 3) := by decide +kernel
theorem dX7_isSlip_78 : decode cX7_isSlip 78 = .ok (.iconst 1, 1) := by decide +kernel
theorem dX7_isSlip_79 : decode cX7_isSlip 79 = .ok (.iadd, 1) := by decide +kernel
theorem dX7_isSlip_80 : decode cX7_isSlip 80 = .ok (.putfield 122, 3) := by decide +kernel
theorem dX7_isSlip_83 : decode cX7_isSlip 83 = .ok (.aload_n 0, 1) := by decide +kernel
theorem dX7_isSlip_84 : decode cX7_isSlip 84 = .ok (.iconst 3, 1) := by decide +kernel
theorem dX7_isSlip_85 : decode cX7_isSlip 85 = .ok (.bipush 49, 2) := by decide +kernel
theorem dX7_isSlip_87 : decode cX7_isSlip 87 = .ok (.bipush 57, 2) := by decide +kernel
theorem dX7_isSlip_89 : decode cX7_isSlip 89 = .ok (.invokevirtual 140, 3) := by decide +kernel
theorem dX7_isSlip_92 : decode cX7_isSlip 92 = .ok (.ifCond .ne 5, 3) := by decide +kernel
theorem dX7_isSlip_95 : decode cX7_isSlip 95 = .ok (.iconst 0, 1) := by decide +kernel
theorem dX7_isSlip_96 : decode cX7_isSlip 96 = .ok (.ireturn, 1) := by decide +kernel
theorem dX7_isSlip_97 : decode cX7_isSlip 97 = .ok (.aload_n 0, 1) := by decide +kernel
theorem dX7_isSlip_98 : decode cX7_isSlip 98 = .ok (.getfield 23, 3) := by decide +kernel
theorem dX7_isSlip_101 : decode cX7_isSlip 101 = .ok (.iconst 4, 1) := by decide +kernel
theorem dX7_isSlip_102 : decode cX7_isSlip 102 = .ok (.aload_n 0, 1) := by decide +kernel
theorem dX7_isSlip_103 : decode cX7_isSlip 103 = .ok (.getfield 137, 3) := by decide +kernel
theorem dX7_isSlip_106 : decode cX7_isSlip 106 = .ok (.imul, 1) := by decide +kernel
theorem dX7_isSlip_107 : decode cX7_isSlip 107 = .ok (.iconst 3, 1) := by decide +kernel
theorem dX7_isSlip_108 : decode cX7_isSlip 108 = .ok (.iadd, 1) := by decide +kernel
theorem dX7_isSlip_109 : decode cX7_isSlip 109 = .ok (.dup2, 1) := by decide +kernel
theorem dX7_isSlip_110 : decode cX7_isSlip 110 = .ok (.iaload, 1) := by decide +kernel
theorem dX7_isSlip_111 : decode cX7_isSlip 111 = .ok (.iload_n 1, 1) := by decide +kernel
theorem dX7_isSlip_112 : decode cX7_isSlip 112 = .ok (.imul, 1) := by decide +kernel
theorem dX7_isSlip_113 : decode cX7_isSlip 113 = .ok (.iastore, 1) := by decide +kernel
theorem dX7_isSlip_114 : decode cX7_isSlip 114 = .ok (.iconst 1, 1) := by decide +kernel
theorem dX7_isSlip_115 : decode cX7_isSlip 115 = .ok (.ireturn, 1) := by decide +kernel
set_option maxRecDepth 20000 in
theorem ggX7_isPart_X7_isRows : GoodIn wsX7_isPart wsX7_isRows := goodIn_r _ [10, 4, 5, 3, 1, 11, 12, 13, 9, 14, 15, 16, 17, 18, 2, 19, 20, 21, 22, 23, 24, 25, 26, 31, 32, 33, 34, 35, 36, 37, 38, 39, 40, 41, 42] (by decide +kernel) (by decide +kernel)
set_option maxRecDepth 20000 in
theorem gX7_isPart_X7_isRows : GoodIn wsX7_isPart (wsV RX7 144 RX7 yX7_isRows wsX7_isRows) := goodIn_app (goodIn_of _ (by decide +kernel)) ggX7_isPart_X7_isRows
set_option maxRecDepth 20000 in
theorem ggX7_isPart_X7_isSlip : GoodIn wsX7_isPart wsX7_isSlip := goodIn_r _ [30, 3, 1, 4, 5, 11, 12, 13, 9, 14, 15, 16, 17, 18, 2, 19, 20, 21, 22, 23, 24, 25, 26, 31, 32, 33, 34, 35, 36, 37, 38, 39, 40, 41, 42] (by decide +kernel) (by decide +kernel)
set_option maxRecDepth 20000 in
theorem gX7_isPart_X7_isSlip : GoodIn wsX7_isPart (wsV RX7 147 RX7 yX7_isSlip wsX7_isSlip) := goodIn_app (goodIn_of _ (by decide +kernel)) ggX7_isPart_X7_isSlip
set_option maxRecDepth 20000 in
theorem ggX7_isPart_X7_isFigure : GoodIn wsX7_isPart wsX7_isFigure := goodIn_r _ [14, 4, 5, 3, 1, 15, 16, 17, 9, 18, 2, 19, 20, 21, 22, 23, 24, 25, 26, 31, 32, 33, 34, 35, 36, 37, 38, 39, 40, 41, 42] (by decide +kernel) (by decide +kernel)
set_option maxRecDepth 20000 in
theorem gX7_isPart_X7_isFigure : GoodIn wsX7_isPart (wsV RX7 140 RX7 yX7_isFigure wsX7_isFigure) := goodIn_app (goodIn_of _ (by decide +kernel)) ggX7_isPart_X7_isFigure
set_option maxRecDepth 20000 in
theorem ggX7_isPart_X7_stops : GoodIn wsX7_isPart wsX7_stops := goodIn_r _ [25, 1, 2, 26, 31, 32, 33, 34, 35, 36, 37, 38, 39, 40, 41, 42] (by decide +kernel) (by decide +kernel)
set_option maxRecDepth 20000 in
theorem gX7_isPart_X7_stops : GoodIn wsX7_isPart (wsV RX7 133 RX7 yX7_stops wsX7_stops) := goodIn_app (goodIn_of _ (by decide +kernel)) ggX7_isPart_X7_stops
theorem dX7_isPart_0 : decode cX7_isPart 0 = .ok (.aload_n 0, 1) := by decide +kernel
theorem dX7_isPart_1 : decode cX7_isPart 1 = .ok (.getfield 122, 3) := by decide +kernel
theorem dX7_isPart_4 : decode cX7_isPart 4 = .ok (.aload_n 0, 1) := by decide +kernel
theorem dX7_isPart_5 : decode cX7_isPart 5 = .ok (.getfield 119, 3) := by decide +kernel
theorem dX7_isPart_8 : decode cX7_isPart 8 = .ok (.if_icmp .ge 15, 3) := by decide +kernel
theorem dX7_isPart_11 : decode cX7_isPart 11 = .ok (.aload_n 0, 1) := by decide +kernel
theorem dX7_isPart_12 : decode cX7_isPart 12 = .ok (.getfield 19, 3) := by decide +kernel
theorem dX7_isPart_15 : decode cX7_isPart 15 = .ok (.aload_n 0, 1) := by decide +kernel
theorem dX7_isPart_16 : decode cX7_isPart 16 = .ok (.getfield 122, 3) := by decide +kernel
theorem dX7_isPart_19 : decode cX7_isPart 19 = .ok (.iaload, 1) := by decide +kernel
theorem dX7_isPart_20 : decode cX7_isPart 20 = .ok (.goto 4, 3) := by decide +kernel
theorem dX7_isPart_23 : decode cX7_isPart 23 = .ok (.iconst 0, 1) := by decide +kernel
theorem dX7_isPart_24 : decode cX7_isPart 24 = .ok (.istore_n 1, 1) := by decide +kernel
theorem dX7_isPart_25 : decode cX7_isPart 25 = .ok (.aload_n 0, 1) := by decide +kernel
theorem dX7_isPart_26 : decode cX7_isPart 26 = .ok (.getfield 23, 3) := by decide +kernel
theorem dX7_isPart_29 : decode cX7_isPart 29 = .ok (.iconst 4, 1) := by decide +kernel
theorem dX7_isPart_30 : decode cX7_isPart 30 = .ok (.aload_n 0, 1) := by decide +kernel
theorem dX7_isPart_31 : decode cX7_isPart 31 = .ok (.getfield 137, 3) := by decide +kernel
theorem dX7_isPart_34 : decode cX7_isPart 34 = .ok (.imul, 1) := by decide +kernel
theorem dX7_isPart_35 : decode cX7_isPart 35 = .ok (.iload_n 1, 1) := by decide +kernel
theorem dX7_isPart_36 : decode cX7_isPart 36 = .ok (.iastore, 1) := by decide +kernel
theorem dX7_isPart_37 : decode cX7_isPart 37 = .ok (.iload_n 1, 1) := by decide +kernel
theorem dX7_isPart_38 : decode cX7_isPart 38 = .ok (.lookupswitch 104 #[(99, 72), (110, 84), (112, 42), (115, 57)], 42) := by decide +kernel
theorem dX7_isPart_80 : decode cX7_isPart 80 = .ok (.aload_n 0, 1) := by decide +kernel
theorem dX7_isPart_81 : decode cX7_isPart 81 = .ok (.dup, 1) := by decide +kernel
theorem dX7_isPart_82 : decode cX7_isPart 82 = .ok (.getfield 122, 3) := by decide +kernel
theorem dX7_isPart_85 : decode cX7_isPart 85 = .ok (.iconst 1, 1) := by decide +kernel
theorem dX7_isPart_86 : decode cX7_isPart 86 = .ok (.iadd, 1) := by decide +kernel
theorem dX7_isPart_87 : decode cX7_isPart 87 = .ok (.putfield 122, 3) := by decide +kernel
theorem dX7_isPart_90 : decode cX7_isPart 90 = .ok (.aload_n 0, 1) := by decide +kernel
theorem dX7_isPart_91 : decode cX7_isPart 91 = .ok (.invokevirtual 144, 3) := by decide +kernel
theorem dX7_isPart_94 : decode cX7_isPart 94 = .ok (.ireturn, 1) := by decide +kernel
theorem dX7_isPart_95 : decode cX7_isPart 95 = .ok (.aload_n 0, 1) := by decide +kernel
theorem dX7_isPart_96 : decode cX7_isPart 96 = .ok (.dup, 1) := by decide +kernel
theorem dX7_isPart_97 : decode cX7_isPart 97 = .ok (.getfield 122, 3) := by decide +kernel
theorem dX7_isPart_100 : decode cX7_isPart 100 = .ok (.iconst 1, 1) := by decide +kernel
theorem dX7_isPart_101 : decode cX7_isPart 101 = .ok (.iadd, 1) := by decide +kernel
theorem dX7_isPart_102 : decode cX7_isPart 102 = .ok (.putfield 122, 3) := by decide +kernel
theorem dX7_isPart_105 : decode cX7_isPart 105 = .ok (.aload_n 0, 1) := by decide +kernel
theorem dX7_isPart_106 : decode cX7_isPart 106 = .ok (.invokevirtual 147, 3) := by decide +kernel
theorem dX7_isPart_109 : decode cX7_isPart 109 = .ok (.ireturn, 1) := by decide +kernel
theorem dX7_isPart_110 : decode cX7_isPart 110 = .ok (.aload_n 0, 1) := by decide +kernel
theorem dX7_isPart_111 : decode cX7_isPart 111 = .ok (.dup, 1) := by decide +kernel
theorem dX7_isPart_112 : decode cX7_isPart 112 = .ok (.getfield 122, 3) := by decide +kernel
theorem dX7_isPart_115 : decode cX7_isPart 115 = .ok (.iconst 1, 1) := by decide +kernel
theorem dX7_isPart_116 : decode cX7_isPart 116 = .ok (.iadd, 1) := by decide +kernel
theorem dX7_isPart_117 : decode cX7_isPart 117 = .ok (.putfield 122, 3) := by decide +kernel
theorem dX7_isPart_120 : decode cX7_isPart 120 = .ok (.iconst 1, 1) := by decide +kernel
theorem dX7_isPart_121 : decode cX7_isPart 121 = .ok (.ireturn, 1) := by decide +kernel
theorem dX7_isPart_122 : decode cX7_isPart 122 = .ok (.aload_n 0, 1) := by decide +kernel
theorem dX7_isPart_123 : decode cX7_isPart 123 = .ok (.dup, 1) := by decide +kernel
theorem dX7_isPart_124 : decode cX7_isPart 124 = .ok (.getfield 122, 3) := by decide +kernel
theorem dX7_isPart_127 : decode cX7_isPart 127 = .ok (.iconst 1, 1) := by decide +kernel
theorem dX7_isPart_128 : decode cX7_isPart 128 = .ok (.iadd, 1) := by decide +kernel
theorem dX7_isPart_129 : decode cX7_isPart 129 = .ok (.putfield 122, 3) := by decide +kernel
theorem dX7_isPart_132 : decode cX7_isPart 132 = .ok (.aload_n 0, 1) := by decide +kernel
theorem dX7_isPart_133 : decode cX7_isPart 133 = .ok (.iconst 1, 1) := by decide +kernel
theorem dX7_isPart_134 : decode cX7_isPart 134 = .ok (.bipush 48, 2) := by decide +kernel
theorem dX7_isPart_136 : decode cX7_isPart 136 = .ok (.bipush 57, 2) := by decide +kernel
theorem dX7_isPart_138 : decode cX7_isPart 138 = .ok (.invokevirtual 140, 3) := by decide +kernel
theorem dX7_isPart_141 : decode cX7_isPart 141 = .ok (.ireturn, 1) := by decide +kernel
theorem dX7_isPart_142 : decode cX7_isPart 142 = .ok (.aload_n 0, 1) := by decide +kernel
theorem dX7_isPart_143 : decode cX7_isPart 143 = .ok (.invokevirtual 133, 3) := by decide +kernel
theorem dX7_isPart_146 : decode cX7_isPart 146 = .ok (.ireturn, 1) := by decide +kernel
set_option maxRecDepth 20000 in
theorem ggX7_isText_X7_isPart : GoodIn wsX7_isText wsX7_isPart := goodIn_r _ [9, 1, 4, 10, 11, 2, 12, 13, 14, 8, 15, 16, 17, 18, 19, 20, 21, 22, 23, 24, 25, 26, 27, 28, 29, 30, 3, 31, 32, 33, 34, 35, 36, 37, 38, 39, 40, 41, 42, 43, 44, 45, 46] (by decide +kernel) (by decide +kernel)
set_option maxRecDepth 20000 in
theorem gX7_isText_X7_isPart : GoodIn wsX7_isText (wsV RX7 150 RX7 yX7_isPart wsX7_isPart) := goodIn_app (goodIn_of _ (by decide +kernel)) ggX7_isText_X7_isPart
set_option maxRecDepth 20000 in
theorem ggX7_isText_X7_isAt : GoodIn wsX7_isText wsX7_isAt := goodIn_r _ [23, 1, 4, 10, 24, 25, 8, 26, 35, 36, 37, 38, 39, 40, 41, 42, 43, 44, 45, 46] (by decide +kernel) (by decide +kernel)
set_option maxRecDepth 20000 in
theorem gX7_isText_X7_isAt : GoodIn wsX7_isText (wsV RX7 129 RX7 yX7_isAt wsX7_isAt) := goodIn_app (goodIn_of _ (by decide +kernel)) ggX7_isText_X7_isAt
theorem dX7_isText_0 : decode cX7_isText 0 = .ok (.aload_n 0, 1) := by decide +kernel
theorem dX7_isText_1 : decode cX7_isText 1 = .ok (.iconst 0, 1) := by decide +kernel
theorem dX7_isText_2 : decode cX7_isText 2 = .ok (.putfield 122, 3) := by decide +kernel
theorem dX7_isText_5 : decode cX7_isText 5 = .ok (.aload_n 0, 1) := by decide +kernel
theorem dX7_isText_6 : decode cX7_isText 6 = .ok (.iconst 0, 1) := by decide +kernel
theorem dX7_isText_7 : decode cX7_isText 7 = .ok (.putfield 137, 3) := by decide +kernel
theorem dX7_isText_10 : decode cX7_isText 10 = .ok (.aload_n 0, 1) := by decide +kernel
theorem dX7_isText_11 : decode cX7_isText 11 = .ok (.iconst 0, 1) := by decide +kernel
theorem dX7_isText_12 : decode cX7_isText 12 = .ok (.putfield 125, 3) := by decide +kernel
theorem dX7_isText_15 : decode cX7_isText 15 = .ok (.iconst 1, 1) := by decide +kernel
theorem dX7_isText_16 : decode cX7_isText 16 = .ok (.istore_n 1, 1) := by decide +kernel
theorem dX7_isText_17 : decode cX7_isText 17 = .ok (.iload_n 1, 1) := by decide +kernel
theorem dX7_isText_18 : decode cX7_isText 18 = .ok (.ifCond .eq 52, 3) := by decide +kernel
theorem dX7_isText_21 : decode cX7_isText 21 = .ok (.aload_n 0, 1) := by decide +kernel
theorem dX7_isText_22 : decode cX7_isText 22 = .ok (.invokevirtual 150, 3) := by decide +kernel
theorem dX7_isText_25 : decode cX7_isText 25 = .ok (.ifCond .ne 5, 3) := by decide +kernel
theorem dX7_isText_28 : decode cX7_isText 28 = .ok (.iconst 0, 1) := by decide +kernel
theorem dX7_isText_29 : decode cX7_isText 29 = .ok (.ireturn, 1) := by decide +kernel
theorem dX7_isText_30 : decode cX7_isText 30 = .ok (.aload_n 0, 1) := by decide +kernel
theorem dX7_isText_31 : decode cX7_isText 31 = .ok (.dup, 1) := by decide +kernel
theorem dX7_isText_32 : decode cX7_isText 32 = .ok (.getfield 137, 3) := by decide +kernel
theorem dX7_isText_35 : decode cX7_isText 35 = .ok (.iconst 1, 1) := by decide +kernel
theorem dX7_isText_36 : decode cX7_isText 36 = .ok (.iadd, 1) := by decide +kernel
theorem dX7_isText_37 : decode cX7_isText 37 = .ok (.putfield 137, 3) := by decide +kernel
theorem dX7_isText_40 : decode cX7_isText 40 = .ok (.aload_n 0, 1) := by decide +kernel
theorem dX7_isText_41 : decode cX7_isText 41 = .ok (.bipush 59, 2) := by decide +kernel
theorem dX7_isText_43 : decode cX7_isText 43 = .ok (.bipush 59, 2) := by decide +kernel
theorem dX7_isText_45 : decode cX7_isText 45 = .ok (.invokevirtual 129, 3) := by decide +kernel
theorem dX7_isText_48 : decode cX7_isText 48 = .ok (.istore_n 1, 1) := by decide +kernel
theorem dX7_isText_49 : decode cX7_isText 49 = .ok (.aload_n 0, 1) := by decide +kernel
theorem dX7_isText_50 : decode cX7_isText 50 = .ok (.dup, 1) := by decide +kernel
theorem dX7_isText_51 : decode cX7_isText 51 = .ok (.getfield 122, 3) := by decide +kernel
theorem dX7_isText_54 : decode cX7_isText 54 = .ok (.iload_n 1, 1) := by decide +kernel
theorem dX7_isText_55 : decode cX7_isText 55 = .ok (.ifCond .eq 7, 3) := by decide +kernel
theorem dX7_isText_58 : decode cX7_isText 58 = .ok (.iconst 1, 1) := by decide +kernel
theorem dX7_isText_59 : decode cX7_isText 59 = .ok (.goto 4, 3) := by decide +kernel
theorem dX7_isText_62 : decode cX7_isText 62 = .ok (.iconst 0, 1) := by decide +kernel
theorem dX7_isText_63 : decode cX7_isText 63 = .ok (.iadd, 1) := by decide +kernel
theorem dX7_isText_64 : decode cX7_isText 64 = .ok (.putfield 122, 3) := by decide +kernel
theorem dX7_isText_67 : decode cX7_isText 67 = .ok (.goto (-50), 3) := by decide +kernel
theorem dX7_isText_70 : decode cX7_isText 70 = .ok (.aload_n 0, 1) := by decide +kernel
theorem dX7_isText_71 : decode cX7_isText 71 = .ok (.aload_n 0, 1) := by decide +kernel
theorem dX7_isText_72 : decode cX7_isText 72 = .ok (.getfield 122, 3) := by decide +kernel
theorem dX7_isText_75 : decode cX7_isText 75 = .ok (.aload_n 0, 1) := by decide +kernel
theorem dX7_isText_76 : decode cX7_isText 76 = .ok (.getfield 119, 3) := by decide +kernel
theorem dX7_isText_79 : decode cX7_isText 79 = .ok (.if_icmp .ge 7, 3) := by decide +kernel
theorem dX7_isText_82 : decode cX7_isText 82 = .ok (.iconst 1, 1) := by decide +kernel
theorem dX7_isText_83 : decode cX7_isText 83 = .ok (.goto 4, 3) := by decide +kernel
theorem dX7_isText_86 : decode cX7_isText 86 = .ok (.iconst 0, 1) := by decide +kernel
theorem dX7_isText_87 : decode cX7_isText 87 = .ok (.putfield 125, 3) := by decide +kernel
theorem dX7_isText_90 : decode cX7_isText 90 = .ok (.aload_n 0, 1) := by decide +kernel
theorem dX7_isText_91 : decode cX7_isText 91 = .ok (.getfield 122, 3) := by decide +kernel
theorem dX7_isText_94 : decode cX7_isText 94 = .ok (.aload_n 0, 1) := by decide +kernel
theorem dX7_isText_95 : decode cX7_isText 95 = .ok (.getfield 119, 3) := by decide +kernel
theorem dX7_isText_98 : decode cX7_isText 98 = .ok (.if_icmp .ne 7, 3) := by decide +kernel
theorem dX7_isText_101 : decode cX7_isText 101 = .ok (.iconst 1, 1) := by decide +kernel
theorem dX7_isText_102 : decode cX7_isText 102 = .ok (.goto 4, 3) := by decide +kernel
theorem dX7_isText_105 : decode cX7_isText 105 = .ok (.iconst 0, 1) := by decide +kernel
theorem dX7_isText_106 : decode cX7_isText 106 = .ok (.ireturn, 1) := by decide +kernel
set_option maxRecDepth 20000 in
theorem ggX7_firstError_X7_isText : GoodIn wsX7_firstError wsX7_isText := goodIn_r _ [9, 3, 10, 2, 4, 11, 12, 13, 8, 14, 15, 16, 17, 18, 19, 20, 21, 22, 23, 24, 25, 26, 27, 28, 29, 30, 31, 32, 33, 34, 35, 36, 37, 38, 39, 40, 41, 42, 43, 44, 45, 46, 47, 48, 49, 50, 51] (by decide +kernel) (by decide +kernel)
set_option maxRecDepth 20000 in
theorem gX7_firstError_X7_isText : GoodIn wsX7_firstError (wsV RX7 153 RX7 yX7_isText wsX7_isText) := goodIn_app (goodIn_of _ (by decide +kernel)) ggX7_firstError_X7_isText
theorem dX7_firstError_0 : decode cX7_firstError 0 = .ok (.aload_n 0, 1) := by decide +kernel
theorem dX7_firstError_1 : decode cX7_firstError 1 = .ok (.iconst 0, 1) := by decide +kernel
theorem dX7_firstError_2 : decode cX7_firstError 2 = .ok (.putfield 39, 3) := by decide +kernel
theorem dX7_firstError_5 : decode cX7_firstError 5 = .ok (.aload_n 0, 1) := by decide +kernel
theorem dX7_firstError_6 : decode cX7_firstError 6 = .ok (.invokevirtual 153, 3) := by decide +kernel
theorem dX7_firstError_9 : decode cX7_firstError 9 = .ok (.istore_n 1, 1) := by decide +kernel
theorem dX7_firstError_10 : decode cX7_firstError 10 = .ok (.iload_n 1, 1) := by decide +kernel
theorem dX7_firstError_11 : decode cX7_firstError 11 = .ok (.ifCond .ne 17, 3) := by decide +kernel
theorem dX7_firstError_14 : decode cX7_firstError 14 = .ok (.aload_n 0, 1) := by decide +kernel
theorem dX7_firstError_15 : decode cX7_firstError 15 = .ok (.getfield 125, 3) := by decide +kernel
theorem dX7_firstError_18 : decode cX7_firstError 18 = .ok (.ifCond .eq 10, 3) := by decide +kernel
theorem dX7_firstError_21 : decode cX7_firstError 21 = .ok (.aload_n 0, 1) := by decide +kernel
theorem dX7_firstError_22 : decode cX7_firstError 22 = .ok (.getfield 122, 3) := by decide +kernel
theorem dX7_firstError_25 : decode cX7_firstError 25 = .ok (.goto 7, 3) := by decide +kernel
theorem dX7_firstError_28 : decode cX7_firstError 28 = .ok (.aload_n 0, 1) := by decide +kernel
theorem dX7_firstError_29 : decode cX7_firstError 29 = .ok (.getfield 119, 3) := by decide +kernel
theorem dX7_firstError_32 : decode cX7_firstError 32 = .ok (.ireturn, 1) := by decide +kernel
set_option maxRecDepth 20000 in
theorem ggX7_does_X7_mayPrint : GoodIn wsX7_does wsX7_mayPrint := goodIn_r _ [7, 8, 2, 9, 10, 6, 11, 47, 48, 49, 50, 51, 52, 53, 54, 55, 56, 57, 58] (by decide +kernel) (by decide +kernel)
set_option maxRecDepth 20000 in
theorem gX7_does_X7_mayPrint : GoodIn wsX7_does (wsV RX7 81 RX7 yX7_mayPrint wsX7_mayPrint) := goodIn_app (goodIn_of _ (by decide +kernel)) ggX7_does_X7_mayPrint
set_option maxRecDepth 20000 in
theorem ggX7_does_X7_prints : GoodIn wsX7_does wsX7_prints := goodIn_r _ [15, 2, 16, 17, 6, 18, 19, 20, 21, 22, 47, 48, 49, 50, 51, 52, 53, 54, 55, 56, 57, 58] (by decide +kernel) (by decide +kernel)
set_option maxRecDepth 20000 in
theorem gX7_does_X7_prints : GoodIn wsX7_does (wsV RX7 84 RX7 yX7_prints wsX7_prints) := goodIn_app (goodIn_of _ (by decide +kernel)) ggX7_does_X7_prints
set_option maxRecDepth 20000 in
theorem ggX7_does_X7_maySlip : GoodIn wsX7_does wsX7_maySlip := goodIn_r _ [26, 27, 28, 29, 2, 30, 31, 9, 10, 6, 11, 32, 33, 34, 22, 47, 48, 49, 50, 51, 52, 53, 54, 55, 56, 57, 58] (by decide +kernel) (by decide +kernel)
set_option maxRecDepth 20000 in
theorem gX7_does_X7_maySlip : GoodIn wsX7_does (wsV RX7 99 RX7 yX7_maySlip wsX7_maySlip) := goodIn_app (goodIn_of _ (by decide +kernel)) ggX7_does_X7_maySlip
set_option maxRecDepth 20000 in
theorem ggX7_does_X7_slipped : GoodIn wsX7_does wsX7_slipped := goodIn_r _ [34, 22] (by decide +kernel) (by decide +kernel)
set_option maxRecDepth 20000 in
theorem gX7_does_X7_slipped : GoodIn wsX7_does (va_wsS RX7 91 yX7_slipped wsX7_slipped) := goodIn_app (goodIn_of _ (by decide +kernel)) ggX7_does_X7_slipped
set_option maxRecDepth 20000 in
theorem ggX7_does_X7_corrects : GoodIn wsX7_does wsX7_corrects := goodIn_r _ [37, 38, 39, 6, 40, 41, 42, 43, 44, 45, 46] (by decide +kernel) (by decide +kernel)
set_option maxRecDepth 20000 in
theorem gX7_does_X7_corrects : GoodIn wsX7_does (va_wsS RX7 35 yX7_corrects wsX7_corrects) := goodIn_app (goodIn_of _ (by decide +kernel)) ggX7_does_X7_corrects
theorem dX7_does_0 : decode cX7_does 0 = .ok (.aload_n 0, 1) := by decide +kernel
theorem dX7_does_1 : decode cX7_does 1 = .ok (.getfield 23, 3) := by decide +kernel
theorem dX7_does_4 : decode cX7_does 4 = .ok (.iconst 4, 1) := by decide +kernel
theorem dX7_does_5 : decode cX7_does 5 = .ok (.iload_n 1, 1) := by decide +kernel
theorem dX7_does_6 : decode cX7_does 6 = .ok (.imul, 1) := by decide +kernel
theorem dX7_does_7 : decode cX7_does 7 = .ok (.iconst 1, 1) := by decide +kernel
theorem dX7_does_8 : decode cX7_does 8 = .ok (.iadd, 1) := by decide +kernel
theorem dX7_does_9 : decode cX7_does 9 = .ok (.iaload, 1) := by decide +kernel
theorem dX7_does_10 : decode cX7_does 10 = .ok (.istore_n 2, 1) := by decide +kernel
theorem dX7_does_11 : decode cX7_does 11 = .ok (.aload_n 0, 1) := by decide +kernel
theorem dX7_does_12 : decode cX7_does 12 = .ok (.getfield 23, 3) := by decide +kernel
theorem dX7_does_15 : decode cX7_does 15 = .ok (.iconst 4, 1) := by decide +kernel
theorem dX7_does_16 : decode cX7_does 16 = .ok (.iload_n 1, 1) := by decide +kernel
theorem dX7_does_17 : decode cX7_does 17 = .ok (.imul, 1) := by decide +kernel
theorem dX7_does_18 : decode cX7_does 18 = .ok (.iconst 2, 1) := by decide +kernel
theorem dX7_does_19 : decode cX7_does 19 = .ok (.iadd, 1) := by decide +kernel
theorem dX7_does_20 : decode cX7_does 20 = .ok (.iaload, 1) := by decide +kernel
theorem dX7_does_21 : decode cX7_does 21 = .ok (.istore_n 3, 1) := by decide +kernel
theorem dX7_does_22 : decode cX7_does 22 = .ok (.aload_n 0, 1) := by decide +kernel
theorem dX7_does_23 : decode cX7_does 23 = .ok (.getfield 23, 3) := by decide +kernel
theorem dX7_does_26 : decode cX7_does 26 = .ok (.iconst 4, 1) := by decide +kernel
theorem dX7_does_27 : decode cX7_does 27 = .ok (.iload_n 1, 1) := by decide +kernel
theorem dX7_does_28 : decode cX7_does 28 = .ok (.imul, 1) := by decide +kernel
theorem dX7_does_29 : decode cX7_does 29 = .ok (.iconst 3, 1) := by decide +kernel
theorem dX7_does_30 : decode cX7_does 30 = .ok (.iadd, 1) := by decide +kernel
theorem dX7_does_31 : decode cX7_does 31 = .ok (.iaload, 1) := by decide +kernel
theorem dX7_does_32 : decode cX7_does 32 = .ok (.istore 4, 2) := by decide +kernel
theorem dX7_does_34 : decode cX7_does 34 = .ok (.aload_n 0, 1) := by decide +kernel
theorem dX7_does_35 : decode cX7_does 35 = .ok (.getfield 23, 3) := by decide +kernel
theorem dX7_does_38 : decode cX7_does 38 = .ok (.iconst 4, 1) := by decide +kernel
theorem dX7_does_39 : decode cX7_does 39 = .ok (.iload_n 1, 1) := by decide +kernel
theorem dX7_does_40 : decode cX7_does 40 = .ok (.imul, 1) := by decide +kernel
theorem dX7_does_41 : decode cX7_does 41 = .ok (.iaload, 1) := by decide +kernel
theorem dX7_does_42 : decode cX7_does 42 = .ok (.lookupswitch 95 #[(99, 85), (112, 34), (115, 52)], 34) := by decide +kernel
theorem dX7_does_76 : decode cX7_does 76 = .ok (.aload_n 0, 1) := by decide +kernel
theorem dX7_does_77 : decode cX7_does 77 = .ok (.iload_n 2, 1) := by decide +kernel
theorem dX7_does_78 : decode cX7_does 78 = .ok (.invokevirtual 81, 3) := by decide +kernel
theorem dX7_does_81 : decode cX7_does 81 = .ok (.ifCond .eq 5, 3) := by decide +kernel
theorem dX7_does_84 : decode cX7_does 84 = .ok (.iconst 0, 1) := by decide +kernel
theorem dX7_does_85 : decode cX7_does 85 = .ok (.ireturn, 1) := by decide +kernel
theorem dX7_does_86 : decode cX7_does 86 = .ok (.aload_n 0, 1) := by decide +kernel
theorem dX7_does_87 : decode cX7_does 87 = .ok (.iload_n 2, 1) := by decide +kernel
theorem dX7_does_88 : decode cX7_does 88 = .ok (.invokevirtual 84, 3) := by decide +kernel
theorem dX7_does_91 : decode cX7_does 91 = .ok (.pop, 1) := by decide +kernel
theorem dX7_does_92 : decode cX7_does 92 = .ok (.iconst 1, 1) := by decide +kernel
theorem dX7_does_93 : decode cX7_does 93 = .ok (.ireturn, 1) := by decide +kernel
theorem dX7_does_94 : decode cX7_does 94 = .ok (.aload_n 0, 1) := by decide +kernel
theorem dX7_does_95 : decode cX7_does 95 = .ok (.iload_n 2, 1) := by decide +kernel
theorem dX7_does_96 : decode cX7_does 96 = .ok (.iload_n 3, 1) := by decide +kernel
theorem dX7_does_97 : decode cX7_does 97 = .ok (.iload 4, 2) := by decide +kernel
theorem dX7_does_99 : decode cX7_does 99 = .ok (.invokevirtual 99, 3) := by decide +kernel
theorem dX7_does_102 : decode cX7_does 102 = .ok (.ifCond .eq 5, 3) := by decide +kernel
theorem dX7_does_105 : decode cX7_does 105 = .ok (.iconst 0, 1) := by decide +kernel
theorem dX7_does_106 : decode cX7_does 106 = .ok (.ireturn, 1) := by decide +kernel
theorem dX7_does_107 : decode cX7_does 107 = .ok (.aload_n 0, 1) := by decide +kernel
theorem dX7_does_108 : decode cX7_does 108 = .ok (.getfield 7, 3) := by decide +kernel
theorem dX7_does_111 : decode cX7_does 111 = .ok (.bipush 7, 2) := by decide +kernel
theorem dX7_does_113 : decode cX7_does 113 = .ok (.iload_n 2, 1) := by decide +kernel
theorem dX7_does_114 : decode cX7_does 114 = .ok (.iadd, 1) := by decide +kernel
theorem dX7_does_115 : decode cX7_does 115 = .ok (.dup2, 1) := by decide +kernel
theorem dX7_does_116 : decode cX7_does 116 = .ok (.laload, 1) := by decide +kernel
theorem dX7_does_117 : decode cX7_does 117 = .ok (.iload_n 3, 1) := by decide +kernel
theorem dX7_does_118 : decode cX7_does 118 = .ok (.iload 4, 2) := by decide +kernel
theorem dX7_does_120 : decode cX7_does 120 = .ok (.invokestatic 91, 3) := by decide +kernel
theorem dX7_does_123 : decode cX7_does 123 = .ok (.ladd, 1) := by decide +kernel
theorem dX7_does_124 : decode cX7_does 124 = .ok (.lastore, 1) := by decide +kernel
theorem dX7_does_125 : decode cX7_does 125 = .ok (.iconst 1, 1) := by decide +kernel
theorem dX7_does_126 : decode cX7_does 126 = .ok (.ireturn, 1) := by decide +kernel
theorem dX7_does_127 : decode cX7_does 127 = .ok (.aload_n 0, 1) := by decide +kernel
theorem dX7_does_128 : decode cX7_does 128 = .ok (.getfield 7, 3) := by decide +kernel
theorem dX7_does_131 : decode cX7_does 131 = .ok (.invokestatic 35, 3) := by decide +kernel
theorem dX7_does_134 : decode cX7_does 134 = .ok (.pop, 1) := by decide +kernel
theorem dX7_does_135 : decode cX7_does 135 = .ok (.iconst 1, 1) := by decide +kernel
theorem dX7_does_136 : decode cX7_does 136 = .ok (.ireturn, 1) := by decide +kernel
theorem dX7_does_137 : decode cX7_does 137 = .ok (.aload_n 0, 1) := by decide +kernel
theorem dX7_does_138 : decode cX7_does 138 = .ok (.getfield 7, 3) := by decide +kernel
theorem dX7_does_141 : decode cX7_does 141 = .ok (.bipush 13, 2) := by decide +kernel
theorem dX7_does_143 : decode cX7_does 143 = .ok (.iload_n 2, 1) := by decide +kernel
theorem dX7_does_144 : decode cX7_does 144 = .ok (.iadd, 1) := by decide +kernel
theorem dX7_does_145 : decode cX7_does 145 = .ok (.lconst 0, 1) := by decide +kernel
theorem dX7_does_146 : decode cX7_does 146 = .ok (.lastore, 1) := by decide +kernel
theorem dX7_does_147 : decode cX7_does 147 = .ok (.iconst 1, 1) := by decide +kernel
theorem dX7_does_148 : decode cX7_does 148 = .ok (.ireturn, 1) := by decide +kernel
set_option maxRecDepth 20000 in
theorem ggX7_obey_X7_isText : GoodIn wsX7_obey wsX7_isText := goodIn_r _ [8, 9, 3, 10, 2, 11, 12, 13, 7, 14, 15, 16, 17, 18, 19, 20, 21, 22, 23, 24, 25, 26, 27, 28, 29, 30, 31, 32, 33, 34, 35, 36, 37, 38, 39, 95, 96, 97, 98, 99, 100, 101, 102, 103, 104, 105, 106] (by decide +kernel) (by decide +kernel)
set_option maxRecDepth 20000 in
theorem gX7_obey_X7_isText : GoodIn wsX7_obey (wsV RX7 153 RX7 yX7_isText wsX7_isText) := goodIn_app (goodIn_of _ (by decide +kernel)) ggX7_obey_X7_isText
set_option maxRecDepth 20000 in
theorem ggX7_obey_X7_fails : GoodIn wsX7_obey wsX7_fails := goodIn_r _ [43, 1, 95, 96, 97, 98, 99, 100, 101, 102, 103, 104, 105, 106] (by decide +kernel) (by decide +kernel)
set_option maxRecDepth 20000 in
theorem gX7_obey_X7_fails : GoodIn wsX7_obey (wsV RX7 50 RX7 yX7_fails wsX7_fails) := goodIn_app (goodIn_of _ (by decide +kernel)) ggX7_obey_X7_fails
set_option maxRecDepth 20000 in
theorem ggX7_obey_X7_saves : GoodIn wsX7_obey wsX7_saves := goodIn_r _ [47, 48, 49, 50, 95, 96, 97, 98, 99, 100, 101, 102, 103, 104, 105, 106] (by decide +kernel) (by decide +kernel)
set_option maxRecDepth 20000 in
theorem gX7_obey_X7_saves : GoodIn wsX7_obey (wsV RX7 76 RX7 yX7_saves wsX7_saves) := goodIn_app (goodIn_of _ (by decide +kernel)) ggX7_obey_X7_saves
set_option maxRecDepth 20000 in
theorem ggX7_obey_X7_does : GoodIn wsX7_obey wsX7_does := goodIn_r _ [54, 16, 50, 55, 56, 57, 7, 58, 59, 29, 30, 31, 60, 61, 62, 63, 64, 65, 66, 67, 68, 69, 70, 71, 72, 73, 74, 75, 76, 77, 78, 79, 80, 81, 82, 83, 84, 85, 86, 87, 88, 89, 90, 91, 92, 93, 94, 95, 96, 97, 98, 99, 100, 101, 102, 103, 104, 105, 106] (by decide +kernel) (by decide +kernel)
set_option maxRecDepth 20000 in
theorem gX7_obey_X7_does : GoodIn wsX7_obey (wsV RX7 156 RX7 yX7_does wsX7_does) := goodIn_app (goodIn_of _ (by decide +kernel)) ggX7_obey_X7_does
theorem dX7_obey_0 : decode cX7_obey 0 = .ok (.aload_n 0, 1) := by decide +kernel
theorem dX7_obey_1 : decode cX7_obey 1 = .ok (.iconst 0, 1) := by decide +kernel
theorem dX7_obey_2 : decode cX7_obey 2 = .ok (.putfield 39, 3) := by decide +kernel
theorem dX7_obey_5 : decode cX7_obey 5 = .ok (.aload_n 0, 1) := by decide +kernel
theorem dX7_obey_6 : decode cX7_obey 6 = .ok (.invokevirtual 153, 3) := by decide +kernel
theorem dX7_obey_9 : decode cX7_obey 9 = .ok (.ifCond .ne 9, 3) := by decide +kernel
theorem dX7_obey_12 : decode cX7_obey 12 = .ok (.aload_n 0, 1) := by decide +kernel
theorem dX7_obey_13 : decode cX7_obey 13 = .ok (.iconst 1, 1) := by decide +kernel
theorem dX7_obey_14 : decode cX7_obey 14 = .ok (.invokevirtual 50, 3) := by decide +kernel
theorem dX7_obey_17 : decode cX7_obey 17 = .ok (.ireturn, 1) := by decide +kernel
theorem dX7_obey_18 : decode cX7_obey 18 = .ok (.aload_n 0, 1) := by decide +kernel
theorem dX7_obey_19 : decode cX7_obey 19 = .ok (.invokevirtual 76, 3) := by decide +kernel
theorem dX7_obey_22 : decode cX7_obey 22 = .ok (.aload_n 0, 1) := by decide +kernel
theorem dX7_obey_23 : decode cX7_obey 23 = .ok (.iconst 0, 1) := by decide +kernel
theorem dX7_obey_24 : decode cX7_obey 24 = .ok (.putfield 119, 3) := by decide +kernel
theorem dX7_obey_27 : decode cX7_obey 27 = .ok (.iconst 0, 1) := by decide +kernel
theorem dX7_obey_28 : decode cX7_obey 28 = .ok (.istore_n 1, 1) := by decide +kernel
theorem dX7_obey_29 : decode cX7_obey 29 = .ok (.iload_n 1, 1) := by decide +kernel
theorem dX7_obey_30 : decode cX7_obey 30 = .ok (.aload_n 0, 1) := by decide +kernel
theorem dX7_obey_31 : decode cX7_obey 31 = .ok (.getfield 137, 3) := by decide +kernel
theorem dX7_obey_34 : decode cX7_obey 34 = .ok (.if_icmp .ge 17, 3) := by decide +kernel
theorem dX7_obey_37 : decode cX7_obey 37 = .ok (.aload_n 0, 1) := by decide +kernel
theorem dX7_obey_38 : decode cX7_obey 38 = .ok (.iload_n 1, 1) := by decide +kernel
theorem dX7_obey_39 : decode cX7_obey 39 = .ok (.invokevirtual 156, 3) := by decide +kernel
theorem dX7_obey_42 : decode cX7_obey 42 = .ok (.ifCond .eq 9, 3) := by decide +kernel
theorem dX7_obey_45 : decode cX7_obey 45 = .ok (.iinc 1 1, 3) := by decide +kernel
theorem dX7_obey_48 : decode cX7_obey 48 = .ok (.goto (-19), 3) := by decide +kernel
theorem dX7_obey_51 : decode cX7_obey 51 = .ok (.iload_n 1, 1) := by decide +kernel
theorem dX7_obey_52 : decode cX7_obey 52 = .ok (.ireturn, 1) := by decide +kernel
set_option maxRecDepth 20000 in
theorem ggX7_error_X7_right : GoodIn wsX7_error wsX7_right := goodIn_r _ [5] (by decide +kernel) (by decide +kernel)
set_option maxRecDepth 20000 in
theorem gX7_error_X7_right : GoodIn wsX7_error (va_wsS RX7 54 yX7_right wsX7_right) := goodIn_app (goodIn_of _ (by decide +kernel)) ggX7_error_X7_right
theorem dX7_error_0 : decode cX7_error 0 = .ok (.aload_n 0, 1) := by decide +kernel
theorem dX7_error_1 : decode cX7_error 1 = .ok (.getfield 7, 3) := by decide +kernel
theorem dX7_error_4 : decode cX7_error 4 = .ok (.bipush 23, 2) := by decide +kernel
theorem dX7_error_6 : decode cX7_error 6 = .ok (.iload_n 1, 1) := by decide +kernel
theorem dX7_error_7 : decode cX7_error 7 = .ok (.iadd, 1) := by decide +kernel
theorem dX7_error_8 : decode cX7_error 8 = .ok (.laload, 1) := by decide +kernel
theorem dX7_error_9 : decode cX7_error 9 = .ok (.aload_n 0, 1) := by decide +kernel
theorem dX7_error_10 : decode cX7_error 10 = .ok (.getfield 7, 3) := by decide +kernel
theorem dX7_error_13 : decode cX7_error 13 = .ok (.iload_n 1, 1) := by decide +kernel
theorem dX7_error_14 : decode cX7_error 14 = .ok (.invokestatic 54, 3) := by decide +kernel
theorem dX7_error_17 : decode cX7_error 17 = .ok (.lsub, 1) := by decide +kernel
theorem dX7_error_18 : decode cX7_error 18 = .ok (.lreturn, 1) := by decide +kernel
set_option maxRecDepth 20000 in
theorem ggX7_ofRow_X7_right : GoodIn wsX7_ofRow wsX7_right := goodIn_r _ [5] (by decide +kernel) (by decide +kernel)
set_option maxRecDepth 20000 in
theorem gX7_ofRow_X7_right : GoodIn wsX7_ofRow (va_wsS RX7 54 yX7_right wsX7_right) := goodIn_app (goodIn_of _ (by decide +kernel)) ggX7_ofRow_X7_right
set_option maxRecDepth 20000 in
theorem ggX7_ofRow_X7_error : GoodIn wsX7_ofRow wsX7_error := goodIn_r _ [9, 1, 2, 3, 4, 5, 10, 11, 12, 13, 14, 15, 16, 17, 18, 19, 20, 21] (by decide +kernel) (by decide +kernel)
set_option maxRecDepth 20000 in
theorem gX7_ofRow_X7_error : GoodIn wsX7_ofRow (wsV RX7 159 RX7 yX7_error wsX7_error) := goodIn_app (goodIn_of _ (by decide +kernel)) ggX7_ofRow_X7_error
theorem dX7_ofRow_0 : decode cX7_ofRow 0 = .ok (.iload_n 2, 1) := by decide +kernel
theorem dX7_ofRow_1 : decode cX7_ofRow 1 = .ok (.tableswitch 66 0 3 #[31, 41, 51, 60], 31) := by decide +kernel
theorem dX7_ofRow_32 : decode cX7_ofRow 32 = .ok (.aload_n 0, 1) := by decide +kernel
theorem dX7_ofRow_33 : decode cX7_ofRow 33 = .ok (.getfield 7, 3) := by decide +kernel
theorem dX7_ofRow_36 : decode cX7_ofRow 36 = .ok (.iconst 3, 1) := by decide +kernel
theorem dX7_ofRow_37 : decode cX7_ofRow 37 = .ok (.laload, 1) := by decide +kernel
theorem dX7_ofRow_38 : decode cX7_ofRow 38 = .ok (.iload_n 1, 1) := by decide +kernel
theorem dX7_ofRow_39 : decode cX7_ofRow 39 = .ok (.i2l, 1) := by decide +kernel
theorem dX7_ofRow_40 : decode cX7_ofRow 40 = .ok (.ladd, 1) := by decide +kernel
theorem dX7_ofRow_41 : decode cX7_ofRow 41 = .ok (.lreturn, 1) := by decide +kernel
theorem dX7_ofRow_42 : decode cX7_ofRow 42 = .ok (.aload_n 0, 1) := by decide +kernel
theorem dX7_ofRow_43 : decode cX7_ofRow 43 = .ok (.getfield 7, 3) := by decide +kernel
theorem dX7_ofRow_46 : decode cX7_ofRow 46 = .ok (.bipush 23, 2) := by decide +kernel
theorem dX7_ofRow_48 : decode cX7_ofRow 48 = .ok (.iload_n 1, 1) := by decide +kernel
theorem dX7_ofRow_49 : decode cX7_ofRow 49 = .ok (.iadd, 1) := by decide +kernel
theorem dX7_ofRow_50 : decode cX7_ofRow 50 = .ok (.laload, 1) := by decide +kernel
theorem dX7_ofRow_51 : decode cX7_ofRow 51 = .ok (.lreturn, 1) := by decide +kernel
theorem dX7_ofRow_52 : decode cX7_ofRow 52 = .ok (.aload_n 0, 1) := by decide +kernel
theorem dX7_ofRow_53 : decode cX7_ofRow 53 = .ok (.getfield 7, 3) := by decide +kernel
theorem dX7_ofRow_56 : decode cX7_ofRow 56 = .ok (.iload_n 1, 1) := by decide +kernel
theorem dX7_ofRow_57 : decode cX7_ofRow 57 = .ok (.invokestatic 54, 3) := by decide +kernel
theorem dX7_ofRow_60 : decode cX7_ofRow 60 = .ok (.lreturn, 1) := by decide +kernel
theorem dX7_ofRow_61 : decode cX7_ofRow 61 = .ok (.aload_n 0, 1) := by decide +kernel
theorem dX7_ofRow_62 : decode cX7_ofRow 62 = .ok (.iload_n 1, 1) := by decide +kernel
theorem dX7_ofRow_63 : decode cX7_ofRow 63 = .ok (.invokevirtual 159, 3) := by decide +kernel
theorem dX7_ofRow_66 : decode cX7_ofRow 66 = .ok (.lreturn, 1) := by decide +kernel
theorem dX7_ofRow_67 : decode cX7_ofRow 67 = .ok (.aload_n 0, 1) := by decide +kernel
theorem dX7_ofRow_68 : decode cX7_ofRow 68 = .ok (.getfield 7, 3) := by decide +kernel
theorem dX7_ofRow_71 : decode cX7_ofRow 71 = .ok (.bipush 63, 2) := by decide +kernel
theorem dX7_ofRow_73 : decode cX7_ofRow 73 = .ok (.iload_n 1, 1) := by decide +kernel
theorem dX7_ofRow_74 : decode cX7_ofRow 74 = .ok (.iadd, 1) := by decide +kernel
theorem dX7_ofRow_75 : decode cX7_ofRow 75 = .ok (.laload, 1) := by decide +kernel
theorem dX7_ofRow_76 : decode cX7_ofRow 76 = .ok (.lreturn, 1) := by decide +kernel
set_option maxRecDepth 20000 in
theorem ggX7_row_X7_isRow : GoodIn wsX7_row wsX7_isRow := goodIn_r _ [7, 8, 9, 10, 6, 11, 27, 28, 29, 30, 31, 32, 33, 34, 35, 36, 37, 38] (by decide +kernel) (by decide +kernel)
set_option maxRecDepth 20000 in
theorem gX7_row_X7_isRow : GoodIn wsX7_row (wsV RX7 103 RX7 yX7_isRow wsX7_isRow) := goodIn_app (goodIn_of _ (by decide +kernel)) ggX7_row_X7_isRow
set_option maxRecDepth 20000 in
theorem ggX7_row_X7_fails : GoodIn wsX7_row wsX7_fails := goodIn_r _ [15, 1, 27, 28, 29, 30, 31, 32, 33, 34, 35, 36, 37, 38] (by decide +kernel) (by decide +kernel)
set_option maxRecDepth 20000 in
theorem gX7_row_X7_fails : GoodIn wsX7_row (wsV RX7 50 RX7 yX7_fails wsX7_fails) := goodIn_app (goodIn_of _ (by decide +kernel)) ggX7_row_X7_fails
set_option maxRecDepth 20000 in
theorem ggX7_row_X7_in : GoodIn wsX7_row wsX7_in := goodIn_r _ [11] (by decide +kernel) (by decide +kernel)
set_option maxRecDepth 20000 in
theorem gX7_row_X7_in : GoodIn wsX7_row (va_wsS RX7 43 yX7_in wsX7_in) := goodIn_app (goodIn_of _ (by decide +kernel)) ggX7_row_X7_in
set_option maxRecDepth 20000 in
theorem ggX7_row_X7_ofRow : GoodIn wsX7_row wsX7_ofRow := goodIn_r _ [19, 8, 20, 21, 6, 22, 23, 24, 25, 26, 27, 28, 29, 30, 31, 32, 33, 34, 35, 36, 37, 38] (by decide +kernel) (by decide +kernel)
set_option maxRecDepth 20000 in
theorem gX7_row_X7_ofRow : GoodIn wsX7_row (wsV RX7 165 RX7 yX7_ofRow wsX7_ofRow) := goodIn_app (goodIn_of _ (by decide +kernel)) ggX7_row_X7_ofRow
theorem dX7_row_0 : decode cX7_row 0 = .ok (.aload_n 0, 1) := by decide +kernel
theorem dX7_row_1 : decode cX7_row 1 = .ok (.iconst 0, 1) := by decide +kernel
theorem dX7_row_2 : decode cX7_row 2 = .ok (.putfield 39, 3) := by decide +kernel
theorem dX7_row_5 : decode cX7_row 5 = .ok (.aload_n 0, 1) := by decide +kernel
theorem dX7_row_6 : decode cX7_row 6 = .ok (.iload_n 1, 1) := by decide +kernel
theorem dX7_row_7 : decode cX7_row 7 = .ok (.invokevirtual 103, 3) := by decide +kernel
theorem dX7_row_10 : decode cX7_row 10 = .ok (.ifCond .ne 10, 3) := by decide +kernel
theorem dX7_row_13 : decode cX7_row 13 = .ok (.aload_n 0, 1) := by decide +kernel
theorem dX7_row_14 : decode cX7_row 14 = .ok (.iconst 1, 1) := by decide +kernel
theorem dX7_row_15 : decode cX7_row 15 = .ok (.invokevirtual 50, 3) := by decide +kernel
theorem dX7_row_18 : decode cX7_row 18 = .ok (.i2l, 1) := by decide +kernel
theorem dX7_row_19 : decode cX7_row 19 = .ok (.lreturn, 1) := by decide +kernel
theorem dX7_row_20 : decode cX7_row 20 = .ok (.iload_n 2, 1) := by decide +kernel
theorem dX7_row_21 : decode cX7_row 21 = .ok (.i2l, 1) := by decide +kernel
theorem dX7_row_22 : decode cX7_row 22 = .ok (.lconst 0, 1) := by decide +kernel
theorem dX7_row_23 : decode cX7_row 23 = .ok (.ldc2_w 163, 3) := by decide +kernel
theorem dX7_row_26 : decode cX7_row 26 = .ok (.invokestatic 43, 3) := by decide +kernel
theorem dX7_row_29 : decode cX7_row 29 = .ok (.ifCond .eq 12, 3) := by decide +kernel
theorem dX7_row_32 : decode cX7_row 32 = .ok (.aload_n 0, 1) := by decide +kernel
theorem dX7_row_33 : decode cX7_row 33 = .ok (.iload_n 1, 1) := by decide +kernel
theorem dX7_row_34 : decode cX7_row 34 = .ok (.iload_n 2, 1) := by decide +kernel
theorem dX7_row_35 : decode cX7_row 35 = .ok (.invokevirtual 165, 3) := by decide +kernel
theorem dX7_row_38 : decode cX7_row 38 = .ok (.goto 9, 3) := by decide +kernel
theorem dX7_row_41 : decode cX7_row 41 = .ok (.aload_n 0, 1) := by decide +kernel
theorem dX7_row_42 : decode cX7_row 42 = .ok (.iconst 2, 1) := by decide +kernel
theorem dX7_row_43 : decode cX7_row 43 = .ok (.invokevirtual 50, 3) := by decide +kernel
theorem dX7_row_46 : decode cX7_row 46 = .ok (.i2l, 1) := by decide +kernel
theorem dX7_row_47 : decode cX7_row 47 = .ok (.lreturn, 1) := by decide +kernel
set_option maxRecDepth 20000 in
theorem ggX7_register_X7_in : GoodIn wsX7_register wsX7_in := goodIn_r _ [7] (by decide +kernel) (by decide +kernel)
set_option maxRecDepth 20000 in
theorem gX7_register_X7_in : GoodIn wsX7_register (va_wsS RX7 43 yX7_in wsX7_in) := goodIn_app (goodIn_of _ (by decide +kernel)) ggX7_register_X7_in
set_option maxRecDepth 20000 in
theorem ggX7_register_X7_fails : GoodIn wsX7_register wsX7_fails := goodIn_r _ [11, 1, 18, 19, 20, 21, 22, 23, 24, 25, 26, 27, 28, 29] (by decide +kernel) (by decide +kernel)
set_option maxRecDepth 20000 in
theorem gX7_register_X7_fails : GoodIn wsX7_register (wsV RX7 50 RX7 yX7_fails wsX7_fails) := goodIn_app (goodIn_of _ (by decide +kernel)) ggX7_register_X7_fails
set_option maxRecDepth 20000 in
theorem ggX7_register_X7_rightDifference : GoodIn wsX7_register wsX7_rightDifference := goodIn_r _ [14, 15, 16, 6, 17] (by decide +kernel) (by decide +kernel)
set_option maxRecDepth 20000 in
theorem gX7_register_X7_rightDifference : GoodIn wsX7_register (va_wsS RX7 58 yX7_rightDifference wsX7_rightDifference) := goodIn_app (goodIn_of _ (by decide +kernel)) ggX7_register_X7_rightDifference
theorem dX7_register_0 : decode cX7_register 0 = .ok (.aload_n 0, 1) := by decide +kernel
theorem dX7_register_1 : decode cX7_register 1 = .ok (.iconst 0, 1) := by decide +kernel
theorem dX7_register_2 : decode cX7_register 2 = .ok (.putfield 39, 3) := by decide +kernel
theorem dX7_register_5 : decode cX7_register 5 = .ok (.iload_n 1, 1) := by decide +kernel
theorem dX7_register_6 : decode cX7_register 6 = .ok (.i2l, 1) := by decide +kernel
theorem dX7_register_7 : decode cX7_register 7 = .ok (.lconst 0, 1) := by decide +kernel
theorem dX7_register_8 : decode cX7_register 8 = .ok (.ldc2_w 29, 3) := by decide +kernel
theorem dX7_register_11 : decode cX7_register 11 = .ok (.invokestatic 43, 3) := by decide +kernel
theorem dX7_register_14 : decode cX7_register 14 = .ok (.ifCond .ne 10, 3) := by decide +kernel
theorem dX7_register_17 : decode cX7_register 17 = .ok (.aload_n 0, 1) := by decide +kernel
theorem dX7_register_18 : decode cX7_register 18 = .ok (.iconst 1, 1) := by decide +kernel
theorem dX7_register_19 : decode cX7_register 19 = .ok (.invokevirtual 50, 3) := by decide +kernel
theorem dX7_register_22 : decode cX7_register 22 = .ok (.i2l, 1) := by decide +kernel
theorem dX7_register_23 : decode cX7_register 23 = .ok (.lreturn, 1) := by decide +kernel
theorem dX7_register_24 : decode cX7_register 24 = .ok (.iload_n 2, 1) := by decide +kernel
theorem dX7_register_25 : decode cX7_register 25 = .ok (.ifCond .eq 21, 3) := by decide +kernel
theorem dX7_register_28 : decode cX7_register 28 = .ok (.aload_n 0, 1) := by decide +kernel
theorem dX7_register_29 : decode cX7_register 29 = .ok (.getfield 7, 3) := by decide +kernel
theorem dX7_register_32 : decode cX7_register 32 = .ok (.iload_n 1, 1) := by decide +kernel
theorem dX7_register_33 : decode cX7_register 33 = .ok (.aload_n 0, 1) := by decide +kernel
theorem dX7_register_34 : decode cX7_register 34 = .ok (.getfield 7, 3) := by decide +kernel
theorem dX7_register_37 : decode cX7_register 37 = .ok (.iconst 4, 1) := by decide +kernel
theorem dX7_register_38 : decode cX7_register 38 = .ok (.laload, 1) := by decide +kernel
theorem dX7_register_39 : decode cX7_register 39 = .ok (.l2i, 1) := by decide +kernel
theorem dX7_register_40 : decode cX7_register 40 = .ok (.invokestatic 58, 3) := by decide +kernel
theorem dX7_register_43 : decode cX7_register 43 = .ok (.goto 12, 3) := by decide +kernel
theorem dX7_register_46 : decode cX7_register 46 = .ok (.aload_n 0, 1) := by decide +kernel
theorem dX7_register_47 : decode cX7_register 47 = .ok (.getfield 7, 3) := by decide +kernel
theorem dX7_register_50 : decode cX7_register 50 = .ok (.bipush 7, 2) := by decide +kernel
theorem dX7_register_52 : decode cX7_register 52 = .ok (.iload_n 1, 1) := by decide +kernel
theorem dX7_register_53 : decode cX7_register 53 = .ok (.iadd, 1) := by decide +kernel
theorem dX7_register_54 : decode cX7_register 54 = .ok (.laload, 1) := by decide +kernel
theorem dX7_register_55 : decode cX7_register 55 = .ok (.lreturn, 1) := by decide +kernel
set_option maxRecDepth 20000 in
theorem ggX7_ofGroup_X7_right : GoodIn wsX7_ofGroup wsX7_right := goodIn_r _ [5] (by decide +kernel) (by decide +kernel)
set_option maxRecDepth 20000 in
theorem gX7_ofGroup_X7_right : GoodIn wsX7_ofGroup (va_wsS RX7 54 yX7_right wsX7_right) := goodIn_app (goodIn_of _ (by decide +kernel)) ggX7_ofGroup_X7_right
set_option maxRecDepth 20000 in
theorem ggX7_ofGroup_X7_error : GoodIn wsX7_ofGroup wsX7_error := goodIn_r _ [9, 1, 2, 3, 4, 5, 10, 11, 12, 13, 14, 15, 16, 17, 18, 19, 20, 21] (by decide +kernel) (by decide +kernel)
set_option maxRecDepth 20000 in
theorem gX7_ofGroup_X7_error : GoodIn wsX7_ofGroup (wsV RX7 159 RX7 yX7_error wsX7_error) := goodIn_app (goodIn_of _ (by decide +kernel)) ggX7_ofGroup_X7_error
theorem dX7_ofGroup_0 : decode cX7_ofGroup 0 = .ok (.lconst 0, 1) := by decide +kernel
theorem dX7_ofGroup_1 : decode cX7_ofGroup 1 = .ok (.lstore 4, 2) := by decide +kernel
theorem dX7_ofGroup_3 : decode cX7_ofGroup 3 = .ok (.lconst 0, 1) := by decide +kernel
theorem dX7_ofGroup_4 : decode cX7_ofGroup 4 = .ok (.lstore 6, 2) := by decide +kernel
theorem dX7_ofGroup_6 : decode cX7_ofGroup 6 = .ok (.iconst 0, 1) := by decide +kernel
theorem dX7_ofGroup_7 : decode cX7_ofGroup 7 = .ok (.istore 8, 2) := by decide +kernel
theorem dX7_ofGroup_9 : decode cX7_ofGroup 9 = .ok (.iload_n 1, 1) := by decide +kernel
theorem dX7_ofGroup_10 : decode cX7_ofGroup 10 = .ok (.iload_n 2, 1) := by decide +kernel
theorem dX7_ofGroup_11 : decode cX7_ofGroup 11 = .ok (.imul, 1) := by decide +kernel
theorem dX7_ofGroup_12 : decode cX7_ofGroup 12 = .ok (.istore 9, 2) := by decide +kernel
theorem dX7_ofGroup_14 : decode cX7_ofGroup 14 = .ok (.iload 9, 2) := by decide +kernel
theorem dX7_ofGroup_16 : decode cX7_ofGroup 16 = .ok (.iload_n 1, 1) := by decide +kernel
theorem dX7_ofGroup_17 : decode cX7_ofGroup 17 = .ok (.iload_n 2, 1) := by decide +kernel
theorem dX7_ofGroup_18 : decode cX7_ofGroup 18 = .ok (.imul, 1) := by decide +kernel
theorem dX7_ofGroup_19 : decode cX7_ofGroup 19 = .ok (.iload_n 1, 1) := by decide +kernel
theorem dX7_ofGroup_20 : decode cX7_ofGroup 20 = .ok (.iadd, 1) := by decide +kernel
theorem dX7_ofGroup_21 : decode cX7_ofGroup 21 = .ok (.if_icmp .ge 59, 3) := by decide +kernel
theorem dX7_ofGroup_24 : decode cX7_ofGroup 24 = .ok (.lload 4, 2) := by decide +kernel
theorem dX7_ofGroup_26 : decode cX7_ofGroup 26 = .ok (.aload_n 0, 1) := by decide +kernel
theorem dX7_ofGroup_27 : decode cX7_ofGroup 27 = .ok (.getfield 7, 3) := by decide +kernel
theorem dX7_ofGroup_30 : decode cX7_ofGroup 30 = .ok (.bipush 23, 2) := by decide +kernel
theorem dX7_ofGroup_32 : decode cX7_ofGroup 32 = .ok (.iload 9, 2) := by decide +kernel
theorem dX7_ofGroup_34 : decode cX7_ofGroup 34 = .ok (.iadd, 1) := by decide +kernel
theorem dX7_ofGroup_35 : decode cX7_ofGroup 35 = .ok (.laload, 1) := by decide +kernel
theorem dX7_ofGroup_36 : decode cX7_ofGroup 36 = .ok (.ladd, 1) := by decide +kernel
theorem dX7_ofGroup_37 : decode cX7_ofGroup 37 = .ok (.lstore 4, 2) := by decide +kernel
theorem dX7_ofGroup_39 : decode cX7_ofGroup 39 = .ok (.lload 6, 2) := by decide +kernel
theorem dX7_ofGroup_41 : decode cX7_ofGroup 41 = .ok (.aload_n 0, 1) := by decide +kernel
theorem dX7_ofGroup_42 : decode cX7_ofGroup 42 = .ok (.getfield 7, 3) := by decide +kernel
theorem dX7_ofGroup_45 : decode cX7_ofGroup 45 = .ok (.iload 9, 2) := by decide +kernel
theorem dX7_ofGroup_47 : decode cX7_ofGroup 47 = .ok (.invokestatic 54, 3) := by decide +kernel
theorem dX7_ofGroup_50 : decode cX7_ofGroup 50 = .ok (.ladd, 1) := by decide +kernel
theorem dX7_ofGroup_51 : decode cX7_ofGroup 51 = .ok (.lstore 6, 2) := by decide +kernel
theorem dX7_ofGroup_53 : decode cX7_ofGroup 53 = .ok (.iload 8, 2) := by decide +kernel
theorem dX7_ofGroup_55 : decode cX7_ofGroup 55 = .ok (.aload_n 0, 1) := by decide +kernel
theorem dX7_ofGroup_56 : decode cX7_ofGroup 56 = .ok (.iload 9, 2) := by decide +kernel
theorem dX7_ofGroup_58 : decode cX7_ofGroup 58 = .ok (.invokevirtual 159, 3) := by decide +kernel
theorem dX7_ofGroup_61 : decode cX7_ofGroup 61 = .ok (.lconst 0, 1) := by decide +kernel
theorem dX7_ofGroup_62 : decode cX7_ofGroup 62 = .ok (.lcmp, 1) := by decide +kernel
theorem dX7_ofGroup_63 : decode cX7_ofGroup 63 = .ok (.ifCond .ne 7, 3) := by decide +kernel
theorem dX7_ofGroup_66 : decode cX7_ofGroup 66 = .ok (.iconst 0, 1) := by decide +kernel
theorem dX7_ofGroup_67 : decode cX7_ofGroup 67 = .ok (.goto 4, 3) := by decide +kernel
theorem dX7_ofGroup_70 : decode cX7_ofGroup 70 = .ok (.iconst 1, 1) := by decide +kernel
theorem dX7_ofGroup_71 : decode cX7_ofGroup 71 = .ok (.iadd, 1) := by decide +kernel
theorem dX7_ofGroup_72 : decode cX7_ofGroup 72 = .ok (.istore 8, 2) := by decide +kernel
theorem dX7_ofGroup_74 : decode cX7_ofGroup 74 = .ok (.iinc 9 1, 3) := by decide +kernel
theorem dX7_ofGroup_77 : decode cX7_ofGroup 77 = .ok (.goto (-63), 3) := by decide +kernel
theorem dX7_ofGroup_80 : decode cX7_ofGroup 80 = .ok (.iload_n 3, 1) := by decide +kernel
theorem dX7_ofGroup_81 : decode cX7_ofGroup 81 = .ok (.ifCond .ne 8, 3) := by decide +kernel
theorem dX7_ofGroup_84 : decode cX7_ofGroup 84 = .ok (.lload 4, 2) := by decide +kernel
theorem dX7_ofGroup_86 : decode cX7_ofGroup 86 = .ok (.goto 37, 3) := by decide +kernel
theorem dX7_ofGroup_89 : decode cX7_ofGroup 89 = .ok (.iload_n 3, 1) := by decide +kernel
theorem dX7_ofGroup_90 : decode cX7_ofGroup 90 = .ok (.iconst 1, 1) := by decide +kernel
theorem dX7_ofGroup_91 : decode cX7_ofGroup 91 = .ok (.if_icmp .ne 8, 3) := by decide +kernel
theorem dX7_ofGroup_94 : decode cX7_ofGroup 94 = .ok (.lload 6, 2) := by decide +kernel
theorem dX7_ofGroup_96 : decode cX7_ofGroup 96 = .ok (.goto 27, 3) := by decide +kernel
theorem dX7_ofGroup_99 : decode cX7_ofGroup 99 = .ok (.iload_n 3, 1) := by decide +kernel
theorem dX7_ofGroup_100 : decode cX7_ofGroup 100 = .ok (.iconst 2, 1) := by decide +kernel
theorem dX7_ofGroup_101 : decode cX7_ofGroup 101 = .ok (.if_icmp .ne 19, 3) := by decide +kernel
theorem dX7_ofGroup_104 : decode cX7_ofGroup 104 = .ok (.lload 4, 2) := by decide +kernel
theorem dX7_ofGroup_106 : decode cX7_ofGroup 106 = .ok (.lload 6, 2) := by decide +kernel
theorem dX7_ofGroup_108 : decode cX7_ofGroup 108 = .ok (.lcmp, 1) := by decide +kernel
theorem dX7_ofGroup_109 : decode cX7_ofGroup 109 = .ok (.ifCond .ne 7, 3) := by decide +kernel
theorem dX7_ofGroup_112 : decode cX7_ofGroup 112 = .ok (.lconst 0, 1) := by decide +kernel
theorem dX7_ofGroup_113 : decode cX7_ofGroup 113 = .ok (.goto 10, 3) := by decide +kernel
theorem dX7_ofGroup_116 : decode cX7_ofGroup 116 = .ok (.lconst 1, 1) := by decide +kernel
theorem dX7_ofGroup_117 : decode cX7_ofGroup 117 = .ok (.goto 6, 3) := by decide +kernel
theorem dX7_ofGroup_120 : decode cX7_ofGroup 120 = .ok (.iload 8, 2) := by decide +kernel
theorem dX7_ofGroup_122 : decode cX7_ofGroup 122 = .ok (.i2l, 1) := by decide +kernel
theorem dX7_ofGroup_123 : decode cX7_ofGroup 123 = .ok (.lreturn, 1) := by decide +kernel
theorem dX7_groups_0 : decode cX7_groups 0 = .ok (.aload_n 0, 1) := by decide +kernel
theorem dX7_groups_1 : decode cX7_groups 1 = .ok (.getfield 7, 3) := by decide +kernel
theorem dX7_groups_4 : decode cX7_groups 4 = .ok (.iconst 4, 1) := by decide +kernel
theorem dX7_groups_5 : decode cX7_groups 5 = .ok (.laload, 1) := by decide +kernel
theorem dX7_groups_6 : decode cX7_groups 6 = .ok (.l2i, 1) := by decide +kernel
theorem dX7_groups_7 : decode cX7_groups 7 = .ok (.iload_n 1, 1) := by decide +kernel
theorem dX7_groups_8 : decode cX7_groups 8 = .ok (.idiv, 1) := by decide +kernel
theorem dX7_groups_9 : decode cX7_groups 9 = .ok (.ireturn, 1) := by decide +kernel
set_option maxRecDepth 20000 in
theorem ggX7_group_X7_in : GoodIn wsX7_group wsX7_in := goodIn_r _ [7] (by decide +kernel) (by decide +kernel)
set_option maxRecDepth 20000 in
theorem gX7_group_X7_in : GoodIn wsX7_group (va_wsS RX7 43 yX7_in wsX7_in) := goodIn_app (goodIn_of _ (by decide +kernel)) ggX7_group_X7_in
set_option maxRecDepth 20000 in
theorem ggX7_group_X7_fails : GoodIn wsX7_group wsX7_fails := goodIn_r _ [11, 1, 27, 28, 29, 30, 31, 32, 33, 34, 35, 36, 37, 38] (by decide +kernel) (by decide +kernel)
set_option maxRecDepth 20000 in
theorem gX7_group_X7_fails : GoodIn wsX7_group (wsV RX7 50 RX7 yX7_fails wsX7_fails) := goodIn_app (goodIn_of _ (by decide +kernel)) ggX7_group_X7_fails
set_option maxRecDepth 20000 in
theorem ggX7_group_X7_groups : GoodIn wsX7_group wsX7_groups := goodIn_r _ [15, 3, 27, 28, 29, 30, 31, 32, 33, 34, 35, 36, 37, 38] (by decide +kernel) (by decide +kernel)
set_option maxRecDepth 20000 in
theorem gX7_group_X7_groups : GoodIn wsX7_group (wsV RX7 170 RX7 yX7_groups wsX7_groups) := goodIn_app (goodIn_of _ (by decide +kernel)) ggX7_group_X7_groups
set_option maxRecDepth 20000 in
theorem ggX7_group_X7_ofGroup : GoodIn wsX7_group wsX7_ofGroup := goodIn_r _ [19, 3, 20, 21, 6, 22, 23, 24, 25, 26, 27, 28, 29, 30, 31, 32, 33, 34, 35, 36, 37, 38] (by decide +kernel) (by decide +kernel)
set_option maxRecDepth 20000 in
theorem gX7_group_X7_ofGroup : GoodIn wsX7_group (wsV RX7 173 RX7 yX7_ofGroup wsX7_ofGroup) := goodIn_app (goodIn_of _ (by decide +kernel)) ggX7_group_X7_ofGroup
theorem dX7_group_0 : decode cX7_group 0 = .ok (.aload_n 0, 1) := by decide +kernel
theorem dX7_group_1 : decode cX7_group 1 = .ok (.iconst 0, 1) := by decide +kernel
theorem dX7_group_2 : decode cX7_group 2 = .ok (.putfield 39, 3) := by decide +kernel
theorem dX7_group_5 : decode cX7_group 5 = .ok (.iload_n 1, 1) := by decide +kernel
theorem dX7_group_6 : decode cX7_group 6 = .ok (.ifCond .lt 15, 3) := by decide +kernel
theorem dX7_group_9 : decode cX7_group 9 = .ok (.iload_n 2, 1) := by decide +kernel
theorem dX7_group_10 : decode cX7_group 10 = .ok (.i2l, 1) := by decide +kernel
theorem dX7_group_11 : decode cX7_group 11 = .ok (.lconst 0, 1) := by decide +kernel
theorem dX7_group_12 : decode cX7_group 12 = .ok (.ldc2_w 168, 3) := by decide +kernel
theorem dX7_group_15 : decode cX7_group 15 = .ok (.invokestatic 43, 3) := by decide +kernel
theorem dX7_group_18 : decode cX7_group 18 = .ok (.ifCond .ne 10, 3) := by decide +kernel
theorem dX7_group_21 : decode cX7_group 21 = .ok (.aload_n 0, 1) := by decide +kernel
theorem dX7_group_22 : decode cX7_group 22 = .ok (.iconst 1, 1) := by decide +kernel
theorem dX7_group_23 : decode cX7_group 23 = .ok (.invokevirtual 50, 3) := by decide +kernel
theorem dX7_group_26 : decode cX7_group 26 = .ok (.i2l, 1) := by decide +kernel
theorem dX7_group_27 : decode cX7_group 27 = .ok (.lreturn, 1) := by decide +kernel
theorem dX7_group_28 : decode cX7_group 28 = .ok (.iload_n 1, 1) := by decide +kernel
theorem dX7_group_29 : decode cX7_group 29 = .ok (.aload_n 0, 1) := by decide +kernel
theorem dX7_group_30 : decode cX7_group 30 = .ok (.aload_n 0, 1) := by decide +kernel
theorem dX7_group_31 : decode cX7_group 31 = .ok (.getfield 7, 3) := by decide +kernel
theorem dX7_group_34 : decode cX7_group 34 = .ok (.iconst 0, 1) := by decide +kernel
theorem dX7_group_35 : decode cX7_group 35 = .ok (.laload, 1) := by decide +kernel
theorem dX7_group_36 : decode cX7_group 36 = .ok (.l2i, 1) := by decide +kernel
theorem dX7_group_37 : decode cX7_group 37 = .ok (.invokevirtual 170, 3) := by decide +kernel
theorem dX7_group_40 : decode cX7_group 40 = .ok (.if_icmp .ge 19, 3) := by decide +kernel
theorem dX7_group_43 : decode cX7_group 43 = .ok (.aload_n 0, 1) := by decide +kernel
theorem dX7_group_44 : decode cX7_group 44 = .ok (.aload_n 0, 1) := by decide +kernel
theorem dX7_group_45 : decode cX7_group 45 = .ok (.getfield 7, 3) := by decide +kernel
theorem dX7_group_48 : decode cX7_group 48 = .ok (.iconst 0, 1) := by decide +kernel
theorem dX7_group_49 : decode cX7_group 49 = .ok (.laload, 1) := by decide +kernel
theorem dX7_group_50 : decode cX7_group 50 = .ok (.l2i, 1) := by decide +kernel
theorem dX7_group_51 : decode cX7_group 51 = .ok (.iload_n 1, 1) := by decide +kernel
theorem dX7_group_52 : decode cX7_group 52 = .ok (.iload_n 2, 1) := by decide +kernel
theorem dX7_group_53 : decode cX7_group 53 = .ok (.invokevirtual 173, 3) := by decide +kernel
theorem dX7_group_56 : decode cX7_group 56 = .ok (.goto 4, 3) := by decide +kernel
theorem dX7_group_59 : decode cX7_group 59 = .ok (.lconst 0, 1) := by decide +kernel
theorem dX7_group_60 : decode cX7_group 60 = .ok (.lreturn, 1) := by decide +kernel
theorem dX7_differenceAt_0 : decode cX7_differenceAt 0 = .ok (.iload_n 2, 1) := by decide +kernel
theorem dX7_differenceAt_1 : decode cX7_differenceAt 1 = .ok (.iload_n 1, 1) := by decide +kernel
theorem dX7_differenceAt_2 : decode cX7_differenceAt 2 = .ok (.iadd, 1) := by decide +kernel
theorem dX7_differenceAt_3 : decode cX7_differenceAt 3 = .ok (.i2l, 1) := by decide +kernel
theorem dX7_differenceAt_4 : decode cX7_differenceAt 4 = .ok (.aload_n 0, 1) := by decide +kernel
theorem dX7_differenceAt_5 : decode cX7_differenceAt 5 = .ok (.getfield 7, 3) := by decide +kernel
theorem dX7_differenceAt_8 : decode cX7_differenceAt 8 = .ok (.iconst 4, 1) := by decide +kernel
theorem dX7_differenceAt_9 : decode cX7_differenceAt 9 = .ok (.laload, 1) := by decide +kernel
theorem dX7_differenceAt_10 : decode cX7_differenceAt 10 = .ok (.lcmp, 1) := by decide +kernel
theorem dX7_differenceAt_11 : decode cX7_differenceAt 11 = .ok (.ifCond .lt 5, 3) := by decide +kernel
theorem dX7_differenceAt_14 : decode cX7_differenceAt 14 = .ok (.lconst 0, 1) := by decide +kernel
theorem dX7_differenceAt_15 : decode cX7_differenceAt 15 = .ok (.lreturn, 1) := by decide +kernel
theorem dX7_differenceAt_16 : decode cX7_differenceAt 16 = .ok (.lconst 0, 1) := by decide +kernel
theorem dX7_differenceAt_17 : decode cX7_differenceAt 17 = .ok (.lstore_n 3, 1) := by decide +kernel
theorem dX7_differenceAt_18 : decode cX7_differenceAt 18 = .ok (.lconst 1, 1) := by decide +kernel
theorem dX7_differenceAt_19 : decode cX7_differenceAt 19 = .ok (.lstore 5, 2) := by decide +kernel
theorem dX7_differenceAt_21 : decode cX7_differenceAt 21 = .ok (.iconst 0, 1) := by decide +kernel
theorem dX7_differenceAt_22 : decode cX7_differenceAt 22 = .ok (.istore 7, 2) := by decide +kernel
theorem dX7_differenceAt_24 : decode cX7_differenceAt 24 = .ok (.iload 7, 2) := by decide +kernel
theorem dX7_differenceAt_26 : decode cX7_differenceAt 26 = .ok (.iload_n 1, 1) := by decide +kernel
theorem dX7_differenceAt_27 : decode cX7_differenceAt 27 = .ok (.if_icmp .gt 58, 3) := by decide +kernel
theorem dX7_differenceAt_30 : decode cX7_differenceAt 30 = .ok (.lload_n 3, 1) := by decide +kernel
theorem dX7_differenceAt_31 : decode cX7_differenceAt 31 = .ok (.iload_n 1, 1) := by decide +kernel
theorem dX7_differenceAt_32 : decode cX7_differenceAt 32 = .ok (.iload 7, 2) := by decide +kernel
theorem dX7_differenceAt_34 : decode cX7_differenceAt 34 = .ok (.isub, 1) := by decide +kernel
theorem dX7_differenceAt_35 : decode cX7_differenceAt 35 = .ok (.iconst 2, 1) := by decide +kernel
theorem dX7_differenceAt_36 : decode cX7_differenceAt 36 = .ok (.irem, 1) := by decide +kernel
theorem dX7_differenceAt_37 : decode cX7_differenceAt 37 = .ok (.ifCond .ne 8, 3) := by decide +kernel
theorem dX7_differenceAt_40 : decode cX7_differenceAt 40 = .ok (.lload 5, 2) := by decide +kernel
theorem dX7_differenceAt_42 : decode cX7_differenceAt 42 = .ok (.goto 6, 3) := by decide +kernel
theorem dX7_differenceAt_45 : decode cX7_differenceAt 45 = .ok (.lload 5, 2) := by decide +kernel
theorem dX7_differenceAt_47 : decode cX7_differenceAt 47 = .ok (.lneg, 1) := by decide +kernel
theorem dX7_differenceAt_48 : decode cX7_differenceAt 48 = .ok (.aload_n 0, 1) := by decide +kernel
theorem dX7_differenceAt_49 : decode cX7_differenceAt 49 = .ok (.getfield 7, 3) := by decide +kernel
theorem dX7_differenceAt_52 : decode cX7_differenceAt 52 = .ok (.bipush 23, 2) := by decide +kernel
theorem dX7_differenceAt_54 : decode cX7_differenceAt 54 = .ok (.iload_n 2, 1) := by decide +kernel
theorem dX7_differenceAt_55 : decode cX7_differenceAt 55 = .ok (.iadd, 1) := by decide +kernel
theorem dX7_differenceAt_56 : decode cX7_differenceAt 56 = .ok (.iload 7, 2) := by decide +kernel
theorem dX7_differenceAt_58 : decode cX7_differenceAt 58 = .ok (.iadd, 1) := by decide +kernel
theorem dX7_differenceAt_59 : decode cX7_differenceAt 59 = .ok (.laload, 1) := by decide +kernel
theorem dX7_differenceAt_60 : decode cX7_differenceAt 60 = .ok (.lmul, 1) := by decide +kernel
theorem dX7_differenceAt_61 : decode cX7_differenceAt 61 = .ok (.ladd, 1) := by decide +kernel
theorem dX7_differenceAt_62 : decode cX7_differenceAt 62 = .ok (.lstore_n 3, 1) := by decide +kernel
theorem dX7_differenceAt_63 : decode cX7_differenceAt 63 = .ok (.lload 5, 2) := by decide +kernel
theorem dX7_differenceAt_65 : decode cX7_differenceAt 65 = .ok (.iload_n 1, 1) := by decide +kernel
theorem dX7_differenceAt_66 : decode cX7_differenceAt 66 = .ok (.iload 7, 2) := by decide +kernel
theorem dX7_differenceAt_68 : decode cX7_differenceAt 68 = .ok (.isub, 1) := by decide +kernel
theorem dX7_differenceAt_69 : decode cX7_differenceAt 69 = .ok (.i2l, 1) := by decide +kernel
theorem dX7_differenceAt_70 : decode cX7_differenceAt 70 = .ok (.lmul, 1) := by decide +kernel
theorem dX7_differenceAt_71 : decode cX7_differenceAt 71 = .ok (.iload 7, 2) := by decide +kernel
theorem dX7_differenceAt_73 : decode cX7_differenceAt 73 = .ok (.iconst 1, 1) := by decide +kernel
theorem dX7_differenceAt_74 : decode cX7_differenceAt 74 = .ok (.iadd, 1) := by decide +kernel
theorem dX7_differenceAt_75 : decode cX7_differenceAt 75 = .ok (.i2l, 1) := by decide +kernel
theorem dX7_differenceAt_76 : decode cX7_differenceAt 76 = .ok (.ldiv, 1) := by decide +kernel
theorem dX7_differenceAt_77 : decode cX7_differenceAt 77 = .ok (.lstore 5, 2) := by decide +kernel
theorem dX7_differenceAt_79 : decode cX7_differenceAt 79 = .ok (.iinc 7 1, 3) := by decide +kernel
theorem dX7_differenceAt_82 : decode cX7_differenceAt 82 = .ok (.goto (-58), 3) := by decide +kernel
theorem dX7_differenceAt_85 : decode cX7_differenceAt 85 = .ok (.lload_n 3, 1) := by decide +kernel
theorem dX7_differenceAt_86 : decode cX7_differenceAt 86 = .ok (.lreturn, 1) := by decide +kernel
set_option maxRecDepth 20000 in
theorem ggX7_difference_X7_in : GoodIn wsX7_difference wsX7_in := goodIn_r _ [6] (by decide +kernel) (by decide +kernel)
set_option maxRecDepth 20000 in
theorem gX7_difference_X7_in : GoodIn wsX7_difference (va_wsS RX7 43 yX7_in wsX7_in) := goodIn_app (goodIn_of _ (by decide +kernel)) ggX7_difference_X7_in
set_option maxRecDepth 20000 in
theorem ggX7_difference_X7_fails : GoodIn wsX7_difference wsX7_fails := goodIn_r _ [10, 1, 20, 21, 22, 23, 24, 25, 26, 27, 28, 29, 30, 31] (by decide +kernel) (by decide +kernel)
set_option maxRecDepth 20000 in
theorem gX7_difference_X7_fails : GoodIn wsX7_difference (wsV RX7 50 RX7 yX7_fails wsX7_fails) := goodIn_app (goodIn_of _ (by decide +kernel)) ggX7_difference_X7_fails
set_option maxRecDepth 20000 in
theorem ggX7_difference_X7_isRow : GoodIn wsX7_difference wsX7_isRow := goodIn_r _ [14, 15, 3, 4, 5, 6, 20, 21, 22, 23, 24, 25, 26, 27, 28, 29, 30, 31] (by decide +kernel) (by decide +kernel)
set_option maxRecDepth 20000 in
theorem gX7_difference_X7_isRow : GoodIn wsX7_difference (wsV RX7 103 RX7 yX7_isRow wsX7_isRow) := goodIn_app (goodIn_of _ (by decide +kernel)) ggX7_difference_X7_isRow
set_option maxRecDepth 20000 in
theorem ggX7_difference_X7_differenceAt : GoodIn wsX7_difference wsX7_differenceAt := goodIn_r _ [19, 15, 20, 21, 22, 23, 24, 25, 26, 27, 28, 29, 30, 31] (by decide +kernel) (by decide +kernel)
set_option maxRecDepth 20000 in
theorem gX7_difference_X7_differenceAt : GoodIn wsX7_difference (wsV RX7 177 RX7 yX7_differenceAt wsX7_differenceAt) := goodIn_app (goodIn_of _ (by decide +kernel)) ggX7_difference_X7_differenceAt
theorem dX7_difference_0 : decode cX7_difference 0 = .ok (.aload_n 0, 1) := by decide +kernel
theorem dX7_difference_1 : decode cX7_difference 1 = .ok (.iconst 0, 1) := by decide +kernel
theorem dX7_difference_2 : decode cX7_difference 2 = .ok (.putfield 39, 3) := by decide +kernel
theorem dX7_difference_5 : decode cX7_difference 5 = .ok (.iload_n 1, 1) := by decide +kernel
theorem dX7_difference_6 : decode cX7_difference 6 = .ok (.i2l, 1) := by decide +kernel
theorem dX7_difference_7 : decode cX7_difference 7 = .ok (.lconst 0, 1) := by decide +kernel
theorem dX7_difference_8 : decode cX7_difference 8 = .ok (.ldc2_w 29, 3) := by decide +kernel
theorem dX7_difference_11 : decode cX7_difference 11 = .ok (.invokestatic 43, 3) := by decide +kernel
theorem dX7_difference_14 : decode cX7_difference 14 = .ok (.ifCond .ne 10, 3) := by decide +kernel
theorem dX7_difference_17 : decode cX7_difference 17 = .ok (.aload_n 0, 1) := by decide +kernel
theorem dX7_difference_18 : decode cX7_difference 18 = .ok (.iconst 1, 1) := by decide +kernel
theorem dX7_difference_19 : decode cX7_difference 19 = .ok (.invokevirtual 50, 3) := by decide +kernel
theorem dX7_difference_22 : decode cX7_difference 22 = .ok (.i2l, 1) := by decide +kernel
theorem dX7_difference_23 : decode cX7_difference 23 = .ok (.lreturn, 1) := by decide +kernel
theorem dX7_difference_24 : decode cX7_difference 24 = .ok (.aload_n 0, 1) := by decide +kernel
theorem dX7_difference_25 : decode cX7_difference 25 = .ok (.iload_n 2, 1) := by decide +kernel
theorem dX7_difference_26 : decode cX7_difference 26 = .ok (.invokevirtual 103, 3) := by decide +kernel
theorem dX7_difference_29 : decode cX7_difference 29 = .ok (.ifCond .eq 12, 3) := by decide +kernel
theorem dX7_difference_32 : decode cX7_difference 32 = .ok (.aload_n 0, 1) := by decide +kernel
theorem dX7_difference_33 : decode cX7_difference 33 = .ok (.iload_n 1, 1) := by decide +kernel
theorem dX7_difference_34 : decode cX7_difference 34 = .ok (.iload_n 2, 1) := by decide +kernel
theorem dX7_difference_35 : decode cX7_difference 35 = .ok (.invokevirtual 177, 3) := by decide +kernel
theorem dX7_difference_38 : decode cX7_difference 38 = .ok (.goto 9, 3) := by decide +kernel
theorem dX7_difference_41 : decode cX7_difference 41 = .ok (.aload_n 0, 1) := by decide +kernel
theorem dX7_difference_42 : decode cX7_difference 42 = .ok (.iconst 2, 1) := by decide +kernel
theorem dX7_difference_43 : decode cX7_difference 43 = .ok (.invokevirtual 50, 3) := by decide +kernel
theorem dX7_difference_46 : decode cX7_difference 46 = .ok (.i2l, 1) := by decide +kernel
theorem dX7_difference_47 : decode cX7_difference 47 = .ok (.lreturn, 1) := by decide +kernel
set_option maxRecDepth 20000 in
theorem ggX7_wear_X7_in : GoodIn wsX7_wear wsX7_in := goodIn_r _ [7] (by decide +kernel) (by decide +kernel)
set_option maxRecDepth 20000 in
theorem gX7_wear_X7_in : GoodIn wsX7_wear (va_wsS RX7 43 yX7_in wsX7_in) := goodIn_app (goodIn_of _ (by decide +kernel)) ggX7_wear_X7_in
set_option maxRecDepth 20000 in
theorem ggX7_wear_X7_fails : GoodIn wsX7_wear wsX7_fails := goodIn_r _ [11, 1, 12, 13, 14, 15, 16, 17, 18, 19, 20, 21, 22, 23] (by decide +kernel) (by decide +kernel)
set_option maxRecDepth 20000 in
theorem gX7_wear_X7_fails : GoodIn wsX7_wear (wsV RX7 50 RX7 yX7_fails wsX7_fails) := goodIn_app (goodIn_of _ (by decide +kernel)) ggX7_wear_X7_fails
theorem dX7_wear_0 : decode cX7_wear 0 = .ok (.aload_n 0, 1) := by decide +kernel
theorem dX7_wear_1 : decode cX7_wear 1 = .ok (.iconst 0, 1) := by decide +kernel
theorem dX7_wear_2 : decode cX7_wear 2 = .ok (.putfield 39, 3) := by decide +kernel
theorem dX7_wear_5 : decode cX7_wear 5 = .ok (.iload_n 1, 1) := by decide +kernel
theorem dX7_wear_6 : decode cX7_wear 6 = .ok (.i2l, 1) := by decide +kernel
theorem dX7_wear_7 : decode cX7_wear 7 = .ok (.lconst 0, 1) := by decide +kernel
theorem dX7_wear_8 : decode cX7_wear 8 = .ok (.ldc2_w 87, 3) := by decide +kernel
theorem dX7_wear_11 : decode cX7_wear 11 = .ok (.invokestatic 43, 3) := by decide +kernel
theorem dX7_wear_14 : decode cX7_wear 14 = .ok (.ifCond .eq 16, 3) := by decide +kernel
theorem dX7_wear_17 : decode cX7_wear 17 = .ok (.aload_n 0, 1) := by decide +kernel
theorem dX7_wear_18 : decode cX7_wear 18 = .ok (.getfield 7, 3) := by decide +kernel
theorem dX7_wear_21 : decode cX7_wear 21 = .ok (.bipush 13, 2) := by decide +kernel
theorem dX7_wear_23 : decode cX7_wear 23 = .ok (.iload_n 1, 1) := by decide +kernel
theorem dX7_wear_24 : decode cX7_wear 24 = .ok (.iadd, 1) := by decide +kernel
theorem dX7_wear_25 : decode cX7_wear 25 = .ok (.laload, 1) := by decide +kernel
theorem dX7_wear_26 : decode cX7_wear 26 = .ok (.l2i, 1) := by decide +kernel
theorem dX7_wear_27 : decode cX7_wear 27 = .ok (.goto 8, 3) := by decide +kernel
theorem dX7_wear_30 : decode cX7_wear 30 = .ok (.aload_n 0, 1) := by decide +kernel
theorem dX7_wear_31 : decode cX7_wear 31 = .ok (.iconst 1, 1) := by decide +kernel
theorem dX7_wear_32 : decode cX7_wear 32 = .ok (.invokevirtual 50, 3) := by decide +kernel
theorem dX7_wear_35 : decode cX7_wear 35 = .ok (.ireturn, 1) := by decide +kernel
set_option maxRecDepth 20000 in
theorem ggX7_firstWrong_X7_error : GoodIn wsX7_firstWrong wsX7_error := goodIn_r _ [6, 1, 7, 8, 5, 9, 10, 11, 12, 13, 14, 15, 16, 17, 18, 19, 20, 21] (by decide +kernel) (by decide +kernel)
set_option maxRecDepth 20000 in
theorem gX7_firstWrong_X7_error : GoodIn wsX7_firstWrong (wsV RX7 159 RX7 yX7_error wsX7_error) := goodIn_app (goodIn_of _ (by decide +kernel)) ggX7_firstWrong_X7_error
theorem dX7_firstWrong_0 : decode cX7_firstWrong 0 = .ok (.iconst 0, 1) := by decide +kernel
theorem dX7_firstWrong_1 : decode cX7_firstWrong 1 = .ok (.istore_n 1, 1) := by decide +kernel
theorem dX7_firstWrong_2 : decode cX7_firstWrong 2 = .ok (.iload_n 1, 1) := by decide +kernel
theorem dX7_firstWrong_3 : decode cX7_firstWrong 3 = .ok (.i2l, 1) := by decide +kernel
theorem dX7_firstWrong_4 : decode cX7_firstWrong 4 = .ok (.aload_n 0, 1) := by decide +kernel
theorem dX7_firstWrong_5 : decode cX7_firstWrong 5 = .ok (.getfield 7, 3) := by decide +kernel
theorem dX7_firstWrong_8 : decode cX7_firstWrong 8 = .ok (.iconst 4, 1) := by decide +kernel
theorem dX7_firstWrong_9 : decode cX7_firstWrong 9 = .ok (.laload, 1) := by decide +kernel
theorem dX7_firstWrong_10 : decode cX7_firstWrong 10 = .ok (.lcmp, 1) := by decide +kernel
theorem dX7_firstWrong_11 : decode cX7_firstWrong 11 = .ok (.ifCond .ge 21, 3) := by decide +kernel
theorem dX7_firstWrong_14 : decode cX7_firstWrong 14 = .ok (.aload_n 0, 1) := by decide +kernel
theorem dX7_firstWrong_15 : decode cX7_firstWrong 15 = .ok (.iload_n 1, 1) := by decide +kernel
theorem dX7_firstWrong_16 : decode cX7_firstWrong 16 = .ok (.invokevirtual 159, 3) := by decide +kernel
theorem dX7_firstWrong_19 : decode cX7_firstWrong 19 = .ok (.lconst 0, 1) := by decide +kernel
theorem dX7_firstWrong_20 : decode cX7_firstWrong 20 = .ok (.lcmp, 1) := by decide +kernel
theorem dX7_firstWrong_21 : decode cX7_firstWrong 21 = .ok (.ifCond .eq 5, 3) := by decide +kernel
theorem dX7_firstWrong_24 : decode cX7_firstWrong 24 = .ok (.iload_n 1, 1) := by decide +kernel
theorem dX7_firstWrong_25 : decode cX7_firstWrong 25 = .ok (.ireturn, 1) := by decide +kernel
theorem dX7_firstWrong_26 : decode cX7_firstWrong 26 = .ok (.iinc 1 1, 3) := by decide +kernel
theorem dX7_firstWrong_29 : decode cX7_firstWrong 29 = .ok (.goto (-27), 3) := by decide +kernel
theorem dX7_firstWrong_32 : decode cX7_firstWrong 32 = .ok (.iconst (-1), 1) := by decide +kernel
theorem dX7_firstWrong_33 : decode cX7_firstWrong 33 = .ok (.ireturn, 1) := by decide +kernel
set_option maxRecDepth 20000 in
theorem ggX7_overRows_X7_error : GoodIn wsX7_overRows wsX7_error := goodIn_r _ [6, 1, 7, 8, 5, 9, 10, 11, 12, 13, 14, 15, 16, 17, 18, 19, 20, 21] (by decide +kernel) (by decide +kernel)
set_option maxRecDepth 20000 in
theorem gX7_overRows_X7_error : GoodIn wsX7_overRows (wsV RX7 159 RX7 yX7_error wsX7_error) := goodIn_app (goodIn_of _ (by decide +kernel)) ggX7_overRows_X7_error
theorem dX7_overRows_0 : decode cX7_overRows 0 = .ok (.iconst 0, 1) := by decide +kernel
theorem dX7_overRows_1 : decode cX7_overRows 1 = .ok (.istore_n 2, 1) := by decide +kernel
theorem dX7_overRows_2 : decode cX7_overRows 2 = .ok (.iconst 0, 1) := by decide +kernel
theorem dX7_overRows_3 : decode cX7_overRows 3 = .ok (.istore_n 3, 1) := by decide +kernel
theorem dX7_overRows_4 : decode cX7_overRows 4 = .ok (.iload_n 3, 1) := by decide +kernel
theorem dX7_overRows_5 : decode cX7_overRows 5 = .ok (.i2l, 1) := by decide +kernel
theorem dX7_overRows_6 : decode cX7_overRows 6 = .ok (.aload_n 0, 1) := by decide +kernel
theorem dX7_overRows_7 : decode cX7_overRows 7 = .ok (.getfield 7, 3) := by decide +kernel
theorem dX7_overRows_10 : decode cX7_overRows 10 = .ok (.iconst 4, 1) := by decide +kernel
theorem dX7_overRows_11 : decode cX7_overRows 11 = .ok (.laload, 1) := by decide +kernel
theorem dX7_overRows_12 : decode cX7_overRows 12 = .ok (.lcmp, 1) := by decide +kernel
theorem dX7_overRows_13 : decode cX7_overRows 13 = .ok (.ifCond .ge 45, 3) := by decide +kernel
theorem dX7_overRows_16 : decode cX7_overRows 16 = .ok (.iload_n 2, 1) := by decide +kernel
theorem dX7_overRows_17 : decode cX7_overRows 17 = .ok (.iload_n 1, 1) := by decide +kernel
theorem dX7_overRows_18 : decode cX7_overRows 18 = .ok (.iconst 3, 1) := by decide +kernel
theorem dX7_overRows_19 : decode cX7_overRows 19 = .ok (.if_icmp .ne 21, 3) := by decide +kernel
theorem dX7_overRows_22 : decode cX7_overRows 22 = .ok (.aload_n 0, 1) := by decide +kernel
theorem dX7_overRows_23 : decode cX7_overRows 23 = .ok (.iload_n 3, 1) := by decide +kernel
theorem dX7_overRows_24 : decode cX7_overRows 24 = .ok (.invokevirtual 159, 3) := by decide +kernel
theorem dX7_overRows_27 : decode cX7_overRows 27 = .ok (.lconst 0, 1) := by decide +kernel
theorem dX7_overRows_28 : decode cX7_overRows 28 = .ok (.lcmp, 1) := by decide +kernel
theorem dX7_overRows_29 : decode cX7_overRows 29 = .ok (.ifCond .ne 7, 3) := by decide +kernel
theorem dX7_overRows_32 : decode cX7_overRows 32 = .ok (.iconst 0, 1) := by decide +kernel
theorem dX7_overRows_33 : decode cX7_overRows 33 = .ok (.goto 17, 3) := by decide +kernel
theorem dX7_overRows_36 : decode cX7_overRows 36 = .ok (.iconst 1, 1) := by decide +kernel
theorem dX7_overRows_37 : decode cX7_overRows 37 = .ok (.goto 13, 3) := by decide +kernel
theorem dX7_overRows_40 : decode cX7_overRows 40 = .ok (.aload_n 0, 1) := by decide +kernel
theorem dX7_overRows_41 : decode cX7_overRows 41 = .ok (.getfield 7, 3) := by decide +kernel
theorem dX7_overRows_44 : decode cX7_overRows 44 = .ok (.bipush 63, 2) := by decide +kernel
theorem dX7_overRows_46 : decode cX7_overRows 46 = .ok (.iload_n 3, 1) := by decide +kernel
theorem dX7_overRows_47 : decode cX7_overRows 47 = .ok (.iadd, 1) := by decide +kernel
theorem dX7_overRows_48 : decode cX7_overRows 48 = .ok (.laload, 1) := by decide +kernel
theorem dX7_overRows_49 : decode cX7_overRows 49 = .ok (.l2i, 1) := by decide +kernel
theorem dX7_overRows_50 : decode cX7_overRows 50 = .ok (.iadd, 1) := by decide +kernel
theorem dX7_overRows_51 : decode cX7_overRows 51 = .ok (.istore_n 2, 1) := by decide +kernel
theorem dX7_overRows_52 : decode cX7_overRows 52 = .ok (.iinc 3 1, 3) := by decide +kernel
theorem dX7_overRows_55 : decode cX7_overRows 55 = .ok (.goto (-51), 3) := by decide +kernel
theorem dX7_overRows_58 : decode cX7_overRows 58 = .ok (.iload_n 2, 1) := by decide +kernel
theorem dX7_overRows_59 : decode cX7_overRows 59 = .ok (.ireturn, 1) := by decide +kernel
set_option maxRecDepth 20000 in
theorem ggX7_foundWrong_X7_groups : GoodIn wsX7_foundWrong wsX7_groups := goodIn_r _ [6, 1, 18, 19, 20, 21, 22, 23, 24, 25, 26, 27, 28, 29] (by decide +kernel) (by decide +kernel)
set_option maxRecDepth 20000 in
theorem gX7_foundWrong_X7_groups : GoodIn wsX7_foundWrong (wsV RX7 170 RX7 yX7_groups wsX7_groups) := goodIn_app (goodIn_of _ (by decide +kernel)) ggX7_foundWrong_X7_groups
set_option maxRecDepth 20000 in
theorem ggX7_foundWrong_X7_ofGroup : GoodIn wsX7_foundWrong wsX7_ofGroup := goodIn_r _ [10, 1, 11, 12, 5, 13, 14, 15, 16, 17, 18, 19, 20, 21, 22, 23, 24, 25, 26, 27, 28, 29] (by decide +kernel) (by decide +kernel)
set_option maxRecDepth 20000 in
theorem gX7_foundWrong_X7_ofGroup : GoodIn wsX7_foundWrong (wsV RX7 173 RX7 yX7_ofGroup wsX7_ofGroup) := goodIn_app (goodIn_of _ (by decide +kernel)) ggX7_foundWrong_X7_ofGroup
theorem dX7_foundWrong_0 : decode cX7_foundWrong 0 = .ok (.iconst 0, 1) := by decide +kernel
theorem dX7_foundWrong_1 : decode cX7_foundWrong 1 = .ok (.istore_n 1, 1) := by decide +kernel
theorem dX7_foundWrong_2 : decode cX7_foundWrong 2 = .ok (.iconst 0, 1) := by decide +kernel
theorem dX7_foundWrong_3 : decode cX7_foundWrong 3 = .ok (.istore_n 2, 1) := by decide +kernel
theorem dX7_foundWrong_4 : decode cX7_foundWrong 4 = .ok (.iload_n 2, 1) := by decide +kernel
theorem dX7_foundWrong_5 : decode cX7_foundWrong 5 = .ok (.aload_n 0, 1) := by decide +kernel
theorem dX7_foundWrong_6 : decode cX7_foundWrong 6 = .ok (.aload_n 0, 1) := by decide +kernel
theorem dX7_foundWrong_7 : decode cX7_foundWrong 7 = .ok (.getfield 7, 3) := by decide +kernel
theorem dX7_foundWrong_10 : decode cX7_foundWrong 10 = .ok (.iconst 0, 1) := by decide +kernel
theorem dX7_foundWrong_11 : decode cX7_foundWrong 11 = .ok (.laload, 1) := by decide +kernel
theorem dX7_foundWrong_12 : decode cX7_foundWrong 12 = .ok (.l2i, 1) := by decide +kernel
theorem dX7_foundWrong_13 : decode cX7_foundWrong 13 = .ok (.invokevirtual 170, 3) := by decide +kernel
theorem dX7_foundWrong_16 : decode cX7_foundWrong 16 = .ok (.if_icmp .ge 26, 3) := by decide +kernel
theorem dX7_foundWrong_19 : decode cX7_foundWrong 19 = .ok (.iload_n 1, 1) := by decide +kernel
theorem dX7_foundWrong_20 : decode cX7_foundWrong 20 = .ok (.aload_n 0, 1) := by decide +kernel
theorem dX7_foundWrong_21 : decode cX7_foundWrong 21 = .ok (.aload_n 0, 1) := by decide +kernel
theorem dX7_foundWrong_22 : decode cX7_foundWrong 22 = .ok (.getfield 7, 3) := by decide +kernel
theorem dX7_foundWrong_25 : decode cX7_foundWrong 25 = .ok (.iconst 0, 1) := by decide +kernel
theorem dX7_foundWrong_26 : decode cX7_foundWrong 26 = .ok (.laload, 1) := by decide +kernel
theorem dX7_foundWrong_27 : decode cX7_foundWrong 27 = .ok (.l2i, 1) := by decide +kernel
theorem dX7_foundWrong_28 : decode cX7_foundWrong 28 = .ok (.iload_n 2, 1) := by decide +kernel
theorem dX7_foundWrong_29 : decode cX7_foundWrong 29 = .ok (.iconst 2, 1) := by decide +kernel
theorem dX7_foundWrong_30 : decode cX7_foundWrong 30 = .ok (.invokevirtual 173, 3) := by decide +kernel
theorem dX7_foundWrong_33 : decode cX7_foundWrong 33 = .ok (.l2i, 1) := by decide +kernel
theorem dX7_foundWrong_34 : decode cX7_foundWrong 34 = .ok (.iadd, 1) := by decide +kernel
theorem dX7_foundWrong_35 : decode cX7_foundWrong 35 = .ok (.istore_n 1, 1) := by decide +kernel
theorem dX7_foundWrong_36 : decode cX7_foundWrong 36 = .ok (.iinc 2 1, 3) := by decide +kernel
theorem dX7_foundWrong_39 : decode cX7_foundWrong 39 = .ok (.goto (-35), 3) := by decide +kernel
theorem dX7_foundWrong_42 : decode cX7_foundWrong 42 = .ok (.iload_n 1, 1) := by decide +kernel
theorem dX7_foundWrong_43 : decode cX7_foundWrong 43 = .ok (.ireturn, 1) := by decide +kernel
set_option maxRecDepth 20000 in
theorem ggX7_counted_X7_overRows : GoodIn wsX7_counted wsX7_overRows := goodIn_r _ [7, 1, 8, 9, 10, 6, 11, 12, 13, 14, 37, 38, 39, 40, 41, 42, 43, 44, 45, 46, 47, 48] (by decide +kernel) (by decide +kernel)
set_option maxRecDepth 20000 in
theorem gX7_counted_X7_overRows : GoodIn wsX7_counted (wsV RX7 180 RX7 yX7_overRows wsX7_overRows) := goodIn_app (goodIn_of _ (by decide +kernel)) ggX7_counted_X7_overRows
set_option maxRecDepth 20000 in
theorem ggX7_counted_X7_firstWrong : GoodIn wsX7_counted wsX7_firstWrong := goodIn_r _ [18, 1, 8, 9, 10, 6, 11, 12, 13, 14, 37, 38, 39, 40, 41, 42, 43, 44, 45, 46, 47, 48] (by decide +kernel) (by decide +kernel)
set_option maxRecDepth 20000 in
theorem gX7_counted_X7_firstWrong : GoodIn wsX7_counted (wsV RX7 183 RX7 yX7_firstWrong wsX7_firstWrong) := goodIn_app (goodIn_of _ (by decide +kernel)) ggX7_counted_X7_firstWrong
set_option maxRecDepth 20000 in
theorem ggX7_counted_X7_wrong : GoodIn wsX7_counted wsX7_wrong := goodIn_r _ [21, 22, 23, 6, 24, 12, 13, 14] (by decide +kernel) (by decide +kernel)
set_option maxRecDepth 20000 in
theorem gX7_counted_X7_wrong : GoodIn wsX7_counted (va_wsS RX7 62 yX7_wrong wsX7_wrong) := goodIn_app (goodIn_of _ (by decide +kernel)) ggX7_counted_X7_wrong
set_option maxRecDepth 20000 in
theorem ggX7_counted_X7_groups : GoodIn wsX7_counted wsX7_groups := goodIn_r _ [28, 1, 37, 38, 39, 40, 41, 42, 43, 44, 45, 46, 47, 48] (by decide +kernel) (by decide +kernel)
set_option maxRecDepth 20000 in
theorem gX7_counted_X7_groups : GoodIn wsX7_counted (wsV RX7 170 RX7 yX7_groups wsX7_groups) := goodIn_app (goodIn_of _ (by decide +kernel)) ggX7_counted_X7_groups
set_option maxRecDepth 20000 in
theorem ggX7_counted_X7_foundWrong : GoodIn wsX7_counted wsX7_foundWrong := goodIn_r _ [32, 1, 25, 26, 27, 6, 28, 33, 34, 35, 36, 12, 13, 14, 8, 9, 10, 11, 37, 38, 39, 40, 41, 42, 43, 44, 45, 46, 47, 48] (by decide +kernel) (by decide +kernel)
set_option maxRecDepth 20000 in
theorem gX7_counted_X7_foundWrong : GoodIn wsX7_counted (wsV RX7 187 RX7 yX7_foundWrong wsX7_foundWrong) := goodIn_app (goodIn_of _ (by decide +kernel)) ggX7_counted_X7_foundWrong
theorem dX7_counted_0 : decode cX7_counted 0 = .ok (.iload_n 1, 1) := by decide +kernel
theorem dX7_counted_1 : decode cX7_counted 1 = .ok (.iconst 3, 1) := by decide +kernel
theorem dX7_counted_2 : decode cX7_counted 2 = .ok (.if_icmp .lt 15, 3) := by decide +kernel
theorem dX7_counted_5 : decode cX7_counted 5 = .ok (.iload_n 1, 1) := by decide +kernel
theorem dX7_counted_6 : decode cX7_counted 6 = .ok (.bipush 9, 2) := by decide +kernel
theorem dX7_counted_8 : decode cX7_counted 8 = .ok (.if_icmp .eq 9, 3) := by decide +kernel
theorem dX7_counted_11 : decode cX7_counted 11 = .ok (.iload_n 1, 1) := by decide +kernel
theorem dX7_counted_12 : decode cX7_counted 12 = .ok (.bipush 10, 2) := by decide +kernel
theorem dX7_counted_14 : decode cX7_counted 14 = .ok (.if_icmp .ne 27, 3) := by decide +kernel
theorem dX7_counted_17 : decode cX7_counted 17 = .ok (.aload_n 0, 1) := by decide +kernel
theorem dX7_counted_18 : decode cX7_counted 18 = .ok (.getfield 7, 3) := by decide +kernel
theorem dX7_counted_21 : decode cX7_counted 21 = .ok (.iload_n 1, 1) := by decide +kernel
theorem dX7_counted_22 : decode cX7_counted 22 = .ok (.iconst 3, 1) := by decide +kernel
theorem dX7_counted_23 : decode cX7_counted 23 = .ok (.if_icmp .ge 9, 3) := by decide +kernel
theorem dX7_counted_26 : decode cX7_counted 26 = .ok (.iconst 2, 1) := by decide +kernel
theorem dX7_counted_27 : decode cX7_counted 27 = .ok (.iload_n 1, 1) := by decide +kernel
theorem dX7_counted_28 : decode cX7_counted 28 = .ok (.iadd, 1) := by decide +kernel
theorem dX7_counted_29 : decode cX7_counted 29 = .ok (.goto 9, 3) := by decide +kernel
theorem dX7_counted_32 : decode cX7_counted 32 = .ok (.iconst 5, 1) := by decide +kernel
theorem dX7_counted_33 : decode cX7_counted 33 = .ok (.iload_n 1, 1) := by decide +kernel
theorem dX7_counted_34 : decode cX7_counted 34 = .ok (.iadd, 1) := by decide +kernel
theorem dX7_counted_35 : decode cX7_counted 35 = .ok (.bipush 9, 2) := by decide +kernel
theorem dX7_counted_37 : decode cX7_counted 37 = .ok (.isub, 1) := by decide +kernel
theorem dX7_counted_38 : decode cX7_counted 38 = .ok (.laload, 1) := by decide +kernel
theorem dX7_counted_39 : decode cX7_counted 39 = .ok (.l2i, 1) := by decide +kernel
theorem dX7_counted_40 : decode cX7_counted 40 = .ok (.ireturn, 1) := by decide +kernel
theorem dX7_counted_41 : decode cX7_counted 41 = .ok (.iload_n 1, 1) := by decide +kernel
theorem dX7_counted_42 : decode cX7_counted 42 = .ok (.iconst 3, 1) := by decide +kernel
theorem dX7_counted_43 : decode cX7_counted 43 = .ok (.if_icmp .eq 9, 3) := by decide +kernel
theorem dX7_counted_46 : decode cX7_counted 46 = .ok (.iload_n 1, 1) := by decide +kernel
theorem dX7_counted_47 : decode cX7_counted 47 = .ok (.bipush 7, 2) := by decide +kernel
theorem dX7_counted_49 : decode cX7_counted 49 = .ok (.if_icmp .ne 9, 3) := by decide +kernel
theorem dX7_counted_52 : decode cX7_counted 52 = .ok (.aload_n 0, 1) := by decide +kernel
theorem dX7_counted_53 : decode cX7_counted 53 = .ok (.iload_n 1, 1) := by decide +kernel
theorem dX7_counted_54 : decode cX7_counted 54 = .ok (.invokevirtual 180, 3) := by decide +kernel
theorem dX7_counted_57 : decode cX7_counted 57 = .ok (.ireturn, 1) := by decide +kernel
theorem dX7_counted_58 : decode cX7_counted 58 = .ok (.iload_n 1, 1) := by decide +kernel
theorem dX7_counted_59 : decode cX7_counted 59 = .ok (.iconst 4, 1) := by decide +kernel
theorem dX7_counted_60 : decode cX7_counted 60 = .ok (.if_icmp .eq 9, 3) := by decide +kernel
theorem dX7_counted_63 : decode cX7_counted 63 = .ok (.iload_n 1, 1) := by decide +kernel
theorem dX7_counted_64 : decode cX7_counted 64 = .ok (.bipush 8, 2) := by decide +kernel
theorem dX7_counted_66 : decode cX7_counted 66 = .ok (.if_icmp .ne 23, 3) := by decide +kernel
theorem dX7_counted_69 : decode cX7_counted 69 = .ok (.iload_n 1, 1) := by decide +kernel
theorem dX7_counted_70 : decode cX7_counted 70 = .ok (.iconst 4, 1) := by decide +kernel
theorem dX7_counted_71 : decode cX7_counted 71 = .ok (.if_icmp .ne 10, 3) := by decide +kernel
theorem dX7_counted_74 : decode cX7_counted 74 = .ok (.aload_n 0, 1) := by decide +kernel
theorem dX7_counted_75 : decode cX7_counted 75 = .ok (.invokevirtual 183, 3) := by decide +kernel
theorem dX7_counted_78 : decode cX7_counted 78 = .ok (.goto 10, 3) := by decide +kernel
theorem dX7_counted_81 : decode cX7_counted 81 = .ok (.aload_n 0, 1) := by decide +kernel
theorem dX7_counted_82 : decode cX7_counted 82 = .ok (.getfield 7, 3) := by decide +kernel
theorem dX7_counted_85 : decode cX7_counted 85 = .ok (.invokestatic 62, 3) := by decide +kernel
theorem dX7_counted_88 : decode cX7_counted 88 = .ok (.ireturn, 1) := by decide +kernel
theorem dX7_counted_89 : decode cX7_counted 89 = .ok (.iload_n 1, 1) := by decide +kernel
theorem dX7_counted_90 : decode cX7_counted 90 = .ok (.iconst 5, 1) := by decide +kernel
theorem dX7_counted_91 : decode cX7_counted 91 = .ok (.if_icmp .ne 17, 3) := by decide +kernel
theorem dX7_counted_94 : decode cX7_counted 94 = .ok (.aload_n 0, 1) := by decide +kernel
theorem dX7_counted_95 : decode cX7_counted 95 = .ok (.aload_n 0, 1) := by decide +kernel
theorem dX7_counted_96 : decode cX7_counted 96 = .ok (.getfield 7, 3) := by decide +kernel
theorem dX7_counted_99 : decode cX7_counted 99 = .ok (.iconst 0, 1) := by decide +kernel
theorem dX7_counted_100 : decode cX7_counted 100 = .ok (.laload, 1) := by decide +kernel
theorem dX7_counted_101 : decode cX7_counted 101 = .ok (.l2i, 1) := by decide +kernel
theorem dX7_counted_102 : decode cX7_counted 102 = .ok (.invokevirtual 170, 3) := by decide +kernel
theorem dX7_counted_105 : decode cX7_counted 105 = .ok (.goto 20, 3) := by decide +kernel
theorem dX7_counted_108 : decode cX7_counted 108 = .ok (.iload_n 1, 1) := by decide +kernel
theorem dX7_counted_109 : decode cX7_counted 109 = .ok (.bipush 6, 2) := by decide +kernel
theorem dX7_counted_111 : decode cX7_counted 111 = .ok (.if_icmp .ne 10, 3) := by decide +kernel
theorem dX7_counted_114 : decode cX7_counted 114 = .ok (.aload_n 0, 1) := by decide +kernel
theorem dX7_counted_115 : decode cX7_counted 115 = .ok (.invokevirtual 187, 3) := by decide +kernel
theorem dX7_counted_118 : decode cX7_counted 118 = .ok (.goto 7, 3) := by decide +kernel
theorem dX7_counted_121 : decode cX7_counted 121 = .ok (.aload_n 0, 1) := by decide +kernel
theorem dX7_counted_122 : decode cX7_counted 122 = .ok (.getfield 47, 3) := by decide +kernel
theorem dX7_counted_125 : decode cX7_counted 125 = .ok (.ireturn, 1) := by decide +kernel
set_option maxRecDepth 20000 in
theorem ggX7_count_X7_in : GoodIn wsX7_count wsX7_in := goodIn_r _ [6] (by decide +kernel) (by decide +kernel)
set_option maxRecDepth 20000 in
theorem gX7_count_X7_in : GoodIn wsX7_count (va_wsS RX7 43 yX7_in wsX7_in) := goodIn_app (goodIn_of _ (by decide +kernel)) ggX7_count_X7_in
set_option maxRecDepth 20000 in
theorem ggX7_count_X7_counted : GoodIn wsX7_count wsX7_counted := goodIn_r _ [10, 11, 12, 13, 14, 15, 5, 16, 17, 18, 19, 20, 21, 22, 23, 24, 25, 26, 27, 28, 29, 30, 31, 32, 33, 34, 35, 36, 37, 38, 39, 40, 41, 42, 43, 44, 45, 50, 51, 52, 53, 54, 55, 56, 57, 58, 59, 60, 61] (by decide +kernel) (by decide +kernel)
set_option maxRecDepth 20000 in
theorem gX7_count_X7_counted : GoodIn wsX7_count (wsV RX7 192 RX7 yX7_counted wsX7_counted) := goodIn_app (goodIn_of _ (by decide +kernel)) ggX7_count_X7_counted
set_option maxRecDepth 20000 in
theorem ggX7_count_X7_fails : GoodIn wsX7_count wsX7_fails := goodIn_r _ [49, 1, 50, 51, 52, 53, 54, 55, 56, 57, 58, 59, 60, 61] (by decide +kernel) (by decide +kernel)
set_option maxRecDepth 20000 in
theorem gX7_count_X7_fails : GoodIn wsX7_count (wsV RX7 50 RX7 yX7_fails wsX7_fails) := goodIn_app (goodIn_of _ (by decide +kernel)) ggX7_count_X7_fails
theorem dX7_count_0 : decode cX7_count 0 = .ok (.aload_n 0, 1) := by decide +kernel
theorem dX7_count_1 : decode cX7_count 1 = .ok (.iconst 0, 1) := by decide +kernel
theorem dX7_count_2 : decode cX7_count 2 = .ok (.putfield 39, 3) := by decide +kernel
theorem dX7_count_5 : decode cX7_count 5 = .ok (.iload_n 1, 1) := by decide +kernel
theorem dX7_count_6 : decode cX7_count 6 = .ok (.i2l, 1) := by decide +kernel
theorem dX7_count_7 : decode cX7_count 7 = .ok (.lconst 0, 1) := by decide +kernel
theorem dX7_count_8 : decode cX7_count 8 = .ok (.ldc2_w 190, 3) := by decide +kernel
theorem dX7_count_11 : decode cX7_count 11 = .ok (.invokestatic 43, 3) := by decide +kernel
theorem dX7_count_14 : decode cX7_count 14 = .ok (.ifCond .eq 11, 3) := by decide +kernel
theorem dX7_count_17 : decode cX7_count 17 = .ok (.aload_n 0, 1) := by decide +kernel
theorem dX7_count_18 : decode cX7_count 18 = .ok (.iload_n 1, 1) := by decide +kernel
theorem dX7_count_19 : decode cX7_count 19 = .ok (.invokevirtual 192, 3) := by decide +kernel
theorem dX7_count_22 : decode cX7_count 22 = .ok (.goto 8, 3) := by decide +kernel
theorem dX7_count_25 : decode cX7_count 25 = .ok (.aload_n 0, 1) := by decide +kernel
theorem dX7_count_26 : decode cX7_count 26 = .ok (.iconst 1, 1) := by decide +kernel
theorem dX7_count_27 : decode cX7_count 27 = .ok (.invokevirtual 50, 3) := by decide +kernel
theorem dX7_count_30 : decode cX7_count 30 = .ok (.ireturn, 1) := by decide +kernel
set_option maxRecDepth 20000 in
theorem ggX7_setting_X7_in : GoodIn wsX7_setting wsX7_in := goodIn_r _ [6] (by decide +kernel) (by decide +kernel)
set_option maxRecDepth 20000 in
theorem gX7_setting_X7_in : GoodIn wsX7_setting (va_wsS RX7 43 yX7_in wsX7_in) := goodIn_app (goodIn_of _ (by decide +kernel)) ggX7_setting_X7_in
set_option maxRecDepth 20000 in
theorem ggX7_setting_X7_fails : GoodIn wsX7_setting wsX7_fails := goodIn_r _ [10, 1, 11, 12, 13, 14, 15, 16, 17, 18, 19, 20, 21, 22] (by decide +kernel) (by decide +kernel)
set_option maxRecDepth 20000 in
theorem gX7_setting_X7_fails : GoodIn wsX7_setting (wsV RX7 50 RX7 yX7_fails wsX7_fails) := goodIn_app (goodIn_of _ (by decide +kernel)) ggX7_setting_X7_fails
theorem dX7_setting_0 : decode cX7_setting 0 = .ok (.aload_n 0, 1) := by decide +kernel
theorem dX7_setting_1 : decode cX7_setting 1 = .ok (.iconst 0, 1) := by decide +kernel
theorem dX7_setting_2 : decode cX7_setting 2 = .ok (.putfield 39, 3) := by decide +kernel
theorem dX7_setting_5 : decode cX7_setting 5 = .ok (.iload_n 1, 1) := by decide +kernel
theorem dX7_setting_6 : decode cX7_setting 6 = .ok (.i2l, 1) := by decide +kernel
theorem dX7_setting_7 : decode cX7_setting 7 = .ok (.lconst 0, 1) := by decide +kernel
theorem dX7_setting_8 : decode cX7_setting 8 = .ok (.lconst 1, 1) := by decide +kernel
theorem dX7_setting_9 : decode cX7_setting 9 = .ok (.invokestatic 43, 3) := by decide +kernel
theorem dX7_setting_12 : decode cX7_setting 12 = .ok (.ifCond .eq 13, 3) := by decide +kernel
theorem dX7_setting_15 : decode cX7_setting 15 = .ok (.aload_n 0, 1) := by decide +kernel
theorem dX7_setting_16 : decode cX7_setting 16 = .ok (.getfield 7, 3) := by decide +kernel
theorem dX7_setting_19 : decode cX7_setting 19 = .ok (.iload_n 1, 1) := by decide +kernel
theorem dX7_setting_20 : decode cX7_setting 20 = .ok (.laload, 1) := by decide +kernel
theorem dX7_setting_21 : decode cX7_setting 21 = .ok (.l2i, 1) := by decide +kernel
theorem dX7_setting_22 : decode cX7_setting 22 = .ok (.goto 8, 3) := by decide +kernel
theorem dX7_setting_25 : decode cX7_setting 25 = .ok (.aload_n 0, 1) := by decide +kernel
theorem dX7_setting_26 : decode cX7_setting 26 = .ok (.iconst 1, 1) := by decide +kernel
theorem dX7_setting_27 : decode cX7_setting 27 = .ok (.invokevirtual 50, 3) := by decide +kernel
theorem dX7_setting_30 : decode cX7_setting 30 = .ok (.ireturn, 1) := by decide +kernel
set_option maxRecDepth 20000 in
theorem ggX7_guessedBy_X7_error : GoodIn wsX7_guessedBy wsX7_error := goodIn_r _ [7, 1, 8, 9, 6, 10, 11, 12, 13, 14, 15, 16, 17, 18, 19, 20, 21, 22] (by decide +kernel) (by decide +kernel)
set_option maxRecDepth 20000 in
theorem gX7_guessedBy_X7_error : GoodIn wsX7_guessedBy (wsV RX7 159 RX7 yX7_error wsX7_error) := goodIn_app (goodIn_of _ (by decide +kernel)) ggX7_guessedBy_X7_error
theorem dX7_guessedBy_0 : decode cX7_guessedBy 0 = .ok (.aload_n 0, 1) := by decide +kernel
theorem dX7_guessedBy_1 : decode cX7_guessedBy 1 = .ok (.getfield 7, 3) := by decide +kernel
theorem dX7_guessedBy_4 : decode cX7_guessedBy 4 = .ok (.iconst 4, 1) := by decide +kernel
theorem dX7_guessedBy_5 : decode cX7_guessedBy 5 = .ok (.laload, 1) := by decide +kernel
theorem dX7_guessedBy_6 : decode cX7_guessedBy 6 = .ok (.l2i, 1) := by decide +kernel
theorem dX7_guessedBy_7 : decode cX7_guessedBy 7 = .ok (.iload_n 1, 1) := by decide +kernel
theorem dX7_guessedBy_8 : decode cX7_guessedBy 8 = .ok (.isub, 1) := by decide +kernel
theorem dX7_guessedBy_9 : decode cX7_guessedBy 9 = .ok (.istore_n 2, 1) := by decide +kernel
theorem dX7_guessedBy_10 : decode cX7_guessedBy 10 = .ok (.iconst 0, 1) := by decide +kernel
theorem dX7_guessedBy_11 : decode cX7_guessedBy 11 = .ok (.istore_n 3, 1) := by decide +kernel
theorem dX7_guessedBy_12 : decode cX7_guessedBy 12 = .ok (.iload_n 3, 1) := by decide +kernel
theorem dX7_guessedBy_13 : decode cX7_guessedBy 13 = .ok (.iload_n 2, 1) := by decide +kernel
theorem dX7_guessedBy_14 : decode cX7_guessedBy 14 = .ok (.if_icmp .ge 22, 3) := by decide +kernel
theorem dX7_guessedBy_17 : decode cX7_guessedBy 17 = .ok (.aload_n 0, 1) := by decide +kernel
theorem dX7_guessedBy_18 : decode cX7_guessedBy 18 = .ok (.getfield 26, 3) := by decide +kernel
theorem dX7_guessedBy_21 : decode cX7_guessedBy 21 = .ok (.iload_n 3, 1) := by decide +kernel
theorem dX7_guessedBy_22 : decode cX7_guessedBy 22 = .ok (.aload_n 0, 1) := by decide +kernel
theorem dX7_guessedBy_23 : decode cX7_guessedBy 23 = .ok (.iload_n 1, 1) := by decide +kernel
theorem dX7_guessedBy_24 : decode cX7_guessedBy 24 = .ok (.iload_n 3, 1) := by decide +kernel
theorem dX7_guessedBy_25 : decode cX7_guessedBy 25 = .ok (.iadd, 1) := by decide +kernel
theorem dX7_guessedBy_26 : decode cX7_guessedBy 26 = .ok (.invokevirtual 159, 3) := by decide +kernel
theorem dX7_guessedBy_29 : decode cX7_guessedBy 29 = .ok (.lastore, 1) := by decide +kernel
theorem dX7_guessedBy_30 : decode cX7_guessedBy 30 = .ok (.iinc 3 1, 3) := by decide +kernel
theorem dX7_guessedBy_33 : decode cX7_guessedBy 33 = .ok (.goto (-21), 3) := by decide +kernel
theorem dX7_guessedBy_36 : decode cX7_guessedBy 36 = .ok (.iconst 0, 1) := by decide +kernel
theorem dX7_guessedBy_37 : decode cX7_guessedBy 37 = .ok (.istore_n 3, 1) := by decide +kernel
theorem dX7_guessedBy_38 : decode cX7_guessedBy 38 = .ok (.iload_n 3, 1) := by decide +kernel
theorem dX7_guessedBy_39 : decode cX7_guessedBy 39 = .ok (.bipush 6, 2) := by decide +kernel
theorem dX7_guessedBy_41 : decode cX7_guessedBy 41 = .ok (.if_icmp .ge 125, 3) := by decide +kernel
theorem dX7_guessedBy_44 : decode cX7_guessedBy 44 = .ok (.iload_n 2, 1) := by decide +kernel
theorem dX7_guessedBy_45 : decode cX7_guessedBy 45 = .ok (.iconst 2, 1) := by decide +kernel
theorem dX7_guessedBy_46 : decode cX7_guessedBy 46 = .ok (.if_icmp .lt 120, 3) := by decide +kernel
theorem dX7_guessedBy_49 : decode cX7_guessedBy 49 = .ok (.aload_n 0, 1) := by decide +kernel
theorem dX7_guessedBy_50 : decode cX7_guessedBy 50 = .ok (.getfield 26, 3) := by decide +kernel
theorem dX7_guessedBy_53 : decode cX7_guessedBy 53 = .ok (.iconst 0, 1) := by decide +kernel
theorem dX7_guessedBy_54 : decode cX7_guessedBy 54 = .ok (.laload, 1) := by decide +kernel
theorem dX7_guessedBy_55 : decode cX7_guessedBy 55 = .ok (.lconst 0, 1) := by decide +kernel
theorem dX7_guessedBy_56 : decode cX7_guessedBy 56 = .ok (.lcmp, 1) := by decide +kernel
theorem dX7_guessedBy_57 : decode cX7_guessedBy 57 = .ok (.ifCond .eq 7, 3) := by decide +kernel
theorem dX7_guessedBy_60 : decode cX7_guessedBy 60 = .ok (.iconst 1, 1) := by decide +kernel
theorem dX7_guessedBy_61 : decode cX7_guessedBy 61 = .ok (.goto 4, 3) := by decide +kernel
theorem dX7_guessedBy_64 : decode cX7_guessedBy 64 = .ok (.iconst 0, 1) := by decide +kernel
theorem dX7_guessedBy_65 : decode cX7_guessedBy 65 = .ok (.istore 4, 2) := by decide +kernel
theorem dX7_guessedBy_67 : decode cX7_guessedBy 67 = .ok (.iconst 1, 1) := by decide +kernel
theorem dX7_guessedBy_68 : decode cX7_guessedBy 68 = .ok (.istore 5, 2) := by decide +kernel
theorem dX7_guessedBy_70 : decode cX7_guessedBy 70 = .ok (.iload 5, 2) := by decide +kernel
theorem dX7_guessedBy_72 : decode cX7_guessedBy 72 = .ok (.iload_n 2, 1) := by decide +kernel
theorem dX7_guessedBy_73 : decode cX7_guessedBy 73 = .ok (.if_icmp .ge 38, 3) := by decide +kernel
theorem dX7_guessedBy_76 : decode cX7_guessedBy 76 = .ok (.iload 4, 2) := by decide +kernel
theorem dX7_guessedBy_78 : decode cX7_guessedBy 78 = .ok (.ifCond .eq 24, 3) := by decide +kernel
theorem dX7_guessedBy_81 : decode cX7_guessedBy 81 = .ok (.aload_n 0, 1) := by decide +kernel
theorem dX7_guessedBy_82 : decode cX7_guessedBy 82 = .ok (.getfield 26, 3) := by decide +kernel
theorem dX7_guessedBy_85 : decode cX7_guessedBy 85 = .ok (.iload 5, 2) := by decide +kernel
theorem dX7_guessedBy_87 : decode cX7_guessedBy 87 = .ok (.laload, 1) := by decide +kernel
theorem dX7_guessedBy_88 : decode cX7_guessedBy 88 = .ok (.aload_n 0, 1) := by decide +kernel
theorem dX7_guessedBy_89 : decode cX7_guessedBy 89 = .ok (.getfield 26, 3) := by decide +kernel
theorem dX7_guessedBy_92 : decode cX7_guessedBy 92 = .ok (.iconst 0, 1) := by decide +kernel
theorem dX7_guessedBy_93 : decode cX7_guessedBy 93 = .ok (.laload, 1) := by decide +kernel
theorem dX7_guessedBy_94 : decode cX7_guessedBy 94 = .ok (.lcmp, 1) := by decide +kernel
theorem dX7_guessedBy_95 : decode cX7_guessedBy 95 = .ok (.ifCond .ne 7, 3) := by decide +kernel
theorem dX7_guessedBy_98 : decode cX7_guessedBy 98 = .ok (.iconst 1, 1) := by decide +kernel
theorem dX7_guessedBy_99 : decode cX7_guessedBy 99 = .ok (.goto 4, 3) := by decide +kernel
theorem dX7_guessedBy_102 : decode cX7_guessedBy 102 = .ok (.iconst 0, 1) := by decide +kernel
theorem dX7_guessedBy_103 : decode cX7_guessedBy 103 = .ok (.istore 4, 2) := by decide +kernel
theorem dX7_guessedBy_105 : decode cX7_guessedBy 105 = .ok (.iinc 5 1, 3) := by decide +kernel
theorem dX7_guessedBy_108 : decode cX7_guessedBy 108 = .ok (.goto (-38), 3) := by decide +kernel
theorem dX7_guessedBy_111 : decode cX7_guessedBy 111 = .ok (.iload 4, 2) := by decide +kernel
theorem dX7_guessedBy_113 : decode cX7_guessedBy 113 = .ok (.ifCond .eq 5, 3) := by decide +kernel
theorem dX7_guessedBy_116 : decode cX7_guessedBy 116 = .ok (.iload_n 3, 1) := by decide +kernel
theorem dX7_guessedBy_117 : decode cX7_guessedBy 117 = .ok (.ireturn, 1) := by decide +kernel
theorem dX7_guessedBy_118 : decode cX7_guessedBy 118 = .ok (.iinc 2 (-1), 3) := by decide +kernel
theorem dX7_guessedBy_121 : decode cX7_guessedBy 121 = .ok (.iconst 0, 1) := by decide +kernel
theorem dX7_guessedBy_122 : decode cX7_guessedBy 122 = .ok (.istore 5, 2) := by decide +kernel
theorem dX7_guessedBy_124 : decode cX7_guessedBy 124 = .ok (.iload 5, 2) := by decide +kernel
theorem dX7_guessedBy_126 : decode cX7_guessedBy 126 = .ok (.iload_n 2, 1) := by decide +kernel
theorem dX7_guessedBy_127 : decode cX7_guessedBy 127 = .ok (.if_icmp .ge 33, 3) := by decide +kernel
theorem dX7_guessedBy_130 : decode cX7_guessedBy 130 = .ok (.aload_n 0, 1) := by decide +kernel
theorem dX7_guessedBy_131 : decode cX7_guessedBy 131 = .ok (.getfield 26, 3) := by decide +kernel
theorem dX7_guessedBy_134 : decode cX7_guessedBy 134 = .ok (.iload 5, 2) := by decide +kernel
theorem dX7_guessedBy_136 : decode cX7_guessedBy 136 = .ok (.aload_n 0, 1) := by decide +kernel
theorem dX7_guessedBy_137 : decode cX7_guessedBy 137 = .ok (.getfield 26, 3) := by decide +kernel
theorem dX7_guessedBy_140 : decode cX7_guessedBy 140 = .ok (.iload 5, 2) := by decide +kernel
theorem dX7_guessedBy_142 : decode cX7_guessedBy 142 = .ok (.iconst 1, 1) := by decide +kernel
theorem dX7_guessedBy_143 : decode cX7_guessedBy 143 = .ok (.iadd, 1) := by decide +kernel
theorem dX7_guessedBy_144 : decode cX7_guessedBy 144 = .ok (.laload, 1) := by decide +kernel
theorem dX7_guessedBy_145 : decode cX7_guessedBy 145 = .ok (.aload_n 0, 1) := by decide +kernel
theorem dX7_guessedBy_146 : decode cX7_guessedBy 146 = .ok (.getfield 26, 3) := by decide +kernel
theorem dX7_guessedBy_149 : decode cX7_guessedBy 149 = .ok (.iload 5, 2) := by decide +kernel
theorem dX7_guessedBy_151 : decode cX7_guessedBy 151 = .ok (.laload, 1) := by decide +kernel
theorem dX7_guessedBy_152 : decode cX7_guessedBy 152 = .ok (.lsub, 1) := by decide +kernel
theorem dX7_guessedBy_153 : decode cX7_guessedBy 153 = .ok (.lastore, 1) := by decide +kernel
theorem dX7_guessedBy_154 : decode cX7_guessedBy 154 = .ok (.iinc 5 1, 3) := by decide +kernel
theorem dX7_guessedBy_157 : decode cX7_guessedBy 157 = .ok (.goto (-33), 3) := by decide +kernel
theorem dX7_guessedBy_160 : decode cX7_guessedBy 160 = .ok (.iinc 3 1, 3) := by decide +kernel
theorem dX7_guessedBy_163 : decode cX7_guessedBy 163 = .ok (.goto (-125), 3) := by decide +kernel
theorem dX7_guessedBy_166 : decode cX7_guessedBy 166 = .ok (.iconst (-1), 1) := by decide +kernel
theorem dX7_guessedBy_167 : decode cX7_guessedBy 167 = .ok (.ireturn, 1) := by decide +kernel
set_option maxRecDepth 20000 in
theorem ggX7_guessed_X7_firstWrong : GoodIn wsX7_guessed wsX7_firstWrong := goodIn_r _ [7, 8, 9, 10, 11, 6, 12, 13, 14, 15, 20, 21, 22, 23, 24, 25, 26, 27, 28, 29, 30, 31] (by decide +kernel) (by decide +kernel)
set_option maxRecDepth 20000 in
theorem gX7_guessed_X7_firstWrong : GoodIn wsX7_guessed (wsV RX7 183 RX7 yX7_firstWrong wsX7_firstWrong) := goodIn_app (goodIn_of _ (by decide +kernel)) ggX7_guessed_X7_firstWrong
set_option maxRecDepth 20000 in
theorem ggX7_guessed_X7_guessedBy : GoodIn wsX7_guessed wsX7_guessedBy := goodIn_r _ [19, 8, 2, 9, 10, 11, 6, 12, 13, 14, 15, 20, 21, 22, 23, 24, 25, 26, 27, 28, 29, 30, 31] (by decide +kernel) (by decide +kernel)
set_option maxRecDepth 20000 in
theorem gX7_guessed_X7_guessedBy : GoodIn wsX7_guessed (wsV RX7 195 RX7 yX7_guessedBy wsX7_guessedBy) := goodIn_app (goodIn_of _ (by decide +kernel)) ggX7_guessed_X7_guessedBy
theorem dX7_guessed_0 : decode cX7_guessed 0 = .ok (.aload_n 0, 1) := by decide +kernel
theorem dX7_guessed_1 : decode cX7_guessed 1 = .ok (.invokevirtual 183, 3) := by decide +kernel
theorem dX7_guessed_4 : decode cX7_guessed 4 = .ok (.istore_n 2, 1) := by decide +kernel
theorem dX7_guessed_5 : decode cX7_guessed 5 = .ok (.iload_n 2, 1) := by decide +kernel
theorem dX7_guessed_6 : decode cX7_guessed 6 = .ok (.iconst (-1), 1) := by decide +kernel
theorem dX7_guessed_7 : decode cX7_guessed 7 = .ok (.if_icmp .ne 7, 3) := by decide +kernel
theorem dX7_guessed_10 : decode cX7_guessed 10 = .ok (.iconst (-1), 1) := by decide +kernel
theorem dX7_guessed_11 : decode cX7_guessed 11 = .ok (.goto 8, 3) := by decide +kernel
theorem dX7_guessed_14 : decode cX7_guessed 14 = .ok (.aload_n 0, 1) := by decide +kernel
theorem dX7_guessed_15 : decode cX7_guessed 15 = .ok (.iload_n 2, 1) := by decide +kernel
theorem dX7_guessed_16 : decode cX7_guessed 16 = .ok (.invokevirtual 195, 3) := by decide +kernel
theorem dX7_guessed_19 : decode cX7_guessed 19 = .ok (.istore_n 3, 1) := by decide +kernel
theorem dX7_guessed_20 : decode cX7_guessed 20 = .ok (.iload_n 3, 1) := by decide +kernel
theorem dX7_guessed_21 : decode cX7_guessed 21 = .ok (.iconst (-1), 1) := by decide +kernel
theorem dX7_guessed_22 : decode cX7_guessed 22 = .ok (.if_icmp .ne 16, 3) := by decide +kernel
theorem dX7_guessed_25 : decode cX7_guessed 25 = .ok (.iload_n 1, 1) := by decide +kernel
theorem dX7_guessed_26 : decode cX7_guessed 26 = .ok (.iconst 1, 1) := by decide +kernel
theorem dX7_guessed_27 : decode cX7_guessed 27 = .ok (.if_icmp .ne 7, 3) := by decide +kernel
theorem dX7_guessed_30 : decode cX7_guessed 30 = .ok (.lconst 0, 1) := by decide +kernel
theorem dX7_guessed_31 : decode cX7_guessed 31 = .ok (.goto 6, 3) := by decide +kernel
theorem dX7_guessed_34 : decode cX7_guessed 34 = .ok (.ldc2_w 198, 3) := by decide +kernel
theorem dX7_guessed_37 : decode cX7_guessed 37 = .ok (.lreturn, 1) := by decide +kernel
theorem dX7_guessed_38 : decode cX7_guessed 38 = .ok (.iload_n 1, 1) := by decide +kernel
theorem dX7_guessed_39 : decode cX7_guessed 39 = .ok (.ifCond .ne 8, 3) := by decide +kernel
theorem dX7_guessed_42 : decode cX7_guessed 42 = .ok (.iload_n 3, 1) := by decide +kernel
theorem dX7_guessed_43 : decode cX7_guessed 43 = .ok (.i2l, 1) := by decide +kernel
theorem dX7_guessed_44 : decode cX7_guessed 44 = .ok (.goto 21, 3) := by decide +kernel
theorem dX7_guessed_47 : decode cX7_guessed 47 = .ok (.iload_n 1, 1) := by decide +kernel
theorem dX7_guessed_48 : decode cX7_guessed 48 = .ok (.iconst 1, 1) := by decide +kernel
theorem dX7_guessed_49 : decode cX7_guessed 49 = .ok (.if_icmp .ne 12, 3) := by decide +kernel
theorem dX7_guessed_52 : decode cX7_guessed 52 = .ok (.aload_n 0, 1) := by decide +kernel
theorem dX7_guessed_53 : decode cX7_guessed 53 = .ok (.getfield 26, 3) := by decide +kernel
theorem dX7_guessed_56 : decode cX7_guessed 56 = .ok (.iconst 0, 1) := by decide +kernel
theorem dX7_guessed_57 : decode cX7_guessed 57 = .ok (.laload, 1) := by decide +kernel
theorem dX7_guessed_58 : decode cX7_guessed 58 = .ok (.goto 7, 3) := by decide +kernel
theorem dX7_guessed_61 : decode cX7_guessed 61 = .ok (.iload_n 2, 1) := by decide +kernel
theorem dX7_guessed_62 : decode cX7_guessed 62 = .ok (.iload_n 3, 1) := by decide +kernel
theorem dX7_guessed_63 : decode cX7_guessed 63 = .ok (.isub, 1) := by decide +kernel
theorem dX7_guessed_64 : decode cX7_guessed 64 = .ok (.i2l, 1) := by decide +kernel
theorem dX7_guessed_65 : decode cX7_guessed 65 = .ok (.lreturn, 1) := by decide +kernel
set_option maxRecDepth 20000 in
theorem ggX7_guess_X7_in : GoodIn wsX7_guess wsX7_in := goodIn_r _ [6] (by decide +kernel) (by decide +kernel)
set_option maxRecDepth 20000 in
theorem gX7_guess_X7_in : GoodIn wsX7_guess (va_wsS RX7 43 yX7_in wsX7_in) := goodIn_app (goodIn_of _ (by decide +kernel)) ggX7_guess_X7_in
set_option maxRecDepth 20000 in
theorem ggX7_guess_X7_guessed : GoodIn wsX7_guess wsX7_guessed := goodIn_r _ [10, 11, 12, 13, 14, 15, 5, 16, 17, 18, 19, 20, 21, 22, 23, 24, 25, 26, 27, 28, 33, 34, 35, 36, 37, 38, 39, 40, 41, 42, 43, 44] (by decide +kernel) (by decide +kernel)
set_option maxRecDepth 20000 in
theorem gX7_guess_X7_guessed : GoodIn wsX7_guess (wsV RX7 200 RX7 yX7_guessed wsX7_guessed) := goodIn_app (goodIn_of _ (by decide +kernel)) ggX7_guess_X7_guessed
set_option maxRecDepth 20000 in
theorem ggX7_guess_X7_fails : GoodIn wsX7_guess wsX7_fails := goodIn_r _ [32, 1, 33, 34, 35, 36, 37, 38, 39, 40, 41, 42, 43, 44] (by decide +kernel) (by decide +kernel)
set_option maxRecDepth 20000 in
theorem gX7_guess_X7_fails : GoodIn wsX7_guess (wsV RX7 50 RX7 yX7_fails wsX7_fails) := goodIn_app (goodIn_of _ (by decide +kernel)) ggX7_guess_X7_fails
theorem dX7_guess_0 : decode cX7_guess 0 = .ok (.aload_n 0, 1) := by decide +kernel
theorem dX7_guess_1 : decode cX7_guess 1 = .ok (.iconst 0, 1) := by decide +kernel
theorem dX7_guess_2 : decode cX7_guess 2 = .ok (.putfield 39, 3) := by decide +kernel
theorem dX7_guess_5 : decode cX7_guess 5 = .ok (.iload_n 1, 1) := by decide +kernel
theorem dX7_guess_6 : decode cX7_guess 6 = .ok (.i2l, 1) := by decide +kernel
theorem dX7_guess_7 : decode cX7_guess 7 = .ok (.lconst 0, 1) := by decide +kernel
theorem dX7_guess_8 : decode cX7_guess 8 = .ok (.ldc2_w 33, 3) := by decide +kernel
theorem dX7_guess_11 : decode cX7_guess 11 = .ok (.invokestatic 43, 3) := by decide +kernel
theorem dX7_guess_14 : decode cX7_guess 14 = .ok (.ifCond .eq 11, 3) := by decide +kernel
theorem dX7_guess_17 : decode cX7_guess 17 = .ok (.aload_n 0, 1) := by decide +kernel
theorem dX7_guess_18 : decode cX7_guess 18 = .ok (.iload_n 1, 1) := by decide +kernel
theorem dX7_guess_19 : decode cX7_guess 19 = .ok (.invokevirtual 200, 3) := by decide +kernel
theorem dX7_guess_22 : decode cX7_guess 22 = .ok (.goto 9, 3) := by decide +kernel
theorem dX7_guess_25 : decode cX7_guess 25 = .ok (.aload_n 0, 1) := by decide +kernel
theorem dX7_guess_26 : decode cX7_guess 26 = .ok (.iconst 1, 1) := by decide +kernel
theorem dX7_guess_27 : decode cX7_guess 27 = .ok (.invokevirtual 50, 3) := by decide +kernel
theorem dX7_guess_30 : decode cX7_guess 30 = .ok (.i2l, 1) := by decide +kernel
theorem dX7_guess_31 : decode cX7_guess 31 = .ok (.lreturn, 1) := by decide +kernel
set_option maxRecDepth 20000 in
theorem ggX7_byPrinting_X7_right : GoodIn wsX7_byPrinting wsX7_right := goodIn_r _ [6] (by decide +kernel) (by decide +kernel)
set_option maxRecDepth 20000 in
theorem gX7_byPrinting_X7_right : GoodIn wsX7_byPrinting (va_wsS RX7 54 yX7_right wsX7_right) := goodIn_app (goodIn_of _ (by decide +kernel)) ggX7_byPrinting_X7_right
set_option maxRecDepth 20000 in
theorem ggX7_byPrinting_X7_rows : GoodIn wsX7_byPrinting wsX7_rows := goodIn_r _ [9, 10, 11, 5, 12, 13] (by decide +kernel) (by decide +kernel)
set_option maxRecDepth 20000 in
theorem gX7_byPrinting_X7_rows : GoodIn wsX7_byPrinting (va_wsS RX7 71 yX7_rows wsX7_rows) := goodIn_app (goodIn_of _ (by decide +kernel)) ggX7_byPrinting_X7_rows
theorem dX7_byPrinting_0 : decode cX7_byPrinting 0 = .ok (.iconst 0, 1) := by decide +kernel
theorem dX7_byPrinting_1 : decode cX7_byPrinting 1 = .ok (.istore_n 3, 1) := by decide +kernel
theorem dX7_byPrinting_2 : decode cX7_byPrinting 2 = .ok (.iload_n 3, 1) := by decide +kernel
theorem dX7_byPrinting_3 : decode cX7_byPrinting 3 = .ok (.bipush 103, 2) := by decide +kernel
theorem dX7_byPrinting_5 : decode cX7_byPrinting 5 = .ok (.if_icmp .ge 21, 3) := by decide +kernel
theorem dX7_byPrinting_8 : decode cX7_byPrinting 8 = .ok (.aload_n 0, 1) := by decide +kernel
theorem dX7_byPrinting_9 : decode cX7_byPrinting 9 = .ok (.getfield 13, 3) := by decide +kernel
theorem dX7_byPrinting_12 : decode cX7_byPrinting 12 = .ok (.iload_n 3, 1) := by decide +kernel
theorem dX7_byPrinting_13 : decode cX7_byPrinting 13 = .ok (.aload_n 0, 1) := by decide +kernel
theorem dX7_byPrinting_14 : decode cX7_byPrinting 14 = .ok (.getfield 7, 3) := by decide +kernel
theorem dX7_byPrinting_17 : decode cX7_byPrinting 17 = .ok (.iload_n 3, 1) := by decide +kernel
theorem dX7_byPrinting_18 : decode cX7_byPrinting 18 = .ok (.laload, 1) := by decide +kernel
theorem dX7_byPrinting_19 : decode cX7_byPrinting 19 = .ok (.lastore, 1) := by decide +kernel
theorem dX7_byPrinting_20 : decode cX7_byPrinting 20 = .ok (.iinc 3 1, 3) := by decide +kernel
theorem dX7_byPrinting_23 : decode cX7_byPrinting 23 = .ok (.goto (-21), 3) := by decide +kernel
theorem dX7_byPrinting_26 : decode cX7_byPrinting 26 = .ok (.lconst 0, 1) := by decide +kernel
theorem dX7_byPrinting_27 : decode cX7_byPrinting 27 = .ok (.lstore_n 3, 1) := by decide +kernel
theorem dX7_byPrinting_28 : decode cX7_byPrinting 28 = .ok (.iconst 0, 1) := by decide +kernel
theorem dX7_byPrinting_29 : decode cX7_byPrinting 29 = .ok (.istore 5, 2) := by decide +kernel
theorem dX7_byPrinting_31 : decode cX7_byPrinting 31 = .ok (.iconst 0, 1) := by decide +kernel
theorem dX7_byPrinting_32 : decode cX7_byPrinting 32 = .ok (.istore 6, 2) := by decide +kernel
theorem dX7_byPrinting_34 : decode cX7_byPrinting 34 = .ok (.iconst 0, 1) := by decide +kernel
theorem dX7_byPrinting_35 : decode cX7_byPrinting 35 = .ok (.istore 7, 2) := by decide +kernel
theorem dX7_byPrinting_37 : decode cX7_byPrinting 37 = .ok (.iload 7, 2) := by decide +kernel
theorem dX7_byPrinting_39 : decode cX7_byPrinting 39 = .ok (.iload_n 1, 1) := by decide +kernel
theorem dX7_byPrinting_40 : decode cX7_byPrinting 40 = .ok (.if_icmp .ge 58, 3) := by decide +kernel
theorem dX7_byPrinting_43 : decode cX7_byPrinting 43 = .ok (.aload_n 0, 1) := by decide +kernel
theorem dX7_byPrinting_44 : decode cX7_byPrinting 44 = .ok (.getfield 13, 3) := by decide +kernel
theorem dX7_byPrinting_47 : decode cX7_byPrinting 47 = .ok (.bipush 7, 2) := by decide +kernel
theorem dX7_byPrinting_49 : decode cX7_byPrinting 49 = .ok (.laload, 1) := by decide +kernel
theorem dX7_byPrinting_50 : decode cX7_byPrinting 50 = .ok (.lstore_n 3, 1) := by decide +kernel
theorem dX7_byPrinting_51 : decode cX7_byPrinting 51 = .ok (.iload 6, 2) := by decide +kernel
theorem dX7_byPrinting_53 : decode cX7_byPrinting 53 = .ok (.lload_n 3, 1) := by decide +kernel
theorem dX7_byPrinting_54 : decode cX7_byPrinting 54 = .ok (.aload_n 0, 1) := by decide +kernel
theorem dX7_byPrinting_55 : decode cX7_byPrinting 55 = .ok (.getfield 13, 3) := by decide +kernel
theorem dX7_byPrinting_58 : decode cX7_byPrinting 58 = .ok (.aload_n 0, 1) := by decide +kernel
theorem dX7_byPrinting_59 : decode cX7_byPrinting 59 = .ok (.getfield 13, 3) := by decide +kernel
theorem dX7_byPrinting_62 : decode cX7_byPrinting 62 = .ok (.iconst 4, 1) := by decide +kernel
theorem dX7_byPrinting_63 : decode cX7_byPrinting 63 = .ok (.laload, 1) := by decide +kernel
theorem dX7_byPrinting_64 : decode cX7_byPrinting 64 = .ok (.l2i, 1) := by decide +kernel
theorem dX7_byPrinting_65 : decode cX7_byPrinting 65 = .ok (.invokestatic 54, 3) := by decide +kernel
theorem dX7_byPrinting_68 : decode cX7_byPrinting 68 = .ok (.lcmp, 1) := by decide +kernel
theorem dX7_byPrinting_69 : decode cX7_byPrinting 69 = .ok (.ifCond .ne 7, 3) := by decide +kernel
theorem dX7_byPrinting_72 : decode cX7_byPrinting 72 = .ok (.iconst 0, 1) := by decide +kernel
theorem dX7_byPrinting_73 : decode cX7_byPrinting 73 = .ok (.goto 4, 3) := by decide +kernel
theorem dX7_byPrinting_76 : decode cX7_byPrinting 76 = .ok (.iconst 1, 1) := by decide +kernel
theorem dX7_byPrinting_77 : decode cX7_byPrinting 77 = .ok (.iadd, 1) := by decide +kernel
theorem dX7_byPrinting_78 : decode cX7_byPrinting 78 = .ok (.istore 6, 2) := by decide +kernel
theorem dX7_byPrinting_80 : decode cX7_byPrinting 80 = .ok (.iload 5, 2) := by decide +kernel
theorem dX7_byPrinting_82 : decode cX7_byPrinting 82 = .ok (.aload_n 0, 1) := by decide +kernel
theorem dX7_byPrinting_83 : decode cX7_byPrinting 83 = .ok (.getfield 13, 3) := by decide +kernel
theorem dX7_byPrinting_86 : decode cX7_byPrinting 86 = .ok (.invokestatic 71, 3) := by decide +kernel
theorem dX7_byPrinting_89 : decode cX7_byPrinting 89 = .ok (.iadd, 1) := by decide +kernel
theorem dX7_byPrinting_90 : decode cX7_byPrinting 90 = .ok (.istore 5, 2) := by decide +kernel
theorem dX7_byPrinting_92 : decode cX7_byPrinting 92 = .ok (.iinc 7 1, 3) := by decide +kernel
theorem dX7_byPrinting_95 : decode cX7_byPrinting 95 = .ok (.goto (-58), 3) := by decide +kernel
theorem dX7_byPrinting_98 : decode cX7_byPrinting 98 = .ok (.iload_n 2, 1) := by decide +kernel
theorem dX7_byPrinting_99 : decode cX7_byPrinting 99 = .ok (.ifCond .ne 7, 3) := by decide +kernel
theorem dX7_byPrinting_102 : decode cX7_byPrinting 102 = .ok (.lload_n 3, 1) := by decide +kernel
theorem dX7_byPrinting_103 : decode cX7_byPrinting 103 = .ok (.goto 17, 3) := by decide +kernel
theorem dX7_byPrinting_106 : decode cX7_byPrinting 106 = .ok (.iload_n 2, 1) := by decide +kernel
theorem dX7_byPrinting_107 : decode cX7_byPrinting 107 = .ok (.iconst 1, 1) := by decide +kernel
theorem dX7_byPrinting_108 : decode cX7_byPrinting 108 = .ok (.if_icmp .ne 9, 3) := by decide +kernel
theorem dX7_byPrinting_111 : decode cX7_byPrinting 111 = .ok (.iload 5, 2) := by decide +kernel
theorem dX7_byPrinting_113 : decode cX7_byPrinting 113 = .ok (.i2l, 1) := by decide +kernel
theorem dX7_byPrinting_114 : decode cX7_byPrinting 114 = .ok (.goto 6, 3) := by decide +kernel
theorem dX7_byPrinting_117 : decode cX7_byPrinting 117 = .ok (.iload 6, 2) := by decide +kernel
theorem dX7_byPrinting_119 : decode cX7_byPrinting 119 = .ok (.i2l, 1) := by decide +kernel
theorem dX7_byPrinting_120 : decode cX7_byPrinting 120 = .ok (.lreturn, 1) := by decide +kernel
set_option maxRecDepth 20000 in
theorem ggX7_ifPrinted_X7_in : GoodIn wsX7_ifPrinted wsX7_in := goodIn_r _ [7] (by decide +kernel) (by decide +kernel)
set_option maxRecDepth 20000 in
theorem gX7_ifPrinted_X7_in : GoodIn wsX7_ifPrinted (va_wsS RX7 43 yX7_in wsX7_in) := goodIn_app (goodIn_of _ (by decide +kernel)) ggX7_ifPrinted_X7_in
set_option maxRecDepth 20000 in
theorem ggX7_ifPrinted_X7_byPrinting : GoodIn wsX7_ifPrinted wsX7_byPrinting := goodIn_r _ [11, 12, 13, 14, 15, 6, 16, 17, 18, 19, 20, 21, 22, 23, 28, 29, 30, 31, 32, 33, 34, 35, 36, 37, 38, 39] (by decide +kernel) (by decide +kernel)
set_option maxRecDepth 20000 in
theorem gX7_ifPrinted_X7_byPrinting : GoodIn wsX7_ifPrinted (wsV RX7 203 RX7 yX7_byPrinting wsX7_byPrinting) := goodIn_app (goodIn_of _ (by decide +kernel)) ggX7_ifPrinted_X7_byPrinting
set_option maxRecDepth 20000 in
theorem ggX7_ifPrinted_X7_fails : GoodIn wsX7_ifPrinted wsX7_fails := goodIn_r _ [27, 1, 28, 29, 30, 31, 32, 33, 34, 35, 36, 37, 38, 39] (by decide +kernel) (by decide +kernel)
set_option maxRecDepth 20000 in
theorem gX7_ifPrinted_X7_fails : GoodIn wsX7_ifPrinted (wsV RX7 50 RX7 yX7_fails wsX7_fails) := goodIn_app (goodIn_of _ (by decide +kernel)) ggX7_ifPrinted_X7_fails
theorem dX7_ifPrinted_0 : decode cX7_ifPrinted 0 = .ok (.aload_n 0, 1) := by decide +kernel
theorem dX7_ifPrinted_1 : decode cX7_ifPrinted 1 = .ok (.iconst 0, 1) := by decide +kernel
theorem dX7_ifPrinted_2 : decode cX7_ifPrinted 2 = .ok (.putfield 39, 3) := by decide +kernel
theorem dX7_ifPrinted_5 : decode cX7_ifPrinted 5 = .ok (.iload_n 1, 1) := by decide +kernel
theorem dX7_ifPrinted_6 : decode cX7_ifPrinted 6 = .ok (.i2l, 1) := by decide +kernel
theorem dX7_ifPrinted_7 : decode cX7_ifPrinted 7 = .ok (.lconst 1, 1) := by decide +kernel
theorem dX7_ifPrinted_8 : decode cX7_ifPrinted 8 = .ok (.ldc2_w 79, 3) := by decide +kernel
theorem dX7_ifPrinted_11 : decode cX7_ifPrinted 11 = .ok (.invokestatic 43, 3) := by decide +kernel
theorem dX7_ifPrinted_14 : decode cX7_ifPrinted 14 = .ok (.ifCond .eq 24, 3) := by decide +kernel
theorem dX7_ifPrinted_17 : decode cX7_ifPrinted 17 = .ok (.iload_n 2, 1) := by decide +kernel
theorem dX7_ifPrinted_18 : decode cX7_ifPrinted 18 = .ok (.i2l, 1) := by decide +kernel
theorem dX7_ifPrinted_19 : decode cX7_ifPrinted 19 = .ok (.lconst 0, 1) := by decide +kernel
theorem dX7_ifPrinted_20 : decode cX7_ifPrinted 20 = .ok (.ldc2_w 33, 3) := by decide +kernel
theorem dX7_ifPrinted_23 : decode cX7_ifPrinted 23 = .ok (.invokestatic 43, 3) := by decide +kernel
theorem dX7_ifPrinted_26 : decode cX7_ifPrinted 26 = .ok (.ifCond .eq 12, 3) := by decide +kernel
theorem dX7_ifPrinted_29 : decode cX7_ifPrinted 29 = .ok (.aload_n 0, 1) := by decide +kernel
theorem dX7_ifPrinted_30 : decode cX7_ifPrinted 30 = .ok (.iload_n 1, 1) := by decide +kernel
theorem dX7_ifPrinted_31 : decode cX7_ifPrinted 31 = .ok (.iload_n 2, 1) := by decide +kernel
theorem dX7_ifPrinted_32 : decode cX7_ifPrinted 32 = .ok (.invokevirtual 203, 3) := by decide +kernel
theorem dX7_ifPrinted_35 : decode cX7_ifPrinted 35 = .ok (.goto 9, 3) := by decide +kernel
theorem dX7_ifPrinted_38 : decode cX7_ifPrinted 38 = .ok (.aload_n 0, 1) := by decide +kernel
theorem dX7_ifPrinted_39 : decode cX7_ifPrinted 39 = .ok (.iconst 1, 1) := by decide +kernel
theorem dX7_ifPrinted_40 : decode cX7_ifPrinted 40 = .ok (.invokevirtual 50, 3) := by decide +kernel
theorem dX7_ifPrinted_43 : decode cX7_ifPrinted 43 = .ok (.i2l, 1) := by decide +kernel
theorem dX7_ifPrinted_44 : decode cX7_ifPrinted 44 = .ok (.lreturn, 1) := by decide +kernel
set_option maxRecDepth 20000 in
theorem ggX7_findsAll_X7_error : GoodIn wsX7_findsAll wsX7_error := goodIn_r _ [6, 1, 7, 8, 5, 9, 18, 19, 20, 21, 22, 23, 24, 25, 26, 27, 28, 29] (by decide +kernel) (by decide +kernel)
set_option maxRecDepth 20000 in
theorem gX7_findsAll_X7_error : GoodIn wsX7_findsAll (wsV RX7 159 RX7 yX7_error wsX7_error) := goodIn_app (goodIn_of _ (by decide +kernel)) ggX7_findsAll_X7_error
set_option maxRecDepth 20000 in
theorem ggX7_findsAll_X7_groups : GoodIn wsX7_findsAll wsX7_groups := goodIn_r _ [13, 1, 18, 19, 20, 21, 22, 23, 24, 25, 26, 27, 28, 29] (by decide +kernel) (by decide +kernel)
set_option maxRecDepth 20000 in
theorem gX7_findsAll_X7_groups : GoodIn wsX7_findsAll (wsV RX7 170 RX7 yX7_groups wsX7_groups) := goodIn_app (goodIn_of _ (by decide +kernel)) ggX7_findsAll_X7_groups
set_option maxRecDepth 20000 in
theorem ggX7_findsAll_X7_ofGroup : GoodIn wsX7_findsAll wsX7_ofGroup := goodIn_r _ [17, 1, 7, 8, 5, 9, 2, 3, 4, 6, 18, 19, 20, 21, 22, 23, 24, 25, 26, 27, 28, 29] (by decide +kernel) (by decide +kernel)
set_option maxRecDepth 20000 in
theorem gX7_findsAll_X7_ofGroup : GoodIn wsX7_findsAll (wsV RX7 173 RX7 yX7_ofGroup wsX7_ofGroup) := goodIn_app (goodIn_of _ (by decide +kernel)) ggX7_findsAll_X7_ofGroup
theorem dX7_findsAll_0 : decode cX7_findsAll 0 = .ok (.iconst 1, 1) := by decide +kernel
theorem dX7_findsAll_1 : decode cX7_findsAll 1 = .ok (.istore_n 2, 1) := by decide +kernel
theorem dX7_findsAll_2 : decode cX7_findsAll 2 = .ok (.iconst 0, 1) := by decide +kernel
theorem dX7_findsAll_3 : decode cX7_findsAll 3 = .ok (.istore_n 3, 1) := by decide +kernel
theorem dX7_findsAll_4 : decode cX7_findsAll 4 = .ok (.iload_n 3, 1) := by decide +kernel
theorem dX7_findsAll_5 : decode cX7_findsAll 5 = .ok (.i2l, 1) := by decide +kernel
theorem dX7_findsAll_6 : decode cX7_findsAll 6 = .ok (.aload_n 0, 1) := by decide +kernel
theorem dX7_findsAll_7 : decode cX7_findsAll 7 = .ok (.getfield 7, 3) := by decide +kernel
theorem dX7_findsAll_10 : decode cX7_findsAll 10 = .ok (.iconst 4, 1) := by decide +kernel
theorem dX7_findsAll_11 : decode cX7_findsAll 11 = .ok (.laload, 1) := by decide +kernel
theorem dX7_findsAll_12 : decode cX7_findsAll 12 = .ok (.lcmp, 1) := by decide +kernel
theorem dX7_findsAll_13 : decode cX7_findsAll 13 = .ok (.ifCond .ge 54, 3) := by decide +kernel
theorem dX7_findsAll_16 : decode cX7_findsAll 16 = .ok (.iload_n 2, 1) := by decide +kernel
theorem dX7_findsAll_17 : decode cX7_findsAll 17 = .ok (.ifCond .eq 42, 3) := by decide +kernel
theorem dX7_findsAll_20 : decode cX7_findsAll 20 = .ok (.aload_n 0, 1) := by decide +kernel
theorem dX7_findsAll_21 : decode cX7_findsAll 21 = .ok (.iload_n 3, 1) := by decide +kernel
theorem dX7_findsAll_22 : decode cX7_findsAll 22 = .ok (.invokevirtual 159, 3) := by decide +kernel
theorem dX7_findsAll_25 : decode cX7_findsAll 25 = .ok (.lconst 0, 1) := by decide +kernel
theorem dX7_findsAll_26 : decode cX7_findsAll 26 = .ok (.lcmp, 1) := by decide +kernel
theorem dX7_findsAll_27 : decode cX7_findsAll 27 = .ok (.ifCond .eq 28, 3) := by decide +kernel
theorem dX7_findsAll_30 : decode cX7_findsAll 30 = .ok (.iload_n 3, 1) := by decide +kernel
theorem dX7_findsAll_31 : decode cX7_findsAll 31 = .ok (.iload_n 1, 1) := by decide +kernel
theorem dX7_findsAll_32 : decode cX7_findsAll 32 = .ok (.idiv, 1) := by decide +kernel
theorem dX7_findsAll_33 : decode cX7_findsAll 33 = .ok (.aload_n 0, 1) := by decide +kernel
theorem dX7_findsAll_34 : decode cX7_findsAll 34 = .ok (.iload_n 1, 1) := by decide +kernel
theorem dX7_findsAll_35 : decode cX7_findsAll 35 = .ok (.invokevirtual 170, 3) := by decide +kernel
theorem dX7_findsAll_38 : decode cX7_findsAll 38 = .ok (.if_icmp .ge 21, 3) := by decide +kernel
theorem dX7_findsAll_41 : decode cX7_findsAll 41 = .ok (.aload_n 0, 1) := by decide +kernel
theorem dX7_findsAll_42 : decode cX7_findsAll 42 = .ok (.iload_n 1, 1) := by decide +kernel
theorem dX7_findsAll_43 : decode cX7_findsAll 43 = .ok (.iload_n 3, 1) := by decide +kernel
theorem dX7_findsAll_44 : decode cX7_findsAll 44 = .ok (.iload_n 1, 1) := by decide +kernel
theorem dX7_findsAll_45 : decode cX7_findsAll 45 = .ok (.idiv, 1) := by decide +kernel
theorem dX7_findsAll_46 : decode cX7_findsAll 46 = .ok (.iconst 2, 1) := by decide +kernel
theorem dX7_findsAll_47 : decode cX7_findsAll 47 = .ok (.invokevirtual 173, 3) := by decide +kernel
theorem dX7_findsAll_50 : decode cX7_findsAll 50 = .ok (.lconst 1, 1) := by decide +kernel
theorem dX7_findsAll_51 : decode cX7_findsAll 51 = .ok (.lcmp, 1) := by decide +kernel
theorem dX7_findsAll_52 : decode cX7_findsAll 52 = .ok (.ifCond .ne 7, 3) := by decide +kernel
theorem dX7_findsAll_55 : decode cX7_findsAll 55 = .ok (.iconst 1, 1) := by decide +kernel
theorem dX7_findsAll_56 : decode cX7_findsAll 56 = .ok (.goto 4, 3) := by decide +kernel
theorem dX7_findsAll_59 : decode cX7_findsAll 59 = .ok (.iconst 0, 1) := by decide +kernel
theorem dX7_findsAll_60 : decode cX7_findsAll 60 = .ok (.istore_n 2, 1) := by decide +kernel
theorem dX7_findsAll_61 : decode cX7_findsAll 61 = .ok (.iinc 3 1, 3) := by decide +kernel
theorem dX7_findsAll_64 : decode cX7_findsAll 64 = .ok (.goto (-60), 3) := by decide +kernel
theorem dX7_findsAll_67 : decode cX7_findsAll 67 = .ok (.iload_n 2, 1) := by decide +kernel
theorem dX7_findsAll_68 : decode cX7_findsAll 68 = .ok (.ireturn, 1) := by decide +kernel
set_option maxRecDepth 20000 in
theorem ggX7_largest_X7_findsAll : GoodIn wsX7_largest wsX7_findsAll := goodIn_r _ [5, 6, 7, 8, 9, 4, 10, 11, 12, 13, 14, 15, 16, 17, 18, 19, 20, 21, 22, 23, 24, 25, 26, 27, 28, 29, 30, 31, 32, 33] (by decide +kernel) (by decide +kernel)
set_option maxRecDepth 20000 in
theorem gX7_largest_X7_findsAll : GoodIn wsX7_largest (wsV RX7 206 RX7 yX7_findsAll wsX7_findsAll) := goodIn_app (goodIn_of _ (by decide +kernel)) ggX7_largest_X7_findsAll
theorem dX7_largest_0 : decode cX7_largest 0 = .ok (.bipush 20, 2) := by decide +kernel
theorem dX7_largest_2 : decode cX7_largest 2 = .ok (.istore_n 1, 1) := by decide +kernel
theorem dX7_largest_3 : decode cX7_largest 3 = .ok (.iload_n 1, 1) := by decide +kernel
theorem dX7_largest_4 : decode cX7_largest 4 = .ok (.ifCond .le 17, 3) := by decide +kernel
theorem dX7_largest_7 : decode cX7_largest 7 = .ok (.aload_n 0, 1) := by decide +kernel
theorem dX7_largest_8 : decode cX7_largest 8 = .ok (.iload_n 1, 1) := by decide +kernel
theorem dX7_largest_9 : decode cX7_largest 9 = .ok (.invokevirtual 206, 3) := by decide +kernel
theorem dX7_largest_12 : decode cX7_largest 12 = .ok (.ifCond .ne 9, 3) := by decide +kernel
theorem dX7_largest_15 : decode cX7_largest 15 = .ok (.iinc 1 (-1), 3) := by decide +kernel
theorem dX7_largest_18 : decode cX7_largest 18 = .ok (.goto (-15), 3) := by decide +kernel
theorem dX7_largest_21 : decode cX7_largest 21 = .ok (.iload_n 1, 1) := by decide +kernel
theorem dX7_largest_22 : decode cX7_largest 22 = .ok (.ireturn, 1) := by decide +kernel
set_option maxRecDepth 20000 in
theorem ggX7_bestGroup_X7_largest : GoodIn wsX7_bestGroup wsX7_largest := goodIn_r _ [6, 7, 8, 9, 5, 10, 11, 12, 13, 14, 15, 16, 17, 18, 19, 20, 21, 22, 23, 24, 25, 26, 27, 28, 29, 30, 31, 32, 33, 34, 35, 36, 37, 38] (by decide +kernel) (by decide +kernel)
set_option maxRecDepth 20000 in
theorem gX7_bestGroup_X7_largest : GoodIn wsX7_bestGroup (wsV RX7 209 RX7 yX7_largest wsX7_largest) := goodIn_app (goodIn_of _ (by decide +kernel)) ggX7_bestGroup_X7_largest
theorem dX7_bestGroup_0 : decode cX7_bestGroup 0 = .ok (.aload_n 0, 1) := by decide +kernel
theorem dX7_bestGroup_1 : decode cX7_bestGroup 1 = .ok (.iconst 0, 1) := by decide +kernel
theorem dX7_bestGroup_2 : decode cX7_bestGroup 2 = .ok (.putfield 39, 3) := by decide +kernel
theorem dX7_bestGroup_5 : decode cX7_bestGroup 5 = .ok (.aload_n 0, 1) := by decide +kernel
theorem dX7_bestGroup_6 : decode cX7_bestGroup 6 = .ok (.invokevirtual 209, 3) := by decide +kernel
theorem dX7_bestGroup_9 : decode cX7_bestGroup 9 = .ok (.ireturn, 1) := by decide +kernel
theorem dX7_worn_0 : decode cX7_worn 0 = .ok (.iconst 0, 1) := by decide +kernel
theorem dX7_worn_1 : decode cX7_worn 1 = .ok (.istore_n 1, 1) := by decide +kernel
theorem dX7_worn_2 : decode cX7_worn 2 = .ok (.iconst 1, 1) := by decide +kernel
theorem dX7_worn_3 : decode cX7_worn 3 = .ok (.istore_n 2, 1) := by decide +kernel
theorem dX7_worn_4 : decode cX7_worn 4 = .ok (.iload_n 2, 1) := by decide +kernel
theorem dX7_worn_5 : decode cX7_worn 5 = .ok (.bipush 10, 2) := by decide +kernel
theorem dX7_worn_7 : decode cX7_worn 7 = .ok (.if_icmp .ge 37, 3) := by decide +kernel
theorem dX7_worn_10 : decode cX7_worn 10 = .ok (.aload_n 0, 1) := by decide +kernel
theorem dX7_worn_11 : decode cX7_worn 11 = .ok (.getfield 7, 3) := by decide +kernel
theorem dX7_worn_14 : decode cX7_worn 14 = .ok (.bipush 13, 2) := by decide +kernel
theorem dX7_worn_16 : decode cX7_worn 16 = .ok (.iload_n 2, 1) := by decide +kernel
theorem dX7_worn_17 : decode cX7_worn 17 = .ok (.iadd, 1) := by decide +kernel
theorem dX7_worn_18 : decode cX7_worn 18 = .ok (.laload, 1) := by decide +kernel
theorem dX7_worn_19 : decode cX7_worn 19 = .ok (.aload_n 0, 1) := by decide +kernel
theorem dX7_worn_20 : decode cX7_worn 20 = .ok (.getfield 7, 3) := by decide +kernel
theorem dX7_worn_23 : decode cX7_worn 23 = .ok (.bipush 13, 2) := by decide +kernel
theorem dX7_worn_25 : decode cX7_worn 25 = .ok (.iload_n 1, 1) := by decide +kernel
theorem dX7_worn_26 : decode cX7_worn 26 = .ok (.iadd, 1) := by decide +kernel
theorem dX7_worn_27 : decode cX7_worn 27 = .ok (.laload, 1) := by decide +kernel
theorem dX7_worn_28 : decode cX7_worn 28 = .ok (.lcmp, 1) := by decide +kernel
theorem dX7_worn_29 : decode cX7_worn 29 = .ok (.ifCond .le 7, 3) := by decide +kernel
theorem dX7_worn_32 : decode cX7_worn 32 = .ok (.iload_n 2, 1) := by decide +kernel
theorem dX7_worn_33 : decode cX7_worn 33 = .ok (.goto 4, 3) := by decide +kernel
theorem dX7_worn_36 : decode cX7_worn 36 = .ok (.iload_n 1, 1) := by decide +kernel
theorem dX7_worn_37 : decode cX7_worn 37 = .ok (.istore_n 1, 1) := by decide +kernel
theorem dX7_worn_38 : decode cX7_worn 38 = .ok (.iinc 2 1, 3) := by decide +kernel
theorem dX7_worn_41 : decode cX7_worn 41 = .ok (.goto (-37), 3) := by decide +kernel
theorem dX7_worn_44 : decode cX7_worn 44 = .ok (.iload_n 1, 1) := by decide +kernel
theorem dX7_worn_45 : decode cX7_worn 45 = .ok (.ireturn, 1) := by decide +kernel
set_option maxRecDepth 20000 in
theorem ggX7_mostWorn_X7_worn : GoodIn wsX7_mostWorn wsX7_worn := goodIn_r _ [6, 7, 8, 9, 10, 11, 12, 13, 14, 15, 16, 17, 18, 19] (by decide +kernel) (by decide +kernel)
set_option maxRecDepth 20000 in
theorem gX7_mostWorn_X7_worn : GoodIn wsX7_mostWorn (wsV RX7 212 RX7 yX7_worn wsX7_worn) := goodIn_app (goodIn_of _ (by decide +kernel)) ggX7_mostWorn_X7_worn
theorem dX7_mostWorn_0 : decode cX7_mostWorn 0 = .ok (.aload_n 0, 1) := by decide +kernel
theorem dX7_mostWorn_1 : decode cX7_mostWorn 1 = .ok (.iconst 0, 1) := by decide +kernel
theorem dX7_mostWorn_2 : decode cX7_mostWorn 2 = .ok (.putfield 39, 3) := by decide +kernel
theorem dX7_mostWorn_5 : decode cX7_mostWorn 5 = .ok (.aload_n 0, 1) := by decide +kernel
theorem dX7_mostWorn_6 : decode cX7_mostWorn 6 = .ok (.invokevirtual 212, 3) := by decide +kernel
theorem dX7_mostWorn_9 : decode cX7_mostWorn 9 = .ok (.ireturn, 1) := by decide +kernel
set_option maxRecDepth 20000 in
theorem ggX7_share_X7_error : GoodIn wsX7_share wsX7_error := goodIn_r _ [6, 1, 7, 8, 5, 9, 10, 11, 12, 13, 14, 15, 16, 17, 18, 19, 20, 21] (by decide +kernel) (by decide +kernel)
set_option maxRecDepth 20000 in
theorem gX7_share_X7_error : GoodIn wsX7_share (wsV RX7 159 RX7 yX7_error wsX7_error) := goodIn_app (goodIn_of _ (by decide +kernel)) ggX7_share_X7_error
theorem dX7_share_0 : decode cX7_share 0 = .ok (.iconst 0, 1) := by decide +kernel
theorem dX7_share_1 : decode cX7_share 1 = .ok (.istore_n 1, 1) := by decide +kernel
theorem dX7_share_2 : decode cX7_share 2 = .ok (.iconst 0, 1) := by decide +kernel
theorem dX7_share_3 : decode cX7_share 3 = .ok (.istore_n 2, 1) := by decide +kernel
theorem dX7_share_4 : decode cX7_share 4 = .ok (.iload_n 2, 1) := by decide +kernel
theorem dX7_share_5 : decode cX7_share 5 = .ok (.i2l, 1) := by decide +kernel
theorem dX7_share_6 : decode cX7_share 6 = .ok (.aload_n 0, 1) := by decide +kernel
theorem dX7_share_7 : decode cX7_share 7 = .ok (.getfield 7, 3) := by decide +kernel
theorem dX7_share_10 : decode cX7_share 10 = .ok (.iconst 4, 1) := by decide +kernel
theorem dX7_share_11 : decode cX7_share 11 = .ok (.laload, 1) := by decide +kernel
theorem dX7_share_12 : decode cX7_share 12 = .ok (.lcmp, 1) := by decide +kernel
theorem dX7_share_13 : decode cX7_share 13 = .ok (.ifCond .ge 41, 3) := by decide +kernel
theorem dX7_share_16 : decode cX7_share 16 = .ok (.iload_n 1, 1) := by decide +kernel
theorem dX7_share_17 : decode cX7_share 17 = .ok (.aload_n 0, 1) := by decide +kernel
theorem dX7_share_18 : decode cX7_share 18 = .ok (.iload_n 2, 1) := by decide +kernel
theorem dX7_share_19 : decode cX7_share 19 = .ok (.invokevirtual 159, 3) := by decide +kernel
theorem dX7_share_22 : decode cX7_share 22 = .ok (.lconst 0, 1) := by decide +kernel
theorem dX7_share_23 : decode cX7_share 23 = .ok (.lcmp, 1) := by decide +kernel
theorem dX7_share_24 : decode cX7_share 24 = .ok (.ifCond .ne 21, 3) := by decide +kernel
theorem dX7_share_27 : decode cX7_share 27 = .ok (.aload_n 0, 1) := by decide +kernel
theorem dX7_share_28 : decode cX7_share 28 = .ok (.getfield 7, 3) := by decide +kernel
theorem dX7_share_31 : decode cX7_share 31 = .ok (.bipush 63, 2) := by decide +kernel
theorem dX7_share_33 : decode cX7_share 33 = .ok (.iload_n 2, 1) := by decide +kernel
theorem dX7_share_34 : decode cX7_share 34 = .ok (.iadd, 1) := by decide +kernel
theorem dX7_share_35 : decode cX7_share 35 = .ok (.laload, 1) := by decide +kernel
theorem dX7_share_36 : decode cX7_share 36 = .ok (.lconst 0, 1) := by decide +kernel
theorem dX7_share_37 : decode cX7_share 37 = .ok (.lcmp, 1) := by decide +kernel
theorem dX7_share_38 : decode cX7_share 38 = .ok (.ifCond .ne 7, 3) := by decide +kernel
theorem dX7_share_41 : decode cX7_share 41 = .ok (.iconst 1, 1) := by decide +kernel
theorem dX7_share_42 : decode cX7_share 42 = .ok (.goto 4, 3) := by decide +kernel
theorem dX7_share_45 : decode cX7_share 45 = .ok (.iconst 0, 1) := by decide +kernel
theorem dX7_share_46 : decode cX7_share 46 = .ok (.iadd, 1) := by decide +kernel
theorem dX7_share_47 : decode cX7_share 47 = .ok (.istore_n 1, 1) := by decide +kernel
theorem dX7_share_48 : decode cX7_share 48 = .ok (.iinc 2 1, 3) := by decide +kernel
theorem dX7_share_51 : decode cX7_share 51 = .ok (.goto (-47), 3) := by decide +kernel
theorem dX7_share_54 : decode cX7_share 54 = .ok (.aload_n 0, 1) := by decide +kernel
theorem dX7_share_55 : decode cX7_share 55 = .ok (.getfield 7, 3) := by decide +kernel
theorem dX7_share_58 : decode cX7_share 58 = .ok (.iconst 4, 1) := by decide +kernel
theorem dX7_share_59 : decode cX7_share 59 = .ok (.laload, 1) := by decide +kernel
theorem dX7_share_60 : decode cX7_share 60 = .ok (.lconst 0, 1) := by decide +kernel
theorem dX7_share_61 : decode cX7_share 61 = .ok (.lcmp, 1) := by decide +kernel
theorem dX7_share_62 : decode cX7_share 62 = .ok (.ifCond .ne 7, 3) := by decide +kernel
theorem dX7_share_65 : decode cX7_share 65 = .ok (.dconst 1, 1) := by decide +kernel
theorem dX7_share_66 : decode cX7_share 66 = .ok (.goto 13, 3) := by decide +kernel
theorem dX7_share_69 : decode cX7_share 69 = .ok (.iload_n 1, 1) := by decide +kernel
theorem dX7_share_70 : decode cX7_share 70 = .ok (.i2d, 1) := by decide +kernel
theorem dX7_share_71 : decode cX7_share 71 = .ok (.aload_n 0, 1) := by decide +kernel
theorem dX7_share_72 : decode cX7_share 72 = .ok (.getfield 7, 3) := by decide +kernel
theorem dX7_share_75 : decode cX7_share 75 = .ok (.iconst 4, 1) := by decide +kernel
theorem dX7_share_76 : decode cX7_share 76 = .ok (.laload, 1) := by decide +kernel
theorem dX7_share_77 : decode cX7_share 77 = .ok (.l2d, 1) := by decide +kernel
theorem dX7_share_78 : decode cX7_share 78 = .ok (.ddiv, 1) := by decide +kernel
theorem dX7_share_79 : decode cX7_share 79 = .ok (.dreturn, 1) := by decide +kernel
set_option maxRecDepth 20000 in
theorem ggX7_rightness_X7_share : GoodIn wsX7_rightness wsX7_share := goodIn_r _ [6, 7, 8, 9, 10, 5, 11, 12, 13, 14, 15, 16, 17, 18, 19, 20, 21, 22, 23, 24, 25, 26] (by decide +kernel) (by decide +kernel)
set_option maxRecDepth 20000 in
theorem gX7_rightness_X7_share : GoodIn wsX7_rightness (wsV RX7 215 RX7 yX7_share wsX7_share) := goodIn_app (goodIn_of _ (by decide +kernel)) ggX7_rightness_X7_share
theorem dX7_rightness_0 : decode cX7_rightness 0 = .ok (.aload_n 0, 1) := by decide +kernel
theorem dX7_rightness_1 : decode cX7_rightness 1 = .ok (.iconst 0, 1) := by decide +kernel
theorem dX7_rightness_2 : decode cX7_rightness 2 = .ok (.putfield 39, 3) := by decide +kernel
theorem dX7_rightness_5 : decode cX7_rightness 5 = .ok (.aload_n 0, 1) := by decide +kernel
theorem dX7_rightness_6 : decode cX7_rightness 6 = .ok (.invokevirtual 215, 3) := by decide +kernel
theorem dX7_rightness_9 : decode cX7_rightness 9 = .ok (.dreturn, 1) := by decide +kernel
set_option maxRecDepth 20000 in
theorem ggX7_digest_X7_counted : GoodIn wsX7_digest wsX7_counted := goodIn_r _ [11, 4, 12, 13, 14, 15, 10, 16, 17, 18, 19, 20, 21, 22, 23, 24, 25, 26, 27, 28, 29, 30, 31, 32, 33, 34, 35, 36, 37, 38, 39, 40, 41, 42, 43, 44, 45, 104, 105, 106, 107, 108, 109, 110, 111, 112, 113, 114, 115] (by decide +kernel) (by decide +kernel)
set_option maxRecDepth 20000 in
theorem gX7_digest_X7_counted : GoodIn wsX7_digest (wsV RX7 192 RX7 yX7_counted wsX7_counted) := goodIn_app (goodIn_of _ (by decide +kernel)) ggX7_digest_X7_counted
set_option maxRecDepth 20000 in
theorem ggX7_digest_X7_rightDifference : GoodIn wsX7_digest wsX7_rightDifference := goodIn_r _ [33, 21, 22, 10, 23] (by decide +kernel) (by decide +kernel)
set_option maxRecDepth 20000 in
theorem gX7_digest_X7_rightDifference : GoodIn wsX7_digest (va_wsS RX7 58 yX7_rightDifference wsX7_rightDifference) := goodIn_app (goodIn_of _ (by decide +kernel)) ggX7_digest_X7_rightDifference
set_option maxRecDepth 20000 in
theorem ggX7_digest_X7_ofRow : GoodIn wsX7_digest wsX7_ofRow := goodIn_r _ [49, 4, 21, 22, 10, 23, 17, 18, 19, 20, 104, 105, 106, 107, 108, 109, 110, 111, 112, 113, 114, 115] (by decide +kernel) (by decide +kernel)
set_option maxRecDepth 20000 in
theorem gX7_digest_X7_ofRow : GoodIn wsX7_digest (wsV RX7 165 RX7 yX7_ofRow wsX7_ofRow) := goodIn_app (goodIn_of _ (by decide +kernel)) ggX7_digest_X7_ofRow
set_option maxRecDepth 20000 in
theorem ggX7_digest_X7_groups : GoodIn wsX7_digest wsX7_groups := goodIn_r _ [37, 4, 104, 105, 106, 107, 108, 109, 110, 111, 112, 113, 114, 115] (by decide +kernel) (by decide +kernel)
set_option maxRecDepth 20000 in
theorem gX7_digest_X7_groups : GoodIn wsX7_digest (wsV RX7 170 RX7 yX7_groups wsX7_groups) := goodIn_app (goodIn_of _ (by decide +kernel)) ggX7_digest_X7_groups
set_option maxRecDepth 20000 in
theorem ggX7_digest_X7_ofGroup : GoodIn wsX7_digest wsX7_ofGroup := goodIn_r _ [45, 4, 21, 22, 10, 23, 17, 18, 19, 20, 104, 105, 106, 107, 108, 109, 110, 111, 112, 113, 114, 115] (by decide +kernel) (by decide +kernel)
set_option maxRecDepth 20000 in
theorem gX7_digest_X7_ofGroup : GoodIn wsX7_digest (wsV RX7 173 RX7 yX7_ofGroup wsX7_ofGroup) := goodIn_app (goodIn_of _ (by decide +kernel)) ggX7_digest_X7_ofGroup
set_option maxRecDepth 20000 in
theorem ggX7_digest_X7_differenceAt : GoodIn wsX7_digest wsX7_differenceAt := goodIn_r _ [53, 4, 104, 105, 106, 107, 108, 109, 110, 111, 112, 113, 114, 115] (by decide +kernel) (by decide +kernel)
set_option maxRecDepth 20000 in
theorem gX7_digest_X7_differenceAt : GoodIn wsX7_digest (wsV RX7 177 RX7 yX7_differenceAt wsX7_differenceAt) := goodIn_app (goodIn_of _ (by decide +kernel)) ggX7_digest_X7_differenceAt
set_option maxRecDepth 20000 in
theorem ggX7_digest_X7_guessed : GoodIn wsX7_digest wsX7_guessed := goodIn_r _ [57, 58, 59, 24, 25, 26, 10, 27, 4, 17, 18, 19, 20, 21, 22, 23, 60, 61, 62, 63, 104, 105, 106, 107, 108, 109, 110, 111, 112, 113, 114, 115] (by decide +kernel) (by decide +kernel)
set_option maxRecDepth 20000 in
theorem gX7_digest_X7_guessed : GoodIn wsX7_digest (wsV RX7 200 RX7 yX7_guessed wsX7_guessed) := goodIn_app (goodIn_of _ (by decide +kernel)) ggX7_digest_X7_guessed
set_option maxRecDepth 20000 in
theorem ggX7_digest_X7_byPrinting : GoodIn wsX7_digest wsX7_byPrinting := goodIn_r _ [67, 68, 4, 21, 22, 10, 23, 69, 70, 71, 72, 73, 74, 75, 104, 105, 106, 107, 108, 109, 110, 111, 112, 113, 114, 115] (by decide +kernel) (by decide +kernel)
set_option maxRecDepth 20000 in
theorem gX7_digest_X7_byPrinting : GoodIn wsX7_digest (wsV RX7 203 RX7 yX7_byPrinting wsX7_byPrinting) := goodIn_app (goodIn_of _ (by decide +kernel)) ggX7_digest_X7_byPrinting
set_option maxRecDepth 20000 in
theorem ggX7_digest_X7_largest : GoodIn wsX7_digest wsX7_largest := goodIn_r _ [79, 80, 81, 82, 10, 83, 4, 17, 18, 19, 20, 21, 22, 23, 34, 35, 36, 37, 42, 43, 44, 45, 104, 105, 106, 107, 108, 109, 110, 111, 112, 113, 114, 115] (by decide +kernel) (by decide +kernel)
set_option maxRecDepth 20000 in
theorem gX7_digest_X7_largest : GoodIn wsX7_digest (wsV RX7 209 RX7 yX7_largest wsX7_largest) := goodIn_app (goodIn_of _ (by decide +kernel)) ggX7_digest_X7_largest
set_option maxRecDepth 20000 in
theorem ggX7_digest_X7_worn : GoodIn wsX7_digest wsX7_worn := goodIn_r _ [87, 4, 104, 105, 106, 107, 108, 109, 110, 111, 112, 113, 114, 115] (by decide +kernel) (by decide +kernel)
set_option maxRecDepth 20000 in
theorem gX7_digest_X7_worn : GoodIn wsX7_digest (wsV RX7 212 RX7 yX7_worn wsX7_worn) := goodIn_app (goodIn_of _ (by decide +kernel)) ggX7_digest_X7_worn
set_option maxRecDepth 20000 in
theorem ggX7_digest_X7_share : GoodIn wsX7_digest wsX7_share := goodIn_r _ [91, 4, 17, 18, 19, 10, 20, 21, 22, 23, 104, 105, 106, 107, 108, 109, 110, 111, 112, 113, 114, 115] (by decide +kernel) (by decide +kernel)
set_option maxRecDepth 20000 in
theorem gX7_digest_X7_share : GoodIn wsX7_digest (wsV RX7 215 RX7 yX7_share wsX7_share) := goodIn_app (goodIn_of _ (by decide +kernel)) ggX7_digest_X7_share
set_option maxRecDepth 20000 in
theorem ggX7_digest_Jxe99ae_doubleToLongBits_ccdee : GoodIn wsX7_digest wsJxe99ae_doubleToLongBits_ccdee := goodIn_r _ [95, 96, 97, 98, 99, 100, 101, 102, 94, 103] (by decide +kernel) (by decide +kernel)
set_option maxRecDepth 20000 in
theorem gX7_digest_Jxe99ae_doubleToLongBits_ccdee : GoodIn wsX7_digest (va_wsS RX7 223 yJxe99ae_doubleToLongBits_ccdee wsJxe99ae_doubleToLongBits_ccdee) := goodIn_app (goodIn_of _ (by decide +kernel)) ggX7_digest_Jxe99ae_doubleToLongBits_ccdee
theorem dX7_digest_0 : decode cX7_digest 0 = .ok (.aload_n 0, 1) := by decide +kernel
theorem dX7_digest_1 : decode cX7_digest 1 = .ok (.iconst 0, 1) := by decide +kernel
theorem dX7_digest_2 : decode cX7_digest 2 = .ok (.putfield 39, 3) := by decide +kernel
theorem dX7_digest_5 : decode cX7_digest 5 = .ok (.ldc2_w 219, 3) := by decide +kernel
theorem dX7_digest_8 : decode cX7_digest 8 = .ok (.lstore_n 1, 1) := by decide +kernel
theorem dX7_digest_9 : decode cX7_digest 9 = .ok (.iconst 0, 1) := by decide +kernel
theorem dX7_digest_10 : decode cX7_digest 10 = .ok (.istore_n 3, 1) := by decide +kernel
theorem dX7_digest_11 : decode cX7_digest 11 = .ok (.iload_n 3, 1) := by decide +kernel
theorem dX7_digest_12 : decode cX7_digest 12 = .ok (.bipush 12, 2) := by decide +kernel
theorem dX7_digest_14 : decode cX7_digest 14 = .ok (.if_icmp .ge 22, 3) := by decide +kernel
theorem dX7_digest_17 : decode cX7_digest 17 = .ok (.ldc2_w 221, 3) := by decide +kernel
theorem dX7_digest_20 : decode cX7_digest 20 = .ok (.lload_n 1, 1) := by decide +kernel
theorem dX7_digest_21 : decode cX7_digest 21 = .ok (.lmul, 1) := by decide +kernel
theorem dX7_digest_22 : decode cX7_digest 22 = .ok (.aload_n 0, 1) := by decide +kernel
theorem dX7_digest_23 : decode cX7_digest 23 = .ok (.iload_n 3, 1) := by decide +kernel
theorem dX7_digest_24 : decode cX7_digest 24 = .ok (.invokevirtual 192, 3) := by decide +kernel
theorem dX7_digest_27 : decode cX7_digest 27 = .ok (.i2l, 1) := by decide +kernel
theorem dX7_digest_28 : decode cX7_digest 28 = .ok (.ladd, 1) := by decide +kernel
theorem dX7_digest_29 : decode cX7_digest 29 = .ok (.lstore_n 1, 1) := by decide +kernel
theorem dX7_digest_30 : decode cX7_digest 30 = .ok (.iinc 3 1, 3) := by decide +kernel
theorem dX7_digest_33 : decode cX7_digest 33 = .ok (.goto (-22), 3) := by decide +kernel
theorem dX7_digest_36 : decode cX7_digest 36 = .ok (.ldc2_w 221, 3) := by decide +kernel
theorem dX7_digest_39 : decode cX7_digest 39 = .ok (.ldc2_w 221, 3) := by decide +kernel
theorem dX7_digest_42 : decode cX7_digest 42 = .ok (.lload_n 1, 1) := by decide +kernel
theorem dX7_digest_43 : decode cX7_digest 43 = .ok (.lmul, 1) := by decide +kernel
theorem dX7_digest_44 : decode cX7_digest 44 = .ok (.aload_n 0, 1) := by decide +kernel
theorem dX7_digest_45 : decode cX7_digest 45 = .ok (.getfield 7, 3) := by decide +kernel
theorem dX7_digest_48 : decode cX7_digest 48 = .ok (.iconst 0, 1) := by decide +kernel
theorem dX7_digest_49 : decode cX7_digest 49 = .ok (.laload, 1) := by decide +kernel
theorem dX7_digest_50 : decode cX7_digest 50 = .ok (.ladd, 1) := by decide +kernel
theorem dX7_digest_51 : decode cX7_digest 51 = .ok (.lmul, 1) := by decide +kernel
theorem dX7_digest_52 : decode cX7_digest 52 = .ok (.aload_n 0, 1) := by decide +kernel
theorem dX7_digest_53 : decode cX7_digest 53 = .ok (.getfield 7, 3) := by decide +kernel
theorem dX7_digest_56 : decode cX7_digest 56 = .ok (.iconst 1, 1) := by decide +kernel
theorem dX7_digest_57 : decode cX7_digest 57 = .ok (.laload, 1) := by decide +kernel
theorem dX7_digest_58 : decode cX7_digest 58 = .ok (.ladd, 1) := by decide +kernel
theorem dX7_digest_59 : decode cX7_digest 59 = .ok (.lstore_n 1, 1) := by decide +kernel
theorem dX7_digest_60 : decode cX7_digest 60 = .ok (.iconst 0, 1) := by decide +kernel
theorem dX7_digest_61 : decode cX7_digest 61 = .ok (.istore_n 3, 1) := by decide +kernel
theorem dX7_digest_62 : decode cX7_digest 62 = .ok (.iload_n 3, 1) := by decide +kernel
theorem dX7_digest_63 : decode cX7_digest 63 = .ok (.bipush 6, 2) := by decide +kernel
theorem dX7_digest_65 : decode cX7_digest 65 = .ok (.if_icmp .ge 45, 3) := by decide +kernel
theorem dX7_digest_68 : decode cX7_digest 68 = .ok (.ldc2_w 221, 3) := by decide +kernel
theorem dX7_digest_71 : decode cX7_digest 71 = .ok (.ldc2_w 221, 3) := by decide +kernel
theorem dX7_digest_74 : decode cX7_digest 74 = .ok (.lload_n 1, 1) := by decide +kernel
theorem dX7_digest_75 : decode cX7_digest 75 = .ok (.lmul, 1) := by decide +kernel
theorem dX7_digest_76 : decode cX7_digest 76 = .ok (.aload_n 0, 1) := by decide +kernel
theorem dX7_digest_77 : decode cX7_digest 77 = .ok (.getfield 7, 3) := by decide +kernel
theorem dX7_digest_80 : decode cX7_digest 80 = .ok (.bipush 7, 2) := by decide +kernel
theorem dX7_digest_82 : decode cX7_digest 82 = .ok (.iload_n 3, 1) := by decide +kernel
theorem dX7_digest_83 : decode cX7_digest 83 = .ok (.iadd, 1) := by decide +kernel
theorem dX7_digest_84 : decode cX7_digest 84 = .ok (.laload, 1) := by decide +kernel
theorem dX7_digest_85 : decode cX7_digest 85 = .ok (.ladd, 1) := by decide +kernel
theorem dX7_digest_86 : decode cX7_digest 86 = .ok (.lmul, 1) := by decide +kernel
theorem dX7_digest_87 : decode cX7_digest 87 = .ok (.aload_n 0, 1) := by decide +kernel
theorem dX7_digest_88 : decode cX7_digest 88 = .ok (.getfield 7, 3) := by decide +kernel
theorem dX7_digest_91 : decode cX7_digest 91 = .ok (.iload_n 3, 1) := by decide +kernel
theorem dX7_digest_92 : decode cX7_digest 92 = .ok (.aload_n 0, 1) := by decide +kernel
theorem dX7_digest_93 : decode cX7_digest 93 = .ok (.getfield 7, 3) := by decide +kernel
theorem dX7_digest_96 : decode cX7_digest 96 = .ok (.iconst 4, 1) := by decide +kernel
theorem dX7_digest_97 : decode cX7_digest 97 = .ok (.laload, 1) := by decide +kernel
theorem dX7_digest_98 : decode cX7_digest 98 = .ok (.l2i, 1) := by decide +kernel
theorem dX7_digest_99 : decode cX7_digest 99 = .ok (.invokestatic 58, 3) := by decide +kernel
theorem dX7_digest_102 : decode cX7_digest 102 = .ok (.ladd, 1) := by decide +kernel
theorem dX7_digest_103 : decode cX7_digest 103 = .ok (.lstore_n 1, 1) := by decide +kernel
theorem dX7_digest_104 : decode cX7_digest 104 = .ok (.iinc 3 1, 3) := by decide +kernel
theorem dX7_digest_107 : decode cX7_digest 107 = .ok (.goto (-45), 3) := by decide +kernel
theorem dX7_digest_110 : decode cX7_digest 110 = .ok (.iconst 0, 1) := by decide +kernel
theorem dX7_digest_111 : decode cX7_digest 111 = .ok (.istore_n 3, 1) := by decide +kernel
theorem dX7_digest_112 : decode cX7_digest 112 = .ok (.iload_n 3, 1) := by decide +kernel
theorem dX7_digest_113 : decode cX7_digest 113 = .ok (.i2l, 1) := by decide +kernel
theorem dX7_digest_114 : decode cX7_digest 114 = .ok (.aload_n 0, 1) := by decide +kernel
theorem dX7_digest_115 : decode cX7_digest 115 = .ok (.getfield 7, 3) := by decide +kernel
theorem dX7_digest_118 : decode cX7_digest 118 = .ok (.iconst 4, 1) := by decide +kernel
theorem dX7_digest_119 : decode cX7_digest 119 = .ok (.laload, 1) := by decide +kernel
theorem dX7_digest_120 : decode cX7_digest 120 = .ok (.lcmp, 1) := by decide +kernel
theorem dX7_digest_121 : decode cX7_digest 121 = .ok (.ifCond .ge 38, 3) := by decide +kernel
theorem dX7_digest_124 : decode cX7_digest 124 = .ok (.iconst 0, 1) := by decide +kernel
theorem dX7_digest_125 : decode cX7_digest 125 = .ok (.istore 4, 2) := by decide +kernel
theorem dX7_digest_127 : decode cX7_digest 127 = .ok (.iload 4, 2) := by decide +kernel
theorem dX7_digest_129 : decode cX7_digest 129 = .ok (.iconst 5, 1) := by decide +kernel
theorem dX7_digest_130 : decode cX7_digest 130 = .ok (.if_icmp .ge 23, 3) := by decide +kernel
theorem dX7_digest_133 : decode cX7_digest 133 = .ok (.ldc2_w 221, 3) := by decide +kernel
theorem dX7_digest_136 : decode cX7_digest 136 = .ok (.lload_n 1, 1) := by decide +kernel
theorem dX7_digest_137 : decode cX7_digest 137 = .ok (.lmul, 1) := by decide +kernel
theorem dX7_digest_138 : decode cX7_digest 138 = .ok (.aload_n 0, 1) := by decide +kernel
theorem dX7_digest_139 : decode cX7_digest 139 = .ok (.iload_n 3, 1) := by decide +kernel
theorem dX7_digest_140 : decode cX7_digest 140 = .ok (.iload 4, 2) := by decide +kernel
theorem dX7_digest_142 : decode cX7_digest 142 = .ok (.invokevirtual 165, 3) := by decide +kernel
theorem dX7_digest_145 : decode cX7_digest 145 = .ok (.ladd, 1) := by decide +kernel
theorem dX7_digest_146 : decode cX7_digest 146 = .ok (.lstore_n 1, 1) := by decide +kernel
theorem dX7_digest_147 : decode cX7_digest 147 = .ok (.iinc 4 1, 3) := by decide +kernel
theorem dX7_digest_150 : decode cX7_digest 150 = .ok (.goto (-23), 3) := by decide +kernel
theorem dX7_digest_153 : decode cX7_digest 153 = .ok (.iinc 3 1, 3) := by decide +kernel
theorem dX7_digest_156 : decode cX7_digest 156 = .ok (.goto (-44), 3) := by decide +kernel
theorem dX7_digest_159 : decode cX7_digest 159 = .ok (.iconst 0, 1) := by decide +kernel
theorem dX7_digest_160 : decode cX7_digest 160 = .ok (.istore_n 3, 1) := by decide +kernel
theorem dX7_digest_161 : decode cX7_digest 161 = .ok (.iload_n 3, 1) := by decide +kernel
theorem dX7_digest_162 : decode cX7_digest 162 = .ok (.aload_n 0, 1) := by decide +kernel
theorem dX7_digest_163 : decode cX7_digest 163 = .ok (.aload_n 0, 1) := by decide +kernel
theorem dX7_digest_164 : decode cX7_digest 164 = .ok (.getfield 7, 3) := by decide +kernel
theorem dX7_digest_167 : decode cX7_digest 167 = .ok (.iconst 0, 1) := by decide +kernel
theorem dX7_digest_168 : decode cX7_digest 168 = .ok (.laload, 1) := by decide +kernel
theorem dX7_digest_169 : decode cX7_digest 169 = .ok (.l2i, 1) := by decide +kernel
theorem dX7_digest_170 : decode cX7_digest 170 = .ok (.invokevirtual 170, 3) := by decide +kernel
theorem dX7_digest_173 : decode cX7_digest 173 = .ok (.if_icmp .ge 45, 3) := by decide +kernel
theorem dX7_digest_176 : decode cX7_digest 176 = .ok (.iconst 0, 1) := by decide +kernel
theorem dX7_digest_177 : decode cX7_digest 177 = .ok (.istore 4, 2) := by decide +kernel
theorem dX7_digest_179 : decode cX7_digest 179 = .ok (.iload 4, 2) := by decide +kernel
theorem dX7_digest_181 : decode cX7_digest 181 = .ok (.iconst 4, 1) := by decide +kernel
theorem dX7_digest_182 : decode cX7_digest 182 = .ok (.if_icmp .ge 30, 3) := by decide +kernel
theorem dX7_digest_185 : decode cX7_digest 185 = .ok (.ldc2_w 221, 3) := by decide +kernel
theorem dX7_digest_188 : decode cX7_digest 188 = .ok (.lload_n 1, 1) := by decide +kernel
theorem dX7_digest_189 : decode cX7_digest 189 = .ok (.lmul, 1) := by decide +kernel
theorem dX7_digest_190 : decode cX7_digest 190 = .ok (.aload_n 0, 1) := by decide +kernel
theorem dX7_digest_191 : decode cX7_digest 191 = .ok (.aload_n 0, 1) := by decide +kernel
theorem dX7_digest_192 : decode cX7_digest 192 = .ok (.getfield 7, 3) := by decide +kernel
theorem dX7_digest_195 : decode cX7_digest 195 = .ok (.iconst 0, 1) := by decide +kernel
theorem dX7_digest_196 : decode cX7_digest 196 = .ok (.laload, 1) := by decide +kernel
theorem dX7_digest_197 : decode cX7_digest 197 = .ok (.l2i, 1) := by decide +kernel
theorem dX7_digest_198 : decode cX7_digest 198 = .ok (.iload_n 3, 1) := by decide +kernel
theorem dX7_digest_199 : decode cX7_digest 199 = .ok (.iload 4, 2) := by decide +kernel
theorem dX7_digest_201 : decode cX7_digest 201 = .ok (.invokevirtual 173, 3) := by decide +kernel
theorem dX7_digest_204 : decode cX7_digest 204 = .ok (.ladd, 1) := by decide +kernel
theorem dX7_digest_205 : decode cX7_digest 205 = .ok (.lstore_n 1, 1) := by decide +kernel
theorem dX7_digest_206 : decode cX7_digest 206 = .ok (.iinc 4 1, 3) := by decide +kernel
theorem dX7_digest_209 : decode cX7_digest 209 = .ok (.goto (-30), 3) := by decide +kernel
theorem dX7_digest_212 : decode cX7_digest 212 = .ok (.iinc 3 1, 3) := by decide +kernel
theorem dX7_digest_215 : decode cX7_digest 215 = .ok (.goto (-54), 3) := by decide +kernel
theorem dX7_digest_218 : decode cX7_digest 218 = .ok (.iconst 0, 1) := by decide +kernel
theorem dX7_digest_219 : decode cX7_digest 219 = .ok (.istore_n 3, 1) := by decide +kernel
theorem dX7_digest_220 : decode cX7_digest 220 = .ok (.iload_n 3, 1) := by decide +kernel
theorem dX7_digest_221 : decode cX7_digest 221 = .ok (.bipush 6, 2) := by decide +kernel
theorem dX7_digest_223 : decode cX7_digest 223 = .ok (.if_icmp .ge 33, 3) := by decide +kernel
theorem dX7_digest_226 : decode cX7_digest 226 = .ok (.aload_n 0, 1) := by decide +kernel
theorem dX7_digest_227 : decode cX7_digest 227 = .ok (.getfield 7, 3) := by decide +kernel
theorem dX7_digest_230 : decode cX7_digest 230 = .ok (.iconst 4, 1) := by decide +kernel
theorem dX7_digest_231 : decode cX7_digest 231 = .ok (.laload, 1) := by decide +kernel
theorem dX7_digest_232 : decode cX7_digest 232 = .ok (.lconst 0, 1) := by decide +kernel
theorem dX7_digest_233 : decode cX7_digest 233 = .ok (.lcmp, 1) := by decide +kernel
theorem dX7_digest_234 : decode cX7_digest 234 = .ok (.ifCond .le 22, 3) := by decide +kernel
theorem dX7_digest_237 : decode cX7_digest 237 = .ok (.ldc2_w 221, 3) := by decide +kernel
theorem dX7_digest_240 : decode cX7_digest 240 = .ok (.lload_n 1, 1) := by decide +kernel
theorem dX7_digest_241 : decode cX7_digest 241 = .ok (.lmul, 1) := by decide +kernel
theorem dX7_digest_242 : decode cX7_digest 242 = .ok (.aload_n 0, 1) := by decide +kernel
theorem dX7_digest_243 : decode cX7_digest 243 = .ok (.iload_n 3, 1) := by decide +kernel
theorem dX7_digest_244 : decode cX7_digest 244 = .ok (.iconst 0, 1) := by decide +kernel
theorem dX7_digest_245 : decode cX7_digest 245 = .ok (.invokevirtual 177, 3) := by decide +kernel
theorem dX7_digest_248 : decode cX7_digest 248 = .ok (.ladd, 1) := by decide +kernel
theorem dX7_digest_249 : decode cX7_digest 249 = .ok (.lstore_n 1, 1) := by decide +kernel
theorem dX7_digest_250 : decode cX7_digest 250 = .ok (.iinc 3 1, 3) := by decide +kernel
theorem dX7_digest_253 : decode cX7_digest 253 = .ok (.goto (-33), 3) := by decide +kernel
theorem dX7_digest_256 : decode cX7_digest 256 = .ok (.iconst 0, 1) := by decide +kernel
theorem dX7_digest_257 : decode cX7_digest 257 = .ok (.istore_n 3, 1) := by decide +kernel
theorem dX7_digest_258 : decode cX7_digest 258 = .ok (.iload_n 3, 1) := by decide +kernel
theorem dX7_digest_259 : decode cX7_digest 259 = .ok (.bipush 10, 2) := by decide +kernel
theorem dX7_digest_261 : decode cX7_digest 261 = .ok (.if_icmp .ge 25, 3) := by decide +kernel
theorem dX7_digest_264 : decode cX7_digest 264 = .ok (.ldc2_w 221, 3) := by decide +kernel
theorem dX7_digest_267 : decode cX7_digest 267 = .ok (.lload_n 1, 1) := by decide +kernel
theorem dX7_digest_268 : decode cX7_digest 268 = .ok (.lmul, 1) := by decide +kernel
theorem dX7_digest_269 : decode cX7_digest 269 = .ok (.aload_n 0, 1) := by decide +kernel
theorem dX7_digest_270 : decode cX7_digest 270 = .ok (.getfield 7, 3) := by decide +kernel
theorem dX7_digest_273 : decode cX7_digest 273 = .ok (.bipush 13, 2) := by decide +kernel
theorem dX7_digest_275 : decode cX7_digest 275 = .ok (.iload_n 3, 1) := by decide +kernel
theorem dX7_digest_276 : decode cX7_digest 276 = .ok (.iadd, 1) := by decide +kernel
theorem dX7_digest_277 : decode cX7_digest 277 = .ok (.laload, 1) := by decide +kernel
theorem dX7_digest_278 : decode cX7_digest 278 = .ok (.ladd, 1) := by decide +kernel
theorem dX7_digest_279 : decode cX7_digest 279 = .ok (.lstore_n 1, 1) := by decide +kernel
theorem dX7_digest_280 : decode cX7_digest 280 = .ok (.iinc 3 1, 3) := by decide +kernel
theorem dX7_digest_283 : decode cX7_digest 283 = .ok (.goto (-25), 3) := by decide +kernel
theorem dX7_digest_286 : decode cX7_digest 286 = .ok (.iconst 0, 1) := by decide +kernel
theorem dX7_digest_287 : decode cX7_digest 287 = .ok (.istore_n 3, 1) := by decide +kernel
theorem dX7_digest_288 : decode cX7_digest 288 = .ok (.iload_n 3, 1) := by decide +kernel
theorem dX7_digest_289 : decode cX7_digest 289 = .ok (.iconst 3, 1) := by decide +kernel
theorem dX7_digest_290 : decode cX7_digest 290 = .ok (.if_icmp .ge 21, 3) := by decide +kernel
theorem dX7_digest_293 : decode cX7_digest 293 = .ok (.ldc2_w 221, 3) := by decide +kernel
theorem dX7_digest_296 : decode cX7_digest 296 = .ok (.lload_n 1, 1) := by decide +kernel
theorem dX7_digest_297 : decode cX7_digest 297 = .ok (.lmul, 1) := by decide +kernel
theorem dX7_digest_298 : decode cX7_digest 298 = .ok (.aload_n 0, 1) := by decide +kernel
theorem dX7_digest_299 : decode cX7_digest 299 = .ok (.iload_n 3, 1) := by decide +kernel
theorem dX7_digest_300 : decode cX7_digest 300 = .ok (.invokevirtual 200, 3) := by decide +kernel
theorem dX7_digest_303 : decode cX7_digest 303 = .ok (.ladd, 1) := by decide +kernel
theorem dX7_digest_304 : decode cX7_digest 304 = .ok (.lstore_n 1, 1) := by decide +kernel
theorem dX7_digest_305 : decode cX7_digest 305 = .ok (.iinc 3 1, 3) := by decide +kernel
theorem dX7_digest_308 : decode cX7_digest 308 = .ok (.goto (-20), 3) := by decide +kernel
theorem dX7_digest_311 : decode cX7_digest 311 = .ok (.iconst 0, 1) := by decide +kernel
theorem dX7_digest_312 : decode cX7_digest 312 = .ok (.istore_n 3, 1) := by decide +kernel
theorem dX7_digest_313 : decode cX7_digest 313 = .ok (.iload_n 3, 1) := by decide +kernel
theorem dX7_digest_314 : decode cX7_digest 314 = .ok (.iconst 3, 1) := by decide +kernel
theorem dX7_digest_315 : decode cX7_digest 315 = .ok (.if_icmp .ge 22, 3) := by decide +kernel
theorem dX7_digest_318 : decode cX7_digest 318 = .ok (.ldc2_w 221, 3) := by decide +kernel
theorem dX7_digest_321 : decode cX7_digest 321 = .ok (.lload_n 1, 1) := by decide +kernel
theorem dX7_digest_322 : decode cX7_digest 322 = .ok (.lmul, 1) := by decide +kernel
theorem dX7_digest_323 : decode cX7_digest 323 = .ok (.aload_n 0, 1) := by decide +kernel
theorem dX7_digest_324 : decode cX7_digest 324 = .ok (.iconst 3, 1) := by decide +kernel
theorem dX7_digest_325 : decode cX7_digest 325 = .ok (.iload_n 3, 1) := by decide +kernel
theorem dX7_digest_326 : decode cX7_digest 326 = .ok (.invokevirtual 203, 3) := by decide +kernel
theorem dX7_digest_329 : decode cX7_digest 329 = .ok (.ladd, 1) := by decide +kernel
theorem dX7_digest_330 : decode cX7_digest 330 = .ok (.lstore_n 1, 1) := by decide +kernel
theorem dX7_digest_331 : decode cX7_digest 331 = .ok (.iinc 3 1, 3) := by decide +kernel
theorem dX7_digest_334 : decode cX7_digest 334 = .ok (.goto (-21), 3) := by decide +kernel
theorem dX7_digest_337 : decode cX7_digest 337 = .ok (.ldc2_w 221, 3) := by decide +kernel
theorem dX7_digest_340 : decode cX7_digest 340 = .ok (.ldc2_w 221, 3) := by decide +kernel
theorem dX7_digest_343 : decode cX7_digest 343 = .ok (.lload_n 1, 1) := by decide +kernel
theorem dX7_digest_344 : decode cX7_digest 344 = .ok (.lmul, 1) := by decide +kernel
theorem dX7_digest_345 : decode cX7_digest 345 = .ok (.aload_n 0, 1) := by decide +kernel
theorem dX7_digest_346 : decode cX7_digest 346 = .ok (.invokevirtual 209, 3) := by decide +kernel
theorem dX7_digest_349 : decode cX7_digest 349 = .ok (.i2l, 1) := by decide +kernel
theorem dX7_digest_350 : decode cX7_digest 350 = .ok (.ladd, 1) := by decide +kernel
theorem dX7_digest_351 : decode cX7_digest 351 = .ok (.lmul, 1) := by decide +kernel
theorem dX7_digest_352 : decode cX7_digest 352 = .ok (.aload_n 0, 1) := by decide +kernel
theorem dX7_digest_353 : decode cX7_digest 353 = .ok (.invokevirtual 212, 3) := by decide +kernel
theorem dX7_digest_356 : decode cX7_digest 356 = .ok (.i2l, 1) := by decide +kernel
theorem dX7_digest_357 : decode cX7_digest 357 = .ok (.ladd, 1) := by decide +kernel
theorem dX7_digest_358 : decode cX7_digest 358 = .ok (.lstore_n 1, 1) := by decide +kernel
theorem dX7_digest_359 : decode cX7_digest 359 = .ok (.ldc2_w 221, 3) := by decide +kernel
theorem dX7_digest_362 : decode cX7_digest 362 = .ok (.ldc2_w 221, 3) := by decide +kernel
theorem dX7_digest_365 : decode cX7_digest 365 = .ok (.lload_n 1, 1) := by decide +kernel
theorem dX7_digest_366 : decode cX7_digest 366 = .ok (.lmul, 1) := by decide +kernel
theorem dX7_digest_367 : decode cX7_digest 367 = .ok (.aload_n 0, 1) := by decide +kernel
theorem dX7_digest_368 : decode cX7_digest 368 = .ok (.invokevirtual 215, 3) := by decide +kernel
theorem dX7_digest_371 : decode cX7_digest 371 = .ok (.invokestatic 223, 3) := by decide +kernel
theorem dX7_digest_374 : decode cX7_digest 374 = .ok (.ladd, 1) := by decide +kernel
theorem dX7_digest_375 : decode cX7_digest 375 = .ok (.lmul, 1) := by decide +kernel
theorem dX7_digest_376 : decode cX7_digest 376 = .ok (.aload_n 0, 1) := by decide +kernel
theorem dX7_digest_377 : decode cX7_digest 377 = .ok (.getfield 119, 3) := by decide +kernel
theorem dX7_digest_380 : decode cX7_digest 380 = .ok (.i2l, 1) := by decide +kernel
theorem dX7_digest_381 : decode cX7_digest 381 = .ok (.ladd, 1) := by decide +kernel
theorem dX7_digest_382 : decode cX7_digest 382 = .ok (.lstore_n 1, 1) := by decide +kernel
theorem dX7_digest_383 : decode cX7_digest 383 = .ok (.iconst 0, 1) := by decide +kernel
theorem dX7_digest_384 : decode cX7_digest 384 = .ok (.istore_n 3, 1) := by decide +kernel
theorem dX7_digest_385 : decode cX7_digest 385 = .ok (.iload_n 3, 1) := by decide +kernel
theorem dX7_digest_386 : decode cX7_digest 386 = .ok (.aload_n 0, 1) := by decide +kernel
theorem dX7_digest_387 : decode cX7_digest 387 = .ok (.getfield 119, 3) := by decide +kernel
theorem dX7_digest_390 : decode cX7_digest 390 = .ok (.if_icmp .ge 23, 3) := by decide +kernel
theorem dX7_digest_393 : decode cX7_digest 393 = .ok (.ldc2_w 221, 3) := by decide +kernel
theorem dX7_digest_396 : decode cX7_digest 396 = .ok (.lload_n 1, 1) := by decide +kernel
theorem dX7_digest_397 : decode cX7_digest 397 = .ok (.lmul, 1) := by decide +kernel
theorem dX7_digest_398 : decode cX7_digest 398 = .ok (.aload_n 0, 1) := by decide +kernel
theorem dX7_digest_399 : decode cX7_digest 399 = .ok (.getfield 19, 3) := by decide +kernel
theorem dX7_digest_402 : decode cX7_digest 402 = .ok (.iload_n 3, 1) := by decide +kernel
theorem dX7_digest_403 : decode cX7_digest 403 = .ok (.iaload, 1) := by decide +kernel
theorem dX7_digest_404 : decode cX7_digest 404 = .ok (.i2l, 1) := by decide +kernel
theorem dX7_digest_405 : decode cX7_digest 405 = .ok (.ladd, 1) := by decide +kernel
theorem dX7_digest_406 : decode cX7_digest 406 = .ok (.lstore_n 1, 1) := by decide +kernel
theorem dX7_digest_407 : decode cX7_digest 407 = .ok (.iinc 3 1, 3) := by decide +kernel
theorem dX7_digest_410 : decode cX7_digest 410 = .ok (.goto (-25), 3) := by decide +kernel
theorem dX7_digest_413 : decode cX7_digest 413 = .ok (.lload_n 1, 1) := by decide +kernel
theorem dX7_digest_414 : decode cX7_digest 414 = .ok (.lreturn, 1) := by decide +kernel
