theorem dX0_init_0 : decode cX0_init 0 = .ok (.aload_n 0, 1) := by decide +kernel
theorem dX0_init_1 : decode cX0_init 1 = .ok (.invokespecial 3, 3) := by decide +kernel
theorem dX0_init_4 : decode cX0_init 4 = .ok (.aload_n 0, 1) := by decide +kernel
theorem dX0_init_5 : decode cX0_init 5 = .ok (.bipush 40, 2) := by decide +kernel
theorem dX0_init_7 : decode cX0_init 7 = .ok (.newarray .long, 2) := by decide +kernel
theorem dX0_init_9 : decode cX0_init 9 = .ok (.putfield 9, 3) := by decide +kernel
theorem dX0_init_12 : decode cX0_init 12 = .ok (.return_, 1) := by decide +kernel
theorem dX0_clear_0 : decode cX0_clear 0 = .ok (.aload_n 0, 1) := by decide +kernel
theorem dX0_clear_1 : decode cX0_clear 1 = .ok (.iconst 0, 1) := by decide +kernel
theorem dX0_clear_2 : decode cX0_clear 2 = .ok (.putfield 15, 3) := by decide +kernel
theorem dX0_clear_5 : decode cX0_clear 5 = .ok (.return_, 1) := by decide +kernel
theorem dX0_put_0 : decode cX0_put 0 = .ok (.aload_n 0, 1) := by decide +kernel
theorem dX0_put_1 : decode cX0_put 1 = .ok (.getfield 15, 3) := by decide +kernel
theorem dX0_put_4 : decode cX0_put 4 = .ok (.aload_n 0, 1) := by decide +kernel
theorem dX0_put_5 : decode cX0_put 5 = .ok (.getfield 9, 3) := by decide +kernel
theorem dX0_put_8 : decode cX0_put 8 = .ok (.arraylength, 1) := by decide +kernel
theorem dX0_put_9 : decode cX0_put 9 = .ok (.if_icmp .ge 23, 3) := by decide +kernel
theorem dX0_put_12 : decode cX0_put 12 = .ok (.aload_n 0, 1) := by decide +kernel
theorem dX0_put_13 : decode cX0_put 13 = .ok (.getfield 9, 3) := by decide +kernel
theorem dX0_put_16 : decode cX0_put 16 = .ok (.aload_n 0, 1) := by decide +kernel
theorem dX0_put_17 : decode cX0_put 17 = .ok (.getfield 15, 3) := by decide +kernel
theorem dX0_put_20 : decode cX0_put 20 = .ok (.lload_n 1, 1) := by decide +kernel
theorem dX0_put_21 : decode cX0_put 21 = .ok (.lastore, 1) := by decide +kernel
theorem dX0_put_22 : decode cX0_put 22 = .ok (.aload_n 0, 1) := by decide +kernel
theorem dX0_put_23 : decode cX0_put 23 = .ok (.dup, 1) := by decide +kernel
theorem dX0_put_24 : decode cX0_put 24 = .ok (.getfield 15, 3) := by decide +kernel
theorem dX0_put_27 : decode cX0_put 27 = .ok (.iconst 1, 1) := by decide +kernel
theorem dX0_put_28 : decode cX0_put 28 = .ok (.iadd, 1) := by decide +kernel
theorem dX0_put_29 : decode cX0_put 29 = .ok (.putfield 15, 3) := by decide +kernel
theorem dX0_put_32 : decode cX0_put 32 = .ok (.return_, 1) := by decide +kernel
theorem dX0_raiseOrder_0 : decode cX0_raiseOrder 0 = .ok (.iconst 0, 1) := by decide +kernel
theorem dX0_raiseOrder_1 : decode cX0_raiseOrder 1 = .ok (.istore_n 1, 1) := by decide +kernel
theorem dX0_raiseOrder_2 : decode cX0_raiseOrder 2 = .ok (.iload_n 1, 1) := by decide +kernel
theorem dX0_raiseOrder_3 : decode cX0_raiseOrder 3 = .ok (.iconst 1, 1) := by decide +kernel
theorem dX0_raiseOrder_4 : decode cX0_raiseOrder 4 = .ok (.iadd, 1) := by decide +kernel
theorem dX0_raiseOrder_5 : decode cX0_raiseOrder 5 = .ok (.aload_n 0, 1) := by decide +kernel
theorem dX0_raiseOrder_6 : decode cX0_raiseOrder 6 = .ok (.getfield 15, 3) := by decide +kernel
theorem dX0_raiseOrder_9 : decode cX0_raiseOrder 9 = .ok (.if_icmp .ge 30, 3) := by decide +kernel
theorem dX0_raiseOrder_12 : decode cX0_raiseOrder 12 = .ok (.aload_n 0, 1) := by decide +kernel
theorem dX0_raiseOrder_13 : decode cX0_raiseOrder 13 = .ok (.getfield 9, 3) := by decide +kernel
theorem dX0_raiseOrder_16 : decode cX0_raiseOrder 16 = .ok (.iload_n 1, 1) := by decide +kernel
theorem dX0_raiseOrder_17 : decode cX0_raiseOrder 17 = .ok (.aload_n 0, 1) := by decide +kernel
theorem dX0_raiseOrder_18 : decode cX0_raiseOrder 18 = .ok (.getfield 9, 3) := by decide +kernel
theorem dX0_raiseOrder_21 : decode cX0_raiseOrder 21 = .ok (.iload_n 1, 1) := by decide +kernel
theorem dX0_raiseOrder_22 : decode cX0_raiseOrder 22 = .ok (.iconst 1, 1) := by decide +kernel
theorem dX0_raiseOrder_23 : decode cX0_raiseOrder 23 = .ok (.iadd, 1) := by decide +kernel
theorem dX0_raiseOrder_24 : decode cX0_raiseOrder 24 = .ok (.laload, 1) := by decide +kernel
theorem dX0_raiseOrder_25 : decode cX0_raiseOrder 25 = .ok (.aload_n 0, 1) := by decide +kernel
theorem dX0_raiseOrder_26 : decode cX0_raiseOrder 26 = .ok (.getfield 9, 3) := by decide +kernel
theorem dX0_raiseOrder_29 : decode cX0_raiseOrder 29 = .ok (.iload_n 1, 1) := by decide +kernel
theorem dX0_raiseOrder_30 : decode cX0_raiseOrder 30 = .ok (.laload, 1) := by decide +kernel
theorem dX0_raiseOrder_31 : decode cX0_raiseOrder 31 = .ok (.lsub, 1) := by decide +kernel
theorem dX0_raiseOrder_32 : decode cX0_raiseOrder 32 = .ok (.lastore, 1) := by decide +kernel
theorem dX0_raiseOrder_33 : decode cX0_raiseOrder 33 = .ok (.iinc 1 1, 3) := by decide +kernel
theorem dX0_raiseOrder_36 : decode cX0_raiseOrder 36 = .ok (.goto (-34), 3) := by decide +kernel
theorem dX0_raiseOrder_39 : decode cX0_raiseOrder 39 = .ok (.aload_n 0, 1) := by decide +kernel
theorem dX0_raiseOrder_40 : decode cX0_raiseOrder 40 = .ok (.getfield 15, 3) := by decide +kernel
theorem dX0_raiseOrder_43 : decode cX0_raiseOrder 43 = .ok (.ifCond .le 13, 3) := by decide +kernel
theorem dX0_raiseOrder_46 : decode cX0_raiseOrder 46 = .ok (.aload_n 0, 1) := by decide +kernel
theorem dX0_raiseOrder_47 : decode cX0_raiseOrder 47 = .ok (.dup, 1) := by decide +kernel
theorem dX0_raiseOrder_48 : decode cX0_raiseOrder 48 = .ok (.getfield 15, 3) := by decide +kernel
theorem dX0_raiseOrder_51 : decode cX0_raiseOrder 51 = .ok (.iconst 1, 1) := by decide +kernel
theorem dX0_raiseOrder_52 : decode cX0_raiseOrder 52 = .ok (.isub, 1) := by decide +kernel
theorem dX0_raiseOrder_53 : decode cX0_raiseOrder 53 = .ok (.putfield 15, 3) := by decide +kernel
theorem dX0_raiseOrder_56 : decode cX0_raiseOrder 56 = .ok (.return_, 1) := by decide +kernel
theorem dX0_leading_0 : decode cX0_leading 0 = .ok (.aload_n 0, 1) := by decide +kernel
theorem dX0_leading_1 : decode cX0_leading 1 = .ok (.getfield 15, 3) := by decide +kernel
theorem dX0_leading_4 : decode cX0_leading 4 = .ok (.ifCond .le 12, 3) := by decide +kernel
theorem dX0_leading_7 : decode cX0_leading 7 = .ok (.aload_n 0, 1) := by decide +kernel
theorem dX0_leading_8 : decode cX0_leading 8 = .ok (.getfield 9, 3) := by decide +kernel
theorem dX0_leading_11 : decode cX0_leading 11 = .ok (.iconst 0, 1) := by decide +kernel
theorem dX0_leading_12 : decode cX0_leading 12 = .ok (.laload, 1) := by decide +kernel
theorem dX0_leading_13 : decode cX0_leading 13 = .ok (.goto 4, 3) := by decide +kernel
theorem dX0_leading_16 : decode cX0_leading 16 = .ok (.lconst 0, 1) := by decide +kernel
theorem dX0_leading_17 : decode cX0_leading 17 = .ok (.lreturn, 1) := by decide +kernel
theorem dX0_areOneNumber_0 : decode cX0_areOneNumber 0 = .ok (.iconst 1, 1) := by decide +kernel
theorem dX0_areOneNumber_1 : decode cX0_areOneNumber 1 = .ok (.istore_n 1, 1) := by decide +kernel
theorem dX0_areOneNumber_2 : decode cX0_areOneNumber 2 = .ok (.iload_n 1, 1) := by decide +kernel
theorem dX0_areOneNumber_3 : decode cX0_areOneNumber 3 = .ok (.aload_n 0, 1) := by decide +kernel
theorem dX0_areOneNumber_4 : decode cX0_areOneNumber 4 = .ok (.getfield 15, 3) := by decide +kernel
theorem dX0_areOneNumber_7 : decode cX0_areOneNumber 7 = .ok (.if_icmp .ge 27, 3) := by decide +kernel
theorem dX0_areOneNumber_10 : decode cX0_areOneNumber 10 = .ok (.aload_n 0, 1) := by decide +kernel
theorem dX0_areOneNumber_11 : decode cX0_areOneNumber 11 = .ok (.getfield 9, 3) := by decide +kernel
theorem dX0_areOneNumber_14 : decode cX0_areOneNumber 14 = .ok (.iload_n 1, 1) := by decide +kernel
theorem dX0_areOneNumber_15 : decode cX0_areOneNumber 15 = .ok (.laload, 1) := by decide +kernel
theorem dX0_areOneNumber_16 : decode cX0_areOneNumber 16 = .ok (.aload_n 0, 1) := by decide +kernel
theorem dX0_areOneNumber_17 : decode cX0_areOneNumber 17 = .ok (.getfield 9, 3) := by decide +kernel
theorem dX0_areOneNumber_20 : decode cX0_areOneNumber 20 = .ok (.iconst 0, 1) := by decide +kernel
theorem dX0_areOneNumber_21 : decode cX0_areOneNumber 21 = .ok (.laload, 1) := by decide +kernel
theorem dX0_areOneNumber_22 : decode cX0_areOneNumber 22 = .ok (.lcmp, 1) := by decide +kernel
theorem dX0_areOneNumber_23 : decode cX0_areOneNumber 23 = .ok (.ifCond .eq 5, 3) := by decide +kernel
theorem dX0_areOneNumber_26 : decode cX0_areOneNumber 26 = .ok (.iconst 0, 1) := by decide +kernel
theorem dX0_areOneNumber_27 : decode cX0_areOneNumber 27 = .ok (.ireturn, 1) := by decide +kernel
theorem dX0_areOneNumber_28 : decode cX0_areOneNumber 28 = .ok (.iinc 1 1, 3) := by decide +kernel
theorem dX0_areOneNumber_31 : decode cX0_areOneNumber 31 = .ok (.goto (-29), 3) := by decide +kernel
theorem dX0_areOneNumber_34 : decode cX0_areOneNumber 34 = .ok (.aload_n 0, 1) := by decide +kernel
theorem dX0_areOneNumber_35 : decode cX0_areOneNumber 35 = .ok (.getfield 15, 3) := by decide +kernel
theorem dX0_areOneNumber_38 : decode cX0_areOneNumber 38 = .ok (.iconst 2, 1) := by decide +kernel
theorem dX0_areOneNumber_39 : decode cX0_areOneNumber 39 = .ok (.if_icmp .lt 18, 3) := by decide +kernel
theorem dX0_areOneNumber_42 : decode cX0_areOneNumber 42 = .ok (.aload_n 0, 1) := by decide +kernel
theorem dX0_areOneNumber_43 : decode cX0_areOneNumber 43 = .ok (.getfield 9, 3) := by decide +kernel
theorem dX0_areOneNumber_46 : decode cX0_areOneNumber 46 = .ok (.iconst 0, 1) := by decide +kernel
theorem dX0_areOneNumber_47 : decode cX0_areOneNumber 47 = .ok (.laload, 1) := by decide +kernel
theorem dX0_areOneNumber_48 : decode cX0_areOneNumber 48 = .ok (.lconst 0, 1) := by decide +kernel
theorem dX0_areOneNumber_49 : decode cX0_areOneNumber 49 = .ok (.lcmp, 1) := by decide +kernel
theorem dX0_areOneNumber_50 : decode cX0_areOneNumber 50 = .ok (.ifCond .eq 7, 3) := by decide +kernel
theorem dX0_areOneNumber_53 : decode cX0_areOneNumber 53 = .ok (.iconst 1, 1) := by decide +kernel
theorem dX0_areOneNumber_54 : decode cX0_areOneNumber 54 = .ok (.goto 4, 3) := by decide +kernel
theorem dX0_areOneNumber_57 : decode cX0_areOneNumber 57 = .ok (.iconst 0, 1) := by decide +kernel
theorem dX0_areOneNumber_58 : decode cX0_areOneNumber 58 = .ok (.ireturn, 1) := by decide +kernel
theorem dX1_init_0 : decode cX1_init 0 = .ok (.aload_n 0, 1) := by decide +kernel
theorem dX1_init_1 : decode cX1_init 1 = .ok (.invokespecial 1, 3) := by decide +kernel
theorem dX1_init_4 : decode cX1_init 4 = .ok (.aload_n 0, 1) := by decide +kernel
theorem dX1_init_5 : decode cX1_init 5 = .ok (.bipush 60, 2) := by decide +kernel
theorem dX1_init_7 : decode cX1_init 7 = .ok (.newarray .int, 2) := by decide +kernel
theorem dX1_init_9 : decode cX1_init 9 = .ok (.putfield 9, 3) := by decide +kernel
theorem dX1_init_12 : decode cX1_init 12 = .ok (.return_, 1) := by decide +kernel
theorem dX1_isCode_0 : decode cX1_isCode 0 = .ok (.iload_n 0, 1) := by decide +kernel
theorem dX1_isCode_1 : decode cX1_isCode 1 = .ok (.bipush 33, 2) := by decide +kernel
theorem dX1_isCode_3 : decode cX1_isCode 3 = .ok (.if_icmp .lt 13, 3) := by decide +kernel
theorem dX1_isCode_6 : decode cX1_isCode 6 = .ok (.iload_n 0, 1) := by decide +kernel
theorem dX1_isCode_7 : decode cX1_isCode 7 = .ok (.bipush 126, 2) := by decide +kernel
theorem dX1_isCode_9 : decode cX1_isCode 9 = .ok (.if_icmp .gt 7, 3) := by decide +kernel
theorem dX1_isCode_12 : decode cX1_isCode 12 = .ok (.iconst 1, 1) := by decide +kernel
theorem dX1_isCode_13 : decode cX1_isCode 13 = .ok (.goto 4, 3) := by decide +kernel
theorem dX1_isCode_16 : decode cX1_isCode 16 = .ok (.iconst 0, 1) := by decide +kernel
theorem dX1_isCode_17 : decode cX1_isCode 17 = .ok (.ireturn, 1) := by decide +kernel
theorem dX1_isFull_0 : decode cX1_isFull 0 = .ok (.aload_n 0, 1) := by decide +kernel
theorem dX1_isFull_1 : decode cX1_isFull 1 = .ok (.getfield 13, 3) := by decide +kernel
theorem dX1_isFull_4 : decode cX1_isFull 4 = .ok (.bipush 60, 2) := by decide +kernel
theorem dX1_isFull_6 : decode cX1_isFull 6 = .ok (.if_icmp .lt 7, 3) := by decide +kernel
theorem dX1_isFull_9 : decode cX1_isFull 9 = .ok (.iconst 1, 1) := by decide +kernel
theorem dX1_isFull_10 : decode cX1_isFull 10 = .ok (.goto 4, 3) := by decide +kernel
theorem dX1_isFull_13 : decode cX1_isFull 13 = .ok (.iconst 0, 1) := by decide +kernel
theorem dX1_isFull_14 : decode cX1_isFull 14 = .ok (.ireturn, 1) := by decide +kernel
theorem dX1_add_0 : decode cX1_add 0 = .ok (.aload_n 0, 1) := by decide +kernel
theorem dX1_add_1 : decode cX1_add 1 = .ok (.getfield 13, 3) := by decide +kernel
theorem dX1_add_4 : decode cX1_add 4 = .ok (.bipush 60, 2) := by decide +kernel
theorem dX1_add_6 : decode cX1_add 6 = .ok (.if_icmp .ge 23, 3) := by decide +kernel
theorem dX1_add_9 : decode cX1_add 9 = .ok (.aload_n 0, 1) := by decide +kernel
theorem dX1_add_10 : decode cX1_add 10 = .ok (.getfield 9, 3) := by decide +kernel
theorem dX1_add_13 : decode cX1_add 13 = .ok (.aload_n 0, 1) := by decide +kernel
theorem dX1_add_14 : decode cX1_add 14 = .ok (.getfield 13, 3) := by decide +kernel
theorem dX1_add_17 : decode cX1_add 17 = .ok (.iload_n 1, 1) := by decide +kernel
theorem dX1_add_18 : decode cX1_add 18 = .ok (.iastore, 1) := by decide +kernel
theorem dX1_add_19 : decode cX1_add 19 = .ok (.aload_n 0, 1) := by decide +kernel
theorem dX1_add_20 : decode cX1_add 20 = .ok (.dup, 1) := by decide +kernel
theorem dX1_add_21 : decode cX1_add 21 = .ok (.getfield 13, 3) := by decide +kernel
theorem dX1_add_24 : decode cX1_add 24 = .ok (.iconst 1, 1) := by decide +kernel
theorem dX1_add_25 : decode cX1_add 25 = .ok (.iadd, 1) := by decide +kernel
theorem dX1_add_26 : decode cX1_add 26 = .ok (.putfield 13, 3) := by decide +kernel
theorem dX1_add_29 : decode cX1_add 29 = .ok (.return_, 1) := by decide +kernel
theorem dX1_codeAt_0 : decode cX1_codeAt 0 = .ok (.iload_n 1, 1) := by decide +kernel
theorem dX1_codeAt_1 : decode cX1_codeAt 1 = .ok (.ifCond .lt 20, 3) := by decide +kernel
theorem dX1_codeAt_4 : decode cX1_codeAt 4 = .ok (.iload_n 1, 1) := by decide +kernel
theorem dX1_codeAt_5 : decode cX1_codeAt 5 = .ok (.aload_n 0, 1) := by decide +kernel
theorem dX1_codeAt_6 : decode cX1_codeAt 6 = .ok (.getfield 13, 3) := by decide +kernel
theorem dX1_codeAt_9 : decode cX1_codeAt 9 = .ok (.if_icmp .ge 12, 3) := by decide +kernel
theorem dX1_codeAt_12 : decode cX1_codeAt 12 = .ok (.aload_n 0, 1) := by decide +kernel
theorem dX1_codeAt_13 : decode cX1_codeAt 13 = .ok (.getfield 9, 3) := by decide +kernel
theorem dX1_codeAt_16 : decode cX1_codeAt 16 = .ok (.iload_n 1, 1) := by decide +kernel
theorem dX1_codeAt_17 : decode cX1_codeAt 17 = .ok (.iaload, 1) := by decide +kernel
theorem dX1_codeAt_18 : decode cX1_codeAt 18 = .ok (.goto 4, 3) := by decide +kernel
theorem dX1_codeAt_21 : decode cX1_codeAt 21 = .ok (.iconst 0, 1) := by decide +kernel
theorem dX1_codeAt_22 : decode cX1_codeAt 22 = .ok (.ireturn, 1) := by decide +kernel
set_option maxRecDepth 20000 in
theorem ggX1_errorIndex_X1_nextBehind : GoodIn wsX1_errorIndex wsX1_nextBehind := goodIn_r _ [6, 7, 8, 5, 9, 10, 11, 12, 13, 14, 15, 16, 17, 18] (by decide +kernel) (by decide +kernel)
set_option maxRecDepth 20000 in
theorem gX1_errorIndex_X1_nextBehind : GoodIn wsX1_errorIndex (va_wsS RX1 17 yX1_nextBehind wsX1_nextBehind) := goodIn_app (goodIn_of _ (by decide +kernel)) ggX1_errorIndex_X1_nextBehind
theorem dX1_errorIndex_0 : decode cX1_errorIndex 0 = .ok (.iconst 0, 1) := by decide +kernel
theorem dX1_errorIndex_1 : decode cX1_errorIndex 1 = .ok (.istore_n 1, 1) := by decide +kernel
theorem dX1_errorIndex_2 : decode cX1_errorIndex 2 = .ok (.iconst 0, 1) := by decide +kernel
theorem dX1_errorIndex_3 : decode cX1_errorIndex 3 = .ok (.istore_n 2, 1) := by decide +kernel
theorem dX1_errorIndex_4 : decode cX1_errorIndex 4 = .ok (.iload_n 2, 1) := by decide +kernel
theorem dX1_errorIndex_5 : decode cX1_errorIndex 5 = .ok (.aload_n 0, 1) := by decide +kernel
theorem dX1_errorIndex_6 : decode cX1_errorIndex 6 = .ok (.getfield 13, 3) := by decide +kernel
theorem dX1_errorIndex_9 : decode cX1_errorIndex 9 = .ok (.if_icmp .ge 27, 3) := by decide +kernel
theorem dX1_errorIndex_12 : decode cX1_errorIndex 12 = .ok (.iload_n 1, 1) := by decide +kernel
theorem dX1_errorIndex_13 : decode cX1_errorIndex 13 = .ok (.aload_n 0, 1) := by decide +kernel
theorem dX1_errorIndex_14 : decode cX1_errorIndex 14 = .ok (.getfield 9, 3) := by decide +kernel
theorem dX1_errorIndex_17 : decode cX1_errorIndex 17 = .ok (.iload_n 2, 1) := by decide +kernel
theorem dX1_errorIndex_18 : decode cX1_errorIndex 18 = .ok (.iaload, 1) := by decide +kernel
theorem dX1_errorIndex_19 : decode cX1_errorIndex 19 = .ok (.invokestatic 17, 3) := by decide +kernel
theorem dX1_errorIndex_22 : decode cX1_errorIndex 22 = .ok (.istore_n 1, 1) := by decide +kernel
theorem dX1_errorIndex_23 : decode cX1_errorIndex 23 = .ok (.iload_n 1, 1) := by decide +kernel
theorem dX1_errorIndex_24 : decode cX1_errorIndex 24 = .ok (.iconst (-1), 1) := by decide +kernel
theorem dX1_errorIndex_25 : decode cX1_errorIndex 25 = .ok (.if_icmp .ne 5, 3) := by decide +kernel
theorem dX1_errorIndex_28 : decode cX1_errorIndex 28 = .ok (.iload_n 2, 1) := by decide +kernel
theorem dX1_errorIndex_29 : decode cX1_errorIndex 29 = .ok (.ireturn, 1) := by decide +kernel
theorem dX1_errorIndex_30 : decode cX1_errorIndex 30 = .ok (.iinc 2 1, 3) := by decide +kernel
theorem dX1_errorIndex_33 : decode cX1_errorIndex 33 = .ok (.goto (-29), 3) := by decide +kernel
theorem dX1_errorIndex_36 : decode cX1_errorIndex 36 = .ok (.aload_n 0, 1) := by decide +kernel
theorem dX1_errorIndex_37 : decode cX1_errorIndex 37 = .ok (.getfield 13, 3) := by decide +kernel
theorem dX1_errorIndex_40 : decode cX1_errorIndex 40 = .ok (.ireturn, 1) := by decide +kernel
set_option maxRecDepth 20000 in
theorem ggX1_isComplete_X1_nextBehind : GoodIn wsX1_isComplete wsX1_nextBehind := goodIn_r _ [6, 7, 8, 5, 9, 10, 11, 12, 13, 14, 15, 16, 17, 18] (by decide +kernel) (by decide +kernel)
set_option maxRecDepth 20000 in
theorem gX1_isComplete_X1_nextBehind : GoodIn wsX1_isComplete (va_wsS RX1 17 yX1_nextBehind wsX1_nextBehind) := goodIn_app (goodIn_of _ (by decide +kernel)) ggX1_isComplete_X1_nextBehind
theorem dX1_isComplete_0 : decode cX1_isComplete 0 = .ok (.iconst 0, 1) := by decide +kernel
theorem dX1_isComplete_1 : decode cX1_isComplete 1 = .ok (.istore_n 1, 1) := by decide +kernel
theorem dX1_isComplete_2 : decode cX1_isComplete 2 = .ok (.iconst 0, 1) := by decide +kernel
theorem dX1_isComplete_3 : decode cX1_isComplete 3 = .ok (.istore_n 2, 1) := by decide +kernel
theorem dX1_isComplete_4 : decode cX1_isComplete 4 = .ok (.iload_n 2, 1) := by decide +kernel
theorem dX1_isComplete_5 : decode cX1_isComplete 5 = .ok (.aload_n 0, 1) := by decide +kernel
theorem dX1_isComplete_6 : decode cX1_isComplete 6 = .ok (.getfield 13, 3) := by decide +kernel
theorem dX1_isComplete_9 : decode cX1_isComplete 9 = .ok (.if_icmp .ge 20, 3) := by decide +kernel
theorem dX1_isComplete_12 : decode cX1_isComplete 12 = .ok (.iload_n 1, 1) := by decide +kernel
theorem dX1_isComplete_13 : decode cX1_isComplete 13 = .ok (.aload_n 0, 1) := by decide +kernel
theorem dX1_isComplete_14 : decode cX1_isComplete 14 = .ok (.getfield 9, 3) := by decide +kernel
theorem dX1_isComplete_17 : decode cX1_isComplete 17 = .ok (.iload_n 2, 1) := by decide +kernel
theorem dX1_isComplete_18 : decode cX1_isComplete 18 = .ok (.iaload, 1) := by decide +kernel
theorem dX1_isComplete_19 : decode cX1_isComplete 19 = .ok (.invokestatic 17, 3) := by decide +kernel
theorem dX1_isComplete_22 : decode cX1_isComplete 22 = .ok (.istore_n 1, 1) := by decide +kernel
theorem dX1_isComplete_23 : decode cX1_isComplete 23 = .ok (.iinc 2 1, 3) := by decide +kernel
theorem dX1_isComplete_26 : decode cX1_isComplete 26 = .ok (.goto (-22), 3) := by decide +kernel
theorem dX1_isComplete_29 : decode cX1_isComplete 29 = .ok (.iload_n 1, 1) := by decide +kernel
theorem dX1_isComplete_30 : decode cX1_isComplete 30 = .ok (.bipush 9, 2) := by decide +kernel
theorem dX1_isComplete_32 : decode cX1_isComplete 32 = .ok (.if_icmp .eq 13, 3) := by decide +kernel
theorem dX1_isComplete_35 : decode cX1_isComplete 35 = .ok (.iload_n 1, 1) := by decide +kernel
theorem dX1_isComplete_36 : decode cX1_isComplete 36 = .ok (.iconst 2, 1) := by decide +kernel
theorem dX1_isComplete_37 : decode cX1_isComplete 37 = .ok (.if_icmp .eq 8, 3) := by decide +kernel
theorem dX1_isComplete_40 : decode cX1_isComplete 40 = .ok (.iload_n 1, 1) := by decide +kernel
theorem dX1_isComplete_41 : decode cX1_isComplete 41 = .ok (.iconst 3, 1) := by decide +kernel
theorem dX1_isComplete_42 : decode cX1_isComplete 42 = .ok (.if_icmp .ne 7, 3) := by decide +kernel
theorem dX1_isComplete_45 : decode cX1_isComplete 45 = .ok (.iconst 1, 1) := by decide +kernel
theorem dX1_isComplete_46 : decode cX1_isComplete 46 = .ok (.goto 4, 3) := by decide +kernel
theorem dX1_isComplete_49 : decode cX1_isComplete 49 = .ok (.iconst 0, 1) := by decide +kernel
theorem dX1_isComplete_50 : decode cX1_isComplete 50 = .ok (.ireturn, 1) := by decide +kernel
set_option maxRecDepth 20000 in
theorem ggX1_beginsOrder_X1_codeAt : GoodIn wsX1_beginsOrder wsX1_codeAt := goodIn_r _ [5, 6, 7, 8, 9] (by decide +kernel) (by decide +kernel)
set_option maxRecDepth 20000 in
theorem gX1_beginsOrder_X1_codeAt : GoodIn wsX1_beginsOrder (wsV RX1 21 RX1 yX1_codeAt wsX1_codeAt) := goodIn_app (goodIn_of _ (by decide +kernel)) ggX1_beginsOrder_X1_codeAt
theorem dX1_beginsOrder_0 : decode cX1_beginsOrder 0 = .ok (.iload_n 1, 1) := by decide +kernel
theorem dX1_beginsOrder_1 : decode cX1_beginsOrder 1 = .ok (.ifCond .eq 15, 3) := by decide +kernel
theorem dX1_beginsOrder_4 : decode cX1_beginsOrder 4 = .ok (.aload_n 0, 1) := by decide +kernel
theorem dX1_beginsOrder_5 : decode cX1_beginsOrder 5 = .ok (.iload_n 1, 1) := by decide +kernel
theorem dX1_beginsOrder_6 : decode cX1_beginsOrder 6 = .ok (.iconst 1, 1) := by decide +kernel
theorem dX1_beginsOrder_7 : decode cX1_beginsOrder 7 = .ok (.isub, 1) := by decide +kernel
theorem dX1_beginsOrder_8 : decode cX1_beginsOrder 8 = .ok (.invokevirtual 21, 3) := by decide +kernel
theorem dX1_beginsOrder_11 : decode cX1_beginsOrder 11 = .ok (.bipush 59, 2) := by decide +kernel
theorem dX1_beginsOrder_13 : decode cX1_beginsOrder 13 = .ok (.if_icmp .ne 7, 3) := by decide +kernel
theorem dX1_beginsOrder_16 : decode cX1_beginsOrder 16 = .ok (.iconst 1, 1) := by decide +kernel
theorem dX1_beginsOrder_17 : decode cX1_beginsOrder 17 = .ok (.goto 4, 3) := by decide +kernel
theorem dX1_beginsOrder_20 : decode cX1_beginsOrder 20 = .ok (.iconst 0, 1) := by decide +kernel
theorem dX1_beginsOrder_21 : decode cX1_beginsOrder 21 = .ok (.ireturn, 1) := by decide +kernel
set_option maxRecDepth 20000 in
theorem ggX1_digitAt_X1_codeAt : GoodIn wsX1_digitAt wsX1_codeAt := goodIn_r _ [5, 6, 7, 11, 12] (by decide +kernel) (by decide +kernel)
set_option maxRecDepth 20000 in
theorem gX1_digitAt_X1_codeAt : GoodIn wsX1_digitAt (wsV RX1 21 RX1 yX1_codeAt wsX1_codeAt) := goodIn_app (goodIn_of _ (by decide +kernel)) ggX1_digitAt_X1_codeAt
set_option maxRecDepth 20000 in
theorem ggX1_digitAt_X1_isBetween : GoodIn wsX1_digitAt wsX1_isBetween := goodIn_r _ [10] (by decide +kernel) (by decide +kernel)
set_option maxRecDepth 20000 in
theorem gX1_digitAt_X1_isBetween : GoodIn wsX1_digitAt (va_wsS RX1 25 yX1_isBetween wsX1_isBetween) := goodIn_app (goodIn_of _ (by decide +kernel)) ggX1_digitAt_X1_isBetween
theorem dX1_digitAt_0 : decode cX1_digitAt 0 = .ok (.aload_n 0, 1) := by decide +kernel
theorem dX1_digitAt_1 : decode cX1_digitAt 1 = .ok (.iload_n 1, 1) := by decide +kernel
theorem dX1_digitAt_2 : decode cX1_digitAt 2 = .ok (.invokevirtual 21, 3) := by decide +kernel
theorem dX1_digitAt_5 : decode cX1_digitAt 5 = .ok (.istore_n 2, 1) := by decide +kernel
theorem dX1_digitAt_6 : decode cX1_digitAt 6 = .ok (.iload_n 2, 1) := by decide +kernel
theorem dX1_digitAt_7 : decode cX1_digitAt 7 = .ok (.bipush 48, 2) := by decide +kernel
theorem dX1_digitAt_9 : decode cX1_digitAt 9 = .ok (.bipush 57, 2) := by decide +kernel
theorem dX1_digitAt_11 : decode cX1_digitAt 11 = .ok (.invokestatic 25, 3) := by decide +kernel
theorem dX1_digitAt_14 : decode cX1_digitAt 14 = .ok (.ifCond .eq 10, 3) := by decide +kernel
theorem dX1_digitAt_17 : decode cX1_digitAt 17 = .ok (.iload_n 2, 1) := by decide +kernel
theorem dX1_digitAt_18 : decode cX1_digitAt 18 = .ok (.bipush 48, 2) := by decide +kernel
theorem dX1_digitAt_20 : decode cX1_digitAt 20 = .ok (.isub, 1) := by decide +kernel
theorem dX1_digitAt_21 : decode cX1_digitAt 21 = .ok (.goto 4, 3) := by decide +kernel
theorem dX1_digitAt_24 : decode cX1_digitAt 24 = .ok (.iconst 0, 1) := by decide +kernel
theorem dX1_digitAt_25 : decode cX1_digitAt 25 = .ok (.ireturn, 1) := by decide +kernel
set_option maxRecDepth 20000 in
theorem ggX1_numberAt_X1_digitAt : GoodIn wsX1_numberAt wsX1_digitAt := goodIn_r _ [5, 6, 7, 8, 4, 9, 10, 11, 12, 13, 14, 15, 16] (by decide +kernel) (by decide +kernel)
set_option maxRecDepth 20000 in
theorem gX1_numberAt_X1_digitAt : GoodIn wsX1_numberAt (wsV RX1 29 RX1 yX1_digitAt wsX1_digitAt) := goodIn_app (goodIn_of _ (by decide +kernel)) ggX1_numberAt_X1_digitAt
set_option maxRecDepth 20000 in
theorem ggX1_numberAt_X1_codeAt : GoodIn wsX1_numberAt wsX1_codeAt := goodIn_r _ [9, 10, 11, 15, 16] (by decide +kernel) (by decide +kernel)
set_option maxRecDepth 20000 in
theorem gX1_numberAt_X1_codeAt : GoodIn wsX1_numberAt (wsV RX1 21 RX1 yX1_codeAt wsX1_codeAt) := goodIn_app (goodIn_of _ (by decide +kernel)) ggX1_numberAt_X1_codeAt
set_option maxRecDepth 20000 in
theorem ggX1_numberAt_X1_isBetween : GoodIn wsX1_numberAt wsX1_isBetween := goodIn_r _ [14] (by decide +kernel) (by decide +kernel)
set_option maxRecDepth 20000 in
theorem gX1_numberAt_X1_isBetween : GoodIn wsX1_numberAt (va_wsS RX1 25 yX1_isBetween wsX1_isBetween) := goodIn_app (goodIn_of _ (by decide +kernel)) ggX1_numberAt_X1_isBetween
theorem dX1_numberAt_0 : decode cX1_numberAt 0 = .ok (.aload_n 0, 1) := by decide +kernel
theorem dX1_numberAt_1 : decode cX1_numberAt 1 = .ok (.iload_n 1, 1) := by decide +kernel
theorem dX1_numberAt_2 : decode cX1_numberAt 2 = .ok (.invokevirtual 29, 3) := by decide +kernel
theorem dX1_numberAt_5 : decode cX1_numberAt 5 = .ok (.istore_n 2, 1) := by decide +kernel
theorem dX1_numberAt_6 : decode cX1_numberAt 6 = .ok (.aload_n 0, 1) := by decide +kernel
theorem dX1_numberAt_7 : decode cX1_numberAt 7 = .ok (.iload_n 1, 1) := by decide +kernel
theorem dX1_numberAt_8 : decode cX1_numberAt 8 = .ok (.iconst 1, 1) := by decide +kernel
theorem dX1_numberAt_9 : decode cX1_numberAt 9 = .ok (.iadd, 1) := by decide +kernel
theorem dX1_numberAt_10 : decode cX1_numberAt 10 = .ok (.invokevirtual 21, 3) := by decide +kernel
theorem dX1_numberAt_13 : decode cX1_numberAt 13 = .ok (.bipush 48, 2) := by decide +kernel
theorem dX1_numberAt_15 : decode cX1_numberAt 15 = .ok (.bipush 57, 2) := by decide +kernel
theorem dX1_numberAt_17 : decode cX1_numberAt 17 = .ok (.invokestatic 25, 3) := by decide +kernel
theorem dX1_numberAt_20 : decode cX1_numberAt 20 = .ok (.ifCond .eq 18, 3) := by decide +kernel
theorem dX1_numberAt_23 : decode cX1_numberAt 23 = .ok (.bipush 10, 2) := by decide +kernel
theorem dX1_numberAt_25 : decode cX1_numberAt 25 = .ok (.iload_n 2, 1) := by decide +kernel
theorem dX1_numberAt_26 : decode cX1_numberAt 26 = .ok (.imul, 1) := by decide +kernel
theorem dX1_numberAt_27 : decode cX1_numberAt 27 = .ok (.aload_n 0, 1) := by decide +kernel
theorem dX1_numberAt_28 : decode cX1_numberAt 28 = .ok (.iload_n 1, 1) := by decide +kernel
theorem dX1_numberAt_29 : decode cX1_numberAt 29 = .ok (.iconst 1, 1) := by decide +kernel
theorem dX1_numberAt_30 : decode cX1_numberAt 30 = .ok (.iadd, 1) := by decide +kernel
theorem dX1_numberAt_31 : decode cX1_numberAt 31 = .ok (.invokevirtual 29, 3) := by decide +kernel
theorem dX1_numberAt_34 : decode cX1_numberAt 34 = .ok (.iadd, 1) := by decide +kernel
theorem dX1_numberAt_35 : decode cX1_numberAt 35 = .ok (.goto 4, 3) := by decide +kernel
theorem dX1_numberAt_38 : decode cX1_numberAt 38 = .ok (.iload_n 2, 1) := by decide +kernel
theorem dX1_numberAt_39 : decode cX1_numberAt 39 = .ok (.ireturn, 1) := by decide +kernel
theorem dX1_isBetween_0 : decode cX1_isBetween 0 = .ok (.iload_n 0, 1) := by decide +kernel
theorem dX1_isBetween_1 : decode cX1_isBetween 1 = .ok (.iload_n 1, 1) := by decide +kernel
theorem dX1_isBetween_2 : decode cX1_isBetween 2 = .ok (.if_icmp .lt 12, 3) := by decide +kernel
theorem dX1_isBetween_5 : decode cX1_isBetween 5 = .ok (.iload_n 0, 1) := by decide +kernel
theorem dX1_isBetween_6 : decode cX1_isBetween 6 = .ok (.iload_n 2, 1) := by decide +kernel
theorem dX1_isBetween_7 : decode cX1_isBetween 7 = .ok (.if_icmp .gt 7, 3) := by decide +kernel
theorem dX1_isBetween_10 : decode cX1_isBetween 10 = .ok (.iconst 1, 1) := by decide +kernel
theorem dX1_isBetween_11 : decode cX1_isBetween 11 = .ok (.goto 4, 3) := by decide +kernel
theorem dX1_isBetween_14 : decode cX1_isBetween 14 = .ok (.iconst 0, 1) := by decide +kernel
theorem dX1_isBetween_15 : decode cX1_isBetween 15 = .ok (.ireturn, 1) := by decide +kernel
set_option maxRecDepth 20000 in
theorem ggX1_nextBehind_X1_nextBehindLetter : GoodIn wsX1_nextBehind wsX1_nextBehindLetter := goodIn_r _ [4] (by decide +kernel) (by decide +kernel)
set_option maxRecDepth 20000 in
theorem gX1_nextBehind_X1_nextBehindLetter : GoodIn wsX1_nextBehind (va_wsS RX1 32 yX1_nextBehindLetter wsX1_nextBehindLetter) := goodIn_app (goodIn_of _ (by decide +kernel)) ggX1_nextBehind_X1_nextBehindLetter
set_option maxRecDepth 20000 in
theorem ggX1_nextBehind_X1_nextBehindRows : GoodIn wsX1_nextBehind wsX1_nextBehindRows := goodIn_r _ [7, 8, 9, 3, 10] (by decide +kernel) (by decide +kernel)
set_option maxRecDepth 20000 in
theorem gX1_nextBehind_X1_nextBehindRows : GoodIn wsX1_nextBehind (va_wsS RX1 35 yX1_nextBehindRows wsX1_nextBehindRows) := goodIn_app (goodIn_of _ (by decide +kernel)) ggX1_nextBehind_X1_nextBehindRows
set_option maxRecDepth 20000 in
theorem ggX1_nextBehind_X1_isBetween : GoodIn wsX1_nextBehind wsX1_isBetween := goodIn_r _ [10] (by decide +kernel) (by decide +kernel)
set_option maxRecDepth 20000 in
theorem gX1_nextBehind_X1_isBetween : GoodIn wsX1_nextBehind (va_wsS RX1 25 yX1_isBetween wsX1_isBetween) := goodIn_app (goodIn_of _ (by decide +kernel)) ggX1_nextBehind_X1_isBetween
set_option maxRecDepth 20000 in
theorem ggX1_nextBehind_X1_nextBehindEnd : GoodIn wsX1_nextBehind wsX1_nextBehindEnd := goodIn_r _ [13] (by decide +kernel) (by decide +kernel)
set_option maxRecDepth 20000 in
theorem gX1_nextBehind_X1_nextBehindEnd : GoodIn wsX1_nextBehind (va_wsS RX1 38 yX1_nextBehindEnd wsX1_nextBehindEnd) := goodIn_app (goodIn_of _ (by decide +kernel)) ggX1_nextBehind_X1_nextBehindEnd
theorem dX1_nextBehind_0 : decode cX1_nextBehind 0 = .ok (.iload_n 0, 1) := by decide +kernel
theorem dX1_nextBehind_1 : decode cX1_nextBehind 1 = .ok (.tableswitch 197 0 9 #[55, 60, 65, 86, 102, 119, 137, 156, 174, 192], 55) := by decide +kernel
theorem dX1_nextBehind_56 : decode cX1_nextBehind 56 = .ok (.iload_n 1, 1) := by decide +kernel
theorem dX1_nextBehind_57 : decode cX1_nextBehind 57 = .ok (.invokestatic 32, 3) := by decide +kernel
theorem dX1_nextBehind_60 : decode cX1_nextBehind 60 = .ok (.ireturn, 1) := by decide +kernel
theorem dX1_nextBehind_61 : decode cX1_nextBehind 61 = .ok (.iload_n 1, 1) := by decide +kernel
theorem dX1_nextBehind_62 : decode cX1_nextBehind 62 = .ok (.invokestatic 35, 3) := by decide +kernel
theorem dX1_nextBehind_65 : decode cX1_nextBehind 65 = .ok (.ireturn, 1) := by decide +kernel
theorem dX1_nextBehind_66 : decode cX1_nextBehind 66 = .ok (.iload_n 1, 1) := by decide +kernel
theorem dX1_nextBehind_67 : decode cX1_nextBehind 67 = .ok (.bipush 48, 2) := by decide +kernel
theorem dX1_nextBehind_69 : decode cX1_nextBehind 69 = .ok (.bipush 57, 2) := by decide +kernel
theorem dX1_nextBehind_71 : decode cX1_nextBehind 71 = .ok (.invokestatic 25, 3) := by decide +kernel
theorem dX1_nextBehind_74 : decode cX1_nextBehind 74 = .ok (.ifCond .eq 8, 3) := by decide +kernel
theorem dX1_nextBehind_77 : decode cX1_nextBehind 77 = .ok (.bipush 9, 2) := by decide +kernel
theorem dX1_nextBehind_79 : decode cX1_nextBehind 79 = .ok (.goto 7, 3) := by decide +kernel
theorem dX1_nextBehind_82 : decode cX1_nextBehind 82 = .ok (.iload_n 1, 1) := by decide +kernel
theorem dX1_nextBehind_83 : decode cX1_nextBehind 83 = .ok (.invokestatic 38, 3) := by decide +kernel
theorem dX1_nextBehind_86 : decode cX1_nextBehind 86 = .ok (.ireturn, 1) := by decide +kernel
theorem dX1_nextBehind_87 : decode cX1_nextBehind 87 = .ok (.iload_n 1, 1) := by decide +kernel
theorem dX1_nextBehind_88 : decode cX1_nextBehind 88 = .ok (.bipush 48, 2) := by decide +kernel
theorem dX1_nextBehind_90 : decode cX1_nextBehind 90 = .ok (.if_icmp .ne 8, 3) := by decide +kernel
theorem dX1_nextBehind_93 : decode cX1_nextBehind 93 = .ok (.bipush 9, 2) := by decide +kernel
theorem dX1_nextBehind_95 : decode cX1_nextBehind 95 = .ok (.goto 7, 3) := by decide +kernel
theorem dX1_nextBehind_98 : decode cX1_nextBehind 98 = .ok (.iload_n 1, 1) := by decide +kernel
theorem dX1_nextBehind_99 : decode cX1_nextBehind 99 = .ok (.invokestatic 38, 3) := by decide +kernel
theorem dX1_nextBehind_102 : decode cX1_nextBehind 102 = .ok (.ireturn, 1) := by decide +kernel
theorem dX1_nextBehind_103 : decode cX1_nextBehind 103 = .ok (.iload_n 1, 1) := by decide +kernel
theorem dX1_nextBehind_104 : decode cX1_nextBehind 104 = .ok (.bipush 48, 2) := by decide +kernel
theorem dX1_nextBehind_106 : decode cX1_nextBehind 106 = .ok (.bipush 53, 2) := by decide +kernel
theorem dX1_nextBehind_108 : decode cX1_nextBehind 108 = .ok (.invokestatic 25, 3) := by decide +kernel
theorem dX1_nextBehind_111 : decode cX1_nextBehind 111 = .ok (.ifCond .eq 7, 3) := by decide +kernel
theorem dX1_nextBehind_114 : decode cX1_nextBehind 114 = .ok (.iconst 5, 1) := by decide +kernel
theorem dX1_nextBehind_115 : decode cX1_nextBehind 115 = .ok (.goto 4, 3) := by decide +kernel
theorem dX1_nextBehind_118 : decode cX1_nextBehind 118 = .ok (.iconst (-1), 1) := by decide +kernel
theorem dX1_nextBehind_119 : decode cX1_nextBehind 119 = .ok (.ireturn, 1) := by decide +kernel
theorem dX1_nextBehind_120 : decode cX1_nextBehind 120 = .ok (.iload_n 1, 1) := by decide +kernel
theorem dX1_nextBehind_121 : decode cX1_nextBehind 121 = .ok (.bipush 48, 2) := by decide +kernel
theorem dX1_nextBehind_123 : decode cX1_nextBehind 123 = .ok (.bipush 57, 2) := by decide +kernel
theorem dX1_nextBehind_125 : decode cX1_nextBehind 125 = .ok (.invokestatic 25, 3) := by decide +kernel
theorem dX1_nextBehind_128 : decode cX1_nextBehind 128 = .ok (.ifCond .eq 8, 3) := by decide +kernel
theorem dX1_nextBehind_131 : decode cX1_nextBehind 131 = .ok (.bipush 6, 2) := by decide +kernel
theorem dX1_nextBehind_133 : decode cX1_nextBehind 133 = .ok (.goto 4, 3) := by decide +kernel
theorem dX1_nextBehind_136 : decode cX1_nextBehind 136 = .ok (.iconst (-1), 1) := by decide +kernel
theorem dX1_nextBehind_137 : decode cX1_nextBehind 137 = .ok (.ireturn, 1) := by decide +kernel
theorem dX1_nextBehind_138 : decode cX1_nextBehind 138 = .ok (.iload_n 1, 1) := by decide +kernel
theorem dX1_nextBehind_139 : decode cX1_nextBehind 139 = .ok (.bipush 43, 2) := by decide +kernel
theorem dX1_nextBehind_141 : decode cX1_nextBehind 141 = .ok (.if_icmp .eq 9, 3) := by decide +kernel
theorem dX1_nextBehind_144 : decode cX1_nextBehind 144 = .ok (.iload_n 1, 1) := by decide +kernel
theorem dX1_nextBehind_145 : decode cX1_nextBehind 145 = .ok (.bipush 45, 2) := by decide +kernel
theorem dX1_nextBehind_147 : decode cX1_nextBehind 147 = .ok (.if_icmp .ne 8, 3) := by decide +kernel
theorem dX1_nextBehind_150 : decode cX1_nextBehind 150 = .ok (.bipush 7, 2) := by decide +kernel
theorem dX1_nextBehind_152 : decode cX1_nextBehind 152 = .ok (.goto 4, 3) := by decide +kernel
theorem dX1_nextBehind_155 : decode cX1_nextBehind 155 = .ok (.iconst (-1), 1) := by decide +kernel
theorem dX1_nextBehind_156 : decode cX1_nextBehind 156 = .ok (.ireturn, 1) := by decide +kernel
theorem dX1_nextBehind_157 : decode cX1_nextBehind 157 = .ok (.iload_n 1, 1) := by decide +kernel
theorem dX1_nextBehind_158 : decode cX1_nextBehind 158 = .ok (.bipush 49, 2) := by decide +kernel
theorem dX1_nextBehind_160 : decode cX1_nextBehind 160 = .ok (.bipush 57, 2) := by decide +kernel
theorem dX1_nextBehind_162 : decode cX1_nextBehind 162 = .ok (.invokestatic 25, 3) := by decide +kernel
theorem dX1_nextBehind_165 : decode cX1_nextBehind 165 = .ok (.ifCond .eq 8, 3) := by decide +kernel
theorem dX1_nextBehind_168 : decode cX1_nextBehind 168 = .ok (.bipush 9, 2) := by decide +kernel
theorem dX1_nextBehind_170 : decode cX1_nextBehind 170 = .ok (.goto 4, 3) := by decide +kernel
theorem dX1_nextBehind_173 : decode cX1_nextBehind 173 = .ok (.iconst (-1), 1) := by decide +kernel
theorem dX1_nextBehind_174 : decode cX1_nextBehind 174 = .ok (.ireturn, 1) := by decide +kernel
theorem dX1_nextBehind_175 : decode cX1_nextBehind 175 = .ok (.iload_n 1, 1) := by decide +kernel
theorem dX1_nextBehind_176 : decode cX1_nextBehind 176 = .ok (.bipush 48, 2) := by decide +kernel
theorem dX1_nextBehind_178 : decode cX1_nextBehind 178 = .ok (.bipush 57, 2) := by decide +kernel
theorem dX1_nextBehind_180 : decode cX1_nextBehind 180 = .ok (.invokestatic 25, 3) := by decide +kernel
theorem dX1_nextBehind_183 : decode cX1_nextBehind 183 = .ok (.ifCond .eq 8, 3) := by decide +kernel
theorem dX1_nextBehind_186 : decode cX1_nextBehind 186 = .ok (.bipush 9, 2) := by decide +kernel
theorem dX1_nextBehind_188 : decode cX1_nextBehind 188 = .ok (.goto 4, 3) := by decide +kernel
theorem dX1_nextBehind_191 : decode cX1_nextBehind 191 = .ok (.iconst (-1), 1) := by decide +kernel
theorem dX1_nextBehind_192 : decode cX1_nextBehind 192 = .ok (.ireturn, 1) := by decide +kernel
theorem dX1_nextBehind_193 : decode cX1_nextBehind 193 = .ok (.iload_n 1, 1) := by decide +kernel
theorem dX1_nextBehind_194 : decode cX1_nextBehind 194 = .ok (.invokestatic 38, 3) := by decide +kernel
theorem dX1_nextBehind_197 : decode cX1_nextBehind 197 = .ok (.ireturn, 1) := by decide +kernel
theorem dX1_nextBehind_198 : decode cX1_nextBehind 198 = .ok (.iconst (-1), 1) := by decide +kernel
theorem dX1_nextBehind_199 : decode cX1_nextBehind 199 = .ok (.ireturn, 1) := by decide +kernel
theorem dX1_nextBehindLetter_0 : decode cX1_nextBehindLetter 0 = .ok (.iload_n 0, 1) := by decide +kernel
theorem dX1_nextBehindLetter_1 : decode cX1_nextBehindLetter 1 = .ok (.lookupswitch 53 #[(99, 47), (110, 50), (112, 43), (115, 45)], 43) := by decide +kernel
theorem dX1_nextBehindLetter_44 : decode cX1_nextBehindLetter 44 = .ok (.iconst 1, 1) := by decide +kernel
theorem dX1_nextBehindLetter_45 : decode cX1_nextBehindLetter 45 = .ok (.ireturn, 1) := by decide +kernel
theorem dX1_nextBehindLetter_46 : decode cX1_nextBehindLetter 46 = .ok (.iconst 4, 1) := by decide +kernel
theorem dX1_nextBehindLetter_47 : decode cX1_nextBehindLetter 47 = .ok (.ireturn, 1) := by decide +kernel
theorem dX1_nextBehindLetter_48 : decode cX1_nextBehindLetter 48 = .ok (.bipush 9, 2) := by decide +kernel
theorem dX1_nextBehindLetter_50 : decode cX1_nextBehindLetter 50 = .ok (.ireturn, 1) := by decide +kernel
theorem dX1_nextBehindLetter_51 : decode cX1_nextBehindLetter 51 = .ok (.bipush 8, 2) := by decide +kernel
theorem dX1_nextBehindLetter_53 : decode cX1_nextBehindLetter 53 = .ok (.ireturn, 1) := by decide +kernel
theorem dX1_nextBehindLetter_54 : decode cX1_nextBehindLetter 54 = .ok (.iconst (-1), 1) := by decide +kernel
theorem dX1_nextBehindLetter_55 : decode cX1_nextBehindLetter 55 = .ok (.ireturn, 1) := by decide +kernel
set_option maxRecDepth 20000 in
theorem ggX1_nextBehindRows_X1_isBetween : GoodIn wsX1_nextBehindRows wsX1_isBetween := goodIn_r _ [4] (by decide +kernel) (by decide +kernel)
set_option maxRecDepth 20000 in
theorem gX1_nextBehindRows_X1_isBetween : GoodIn wsX1_nextBehindRows (va_wsS RX1 25 yX1_isBetween wsX1_isBetween) := goodIn_app (goodIn_of _ (by decide +kernel)) ggX1_nextBehindRows_X1_isBetween
theorem dX1_nextBehindRows_0 : decode cX1_nextBehindRows 0 = .ok (.iload_n 0, 1) := by decide +kernel
theorem dX1_nextBehindRows_1 : decode cX1_nextBehindRows 1 = .ok (.bipush 49, 2) := by decide +kernel
theorem dX1_nextBehindRows_3 : decode cX1_nextBehindRows 3 = .ok (.bipush 51, 2) := by decide +kernel
theorem dX1_nextBehindRows_5 : decode cX1_nextBehindRows 5 = .ok (.invokestatic 25, 3) := by decide +kernel
theorem dX1_nextBehindRows_8 : decode cX1_nextBehindRows 8 = .ok (.ifCond .eq 5, 3) := by decide +kernel
theorem dX1_nextBehindRows_11 : decode cX1_nextBehindRows 11 = .ok (.iconst 2, 1) := by decide +kernel
theorem dX1_nextBehindRows_12 : decode cX1_nextBehindRows 12 = .ok (.ireturn, 1) := by decide +kernel
theorem dX1_nextBehindRows_13 : decode cX1_nextBehindRows 13 = .ok (.iload_n 0, 1) := by decide +kernel
theorem dX1_nextBehindRows_14 : decode cX1_nextBehindRows 14 = .ok (.bipush 52, 2) := by decide +kernel
theorem dX1_nextBehindRows_16 : decode cX1_nextBehindRows 16 = .ok (.if_icmp .ne 5, 3) := by decide +kernel
theorem dX1_nextBehindRows_19 : decode cX1_nextBehindRows 19 = .ok (.iconst 3, 1) := by decide +kernel
theorem dX1_nextBehindRows_20 : decode cX1_nextBehindRows 20 = .ok (.ireturn, 1) := by decide +kernel
theorem dX1_nextBehindRows_21 : decode cX1_nextBehindRows 21 = .ok (.iload_n 0, 1) := by decide +kernel
theorem dX1_nextBehindRows_22 : decode cX1_nextBehindRows 22 = .ok (.bipush 53, 2) := by decide +kernel
theorem dX1_nextBehindRows_24 : decode cX1_nextBehindRows 24 = .ok (.bipush 57, 2) := by decide +kernel
theorem dX1_nextBehindRows_26 : decode cX1_nextBehindRows 26 = .ok (.invokestatic 25, 3) := by decide +kernel
theorem dX1_nextBehindRows_29 : decode cX1_nextBehindRows 29 = .ok (.ifCond .eq 8, 3) := by decide +kernel
theorem dX1_nextBehindRows_32 : decode cX1_nextBehindRows 32 = .ok (.bipush 9, 2) := by decide +kernel
theorem dX1_nextBehindRows_34 : decode cX1_nextBehindRows 34 = .ok (.goto 4, 3) := by decide +kernel
theorem dX1_nextBehindRows_37 : decode cX1_nextBehindRows 37 = .ok (.iconst (-1), 1) := by decide +kernel
theorem dX1_nextBehindRows_38 : decode cX1_nextBehindRows 38 = .ok (.ireturn, 1) := by decide +kernel
theorem dX1_nextBehindEnd_0 : decode cX1_nextBehindEnd 0 = .ok (.iload_n 0, 1) := by decide +kernel
theorem dX1_nextBehindEnd_1 : decode cX1_nextBehindEnd 1 = .ok (.bipush 59, 2) := by decide +kernel
theorem dX1_nextBehindEnd_3 : decode cX1_nextBehindEnd 3 = .ok (.if_icmp .ne 7, 3) := by decide +kernel
theorem dX1_nextBehindEnd_6 : decode cX1_nextBehindEnd 6 = .ok (.iconst 0, 1) := by decide +kernel
theorem dX1_nextBehindEnd_7 : decode cX1_nextBehindEnd 7 = .ok (.goto 4, 3) := by decide +kernel
theorem dX1_nextBehindEnd_10 : decode cX1_nextBehindEnd 10 = .ok (.iconst (-1), 1) := by decide +kernel
theorem dX1_nextBehindEnd_11 : decode cX1_nextBehindEnd 11 = .ok (.ireturn, 1) := by decide +kernel
theorem dX2_init_0 : decode cX2_init 0 = .ok (.aload_n 0, 1) := by decide +kernel
theorem dX2_init_1 : decode cX2_init 1 = .ok (.invokespecial 3, 3) := by decide +kernel
theorem dX2_init_4 : decode cX2_init 4 = .ok (.aload_n 0, 1) := by decide +kernel
theorem dX2_init_5 : decode cX2_init 5 = .ok (.bipush 6, 2) := by decide +kernel
theorem dX2_init_7 : decode cX2_init 7 = .ok (.newarray .long, 2) := by decide +kernel
theorem dX2_init_9 : decode cX2_init 9 = .ok (.putfield 9, 3) := by decide +kernel
theorem dX2_init_12 : decode cX2_init 12 = .ok (.return_, 1) := by decide +kernel
theorem dX2_copyFrom_0 : decode cX2_copyFrom 0 = .ok (.iconst 0, 1) := by decide +kernel
theorem dX2_copyFrom_1 : decode cX2_copyFrom 1 = .ok (.istore_n 2, 1) := by decide +kernel
theorem dX2_copyFrom_2 : decode cX2_copyFrom 2 = .ok (.iload_n 2, 1) := by decide +kernel
theorem dX2_copyFrom_3 : decode cX2_copyFrom 3 = .ok (.bipush 6, 2) := by decide +kernel
theorem dX2_copyFrom_5 : decode cX2_copyFrom 5 = .ok (.if_icmp .ge 21, 3) := by decide +kernel
theorem dX2_copyFrom_8 : decode cX2_copyFrom 8 = .ok (.aload_n 0, 1) := by decide +kernel
theorem dX2_copyFrom_9 : decode cX2_copyFrom 9 = .ok (.getfield 9, 3) := by decide +kernel
theorem dX2_copyFrom_12 : decode cX2_copyFrom 12 = .ok (.iload_n 2, 1) := by decide +kernel
theorem dX2_copyFrom_13 : decode cX2_copyFrom 13 = .ok (.aload_n 1, 1) := by decide +kernel
theorem dX2_copyFrom_14 : decode cX2_copyFrom 14 = .ok (.getfield 9, 3) := by decide +kernel
theorem dX2_copyFrom_17 : decode cX2_copyFrom 17 = .ok (.iload_n 2, 1) := by decide +kernel
theorem dX2_copyFrom_18 : decode cX2_copyFrom 18 = .ok (.laload, 1) := by decide +kernel
theorem dX2_copyFrom_19 : decode cX2_copyFrom 19 = .ok (.lastore, 1) := by decide +kernel
theorem dX2_copyFrom_20 : decode cX2_copyFrom 20 = .ok (.iinc 2 1, 3) := by decide +kernel
theorem dX2_copyFrom_23 : decode cX2_copyFrom 23 = .ok (.goto (-21), 3) := by decide +kernel
theorem dX2_copyFrom_26 : decode cX2_copyFrom 26 = .ok (.return_, 1) := by decide +kernel
set_option maxRecDepth 20000 in
theorem ggX2_putRight_X0_clear : GoodIn wsX2_putRight wsX0_clear := goodIn_r _ [6, 7, 26, 27] (by decide +kernel) (by decide +kernel)
set_option maxRecDepth 20000 in
theorem gX2_putRight_X0_clear : GoodIn wsX2_putRight (wsV RX2 15 RX0 yX0_clear wsX0_clear) := goodIn_app (goodIn_of _ (by decide +kernel)) ggX2_putRight_X0_clear
set_option maxRecDepth 20000 in
theorem ggX2_putRight_X4_raise : GoodIn wsX2_putRight wsX4_raise := goodIn_r _ [11] (by decide +kernel) (by decide +kernel)
set_option maxRecDepth 20000 in
theorem gX2_putRight_X4_raise : GoodIn wsX2_putRight (va_wsS RX2 20 yX4_raise wsX4_raise) := goodIn_app (goodIn_of _ (by decide +kernel)) ggX2_putRight_X4_raise
set_option maxRecDepth 20000 in
theorem ggX2_putRight_X0_put : GoodIn wsX2_putRight wsX0_put := goodIn_r _ [15, 7, 16, 26, 27] (by decide +kernel) (by decide +kernel)
set_option maxRecDepth 20000 in
theorem gX2_putRight_X0_put : GoodIn wsX2_putRight (wsV RX2 26 RX0 yX0_put wsX0_put) := goodIn_app (goodIn_of _ (by decide +kernel)) ggX2_putRight_X0_put
set_option maxRecDepth 20000 in
theorem ggX2_putRight_X0_leading : GoodIn wsX2_putRight wsX0_leading := goodIn_r _ [20, 7, 16, 26, 27] (by decide +kernel) (by decide +kernel)
set_option maxRecDepth 20000 in
theorem gX2_putRight_X0_leading : GoodIn wsX2_putRight (wsV RX2 30 RX0 yX0_leading wsX0_leading) := goodIn_app (goodIn_of _ (by decide +kernel)) ggX2_putRight_X0_leading
set_option maxRecDepth 20000 in
theorem ggX2_putRight_X0_raiseOrder : GoodIn wsX2_putRight wsX0_raiseOrder := goodIn_r _ [24, 7, 16, 26, 27] (by decide +kernel) (by decide +kernel)
set_option maxRecDepth 20000 in
theorem gX2_putRight_X0_raiseOrder : GoodIn wsX2_putRight (wsV RX2 34 RX0 yX0_raiseOrder wsX0_raiseOrder) := goodIn_app (goodIn_of _ (by decide +kernel)) ggX2_putRight_X0_raiseOrder
theorem dX2_putRight_0 : decode cX2_putRight 0 = .ok (.aload_n 3, 1) := by decide +kernel
theorem dX2_putRight_1 : decode cX2_putRight 1 = .ok (.invokevirtual 15, 3) := by decide +kernel
theorem dX2_putRight_4 : decode cX2_putRight 4 = .ok (.iconst 0, 1) := by decide +kernel
theorem dX2_putRight_5 : decode cX2_putRight 5 = .ok (.istore 4, 2) := by decide +kernel
theorem dX2_putRight_7 : decode cX2_putRight 7 = .ok (.iload 4, 2) := by decide +kernel
theorem dX2_putRight_9 : decode cX2_putRight 9 = .ok (.bipush 6, 2) := by decide +kernel
theorem dX2_putRight_11 : decode cX2_putRight 11 = .ok (.if_icmp .ge 22, 3) := by decide +kernel
theorem dX2_putRight_14 : decode cX2_putRight 14 = .ok (.aload_n 3, 1) := by decide +kernel
theorem dX2_putRight_15 : decode cX2_putRight 15 = .ok (.iload_n 2, 1) := by decide +kernel
theorem dX2_putRight_16 : decode cX2_putRight 16 = .ok (.iload 4, 2) := by decide +kernel
theorem dX2_putRight_18 : decode cX2_putRight 18 = .ok (.iadd, 1) := by decide +kernel
theorem dX2_putRight_19 : decode cX2_putRight 19 = .ok (.i2l, 1) := by decide +kernel
theorem dX2_putRight_20 : decode cX2_putRight 20 = .ok (.iload_n 1, 1) := by decide +kernel
theorem dX2_putRight_21 : decode cX2_putRight 21 = .ok (.invokestatic 20, 3) := by decide +kernel
theorem dX2_putRight_24 : decode cX2_putRight 24 = .ok (.invokevirtual 26, 3) := by decide +kernel
theorem dX2_putRight_27 : decode cX2_putRight 27 = .ok (.iinc 4 1, 3) := by decide +kernel
theorem dX2_putRight_30 : decode cX2_putRight 30 = .ok (.goto (-23), 3) := by decide +kernel
theorem dX2_putRight_33 : decode cX2_putRight 33 = .ok (.iconst 0, 1) := by decide +kernel
theorem dX2_putRight_34 : decode cX2_putRight 34 = .ok (.istore 4, 2) := by decide +kernel
theorem dX2_putRight_36 : decode cX2_putRight 36 = .ok (.iload 4, 2) := by decide +kernel
theorem dX2_putRight_38 : decode cX2_putRight 38 = .ok (.bipush 6, 2) := by decide +kernel
theorem dX2_putRight_40 : decode cX2_putRight 40 = .ok (.if_icmp .ge 24, 3) := by decide +kernel
theorem dX2_putRight_43 : decode cX2_putRight 43 = .ok (.aload_n 0, 1) := by decide +kernel
theorem dX2_putRight_44 : decode cX2_putRight 44 = .ok (.getfield 9, 3) := by decide +kernel
theorem dX2_putRight_47 : decode cX2_putRight 47 = .ok (.iload 4, 2) := by decide +kernel
theorem dX2_putRight_49 : decode cX2_putRight 49 = .ok (.aload_n 3, 1) := by decide +kernel
theorem dX2_putRight_50 : decode cX2_putRight 50 = .ok (.invokevirtual 30, 3) := by decide +kernel
theorem dX2_putRight_53 : decode cX2_putRight 53 = .ok (.lastore, 1) := by decide +kernel
theorem dX2_putRight_54 : decode cX2_putRight 54 = .ok (.aload_n 3, 1) := by decide +kernel
theorem dX2_putRight_55 : decode cX2_putRight 55 = .ok (.invokevirtual 34, 3) := by decide +kernel
theorem dX2_putRight_58 : decode cX2_putRight 58 = .ok (.iinc 4 1, 3) := by decide +kernel
theorem dX2_putRight_61 : decode cX2_putRight 61 = .ok (.goto (-25), 3) := by decide +kernel
theorem dX2_putRight_64 : decode cX2_putRight 64 = .ok (.return_, 1) := by decide +kernel
theorem dX2_canTake_0 : decode cX2_canTake 0 = .ok (.aload_n 0, 1) := by decide +kernel
theorem dX2_canTake_1 : decode cX2_canTake 1 = .ok (.getfield 9, 3) := by decide +kernel
theorem dX2_canTake_4 : decode cX2_canTake 4 = .ok (.iload_n 1, 1) := by decide +kernel
theorem dX2_canTake_5 : decode cX2_canTake 5 = .ok (.laload, 1) := by decide +kernel
theorem dX2_canTake_6 : decode cX2_canTake 6 = .ok (.lload_n 2, 1) := by decide +kernel
theorem dX2_canTake_7 : decode cX2_canTake 7 = .ok (.ladd, 1) := by decide +kernel
theorem dX2_canTake_8 : decode cX2_canTake 8 = .ok (.lstore 4, 2) := by decide +kernel
theorem dX2_canTake_10 : decode cX2_canTake 10 = .ok (.lload 4, 2) := by decide +kernel
theorem dX2_canTake_12 : decode cX2_canTake 12 = .ok (.ldc2_w 37, 3) := by decide +kernel
theorem dX2_canTake_15 : decode cX2_canTake 15 = .ok (.lcmp, 1) := by decide +kernel
theorem dX2_canTake_16 : decode cX2_canTake 16 = .ok (.ifCond .lt 16, 3) := by decide +kernel
theorem dX2_canTake_19 : decode cX2_canTake 19 = .ok (.lload 4, 2) := by decide +kernel
theorem dX2_canTake_21 : decode cX2_canTake 21 = .ok (.ldc2_w 39, 3) := by decide +kernel
theorem dX2_canTake_24 : decode cX2_canTake 24 = .ok (.lcmp, 1) := by decide +kernel
theorem dX2_canTake_25 : decode cX2_canTake 25 = .ok (.ifCond .gt 7, 3) := by decide +kernel
theorem dX2_canTake_28 : decode cX2_canTake 28 = .ok (.iconst 1, 1) := by decide +kernel
theorem dX2_canTake_29 : decode cX2_canTake 29 = .ok (.goto 4, 3) := by decide +kernel
theorem dX2_canTake_32 : decode cX2_canTake 32 = .ok (.iconst 0, 1) := by decide +kernel
theorem dX2_canTake_33 : decode cX2_canTake 33 = .ok (.ireturn, 1) := by decide +kernel
theorem dX2_add_0 : decode cX2_add 0 = .ok (.aload_n 0, 1) := by decide +kernel
theorem dX2_add_1 : decode cX2_add 1 = .ok (.getfield 9, 3) := by decide +kernel
theorem dX2_add_4 : decode cX2_add 4 = .ok (.iload_n 1, 1) := by decide +kernel
theorem dX2_add_5 : decode cX2_add 5 = .ok (.dup2, 1) := by decide +kernel
theorem dX2_add_6 : decode cX2_add 6 = .ok (.laload, 1) := by decide +kernel
theorem dX2_add_7 : decode cX2_add 7 = .ok (.lload_n 2, 1) := by decide +kernel
theorem dX2_add_8 : decode cX2_add 8 = .ok (.ladd, 1) := by decide +kernel
theorem dX2_add_9 : decode cX2_add 9 = .ok (.lastore, 1) := by decide +kernel
theorem dX2_add_10 : decode cX2_add 10 = .ok (.return_, 1) := by decide +kernel
theorem dX2_nextNumber_0 : decode cX2_nextNumber 0 = .ok (.aload_n 0, 1) := by decide +kernel
theorem dX2_nextNumber_1 : decode cX2_nextNumber 1 = .ok (.getfield 9, 3) := by decide +kernel
theorem dX2_nextNumber_4 : decode cX2_nextNumber 4 = .ok (.iconst 0, 1) := by decide +kernel
theorem dX2_nextNumber_5 : decode cX2_nextNumber 5 = .ok (.laload, 1) := by decide +kernel
theorem dX2_nextNumber_6 : decode cX2_nextNumber 6 = .ok (.lstore_n 1, 1) := by decide +kernel
theorem dX2_nextNumber_7 : decode cX2_nextNumber 7 = .ok (.iconst 0, 1) := by decide +kernel
theorem dX2_nextNumber_8 : decode cX2_nextNumber 8 = .ok (.istore_n 3, 1) := by decide +kernel
theorem dX2_nextNumber_9 : decode cX2_nextNumber 9 = .ok (.iload_n 3, 1) := by decide +kernel
theorem dX2_nextNumber_10 : decode cX2_nextNumber 10 = .ok (.iconst 1, 1) := by decide +kernel
theorem dX2_nextNumber_11 : decode cX2_nextNumber 11 = .ok (.iadd, 1) := by decide +kernel
theorem dX2_nextNumber_12 : decode cX2_nextNumber 12 = .ok (.bipush 6, 2) := by decide +kernel
theorem dX2_nextNumber_14 : decode cX2_nextNumber 14 = .ok (.if_icmp .ge 26, 3) := by decide +kernel
theorem dX2_nextNumber_17 : decode cX2_nextNumber 17 = .ok (.aload_n 0, 1) := by decide +kernel
theorem dX2_nextNumber_18 : decode cX2_nextNumber 18 = .ok (.getfield 9, 3) := by decide +kernel
theorem dX2_nextNumber_21 : decode cX2_nextNumber 21 = .ok (.iload_n 3, 1) := by decide +kernel
theorem dX2_nextNumber_22 : decode cX2_nextNumber 22 = .ok (.dup2, 1) := by decide +kernel
theorem dX2_nextNumber_23 : decode cX2_nextNumber 23 = .ok (.laload, 1) := by decide +kernel
theorem dX2_nextNumber_24 : decode cX2_nextNumber 24 = .ok (.aload_n 0, 1) := by decide +kernel
theorem dX2_nextNumber_25 : decode cX2_nextNumber 25 = .ok (.getfield 9, 3) := by decide +kernel
theorem dX2_nextNumber_28 : decode cX2_nextNumber 28 = .ok (.iload_n 3, 1) := by decide +kernel
theorem dX2_nextNumber_29 : decode cX2_nextNumber 29 = .ok (.iconst 1, 1) := by decide +kernel
theorem dX2_nextNumber_30 : decode cX2_nextNumber 30 = .ok (.iadd, 1) := by decide +kernel
theorem dX2_nextNumber_31 : decode cX2_nextNumber 31 = .ok (.laload, 1) := by decide +kernel
theorem dX2_nextNumber_32 : decode cX2_nextNumber 32 = .ok (.ladd, 1) := by decide +kernel
theorem dX2_nextNumber_33 : decode cX2_nextNumber 33 = .ok (.lastore, 1) := by decide +kernel
theorem dX2_nextNumber_34 : decode cX2_nextNumber 34 = .ok (.iinc 3 1, 3) := by decide +kernel
theorem dX2_nextNumber_37 : decode cX2_nextNumber 37 = .ok (.goto (-28), 3) := by decide +kernel
theorem dX2_nextNumber_40 : decode cX2_nextNumber 40 = .ok (.lload_n 1, 1) := by decide +kernel
theorem dX2_nextNumber_41 : decode cX2_nextNumber 41 = .ok (.lreturn, 1) := by decide +kernel
theorem dX2_countUnlike_0 : decode cX2_countUnlike 0 = .ok (.iconst 0, 1) := by decide +kernel
theorem dX2_countUnlike_1 : decode cX2_countUnlike 1 = .ok (.istore_n 2, 1) := by decide +kernel
theorem dX2_countUnlike_2 : decode cX2_countUnlike 2 = .ok (.iconst 0, 1) := by decide +kernel
theorem dX2_countUnlike_3 : decode cX2_countUnlike 3 = .ok (.istore_n 3, 1) := by decide +kernel
theorem dX2_countUnlike_4 : decode cX2_countUnlike 4 = .ok (.iload_n 3, 1) := by decide +kernel
theorem dX2_countUnlike_5 : decode cX2_countUnlike 5 = .ok (.bipush 6, 2) := by decide +kernel
theorem dX2_countUnlike_7 : decode cX2_countUnlike 7 = .ok (.if_icmp .ge 33, 3) := by decide +kernel
theorem dX2_countUnlike_10 : decode cX2_countUnlike 10 = .ok (.iload_n 2, 1) := by decide +kernel
theorem dX2_countUnlike_11 : decode cX2_countUnlike 11 = .ok (.aload_n 0, 1) := by decide +kernel
theorem dX2_countUnlike_12 : decode cX2_countUnlike 12 = .ok (.getfield 9, 3) := by decide +kernel
theorem dX2_countUnlike_15 : decode cX2_countUnlike 15 = .ok (.iload_n 3, 1) := by decide +kernel
theorem dX2_countUnlike_16 : decode cX2_countUnlike 16 = .ok (.laload, 1) := by decide +kernel
theorem dX2_countUnlike_17 : decode cX2_countUnlike 17 = .ok (.aload_n 1, 1) := by decide +kernel
theorem dX2_countUnlike_18 : decode cX2_countUnlike 18 = .ok (.getfield 9, 3) := by decide +kernel
theorem dX2_countUnlike_21 : decode cX2_countUnlike 21 = .ok (.iload_n 3, 1) := by decide +kernel
theorem dX2_countUnlike_22 : decode cX2_countUnlike 22 = .ok (.laload, 1) := by decide +kernel
theorem dX2_countUnlike_23 : decode cX2_countUnlike 23 = .ok (.lcmp, 1) := by decide +kernel
theorem dX2_countUnlike_24 : decode cX2_countUnlike 24 = .ok (.ifCond .eq 7, 3) := by decide +kernel
theorem dX2_countUnlike_27 : decode cX2_countUnlike 27 = .ok (.iconst 1, 1) := by decide +kernel
theorem dX2_countUnlike_28 : decode cX2_countUnlike 28 = .ok (.goto 4, 3) := by decide +kernel
theorem dX2_countUnlike_31 : decode cX2_countUnlike 31 = .ok (.iconst 0, 1) := by decide +kernel
theorem dX2_countUnlike_32 : decode cX2_countUnlike 32 = .ok (.iadd, 1) := by decide +kernel
theorem dX2_countUnlike_33 : decode cX2_countUnlike 33 = .ok (.istore_n 2, 1) := by decide +kernel
theorem dX2_countUnlike_34 : decode cX2_countUnlike 34 = .ok (.iinc 3 1, 3) := by decide +kernel
theorem dX2_countUnlike_37 : decode cX2_countUnlike 37 = .ok (.goto (-33), 3) := by decide +kernel
theorem dX2_countUnlike_40 : decode cX2_countUnlike 40 = .ok (.iload_n 2, 1) := by decide +kernel
theorem dX2_countUnlike_41 : decode cX2_countUnlike 41 = .ok (.ireturn, 1) := by decide +kernel
set_option maxRecDepth 20000 in
theorem ggX3_init_X4_init : GoodIn wsX3_init wsX4_init := goodIn_r _ [9, 10, 2, 3, 11, 12, 13, 14, 15, 16, 17, 18, 19, 20, 21, 22, 23, 24, 25, 26, 27, 28, 29, 30, 31, 32, 33, 36, 37, 38, 39, 40, 41, 42, 43, 44, 45, 46, 47, 48, 49] (by decide +kernel) (by decide +kernel)
set_option maxRecDepth 20000 in
theorem gX3_init_X4_init_n15 : GoodIn wsX3_init (wsX4_init) := ggX3_init_X4_init
theorem dX3_init_0 : decode cX3_init 0 = .ok (.aload_n 0, 1) := by decide +kernel
theorem dX3_init_1 : decode cX3_init 1 = .ok (.invokespecial 1, 3) := by decide +kernel
theorem dX3_init_4 : decode cX3_init 4 = .ok (.aload_n 0, 1) := by decide +kernel
theorem dX3_init_5 : decode cX3_init 5 = .ok (.bipush 6, 2) := by decide +kernel
theorem dX3_init_7 : decode cX3_init 7 = .ok (.anewarray 9, 3) := by decide +kernel
theorem dX3_init_10 : decode cX3_init 10 = .ok (.putfield 11, 3) := by decide +kernel
theorem dX3_init_13 : decode cX3_init 13 = .ok (.iconst 0, 1) := by decide +kernel
theorem dX3_init_14 : decode cX3_init 14 = .ok (.istore_n 1, 1) := by decide +kernel
theorem dX3_init_15 : decode cX3_init 15 = .ok (.iload_n 1, 1) := by decide +kernel
theorem dX3_init_16 : decode cX3_init 16 = .ok (.bipush 6, 2) := by decide +kernel
theorem dX3_init_18 : decode cX3_init 18 = .ok (.if_icmp .ge 22, 3) := by decide +kernel
theorem dX3_init_21 : decode cX3_init 21 = .ok (.aload_n 0, 1) := by decide +kernel
theorem dX3_init_22 : decode cX3_init 22 = .ok (.getfield 11, 3) := by decide +kernel
theorem dX3_init_25 : decode cX3_init 25 = .ok (.iload_n 1, 1) := by decide +kernel
theorem dX3_init_26 : decode cX3_init 26 = .ok (.new 9, 3) := by decide +kernel
theorem dX3_init_29 : decode cX3_init 29 = .ok (.dup, 1) := by decide +kernel
theorem dX3_init_30 : decode cX3_init 30 = .ok (.invokespecial 15, 3) := by decide +kernel
theorem dX3_init_33 : decode cX3_init 33 = .ok (.aastore, 1) := by decide +kernel
theorem dX3_init_34 : decode cX3_init 34 = .ok (.iinc 1 1, 3) := by decide +kernel
theorem dX3_init_37 : decode cX3_init 37 = .ok (.goto (-22), 3) := by decide +kernel
theorem dX3_init_40 : decode cX3_init 40 = .ok (.return_, 1) := by decide +kernel
set_option maxRecDepth 20000 in
theorem ggX3_keep_X3_dropOldest : GoodIn wsX3_keep wsX3_dropOldest := goodIn_r _ [7, 2, 1, 37, 38] (by decide +kernel) (by decide +kernel)
set_option maxRecDepth 20000 in
theorem gX3_keep_X3_dropOldest : GoodIn wsX3_keep (wsV RX3 20 RX3 yX3_dropOldest wsX3_dropOldest) := goodIn_app (goodIn_of _ (by decide +kernel)) ggX3_keep_X3_dropOldest
set_option maxRecDepth 20000 in
theorem ggX3_keep_X4_copyFrom : GoodIn wsX3_keep wsX4_copyFrom := goodIn_r _ [12, 13, 14, 15, 16, 17, 18, 19, 20, 21, 22, 23, 24, 25, 26, 27, 28, 29, 30, 31, 32, 33, 34, 35, 36, 39, 40, 41, 42, 43, 44, 45, 46, 47, 48, 49, 50, 51, 52] (by decide +kernel) (by decide +kernel)
set_option maxRecDepth 20000 in
theorem gX3_keep_X4_copyFrom : GoodIn wsX3_keep (wsV RX3 23 RX4 yX4_copyFrom wsX4_copyFrom) := goodIn_app (goodIn_of _ (by decide +kernel)) ggX3_keep_X4_copyFrom
theorem dX3_keep_0 : decode cX3_keep 0 = .ok (.aload_n 0, 1) := by decide +kernel
theorem dX3_keep_1 : decode cX3_keep 1 = .ok (.getfield 16, 3) := by decide +kernel
theorem dX3_keep_4 : decode cX3_keep 4 = .ok (.bipush 6, 2) := by decide +kernel
theorem dX3_keep_6 : decode cX3_keep 6 = .ok (.if_icmp .ne 7, 3) := by decide +kernel
theorem dX3_keep_9 : decode cX3_keep 9 = .ok (.aload_n 0, 1) := by decide +kernel
theorem dX3_keep_10 : decode cX3_keep 10 = .ok (.invokevirtual 20, 3) := by decide +kernel
theorem dX3_keep_13 : decode cX3_keep 13 = .ok (.aload_n 0, 1) := by decide +kernel
theorem dX3_keep_14 : decode cX3_keep 14 = .ok (.getfield 11, 3) := by decide +kernel
theorem dX3_keep_17 : decode cX3_keep 17 = .ok (.aload_n 0, 1) := by decide +kernel
theorem dX3_keep_18 : decode cX3_keep 18 = .ok (.getfield 16, 3) := by decide +kernel
theorem dX3_keep_21 : decode cX3_keep 21 = .ok (.aaload, 1) := by decide +kernel
theorem dX3_keep_22 : decode cX3_keep 22 = .ok (.aload_n 1, 1) := by decide +kernel
theorem dX3_keep_23 : decode cX3_keep 23 = .ok (.invokevirtual 23, 3) := by decide +kernel
theorem dX3_keep_26 : decode cX3_keep 26 = .ok (.aload_n 0, 1) := by decide +kernel
theorem dX3_keep_27 : decode cX3_keep 27 = .ok (.dup, 1) := by decide +kernel
theorem dX3_keep_28 : decode cX3_keep 28 = .ok (.getfield 16, 3) := by decide +kernel
theorem dX3_keep_31 : decode cX3_keep 31 = .ok (.iconst 1, 1) := by decide +kernel
theorem dX3_keep_32 : decode cX3_keep 32 = .ok (.iadd, 1) := by decide +kernel
theorem dX3_keep_33 : decode cX3_keep 33 = .ok (.putfield 16, 3) := by decide +kernel
theorem dX3_keep_36 : decode cX3_keep 36 = .ok (.return_, 1) := by decide +kernel
set_option maxRecDepth 20000 in
theorem ggX3_giveBack_X4_copyFrom : GoodIn wsX3_giveBack wsX4_copyFrom := goodIn_r _ [7, 8, 9, 10, 11, 12, 13, 14, 15, 16, 17, 18, 19, 20, 21, 22, 23, 24, 25, 26, 27, 28, 29, 30, 31, 34, 35, 36, 37, 38, 39, 40, 41, 42, 43, 44, 45, 46, 47] (by decide +kernel) (by decide +kernel)
set_option maxRecDepth 20000 in
theorem gX3_giveBack_X4_copyFrom : GoodIn wsX3_giveBack (wsV RX3 23 RX4 yX4_copyFrom wsX4_copyFrom) := goodIn_app (goodIn_of _ (by decide +kernel)) ggX3_giveBack_X4_copyFrom
theorem dX3_giveBack_0 : decode cX3_giveBack 0 = .ok (.aload_n 0, 1) := by decide +kernel
theorem dX3_giveBack_1 : decode cX3_giveBack 1 = .ok (.getfield 16, 3) := by decide +kernel
theorem dX3_giveBack_4 : decode cX3_giveBack 4 = .ok (.ifCond .le 26, 3) := by decide +kernel
theorem dX3_giveBack_7 : decode cX3_giveBack 7 = .ok (.aload_n 0, 1) := by decide +kernel
theorem dX3_giveBack_8 : decode cX3_giveBack 8 = .ok (.dup, 1) := by decide +kernel
theorem dX3_giveBack_9 : decode cX3_giveBack 9 = .ok (.getfield 16, 3) := by decide +kernel
theorem dX3_giveBack_12 : decode cX3_giveBack 12 = .ok (.iconst 1, 1) := by decide +kernel
theorem dX3_giveBack_13 : decode cX3_giveBack 13 = .ok (.isub, 1) := by decide +kernel
theorem dX3_giveBack_14 : decode cX3_giveBack 14 = .ok (.putfield 16, 3) := by decide +kernel
theorem dX3_giveBack_17 : decode cX3_giveBack 17 = .ok (.aload_n 1, 1) := by decide +kernel
theorem dX3_giveBack_18 : decode cX3_giveBack 18 = .ok (.aload_n 0, 1) := by decide +kernel
theorem dX3_giveBack_19 : decode cX3_giveBack 19 = .ok (.getfield 11, 3) := by decide +kernel
theorem dX3_giveBack_22 : decode cX3_giveBack 22 = .ok (.aload_n 0, 1) := by decide +kernel
theorem dX3_giveBack_23 : decode cX3_giveBack 23 = .ok (.getfield 16, 3) := by decide +kernel
theorem dX3_giveBack_26 : decode cX3_giveBack 26 = .ok (.aaload, 1) := by decide +kernel
theorem dX3_giveBack_27 : decode cX3_giveBack 27 = .ok (.invokevirtual 23, 3) := by decide +kernel
theorem dX3_giveBack_30 : decode cX3_giveBack 30 = .ok (.return_, 1) := by decide +kernel
theorem dX3_dropOldest_0 : decode cX3_dropOldest 0 = .ok (.aload_n 0, 1) := by decide +kernel
theorem dX3_dropOldest_1 : decode cX3_dropOldest 1 = .ok (.getfield 11, 3) := by decide +kernel
theorem dX3_dropOldest_4 : decode cX3_dropOldest 4 = .ok (.iconst 0, 1) := by decide +kernel
theorem dX3_dropOldest_5 : decode cX3_dropOldest 5 = .ok (.aaload, 1) := by decide +kernel
theorem dX3_dropOldest_6 : decode cX3_dropOldest 6 = .ok (.astore_n 1, 1) := by decide +kernel
theorem dX3_dropOldest_7 : decode cX3_dropOldest 7 = .ok (.iconst 1, 1) := by decide +kernel
theorem dX3_dropOldest_8 : decode cX3_dropOldest 8 = .ok (.istore_n 2, 1) := by decide +kernel
theorem dX3_dropOldest_9 : decode cX3_dropOldest 9 = .ok (.iload_n 2, 1) := by decide +kernel
theorem dX3_dropOldest_10 : decode cX3_dropOldest 10 = .ok (.bipush 6, 2) := by decide +kernel
theorem dX3_dropOldest_12 : decode cX3_dropOldest 12 = .ok (.if_icmp .ge 23, 3) := by decide +kernel
theorem dX3_dropOldest_15 : decode cX3_dropOldest 15 = .ok (.aload_n 0, 1) := by decide +kernel
theorem dX3_dropOldest_16 : decode cX3_dropOldest 16 = .ok (.getfield 11, 3) := by decide +kernel
theorem dX3_dropOldest_19 : decode cX3_dropOldest 19 = .ok (.iload_n 2, 1) := by decide +kernel
theorem dX3_dropOldest_20 : decode cX3_dropOldest 20 = .ok (.iconst 1, 1) := by decide +kernel
theorem dX3_dropOldest_21 : decode cX3_dropOldest 21 = .ok (.isub, 1) := by decide +kernel
theorem dX3_dropOldest_22 : decode cX3_dropOldest 22 = .ok (.aload_n 0, 1) := by decide +kernel
theorem dX3_dropOldest_23 : decode cX3_dropOldest 23 = .ok (.getfield 11, 3) := by decide +kernel
theorem dX3_dropOldest_26 : decode cX3_dropOldest 26 = .ok (.iload_n 2, 1) := by decide +kernel
theorem dX3_dropOldest_27 : decode cX3_dropOldest 27 = .ok (.aaload, 1) := by decide +kernel
theorem dX3_dropOldest_28 : decode cX3_dropOldest 28 = .ok (.aastore, 1) := by decide +kernel
theorem dX3_dropOldest_29 : decode cX3_dropOldest 29 = .ok (.iinc 2 1, 3) := by decide +kernel
theorem dX3_dropOldest_32 : decode cX3_dropOldest 32 = .ok (.goto (-23), 3) := by decide +kernel
theorem dX3_dropOldest_35 : decode cX3_dropOldest 35 = .ok (.aload_n 0, 1) := by decide +kernel
theorem dX3_dropOldest_36 : decode cX3_dropOldest 36 = .ok (.getfield 11, 3) := by decide +kernel
theorem dX3_dropOldest_39 : decode cX3_dropOldest 39 = .ok (.iconst 5, 1) := by decide +kernel
theorem dX3_dropOldest_40 : decode cX3_dropOldest 40 = .ok (.aload_n 1, 1) := by decide +kernel
theorem dX3_dropOldest_41 : decode cX3_dropOldest 41 = .ok (.aastore, 1) := by decide +kernel
theorem dX3_dropOldest_42 : decode cX3_dropOldest 42 = .ok (.aload_n 0, 1) := by decide +kernel
theorem dX3_dropOldest_43 : decode cX3_dropOldest 43 = .ok (.iconst 5, 1) := by decide +kernel
theorem dX3_dropOldest_44 : decode cX3_dropOldest 44 = .ok (.putfield 16, 3) := by decide +kernel
theorem dX3_dropOldest_47 : decode cX3_dropOldest 47 = .ok (.return_, 1) := by decide +kernel
set_option maxRecDepth 20000 in
theorem ggX4_init_X2_init : GoodIn wsX4_init wsX2_init := goodIn_r _ [19, 20, 2, 3, 5, 21, 37] (by decide +kernel) (by decide +kernel)
set_option maxRecDepth 20000 in
theorem gX4_init_X2_init_n28 : GoodIn wsX4_init (wsX2_init) := ggX4_init_X2_init
set_option maxRecDepth 20000 in
theorem ggX4_init_X5_init : GoodIn wsX4_init wsX5_init := goodIn_r _ [23, 24, 2, 3, 8, 25, 26, 38, 39, 40] (by decide +kernel) (by decide +kernel)
set_option maxRecDepth 20000 in
theorem gX4_init_X5_init_n35 : GoodIn wsX4_init (wsX5_init) := ggX4_init_X5_init
theorem dX4_init_0 : decode cX4_init 0 = .ok (.aload_n 0, 1) := by decide +kernel
theorem dX4_init_1 : decode cX4_init 1 = .ok (.invokespecial 3, 3) := by decide +kernel
theorem dX4_init_4 : decode cX4_init 4 = .ok (.aload_n 0, 1) := by decide +kernel
theorem dX4_init_5 : decode cX4_init 5 = .ok (.iconst 5, 1) := by decide +kernel
theorem dX4_init_6 : decode cX4_init 6 = .ok (.putfield 9, 3) := by decide +kernel
theorem dX4_init_9 : decode cX4_init 9 = .ok (.aload_n 0, 1) := by decide +kernel
theorem dX4_init_10 : decode cX4_init 10 = .ok (.bipush 40, 2) := by decide +kernel
theorem dX4_init_12 : decode cX4_init 12 = .ok (.newarray .long, 2) := by decide +kernel
theorem dX4_init_14 : decode cX4_init 14 = .ok (.putfield 15, 3) := by decide +kernel
theorem dX4_init_17 : decode cX4_init 17 = .ok (.aload_n 0, 1) := by decide +kernel
theorem dX4_init_18 : decode cX4_init 18 = .ok (.bipush 40, 2) := by decide +kernel
theorem dX4_init_20 : decode cX4_init 20 = .ok (.newarray .long, 2) := by decide +kernel
theorem dX4_init_22 : decode cX4_init 22 = .ok (.putfield 19, 3) := by decide +kernel
theorem dX4_init_25 : decode cX4_init 25 = .ok (.aload_n 0, 1) := by decide +kernel
theorem dX4_init_26 : decode cX4_init 26 = .ok (.bipush 40, 2) := by decide +kernel
theorem dX4_init_28 : decode cX4_init 28 = .ok (.newarray .int, 2) := by decide +kernel
theorem dX4_init_30 : decode cX4_init 30 = .ok (.putfield 22, 3) := by decide +kernel
theorem dX4_init_33 : decode cX4_init 33 = .ok (.aload_n 0, 1) := by decide +kernel
theorem dX4_init_34 : decode cX4_init 34 = .ok (.new 26, 3) := by decide +kernel
theorem dX4_init_37 : decode cX4_init 37 = .ok (.dup, 1) := by decide +kernel
theorem dX4_init_38 : decode cX4_init 38 = .ok (.invokespecial 28, 3) := by decide +kernel
theorem dX4_init_41 : decode cX4_init 41 = .ok (.putfield 29, 3) := by decide +kernel
theorem dX4_init_44 : decode cX4_init 44 = .ok (.aload_n 0, 1) := by decide +kernel
theorem dX4_init_45 : decode cX4_init 45 = .ok (.new 33, 3) := by decide +kernel
theorem dX4_init_48 : decode cX4_init 48 = .ok (.dup, 1) := by decide +kernel
theorem dX4_init_49 : decode cX4_init 49 = .ok (.invokespecial 35, 3) := by decide +kernel
theorem dX4_init_52 : decode cX4_init 52 = .ok (.putfield 36, 3) := by decide +kernel
theorem dX4_init_55 : decode cX4_init 55 = .ok (.return_, 1) := by decide +kernel
set_option maxRecDepth 20000 in
theorem ggX4_copyFrom_X2_copyFrom : GoodIn wsX4_copyFrom wsX2_copyFrom := goodIn_r _ [15, 16, 35] (by decide +kernel) (by decide +kernel)
set_option maxRecDepth 20000 in
theorem gX4_copyFrom_X2_copyFrom : GoodIn wsX4_copyFrom (wsV RX4 52 RX2 yX2_copyFrom wsX2_copyFrom) := goodIn_app (goodIn_of _ (by decide +kernel)) ggX4_copyFrom_X2_copyFrom
set_option maxRecDepth 20000 in
theorem ggX4_copyFrom_X5_copyFrom : GoodIn wsX4_copyFrom wsX5_copyFrom := goodIn_r _ [21, 22, 23, 24, 36, 37, 38] (by decide +kernel) (by decide +kernel)
set_option maxRecDepth 20000 in
theorem gX4_copyFrom_X5_copyFrom : GoodIn wsX4_copyFrom (wsV RX4 56 RX5 yX5_copyFrom wsX5_copyFrom) := goodIn_app (goodIn_of _ (by decide +kernel)) ggX4_copyFrom_X5_copyFrom
theorem dX4_copyFrom_0 : decode cX4_copyFrom 0 = .ok (.aload_n 0, 1) := by decide +kernel
theorem dX4_copyFrom_1 : decode cX4_copyFrom 1 = .ok (.aload_n 1, 1) := by decide +kernel
theorem dX4_copyFrom_2 : decode cX4_copyFrom 2 = .ok (.getfield 40, 3) := by decide +kernel
theorem dX4_copyFrom_5 : decode cX4_copyFrom 5 = .ok (.putfield 40, 3) := by decide +kernel
theorem dX4_copyFrom_8 : decode cX4_copyFrom 8 = .ok (.aload_n 0, 1) := by decide +kernel
theorem dX4_copyFrom_9 : decode cX4_copyFrom 9 = .ok (.aload_n 1, 1) := by decide +kernel
theorem dX4_copyFrom_10 : decode cX4_copyFrom 10 = .ok (.getfield 43, 3) := by decide +kernel
theorem dX4_copyFrom_13 : decode cX4_copyFrom 13 = .ok (.putfield 43, 3) := by decide +kernel
theorem dX4_copyFrom_16 : decode cX4_copyFrom 16 = .ok (.aload_n 0, 1) := by decide +kernel
theorem dX4_copyFrom_17 : decode cX4_copyFrom 17 = .ok (.aload_n 1, 1) := by decide +kernel
theorem dX4_copyFrom_18 : decode cX4_copyFrom 18 = .ok (.getfield 46, 3) := by decide +kernel
theorem dX4_copyFrom_21 : decode cX4_copyFrom 21 = .ok (.putfield 46, 3) := by decide +kernel
theorem dX4_copyFrom_24 : decode cX4_copyFrom 24 = .ok (.aload_n 0, 1) := by decide +kernel
theorem dX4_copyFrom_25 : decode cX4_copyFrom 25 = .ok (.aload_n 1, 1) := by decide +kernel
theorem dX4_copyFrom_26 : decode cX4_copyFrom 26 = .ok (.getfield 9, 3) := by decide +kernel
theorem dX4_copyFrom_29 : decode cX4_copyFrom 29 = .ok (.putfield 9, 3) := by decide +kernel
theorem dX4_copyFrom_32 : decode cX4_copyFrom 32 = .ok (.aload_n 0, 1) := by decide +kernel
theorem dX4_copyFrom_33 : decode cX4_copyFrom 33 = .ok (.aload_n 1, 1) := by decide +kernel
theorem dX4_copyFrom_34 : decode cX4_copyFrom 34 = .ok (.getfield 49, 3) := by decide +kernel
theorem dX4_copyFrom_37 : decode cX4_copyFrom 37 = .ok (.putfield 49, 3) := by decide +kernel
theorem dX4_copyFrom_40 : decode cX4_copyFrom 40 = .ok (.iconst 0, 1) := by decide +kernel
theorem dX4_copyFrom_41 : decode cX4_copyFrom 41 = .ok (.istore_n 2, 1) := by decide +kernel
theorem dX4_copyFrom_42 : decode cX4_copyFrom 42 = .ok (.iload_n 2, 1) := by decide +kernel
theorem dX4_copyFrom_43 : decode cX4_copyFrom 43 = .ok (.bipush 40, 2) := by decide +kernel
theorem dX4_copyFrom_45 : decode cX4_copyFrom 45 = .ok (.if_icmp .ge 45, 3) := by decide +kernel
theorem dX4_copyFrom_48 : decode cX4_copyFrom 48 = .ok (.aload_n 0, 1) := by decide +kernel
theorem dX4_copyFrom_49 : decode cX4_copyFrom 49 = .ok (.getfield 15, 3) := by decide +kernel
theorem dX4_copyFrom_52 : decode cX4_copyFrom 52 = .ok (.iload_n 2, 1) := by decide +kernel
theorem dX4_copyFrom_53 : decode cX4_copyFrom 53 = .ok (.aload_n 1, 1) := by decide +kernel
theorem dX4_copyFrom_54 : decode cX4_copyFrom 54 = .ok (.getfield 15, 3) := by decide +kernel
theorem dX4_copyFrom_57 : decode cX4_copyFrom 57 = .ok (.iload_n 2, 1) := by decide +kernel
theorem dX4_copyFrom_58 : decode cX4_copyFrom 58 = .ok (.laload, 1) := by decide +kernel
theorem dX4_copyFrom_59 : decode cX4_copyFrom 59 = .ok (.lastore, 1) := by decide +kernel
theorem dX4_copyFrom_60 : decode cX4_copyFrom 60 = .ok (.aload_n 0, 1) := by decide +kernel
theorem dX4_copyFrom_61 : decode cX4_copyFrom 61 = .ok (.getfield 19, 3) := by decide +kernel
theorem dX4_copyFrom_64 : decode cX4_copyFrom 64 = .ok (.iload_n 2, 1) := by decide +kernel
theorem dX4_copyFrom_65 : decode cX4_copyFrom 65 = .ok (.aload_n 1, 1) := by decide +kernel
theorem dX4_copyFrom_66 : decode cX4_copyFrom 66 = .ok (.getfield 19, 3) := by decide +kernel
theorem dX4_copyFrom_69 : decode cX4_copyFrom 69 = .ok (.iload_n 2, 1) := by decide +kernel
theorem dX4_copyFrom_70 : decode cX4_copyFrom 70 = .ok (.laload, 1) := by decide +kernel
theorem dX4_copyFrom_71 : decode cX4_copyFrom 71 = .ok (.lastore, 1) := by decide +kernel
theorem dX4_copyFrom_72 : decode cX4_copyFrom 72 = .ok (.aload_n 0, 1) := by decide +kernel
theorem dX4_copyFrom_73 : decode cX4_copyFrom 73 = .ok (.getfield 22, 3) := by decide +kernel
theorem dX4_copyFrom_76 : decode cX4_copyFrom 76 = .ok (.iload_n 2, 1) := by decide +kernel
theorem dX4_copyFrom_77 : decode cX4_copyFrom 77 = .ok (.aload_n 1, 1) := by decide +kernel
theorem dX4_copyFrom_78 : decode cX4_copyFrom 78 = .ok (.getfield 22, 3) := by decide +kernel
theorem dX4_copyFrom_81 : decode cX4_copyFrom 81 = .ok (.iload_n 2, 1) := by decide +kernel
theorem dX4_copyFrom_82 : decode cX4_copyFrom 82 = .ok (.iaload, 1) := by decide +kernel
theorem dX4_copyFrom_83 : decode cX4_copyFrom 83 = .ok (.iastore, 1) := by decide +kernel
theorem dX4_copyFrom_84 : decode cX4_copyFrom 84 = .ok (.iinc 2 1, 3) := by decide +kernel
theorem dX4_copyFrom_87 : decode cX4_copyFrom 87 = .ok (.goto (-45), 3) := by decide +kernel
theorem dX4_copyFrom_90 : decode cX4_copyFrom 90 = .ok (.aload_n 0, 1) := by decide +kernel
theorem dX4_copyFrom_91 : decode cX4_copyFrom 91 = .ok (.getfield 29, 3) := by decide +kernel
theorem dX4_copyFrom_94 : decode cX4_copyFrom 94 = .ok (.aload_n 1, 1) := by decide +kernel
theorem dX4_copyFrom_95 : decode cX4_copyFrom 95 = .ok (.getfield 29, 3) := by decide +kernel
theorem dX4_copyFrom_98 : decode cX4_copyFrom 98 = .ok (.invokevirtual 52, 3) := by decide +kernel
theorem dX4_copyFrom_101 : decode cX4_copyFrom 101 = .ok (.aload_n 0, 1) := by decide +kernel
theorem dX4_copyFrom_102 : decode cX4_copyFrom 102 = .ok (.getfield 36, 3) := by decide +kernel
theorem dX4_copyFrom_105 : decode cX4_copyFrom 105 = .ok (.aload_n 1, 1) := by decide +kernel
theorem dX4_copyFrom_106 : decode cX4_copyFrom 106 = .ok (.getfield 36, 3) := by decide +kernel
theorem dX4_copyFrom_109 : decode cX4_copyFrom 109 = .ok (.invokevirtual 56, 3) := by decide +kernel
theorem dX4_copyFrom_112 : decode cX4_copyFrom 112 = .ok (.return_, 1) := by decide +kernel
theorem dX4_hasRow_0 : decode cX4_hasRow 0 = .ok (.iload_n 1, 1) := by decide +kernel
theorem dX4_hasRow_1 : decode cX4_hasRow 1 = .ok (.ifCond .lt 15, 3) := by decide +kernel
theorem dX4_hasRow_4 : decode cX4_hasRow 4 = .ok (.iload_n 1, 1) := by decide +kernel
theorem dX4_hasRow_5 : decode cX4_hasRow 5 = .ok (.aload_n 0, 1) := by decide +kernel
theorem dX4_hasRow_6 : decode cX4_hasRow 6 = .ok (.getfield 46, 3) := by decide +kernel
theorem dX4_hasRow_9 : decode cX4_hasRow 9 = .ok (.if_icmp .ge 7, 3) := by decide +kernel
theorem dX4_hasRow_12 : decode cX4_hasRow 12 = .ok (.iconst 1, 1) := by decide +kernel
theorem dX4_hasRow_13 : decode cX4_hasRow 13 = .ok (.goto 4, 3) := by decide +kernel
theorem dX4_hasRow_16 : decode cX4_hasRow 16 = .ok (.iconst 0, 1) := by decide +kernel
theorem dX4_hasRow_17 : decode cX4_hasRow 17 = .ok (.ireturn, 1) := by decide +kernel
theorem dX4_hasRoomFor_0 : decode cX4_hasRoomFor 0 = .ok (.iload_n 1, 1) := by decide +kernel
theorem dX4_hasRoomFor_1 : decode cX4_hasRoomFor 1 = .ok (.bipush 40, 2) := by decide +kernel
theorem dX4_hasRoomFor_3 : decode cX4_hasRoomFor 3 = .ok (.aload_n 0, 1) := by decide +kernel
theorem dX4_hasRoomFor_4 : decode cX4_hasRoomFor 4 = .ok (.getfield 46, 3) := by decide +kernel
theorem dX4_hasRoomFor_7 : decode cX4_hasRoomFor 7 = .ok (.isub, 1) := by decide +kernel
theorem dX4_hasRoomFor_8 : decode cX4_hasRoomFor 8 = .ok (.if_icmp .gt 7, 3) := by decide +kernel
theorem dX4_hasRoomFor_11 : decode cX4_hasRoomFor 11 = .ok (.iconst 1, 1) := by decide +kernel
theorem dX4_hasRoomFor_12 : decode cX4_hasRoomFor 12 = .ok (.goto 4, 3) := by decide +kernel
theorem dX4_hasRoomFor_15 : decode cX4_hasRoomFor 15 = .ok (.iconst 0, 1) := by decide +kernel
theorem dX4_hasRoomFor_16 : decode cX4_hasRoomFor 16 = .ok (.ireturn, 1) := by decide +kernel
set_option maxRecDepth 20000 in
theorem ggX4_reckonRight_X4_raise : GoodIn wsX4_reckonRight wsX4_raise := goodIn_r _ [6] (by decide +kernel) (by decide +kernel)
set_option maxRecDepth 20000 in
theorem gX4_reckonRight_X4_raise : GoodIn wsX4_reckonRight (va_wsS RX4 59 yX4_raise wsX4_raise) := goodIn_app (goodIn_of _ (by decide +kernel)) ggX4_reckonRight_X4_raise
theorem dX4_reckonRight_0 : decode cX4_reckonRight 0 = .ok (.aload_n 0, 1) := by decide +kernel
theorem dX4_reckonRight_1 : decode cX4_reckonRight 1 = .ok (.getfield 43, 3) := by decide +kernel
theorem dX4_reckonRight_4 : decode cX4_reckonRight 4 = .ok (.iload_n 1, 1) := by decide +kernel
theorem dX4_reckonRight_5 : decode cX4_reckonRight 5 = .ok (.iadd, 1) := by decide +kernel
theorem dX4_reckonRight_6 : decode cX4_reckonRight 6 = .ok (.i2l, 1) := by decide +kernel
theorem dX4_reckonRight_7 : decode cX4_reckonRight 7 = .ok (.aload_n 0, 1) := by decide +kernel
theorem dX4_reckonRight_8 : decode cX4_reckonRight 8 = .ok (.getfield 40, 3) := by decide +kernel
theorem dX4_reckonRight_11 : decode cX4_reckonRight 11 = .ok (.invokestatic 59, 3) := by decide +kernel
theorem dX4_reckonRight_14 : decode cX4_reckonRight 14 = .ok (.lreturn, 1) := by decide +kernel
theorem dX4_error_0 : decode cX4_error 0 = .ok (.aload_n 0, 1) := by decide +kernel
theorem dX4_error_1 : decode cX4_error 1 = .ok (.getfield 15, 3) := by decide +kernel
theorem dX4_error_4 : decode cX4_error 4 = .ok (.iload_n 1, 1) := by decide +kernel
theorem dX4_error_5 : decode cX4_error 5 = .ok (.laload, 1) := by decide +kernel
theorem dX4_error_6 : decode cX4_error 6 = .ok (.aload_n 0, 1) := by decide +kernel
theorem dX4_error_7 : decode cX4_error 7 = .ok (.getfield 19, 3) := by decide +kernel
theorem dX4_error_10 : decode cX4_error 10 = .ok (.iload_n 1, 1) := by decide +kernel
theorem dX4_error_11 : decode cX4_error 11 = .ok (.laload, 1) := by decide +kernel
theorem dX4_error_12 : decode cX4_error 12 = .ok (.lsub, 1) := by decide +kernel
theorem dX4_error_13 : decode cX4_error 13 = .ok (.lreturn, 1) := by decide +kernel
theorem dX4_isWrong_0 : decode cX4_isWrong 0 = .ok (.aload_n 0, 1) := by decide +kernel
theorem dX4_isWrong_1 : decode cX4_isWrong 1 = .ok (.getfield 15, 3) := by decide +kernel
theorem dX4_isWrong_4 : decode cX4_isWrong 4 = .ok (.iload_n 1, 1) := by decide +kernel
theorem dX4_isWrong_5 : decode cX4_isWrong 5 = .ok (.laload, 1) := by decide +kernel
theorem dX4_isWrong_6 : decode cX4_isWrong 6 = .ok (.aload_n 0, 1) := by decide +kernel
theorem dX4_isWrong_7 : decode cX4_isWrong 7 = .ok (.getfield 19, 3) := by decide +kernel
theorem dX4_isWrong_10 : decode cX4_isWrong 10 = .ok (.iload_n 1, 1) := by decide +kernel
theorem dX4_isWrong_11 : decode cX4_isWrong 11 = .ok (.laload, 1) := by decide +kernel
theorem dX4_isWrong_12 : decode cX4_isWrong 12 = .ok (.lcmp, 1) := by decide +kernel
theorem dX4_isWrong_13 : decode cX4_isWrong 13 = .ok (.ifCond .eq 7, 3) := by decide +kernel
theorem dX4_isWrong_16 : decode cX4_isWrong 16 = .ok (.iconst 1, 1) := by decide +kernel
theorem dX4_isWrong_17 : decode cX4_isWrong 17 = .ok (.goto 4, 3) := by decide +kernel
theorem dX4_isWrong_20 : decode cX4_isWrong 20 = .ok (.iconst 0, 1) := by decide +kernel
theorem dX4_isWrong_21 : decode cX4_isWrong 21 = .ok (.ireturn, 1) := by decide +kernel
set_option maxRecDepth 20000 in
theorem ggX4_addRows_X2_nextNumber : GoodIn wsX4_addRows wsX2_nextNumber := goodIn_r _ [11, 12, 42] (by decide +kernel) (by decide +kernel)
set_option maxRecDepth 20000 in
theorem gX4_addRows_X2_nextNumber : GoodIn wsX4_addRows (wsV RX4 63 RX2 yX2_nextNumber wsX2_nextNumber) := goodIn_app (goodIn_of _ (by decide +kernel)) ggX4_addRows_X2_nextNumber
set_option maxRecDepth 20000 in
theorem ggX4_addRows_X4_reckonRight : GoodIn wsX4_addRows wsX4_reckonRight := goodIn_r _ [17, 18, 19, 20, 21, 16, 22, 32, 33, 34, 35, 36, 37, 38, 39, 40, 41] (by decide +kernel) (by decide +kernel)
set_option maxRecDepth 20000 in
theorem gX4_addRows_X4_reckonRight : GoodIn wsX4_addRows (wsV RX4 67 RX4 yX4_reckonRight wsX4_reckonRight) := goodIn_app (goodIn_of _ (by decide +kernel)) ggX4_addRows_X4_reckonRight
set_option maxRecDepth 20000 in
theorem ggX4_addRows_X5_printDigits : GoodIn wsX4_addRows wsX5_printDigits := goodIn_r _ [27, 28, 29, 30, 31, 43, 44, 45] (by decide +kernel) (by decide +kernel)
set_option maxRecDepth 20000 in
theorem gX4_addRows_X5_printDigits : GoodIn wsX4_addRows (wsV RX4 71 RX5 yX5_printDigits wsX5_printDigits) := goodIn_app (goodIn_of _ (by decide +kernel)) ggX4_addRows_X5_printDigits
theorem dX4_addRows_0 : decode cX4_addRows 0 = .ok (.iconst 0, 1) := by decide +kernel
theorem dX4_addRows_1 : decode cX4_addRows 1 = .ok (.istore_n 2, 1) := by decide +kernel
theorem dX4_addRows_2 : decode cX4_addRows 2 = .ok (.iconst 0, 1) := by decide +kernel
theorem dX4_addRows_3 : decode cX4_addRows 3 = .ok (.istore_n 3, 1) := by decide +kernel
theorem dX4_addRows_4 : decode cX4_addRows 4 = .ok (.iload_n 3, 1) := by decide +kernel
theorem dX4_addRows_5 : decode cX4_addRows 5 = .ok (.iload_n 1, 1) := by decide +kernel
theorem dX4_addRows_6 : decode cX4_addRows 6 = .ok (.if_icmp .ge 98, 3) := by decide +kernel
theorem dX4_addRows_9 : decode cX4_addRows 9 = .ok (.aload_n 0, 1) := by decide +kernel
theorem dX4_addRows_10 : decode cX4_addRows 10 = .ok (.getfield 46, 3) := by decide +kernel
theorem dX4_addRows_13 : decode cX4_addRows 13 = .ok (.bipush 40, 2) := by decide +kernel
theorem dX4_addRows_15 : decode cX4_addRows 15 = .ok (.if_icmp .ge 89, 3) := by decide +kernel
theorem dX4_addRows_18 : decode cX4_addRows 18 = .ok (.aload_n 0, 1) := by decide +kernel
theorem dX4_addRows_19 : decode cX4_addRows 19 = .ok (.getfield 15, 3) := by decide +kernel
theorem dX4_addRows_22 : decode cX4_addRows 22 = .ok (.aload_n 0, 1) := by decide +kernel
theorem dX4_addRows_23 : decode cX4_addRows 23 = .ok (.getfield 46, 3) := by decide +kernel
theorem dX4_addRows_26 : decode cX4_addRows 26 = .ok (.aload_n 0, 1) := by decide +kernel
theorem dX4_addRows_27 : decode cX4_addRows 27 = .ok (.getfield 29, 3) := by decide +kernel
theorem dX4_addRows_30 : decode cX4_addRows 30 = .ok (.invokevirtual 63, 3) := by decide +kernel
theorem dX4_addRows_33 : decode cX4_addRows 33 = .ok (.lastore, 1) := by decide +kernel
theorem dX4_addRows_34 : decode cX4_addRows 34 = .ok (.aload_n 0, 1) := by decide +kernel
theorem dX4_addRows_35 : decode cX4_addRows 35 = .ok (.getfield 19, 3) := by decide +kernel
theorem dX4_addRows_38 : decode cX4_addRows 38 = .ok (.aload_n 0, 1) := by decide +kernel
theorem dX4_addRows_39 : decode cX4_addRows 39 = .ok (.getfield 46, 3) := by decide +kernel
theorem dX4_addRows_42 : decode cX4_addRows 42 = .ok (.aload_n 0, 1) := by decide +kernel
theorem dX4_addRows_43 : decode cX4_addRows 43 = .ok (.aload_n 0, 1) := by decide +kernel
theorem dX4_addRows_44 : decode cX4_addRows 44 = .ok (.getfield 46, 3) := by decide +kernel
theorem dX4_addRows_47 : decode cX4_addRows 47 = .ok (.invokevirtual 67, 3) := by decide +kernel
theorem dX4_addRows_50 : decode cX4_addRows 50 = .ok (.lastore, 1) := by decide +kernel
theorem dX4_addRows_51 : decode cX4_addRows 51 = .ok (.aload_n 0, 1) := by decide +kernel
theorem dX4_addRows_52 : decode cX4_addRows 52 = .ok (.getfield 22, 3) := by decide +kernel
theorem dX4_addRows_55 : decode cX4_addRows 55 = .ok (.aload_n 0, 1) := by decide +kernel
theorem dX4_addRows_56 : decode cX4_addRows 56 = .ok (.getfield 46, 3) := by decide +kernel
theorem dX4_addRows_59 : decode cX4_addRows 59 = .ok (.aload_n 0, 1) := by decide +kernel
theorem dX4_addRows_60 : decode cX4_addRows 60 = .ok (.getfield 36, 3) := by decide +kernel
theorem dX4_addRows_63 : decode cX4_addRows 63 = .ok (.aload_n 0, 1) := by decide +kernel
theorem dX4_addRows_64 : decode cX4_addRows 64 = .ok (.getfield 15, 3) := by decide +kernel
theorem dX4_addRows_67 : decode cX4_addRows 67 = .ok (.aload_n 0, 1) := by decide +kernel
theorem dX4_addRows_68 : decode cX4_addRows 68 = .ok (.getfield 46, 3) := by decide +kernel
theorem dX4_addRows_71 : decode cX4_addRows 71 = .ok (.laload, 1) := by decide +kernel
theorem dX4_addRows_72 : decode cX4_addRows 72 = .ok (.invokevirtual 71, 3) := by decide +kernel
theorem dX4_addRows_75 : decode cX4_addRows 75 = .ok (.iastore, 1) := by decide +kernel
theorem dX4_addRows_76 : decode cX4_addRows 76 = .ok (.iload_n 2, 1) := by decide +kernel
theorem dX4_addRows_77 : decode cX4_addRows 77 = .ok (.aload_n 0, 1) := by decide +kernel
theorem dX4_addRows_78 : decode cX4_addRows 78 = .ok (.getfield 22, 3) := by decide +kernel
theorem dX4_addRows_81 : decode cX4_addRows 81 = .ok (.aload_n 0, 1) := by decide +kernel
theorem dX4_addRows_82 : decode cX4_addRows 82 = .ok (.getfield 46, 3) := by decide +kernel
theorem dX4_addRows_85 : decode cX4_addRows 85 = .ok (.iaload, 1) := by decide +kernel
theorem dX4_addRows_86 : decode cX4_addRows 86 = .ok (.iadd, 1) := by decide +kernel
theorem dX4_addRows_87 : decode cX4_addRows 87 = .ok (.istore_n 2, 1) := by decide +kernel
theorem dX4_addRows_88 : decode cX4_addRows 88 = .ok (.aload_n 0, 1) := by decide +kernel
theorem dX4_addRows_89 : decode cX4_addRows 89 = .ok (.dup, 1) := by decide +kernel
theorem dX4_addRows_90 : decode cX4_addRows 90 = .ok (.getfield 46, 3) := by decide +kernel
theorem dX4_addRows_93 : decode cX4_addRows 93 = .ok (.iconst 1, 1) := by decide +kernel
theorem dX4_addRows_94 : decode cX4_addRows 94 = .ok (.iadd, 1) := by decide +kernel
theorem dX4_addRows_95 : decode cX4_addRows 95 = .ok (.putfield 46, 3) := by decide +kernel
theorem dX4_addRows_98 : decode cX4_addRows 98 = .ok (.iinc 3 1, 3) := by decide +kernel
theorem dX4_addRows_101 : decode cX4_addRows 101 = .ok (.goto (-97), 3) := by decide +kernel
theorem dX4_addRows_104 : decode cX4_addRows 104 = .ok (.iload_n 2, 1) := by decide +kernel
theorem dX4_addRows_105 : decode cX4_addRows 105 = .ok (.ireturn, 1) := by decide +kernel
set_option maxRecDepth 20000 in
theorem ggX4_strikeAnew_X5_printDigits : GoodIn wsX4_strikeAnew wsX5_printDigits := goodIn_r _ [10, 11, 12, 13, 14, 25, 26, 27] (by decide +kernel) (by decide +kernel)
set_option maxRecDepth 20000 in
theorem gX4_strikeAnew_X5_printDigits : GoodIn wsX4_strikeAnew (wsV RX4 71 RX5 yX5_printDigits wsX5_printDigits) := goodIn_app (goodIn_of _ (by decide +kernel)) ggX4_strikeAnew_X5_printDigits
theorem dX4_strikeAnew_0 : decode cX4_strikeAnew 0 = .ok (.aload_n 0, 1) := by decide +kernel
theorem dX4_strikeAnew_1 : decode cX4_strikeAnew 1 = .ok (.getfield 15, 3) := by decide +kernel
theorem dX4_strikeAnew_4 : decode cX4_strikeAnew 4 = .ok (.iload_n 1, 1) := by decide +kernel
theorem dX4_strikeAnew_5 : decode cX4_strikeAnew 5 = .ok (.aload_n 0, 1) := by decide +kernel
theorem dX4_strikeAnew_6 : decode cX4_strikeAnew 6 = .ok (.getfield 19, 3) := by decide +kernel
theorem dX4_strikeAnew_9 : decode cX4_strikeAnew 9 = .ok (.iload_n 1, 1) := by decide +kernel
theorem dX4_strikeAnew_10 : decode cX4_strikeAnew 10 = .ok (.laload, 1) := by decide +kernel
theorem dX4_strikeAnew_11 : decode cX4_strikeAnew 11 = .ok (.lastore, 1) := by decide +kernel
theorem dX4_strikeAnew_12 : decode cX4_strikeAnew 12 = .ok (.aload_n 0, 1) := by decide +kernel
theorem dX4_strikeAnew_13 : decode cX4_strikeAnew 13 = .ok (.getfield 22, 3) := by decide +kernel
theorem dX4_strikeAnew_16 : decode cX4_strikeAnew 16 = .ok (.iload_n 1, 1) := by decide +kernel
theorem dX4_strikeAnew_17 : decode cX4_strikeAnew 17 = .ok (.aload_n 0, 1) := by decide +kernel
theorem dX4_strikeAnew_18 : decode cX4_strikeAnew 18 = .ok (.getfield 36, 3) := by decide +kernel
theorem dX4_strikeAnew_21 : decode cX4_strikeAnew 21 = .ok (.aload_n 0, 1) := by decide +kernel
theorem dX4_strikeAnew_22 : decode cX4_strikeAnew 22 = .ok (.getfield 15, 3) := by decide +kernel
theorem dX4_strikeAnew_25 : decode cX4_strikeAnew 25 = .ok (.iload_n 1, 1) := by decide +kernel
theorem dX4_strikeAnew_26 : decode cX4_strikeAnew 26 = .ok (.laload, 1) := by decide +kernel
theorem dX4_strikeAnew_27 : decode cX4_strikeAnew 27 = .ok (.invokevirtual 71, 3) := by decide +kernel
theorem dX4_strikeAnew_30 : decode cX4_strikeAnew 30 = .ok (.iastore, 1) := by decide +kernel
theorem dX4_strikeAnew_31 : decode cX4_strikeAnew 31 = .ok (.aload_n 0, 1) := by decide +kernel
theorem dX4_strikeAnew_32 : decode cX4_strikeAnew 32 = .ok (.dup, 1) := by decide +kernel
theorem dX4_strikeAnew_33 : decode cX4_strikeAnew 33 = .ok (.getfield 49, 3) := by decide +kernel
theorem dX4_strikeAnew_36 : decode cX4_strikeAnew 36 = .ok (.iconst 1, 1) := by decide +kernel
theorem dX4_strikeAnew_37 : decode cX4_strikeAnew 37 = .ok (.iadd, 1) := by decide +kernel
theorem dX4_strikeAnew_38 : decode cX4_strikeAnew 38 = .ok (.putfield 49, 3) := by decide +kernel
theorem dX4_strikeAnew_41 : decode cX4_strikeAnew 41 = .ok (.aload_n 0, 1) := by decide +kernel
theorem dX4_strikeAnew_42 : decode cX4_strikeAnew 42 = .ok (.getfield 22, 3) := by decide +kernel
theorem dX4_strikeAnew_45 : decode cX4_strikeAnew 45 = .ok (.iload_n 1, 1) := by decide +kernel
theorem dX4_strikeAnew_46 : decode cX4_strikeAnew 46 = .ok (.iaload, 1) := by decide +kernel
theorem dX4_strikeAnew_47 : decode cX4_strikeAnew 47 = .ok (.ireturn, 1) := by decide +kernel
set_option maxRecDepth 20000 in
theorem ggX4_firstWrongRow_X4_isWrong : GoodIn wsX4_firstWrongRow wsX4_isWrong := goodIn_r _ [6, 7, 8, 9, 10, 11, 12, 13, 14, 15, 16, 17, 18] (by decide +kernel) (by decide +kernel)
set_option maxRecDepth 20000 in
theorem gX4_firstWrongRow_X4_isWrong : GoodIn wsX4_firstWrongRow (wsV RX4 75 RX4 yX4_isWrong wsX4_isWrong) := goodIn_app (goodIn_of _ (by decide +kernel)) ggX4_firstWrongRow_X4_isWrong
theorem dX4_firstWrongRow_0 : decode cX4_firstWrongRow 0 = .ok (.iconst 0, 1) := by decide +kernel
theorem dX4_firstWrongRow_1 : decode cX4_firstWrongRow 1 = .ok (.istore_n 1, 1) := by decide +kernel
theorem dX4_firstWrongRow_2 : decode cX4_firstWrongRow 2 = .ok (.iload_n 1, 1) := by decide +kernel
theorem dX4_firstWrongRow_3 : decode cX4_firstWrongRow 3 = .ok (.aload_n 0, 1) := by decide +kernel
theorem dX4_firstWrongRow_4 : decode cX4_firstWrongRow 4 = .ok (.getfield 46, 3) := by decide +kernel
theorem dX4_firstWrongRow_7 : decode cX4_firstWrongRow 7 = .ok (.if_icmp .ge 19, 3) := by decide +kernel
theorem dX4_firstWrongRow_10 : decode cX4_firstWrongRow 10 = .ok (.aload_n 0, 1) := by decide +kernel
theorem dX4_firstWrongRow_11 : decode cX4_firstWrongRow 11 = .ok (.iload_n 1, 1) := by decide +kernel
theorem dX4_firstWrongRow_12 : decode cX4_firstWrongRow 12 = .ok (.invokevirtual 75, 3) := by decide +kernel
theorem dX4_firstWrongRow_15 : decode cX4_firstWrongRow 15 = .ok (.ifCond .eq 5, 3) := by decide +kernel
theorem dX4_firstWrongRow_18 : decode cX4_firstWrongRow 18 = .ok (.iload_n 1, 1) := by decide +kernel
theorem dX4_firstWrongRow_19 : decode cX4_firstWrongRow 19 = .ok (.ireturn, 1) := by decide +kernel
theorem dX4_firstWrongRow_20 : decode cX4_firstWrongRow 20 = .ok (.iinc 1 1, 3) := by decide +kernel
theorem dX4_firstWrongRow_23 : decode cX4_firstWrongRow 23 = .ok (.goto (-21), 3) := by decide +kernel
theorem dX4_firstWrongRow_26 : decode cX4_firstWrongRow 26 = .ok (.iconst (-1), 1) := by decide +kernel
theorem dX4_firstWrongRow_27 : decode cX4_firstWrongRow 27 = .ok (.ireturn, 1) := by decide +kernel
set_option maxRecDepth 20000 in
theorem ggX4_wrongRows_X4_isWrong : GoodIn wsX4_wrongRows wsX4_isWrong := goodIn_r _ [5, 6, 7, 8, 9, 10, 11, 12, 13, 14, 15, 16, 17] (by decide +kernel) (by decide +kernel)
set_option maxRecDepth 20000 in
theorem gX4_wrongRows_X4_isWrong : GoodIn wsX4_wrongRows (wsV RX4 75 RX4 yX4_isWrong wsX4_isWrong) := goodIn_app (goodIn_of _ (by decide +kernel)) ggX4_wrongRows_X4_isWrong
theorem dX4_wrongRows_0 : decode cX4_wrongRows 0 = .ok (.iconst 0, 1) := by decide +kernel
theorem dX4_wrongRows_1 : decode cX4_wrongRows 1 = .ok (.istore_n 3, 1) := by decide +kernel
theorem dX4_wrongRows_2 : decode cX4_wrongRows 2 = .ok (.iload_n 1, 1) := by decide +kernel
theorem dX4_wrongRows_3 : decode cX4_wrongRows 3 = .ok (.istore 4, 2) := by decide +kernel
theorem dX4_wrongRows_5 : decode cX4_wrongRows 5 = .ok (.iload 4, 2) := by decide +kernel
theorem dX4_wrongRows_7 : decode cX4_wrongRows 7 = .ok (.iload_n 2, 1) := by decide +kernel
theorem dX4_wrongRows_8 : decode cX4_wrongRows 8 = .ok (.if_icmp .ge 26, 3) := by decide +kernel
theorem dX4_wrongRows_11 : decode cX4_wrongRows 11 = .ok (.iload_n 3, 1) := by decide +kernel
theorem dX4_wrongRows_12 : decode cX4_wrongRows 12 = .ok (.aload_n 0, 1) := by decide +kernel
theorem dX4_wrongRows_13 : decode cX4_wrongRows 13 = .ok (.iload 4, 2) := by decide +kernel
theorem dX4_wrongRows_15 : decode cX4_wrongRows 15 = .ok (.invokevirtual 75, 3) := by decide +kernel
theorem dX4_wrongRows_18 : decode cX4_wrongRows 18 = .ok (.ifCond .eq 7, 3) := by decide +kernel
theorem dX4_wrongRows_21 : decode cX4_wrongRows 21 = .ok (.iconst 1, 1) := by decide +kernel
theorem dX4_wrongRows_22 : decode cX4_wrongRows 22 = .ok (.goto 4, 3) := by decide +kernel
theorem dX4_wrongRows_25 : decode cX4_wrongRows 25 = .ok (.iconst 0, 1) := by decide +kernel
theorem dX4_wrongRows_26 : decode cX4_wrongRows 26 = .ok (.iadd, 1) := by decide +kernel
theorem dX4_wrongRows_27 : decode cX4_wrongRows 27 = .ok (.istore_n 3, 1) := by decide +kernel
theorem dX4_wrongRows_28 : decode cX4_wrongRows 28 = .ok (.iinc 4 1, 3) := by decide +kernel
theorem dX4_wrongRows_31 : decode cX4_wrongRows 31 = .ok (.goto (-26), 3) := by decide +kernel
theorem dX4_wrongRows_34 : decode cX4_wrongRows 34 = .ok (.iload_n 3, 1) := by decide +kernel
theorem dX4_wrongRows_35 : decode cX4_wrongRows 35 = .ok (.ireturn, 1) := by decide +kernel
theorem dX4_printedSum_0 : decode cX4_printedSum 0 = .ok (.lconst 0, 1) := by decide +kernel
theorem dX4_printedSum_1 : decode cX4_printedSum 1 = .ok (.lstore_n 3, 1) := by decide +kernel
theorem dX4_printedSum_2 : decode cX4_printedSum 2 = .ok (.iload_n 1, 1) := by decide +kernel
theorem dX4_printedSum_3 : decode cX4_printedSum 3 = .ok (.istore 5, 2) := by decide +kernel
theorem dX4_printedSum_5 : decode cX4_printedSum 5 = .ok (.iload 5, 2) := by decide +kernel
theorem dX4_printedSum_7 : decode cX4_printedSum 7 = .ok (.iload_n 2, 1) := by decide +kernel
theorem dX4_printedSum_8 : decode cX4_printedSum 8 = .ok (.if_icmp .ge 19, 3) := by decide +kernel
theorem dX4_printedSum_11 : decode cX4_printedSum 11 = .ok (.lload_n 3, 1) := by decide +kernel
theorem dX4_printedSum_12 : decode cX4_printedSum 12 = .ok (.aload_n 0, 1) := by decide +kernel
theorem dX4_printedSum_13 : decode cX4_printedSum 13 = .ok (.getfield 15, 3) := by decide +kernel
theorem dX4_printedSum_16 : decode cX4_printedSum 16 = .ok (.iload 5, 2) := by decide +kernel
theorem dX4_printedSum_18 : decode cX4_printedSum 18 = .ok (.laload, 1) := by decide +kernel
theorem dX4_printedSum_19 : decode cX4_printedSum 19 = .ok (.ladd, 1) := by decide +kernel
theorem dX4_printedSum_20 : decode cX4_printedSum 20 = .ok (.lstore_n 3, 1) := by decide +kernel
theorem dX4_printedSum_21 : decode cX4_printedSum 21 = .ok (.iinc 5 1, 3) := by decide +kernel
theorem dX4_printedSum_24 : decode cX4_printedSum 24 = .ok (.goto (-19), 3) := by decide +kernel
theorem dX4_printedSum_27 : decode cX4_printedSum 27 = .ok (.lload_n 3, 1) := by decide +kernel
theorem dX4_printedSum_28 : decode cX4_printedSum 28 = .ok (.lreturn, 1) := by decide +kernel
theorem dX4_rightSum_0 : decode cX4_rightSum 0 = .ok (.lconst 0, 1) := by decide +kernel
theorem dX4_rightSum_1 : decode cX4_rightSum 1 = .ok (.lstore_n 3, 1) := by decide +kernel
theorem dX4_rightSum_2 : decode cX4_rightSum 2 = .ok (.iload_n 1, 1) := by decide +kernel
theorem dX4_rightSum_3 : decode cX4_rightSum 3 = .ok (.istore 5, 2) := by decide +kernel
theorem dX4_rightSum_5 : decode cX4_rightSum 5 = .ok (.iload 5, 2) := by decide +kernel
theorem dX4_rightSum_7 : decode cX4_rightSum 7 = .ok (.iload_n 2, 1) := by decide +kernel
theorem dX4_rightSum_8 : decode cX4_rightSum 8 = .ok (.if_icmp .ge 19, 3) := by decide +kernel
theorem dX4_rightSum_11 : decode cX4_rightSum 11 = .ok (.lload_n 3, 1) := by decide +kernel
theorem dX4_rightSum_12 : decode cX4_rightSum 12 = .ok (.aload_n 0, 1) := by decide +kernel
theorem dX4_rightSum_13 : decode cX4_rightSum 13 = .ok (.getfield 19, 3) := by decide +kernel
theorem dX4_rightSum_16 : decode cX4_rightSum 16 = .ok (.iload 5, 2) := by decide +kernel
theorem dX4_rightSum_18 : decode cX4_rightSum 18 = .ok (.laload, 1) := by decide +kernel
theorem dX4_rightSum_19 : decode cX4_rightSum 19 = .ok (.ladd, 1) := by decide +kernel
theorem dX4_rightSum_20 : decode cX4_rightSum 20 = .ok (.lstore_n 3, 1) := by decide +kernel
theorem dX4_rightSum_21 : decode cX4_rightSum 21 = .ok (.iinc 5 1, 3) := by decide +kernel
theorem dX4_rightSum_24 : decode cX4_rightSum 24 = .ok (.goto (-19), 3) := by decide +kernel
theorem dX4_rightSum_27 : decode cX4_rightSum 27 = .ok (.lload_n 3, 1) := by decide +kernel
theorem dX4_rightSum_28 : decode cX4_rightSum 28 = .ok (.lreturn, 1) := by decide +kernel
set_option maxRecDepth 20000 in
theorem ggX4_isFoundWrong_X4_printedSum : GoodIn wsX4_isFoundWrong wsX4_printedSum := goodIn_r _ [5, 6, 12, 13, 14, 15, 16, 17, 18, 19, 20, 21] (by decide +kernel) (by decide +kernel)
set_option maxRecDepth 20000 in
theorem gX4_isFoundWrong_X4_printedSum : GoodIn wsX4_isFoundWrong (wsV RX4 79 RX4 yX4_printedSum wsX4_printedSum) := goodIn_app (goodIn_of _ (by decide +kernel)) ggX4_isFoundWrong_X4_printedSum
set_option maxRecDepth 20000 in
theorem ggX4_isFoundWrong_X4_rightSum : GoodIn wsX4_isFoundWrong wsX4_rightSum := goodIn_r _ [10, 11, 12, 13, 14, 15, 16, 17, 18, 19, 20, 21] (by decide +kernel) (by decide +kernel)
set_option maxRecDepth 20000 in
theorem gX4_isFoundWrong_X4_rightSum : GoodIn wsX4_isFoundWrong (wsV RX4 83 RX4 yX4_rightSum wsX4_rightSum) := goodIn_app (goodIn_of _ (by decide +kernel)) ggX4_isFoundWrong_X4_rightSum
theorem dX4_isFoundWrong_0 : decode cX4_isFoundWrong 0 = .ok (.aload_n 0, 1) := by decide +kernel
theorem dX4_isFoundWrong_1 : decode cX4_isFoundWrong 1 = .ok (.iload_n 1, 1) := by decide +kernel
theorem dX4_isFoundWrong_2 : decode cX4_isFoundWrong 2 = .ok (.iload_n 2, 1) := by decide +kernel
theorem dX4_isFoundWrong_3 : decode cX4_isFoundWrong 3 = .ok (.invokevirtual 79, 3) := by decide +kernel
theorem dX4_isFoundWrong_6 : decode cX4_isFoundWrong 6 = .ok (.aload_n 0, 1) := by decide +kernel
theorem dX4_isFoundWrong_7 : decode cX4_isFoundWrong 7 = .ok (.iload_n 1, 1) := by decide +kernel
theorem dX4_isFoundWrong_8 : decode cX4_isFoundWrong 8 = .ok (.iload_n 2, 1) := by decide +kernel
theorem dX4_isFoundWrong_9 : decode cX4_isFoundWrong 9 = .ok (.invokevirtual 83, 3) := by decide +kernel
theorem dX4_isFoundWrong_12 : decode cX4_isFoundWrong 12 = .ok (.lcmp, 1) := by decide +kernel
theorem dX4_isFoundWrong_13 : decode cX4_isFoundWrong 13 = .ok (.ifCond .eq 7, 3) := by decide +kernel
theorem dX4_isFoundWrong_16 : decode cX4_isFoundWrong 16 = .ok (.iconst 1, 1) := by decide +kernel
theorem dX4_isFoundWrong_17 : decode cX4_isFoundWrong 17 = .ok (.goto 4, 3) := by decide +kernel
theorem dX4_isFoundWrong_20 : decode cX4_isFoundWrong 20 = .ok (.iconst 0, 1) := by decide +kernel
theorem dX4_isFoundWrong_21 : decode cX4_isFoundWrong 21 = .ok (.ireturn, 1) := by decide +kernel
theorem dX4_blurredDigits_0 : decode cX4_blurredDigits 0 = .ok (.iconst 0, 1) := by decide +kernel
theorem dX4_blurredDigits_1 : decode cX4_blurredDigits 1 = .ok (.istore_n 1, 1) := by decide +kernel
theorem dX4_blurredDigits_2 : decode cX4_blurredDigits 2 = .ok (.iconst 0, 1) := by decide +kernel
theorem dX4_blurredDigits_3 : decode cX4_blurredDigits 3 = .ok (.istore_n 2, 1) := by decide +kernel
theorem dX4_blurredDigits_4 : decode cX4_blurredDigits 4 = .ok (.iload_n 2, 1) := by decide +kernel
theorem dX4_blurredDigits_5 : decode cX4_blurredDigits 5 = .ok (.aload_n 0, 1) := by decide +kernel
theorem dX4_blurredDigits_6 : decode cX4_blurredDigits 6 = .ok (.getfield 46, 3) := by decide +kernel
theorem dX4_blurredDigits_9 : decode cX4_blurredDigits 9 = .ok (.if_icmp .ge 18, 3) := by decide +kernel
theorem dX4_blurredDigits_12 : decode cX4_blurredDigits 12 = .ok (.iload_n 1, 1) := by decide +kernel
theorem dX4_blurredDigits_13 : decode cX4_blurredDigits 13 = .ok (.aload_n 0, 1) := by decide +kernel
theorem dX4_blurredDigits_14 : decode cX4_blurredDigits 14 = .ok (.getfield 22, 3) := by decide +kernel
theorem dX4_blurredDigits_17 : decode cX4_blurredDigits 17 = .ok (.iload_n 2, 1) := by decide +kernel
theorem dX4_blurredDigits_18 : decode cX4_blurredDigits 18 = .ok (.iaload, 1) := by decide +kernel
theorem dX4_blurredDigits_19 : decode cX4_blurredDigits 19 = .ok (.iadd, 1) := by decide +kernel
theorem dX4_blurredDigits_20 : decode cX4_blurredDigits 20 = .ok (.istore_n 1, 1) := by decide +kernel
theorem dX4_blurredDigits_21 : decode cX4_blurredDigits 21 = .ok (.iinc 2 1, 3) := by decide +kernel
theorem dX4_blurredDigits_24 : decode cX4_blurredDigits 24 = .ok (.goto (-20), 3) := by decide +kernel
theorem dX4_blurredDigits_27 : decode cX4_blurredDigits 27 = .ok (.iload_n 1, 1) := by decide +kernel
theorem dX4_blurredDigits_28 : decode cX4_blurredDigits 28 = .ok (.ireturn, 1) := by decide +kernel
set_option maxRecDepth 20000 in
theorem ggX4_faultlessRows_X4_isWrong : GoodIn wsX4_faultlessRows wsX4_isWrong := goodIn_r _ [7, 8, 9, 10, 11, 12, 13, 14, 15, 16, 17, 18, 19] (by decide +kernel) (by decide +kernel)
set_option maxRecDepth 20000 in
theorem gX4_faultlessRows_X4_isWrong : GoodIn wsX4_faultlessRows (wsV RX4 75 RX4 yX4_isWrong wsX4_isWrong) := goodIn_app (goodIn_of _ (by decide +kernel)) ggX4_faultlessRows_X4_isWrong
theorem dX4_faultlessRows_0 : decode cX4_faultlessRows 0 = .ok (.iconst 0, 1) := by decide +kernel
theorem dX4_faultlessRows_1 : decode cX4_faultlessRows 1 = .ok (.istore_n 1, 1) := by decide +kernel
theorem dX4_faultlessRows_2 : decode cX4_faultlessRows 2 = .ok (.iconst 0, 1) := by decide +kernel
theorem dX4_faultlessRows_3 : decode cX4_faultlessRows 3 = .ok (.istore_n 2, 1) := by decide +kernel
theorem dX4_faultlessRows_4 : decode cX4_faultlessRows 4 = .ok (.iload_n 2, 1) := by decide +kernel
theorem dX4_faultlessRows_5 : decode cX4_faultlessRows 5 = .ok (.aload_n 0, 1) := by decide +kernel
theorem dX4_faultlessRows_6 : decode cX4_faultlessRows 6 = .ok (.getfield 46, 3) := by decide +kernel
theorem dX4_faultlessRows_9 : decode cX4_faultlessRows 9 = .ok (.if_icmp .ge 34, 3) := by decide +kernel
theorem dX4_faultlessRows_12 : decode cX4_faultlessRows 12 = .ok (.iload_n 1, 1) := by decide +kernel
theorem dX4_faultlessRows_13 : decode cX4_faultlessRows 13 = .ok (.aload_n 0, 1) := by decide +kernel
theorem dX4_faultlessRows_14 : decode cX4_faultlessRows 14 = .ok (.iload_n 2, 1) := by decide +kernel
theorem dX4_faultlessRows_15 : decode cX4_faultlessRows 15 = .ok (.invokevirtual 75, 3) := by decide +kernel
theorem dX4_faultlessRows_18 : decode cX4_faultlessRows 18 = .ok (.ifCond .ne 16, 3) := by decide +kernel
theorem dX4_faultlessRows_21 : decode cX4_faultlessRows 21 = .ok (.aload_n 0, 1) := by decide +kernel
theorem dX4_faultlessRows_22 : decode cX4_faultlessRows 22 = .ok (.getfield 22, 3) := by decide +kernel
theorem dX4_faultlessRows_25 : decode cX4_faultlessRows 25 = .ok (.iload_n 2, 1) := by decide +kernel
theorem dX4_faultlessRows_26 : decode cX4_faultlessRows 26 = .ok (.iaload, 1) := by decide +kernel
theorem dX4_faultlessRows_27 : decode cX4_faultlessRows 27 = .ok (.ifCond .ne 7, 3) := by decide +kernel
theorem dX4_faultlessRows_30 : decode cX4_faultlessRows 30 = .ok (.iconst 1, 1) := by decide +kernel
theorem dX4_faultlessRows_31 : decode cX4_faultlessRows 31 = .ok (.goto 4, 3) := by decide +kernel
theorem dX4_faultlessRows_34 : decode cX4_faultlessRows 34 = .ok (.iconst 0, 1) := by decide +kernel
theorem dX4_faultlessRows_35 : decode cX4_faultlessRows 35 = .ok (.iadd, 1) := by decide +kernel
theorem dX4_faultlessRows_36 : decode cX4_faultlessRows 36 = .ok (.istore_n 1, 1) := by decide +kernel
theorem dX4_faultlessRows_37 : decode cX4_faultlessRows 37 = .ok (.iinc 2 1, 3) := by decide +kernel
theorem dX4_faultlessRows_40 : decode cX4_faultlessRows 40 = .ok (.goto (-36), 3) := by decide +kernel
theorem dX4_faultlessRows_43 : decode cX4_faultlessRows 43 = .ok (.iload_n 1, 1) := by decide +kernel
theorem dX4_faultlessRows_44 : decode cX4_faultlessRows 44 = .ok (.ireturn, 1) := by decide +kernel
theorem dX4_wholeGroups_0 : decode cX4_wholeGroups 0 = .ok (.iload_n 1, 1) := by decide +kernel
theorem dX4_wholeGroups_1 : decode cX4_wholeGroups 1 = .ok (.iconst 1, 1) := by decide +kernel
theorem dX4_wholeGroups_2 : decode cX4_wholeGroups 2 = .ok (.if_icmp .ge 7, 3) := by decide +kernel
theorem dX4_wholeGroups_5 : decode cX4_wholeGroups 5 = .ok (.iconst 0, 1) := by decide +kernel
theorem dX4_wholeGroups_6 : decode cX4_wholeGroups 6 = .ok (.goto 9, 3) := by decide +kernel
theorem dX4_wholeGroups_9 : decode cX4_wholeGroups 9 = .ok (.aload_n 0, 1) := by decide +kernel
theorem dX4_wholeGroups_10 : decode cX4_wholeGroups 10 = .ok (.getfield 46, 3) := by decide +kernel
theorem dX4_wholeGroups_13 : decode cX4_wholeGroups 13 = .ok (.iload_n 1, 1) := by decide +kernel
theorem dX4_wholeGroups_14 : decode cX4_wholeGroups 14 = .ok (.idiv, 1) := by decide +kernel
theorem dX4_wholeGroups_15 : decode cX4_wholeGroups 15 = .ok (.ireturn, 1) := by decide +kernel
set_option maxRecDepth 20000 in
theorem ggX4_groupsFoundWrong_X4_wholeGroups : GoodIn wsX4_groupsFoundWrong wsX4_wholeGroups := goodIn_r _ [6, 7, 22, 23, 24, 25, 26, 27, 28, 29, 30, 31] (by decide +kernel) (by decide +kernel)
set_option maxRecDepth 20000 in
theorem gX4_groupsFoundWrong_X4_wholeGroups : GoodIn wsX4_groupsFoundWrong (wsV RX4 86 RX4 yX4_wholeGroups wsX4_wholeGroups) := goodIn_app (goodIn_of _ (by decide +kernel)) ggX4_groupsFoundWrong_X4_wholeGroups
set_option maxRecDepth 20000 in
theorem ggX4_groupsFoundWrong_X4_isFoundWrong : GoodIn wsX4_groupsFoundWrong wsX4_isFoundWrong := goodIn_r _ [11, 12, 13, 14, 5, 15, 16, 17, 18, 19, 20, 21, 22, 23, 24, 25, 26, 27, 28, 29, 30, 31] (by decide +kernel) (by decide +kernel)
set_option maxRecDepth 20000 in
theorem gX4_groupsFoundWrong_X4_isFoundWrong : GoodIn wsX4_groupsFoundWrong (wsV RX4 90 RX4 yX4_isFoundWrong wsX4_isFoundWrong) := goodIn_app (goodIn_of _ (by decide +kernel)) ggX4_groupsFoundWrong_X4_isFoundWrong
theorem dX4_groupsFoundWrong_0 : decode cX4_groupsFoundWrong 0 = .ok (.iconst 0, 1) := by decide +kernel
theorem dX4_groupsFoundWrong_1 : decode cX4_groupsFoundWrong 1 = .ok (.istore_n 1, 1) := by decide +kernel
theorem dX4_groupsFoundWrong_2 : decode cX4_groupsFoundWrong 2 = .ok (.aload_n 0, 1) := by decide +kernel
theorem dX4_groupsFoundWrong_3 : decode cX4_groupsFoundWrong 3 = .ok (.aload_n 0, 1) := by decide +kernel
theorem dX4_groupsFoundWrong_4 : decode cX4_groupsFoundWrong 4 = .ok (.getfield 9, 3) := by decide +kernel
theorem dX4_groupsFoundWrong_7 : decode cX4_groupsFoundWrong 7 = .ok (.invokevirtual 86, 3) := by decide +kernel
theorem dX4_groupsFoundWrong_10 : decode cX4_groupsFoundWrong 10 = .ok (.istore_n 2, 1) := by decide +kernel
theorem dX4_groupsFoundWrong_11 : decode cX4_groupsFoundWrong 11 = .ok (.iconst 0, 1) := by decide +kernel
theorem dX4_groupsFoundWrong_12 : decode cX4_groupsFoundWrong 12 = .ok (.istore_n 3, 1) := by decide +kernel
theorem dX4_groupsFoundWrong_13 : decode cX4_groupsFoundWrong 13 = .ok (.iload_n 3, 1) := by decide +kernel
theorem dX4_groupsFoundWrong_14 : decode cX4_groupsFoundWrong 14 = .ok (.iload_n 2, 1) := by decide +kernel
theorem dX4_groupsFoundWrong_15 : decode cX4_groupsFoundWrong 15 = .ok (.if_icmp .ge 38, 3) := by decide +kernel
theorem dX4_groupsFoundWrong_18 : decode cX4_groupsFoundWrong 18 = .ok (.iload_n 1, 1) := by decide +kernel
theorem dX4_groupsFoundWrong_19 : decode cX4_groupsFoundWrong 19 = .ok (.aload_n 0, 1) := by decide +kernel
theorem dX4_groupsFoundWrong_20 : decode cX4_groupsFoundWrong 20 = .ok (.iload_n 3, 1) := by decide +kernel
theorem dX4_groupsFoundWrong_21 : decode cX4_groupsFoundWrong 21 = .ok (.aload_n 0, 1) := by decide +kernel
theorem dX4_groupsFoundWrong_22 : decode cX4_groupsFoundWrong 22 = .ok (.getfield 9, 3) := by decide +kernel
theorem dX4_groupsFoundWrong_25 : decode cX4_groupsFoundWrong 25 = .ok (.imul, 1) := by decide +kernel
theorem dX4_groupsFoundWrong_26 : decode cX4_groupsFoundWrong 26 = .ok (.iload_n 3, 1) := by decide +kernel
theorem dX4_groupsFoundWrong_27 : decode cX4_groupsFoundWrong 27 = .ok (.iconst 1, 1) := by decide +kernel
theorem dX4_groupsFoundWrong_28 : decode cX4_groupsFoundWrong 28 = .ok (.iadd, 1) := by decide +kernel
theorem dX4_groupsFoundWrong_29 : decode cX4_groupsFoundWrong 29 = .ok (.aload_n 0, 1) := by decide +kernel
theorem dX4_groupsFoundWrong_30 : decode cX4_groupsFoundWrong 30 = .ok (.getfield 9, 3) := by decide +kernel
theorem dX4_groupsFoundWrong_33 : decode cX4_groupsFoundWrong 33 = .ok (.imul, 1) := by decide +kernel
theorem dX4_groupsFoundWrong_34 : decode cX4_groupsFoundWrong 34 = .ok (.invokevirtual 90, 3) := by decide +kernel
theorem dX4_groupsFoundWrong_37 : decode cX4_groupsFoundWrong 37 = .ok (.ifCond .eq 7, 3) := by decide +kernel
theorem dX4_groupsFoundWrong_40 : decode cX4_groupsFoundWrong 40 = .ok (.iconst 1, 1) := by decide +kernel
theorem dX4_groupsFoundWrong_41 : decode cX4_groupsFoundWrong 41 = .ok (.goto 4, 3) := by decide +kernel
theorem dX4_groupsFoundWrong_44 : decode cX4_groupsFoundWrong 44 = .ok (.iconst 0, 1) := by decide +kernel
theorem dX4_groupsFoundWrong_45 : decode cX4_groupsFoundWrong 45 = .ok (.iadd, 1) := by decide +kernel
theorem dX4_groupsFoundWrong_46 : decode cX4_groupsFoundWrong 46 = .ok (.istore_n 1, 1) := by decide +kernel
theorem dX4_groupsFoundWrong_47 : decode cX4_groupsFoundWrong 47 = .ok (.iinc 3 1, 3) := by decide +kernel
theorem dX4_groupsFoundWrong_50 : decode cX4_groupsFoundWrong 50 = .ok (.goto (-37), 3) := by decide +kernel
theorem dX4_groupsFoundWrong_53 : decode cX4_groupsFoundWrong 53 = .ok (.iload_n 1, 1) := by decide +kernel
theorem dX4_groupsFoundWrong_54 : decode cX4_groupsFoundWrong 54 = .ok (.ireturn, 1) := by decide +kernel
set_option maxRecDepth 20000 in
theorem ggX4_findsAllWith_X4_wholeGroups : GoodIn wsX4_findsAllWith wsX4_wholeGroups := goodIn_r _ [6, 1, 29, 30, 31, 32, 33, 34, 35, 36, 37, 38] (by decide +kernel) (by decide +kernel)
set_option maxRecDepth 20000 in
theorem gX4_findsAllWith_X4_wholeGroups : GoodIn wsX4_findsAllWith (wsV RX4 86 RX4 yX4_wholeGroups wsX4_wholeGroups) := goodIn_app (goodIn_of _ (by decide +kernel)) ggX4_findsAllWith_X4_wholeGroups
set_option maxRecDepth 20000 in
theorem ggX4_findsAllWith_X4_wrongRows : GoodIn wsX4_findsAllWith wsX4_wrongRows := goodIn_r _ [10, 11, 12, 13, 5, 14, 15, 16, 29, 30, 31, 32, 33, 34, 35, 36, 37, 38] (by decide +kernel) (by decide +kernel)
set_option maxRecDepth 20000 in
theorem gX4_findsAllWith_X4_wrongRows : GoodIn wsX4_findsAllWith (wsV RX4 94 RX4 yX4_wrongRows wsX4_wrongRows) := goodIn_app (goodIn_of _ (by decide +kernel)) ggX4_findsAllWith_X4_wrongRows
set_option maxRecDepth 20000 in
theorem ggX4_findsAllWith_X4_isFoundWrong : GoodIn wsX4_findsAllWith wsX4_isFoundWrong := goodIn_r _ [20, 21, 22, 23, 5, 24, 15, 25, 26, 27, 28, 16, 29, 30, 31, 32, 33, 34, 35, 36, 37, 38] (by decide +kernel) (by decide +kernel)
set_option maxRecDepth 20000 in
theorem gX4_findsAllWith_X4_isFoundWrong : GoodIn wsX4_findsAllWith (wsV RX4 90 RX4 yX4_isFoundWrong wsX4_isFoundWrong) := goodIn_app (goodIn_of _ (by decide +kernel)) ggX4_findsAllWith_X4_isFoundWrong
theorem dX4_findsAllWith_0 : decode cX4_findsAllWith 0 = .ok (.aload_n 0, 1) := by decide +kernel
theorem dX4_findsAllWith_1 : decode cX4_findsAllWith 1 = .ok (.iload_n 1, 1) := by decide +kernel
theorem dX4_findsAllWith_2 : decode cX4_findsAllWith 2 = .ok (.invokevirtual 86, 3) := by decide +kernel
theorem dX4_findsAllWith_5 : decode cX4_findsAllWith 5 = .ok (.istore_n 2, 1) := by decide +kernel
theorem dX4_findsAllWith_6 : decode cX4_findsAllWith 6 = .ok (.iconst 0, 1) := by decide +kernel
theorem dX4_findsAllWith_7 : decode cX4_findsAllWith 7 = .ok (.istore_n 3, 1) := by decide +kernel
theorem dX4_findsAllWith_8 : decode cX4_findsAllWith 8 = .ok (.iload_n 3, 1) := by decide +kernel
theorem dX4_findsAllWith_9 : decode cX4_findsAllWith 9 = .ok (.iload_n 2, 1) := by decide +kernel
theorem dX4_findsAllWith_10 : decode cX4_findsAllWith 10 = .ok (.if_icmp .ge 44, 3) := by decide +kernel
theorem dX4_findsAllWith_13 : decode cX4_findsAllWith 13 = .ok (.iload_n 3, 1) := by decide +kernel
theorem dX4_findsAllWith_14 : decode cX4_findsAllWith 14 = .ok (.iload_n 1, 1) := by decide +kernel
theorem dX4_findsAllWith_15 : decode cX4_findsAllWith 15 = .ok (.imul, 1) := by decide +kernel
theorem dX4_findsAllWith_16 : decode cX4_findsAllWith 16 = .ok (.istore 4, 2) := by decide +kernel
theorem dX4_findsAllWith_18 : decode cX4_findsAllWith 18 = .ok (.iload 4, 2) := by decide +kernel
theorem dX4_findsAllWith_20 : decode cX4_findsAllWith 20 = .ok (.iload_n 1, 1) := by decide +kernel
theorem dX4_findsAllWith_21 : decode cX4_findsAllWith 21 = .ok (.iadd, 1) := by decide +kernel
theorem dX4_findsAllWith_22 : decode cX4_findsAllWith 22 = .ok (.istore 5, 2) := by decide +kernel
theorem dX4_findsAllWith_24 : decode cX4_findsAllWith 24 = .ok (.aload_n 0, 1) := by decide +kernel
theorem dX4_findsAllWith_25 : decode cX4_findsAllWith 25 = .ok (.iload 4, 2) := by decide +kernel
theorem dX4_findsAllWith_27 : decode cX4_findsAllWith 27 = .ok (.iload 5, 2) := by decide +kernel
theorem dX4_findsAllWith_29 : decode cX4_findsAllWith 29 = .ok (.invokevirtual 94, 3) := by decide +kernel
theorem dX4_findsAllWith_32 : decode cX4_findsAllWith 32 = .ok (.ifCond .le 16, 3) := by decide +kernel
theorem dX4_findsAllWith_35 : decode cX4_findsAllWith 35 = .ok (.aload_n 0, 1) := by decide +kernel
theorem dX4_findsAllWith_36 : decode cX4_findsAllWith 36 = .ok (.iload 4, 2) := by decide +kernel
theorem dX4_findsAllWith_38 : decode cX4_findsAllWith 38 = .ok (.iload 5, 2) := by decide +kernel
theorem dX4_findsAllWith_40 : decode cX4_findsAllWith 40 = .ok (.invokevirtual 90, 3) := by decide +kernel
theorem dX4_findsAllWith_43 : decode cX4_findsAllWith 43 = .ok (.ifCond .ne 5, 3) := by decide +kernel
theorem dX4_findsAllWith_46 : decode cX4_findsAllWith 46 = .ok (.iconst 0, 1) := by decide +kernel
theorem dX4_findsAllWith_47 : decode cX4_findsAllWith 47 = .ok (.ireturn, 1) := by decide +kernel
theorem dX4_findsAllWith_48 : decode cX4_findsAllWith 48 = .ok (.iinc 3 1, 3) := by decide +kernel
theorem dX4_findsAllWith_51 : decode cX4_findsAllWith 51 = .ok (.goto (-43), 3) := by decide +kernel
theorem dX4_findsAllWith_54 : decode cX4_findsAllWith 54 = .ok (.aload_n 0, 1) := by decide +kernel
theorem dX4_findsAllWith_55 : decode cX4_findsAllWith 55 = .ok (.iload_n 2, 1) := by decide +kernel
theorem dX4_findsAllWith_56 : decode cX4_findsAllWith 56 = .ok (.iload_n 1, 1) := by decide +kernel
theorem dX4_findsAllWith_57 : decode cX4_findsAllWith 57 = .ok (.imul, 1) := by decide +kernel
theorem dX4_findsAllWith_58 : decode cX4_findsAllWith 58 = .ok (.aload_n 0, 1) := by decide +kernel
theorem dX4_findsAllWith_59 : decode cX4_findsAllWith 59 = .ok (.getfield 46, 3) := by decide +kernel
theorem dX4_findsAllWith_62 : decode cX4_findsAllWith 62 = .ok (.invokevirtual 94, 3) := by decide +kernel
theorem dX4_findsAllWith_65 : decode cX4_findsAllWith 65 = .ok (.ifCond .ne 7, 3) := by decide +kernel
theorem dX4_findsAllWith_68 : decode cX4_findsAllWith 68 = .ok (.iconst 1, 1) := by decide +kernel
theorem dX4_findsAllWith_69 : decode cX4_findsAllWith 69 = .ok (.goto 4, 3) := by decide +kernel
theorem dX4_findsAllWith_72 : decode cX4_findsAllWith 72 = .ok (.iconst 0, 1) := by decide +kernel
theorem dX4_findsAllWith_73 : decode cX4_findsAllWith 73 = .ok (.ireturn, 1) := by decide +kernel
theorem dX4_raise_0 : decode cX4_raise 0 = .ok (.lconst 1, 1) := by decide +kernel
theorem dX4_raise_1 : decode cX4_raise 1 = .ok (.lstore_n 3, 1) := by decide +kernel
theorem dX4_raise_2 : decode cX4_raise 2 = .ok (.iconst 0, 1) := by decide +kernel
theorem dX4_raise_3 : decode cX4_raise 3 = .ok (.istore 5, 2) := by decide +kernel
theorem dX4_raise_5 : decode cX4_raise 5 = .ok (.iload 5, 2) := by decide +kernel
theorem dX4_raise_7 : decode cX4_raise 7 = .ok (.iload_n 2, 1) := by decide +kernel
theorem dX4_raise_8 : decode cX4_raise 8 = .ok (.if_icmp .ge 13, 3) := by decide +kernel
theorem dX4_raise_11 : decode cX4_raise 11 = .ok (.lload_n 3, 1) := by decide +kernel
theorem dX4_raise_12 : decode cX4_raise 12 = .ok (.lload_n 0, 1) := by decide +kernel
theorem dX4_raise_13 : decode cX4_raise 13 = .ok (.lmul, 1) := by decide +kernel
theorem dX4_raise_14 : decode cX4_raise 14 = .ok (.lstore_n 3, 1) := by decide +kernel
theorem dX4_raise_15 : decode cX4_raise 15 = .ok (.iinc 5 1, 3) := by decide +kernel
theorem dX4_raise_18 : decode cX4_raise 18 = .ok (.goto (-13), 3) := by decide +kernel
theorem dX4_raise_21 : decode cX4_raise 21 = .ok (.lload_n 3, 1) := by decide +kernel
theorem dX4_raise_22 : decode cX4_raise 22 = .ok (.lreturn, 1) := by decide +kernel
theorem dX5_init_0 : decode cX5_init 0 = .ok (.aload_n 0, 1) := by decide +kernel
theorem dX5_init_1 : decode cX5_init 1 = .ok (.invokespecial 3, 3) := by decide +kernel
theorem dX5_init_4 : decode cX5_init 4 = .ok (.aload_n 0, 1) := by decide +kernel
theorem dX5_init_5 : decode cX5_init 5 = .ok (.bipush 10, 2) := by decide +kernel
theorem dX5_init_7 : decode cX5_init 7 = .ok (.newarray .int, 2) := by decide +kernel
theorem dX5_init_9 : decode cX5_init 9 = .ok (.putfield 9, 3) := by decide +kernel
theorem dX5_init_12 : decode cX5_init 12 = .ok (.aload_n 0, 1) := by decide +kernel
theorem dX5_init_13 : decode cX5_init 13 = .ok (.bipush 50, 2) := by decide +kernel
theorem dX5_init_15 : decode cX5_init 15 = .ok (.putfield 15, 3) := by decide +kernel
theorem dX5_init_18 : decode cX5_init 18 = .ok (.return_, 1) := by decide +kernel
theorem dX5_copyFrom_0 : decode cX5_copyFrom 0 = .ok (.iconst 0, 1) := by decide +kernel
theorem dX5_copyFrom_1 : decode cX5_copyFrom 1 = .ok (.istore_n 2, 1) := by decide +kernel
theorem dX5_copyFrom_2 : decode cX5_copyFrom 2 = .ok (.iload_n 2, 1) := by decide +kernel
theorem dX5_copyFrom_3 : decode cX5_copyFrom 3 = .ok (.bipush 10, 2) := by decide +kernel
theorem dX5_copyFrom_5 : decode cX5_copyFrom 5 = .ok (.if_icmp .ge 21, 3) := by decide +kernel
theorem dX5_copyFrom_8 : decode cX5_copyFrom 8 = .ok (.aload_n 0, 1) := by decide +kernel
theorem dX5_copyFrom_9 : decode cX5_copyFrom 9 = .ok (.getfield 9, 3) := by decide +kernel
theorem dX5_copyFrom_12 : decode cX5_copyFrom 12 = .ok (.iload_n 2, 1) := by decide +kernel
theorem dX5_copyFrom_13 : decode cX5_copyFrom 13 = .ok (.aload_n 1, 1) := by decide +kernel
theorem dX5_copyFrom_14 : decode cX5_copyFrom 14 = .ok (.getfield 9, 3) := by decide +kernel
theorem dX5_copyFrom_17 : decode cX5_copyFrom 17 = .ok (.iload_n 2, 1) := by decide +kernel
theorem dX5_copyFrom_18 : decode cX5_copyFrom 18 = .ok (.iaload, 1) := by decide +kernel
theorem dX5_copyFrom_19 : decode cX5_copyFrom 19 = .ok (.iastore, 1) := by decide +kernel
theorem dX5_copyFrom_20 : decode cX5_copyFrom 20 = .ok (.iinc 2 1, 3) := by decide +kernel
theorem dX5_copyFrom_23 : decode cX5_copyFrom 23 = .ok (.goto (-21), 3) := by decide +kernel
theorem dX5_copyFrom_26 : decode cX5_copyFrom 26 = .ok (.aload_n 0, 1) := by decide +kernel
theorem dX5_copyFrom_27 : decode cX5_copyFrom 27 = .ok (.aload_n 1, 1) := by decide +kernel
theorem dX5_copyFrom_28 : decode cX5_copyFrom 28 = .ok (.getfield 15, 3) := by decide +kernel
theorem dX5_copyFrom_31 : decode cX5_copyFrom 31 = .ok (.putfield 15, 3) := by decide +kernel
theorem dX5_copyFrom_34 : decode cX5_copyFrom 34 = .ok (.aload_n 0, 1) := by decide +kernel
theorem dX5_copyFrom_35 : decode cX5_copyFrom 35 = .ok (.aload_n 1, 1) := by decide +kernel
theorem dX5_copyFrom_36 : decode cX5_copyFrom 36 = .ok (.getfield 19, 3) := by decide +kernel
theorem dX5_copyFrom_39 : decode cX5_copyFrom 39 = .ok (.putfield 19, 3) := by decide +kernel
theorem dX5_copyFrom_42 : decode cX5_copyFrom 42 = .ok (.return_, 1) := by decide +kernel
theorem dX5_makeNew_0 : decode cX5_makeNew 0 = .ok (.aload_n 0, 1) := by decide +kernel
theorem dX5_makeNew_1 : decode cX5_makeNew 1 = .ok (.getfield 9, 3) := by decide +kernel
theorem dX5_makeNew_4 : decode cX5_makeNew 4 = .ok (.iload_n 1, 1) := by decide +kernel
theorem dX5_makeNew_5 : decode cX5_makeNew 5 = .ok (.iaload, 1) := by decide +kernel
theorem dX5_makeNew_6 : decode cX5_makeNew 6 = .ok (.istore_n 2, 1) := by decide +kernel
theorem dX5_makeNew_7 : decode cX5_makeNew 7 = .ok (.aload_n 0, 1) := by decide +kernel
theorem dX5_makeNew_8 : decode cX5_makeNew 8 = .ok (.getfield 9, 3) := by decide +kernel
theorem dX5_makeNew_11 : decode cX5_makeNew 11 = .ok (.iload_n 1, 1) := by decide +kernel
theorem dX5_makeNew_12 : decode cX5_makeNew 12 = .ok (.iconst 0, 1) := by decide +kernel
theorem dX5_makeNew_13 : decode cX5_makeNew 13 = .ok (.iastore, 1) := by decide +kernel
theorem dX5_makeNew_14 : decode cX5_makeNew 14 = .ok (.iload_n 2, 1) := by decide +kernel
theorem dX5_makeNew_15 : decode cX5_makeNew 15 = .ok (.ireturn, 1) := by decide +kernel
theorem dX5_printDigits_0 : decode cX5_printDigits 0 = .ok (.iconst 0, 1) := by decide +kernel
theorem dX5_printDigits_1 : decode cX5_printDigits 1 = .ok (.istore_n 3, 1) := by decide +kernel
theorem dX5_printDigits_2 : decode cX5_printDigits 2 = .ok (.lload_n 1, 1) := by decide +kernel
theorem dX5_printDigits_3 : decode cX5_printDigits 3 = .ok (.lconst 0, 1) := by decide +kernel
theorem dX5_printDigits_4 : decode cX5_printDigits 4 = .ok (.lcmp, 1) := by decide +kernel
theorem dX5_printDigits_5 : decode cX5_printDigits 5 = .ok (.ifCond .le 8, 3) := by decide +kernel
theorem dX5_printDigits_8 : decode cX5_printDigits 8 = .ok (.lload_n 1, 1) := by decide +kernel
theorem dX5_printDigits_9 : decode cX5_printDigits 9 = .ok (.lneg, 1) := by decide +kernel
theorem dX5_printDigits_10 : decode cX5_printDigits 10 = .ok (.goto 4, 3) := by decide +kernel
theorem dX5_printDigits_13 : decode cX5_printDigits 13 = .ok (.lload_n 1, 1) := by decide +kernel
theorem dX5_printDigits_14 : decode cX5_printDigits 14 = .ok (.lstore 4, 2) := by decide +kernel
theorem dX5_printDigits_16 : decode cX5_printDigits 16 = .ok (.iconst 0, 1) := by decide +kernel
theorem dX5_printDigits_17 : decode cX5_printDigits 17 = .ok (.istore 6, 2) := by decide +kernel
theorem dX5_printDigits_19 : decode cX5_printDigits 19 = .ok (.iload 6, 2) := by decide +kernel
theorem dX5_printDigits_21 : decode cX5_printDigits 21 = .ok (.bipush 19, 2) := by decide +kernel
theorem dX5_printDigits_23 : decode cX5_printDigits 23 = .ok (.if_icmp .ge 82, 3) := by decide +kernel
theorem dX5_printDigits_26 : decode cX5_printDigits 26 = .ok (.iload 6, 2) := by decide +kernel
theorem dX5_printDigits_28 : decode cX5_printDigits 28 = .ok (.ifCond .eq 10, 3) := by decide +kernel
theorem dX5_printDigits_31 : decode cX5_printDigits 31 = .ok (.lload 4, 2) := by decide +kernel
theorem dX5_printDigits_33 : decode cX5_printDigits 33 = .ok (.lconst 0, 1) := by decide +kernel
theorem dX5_printDigits_34 : decode cX5_printDigits 34 = .ok (.lcmp, 1) := by decide +kernel
theorem dX5_printDigits_35 : decode cX5_printDigits 35 = .ok (.ifCond .eq 70, 3) := by decide +kernel
theorem dX5_printDigits_38 : decode cX5_printDigits 38 = .ok (.lload 4, 2) := by decide +kernel
theorem dX5_printDigits_40 : decode cX5_printDigits 40 = .ok (.ldc2_w 22, 3) := by decide +kernel
theorem dX5_printDigits_43 : decode cX5_printDigits 43 = .ok (.lrem, 1) := by decide +kernel
theorem dX5_printDigits_44 : decode cX5_printDigits 44 = .ok (.lneg, 1) := by decide +kernel
theorem dX5_printDigits_45 : decode cX5_printDigits 45 = .ok (.l2i, 1) := by decide +kernel
theorem dX5_printDigits_46 : decode cX5_printDigits 46 = .ok (.istore 7, 2) := by decide +kernel
theorem dX5_printDigits_48 : decode cX5_printDigits 48 = .ok (.aload_n 0, 1) := by decide +kernel
theorem dX5_printDigits_49 : decode cX5_printDigits 49 = .ok (.getfield 9, 3) := by decide +kernel
theorem dX5_printDigits_52 : decode cX5_printDigits 52 = .ok (.iload 7, 2) := by decide +kernel
theorem dX5_printDigits_54 : decode cX5_printDigits 54 = .ok (.dup2, 1) := by decide +kernel
theorem dX5_printDigits_55 : decode cX5_printDigits 55 = .ok (.iaload, 1) := by decide +kernel
theorem dX5_printDigits_56 : decode cX5_printDigits 56 = .ok (.iconst 1, 1) := by decide +kernel
theorem dX5_printDigits_57 : decode cX5_printDigits 57 = .ok (.iadd, 1) := by decide +kernel
theorem dX5_printDigits_58 : decode cX5_printDigits 58 = .ok (.iastore, 1) := by decide +kernel
theorem dX5_printDigits_59 : decode cX5_printDigits 59 = .ok (.aload_n 0, 1) := by decide +kernel
theorem dX5_printDigits_60 : decode cX5_printDigits 60 = .ok (.dup, 1) := by decide +kernel
theorem dX5_printDigits_61 : decode cX5_printDigits 61 = .ok (.getfield 19, 3) := by decide +kernel
theorem dX5_printDigits_64 : decode cX5_printDigits 64 = .ok (.iconst 1, 1) := by decide +kernel
theorem dX5_printDigits_65 : decode cX5_printDigits 65 = .ok (.iadd, 1) := by decide +kernel
theorem dX5_printDigits_66 : decode cX5_printDigits 66 = .ok (.putfield 19, 3) := by decide +kernel
theorem dX5_printDigits_69 : decode cX5_printDigits 69 = .ok (.iload_n 3, 1) := by decide +kernel
theorem dX5_printDigits_70 : decode cX5_printDigits 70 = .ok (.aload_n 0, 1) := by decide +kernel
theorem dX5_printDigits_71 : decode cX5_printDigits 71 = .ok (.getfield 9, 3) := by decide +kernel
theorem dX5_printDigits_74 : decode cX5_printDigits 74 = .ok (.iload 7, 2) := by decide +kernel
theorem dX5_printDigits_76 : decode cX5_printDigits 76 = .ok (.iaload, 1) := by decide +kernel
theorem dX5_printDigits_77 : decode cX5_printDigits 77 = .ok (.aload_n 0, 1) := by decide +kernel
theorem dX5_printDigits_78 : decode cX5_printDigits 78 = .ok (.getfield 15, 3) := by decide +kernel
theorem dX5_printDigits_81 : decode cX5_printDigits 81 = .ok (.if_icmp .le 7, 3) := by decide +kernel
theorem dX5_printDigits_84 : decode cX5_printDigits 84 = .ok (.iconst 1, 1) := by decide +kernel
theorem dX5_printDigits_85 : decode cX5_printDigits 85 = .ok (.goto 4, 3) := by decide +kernel
theorem dX5_printDigits_88 : decode cX5_printDigits 88 = .ok (.iconst 0, 1) := by decide +kernel
theorem dX5_printDigits_89 : decode cX5_printDigits 89 = .ok (.iadd, 1) := by decide +kernel
theorem dX5_printDigits_90 : decode cX5_printDigits 90 = .ok (.istore_n 3, 1) := by decide +kernel
theorem dX5_printDigits_91 : decode cX5_printDigits 91 = .ok (.lload 4, 2) := by decide +kernel
theorem dX5_printDigits_93 : decode cX5_printDigits 93 = .ok (.ldc2_w 22, 3) := by decide +kernel
theorem dX5_printDigits_96 : decode cX5_printDigits 96 = .ok (.ldiv, 1) := by decide +kernel
theorem dX5_printDigits_97 : decode cX5_printDigits 97 = .ok (.lstore 4, 2) := by decide +kernel
theorem dX5_printDigits_99 : decode cX5_printDigits 99 = .ok (.iinc 6 1, 3) := by decide +kernel
theorem dX5_printDigits_102 : decode cX5_printDigits 102 = .ok (.goto (-83), 3) := by decide +kernel
theorem dX5_printDigits_105 : decode cX5_printDigits 105 = .ok (.iload_n 3, 1) := by decide +kernel
theorem dX5_printDigits_106 : decode cX5_printDigits 106 = .ok (.ireturn, 1) := by decide +kernel
