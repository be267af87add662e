theorem dX7_partOf_19 : decode cX7_partOf 19 = .ok (.idiv, 1) := by decide +kernel
theorem dX7_partOf_20 : decode cX7_partOf 20 = .ok (.bipush 10, 2) := by decide +kernel
theorem dX7_partOf_22 : decode cX7_partOf 22 = .ok (.irem, 1) := by decide +kernel
theorem dX7_partOf_23 : decode cX7_partOf 23 = .ok (.goto 7, 3) := by decide +kernel
theorem dX7_partOf_26 : decode cX7_partOf 26 = .ok (.iload_n 0, 1) := by decide +kernel
theorem dX7_partOf_27 : decode cX7_partOf 27 = .ok (.bipush 10, 2) := by decide +kernel
theorem dX7_partOf_29 : decode cX7_partOf 29 = .ok (.irem, 1) := by decide +kernel
theorem dX7_partOf_30 : decode cX7_partOf 30 = .ok (.ireturn, 1) := by decide +kernel
theorem dX7_compared_0 : decode cX7_compared 0 = .ok (.iload_n 0, 1) := by decide +kernel
theorem dX7_compared_1 : decode cX7_compared 1 = .ok (.iconst 2, 1) := by decide +kernel
theorem dX7_compared_2 : decode cX7_compared 2 = .ok (.idiv, 1) := by decide +kernel
theorem dX7_compared_3 : decode cX7_compared 3 = .ok (.istore_n 2, 1) := by decide +kernel
theorem dX7_compared_4 : decode cX7_compared 4 = .ok (.iload_n 2, 1) := by decide +kernel
theorem dX7_compared_5 : decode cX7_compared 5 = .ok (.ifCond .ne 7, 3) := by decide +kernel
theorem dX7_compared_8 : decode cX7_compared 8 = .ok (.iconst 1, 1) := by decide +kernel
theorem dX7_compared_9 : decode cX7_compared 9 = .ok (.goto 4, 3) := by decide +kernel
theorem dX7_compared_12 : decode cX7_compared 12 = .ok (.iconst 0, 1) := by decide +kernel
theorem dX7_compared_13 : decode cX7_compared 13 = .ok (.istore_n 3, 1) := by decide +kernel
theorem dX7_compared_14 : decode cX7_compared 14 = .ok (.iload_n 2, 1) := by decide +kernel
theorem dX7_compared_15 : decode cX7_compared 15 = .ok (.iconst 2, 1) := by decide +kernel
theorem dX7_compared_16 : decode cX7_compared 16 = .ok (.if_icmp .ne 7, 3) := by decide +kernel
theorem dX7_compared_19 : decode cX7_compared 19 = .ok (.iconst 1, 1) := by decide +kernel
theorem dX7_compared_20 : decode cX7_compared 20 = .ok (.goto 4, 3) := by decide +kernel
theorem dX7_compared_23 : decode cX7_compared 23 = .ok (.iconst 2, 1) := by decide +kernel
theorem dX7_compared_24 : decode cX7_compared 24 = .ok (.istore 4, 2) := by decide +kernel
theorem dX7_compared_26 : decode cX7_compared 26 = .ok (.iload_n 1, 1) := by decide +kernel
theorem dX7_compared_27 : decode cX7_compared 27 = .ok (.ifCond .ne 7, 3) := by decide +kernel
theorem dX7_compared_30 : decode cX7_compared 30 = .ok (.iload_n 2, 1) := by decide +kernel
theorem dX7_compared_31 : decode cX7_compared 31 = .ok (.goto 33, 3) := by decide +kernel
theorem dX7_compared_34 : decode cX7_compared 34 = .ok (.iload_n 0, 1) := by decide +kernel
theorem dX7_compared_35 : decode cX7_compared 35 = .ok (.iconst 2, 1) := by decide +kernel
theorem dX7_compared_36 : decode cX7_compared 36 = .ok (.irem, 1) := by decide +kernel
theorem dX7_compared_37 : decode cX7_compared 37 = .ok (.ifCond .ne 7, 3) := by decide +kernel
theorem dX7_compared_40 : decode cX7_compared 40 = .ok (.iconst 1, 1) := by decide +kernel
theorem dX7_compared_41 : decode cX7_compared 41 = .ok (.goto 4, 3) := by decide +kernel
theorem dX7_compared_44 : decode cX7_compared 44 = .ok (.iconst 0, 1) := by decide +kernel
theorem dX7_compared_45 : decode cX7_compared 45 = .ok (.iload_n 1, 1) := by decide +kernel
theorem dX7_compared_46 : decode cX7_compared 46 = .ok (.iconst 1, 1) := by decide +kernel
theorem dX7_compared_47 : decode cX7_compared 47 = .ok (.if_icmp .ne 7, 3) := by decide +kernel
theorem dX7_compared_50 : decode cX7_compared 50 = .ok (.iconst 1, 1) := by decide +kernel
theorem dX7_compared_51 : decode cX7_compared 51 = .ok (.goto 4, 3) := by decide +kernel
theorem dX7_compared_54 : decode cX7_compared 54 = .ok (.iconst 0, 1) := by decide +kernel
theorem dX7_compared_55 : decode cX7_compared 55 = .ok (.if_icmp .ne 7, 3) := by decide +kernel
theorem dX7_compared_58 : decode cX7_compared 58 = .ok (.iload_n 3, 1) := by decide +kernel
theorem dX7_compared_59 : decode cX7_compared 59 = .ok (.goto 5, 3) := by decide +kernel
theorem dX7_compared_62 : decode cX7_compared 62 = .ok (.iload 4, 2) := by decide +kernel
theorem dX7_compared_64 : decode cX7_compared 64 = .ok (.ireturn, 1) := by decide +kernel
set_option maxRecDepth 20000 in
theorem ggX7_keyOf_X7_compared : GoodIn wsX7_keyOf wsX7_compared := goodIn_r _ [4] (by decide +kernel) (by decide +kernel)
set_option maxRecDepth 20000 in
theorem gX7_keyOf_X7_compared : GoodIn wsX7_keyOf (va_wsS RX7 37 yX7_compared wsX7_compared) := goodIn_app (goodIn_of _ (by decide +kernel)) ggX7_keyOf_X7_compared
set_option maxRecDepth 20000 in
theorem ggX7_keyOf_X7_partOf : GoodIn wsX7_keyOf wsX7_partOf := goodIn_r _ [7] (by decide +kernel) (by decide +kernel)
set_option maxRecDepth 20000 in
theorem gX7_keyOf_X7_partOf : GoodIn wsX7_keyOf (va_wsS RX7 41 yX7_partOf wsX7_partOf) := goodIn_app (goodIn_of _ (by decide +kernel)) ggX7_keyOf_X7_partOf
theorem dX7_keyOf_0 : decode cX7_keyOf 0 = .ok (.bipush 100, 2) := by decide +kernel
theorem dX7_keyOf_2 : decode cX7_keyOf 2 = .ok (.iload_n 0, 1) := by decide +kernel
theorem dX7_keyOf_3 : decode cX7_keyOf 3 = .ok (.iload_n 1, 1) := by decide +kernel
theorem dX7_keyOf_4 : decode cX7_keyOf 4 = .ok (.iconst 0, 1) := by decide +kernel
theorem dX7_keyOf_5 : decode cX7_keyOf 5 = .ok (.invokestatic 37, 3) := by decide +kernel
theorem dX7_keyOf_8 : decode cX7_keyOf 8 = .ok (.invokestatic 41, 3) := by decide +kernel
theorem dX7_keyOf_11 : decode cX7_keyOf 11 = .ok (.imul, 1) := by decide +kernel
theorem dX7_keyOf_12 : decode cX7_keyOf 12 = .ok (.bipush 10, 2) := by decide +kernel
theorem dX7_keyOf_14 : decode cX7_keyOf 14 = .ok (.iload_n 0, 1) := by decide +kernel
theorem dX7_keyOf_15 : decode cX7_keyOf 15 = .ok (.iload_n 1, 1) := by decide +kernel
theorem dX7_keyOf_16 : decode cX7_keyOf 16 = .ok (.iconst 1, 1) := by decide +kernel
theorem dX7_keyOf_17 : decode cX7_keyOf 17 = .ok (.invokestatic 37, 3) := by decide +kernel
theorem dX7_keyOf_20 : decode cX7_keyOf 20 = .ok (.invokestatic 41, 3) := by decide +kernel
theorem dX7_keyOf_23 : decode cX7_keyOf 23 = .ok (.imul, 1) := by decide +kernel
theorem dX7_keyOf_24 : decode cX7_keyOf 24 = .ok (.iadd, 1) := by decide +kernel
theorem dX7_keyOf_25 : decode cX7_keyOf 25 = .ok (.iload_n 0, 1) := by decide +kernel
theorem dX7_keyOf_26 : decode cX7_keyOf 26 = .ok (.iload_n 1, 1) := by decide +kernel
theorem dX7_keyOf_27 : decode cX7_keyOf 27 = .ok (.iconst 2, 1) := by decide +kernel
theorem dX7_keyOf_28 : decode cX7_keyOf 28 = .ok (.invokestatic 37, 3) := by decide +kernel
theorem dX7_keyOf_31 : decode cX7_keyOf 31 = .ok (.invokestatic 41, 3) := by decide +kernel
theorem dX7_keyOf_34 : decode cX7_keyOf 34 = .ok (.iadd, 1) := by decide +kernel
theorem dX7_keyOf_35 : decode cX7_keyOf 35 = .ok (.ireturn, 1) := by decide +kernel
theorem dX7_digitOf_0 : decode cX7_digitOf 0 = .ok (.iload_n 1, 1) := by decide +kernel
theorem dX7_digitOf_1 : decode cX7_digitOf 1 = .ok (.ifCond .ne 10, 3) := by decide +kernel
theorem dX7_digitOf_4 : decode cX7_digitOf 4 = .ok (.iload_n 0, 1) := by decide +kernel
theorem dX7_digitOf_5 : decode cX7_digitOf 5 = .ok (.bipush 121, 2) := by decide +kernel
theorem dX7_digitOf_7 : decode cX7_digitOf 7 = .ok (.idiv, 1) := by decide +kernel
theorem dX7_digitOf_8 : decode cX7_digitOf 8 = .ok (.goto 22, 3) := by decide +kernel
theorem dX7_digitOf_11 : decode cX7_digitOf 11 = .ok (.iload_n 1, 1) := by decide +kernel
theorem dX7_digitOf_12 : decode cX7_digitOf 12 = .ok (.iconst 1, 1) := by decide +kernel
theorem dX7_digitOf_13 : decode cX7_digitOf 13 = .ok (.if_icmp .ne 13, 3) := by decide +kernel
theorem dX7_digitOf_16 : decode cX7_digitOf 16 = .ok (.iload_n 0, 1) := by decide +kernel
theorem dX7_digitOf_17 : decode cX7_digitOf 17 = .ok (.bipush 11, 2) := by decide +kernel
theorem dX7_digitOf_19 : decode cX7_digitOf 19 = .ok (.idiv, 1) := by decide +kernel
theorem dX7_digitOf_20 : decode cX7_digitOf 20 = .ok (.bipush 11, 2) := by decide +kernel
theorem dX7_digitOf_22 : decode cX7_digitOf 22 = .ok (.irem, 1) := by decide +kernel
theorem dX7_digitOf_23 : decode cX7_digitOf 23 = .ok (.goto 7, 3) := by decide +kernel
theorem dX7_digitOf_26 : decode cX7_digitOf 26 = .ok (.iload_n 0, 1) := by decide +kernel
theorem dX7_digitOf_27 : decode cX7_digitOf 27 = .ok (.bipush 11, 2) := by decide +kernel
theorem dX7_digitOf_29 : decode cX7_digitOf 29 = .ok (.irem, 1) := by decide +kernel
theorem dX7_digitOf_30 : decode cX7_digitOf 30 = .ok (.ireturn, 1) := by decide +kernel
set_option maxRecDepth 20000 in
theorem ggX7_isFree_X7_digitOf : GoodIn wsX7_isFree wsX7_digitOf := goodIn_r _ [4] (by decide +kernel) (by decide +kernel)
set_option maxRecDepth 20000 in
theorem gX7_isFree_X7_digitOf : GoodIn wsX7_isFree (va_wsS RX7 44 yX7_digitOf wsX7_digitOf) := goodIn_app (goodIn_of _ (by decide +kernel)) ggX7_isFree_X7_digitOf
theorem dX7_isFree_0 : decode cX7_isFree 0 = .ok (.iload_n 0, 1) := by decide +kernel
theorem dX7_isFree_1 : decode cX7_isFree 1 = .ok (.iload_n 1, 1) := by decide +kernel
theorem dX7_isFree_2 : decode cX7_isFree 2 = .ok (.invokestatic 44, 3) := by decide +kernel
theorem dX7_isFree_5 : decode cX7_isFree 5 = .ok (.bipush 10, 2) := by decide +kernel
theorem dX7_isFree_7 : decode cX7_isFree 7 = .ok (.if_icmp .ne 7, 3) := by decide +kernel
theorem dX7_isFree_10 : decode cX7_isFree 10 = .ok (.iconst 1, 1) := by decide +kernel
theorem dX7_isFree_11 : decode cX7_isFree 11 = .ok (.goto 4, 3) := by decide +kernel
theorem dX7_isFree_14 : decode cX7_isFree 14 = .ok (.iconst 0, 1) := by decide +kernel
theorem dX7_isFree_15 : decode cX7_isFree 15 = .ok (.ireturn, 1) := by decide +kernel
set_option maxRecDepth 20000 in
theorem ggX7_boundOf_X7_isFree : GoodIn wsX7_boundOf wsX7_isFree := goodIn_r _ [4, 5, 6, 3, 7] (by decide +kernel) (by decide +kernel)
set_option maxRecDepth 20000 in
theorem gX7_boundOf_X7_isFree : GoodIn wsX7_boundOf (va_wsS RX7 47 yX7_isFree wsX7_isFree) := goodIn_app (goodIn_of _ (by decide +kernel)) ggX7_boundOf_X7_isFree
theorem dX7_boundOf_0 : decode cX7_boundOf 0 = .ok (.iconst 0, 1) := by decide +kernel
theorem dX7_boundOf_1 : decode cX7_boundOf 1 = .ok (.istore_n 1, 1) := by decide +kernel
theorem dX7_boundOf_2 : decode cX7_boundOf 2 = .ok (.iconst 0, 1) := by decide +kernel
theorem dX7_boundOf_3 : decode cX7_boundOf 3 = .ok (.istore_n 2, 1) := by decide +kernel
theorem dX7_boundOf_4 : decode cX7_boundOf 4 = .ok (.iload_n 2, 1) := by decide +kernel
theorem dX7_boundOf_5 : decode cX7_boundOf 5 = .ok (.iconst 3, 1) := by decide +kernel
theorem dX7_boundOf_6 : decode cX7_boundOf 6 = .ok (.if_icmp .ge 25, 3) := by decide +kernel
theorem dX7_boundOf_9 : decode cX7_boundOf 9 = .ok (.iload_n 1, 1) := by decide +kernel
theorem dX7_boundOf_10 : decode cX7_boundOf 10 = .ok (.iload_n 0, 1) := by decide +kernel
theorem dX7_boundOf_11 : decode cX7_boundOf 11 = .ok (.iload_n 2, 1) := by decide +kernel
theorem dX7_boundOf_12 : decode cX7_boundOf 12 = .ok (.invokestatic 47, 3) := by decide +kernel
theorem dX7_boundOf_15 : decode cX7_boundOf 15 = .ok (.ifCond .eq 7, 3) := by decide +kernel
theorem dX7_boundOf_18 : decode cX7_boundOf 18 = .ok (.iconst 0, 1) := by decide +kernel
theorem dX7_boundOf_19 : decode cX7_boundOf 19 = .ok (.goto 4, 3) := by decide +kernel
theorem dX7_boundOf_22 : decode cX7_boundOf 22 = .ok (.iconst 1, 1) := by decide +kernel
theorem dX7_boundOf_23 : decode cX7_boundOf 23 = .ok (.iadd, 1) := by decide +kernel
theorem dX7_boundOf_24 : decode cX7_boundOf 24 = .ok (.istore_n 1, 1) := by decide +kernel
theorem dX7_boundOf_25 : decode cX7_boundOf 25 = .ok (.iinc 2 1, 3) := by decide +kernel
theorem dX7_boundOf_28 : decode cX7_boundOf 28 = .ok (.goto (-24), 3) := by decide +kernel
theorem dX7_boundOf_31 : decode cX7_boundOf 31 = .ok (.iload_n 1, 1) := by decide +kernel
theorem dX7_boundOf_32 : decode cX7_boundOf 32 = .ok (.ireturn, 1) := by decide +kernel
set_option maxRecDepth 20000 in
theorem ggX7_isAnswer_X7_isFree : GoodIn wsX7_isAnswer wsX7_isFree := goodIn_r _ [4, 5, 6, 3, 7] (by decide +kernel) (by decide +kernel)
set_option maxRecDepth 20000 in
theorem gX7_isAnswer_X7_isFree : GoodIn wsX7_isAnswer (va_wsS RX7 47 yX7_isFree wsX7_isFree) := goodIn_app (goodIn_of _ (by decide +kernel)) ggX7_isAnswer_X7_isFree
set_option maxRecDepth 20000 in
theorem ggX7_isAnswer_X7_digitOf : GoodIn wsX7_isAnswer wsX7_digitOf := goodIn_r _ [7] (by decide +kernel) (by decide +kernel)
set_option maxRecDepth 20000 in
theorem gX7_isAnswer_X7_digitOf : GoodIn wsX7_isAnswer (va_wsS RX7 44 yX7_digitOf wsX7_digitOf) := goodIn_app (goodIn_of _ (by decide +kernel)) ggX7_isAnswer_X7_digitOf
set_option maxRecDepth 20000 in
theorem ggX7_isAnswer_X7_partOf : GoodIn wsX7_isAnswer wsX7_partOf := goodIn_r _ [10] (by decide +kernel) (by decide +kernel)
set_option maxRecDepth 20000 in
theorem gX7_isAnswer_X7_partOf : GoodIn wsX7_isAnswer (va_wsS RX7 41 yX7_partOf wsX7_partOf) := goodIn_app (goodIn_of _ (by decide +kernel)) ggX7_isAnswer_X7_partOf
theorem dX7_isAnswer_0 : decode cX7_isAnswer 0 = .ok (.iconst 1, 1) := by decide +kernel
theorem dX7_isAnswer_1 : decode cX7_isAnswer 1 = .ok (.istore_n 2, 1) := by decide +kernel
theorem dX7_isAnswer_2 : decode cX7_isAnswer 2 = .ok (.iconst 0, 1) := by decide +kernel
theorem dX7_isAnswer_3 : decode cX7_isAnswer 3 = .ok (.istore_n 3, 1) := by decide +kernel
theorem dX7_isAnswer_4 : decode cX7_isAnswer 4 = .ok (.iload_n 3, 1) := by decide +kernel
theorem dX7_isAnswer_5 : decode cX7_isAnswer 5 = .ok (.iconst 3, 1) := by decide +kernel
theorem dX7_isAnswer_6 : decode cX7_isAnswer 6 = .ok (.if_icmp .ge 40, 3) := by decide +kernel
theorem dX7_isAnswer_9 : decode cX7_isAnswer 9 = .ok (.iload_n 2, 1) := by decide +kernel
theorem dX7_isAnswer_10 : decode cX7_isAnswer 10 = .ok (.ifCond .eq 28, 3) := by decide +kernel
theorem dX7_isAnswer_13 : decode cX7_isAnswer 13 = .ok (.iload_n 0, 1) := by decide +kernel
theorem dX7_isAnswer_14 : decode cX7_isAnswer 14 = .ok (.iload_n 3, 1) := by decide +kernel
theorem dX7_isAnswer_15 : decode cX7_isAnswer 15 = .ok (.invokestatic 47, 3) := by decide +kernel
theorem dX7_isAnswer_18 : decode cX7_isAnswer 18 = .ok (.ifCond .ne 16, 3) := by decide +kernel
theorem dX7_isAnswer_21 : decode cX7_isAnswer 21 = .ok (.iload_n 0, 1) := by decide +kernel
theorem dX7_isAnswer_22 : decode cX7_isAnswer 22 = .ok (.iload_n 3, 1) := by decide +kernel
theorem dX7_isAnswer_23 : decode cX7_isAnswer 23 = .ok (.invokestatic 44, 3) := by decide +kernel
theorem dX7_isAnswer_26 : decode cX7_isAnswer 26 = .ok (.iload_n 1, 1) := by decide +kernel
theorem dX7_isAnswer_27 : decode cX7_isAnswer 27 = .ok (.iload_n 3, 1) := by decide +kernel
theorem dX7_isAnswer_28 : decode cX7_isAnswer 28 = .ok (.invokestatic 41, 3) := by decide +kernel
theorem dX7_isAnswer_31 : decode cX7_isAnswer 31 = .ok (.if_icmp .ne 7, 3) := by decide +kernel
theorem dX7_isAnswer_34 : decode cX7_isAnswer 34 = .ok (.iconst 1, 1) := by decide +kernel
theorem dX7_isAnswer_35 : decode cX7_isAnswer 35 = .ok (.goto 4, 3) := by decide +kernel
theorem dX7_isAnswer_38 : decode cX7_isAnswer 38 = .ok (.iconst 0, 1) := by decide +kernel
theorem dX7_isAnswer_39 : decode cX7_isAnswer 39 = .ok (.istore_n 2, 1) := by decide +kernel
theorem dX7_isAnswer_40 : decode cX7_isAnswer 40 = .ok (.iinc 3 1, 3) := by decide +kernel
theorem dX7_isAnswer_43 : decode cX7_isAnswer 43 = .ok (.goto (-39), 3) := by decide +kernel
theorem dX7_isAnswer_46 : decode cX7_isAnswer 46 = .ok (.iload_n 2, 1) := by decide +kernel
theorem dX7_isAnswer_47 : decode cX7_isAnswer 47 = .ok (.ireturn, 1) := by decide +kernel
set_option maxRecDepth 20000 in
theorem ggX7_isQuestion_X7_in : GoodIn wsX7_isQuestion wsX7_in := goodIn_r _ [5] (by decide +kernel) (by decide +kernel)
set_option maxRecDepth 20000 in
theorem gX7_isQuestion_X7_in : GoodIn wsX7_isQuestion (va_wsS RX7 53 yX7_in wsX7_in) := goodIn_app (goodIn_of _ (by decide +kernel)) ggX7_isQuestion_X7_in
theorem dX7_isQuestion_0 : decode cX7_isQuestion 0 = .ok (.iload_n 0, 1) := by decide +kernel
theorem dX7_isQuestion_1 : decode cX7_isQuestion 1 = .ok (.i2l, 1) := by decide +kernel
theorem dX7_isQuestion_2 : decode cX7_isQuestion 2 = .ok (.lconst 0, 1) := by decide +kernel
theorem dX7_isQuestion_3 : decode cX7_isQuestion 3 = .ok (.ldc2_w 51, 3) := by decide +kernel
theorem dX7_isQuestion_6 : decode cX7_isQuestion 6 = .ok (.invokestatic 53, 3) := by decide +kernel
theorem dX7_isQuestion_9 : decode cX7_isQuestion 9 = .ok (.ireturn, 1) := by decide +kernel
set_option maxRecDepth 20000 in
theorem ggX7_isOrder_X7_in : GoodIn wsX7_isOrder wsX7_in := goodIn_r _ [5] (by decide +kernel) (by decide +kernel)
set_option maxRecDepth 20000 in
theorem gX7_isOrder_X7_in : GoodIn wsX7_isOrder (va_wsS RX7 53 yX7_in wsX7_in) := goodIn_app (goodIn_of _ (by decide +kernel)) ggX7_isOrder_X7_in
theorem dX7_isOrder_0 : decode cX7_isOrder 0 = .ok (.iload_n 0, 1) := by decide +kernel
theorem dX7_isOrder_1 : decode cX7_isOrder 1 = .ok (.i2l, 1) := by decide +kernel
theorem dX7_isOrder_2 : decode cX7_isOrder 2 = .ok (.lconst 0, 1) := by decide +kernel
theorem dX7_isOrder_3 : decode cX7_isOrder 3 = .ok (.ldc2_w 57, 3) := by decide +kernel
theorem dX7_isOrder_6 : decode cX7_isOrder 6 = .ok (.invokestatic 53, 3) := by decide +kernel
theorem dX7_isOrder_9 : decode cX7_isOrder 9 = .ok (.ireturn, 1) := by decide +kernel
theorem dX7_isIn_0 : decode cX7_isIn 0 = .ok (.iload_n 0, 1) := by decide +kernel
theorem dX7_isIn_1 : decode cX7_isIn 1 = .ok (.iload_n 1, 1) := by decide +kernel
theorem dX7_isIn_2 : decode cX7_isIn 2 = .ok (.ishr, 1) := by decide +kernel
theorem dX7_isIn_3 : decode cX7_isIn 3 = .ok (.iconst 1, 1) := by decide +kernel
theorem dX7_isIn_4 : decode cX7_isIn 4 = .ok (.iand, 1) := by decide +kernel
theorem dX7_isIn_5 : decode cX7_isIn 5 = .ok (.iconst 1, 1) := by decide +kernel
theorem dX7_isIn_6 : decode cX7_isIn 6 = .ok (.if_icmp .ne 7, 3) := by decide +kernel
theorem dX7_isIn_9 : decode cX7_isIn 9 = .ok (.iconst 1, 1) := by decide +kernel
theorem dX7_isIn_10 : decode cX7_isIn 10 = .ok (.goto 4, 3) := by decide +kernel
theorem dX7_isIn_13 : decode cX7_isIn 13 = .ok (.iconst 0, 1) := by decide +kernel
theorem dX7_isIn_14 : decode cX7_isIn 14 = .ok (.ireturn, 1) := by decide +kernel
theorem dX7_bitsOf_0 : decode cX7_bitsOf 0 = .ok (.iconst 0, 1) := by decide +kernel
theorem dX7_bitsOf_1 : decode cX7_bitsOf 1 = .ok (.istore_n 1, 1) := by decide +kernel
theorem dX7_bitsOf_2 : decode cX7_bitsOf 2 = .ok (.iconst 0, 1) := by decide +kernel
theorem dX7_bitsOf_3 : decode cX7_bitsOf 3 = .ok (.istore_n 2, 1) := by decide +kernel
theorem dX7_bitsOf_4 : decode cX7_bitsOf 4 = .ok (.iload_n 2, 1) := by decide +kernel
theorem dX7_bitsOf_5 : decode cX7_bitsOf 5 = .ok (.bipush 6, 2) := by decide +kernel
theorem dX7_bitsOf_7 : decode cX7_bitsOf 7 = .ok (.if_icmp .ge 17, 3) := by decide +kernel
theorem dX7_bitsOf_10 : decode cX7_bitsOf 10 = .ok (.iload_n 1, 1) := by decide +kernel
theorem dX7_bitsOf_11 : decode cX7_bitsOf 11 = .ok (.iload_n 0, 1) := by decide +kernel
theorem dX7_bitsOf_12 : decode cX7_bitsOf 12 = .ok (.iload_n 2, 1) := by decide +kernel
theorem dX7_bitsOf_13 : decode cX7_bitsOf 13 = .ok (.ishr, 1) := by decide +kernel
theorem dX7_bitsOf_14 : decode cX7_bitsOf 14 = .ok (.iconst 1, 1) := by decide +kernel
theorem dX7_bitsOf_15 : decode cX7_bitsOf 15 = .ok (.iand, 1) := by decide +kernel
theorem dX7_bitsOf_16 : decode cX7_bitsOf 16 = .ok (.iadd, 1) := by decide +kernel
theorem dX7_bitsOf_17 : decode cX7_bitsOf 17 = .ok (.istore_n 1, 1) := by decide +kernel
theorem dX7_bitsOf_18 : decode cX7_bitsOf 18 = .ok (.iinc 2 1, 3) := by decide +kernel
theorem dX7_bitsOf_21 : decode cX7_bitsOf 21 = .ok (.goto (-17), 3) := by decide +kernel
theorem dX7_bitsOf_24 : decode cX7_bitsOf 24 = .ok (.iload_n 1, 1) := by decide +kernel
theorem dX7_bitsOf_25 : decode cX7_bitsOf 25 = .ok (.ireturn, 1) := by decide +kernel
theorem dX7_look_0 : decode cX7_look 0 = .ok (.iconst 0, 1) := by decide +kernel
theorem dX7_look_1 : decode cX7_look 1 = .ok (.istore_n 1, 1) := by decide +kernel
theorem dX7_look_2 : decode cX7_look 2 = .ok (.iconst 1, 1) := by decide +kernel
theorem dX7_look_3 : decode cX7_look 3 = .ok (.iload_n 1, 1) := by decide +kernel
theorem dX7_look_4 : decode cX7_look 4 = .ok (.ishl, 1) := by decide +kernel
theorem dX7_look_5 : decode cX7_look 5 = .ok (.iload_n 0, 1) := by decide +kernel
theorem dX7_look_6 : decode cX7_look 6 = .ok (.if_icmp .gt 9, 3) := by decide +kernel
theorem dX7_look_9 : decode cX7_look 9 = .ok (.iinc 1 1, 3) := by decide +kernel
theorem dX7_look_12 : decode cX7_look 12 = .ok (.goto (-10), 3) := by decide +kernel
theorem dX7_look_15 : decode cX7_look 15 = .ok (.iload_n 1, 1) := by decide +kernel
theorem dX7_look_16 : decode cX7_look 16 = .ok (.ireturn, 1) := by decide +kernel
set_option maxRecDepth 20000 in
theorem ggX7_answersOf_X7_isAnswer : GoodIn wsX7_answersOf wsX7_isAnswer := goodIn_r _ [5, 6, 7, 4, 8, 9, 10, 11, 12, 13, 14] (by decide +kernel) (by decide +kernel)
set_option maxRecDepth 20000 in
theorem gX7_answersOf_X7_isAnswer : GoodIn wsX7_answersOf (va_wsS RX7 59 yX7_isAnswer wsX7_isAnswer) := goodIn_app (goodIn_of _ (by decide +kernel)) ggX7_answersOf_X7_isAnswer
theorem dX7_answersOf_0 : decode cX7_answersOf 0 = .ok (.iconst 0, 1) := by decide +kernel
theorem dX7_answersOf_1 : decode cX7_answersOf 1 = .ok (.istore_n 2, 1) := by decide +kernel
theorem dX7_answersOf_2 : decode cX7_answersOf 2 = .ok (.iconst 0, 1) := by decide +kernel
theorem dX7_answersOf_3 : decode cX7_answersOf 3 = .ok (.istore_n 3, 1) := by decide +kernel
theorem dX7_answersOf_4 : decode cX7_answersOf 4 = .ok (.iload_n 3, 1) := by decide +kernel
theorem dX7_answersOf_5 : decode cX7_answersOf 5 = .ok (.aload_n 0, 1) := by decide +kernel
theorem dX7_answersOf_6 : decode cX7_answersOf 6 = .ok (.getfield 7, 3) := by decide +kernel
theorem dX7_answersOf_9 : decode cX7_answersOf 9 = .ok (.iconst 0, 1) := by decide +kernel
theorem dX7_answersOf_10 : decode cX7_answersOf 10 = .ok (.iaload, 1) := by decide +kernel
theorem dX7_answersOf_11 : decode cX7_answersOf 11 = .ok (.if_icmp .ge 32, 3) := by decide +kernel
theorem dX7_answersOf_14 : decode cX7_answersOf 14 = .ok (.iload_n 2, 1) := by decide +kernel
theorem dX7_answersOf_15 : decode cX7_answersOf 15 = .ok (.iload_n 1, 1) := by decide +kernel
theorem dX7_answersOf_16 : decode cX7_answersOf 16 = .ok (.aload_n 0, 1) := by decide +kernel
theorem dX7_answersOf_17 : decode cX7_answersOf 17 = .ok (.getfield 7, 3) := by decide +kernel
theorem dX7_answersOf_20 : decode cX7_answersOf 20 = .ok (.iconst 1, 1) := by decide +kernel
theorem dX7_answersOf_21 : decode cX7_answersOf 21 = .ok (.iload_n 3, 1) := by decide +kernel
theorem dX7_answersOf_22 : decode cX7_answersOf 22 = .ok (.iadd, 1) := by decide +kernel
theorem dX7_answersOf_23 : decode cX7_answersOf 23 = .ok (.iaload, 1) := by decide +kernel
theorem dX7_answersOf_24 : decode cX7_answersOf 24 = .ok (.invokestatic 59, 3) := by decide +kernel
theorem dX7_answersOf_27 : decode cX7_answersOf 27 = .ok (.ifCond .eq 7, 3) := by decide +kernel
theorem dX7_answersOf_30 : decode cX7_answersOf 30 = .ok (.iconst 1, 1) := by decide +kernel
theorem dX7_answersOf_31 : decode cX7_answersOf 31 = .ok (.goto 4, 3) := by decide +kernel
theorem dX7_answersOf_34 : decode cX7_answersOf 34 = .ok (.iconst 0, 1) := by decide +kernel
theorem dX7_answersOf_35 : decode cX7_answersOf 35 = .ok (.iadd, 1) := by decide +kernel
theorem dX7_answersOf_36 : decode cX7_answersOf 36 = .ok (.istore_n 2, 1) := by decide +kernel
theorem dX7_answersOf_37 : decode cX7_answersOf 37 = .ok (.iinc 3 1, 3) := by decide +kernel
theorem dX7_answersOf_40 : decode cX7_answersOf 40 = .ok (.goto (-36), 3) := by decide +kernel
theorem dX7_answersOf_43 : decode cX7_answersOf 43 = .ok (.iload_n 2, 1) := by decide +kernel
theorem dX7_answersOf_44 : decode cX7_answersOf 44 = .ok (.ireturn, 1) := by decide +kernel
set_option maxRecDepth 20000 in
theorem ggX7_reachOf_X7_compared : GoodIn wsX7_reachOf wsX7_compared := goodIn_r _ [4] (by decide +kernel) (by decide +kernel)
set_option maxRecDepth 20000 in
theorem gX7_reachOf_X7_compared : GoodIn wsX7_reachOf (va_wsS RX7 37 yX7_compared wsX7_compared) := goodIn_app (goodIn_of _ (by decide +kernel)) ggX7_reachOf_X7_compared
set_option maxRecDepth 20000 in
theorem ggX7_reachOf_X7_isFree : GoodIn wsX7_reachOf wsX7_isFree := goodIn_r _ [7, 8, 9, 3, 10] (by decide +kernel) (by decide +kernel)
set_option maxRecDepth 20000 in
theorem gX7_reachOf_X7_isFree : GoodIn wsX7_reachOf (va_wsS RX7 47 yX7_isFree wsX7_isFree) := goodIn_app (goodIn_of _ (by decide +kernel)) ggX7_reachOf_X7_isFree
theorem dX7_reachOf_0 : decode cX7_reachOf 0 = .ok (.iconst 0, 1) := by decide +kernel
theorem dX7_reachOf_1 : decode cX7_reachOf 1 = .ok (.istore_n 2, 1) := by decide +kernel
theorem dX7_reachOf_2 : decode cX7_reachOf 2 = .ok (.iload_n 2, 1) := by decide +kernel
theorem dX7_reachOf_3 : decode cX7_reachOf 3 = .ok (.iconst 3, 1) := by decide +kernel
theorem dX7_reachOf_4 : decode cX7_reachOf 4 = .ok (.if_icmp .ge 21, 3) := by decide +kernel
theorem dX7_reachOf_7 : decode cX7_reachOf 7 = .ok (.iload_n 0, 1) := by decide +kernel
theorem dX7_reachOf_8 : decode cX7_reachOf 8 = .ok (.iload_n 1, 1) := by decide +kernel
theorem dX7_reachOf_9 : decode cX7_reachOf 9 = .ok (.iload_n 2, 1) := by decide +kernel
theorem dX7_reachOf_10 : decode cX7_reachOf 10 = .ok (.invokestatic 37, 3) := by decide +kernel
theorem dX7_reachOf_13 : decode cX7_reachOf 13 = .ok (.invokestatic 47, 3) := by decide +kernel
theorem dX7_reachOf_16 : decode cX7_reachOf 16 = .ok (.ifCond .ne 9, 3) := by decide +kernel
theorem dX7_reachOf_19 : decode cX7_reachOf 19 = .ok (.iinc 2 1, 3) := by decide +kernel
theorem dX7_reachOf_22 : decode cX7_reachOf 22 = .ok (.goto (-20), 3) := by decide +kernel
theorem dX7_reachOf_25 : decode cX7_reachOf 25 = .ok (.iload_n 2, 1) := by decide +kernel
theorem dX7_reachOf_26 : decode cX7_reachOf 26 = .ok (.ireturn, 1) := by decide +kernel
set_option maxRecDepth 20000 in
theorem ggX7_reached_X7_reachOf : GoodIn wsX7_reached wsX7_reachOf := goodIn_r _ [4, 5, 6, 3, 7, 8, 9, 10, 11, 12, 13] (by decide +kernel) (by decide +kernel)
set_option maxRecDepth 20000 in
theorem gX7_reached_X7_reachOf : GoodIn wsX7_reached (va_wsS RX7 62 yX7_reachOf wsX7_reachOf) := goodIn_app (goodIn_of _ (by decide +kernel)) ggX7_reached_X7_reachOf
set_option maxRecDepth 20000 in
theorem ggX7_reached_X7_compared : GoodIn wsX7_reached wsX7_compared := goodIn_r _ [7] (by decide +kernel) (by decide +kernel)
set_option maxRecDepth 20000 in
theorem gX7_reached_X7_compared : GoodIn wsX7_reached (va_wsS RX7 37 yX7_compared wsX7_compared) := goodIn_app (goodIn_of _ (by decide +kernel)) ggX7_reached_X7_compared
set_option maxRecDepth 20000 in
theorem ggX7_reached_X7_digitOf : GoodIn wsX7_reached wsX7_digitOf := goodIn_r _ [13] (by decide +kernel) (by decide +kernel)
set_option maxRecDepth 20000 in
theorem gX7_reached_X7_digitOf : GoodIn wsX7_reached (va_wsS RX7 44 yX7_digitOf wsX7_digitOf) := goodIn_app (goodIn_of _ (by decide +kernel)) ggX7_reached_X7_digitOf
theorem dX7_reached_0 : decode cX7_reached 0 = .ok (.iconst 0, 1) := by decide +kernel
theorem dX7_reached_1 : decode cX7_reached 1 = .ok (.istore_n 2, 1) := by decide +kernel
theorem dX7_reached_2 : decode cX7_reached 2 = .ok (.iconst 0, 1) := by decide +kernel
theorem dX7_reached_3 : decode cX7_reached 3 = .ok (.istore_n 3, 1) := by decide +kernel
theorem dX7_reached_4 : decode cX7_reached 4 = .ok (.iload_n 3, 1) := by decide +kernel
theorem dX7_reached_5 : decode cX7_reached 5 = .ok (.iconst 3, 1) := by decide +kernel
theorem dX7_reached_6 : decode cX7_reached 6 = .ok (.if_icmp .ge 74, 3) := by decide +kernel
theorem dX7_reached_9 : decode cX7_reached 9 = .ok (.iconst 0, 1) := by decide +kernel
theorem dX7_reached_10 : decode cX7_reached 10 = .ok (.istore 4, 2) := by decide +kernel
theorem dX7_reached_12 : decode cX7_reached 12 = .ok (.iconst 0, 1) := by decide +kernel
theorem dX7_reached_13 : decode cX7_reached 13 = .ok (.istore 5, 2) := by decide +kernel
theorem dX7_reached_15 : decode cX7_reached 15 = .ok (.iload 5, 2) := by decide +kernel
theorem dX7_reached_17 : decode cX7_reached 17 = .ok (.iload_n 0, 1) := by decide +kernel
theorem dX7_reached_18 : decode cX7_reached 18 = .ok (.iload_n 1, 1) := by decide +kernel
theorem dX7_reached_19 : decode cX7_reached 19 = .ok (.invokestatic 62, 3) := by decide +kernel
theorem dX7_reached_22 : decode cX7_reached 22 = .ok (.if_icmp .ge 31, 3) := by decide +kernel
theorem dX7_reached_25 : decode cX7_reached 25 = .ok (.iload 4, 2) := by decide +kernel
theorem dX7_reached_27 : decode cX7_reached 27 = .ok (.ifCond .ne 13, 3) := by decide +kernel
theorem dX7_reached_30 : decode cX7_reached 30 = .ok (.iload_n 1, 1) := by decide +kernel
theorem dX7_reached_31 : decode cX7_reached 31 = .ok (.iload 5, 2) := by decide +kernel
theorem dX7_reached_33 : decode cX7_reached 33 = .ok (.invokestatic 37, 3) := by decide +kernel
theorem dX7_reached_36 : decode cX7_reached 36 = .ok (.iload_n 3, 1) := by decide +kernel
theorem dX7_reached_37 : decode cX7_reached 37 = .ok (.if_icmp .ne 7, 3) := by decide +kernel
theorem dX7_reached_40 : decode cX7_reached 40 = .ok (.iconst 1, 1) := by decide +kernel
theorem dX7_reached_41 : decode cX7_reached 41 = .ok (.goto 4, 3) := by decide +kernel
theorem dX7_reached_44 : decode cX7_reached 44 = .ok (.iconst 0, 1) := by decide +kernel
theorem dX7_reached_45 : decode cX7_reached 45 = .ok (.istore 4, 2) := by decide +kernel
theorem dX7_reached_47 : decode cX7_reached 47 = .ok (.iinc 5 1, 3) := by decide +kernel
theorem dX7_reached_50 : decode cX7_reached 50 = .ok (.goto (-35), 3) := by decide +kernel
theorem dX7_reached_53 : decode cX7_reached 53 = .ok (.bipush 11, 2) := by decide +kernel
theorem dX7_reached_55 : decode cX7_reached 55 = .ok (.iload_n 2, 1) := by decide +kernel
theorem dX7_reached_56 : decode cX7_reached 56 = .ok (.imul, 1) := by decide +kernel
theorem dX7_reached_57 : decode cX7_reached 57 = .ok (.iload 4, 2) := by decide +kernel
theorem dX7_reached_59 : decode cX7_reached 59 = .ok (.ifCond .eq 11, 3) := by decide +kernel
theorem dX7_reached_62 : decode cX7_reached 62 = .ok (.iload_n 0, 1) := by decide +kernel
theorem dX7_reached_63 : decode cX7_reached 63 = .ok (.iload_n 3, 1) := by decide +kernel
theorem dX7_reached_64 : decode cX7_reached 64 = .ok (.invokestatic 44, 3) := by decide +kernel
theorem dX7_reached_67 : decode cX7_reached 67 = .ok (.goto 5, 3) := by decide +kernel
theorem dX7_reached_70 : decode cX7_reached 70 = .ok (.bipush 10, 2) := by decide +kernel
theorem dX7_reached_72 : decode cX7_reached 72 = .ok (.iadd, 1) := by decide +kernel
theorem dX7_reached_73 : decode cX7_reached 73 = .ok (.istore_n 2, 1) := by decide +kernel
theorem dX7_reached_74 : decode cX7_reached 74 = .ok (.iinc 3 1, 3) := by decide +kernel
theorem dX7_reached_77 : decode cX7_reached 77 = .ok (.goto (-73), 3) := by decide +kernel
theorem dX7_reached_80 : decode cX7_reached 80 = .ok (.iload_n 2, 1) := by decide +kernel
theorem dX7_reached_81 : decode cX7_reached 81 = .ok (.ireturn, 1) := by decide +kernel
set_option maxRecDepth 20000 in
theorem ggX7_costBy_X7_reachOf : GoodIn wsX7_costBy wsX7_reachOf := goodIn_r _ [5, 6, 7, 4, 8, 9, 10, 11, 12, 13, 14] (by decide +kernel) (by decide +kernel)
set_option maxRecDepth 20000 in
theorem gX7_costBy_X7_reachOf : GoodIn wsX7_costBy (va_wsS RX7 62 yX7_reachOf wsX7_reachOf) := goodIn_app (goodIn_of _ (by decide +kernel)) ggX7_costBy_X7_reachOf
set_option maxRecDepth 20000 in
theorem ggX7_costBy_X7_look : GoodIn wsX7_costBy wsX7_look := goodIn_r _ [17] (by decide +kernel) (by decide +kernel)
set_option maxRecDepth 20000 in
theorem gX7_costBy_X7_look : GoodIn wsX7_costBy (va_wsS RX7 65 yX7_look wsX7_look) := goodIn_app (goodIn_of _ (by decide +kernel)) ggX7_costBy_X7_look
set_option maxRecDepth 20000 in
theorem ggX7_costBy_X7_reached : GoodIn wsX7_costBy wsX7_reached := goodIn_r _ [20, 2, 3, 4, 5, 6, 7, 8, 9, 10, 11, 12, 13, 14] (by decide +kernel) (by decide +kernel)
set_option maxRecDepth 20000 in
theorem gX7_costBy_X7_reached : GoodIn wsX7_costBy (va_wsS RX7 69 yX7_reached wsX7_reached) := goodIn_app (goodIn_of _ (by decide +kernel)) ggX7_costBy_X7_reached
set_option maxRecDepth 20000 in
theorem ggX7_costBy_X7_answersOf : GoodIn wsX7_costBy wsX7_answersOf := goodIn_r _ [24, 1, 25, 26, 4, 27, 9, 10, 11, 12, 13, 14, 28, 29, 30, 31, 32, 33, 34, 35, 36, 37, 38, 39] (by decide +kernel) (by decide +kernel)
set_option maxRecDepth 20000 in
theorem gX7_costBy_X7_answersOf : GoodIn wsX7_costBy (wsV RX7 72 RX7 yX7_answersOf wsX7_answersOf) := goodIn_app (goodIn_of _ (by decide +kernel)) ggX7_costBy_X7_answersOf
theorem dX7_costBy_0 : decode cX7_costBy 0 = .ok (.iload_n 1, 1) := by decide +kernel
theorem dX7_costBy_1 : decode cX7_costBy 1 = .ok (.iload_n 2, 1) := by decide +kernel
theorem dX7_costBy_2 : decode cX7_costBy 2 = .ok (.invokestatic 62, 3) := by decide +kernel
theorem dX7_costBy_5 : decode cX7_costBy 5 = .ok (.ifCond .ne 12, 3) := by decide +kernel
theorem dX7_costBy_8 : decode cX7_costBy 8 = .ok (.aload_n 0, 1) := by decide +kernel
theorem dX7_costBy_9 : decode cX7_costBy 9 = .ok (.getfield 7, 3) := by decide +kernel
theorem dX7_costBy_12 : decode cX7_costBy 12 = .ok (.iconst 0, 1) := by decide +kernel
theorem dX7_costBy_13 : decode cX7_costBy 13 = .ok (.iaload, 1) := by decide +kernel
theorem dX7_costBy_14 : decode cX7_costBy 14 = .ok (.goto 22, 3) := by decide +kernel
theorem dX7_costBy_17 : decode cX7_costBy 17 = .ok (.aload_n 0, 1) := by decide +kernel
theorem dX7_costBy_18 : decode cX7_costBy 18 = .ok (.getfield 7, 3) := by decide +kernel
theorem dX7_costBy_21 : decode cX7_costBy 21 = .ok (.iconst 0, 1) := by decide +kernel
theorem dX7_costBy_22 : decode cX7_costBy 22 = .ok (.iaload, 1) := by decide +kernel
theorem dX7_costBy_23 : decode cX7_costBy 23 = .ok (.invokestatic 65, 3) := by decide +kernel
theorem dX7_costBy_26 : decode cX7_costBy 26 = .ok (.aload_n 0, 1) := by decide +kernel
theorem dX7_costBy_27 : decode cX7_costBy 27 = .ok (.iload_n 1, 1) := by decide +kernel
theorem dX7_costBy_28 : decode cX7_costBy 28 = .ok (.iload_n 2, 1) := by decide +kernel
theorem dX7_costBy_29 : decode cX7_costBy 29 = .ok (.invokestatic 69, 3) := by decide +kernel
theorem dX7_costBy_32 : decode cX7_costBy 32 = .ok (.invokevirtual 72, 3) := by decide +kernel
theorem dX7_costBy_35 : decode cX7_costBy 35 = .ok (.iadd, 1) := by decide +kernel
theorem dX7_costBy_36 : decode cX7_costBy 36 = .ok (.ireturn, 1) := by decide +kernel
set_option maxRecDepth 20000 in
theorem ggX7_orderOf_X7_isIn : GoodIn wsX7_orderOf wsX7_isIn := goodIn_r _ [5] (by decide +kernel) (by decide +kernel)
set_option maxRecDepth 20000 in
theorem gX7_orderOf_X7_isIn : GoodIn wsX7_orderOf (va_wsS RX7 75 yX7_isIn wsX7_isIn) := goodIn_app (goodIn_of _ (by decide +kernel)) ggX7_orderOf_X7_isIn
set_option maxRecDepth 20000 in
theorem ggX7_orderOf_X7_costBy : GoodIn wsX7_orderOf wsX7_costBy := goodIn_r _ [9, 1, 10, 11, 4, 12, 13, 14, 15, 16, 17, 18, 19, 20, 21, 22, 23, 24, 25, 26, 27, 28, 29, 30, 31, 32, 33, 34, 35, 36, 37, 38, 39, 40, 41, 42, 43, 44, 45, 46] (by decide +kernel) (by decide +kernel)
set_option maxRecDepth 20000 in
theorem gX7_orderOf_X7_costBy : GoodIn wsX7_orderOf (wsV RX7 78 RX7 yX7_costBy wsX7_costBy) := goodIn_app (goodIn_of _ (by decide +kernel)) ggX7_orderOf_X7_costBy
theorem dX7_orderOf_0 : decode cX7_orderOf 0 = .ok (.iconst (-1), 1) := by decide +kernel
theorem dX7_orderOf_1 : decode cX7_orderOf 1 = .ok (.istore_n 3, 1) := by decide +kernel
theorem dX7_orderOf_2 : decode cX7_orderOf 2 = .ok (.aload_n 0, 1) := by decide +kernel
theorem dX7_orderOf_3 : decode cX7_orderOf 3 = .ok (.getfield 7, 3) := by decide +kernel
theorem dX7_orderOf_6 : decode cX7_orderOf 6 = .ok (.iconst 0, 1) := by decide +kernel
theorem dX7_orderOf_7 : decode cX7_orderOf 7 = .ok (.iaload, 1) := by decide +kernel
theorem dX7_orderOf_8 : decode cX7_orderOf 8 = .ok (.istore 4, 2) := by decide +kernel
theorem dX7_orderOf_10 : decode cX7_orderOf 10 = .ok (.iconst 0, 1) := by decide +kernel
theorem dX7_orderOf_11 : decode cX7_orderOf 11 = .ok (.istore 5, 2) := by decide +kernel
theorem dX7_orderOf_13 : decode cX7_orderOf 13 = .ok (.iload 5, 2) := by decide +kernel
theorem dX7_orderOf_15 : decode cX7_orderOf 15 = .ok (.bipush 6, 2) := by decide +kernel
theorem dX7_orderOf_17 : decode cX7_orderOf 17 = .ok (.if_icmp .ge 66, 3) := by decide +kernel
theorem dX7_orderOf_20 : decode cX7_orderOf 20 = .ok (.iload_n 2, 1) := by decide +kernel
theorem dX7_orderOf_21 : decode cX7_orderOf 21 = .ok (.iload 5, 2) := by decide +kernel
theorem dX7_orderOf_23 : decode cX7_orderOf 23 = .ok (.invokestatic 75, 3) := by decide +kernel
theorem dX7_orderOf_26 : decode cX7_orderOf 26 = .ok (.ifCond .eq 13, 3) := by decide +kernel
theorem dX7_orderOf_29 : decode cX7_orderOf 29 = .ok (.aload_n 0, 1) := by decide +kernel
theorem dX7_orderOf_30 : decode cX7_orderOf 30 = .ok (.iload_n 1, 1) := by decide +kernel
theorem dX7_orderOf_31 : decode cX7_orderOf 31 = .ok (.iload 5, 2) := by decide +kernel
theorem dX7_orderOf_33 : decode cX7_orderOf 33 = .ok (.invokevirtual 78, 3) := by decide +kernel
theorem dX7_orderOf_36 : decode cX7_orderOf 36 = .ok (.goto 9, 3) := by decide +kernel
theorem dX7_orderOf_39 : decode cX7_orderOf 39 = .ok (.aload_n 0, 1) := by decide +kernel
theorem dX7_orderOf_40 : decode cX7_orderOf 40 = .ok (.getfield 7, 3) := by decide +kernel
theorem dX7_orderOf_43 : decode cX7_orderOf 43 = .ok (.iconst 0, 1) := by decide +kernel
theorem dX7_orderOf_44 : decode cX7_orderOf 44 = .ok (.iaload, 1) := by decide +kernel
theorem dX7_orderOf_45 : decode cX7_orderOf 45 = .ok (.istore 6, 2) := by decide +kernel
theorem dX7_orderOf_47 : decode cX7_orderOf 47 = .ok (.iload 6, 2) := by decide +kernel
theorem dX7_orderOf_49 : decode cX7_orderOf 49 = .ok (.iload 4, 2) := by decide +kernel
theorem dX7_orderOf_51 : decode cX7_orderOf 51 = .ok (.if_icmp .ge 8, 3) := by decide +kernel
theorem dX7_orderOf_54 : decode cX7_orderOf 54 = .ok (.iload 5, 2) := by decide +kernel
theorem dX7_orderOf_56 : decode cX7_orderOf 56 = .ok (.goto 4, 3) := by decide +kernel
theorem dX7_orderOf_59 : decode cX7_orderOf 59 = .ok (.iload_n 3, 1) := by decide +kernel
theorem dX7_orderOf_60 : decode cX7_orderOf 60 = .ok (.istore_n 3, 1) := by decide +kernel
theorem dX7_orderOf_61 : decode cX7_orderOf 61 = .ok (.iload 6, 2) := by decide +kernel
theorem dX7_orderOf_63 : decode cX7_orderOf 63 = .ok (.iload 4, 2) := by decide +kernel
theorem dX7_orderOf_65 : decode cX7_orderOf 65 = .ok (.if_icmp .ge 8, 3) := by decide +kernel
theorem dX7_orderOf_68 : decode cX7_orderOf 68 = .ok (.iload 6, 2) := by decide +kernel
theorem dX7_orderOf_70 : decode cX7_orderOf 70 = .ok (.goto 5, 3) := by decide +kernel
theorem dX7_orderOf_73 : decode cX7_orderOf 73 = .ok (.iload 4, 2) := by decide +kernel
theorem dX7_orderOf_75 : decode cX7_orderOf 75 = .ok (.istore 4, 2) := by decide +kernel
theorem dX7_orderOf_77 : decode cX7_orderOf 77 = .ok (.iinc 5 1, 3) := by decide +kernel
theorem dX7_orderOf_80 : decode cX7_orderOf 80 = .ok (.goto (-67), 3) := by decide +kernel
theorem dX7_orderOf_83 : decode cX7_orderOf 83 = .ok (.iload_n 3, 1) := by decide +kernel
theorem dX7_orderOf_84 : decode cX7_orderOf 84 = .ok (.ireturn, 1) := by decide +kernel
set_option maxRecDepth 20000 in
theorem ggX7_costOf_X7_orderOf : GoodIn wsX7_costOf wsX7_orderOf := goodIn_r _ [6, 1, 7, 8, 5, 9, 10, 11, 12, 13, 14, 15, 16, 17, 18, 19, 20, 21, 22, 23, 24, 25, 26, 27, 28, 29, 30, 31, 32, 33, 34, 35, 36, 37, 38, 39, 40, 41, 42, 43, 44, 45, 46, 47, 48, 49, 50] (by decide +kernel) (by decide +kernel)
set_option maxRecDepth 20000 in
theorem gX7_costOf_X7_orderOf : GoodIn wsX7_costOf (wsV RX7 81 RX7 yX7_orderOf wsX7_orderOf) := goodIn_app (goodIn_of _ (by decide +kernel)) ggX7_costOf_X7_orderOf
set_option maxRecDepth 20000 in
theorem ggX7_costOf_X7_costBy : GoodIn wsX7_costOf wsX7_costBy := goodIn_r _ [13, 1, 14, 15, 5, 16, 17, 18, 19, 20, 21, 22, 23, 24, 25, 26, 27, 28, 29, 30, 31, 32, 33, 34, 35, 36, 37, 38, 39, 40, 41, 42, 43, 44, 45, 46, 47, 48, 49, 50] (by decide +kernel) (by decide +kernel)
set_option maxRecDepth 20000 in
theorem gX7_costOf_X7_costBy : GoodIn wsX7_costOf (wsV RX7 78 RX7 yX7_costBy wsX7_costBy) := goodIn_app (goodIn_of _ (by decide +kernel)) ggX7_costOf_X7_costBy
theorem dX7_costOf_0 : decode cX7_costOf 0 = .ok (.aload_n 0, 1) := by decide +kernel
theorem dX7_costOf_1 : decode cX7_costOf 1 = .ok (.iload_n 1, 1) := by decide +kernel
theorem dX7_costOf_2 : decode cX7_costOf 2 = .ok (.iload_n 2, 1) := by decide +kernel
theorem dX7_costOf_3 : decode cX7_costOf 3 = .ok (.invokevirtual 81, 3) := by decide +kernel
theorem dX7_costOf_6 : decode cX7_costOf 6 = .ok (.istore_n 3, 1) := by decide +kernel
theorem dX7_costOf_7 : decode cX7_costOf 7 = .ok (.iload_n 3, 1) := by decide +kernel
theorem dX7_costOf_8 : decode cX7_costOf 8 = .ok (.iconst (-1), 1) := by decide +kernel
theorem dX7_costOf_9 : decode cX7_costOf 9 = .ok (.if_icmp .ne 12, 3) := by decide +kernel
theorem dX7_costOf_12 : decode cX7_costOf 12 = .ok (.aload_n 0, 1) := by decide +kernel
theorem dX7_costOf_13 : decode cX7_costOf 13 = .ok (.getfield 7, 3) := by decide +kernel
theorem dX7_costOf_16 : decode cX7_costOf 16 = .ok (.iconst 0, 1) := by decide +kernel
theorem dX7_costOf_17 : decode cX7_costOf 17 = .ok (.iaload, 1) := by decide +kernel
theorem dX7_costOf_18 : decode cX7_costOf 18 = .ok (.goto 9, 3) := by decide +kernel
theorem dX7_costOf_21 : decode cX7_costOf 21 = .ok (.aload_n 0, 1) := by decide +kernel
theorem dX7_costOf_22 : decode cX7_costOf 22 = .ok (.iload_n 1, 1) := by decide +kernel
theorem dX7_costOf_23 : decode cX7_costOf 23 = .ok (.iload_n 3, 1) := by decide +kernel
theorem dX7_costOf_24 : decode cX7_costOf 24 = .ok (.invokevirtual 78, 3) := by decide +kernel
theorem dX7_costOf_27 : decode cX7_costOf 27 = .ok (.ireturn, 1) := by decide +kernel
set_option maxRecDepth 20000 in
theorem ggX7_append_X7_in : GoodIn wsX7_append wsX7_in := goodIn_r _ [7] (by decide +kernel) (by decide +kernel)
set_option maxRecDepth 20000 in
theorem gX7_append_X7_in : GoodIn wsX7_append (va_wsS RX7 53 yX7_in wsX7_in) := goodIn_app (goodIn_of _ (by decide +kernel)) ggX7_append_X7_in
set_option maxRecDepth 20000 in
theorem ggX7_append_X7_holds : GoodIn wsX7_append wsX7_holds := goodIn_r _ [11, 12, 13, 14, 15, 16, 17, 18, 19, 20, 21] (by decide +kernel) (by decide +kernel)
set_option maxRecDepth 20000 in
theorem gX7_append_X7_holds : GoodIn wsX7_append (wsV RX7 89 RX7 yX7_holds wsX7_holds) := goodIn_app (goodIn_of _ (by decide +kernel)) ggX7_append_X7_holds
theorem dX7_append_0 : decode cX7_append 0 = .ok (.aload_n 0, 1) := by decide +kernel
theorem dX7_append_1 : decode cX7_append 1 = .ok (.iload_n 1, 1) := by decide +kernel
theorem dX7_append_2 : decode cX7_append 2 = .ok (.i2l, 1) := by decide +kernel
theorem dX7_append_3 : decode cX7_append 3 = .ok (.lconst 0, 1) := by decide +kernel
theorem dX7_append_4 : decode cX7_append 4 = .ok (.ldc2_w 84, 3) := by decide +kernel
theorem dX7_append_7 : decode cX7_append 7 = .ok (.invokestatic 53, 3) := by decide +kernel
theorem dX7_append_10 : decode cX7_append 10 = .ok (.ifCond .ne 7, 3) := by decide +kernel
theorem dX7_append_13 : decode cX7_append 13 = .ok (.iconst 1, 1) := by decide +kernel
theorem dX7_append_14 : decode cX7_append 14 = .ok (.goto 17, 3) := by decide +kernel
theorem dX7_append_17 : decode cX7_append 17 = .ok (.aload_n 0, 1) := by decide +kernel
theorem dX7_append_18 : decode cX7_append 18 = .ok (.getfield 86, 3) := by decide +kernel
theorem dX7_append_21 : decode cX7_append 21 = .ok (.bipush 100, 2) := by decide +kernel
theorem dX7_append_23 : decode cX7_append 23 = .ok (.if_icmp .ne 7, 3) := by decide +kernel
theorem dX7_append_26 : decode cX7_append 26 = .ok (.iconst 2, 1) := by decide +kernel
theorem dX7_append_27 : decode cX7_append 27 = .ok (.goto 4, 3) := by decide +kernel
theorem dX7_append_30 : decode cX7_append 30 = .ok (.iconst 0, 1) := by decide +kernel
theorem dX7_append_31 : decode cX7_append 31 = .ok (.invokevirtual 89, 3) := by decide +kernel
theorem dX7_append_34 : decode cX7_append 34 = .ok (.ifCond .ne 5, 3) := by decide +kernel
theorem dX7_append_37 : decode cX7_append 37 = .ok (.iconst 0, 1) := by decide +kernel
theorem dX7_append_38 : decode cX7_append 38 = .ok (.ireturn, 1) := by decide +kernel
theorem dX7_append_39 : decode cX7_append 39 = .ok (.aload_n 0, 1) := by decide +kernel
theorem dX7_append_40 : decode cX7_append 40 = .ok (.getfield 26, 3) := by decide +kernel
theorem dX7_append_43 : decode cX7_append 43 = .ok (.aload_n 0, 1) := by decide +kernel
theorem dX7_append_44 : decode cX7_append 44 = .ok (.getfield 86, 3) := by decide +kernel
theorem dX7_append_47 : decode cX7_append 47 = .ok (.iload_n 1, 1) := by decide +kernel
theorem dX7_append_48 : decode cX7_append 48 = .ok (.i2b, 1) := by decide +kernel
theorem dX7_append_49 : decode cX7_append 49 = .ok (.bastore, 1) := by decide +kernel
theorem dX7_append_50 : decode cX7_append 50 = .ok (.aload_n 0, 1) := by decide +kernel
theorem dX7_append_51 : decode cX7_append 51 = .ok (.dup, 1) := by decide +kernel
theorem dX7_append_52 : decode cX7_append 52 = .ok (.getfield 86, 3) := by decide +kernel
theorem dX7_append_55 : decode cX7_append 55 = .ok (.iconst 1, 1) := by decide +kernel
theorem dX7_append_56 : decode cX7_append 56 = .ok (.iadd, 1) := by decide +kernel
theorem dX7_append_57 : decode cX7_append 57 = .ok (.putfield 86, 3) := by decide +kernel
theorem dX7_append_60 : decode cX7_append 60 = .ok (.aload_n 0, 1) := by decide +kernel
theorem dX7_append_61 : decode cX7_append 61 = .ok (.getfield 86, 3) := by decide +kernel
theorem dX7_append_64 : decode cX7_append 64 = .ok (.ireturn, 1) := by decide +kernel
theorem dX7_clearText_0 : decode cX7_clearText 0 = .ok (.aload_n 0, 1) := by decide +kernel
theorem dX7_clearText_1 : decode cX7_clearText 1 = .ok (.iconst 0, 1) := by decide +kernel
theorem dX7_clearText_2 : decode cX7_clearText 2 = .ok (.putfield 30, 3) := by decide +kernel
theorem dX7_clearText_5 : decode cX7_clearText 5 = .ok (.aload_n 0, 1) := by decide +kernel
theorem dX7_clearText_6 : decode cX7_clearText 6 = .ok (.getfield 86, 3) := by decide +kernel
theorem dX7_clearText_9 : decode cX7_clearText 9 = .ok (.istore_n 1, 1) := by decide +kernel
theorem dX7_clearText_10 : decode cX7_clearText 10 = .ok (.aload_n 0, 1) := by decide +kernel
theorem dX7_clearText_11 : decode cX7_clearText 11 = .ok (.iconst 0, 1) := by decide +kernel
theorem dX7_clearText_12 : decode cX7_clearText 12 = .ok (.putfield 86, 3) := by decide +kernel
theorem dX7_clearText_15 : decode cX7_clearText 15 = .ok (.iload_n 1, 1) := by decide +kernel
theorem dX7_clearText_16 : decode cX7_clearText 16 = .ok (.ireturn, 1) := by decide +kernel
set_option maxRecDepth 20000 in
theorem ggX7_faultOf_X7_in : GoodIn wsX7_faultOf wsX7_in := goodIn_r _ [8] (by decide +kernel) (by decide +kernel)
set_option maxRecDepth 20000 in
theorem gX7_faultOf_X7_in : GoodIn wsX7_faultOf (va_wsS RX7 53 yX7_in wsX7_in) := goodIn_app (goodIn_of _ (by decide +kernel)) ggX7_faultOf_X7_in
theorem dX7_faultOf_0 : decode cX7_faultOf 0 = .ok (.iconst 0, 1) := by decide +kernel
theorem dX7_faultOf_1 : decode cX7_faultOf 1 = .ok (.istore_n 2, 1) := by decide +kernel
theorem dX7_faultOf_2 : decode cX7_faultOf 2 = .ok (.iload_n 2, 1) := by decide +kernel
theorem dX7_faultOf_3 : decode cX7_faultOf 3 = .ok (.aload_n 0, 1) := by decide +kernel
theorem dX7_faultOf_4 : decode cX7_faultOf 4 = .ok (.getfield 86, 3) := by decide +kernel
theorem dX7_faultOf_7 : decode cX7_faultOf 7 = .ok (.if_icmp .ge 94, 3) := by decide +kernel
theorem dX7_faultOf_10 : decode cX7_faultOf 10 = .ok (.aload_n 0, 1) := by decide +kernel
theorem dX7_faultOf_11 : decode cX7_faultOf 11 = .ok (.getfield 26, 3) := by decide +kernel
theorem dX7_faultOf_14 : decode cX7_faultOf 14 = .ok (.iload_n 2, 1) := by decide +kernel
theorem dX7_faultOf_15 : decode cX7_faultOf 15 = .ok (.baload, 1) := by decide +kernel
theorem dX7_faultOf_16 : decode cX7_faultOf 16 = .ok (.istore_n 3, 1) := by decide +kernel
theorem dX7_faultOf_17 : decode cX7_faultOf 17 = .ok (.iload_n 1, 1) := by decide +kernel
theorem dX7_faultOf_18 : decode cX7_faultOf 18 = .ok (.ifCond .eq 36, 3) := by decide +kernel
theorem dX7_faultOf_21 : decode cX7_faultOf 21 = .ok (.iload_n 2, 1) := by decide +kernel
theorem dX7_faultOf_22 : decode cX7_faultOf 22 = .ok (.iconst 3, 1) := by decide +kernel
theorem dX7_faultOf_23 : decode cX7_faultOf 23 = .ok (.if_icmp .ge 27, 3) := by decide +kernel
theorem dX7_faultOf_26 : decode cX7_faultOf 26 = .ok (.iload_n 3, 1) := by decide +kernel
theorem dX7_faultOf_27 : decode cX7_faultOf 27 = .ok (.i2l, 1) := by decide +kernel
theorem dX7_faultOf_28 : decode cX7_faultOf 28 = .ok (.ldc2_w 93, 3) := by decide +kernel
theorem dX7_faultOf_31 : decode cX7_faultOf 31 = .ok (.ldc2_w 95, 3) := by decide +kernel
theorem dX7_faultOf_34 : decode cX7_faultOf 34 = .ok (.invokestatic 53, 3) := by decide +kernel
theorem dX7_faultOf_37 : decode cX7_faultOf 37 = .ok (.ifCond .ne 9, 3) := by decide +kernel
theorem dX7_faultOf_40 : decode cX7_faultOf 40 = .ok (.iload_n 3, 1) := by decide +kernel
theorem dX7_faultOf_41 : decode cX7_faultOf 41 = .ok (.bipush 42, 2) := by decide +kernel
theorem dX7_faultOf_43 : decode cX7_faultOf 43 = .ok (.if_icmp .ne 7, 3) := by decide +kernel
theorem dX7_faultOf_46 : decode cX7_faultOf 46 = .ok (.iconst 1, 1) := by decide +kernel
theorem dX7_faultOf_47 : decode cX7_faultOf 47 = .ok (.goto 39, 3) := by decide +kernel
theorem dX7_faultOf_50 : decode cX7_faultOf 50 = .ok (.iconst 0, 1) := by decide +kernel
theorem dX7_faultOf_51 : decode cX7_faultOf 51 = .ok (.goto 35, 3) := by decide +kernel
theorem dX7_faultOf_54 : decode cX7_faultOf 54 = .ok (.iload_n 2, 1) := by decide +kernel
theorem dX7_faultOf_55 : decode cX7_faultOf 55 = .ok (.iconst 4, 1) := by decide +kernel
theorem dX7_faultOf_56 : decode cX7_faultOf 56 = .ok (.irem, 1) := by decide +kernel
theorem dX7_faultOf_57 : decode cX7_faultOf 57 = .ok (.iconst 3, 1) := by decide +kernel
theorem dX7_faultOf_58 : decode cX7_faultOf 58 = .ok (.if_icmp .ne 17, 3) := by decide +kernel
theorem dX7_faultOf_61 : decode cX7_faultOf 61 = .ok (.iload_n 3, 1) := by decide +kernel
theorem dX7_faultOf_62 : decode cX7_faultOf 62 = .ok (.bipush 44, 2) := by decide +kernel
theorem dX7_faultOf_64 : decode cX7_faultOf 64 = .ok (.if_icmp .ne 7, 3) := by decide +kernel
theorem dX7_faultOf_67 : decode cX7_faultOf 67 = .ok (.iconst 1, 1) := by decide +kernel
theorem dX7_faultOf_68 : decode cX7_faultOf 68 = .ok (.goto 18, 3) := by decide +kernel
theorem dX7_faultOf_71 : decode cX7_faultOf 71 = .ok (.iconst 0, 1) := by decide +kernel
theorem dX7_faultOf_72 : decode cX7_faultOf 72 = .ok (.goto 14, 3) := by decide +kernel
theorem dX7_faultOf_75 : decode cX7_faultOf 75 = .ok (.iload_n 3, 1) := by decide +kernel
theorem dX7_faultOf_76 : decode cX7_faultOf 76 = .ok (.i2l, 1) := by decide +kernel
theorem dX7_faultOf_77 : decode cX7_faultOf 77 = .ok (.ldc2_w 93, 3) := by decide +kernel
theorem dX7_faultOf_80 : decode cX7_faultOf 80 = .ok (.ldc2_w 95, 3) := by decide +kernel
theorem dX7_faultOf_83 : decode cX7_faultOf 83 = .ok (.invokestatic 53, 3) := by decide +kernel
theorem dX7_faultOf_86 : decode cX7_faultOf 86 = .ok (.istore 4, 2) := by decide +kernel
theorem dX7_faultOf_88 : decode cX7_faultOf 88 = .ok (.iload 4, 2) := by decide +kernel
theorem dX7_faultOf_90 : decode cX7_faultOf 90 = .ok (.ifCond .ne 5, 3) := by decide +kernel
theorem dX7_faultOf_93 : decode cX7_faultOf 93 = .ok (.iload_n 2, 1) := by decide +kernel
theorem dX7_faultOf_94 : decode cX7_faultOf 94 = .ok (.ireturn, 1) := by decide +kernel
theorem dX7_faultOf_95 : decode cX7_faultOf 95 = .ok (.iinc 2 1, 3) := by decide +kernel
theorem dX7_faultOf_98 : decode cX7_faultOf 98 = .ok (.goto (-96), 3) := by decide +kernel
theorem dX7_faultOf_101 : decode cX7_faultOf 101 = .ok (.iload_n 1, 1) := by decide +kernel
theorem dX7_faultOf_102 : decode cX7_faultOf 102 = .ok (.ifCond .eq 22, 3) := by decide +kernel
theorem dX7_faultOf_105 : decode cX7_faultOf 105 = .ok (.aload_n 0, 1) := by decide +kernel
theorem dX7_faultOf_106 : decode cX7_faultOf 106 = .ok (.getfield 86, 3) := by decide +kernel
theorem dX7_faultOf_109 : decode cX7_faultOf 109 = .ok (.iconst 3, 1) := by decide +kernel
theorem dX7_faultOf_110 : decode cX7_faultOf 110 = .ok (.if_icmp .ne 7, 3) := by decide +kernel
theorem dX7_faultOf_113 : decode cX7_faultOf 113 = .ok (.iconst (-1), 1) := by decide +kernel
theorem dX7_faultOf_114 : decode cX7_faultOf 114 = .ok (.goto 28, 3) := by decide +kernel
theorem dX7_faultOf_117 : decode cX7_faultOf 117 = .ok (.aload_n 0, 1) := by decide +kernel
theorem dX7_faultOf_118 : decode cX7_faultOf 118 = .ok (.getfield 86, 3) := by decide +kernel
theorem dX7_faultOf_121 : decode cX7_faultOf 121 = .ok (.goto 21, 3) := by decide +kernel
theorem dX7_faultOf_124 : decode cX7_faultOf 124 = .ok (.aload_n 0, 1) := by decide +kernel
theorem dX7_faultOf_125 : decode cX7_faultOf 125 = .ok (.getfield 86, 3) := by decide +kernel
theorem dX7_faultOf_128 : decode cX7_faultOf 128 = .ok (.iconst 4, 1) := by decide +kernel
theorem dX7_faultOf_129 : decode cX7_faultOf 129 = .ok (.irem, 1) := by decide +kernel
theorem dX7_faultOf_130 : decode cX7_faultOf 130 = .ok (.iconst 3, 1) := by decide +kernel
theorem dX7_faultOf_131 : decode cX7_faultOf 131 = .ok (.if_icmp .ne 7, 3) := by decide +kernel
theorem dX7_faultOf_134 : decode cX7_faultOf 134 = .ok (.iconst (-1), 1) := by decide +kernel
theorem dX7_faultOf_135 : decode cX7_faultOf 135 = .ok (.goto 7, 3) := by decide +kernel
theorem dX7_faultOf_138 : decode cX7_faultOf 138 = .ok (.aload_n 0, 1) := by decide +kernel
theorem dX7_faultOf_139 : decode cX7_faultOf 139 = .ok (.getfield 86, 3) := by decide +kernel
theorem dX7_faultOf_142 : decode cX7_faultOf 142 = .ok (.ireturn, 1) := by decide +kernel
set_option maxRecDepth 20000 in
theorem ggX7_errorPosition_X7_faultOf : GoodIn wsX7_errorPosition wsX7_faultOf := goodIn_r _ [6, 7, 8, 9, 10, 11, 12, 5, 13, 14, 15, 16, 17, 18, 19, 20, 21, 22] (by decide +kernel) (by decide +kernel)
set_option maxRecDepth 20000 in
theorem gX7_errorPosition_X7_faultOf : GoodIn wsX7_errorPosition (wsV RX7 97 RX7 yX7_faultOf wsX7_faultOf) := goodIn_app (goodIn_of _ (by decide +kernel)) ggX7_errorPosition_X7_faultOf
theorem dX7_errorPosition_0 : decode cX7_errorPosition 0 = .ok (.aload_n 0, 1) := by decide +kernel
theorem dX7_errorPosition_1 : decode cX7_errorPosition 1 = .ok (.iconst 0, 1) := by decide +kernel
theorem dX7_errorPosition_2 : decode cX7_errorPosition 2 = .ok (.putfield 30, 3) := by decide +kernel
theorem dX7_errorPosition_5 : decode cX7_errorPosition 5 = .ok (.aload_n 0, 1) := by decide +kernel
theorem dX7_errorPosition_6 : decode cX7_errorPosition 6 = .ok (.iload_n 1, 1) := by decide +kernel
theorem dX7_errorPosition_7 : decode cX7_errorPosition 7 = .ok (.invokevirtual 97, 3) := by decide +kernel
theorem dX7_errorPosition_10 : decode cX7_errorPosition 10 = .ok (.ireturn, 1) := by decide +kernel
set_option maxRecDepth 20000 in
theorem ggX7_question_X7_faultOf : GoodIn wsX7_question wsX7_faultOf := goodIn_r _ [6, 7, 1, 8, 9, 10, 11, 5, 12, 18, 19, 20, 21, 22, 23, 24, 25, 26] (by decide +kernel) (by decide +kernel)
set_option maxRecDepth 20000 in
theorem gX7_question_X7_faultOf : GoodIn wsX7_question (wsV RX7 97 RX7 yX7_faultOf wsX7_faultOf) := goodIn_app (goodIn_of _ (by decide +kernel)) ggX7_question_X7_faultOf
set_option maxRecDepth 20000 in
theorem ggX7_question_X7_holds : GoodIn wsX7_question wsX7_holds := goodIn_r _ [16, 17, 18, 19, 20, 21, 22, 23, 24, 25, 26] (by decide +kernel) (by decide +kernel)
set_option maxRecDepth 20000 in
theorem gX7_question_X7_holds : GoodIn wsX7_question (wsV RX7 89 RX7 yX7_holds wsX7_holds) := goodIn_app (goodIn_of _ (by decide +kernel)) ggX7_question_X7_holds
theorem dX7_question_0 : decode cX7_question 0 = .ok (.aload_n 0, 1) := by decide +kernel
theorem dX7_question_1 : decode cX7_question 1 = .ok (.aload_n 0, 1) := by decide +kernel
theorem dX7_question_2 : decode cX7_question 2 = .ok (.iconst 1, 1) := by decide +kernel
theorem dX7_question_3 : decode cX7_question 3 = .ok (.invokevirtual 97, 3) := by decide +kernel
theorem dX7_question_6 : decode cX7_question 6 = .ok (.iconst (-1), 1) := by decide +kernel
theorem dX7_question_7 : decode cX7_question 7 = .ok (.if_icmp .ne 7, 3) := by decide +kernel
theorem dX7_question_10 : decode cX7_question 10 = .ok (.iconst 0, 1) := by decide +kernel
theorem dX7_question_11 : decode cX7_question 11 = .ok (.goto 4, 3) := by decide +kernel
theorem dX7_question_14 : decode cX7_question 14 = .ok (.iconst 1, 1) := by decide +kernel
theorem dX7_question_15 : decode cX7_question 15 = .ok (.invokevirtual 89, 3) := by decide +kernel
theorem dX7_question_18 : decode cX7_question 18 = .ok (.ifCond .ne 5, 3) := by decide +kernel
theorem dX7_question_21 : decode cX7_question 21 = .ok (.iconst 0, 1) := by decide +kernel
theorem dX7_question_22 : decode cX7_question 22 = .ok (.ireturn, 1) := by decide +kernel
theorem dX7_question_23 : decode cX7_question 23 = .ok (.iconst 0, 1) := by decide +kernel
theorem dX7_question_24 : decode cX7_question 24 = .ok (.istore_n 1, 1) := by decide +kernel
theorem dX7_question_25 : decode cX7_question 25 = .ok (.iconst 0, 1) := by decide +kernel
theorem dX7_question_26 : decode cX7_question 26 = .ok (.istore_n 2, 1) := by decide +kernel
theorem dX7_question_27 : decode cX7_question 27 = .ok (.iload_n 2, 1) := by decide +kernel
theorem dX7_question_28 : decode cX7_question 28 = .ok (.iconst 3, 1) := by decide +kernel
theorem dX7_question_29 : decode cX7_question 29 = .ok (.if_icmp .ge 40, 3) := by decide +kernel
theorem dX7_question_32 : decode cX7_question 32 = .ok (.bipush 11, 2) := by decide +kernel
theorem dX7_question_34 : decode cX7_question 34 = .ok (.iload_n 1, 1) := by decide +kernel
theorem dX7_question_35 : decode cX7_question 35 = .ok (.imul, 1) := by decide +kernel
theorem dX7_question_36 : decode cX7_question 36 = .ok (.aload_n 0, 1) := by decide +kernel
theorem dX7_question_37 : decode cX7_question 37 = .ok (.getfield 26, 3) := by decide +kernel
theorem dX7_question_40 : decode cX7_question 40 = .ok (.iload_n 2, 1) := by decide +kernel
theorem dX7_question_41 : decode cX7_question 41 = .ok (.baload, 1) := by decide +kernel
theorem dX7_question_42 : decode cX7_question 42 = .ok (.bipush 42, 2) := by decide +kernel
theorem dX7_question_44 : decode cX7_question 44 = .ok (.if_icmp .ne 8, 3) := by decide +kernel
theorem dX7_question_47 : decode cX7_question 47 = .ok (.bipush 10, 2) := by decide +kernel
theorem dX7_question_49 : decode cX7_question 49 = .ok (.goto 12, 3) := by decide +kernel
theorem dX7_question_52 : decode cX7_question 52 = .ok (.aload_n 0, 1) := by decide +kernel
theorem dX7_question_53 : decode cX7_question 53 = .ok (.getfield 26, 3) := by decide +kernel
theorem dX7_question_56 : decode cX7_question 56 = .ok (.iload_n 2, 1) := by decide +kernel
theorem dX7_question_57 : decode cX7_question 57 = .ok (.baload, 1) := by decide +kernel
theorem dX7_question_58 : decode cX7_question 58 = .ok (.bipush 48, 2) := by decide +kernel
theorem dX7_question_60 : decode cX7_question 60 = .ok (.isub, 1) := by decide +kernel
theorem dX7_question_61 : decode cX7_question 61 = .ok (.iadd, 1) := by decide +kernel
theorem dX7_question_62 : decode cX7_question 62 = .ok (.istore_n 1, 1) := by decide +kernel
theorem dX7_question_63 : decode cX7_question 63 = .ok (.iinc 2 1, 3) := by decide +kernel
theorem dX7_question_66 : decode cX7_question 66 = .ok (.goto (-39), 3) := by decide +kernel
theorem dX7_question_69 : decode cX7_question 69 = .ok (.iload_n 1, 1) := by decide +kernel
theorem dX7_question_70 : decode cX7_question 70 = .ok (.ireturn, 1) := by decide +kernel
set_option maxRecDepth 20000 in
theorem ggX7_about_X7_in : GoodIn wsX7_about wsX7_in := goodIn_r _ [6] (by decide +kernel) (by decide +kernel)
set_option maxRecDepth 20000 in
theorem gX7_about_X7_in : GoodIn wsX7_about (va_wsS RX7 53 yX7_in wsX7_in) := goodIn_app (goodIn_of _ (by decide +kernel)) ggX7_about_X7_in
set_option maxRecDepth 20000 in
theorem ggX7_about_X7_holds : GoodIn wsX7_about wsX7_holds := goodIn_r _ [10, 11, 15, 16, 17, 18, 19, 20, 21, 22, 23] (by decide +kernel) (by decide +kernel)
set_option maxRecDepth 20000 in
theorem gX7_about_X7_holds : GoodIn wsX7_about (wsV RX7 89 RX7 yX7_holds wsX7_holds) := goodIn_app (goodIn_of _ (by decide +kernel)) ggX7_about_X7_holds
set_option maxRecDepth 20000 in
theorem ggX7_about_X7_look : GoodIn wsX7_about wsX7_look := goodIn_r _ [14] (by decide +kernel) (by decide +kernel)
set_option maxRecDepth 20000 in
theorem gX7_about_X7_look : GoodIn wsX7_about (va_wsS RX7 65 yX7_look wsX7_look) := goodIn_app (goodIn_of _ (by decide +kernel)) ggX7_about_X7_look
theorem dX7_about_0 : decode cX7_about 0 = .ok (.aload_n 0, 1) := by decide +kernel
theorem dX7_about_1 : decode cX7_about 1 = .ok (.iload_n 1, 1) := by decide +kernel
theorem dX7_about_2 : decode cX7_about 2 = .ok (.i2l, 1) := by decide +kernel
theorem dX7_about_3 : decode cX7_about 3 = .ok (.lconst 0, 1) := by decide +kernel
theorem dX7_about_4 : decode cX7_about 4 = .ok (.ldc2_w 101, 3) := by decide +kernel
theorem dX7_about_7 : decode cX7_about 7 = .ok (.invokestatic 53, 3) := by decide +kernel
theorem dX7_about_10 : decode cX7_about 10 = .ok (.ifCond .eq 7, 3) := by decide +kernel
theorem dX7_about_13 : decode cX7_about 13 = .ok (.iconst 0, 1) := by decide +kernel
theorem dX7_about_14 : decode cX7_about 14 = .ok (.goto 4, 3) := by decide +kernel
theorem dX7_about_17 : decode cX7_about 17 = .ok (.iconst 1, 1) := by decide +kernel
theorem dX7_about_18 : decode cX7_about 18 = .ok (.invokevirtual 89, 3) := by decide +kernel
theorem dX7_about_21 : decode cX7_about 21 = .ok (.ifCond .ne 5, 3) := by decide +kernel
theorem dX7_about_24 : decode cX7_about 24 = .ok (.iconst 0, 1) := by decide +kernel
theorem dX7_about_25 : decode cX7_about 25 = .ok (.ireturn, 1) := by decide +kernel
theorem dX7_about_26 : decode cX7_about 26 = .ok (.iload_n 1, 1) := by decide +kernel
theorem dX7_about_27 : decode cX7_about 27 = .ok (.ifCond .ne 12, 3) := by decide +kernel
theorem dX7_about_30 : decode cX7_about 30 = .ok (.aload_n 0, 1) := by decide +kernel
theorem dX7_about_31 : decode cX7_about 31 = .ok (.getfield 7, 3) := by decide +kernel
theorem dX7_about_34 : decode cX7_about 34 = .ok (.iconst 0, 1) := by decide +kernel
theorem dX7_about_35 : decode cX7_about 35 = .ok (.iaload, 1) := by decide +kernel
theorem dX7_about_36 : decode cX7_about 36 = .ok (.goto 32, 3) := by decide +kernel
theorem dX7_about_39 : decode cX7_about 39 = .ok (.iload_n 1, 1) := by decide +kernel
theorem dX7_about_40 : decode cX7_about 40 = .ok (.bipush 7, 2) := by decide +kernel
theorem dX7_about_42 : decode cX7_about 42 = .ok (.if_icmp .ne 15, 3) := by decide +kernel
theorem dX7_about_45 : decode cX7_about 45 = .ok (.aload_n 0, 1) := by decide +kernel
theorem dX7_about_46 : decode cX7_about 46 = .ok (.getfield 7, 3) := by decide +kernel
theorem dX7_about_49 : decode cX7_about 49 = .ok (.iconst 0, 1) := by decide +kernel
theorem dX7_about_50 : decode cX7_about 50 = .ok (.iaload, 1) := by decide +kernel
theorem dX7_about_51 : decode cX7_about 51 = .ok (.invokestatic 65, 3) := by decide +kernel
theorem dX7_about_54 : decode cX7_about 54 = .ok (.goto 14, 3) := by decide +kernel
theorem dX7_about_57 : decode cX7_about 57 = .ok (.aload_n 0, 1) := by decide +kernel
theorem dX7_about_58 : decode cX7_about 58 = .ok (.getfield 7, 3) := by decide +kernel
theorem dX7_about_61 : decode cX7_about 61 = .ok (.bipush 41, 2) := by decide +kernel
theorem dX7_about_63 : decode cX7_about 63 = .ok (.iload_n 1, 1) := by decide +kernel
theorem dX7_about_64 : decode cX7_about 64 = .ok (.iadd, 1) := by decide +kernel
theorem dX7_about_65 : decode cX7_about 65 = .ok (.iconst 1, 1) := by decide +kernel
theorem dX7_about_66 : decode cX7_about 66 = .ok (.isub, 1) := by decide +kernel
theorem dX7_about_67 : decode cX7_about 67 = .ok (.iaload, 1) := by decide +kernel
theorem dX7_about_68 : decode cX7_about 68 = .ok (.ireturn, 1) := by decide +kernel
set_option maxRecDepth 20000 in
theorem ggX7_ith_X7_isAnswer : GoodIn wsX7_ith wsX7_isAnswer := goodIn_r _ [5, 6, 7, 4, 8, 9, 10, 11, 12, 13, 14] (by decide +kernel) (by decide +kernel)
set_option maxRecDepth 20000 in
theorem gX7_ith_X7_isAnswer : GoodIn wsX7_ith (va_wsS RX7 59 yX7_isAnswer wsX7_isAnswer) := goodIn_app (goodIn_of _ (by decide +kernel)) ggX7_ith_X7_isAnswer
set_option maxRecDepth 20000 in
theorem ggX7_ith_X7_keyOf : GoodIn wsX7_ith wsX7_keyOf := goodIn_r _ [17, 18, 19, 4, 20, 12, 13, 14] (by decide +kernel) (by decide +kernel)
set_option maxRecDepth 20000 in
theorem gX7_ith_X7_keyOf : GoodIn wsX7_ith (va_wsS RX7 103 yX7_keyOf wsX7_keyOf) := goodIn_app (goodIn_of _ (by decide +kernel)) ggX7_ith_X7_keyOf
theorem dX7_ith_0 : decode cX7_ith 0 = .ok (.iconst 0, 1) := by decide +kernel
theorem dX7_ith_1 : decode cX7_ith 1 = .ok (.istore 4, 2) := by decide +kernel
theorem dX7_ith_3 : decode cX7_ith 3 = .ok (.iconst 0, 1) := by decide +kernel
theorem dX7_ith_4 : decode cX7_ith 4 = .ok (.istore 5, 2) := by decide +kernel
theorem dX7_ith_6 : decode cX7_ith 6 = .ok (.iload 5, 2) := by decide +kernel
theorem dX7_ith_8 : decode cX7_ith 8 = .ok (.aload_n 0, 1) := by decide +kernel
theorem dX7_ith_9 : decode cX7_ith 9 = .ok (.getfield 7, 3) := by decide +kernel
theorem dX7_ith_12 : decode cX7_ith 12 = .ok (.iconst 0, 1) := by decide +kernel
theorem dX7_ith_13 : decode cX7_ith 13 = .ok (.iaload, 1) := by decide +kernel
theorem dX7_ith_14 : decode cX7_ith 14 = .ok (.if_icmp .ge 130, 3) := by decide +kernel
theorem dX7_ith_17 : decode cX7_ith 17 = .ok (.aload_n 0, 1) := by decide +kernel
theorem dX7_ith_18 : decode cX7_ith 18 = .ok (.getfield 7, 3) := by decide +kernel
theorem dX7_ith_21 : decode cX7_ith 21 = .ok (.iconst 1, 1) := by decide +kernel
theorem dX7_ith_22 : decode cX7_ith 22 = .ok (.iload 5, 2) := by decide +kernel
theorem dX7_ith_24 : decode cX7_ith 24 = .ok (.iadd, 1) := by decide +kernel
theorem dX7_ith_25 : decode cX7_ith 25 = .ok (.iaload, 1) := by decide +kernel
theorem dX7_ith_26 : decode cX7_ith 26 = .ok (.istore 6, 2) := by decide +kernel
theorem dX7_ith_28 : decode cX7_ith 28 = .ok (.iload 4, 2) := by decide +kernel
theorem dX7_ith_30 : decode cX7_ith 30 = .ok (.istore 7, 2) := by decide +kernel
theorem dX7_ith_32 : decode cX7_ith 32 = .ok (.iconst 0, 1) := by decide +kernel
theorem dX7_ith_33 : decode cX7_ith 33 = .ok (.istore 8, 2) := by decide +kernel
theorem dX7_ith_35 : decode cX7_ith 35 = .ok (.iload 8, 2) := by decide +kernel
theorem dX7_ith_37 : decode cX7_ith 37 = .ok (.aload_n 0, 1) := by decide +kernel
theorem dX7_ith_38 : decode cX7_ith 38 = .ok (.getfield 7, 3) := by decide +kernel
theorem dX7_ith_41 : decode cX7_ith 41 = .ok (.iconst 0, 1) := by decide +kernel
theorem dX7_ith_42 : decode cX7_ith 42 = .ok (.iaload, 1) := by decide +kernel
theorem dX7_ith_43 : decode cX7_ith 43 = .ok (.if_icmp .ge 62, 3) := by decide +kernel
theorem dX7_ith_46 : decode cX7_ith 46 = .ok (.iload_n 2, 1) := by decide +kernel
theorem dX7_ith_47 : decode cX7_ith 47 = .ok (.iconst (-1), 1) := by decide +kernel
theorem dX7_ith_48 : decode cX7_ith 48 = .ok (.if_icmp .eq 57, 3) := by decide +kernel
theorem dX7_ith_51 : decode cX7_ith 51 = .ok (.iload 7, 2) := by decide +kernel
theorem dX7_ith_53 : decode cX7_ith 53 = .ok (.iload_n 1, 1) := by decide +kernel
theorem dX7_ith_54 : decode cX7_ith 54 = .ok (.aload_n 0, 1) := by decide +kernel
theorem dX7_ith_55 : decode cX7_ith 55 = .ok (.getfield 7, 3) := by decide +kernel
theorem dX7_ith_58 : decode cX7_ith 58 = .ok (.iconst 1, 1) := by decide +kernel
theorem dX7_ith_59 : decode cX7_ith 59 = .ok (.iload 8, 2) := by decide +kernel
theorem dX7_ith_61 : decode cX7_ith 61 = .ok (.iadd, 1) := by decide +kernel
theorem dX7_ith_62 : decode cX7_ith 62 = .ok (.iaload, 1) := by decide +kernel
theorem dX7_ith_63 : decode cX7_ith 63 = .ok (.invokestatic 59, 3) := by decide +kernel
theorem dX7_ith_66 : decode cX7_ith 66 = .ok (.ifCond .eq 29, 3) := by decide +kernel
theorem dX7_ith_69 : decode cX7_ith 69 = .ok (.aload_n 0, 1) := by decide +kernel
theorem dX7_ith_70 : decode cX7_ith 70 = .ok (.getfield 7, 3) := by decide +kernel
theorem dX7_ith_73 : decode cX7_ith 73 = .ok (.iconst 1, 1) := by decide +kernel
theorem dX7_ith_74 : decode cX7_ith 74 = .ok (.iload 8, 2) := by decide +kernel
theorem dX7_ith_76 : decode cX7_ith 76 = .ok (.iadd, 1) := by decide +kernel
theorem dX7_ith_77 : decode cX7_ith 77 = .ok (.iaload, 1) := by decide +kernel
theorem dX7_ith_78 : decode cX7_ith 78 = .ok (.iload_n 2, 1) := by decide +kernel
theorem dX7_ith_79 : decode cX7_ith 79 = .ok (.invokestatic 103, 3) := by decide +kernel
theorem dX7_ith_82 : decode cX7_ith 82 = .ok (.iload 6, 2) := by decide +kernel
theorem dX7_ith_84 : decode cX7_ith 84 = .ok (.iload_n 2, 1) := by decide +kernel
theorem dX7_ith_85 : decode cX7_ith 85 = .ok (.invokestatic 103, 3) := by decide +kernel
theorem dX7_ith_88 : decode cX7_ith 88 = .ok (.if_icmp .ge 7, 3) := by decide +kernel
theorem dX7_ith_91 : decode cX7_ith 91 = .ok (.iconst 1, 1) := by decide +kernel
theorem dX7_ith_92 : decode cX7_ith 92 = .ok (.goto 4, 3) := by decide +kernel
theorem dX7_ith_95 : decode cX7_ith 95 = .ok (.iconst 0, 1) := by decide +kernel
theorem dX7_ith_96 : decode cX7_ith 96 = .ok (.iadd, 1) := by decide +kernel
theorem dX7_ith_97 : decode cX7_ith 97 = .ok (.istore 7, 2) := by decide +kernel
theorem dX7_ith_99 : decode cX7_ith 99 = .ok (.iinc 8 1, 3) := by decide +kernel
theorem dX7_ith_102 : decode cX7_ith 102 = .ok (.goto (-67), 3) := by decide +kernel
theorem dX7_ith_105 : decode cX7_ith 105 = .ok (.iload_n 1, 1) := by decide +kernel
theorem dX7_ith_106 : decode cX7_ith 106 = .ok (.iload 6, 2) := by decide +kernel
theorem dX7_ith_108 : decode cX7_ith 108 = .ok (.invokestatic 59, 3) := by decide +kernel
theorem dX7_ith_111 : decode cX7_ith 111 = .ok (.ifCond .eq 27, 3) := by decide +kernel
theorem dX7_ith_114 : decode cX7_ith 114 = .ok (.iload 7, 2) := by decide +kernel
theorem dX7_ith_116 : decode cX7_ith 116 = .ok (.iload_n 2, 1) := by decide +kernel
theorem dX7_ith_117 : decode cX7_ith 117 = .ok (.iconst (-1), 1) := by decide +kernel
theorem dX7_ith_118 : decode cX7_ith 118 = .ok (.if_icmp .ne 7, 3) := by decide +kernel
theorem dX7_ith_121 : decode cX7_ith 121 = .ok (.iconst 0, 1) := by decide +kernel
theorem dX7_ith_122 : decode cX7_ith 122 = .ok (.goto 5, 3) := by decide +kernel
theorem dX7_ith_125 : decode cX7_ith 125 = .ok (.iload 4, 2) := by decide +kernel
theorem dX7_ith_127 : decode cX7_ith 127 = .ok (.isub, 1) := by decide +kernel
theorem dX7_ith_128 : decode cX7_ith 128 = .ok (.iload_n 3, 1) := by decide +kernel
theorem dX7_ith_129 : decode cX7_ith 129 = .ok (.if_icmp .ne 6, 3) := by decide +kernel
theorem dX7_ith_132 : decode cX7_ith 132 = .ok (.iload 6, 2) := by decide +kernel
theorem dX7_ith_134 : decode cX7_ith 134 = .ok (.ireturn, 1) := by decide +kernel
theorem dX7_ith_135 : decode cX7_ith 135 = .ok (.iinc 4 1, 3) := by decide +kernel
theorem dX7_ith_138 : decode cX7_ith 138 = .ok (.iinc 5 1, 3) := by decide +kernel
theorem dX7_ith_141 : decode cX7_ith 141 = .ok (.goto (-135), 3) := by decide +kernel
theorem dX7_ith_144 : decode cX7_ith 144 = .ok (.iconst (-1), 1) := by decide +kernel
theorem dX7_ith_145 : decode cX7_ith 145 = .ok (.ireturn, 1) := by decide +kernel
set_option maxRecDepth 20000 in
theorem ggX7_triple_X7_isOrder : GoodIn wsX7_triple wsX7_isOrder := goodIn_r _ [4, 5, 6, 7, 3, 8] (by decide +kernel) (by decide +kernel)
set_option maxRecDepth 20000 in
theorem gX7_triple_X7_isOrder : GoodIn wsX7_triple (va_wsS RX7 106 yX7_isOrder wsX7_isOrder) := goodIn_app (goodIn_of _ (by decide +kernel)) ggX7_triple_X7_isOrder
set_option maxRecDepth 20000 in
theorem ggX7_triple_X7_holds : GoodIn wsX7_triple wsX7_holds := goodIn_r _ [12, 13, 37, 38, 39, 40, 41, 42, 43, 44, 45] (by decide +kernel) (by decide +kernel)
set_option maxRecDepth 20000 in
theorem gX7_triple_X7_holds : GoodIn wsX7_triple (wsV RX7 89 RX7 yX7_holds wsX7_holds) := goodIn_app (goodIn_of _ (by decide +kernel)) ggX7_triple_X7_holds
set_option maxRecDepth 20000 in
theorem ggX7_triple_X7_ith : GoodIn wsX7_triple wsX7_ith := goodIn_r _ [17, 18, 19, 20, 3, 21, 22, 23, 24, 25, 26, 27, 28, 29, 30, 31, 32, 33, 34, 35, 36, 37, 38, 39, 40, 41, 42, 43, 44, 45] (by decide +kernel) (by decide +kernel)
set_option maxRecDepth 20000 in
theorem gX7_triple_X7_ith : GoodIn wsX7_triple (wsV RX7 109 RX7 yX7_ith wsX7_ith) := goodIn_app (goodIn_of _ (by decide +kernel)) ggX7_triple_X7_ith
theorem dX7_triple_0 : decode cX7_triple 0 = .ok (.aload_n 0, 1) := by decide +kernel
theorem dX7_triple_1 : decode cX7_triple 1 = .ok (.iload_n 1, 1) := by decide +kernel
theorem dX7_triple_2 : decode cX7_triple 2 = .ok (.iconst (-1), 1) := by decide +kernel
theorem dX7_triple_3 : decode cX7_triple 3 = .ok (.if_icmp .eq 14, 3) := by decide +kernel
theorem dX7_triple_6 : decode cX7_triple 6 = .ok (.iload_n 1, 1) := by decide +kernel
theorem dX7_triple_7 : decode cX7_triple 7 = .ok (.invokestatic 106, 3) := by decide +kernel
theorem dX7_triple_10 : decode cX7_triple 10 = .ok (.ifCond .ne 7, 3) := by decide +kernel
theorem dX7_triple_13 : decode cX7_triple 13 = .ok (.iconst 1, 1) := by decide +kernel
theorem dX7_triple_14 : decode cX7_triple 14 = .ok (.goto 12, 3) := by decide +kernel
theorem dX7_triple_17 : decode cX7_triple 17 = .ok (.iload_n 2, 1) := by decide +kernel
theorem dX7_triple_18 : decode cX7_triple 18 = .ok (.ifCond .ge 7, 3) := by decide +kernel
theorem dX7_triple_21 : decode cX7_triple 21 = .ok (.iconst 2, 1) := by decide +kernel
theorem dX7_triple_22 : decode cX7_triple 22 = .ok (.goto 4, 3) := by decide +kernel
theorem dX7_triple_25 : decode cX7_triple 25 = .ok (.iconst 0, 1) := by decide +kernel
theorem dX7_triple_26 : decode cX7_triple 26 = .ok (.invokevirtual 89, 3) := by decide +kernel
theorem dX7_triple_29 : decode cX7_triple 29 = .ok (.ifCond .ne 5, 3) := by decide +kernel
theorem dX7_triple_32 : decode cX7_triple 32 = .ok (.iconst 0, 1) := by decide +kernel
theorem dX7_triple_33 : decode cX7_triple 33 = .ok (.ireturn, 1) := by decide +kernel
theorem dX7_triple_34 : decode cX7_triple 34 = .ok (.aload_n 0, 1) := by decide +kernel
theorem dX7_triple_35 : decode cX7_triple 35 = .ok (.sipush 1330, 3) := by decide +kernel
theorem dX7_triple_38 : decode cX7_triple 38 = .ok (.iload_n 1, 1) := by decide +kernel
theorem dX7_triple_39 : decode cX7_triple 39 = .ok (.iload_n 2, 1) := by decide +kernel
theorem dX7_triple_40 : decode cX7_triple 40 = .ok (.invokevirtual 109, 3) := by decide +kernel
theorem dX7_triple_43 : decode cX7_triple 43 = .ok (.ireturn, 1) := by decide +kernel
set_option maxRecDepth 20000 in
theorem ggX7_remembered_X7_holds : GoodIn wsX7_remembered wsX7_holds := goodIn_r _ [6, 7, 8, 9, 10, 11, 12, 13, 14, 15, 16] (by decide +kernel) (by decide +kernel)
set_option maxRecDepth 20000 in
theorem gX7_remembered_X7_holds : GoodIn wsX7_remembered (wsV RX7 89 RX7 yX7_holds wsX7_holds) := goodIn_app (goodIn_of _ (by decide +kernel)) ggX7_remembered_X7_holds
theorem dX7_remembered_0 : decode cX7_remembered 0 = .ok (.aload_n 0, 1) := by decide +kernel
theorem dX7_remembered_1 : decode cX7_remembered 1 = .ok (.iload_n 1, 1) := by decide +kernel
theorem dX7_remembered_2 : decode cX7_remembered 2 = .ok (.ifCond .ge 7, 3) := by decide +kernel
theorem dX7_remembered_5 : decode cX7_remembered 5 = .ok (.iconst 1, 1) := by decide +kernel
theorem dX7_remembered_6 : decode cX7_remembered 6 = .ok (.goto 4, 3) := by decide +kernel
theorem dX7_remembered_9 : decode cX7_remembered 9 = .ok (.iconst 0, 1) := by decide +kernel
theorem dX7_remembered_10 : decode cX7_remembered 10 = .ok (.invokevirtual 89, 3) := by decide +kernel
theorem dX7_remembered_13 : decode cX7_remembered 13 = .ok (.ifCond .ne 5, 3) := by decide +kernel
theorem dX7_remembered_16 : decode cX7_remembered 16 = .ok (.iconst 0, 1) := by decide +kernel
theorem dX7_remembered_17 : decode cX7_remembered 17 = .ok (.ireturn, 1) := by decide +kernel
theorem dX7_remembered_18 : decode cX7_remembered 18 = .ok (.iload_n 1, 1) := by decide +kernel
theorem dX7_remembered_19 : decode cX7_remembered 19 = .ok (.aload_n 0, 1) := by decide +kernel
theorem dX7_remembered_20 : decode cX7_remembered 20 = .ok (.getfield 7, 3) := by decide +kernel
theorem dX7_remembered_23 : decode cX7_remembered 23 = .ok (.bipush 46, 2) := by decide +kernel
theorem dX7_remembered_25 : decode cX7_remembered 25 = .ok (.iaload, 1) := by decide +kernel
theorem dX7_remembered_26 : decode cX7_remembered 26 = .ok (.if_icmp .ge 25, 3) := by decide +kernel
theorem dX7_remembered_29 : decode cX7_remembered 29 = .ok (.aload_n 0, 1) := by decide +kernel
theorem dX7_remembered_30 : decode cX7_remembered 30 = .ok (.getfield 7, 3) := by decide +kernel
theorem dX7_remembered_33 : decode cX7_remembered 33 = .ok (.bipush 47, 2) := by decide +kernel
theorem dX7_remembered_35 : decode cX7_remembered 35 = .ok (.aload_n 0, 1) := by decide +kernel
theorem dX7_remembered_36 : decode cX7_remembered 36 = .ok (.getfield 7, 3) := by decide +kernel
theorem dX7_remembered_39 : decode cX7_remembered 39 = .ok (.bipush 46, 2) := by decide +kernel
theorem dX7_remembered_41 : decode cX7_remembered 41 = .ok (.iaload, 1) := by decide +kernel
theorem dX7_remembered_42 : decode cX7_remembered 42 = .ok (.iadd, 1) := by decide +kernel
theorem dX7_remembered_43 : decode cX7_remembered 43 = .ok (.iconst 1, 1) := by decide +kernel
theorem dX7_remembered_44 : decode cX7_remembered 44 = .ok (.isub, 1) := by decide +kernel
theorem dX7_remembered_45 : decode cX7_remembered 45 = .ok (.iload_n 1, 1) := by decide +kernel
theorem dX7_remembered_46 : decode cX7_remembered 46 = .ok (.isub, 1) := by decide +kernel
theorem dX7_remembered_47 : decode cX7_remembered 47 = .ok (.iaload, 1) := by decide +kernel
theorem dX7_remembered_48 : decode cX7_remembered 48 = .ok (.goto 4, 3) := by decide +kernel
theorem dX7_remembered_51 : decode cX7_remembered 51 = .ok (.iconst (-1), 1) := by decide +kernel
theorem dX7_remembered_52 : decode cX7_remembered 52 = .ok (.ireturn, 1) := by decide +kernel
theorem dX7_weight_0 : decode cX7_weight 0 = .ok (.aload_n 0, 1) := by decide +kernel
theorem dX7_weight_1 : decode cX7_weight 1 = .ok (.iconst 0, 1) := by decide +kernel
theorem dX7_weight_2 : decode cX7_weight 2 = .ok (.putfield 30, 3) := by decide +kernel
theorem dX7_weight_5 : decode cX7_weight 5 = .ok (.aload_n 0, 1) := by decide +kernel
theorem dX7_weight_6 : decode cX7_weight 6 = .ok (.getfield 7, 3) := by decide +kernel
theorem dX7_weight_9 : decode cX7_weight 9 = .ok (.bipush 59, 2) := by decide +kernel
theorem dX7_weight_11 : decode cX7_weight 11 = .ok (.iaload, 1) := by decide +kernel
theorem dX7_weight_12 : decode cX7_weight 12 = .ok (.ireturn, 1) := by decide +kernel
set_option maxRecDepth 20000 in
theorem ggX7_count_X7_isQuestion : GoodIn wsX7_count wsX7_isQuestion := goodIn_r _ [4, 5, 6, 7, 3, 8] (by decide +kernel) (by decide +kernel)
set_option maxRecDepth 20000 in
theorem gX7_count_X7_isQuestion : GoodIn wsX7_count (va_wsS RX7 113 yX7_isQuestion wsX7_isQuestion) := goodIn_app (goodIn_of _ (by decide +kernel)) ggX7_count_X7_isQuestion
set_option maxRecDepth 20000 in
theorem ggX7_count_X7_holds : GoodIn wsX7_count wsX7_holds := goodIn_r _ [12, 13, 31, 32, 33, 34, 35, 36, 37, 38, 39] (by decide +kernel) (by decide +kernel)
set_option maxRecDepth 20000 in
theorem gX7_count_X7_holds : GoodIn wsX7_count (wsV RX7 89 RX7 yX7_holds wsX7_holds) := goodIn_app (goodIn_of _ (by decide +kernel)) ggX7_count_X7_holds
set_option maxRecDepth 20000 in
theorem ggX7_count_X7_answersOf : GoodIn wsX7_count wsX7_answersOf := goodIn_r _ [17, 18, 19, 20, 3, 21, 22, 23, 24, 25, 26, 27, 28, 29, 30, 31, 32, 33, 34, 35, 36, 37, 38, 39] (by decide +kernel) (by decide +kernel)
set_option maxRecDepth 20000 in
theorem gX7_count_X7_answersOf : GoodIn wsX7_count (wsV RX7 72 RX7 yX7_answersOf wsX7_answersOf) := goodIn_app (goodIn_of _ (by decide +kernel)) ggX7_count_X7_answersOf
theorem dX7_count_0 : decode cX7_count 0 = .ok (.aload_n 0, 1) := by decide +kernel
theorem dX7_count_1 : decode cX7_count 1 = .ok (.iload_n 1, 1) := by decide +kernel
theorem dX7_count_2 : decode cX7_count 2 = .ok (.invokestatic 113, 3) := by decide +kernel
theorem dX7_count_5 : decode cX7_count 5 = .ok (.ifCond .eq 7, 3) := by decide +kernel
theorem dX7_count_8 : decode cX7_count 8 = .ok (.iconst 0, 1) := by decide +kernel
theorem dX7_count_9 : decode cX7_count 9 = .ok (.goto 4, 3) := by decide +kernel
theorem dX7_count_12 : decode cX7_count 12 = .ok (.iconst 1, 1) := by decide +kernel
theorem dX7_count_13 : decode cX7_count 13 = .ok (.invokevirtual 89, 3) := by decide +kernel
theorem dX7_count_16 : decode cX7_count 16 = .ok (.ifCond .eq 11, 3) := by decide +kernel
theorem dX7_count_19 : decode cX7_count 19 = .ok (.aload_n 0, 1) := by decide +kernel
