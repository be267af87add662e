theorem dX7_count_20 : decode cX7_count 20 = .ok (.iload_n 1, 1) := by decide +kernel
theorem dX7_count_21 : decode cX7_count 21 = .ok (.invokevirtual 72, 3) := by decide +kernel
theorem dX7_count_24 : decode cX7_count 24 = .ok (.goto 4, 3) := by decide +kernel
theorem dX7_count_27 : decode cX7_count 27 = .ok (.iconst 0, 1) := by decide +kernel
theorem dX7_count_28 : decode cX7_count 28 = .ok (.ireturn, 1) := by decide +kernel
set_option maxRecDepth 20000 in
theorem ggX7_cost_X7_isQuestion : GoodIn wsX7_cost wsX7_isQuestion := goodIn_r _ [5, 6, 7, 8, 4, 9] (by decide +kernel) (by decide +kernel)
set_option maxRecDepth 20000 in
theorem gX7_cost_X7_isQuestion : GoodIn wsX7_cost (va_wsS RX7 113 yX7_isQuestion wsX7_isQuestion) := goodIn_app (goodIn_of _ (by decide +kernel)) ggX7_cost_X7_isQuestion
set_option maxRecDepth 20000 in
theorem ggX7_cost_X7_isOrder : GoodIn wsX7_cost wsX7_isOrder := goodIn_r _ [12, 13, 7, 8, 4, 9] (by decide +kernel) (by decide +kernel)
set_option maxRecDepth 20000 in
theorem gX7_cost_X7_isOrder : GoodIn wsX7_cost (va_wsS RX7 106 yX7_isOrder wsX7_isOrder) := goodIn_app (goodIn_of _ (by decide +kernel)) ggX7_cost_X7_isOrder
set_option maxRecDepth 20000 in
theorem ggX7_cost_X7_holds : GoodIn wsX7_cost wsX7_holds := goodIn_r _ [17, 18, 62, 63, 64, 65, 66, 67, 68, 69, 70] (by decide +kernel) (by decide +kernel)
set_option maxRecDepth 20000 in
theorem gX7_cost_X7_holds : GoodIn wsX7_cost (wsV RX7 89 RX7 yX7_holds wsX7_holds) := goodIn_app (goodIn_of _ (by decide +kernel)) ggX7_cost_X7_holds
set_option maxRecDepth 20000 in
theorem ggX7_cost_X7_costOf : GoodIn wsX7_cost wsX7_costOf := goodIn_r _ [22, 1, 23, 24, 25, 4, 26, 27, 28, 29, 30, 31, 32, 33, 34, 35, 36, 37, 38, 39, 40, 41, 42, 43, 44, 45, 46, 47, 48, 49, 50, 51, 52, 53, 54, 55, 56, 57, 58, 59, 60, 61, 62, 63, 64, 65, 66, 67, 68, 69, 70] (by decide +kernel) (by decide +kernel)
set_option maxRecDepth 20000 in
theorem gX7_cost_X7_costOf : GoodIn wsX7_cost (wsV RX7 116 RX7 yX7_costOf wsX7_costOf) := goodIn_app (goodIn_of _ (by decide +kernel)) ggX7_cost_X7_costOf
set_option maxRecDepth 20000 in
theorem ggX7_cost_X7_costBy : GoodIn wsX7_cost wsX7_costBy := goodIn_r _ [33, 1, 34, 35, 4, 36, 37, 38, 39, 40, 41, 42, 43, 44, 45, 46, 47, 48, 49, 50, 51, 52, 53, 54, 55, 56, 57, 58, 59, 60, 61, 62, 63, 64, 65, 66, 67, 68, 69, 70] (by decide +kernel) (by decide +kernel)
set_option maxRecDepth 20000 in
theorem gX7_cost_X7_costBy : GoodIn wsX7_cost (wsV RX7 78 RX7 yX7_costBy wsX7_costBy) := goodIn_app (goodIn_of _ (by decide +kernel)) ggX7_cost_X7_costBy
theorem dX7_cost_0 : decode cX7_cost 0 = .ok (.aload_n 0, 1) := by decide +kernel
theorem dX7_cost_1 : decode cX7_cost 1 = .ok (.iload_n 1, 1) := by decide +kernel
theorem dX7_cost_2 : decode cX7_cost 2 = .ok (.invokestatic 113, 3) := by decide +kernel
theorem dX7_cost_5 : decode cX7_cost 5 = .ok (.ifCond .ne 7, 3) := by decide +kernel
theorem dX7_cost_8 : decode cX7_cost 8 = .ok (.iconst 1, 1) := by decide +kernel
theorem dX7_cost_9 : decode cX7_cost 9 = .ok (.goto 20, 3) := by decide +kernel
theorem dX7_cost_12 : decode cX7_cost 12 = .ok (.iload_n 2, 1) := by decide +kernel
theorem dX7_cost_13 : decode cX7_cost 13 = .ok (.iconst (-1), 1) := by decide +kernel
theorem dX7_cost_14 : decode cX7_cost 14 = .ok (.if_icmp .eq 14, 3) := by decide +kernel
theorem dX7_cost_17 : decode cX7_cost 17 = .ok (.iload_n 2, 1) := by decide +kernel
theorem dX7_cost_18 : decode cX7_cost 18 = .ok (.invokestatic 106, 3) := by decide +kernel
theorem dX7_cost_21 : decode cX7_cost 21 = .ok (.ifCond .ne 7, 3) := by decide +kernel
theorem dX7_cost_24 : decode cX7_cost 24 = .ok (.iconst 2, 1) := by decide +kernel
theorem dX7_cost_25 : decode cX7_cost 25 = .ok (.goto 4, 3) := by decide +kernel
theorem dX7_cost_28 : decode cX7_cost 28 = .ok (.iconst 0, 1) := by decide +kernel
theorem dX7_cost_29 : decode cX7_cost 29 = .ok (.invokevirtual 89, 3) := by decide +kernel
theorem dX7_cost_32 : decode cX7_cost 32 = .ok (.ifCond .ne 5, 3) := by decide +kernel
theorem dX7_cost_35 : decode cX7_cost 35 = .ok (.iconst 0, 1) := by decide +kernel
theorem dX7_cost_36 : decode cX7_cost 36 = .ok (.ireturn, 1) := by decide +kernel
theorem dX7_cost_37 : decode cX7_cost 37 = .ok (.iload_n 2, 1) := by decide +kernel
theorem dX7_cost_38 : decode cX7_cost 38 = .ok (.iconst (-1), 1) := by decide +kernel
theorem dX7_cost_39 : decode cX7_cost 39 = .ok (.if_icmp .ne 18, 3) := by decide +kernel
theorem dX7_cost_42 : decode cX7_cost 42 = .ok (.aload_n 0, 1) := by decide +kernel
theorem dX7_cost_43 : decode cX7_cost 43 = .ok (.iload_n 1, 1) := by decide +kernel
theorem dX7_cost_44 : decode cX7_cost 44 = .ok (.aload_n 0, 1) := by decide +kernel
theorem dX7_cost_45 : decode cX7_cost 45 = .ok (.getfield 7, 3) := by decide +kernel
theorem dX7_cost_48 : decode cX7_cost 48 = .ok (.bipush 41, 2) := by decide +kernel
theorem dX7_cost_50 : decode cX7_cost 50 = .ok (.iaload, 1) := by decide +kernel
theorem dX7_cost_51 : decode cX7_cost 51 = .ok (.invokevirtual 116, 3) := by decide +kernel
theorem dX7_cost_54 : decode cX7_cost 54 = .ok (.goto 9, 3) := by decide +kernel
theorem dX7_cost_57 : decode cX7_cost 57 = .ok (.aload_n 0, 1) := by decide +kernel
theorem dX7_cost_58 : decode cX7_cost 58 = .ok (.iload_n 1, 1) := by decide +kernel
theorem dX7_cost_59 : decode cX7_cost 59 = .ok (.iload_n 2, 1) := by decide +kernel
theorem dX7_cost_60 : decode cX7_cost 60 = .ok (.invokevirtual 78, 3) := by decide +kernel
theorem dX7_cost_63 : decode cX7_cost 63 = .ok (.ireturn, 1) := by decide +kernel
set_option maxRecDepth 20000 in
theorem ggX7_by_X7_isQuestion : GoodIn wsX7_by wsX7_isQuestion := goodIn_r _ [5, 6, 7, 8, 4, 9] (by decide +kernel) (by decide +kernel)
set_option maxRecDepth 20000 in
theorem gX7_by_X7_isQuestion : GoodIn wsX7_by (va_wsS RX7 113 yX7_isQuestion wsX7_isQuestion) := goodIn_app (goodIn_of _ (by decide +kernel)) ggX7_by_X7_isQuestion
set_option maxRecDepth 20000 in
theorem ggX7_by_X7_holds : GoodIn wsX7_by wsX7_holds := goodIn_r _ [13, 14, 54, 55, 56, 57, 58, 59, 60, 61, 62] (by decide +kernel) (by decide +kernel)
set_option maxRecDepth 20000 in
theorem gX7_by_X7_holds : GoodIn wsX7_by (wsV RX7 89 RX7 yX7_holds wsX7_holds) := goodIn_app (goodIn_of _ (by decide +kernel)) ggX7_by_X7_holds
set_option maxRecDepth 20000 in
theorem ggX7_by_X7_orderOf : GoodIn wsX7_by wsX7_orderOf := goodIn_r _ [18, 1, 19, 20, 4, 21, 22, 23, 24, 25, 26, 27, 28, 29, 30, 31, 32, 33, 34, 35, 36, 37, 38, 39, 40, 41, 42, 43, 44, 45, 46, 47, 48, 49, 50, 51, 52, 53, 54, 55, 56, 57, 58, 59, 60, 61, 62] (by decide +kernel) (by decide +kernel)
set_option maxRecDepth 20000 in
theorem gX7_by_X7_orderOf : GoodIn wsX7_by (wsV RX7 81 RX7 yX7_orderOf wsX7_orderOf) := goodIn_app (goodIn_of _ (by decide +kernel)) ggX7_by_X7_orderOf
theorem dX7_by_0 : decode cX7_by 0 = .ok (.aload_n 0, 1) := by decide +kernel
theorem dX7_by_1 : decode cX7_by 1 = .ok (.iload_n 1, 1) := by decide +kernel
theorem dX7_by_2 : decode cX7_by 2 = .ok (.invokestatic 113, 3) := by decide +kernel
theorem dX7_by_5 : decode cX7_by 5 = .ok (.ifCond .eq 7, 3) := by decide +kernel
theorem dX7_by_8 : decode cX7_by 8 = .ok (.iconst 0, 1) := by decide +kernel
theorem dX7_by_9 : decode cX7_by 9 = .ok (.goto 4, 3) := by decide +kernel
theorem dX7_by_12 : decode cX7_by 12 = .ok (.iconst 1, 1) := by decide +kernel
theorem dX7_by_13 : decode cX7_by 13 = .ok (.invokevirtual 89, 3) := by decide +kernel
theorem dX7_by_16 : decode cX7_by 16 = .ok (.ifCond .eq 18, 3) := by decide +kernel
theorem dX7_by_19 : decode cX7_by 19 = .ok (.aload_n 0, 1) := by decide +kernel
theorem dX7_by_20 : decode cX7_by 20 = .ok (.iload_n 1, 1) := by decide +kernel
theorem dX7_by_21 : decode cX7_by 21 = .ok (.aload_n 0, 1) := by decide +kernel
theorem dX7_by_22 : decode cX7_by 22 = .ok (.getfield 7, 3) := by decide +kernel
theorem dX7_by_25 : decode cX7_by 25 = .ok (.bipush 41, 2) := by decide +kernel
theorem dX7_by_27 : decode cX7_by 27 = .ok (.iaload, 1) := by decide +kernel
theorem dX7_by_28 : decode cX7_by 28 = .ok (.invokevirtual 81, 3) := by decide +kernel
theorem dX7_by_31 : decode cX7_by 31 = .ok (.goto 4, 3) := by decide +kernel
theorem dX7_by_34 : decode cX7_by 34 = .ok (.iconst 0, 1) := by decide +kernel
theorem dX7_by_35 : decode cX7_by 35 = .ok (.ireturn, 1) := by decide +kernel
set_option maxRecDepth 20000 in
theorem ggX7_reach_X7_isQuestion : GoodIn wsX7_reach wsX7_isQuestion := goodIn_r _ [4, 5, 6, 7, 3, 8] (by decide +kernel) (by decide +kernel)
set_option maxRecDepth 20000 in
theorem gX7_reach_X7_isQuestion : GoodIn wsX7_reach (va_wsS RX7 113 yX7_isQuestion wsX7_isQuestion) := goodIn_app (goodIn_of _ (by decide +kernel)) ggX7_reach_X7_isQuestion
set_option maxRecDepth 20000 in
theorem ggX7_reach_X7_isOrder : GoodIn wsX7_reach wsX7_isOrder := goodIn_r _ [11, 12, 6, 7, 3, 8] (by decide +kernel) (by decide +kernel)
set_option maxRecDepth 20000 in
theorem gX7_reach_X7_isOrder : GoodIn wsX7_reach (va_wsS RX7 106 yX7_isOrder wsX7_isOrder) := goodIn_app (goodIn_of _ (by decide +kernel)) ggX7_reach_X7_isOrder
set_option maxRecDepth 20000 in
theorem ggX7_reach_X7_holds : GoodIn wsX7_reach wsX7_holds := goodIn_r _ [16, 17, 30, 31, 32, 33, 34, 35, 36, 37, 38] (by decide +kernel) (by decide +kernel)
set_option maxRecDepth 20000 in
theorem gX7_reach_X7_holds : GoodIn wsX7_reach (wsV RX7 89 RX7 yX7_holds wsX7_holds) := goodIn_app (goodIn_of _ (by decide +kernel)) ggX7_reach_X7_holds
set_option maxRecDepth 20000 in
theorem ggX7_reach_X7_reachOf : GoodIn wsX7_reach wsX7_reachOf := goodIn_r _ [20, 21, 22, 3, 23, 24, 25, 26, 27, 28, 29] (by decide +kernel) (by decide +kernel)
set_option maxRecDepth 20000 in
theorem gX7_reach_X7_reachOf : GoodIn wsX7_reach (va_wsS RX7 62 yX7_reachOf wsX7_reachOf) := goodIn_app (goodIn_of _ (by decide +kernel)) ggX7_reach_X7_reachOf
theorem dX7_reach_0 : decode cX7_reach 0 = .ok (.aload_n 0, 1) := by decide +kernel
theorem dX7_reach_1 : decode cX7_reach 1 = .ok (.iload_n 1, 1) := by decide +kernel
theorem dX7_reach_2 : decode cX7_reach 2 = .ok (.invokestatic 113, 3) := by decide +kernel
theorem dX7_reach_5 : decode cX7_reach 5 = .ok (.ifCond .ne 7, 3) := by decide +kernel
theorem dX7_reach_8 : decode cX7_reach 8 = .ok (.iconst 1, 1) := by decide +kernel
theorem dX7_reach_9 : decode cX7_reach 9 = .ok (.goto 15, 3) := by decide +kernel
theorem dX7_reach_12 : decode cX7_reach 12 = .ok (.iload_n 2, 1) := by decide +kernel
theorem dX7_reach_13 : decode cX7_reach 13 = .ok (.invokestatic 106, 3) := by decide +kernel
theorem dX7_reach_16 : decode cX7_reach 16 = .ok (.ifCond .ne 7, 3) := by decide +kernel
theorem dX7_reach_19 : decode cX7_reach 19 = .ok (.iconst 2, 1) := by decide +kernel
theorem dX7_reach_20 : decode cX7_reach 20 = .ok (.goto 4, 3) := by decide +kernel
theorem dX7_reach_23 : decode cX7_reach 23 = .ok (.iconst 0, 1) := by decide +kernel
theorem dX7_reach_24 : decode cX7_reach 24 = .ok (.invokevirtual 89, 3) := by decide +kernel
theorem dX7_reach_27 : decode cX7_reach 27 = .ok (.ifCond .eq 11, 3) := by decide +kernel
theorem dX7_reach_30 : decode cX7_reach 30 = .ok (.iload_n 1, 1) := by decide +kernel
theorem dX7_reach_31 : decode cX7_reach 31 = .ok (.iload_n 2, 1) := by decide +kernel
theorem dX7_reach_32 : decode cX7_reach 32 = .ok (.invokestatic 62, 3) := by decide +kernel
theorem dX7_reach_35 : decode cX7_reach 35 = .ok (.goto 4, 3) := by decide +kernel
theorem dX7_reach_38 : decode cX7_reach 38 = .ok (.iconst 0, 1) := by decide +kernel
theorem dX7_reach_39 : decode cX7_reach 39 = .ok (.ireturn, 1) := by decide +kernel
set_option maxRecDepth 20000 in
theorem ggX7_answer_X7_isQuestion : GoodIn wsX7_answer wsX7_isQuestion := goodIn_r _ [5, 6, 7, 8, 4, 9] (by decide +kernel) (by decide +kernel)
set_option maxRecDepth 20000 in
theorem gX7_answer_X7_isQuestion : GoodIn wsX7_answer (va_wsS RX7 113 yX7_isQuestion wsX7_isQuestion) := goodIn_app (goodIn_of _ (by decide +kernel)) ggX7_answer_X7_isQuestion
set_option maxRecDepth 20000 in
theorem ggX7_answer_X7_holds : GoodIn wsX7_answer wsX7_holds := goodIn_r _ [13, 14, 61, 62, 63, 64, 65, 66, 67, 68, 69] (by decide +kernel) (by decide +kernel)
set_option maxRecDepth 20000 in
theorem gX7_answer_X7_holds : GoodIn wsX7_answer (wsV RX7 89 RX7 yX7_holds wsX7_holds) := goodIn_app (goodIn_of _ (by decide +kernel)) ggX7_answer_X7_holds
set_option maxRecDepth 20000 in
theorem ggX7_answer_X7_orderOf : GoodIn wsX7_answer wsX7_orderOf := goodIn_r _ [18, 1, 19, 20, 4, 21, 22, 23, 24, 25, 26, 27, 28, 29, 30, 31, 32, 33, 34, 35, 36, 37, 38, 39, 40, 41, 42, 43, 44, 45, 46, 47, 48, 49, 50, 51, 52, 53, 61, 62, 63, 64, 65, 66, 67, 68, 69] (by decide +kernel) (by decide +kernel)
set_option maxRecDepth 20000 in
theorem gX7_answer_X7_orderOf : GoodIn wsX7_answer (wsV RX7 81 RX7 yX7_orderOf wsX7_orderOf) := goodIn_app (goodIn_of _ (by decide +kernel)) ggX7_answer_X7_orderOf
set_option maxRecDepth 20000 in
theorem ggX7_answer_X7_ith : GoodIn wsX7_answer wsX7_ith := goodIn_r _ [57, 1, 48, 49, 4, 50, 32, 33, 34, 35, 36, 37, 51, 52, 53, 58, 59, 60, 29, 30, 31, 61, 62, 63, 64, 65, 66, 67, 68, 69] (by decide +kernel) (by decide +kernel)
set_option maxRecDepth 20000 in
theorem gX7_answer_X7_ith : GoodIn wsX7_answer (wsV RX7 109 RX7 yX7_ith wsX7_ith) := goodIn_app (goodIn_of _ (by decide +kernel)) ggX7_answer_X7_ith
theorem dX7_answer_0 : decode cX7_answer 0 = .ok (.aload_n 0, 1) := by decide +kernel
theorem dX7_answer_1 : decode cX7_answer 1 = .ok (.iload_n 1, 1) := by decide +kernel
theorem dX7_answer_2 : decode cX7_answer 2 = .ok (.invokestatic 113, 3) := by decide +kernel
theorem dX7_answer_5 : decode cX7_answer 5 = .ok (.ifCond .eq 11, 3) := by decide +kernel
theorem dX7_answer_8 : decode cX7_answer 8 = .ok (.iload_n 2, 1) := by decide +kernel
theorem dX7_answer_9 : decode cX7_answer 9 = .ok (.ifCond .lt 7, 3) := by decide +kernel
theorem dX7_answer_12 : decode cX7_answer 12 = .ok (.iconst 0, 1) := by decide +kernel
theorem dX7_answer_13 : decode cX7_answer 13 = .ok (.goto 4, 3) := by decide +kernel
theorem dX7_answer_16 : decode cX7_answer 16 = .ok (.iconst 1, 1) := by decide +kernel
theorem dX7_answer_17 : decode cX7_answer 17 = .ok (.invokevirtual 89, 3) := by decide +kernel
theorem dX7_answer_20 : decode cX7_answer 20 = .ok (.ifCond .eq 24, 3) := by decide +kernel
theorem dX7_answer_23 : decode cX7_answer 23 = .ok (.aload_n 0, 1) := by decide +kernel
theorem dX7_answer_24 : decode cX7_answer 24 = .ok (.iload_n 1, 1) := by decide +kernel
theorem dX7_answer_25 : decode cX7_answer 25 = .ok (.aload_n 0, 1) := by decide +kernel
theorem dX7_answer_26 : decode cX7_answer 26 = .ok (.iload_n 1, 1) := by decide +kernel
theorem dX7_answer_27 : decode cX7_answer 27 = .ok (.aload_n 0, 1) := by decide +kernel
theorem dX7_answer_28 : decode cX7_answer 28 = .ok (.getfield 7, 3) := by decide +kernel
theorem dX7_answer_31 : decode cX7_answer 31 = .ok (.bipush 41, 2) := by decide +kernel
theorem dX7_answer_33 : decode cX7_answer 33 = .ok (.iaload, 1) := by decide +kernel
theorem dX7_answer_34 : decode cX7_answer 34 = .ok (.invokevirtual 81, 3) := by decide +kernel
theorem dX7_answer_37 : decode cX7_answer 37 = .ok (.iload_n 2, 1) := by decide +kernel
theorem dX7_answer_38 : decode cX7_answer 38 = .ok (.invokevirtual 109, 3) := by decide +kernel
theorem dX7_answer_41 : decode cX7_answer 41 = .ok (.goto 4, 3) := by decide +kernel
theorem dX7_answer_44 : decode cX7_answer 44 = .ok (.iconst 0, 1) := by decide +kernel
theorem dX7_answer_45 : decode cX7_answer 45 = .ok (.ireturn, 1) := by decide +kernel
set_option maxRecDepth 20000 in
theorem ggX7_isJoin_X7_isQuestion : GoodIn wsX7_isJoin wsX7_isQuestion := goodIn_r _ [5, 6, 7, 8, 4, 9] (by decide +kernel) (by decide +kernel)
set_option maxRecDepth 20000 in
theorem gX7_isJoin_X7_isQuestion : GoodIn wsX7_isJoin (va_wsS RX7 113 yX7_isQuestion wsX7_isQuestion) := goodIn_app (goodIn_of _ (by decide +kernel)) ggX7_isJoin_X7_isQuestion
set_option maxRecDepth 20000 in
theorem ggX7_isJoin_X7_in : GoodIn wsX7_isJoin wsX7_in := goodIn_r _ [9] (by decide +kernel) (by decide +kernel)
set_option maxRecDepth 20000 in
theorem gX7_isJoin_X7_in : GoodIn wsX7_isJoin (va_wsS RX7 53 yX7_in wsX7_in) := goodIn_app (goodIn_of _ (by decide +kernel)) ggX7_isJoin_X7_in
theorem dX7_isJoin_0 : decode cX7_isJoin 0 = .ok (.iload_n 0, 1) := by decide +kernel
theorem dX7_isJoin_1 : decode cX7_isJoin 1 = .ok (.invokestatic 113, 3) := by decide +kernel
theorem dX7_isJoin_4 : decode cX7_isJoin 4 = .ok (.ifCond .eq 38, 3) := by decide +kernel
theorem dX7_isJoin_7 : decode cX7_isJoin 7 = .ok (.iload_n 1, 1) := by decide +kernel
theorem dX7_isJoin_8 : decode cX7_isJoin 8 = .ok (.invokestatic 113, 3) := by decide +kernel
theorem dX7_isJoin_11 : decode cX7_isJoin 11 = .ok (.ifCond .eq 31, 3) := by decide +kernel
theorem dX7_isJoin_14 : decode cX7_isJoin 14 = .ok (.iload_n 2, 1) := by decide +kernel
theorem dX7_isJoin_15 : decode cX7_isJoin 15 = .ok (.i2l, 1) := by decide +kernel
theorem dX7_isJoin_16 : decode cX7_isJoin 16 = .ok (.lconst 0, 1) := by decide +kernel
theorem dX7_isJoin_17 : decode cX7_isJoin 17 = .ok (.ldc2_w 119, 3) := by decide +kernel
theorem dX7_isJoin_20 : decode cX7_isJoin 20 = .ok (.invokestatic 53, 3) := by decide +kernel
theorem dX7_isJoin_23 : decode cX7_isJoin 23 = .ok (.ifCond .eq 19, 3) := by decide +kernel
theorem dX7_isJoin_26 : decode cX7_isJoin 26 = .ok (.iload_n 3, 1) := by decide +kernel
theorem dX7_isJoin_27 : decode cX7_isJoin 27 = .ok (.i2l, 1) := by decide +kernel
theorem dX7_isJoin_28 : decode cX7_isJoin 28 = .ok (.lconst 0, 1) := by decide +kernel
theorem dX7_isJoin_29 : decode cX7_isJoin 29 = .ok (.ldc2_w 119, 3) := by decide +kernel
theorem dX7_isJoin_32 : decode cX7_isJoin 32 = .ok (.invokestatic 53, 3) := by decide +kernel
theorem dX7_isJoin_35 : decode cX7_isJoin 35 = .ok (.ifCond .eq 7, 3) := by decide +kernel
theorem dX7_isJoin_38 : decode cX7_isJoin 38 = .ok (.iconst 1, 1) := by decide +kernel
theorem dX7_isJoin_39 : decode cX7_isJoin 39 = .ok (.goto 4, 3) := by decide +kernel
theorem dX7_isJoin_42 : decode cX7_isJoin 42 = .ok (.iconst 0, 1) := by decide +kernel
theorem dX7_isJoin_43 : decode cX7_isJoin 43 = .ok (.ireturn, 1) := by decide +kernel
set_option maxRecDepth 20000 in
theorem ggX7_bind_X7_digitOf : GoodIn wsX7_bind wsX7_digitOf := goodIn_r _ [4] (by decide +kernel) (by decide +kernel)
set_option maxRecDepth 20000 in
theorem gX7_bind_X7_digitOf : GoodIn wsX7_bind (va_wsS RX7 44 yX7_digitOf wsX7_digitOf) := goodIn_app (goodIn_of _ (by decide +kernel)) ggX7_bind_X7_digitOf
theorem dX7_bind_0 : decode cX7_bind 0 = .ok (.iload_n 1, 1) := by decide +kernel
theorem dX7_bind_1 : decode cX7_bind 1 = .ok (.ifCond .ne 8, 3) := by decide +kernel
theorem dX7_bind_4 : decode cX7_bind 4 = .ok (.bipush 121, 2) := by decide +kernel
theorem dX7_bind_6 : decode cX7_bind 6 = .ok (.goto 14, 3) := by decide +kernel
theorem dX7_bind_9 : decode cX7_bind 9 = .ok (.iload_n 1, 1) := by decide +kernel
theorem dX7_bind_10 : decode cX7_bind 10 = .ok (.iconst 1, 1) := by decide +kernel
theorem dX7_bind_11 : decode cX7_bind 11 = .ok (.if_icmp .ne 8, 3) := by decide +kernel
theorem dX7_bind_14 : decode cX7_bind 14 = .ok (.bipush 11, 2) := by decide +kernel
theorem dX7_bind_16 : decode cX7_bind 16 = .ok (.goto 4, 3) := by decide +kernel
theorem dX7_bind_19 : decode cX7_bind 19 = .ok (.iconst 1, 1) := by decide +kernel
theorem dX7_bind_20 : decode cX7_bind 20 = .ok (.istore_n 3, 1) := by decide +kernel
theorem dX7_bind_21 : decode cX7_bind 21 = .ok (.iload_n 0, 1) := by decide +kernel
theorem dX7_bind_22 : decode cX7_bind 22 = .ok (.iload_n 1, 1) := by decide +kernel
theorem dX7_bind_23 : decode cX7_bind 23 = .ok (.invokestatic 44, 3) := by decide +kernel
theorem dX7_bind_26 : decode cX7_bind 26 = .ok (.istore 4, 2) := by decide +kernel
theorem dX7_bind_28 : decode cX7_bind 28 = .ok (.iload 4, 2) := by decide +kernel
theorem dX7_bind_30 : decode cX7_bind 30 = .ok (.bipush 10, 2) := by decide +kernel
theorem dX7_bind_32 : decode cX7_bind 32 = .ok (.if_icmp .ne 14, 3) := by decide +kernel
theorem dX7_bind_35 : decode cX7_bind 35 = .ok (.iload_n 0, 1) := by decide +kernel
theorem dX7_bind_36 : decode cX7_bind 36 = .ok (.iload_n 3, 1) := by decide +kernel
theorem dX7_bind_37 : decode cX7_bind 37 = .ok (.iload_n 2, 1) := by decide +kernel
theorem dX7_bind_38 : decode cX7_bind 38 = .ok (.bipush 10, 2) := by decide +kernel
theorem dX7_bind_40 : decode cX7_bind 40 = .ok (.isub, 1) := by decide +kernel
theorem dX7_bind_41 : decode cX7_bind 41 = .ok (.imul, 1) := by decide +kernel
theorem dX7_bind_42 : decode cX7_bind 42 = .ok (.iadd, 1) := by decide +kernel
theorem dX7_bind_43 : decode cX7_bind 43 = .ok (.goto 14, 3) := by decide +kernel
theorem dX7_bind_46 : decode cX7_bind 46 = .ok (.iload 4, 2) := by decide +kernel
theorem dX7_bind_48 : decode cX7_bind 48 = .ok (.iload_n 2, 1) := by decide +kernel
theorem dX7_bind_49 : decode cX7_bind 49 = .ok (.if_icmp .ne 7, 3) := by decide +kernel
theorem dX7_bind_52 : decode cX7_bind 52 = .ok (.iload_n 0, 1) := by decide +kernel
theorem dX7_bind_53 : decode cX7_bind 53 = .ok (.goto 4, 3) := by decide +kernel
theorem dX7_bind_56 : decode cX7_bind 56 = .ok (.iconst (-1), 1) := by decide +kernel
theorem dX7_bind_57 : decode cX7_bind 57 = .ok (.ireturn, 1) := by decide +kernel
set_option maxRecDepth 20000 in
theorem ggX7_pairs_X7_isJoin : GoodIn wsX7_pairs wsX7_isJoin := goodIn_r _ [5, 6, 7, 8, 4, 9, 10, 11, 12, 13] (by decide +kernel) (by decide +kernel)
set_option maxRecDepth 20000 in
theorem gX7_pairs_X7_isJoin : GoodIn wsX7_pairs (va_wsS RX7 121 yX7_isJoin wsX7_isJoin) := goodIn_app (goodIn_of _ (by decide +kernel)) ggX7_pairs_X7_isJoin
set_option maxRecDepth 20000 in
theorem ggX7_pairs_X7_holds : GoodIn wsX7_pairs wsX7_holds := goodIn_r _ [17, 18, 38, 39, 40, 41, 42, 43, 44, 45, 46] (by decide +kernel) (by decide +kernel)
set_option maxRecDepth 20000 in
theorem gX7_pairs_X7_holds : GoodIn wsX7_pairs (wsV RX7 89 RX7 yX7_holds wsX7_holds) := goodIn_app (goodIn_of _ (by decide +kernel)) ggX7_pairs_X7_holds
set_option maxRecDepth 20000 in
theorem ggX7_pairs_X7_isAnswer : GoodIn wsX7_pairs wsX7_isAnswer := goodIn_r _ [21, 22, 23, 4, 24, 25, 26, 27, 28, 29, 30] (by decide +kernel) (by decide +kernel)
set_option maxRecDepth 20000 in
theorem gX7_pairs_X7_isAnswer : GoodIn wsX7_pairs (va_wsS RX7 59 yX7_isAnswer wsX7_isAnswer) := goodIn_app (goodIn_of _ (by decide +kernel)) ggX7_pairs_X7_isAnswer
set_option maxRecDepth 20000 in
theorem ggX7_pairs_X7_partOf : GoodIn wsX7_pairs wsX7_partOf := goodIn_r _ [30] (by decide +kernel) (by decide +kernel)
set_option maxRecDepth 20000 in
theorem gX7_pairs_X7_partOf : GoodIn wsX7_pairs (va_wsS RX7 41 yX7_partOf wsX7_partOf) := goodIn_app (goodIn_of _ (by decide +kernel)) ggX7_pairs_X7_partOf
set_option maxRecDepth 20000 in
theorem ggX7_pairs_X7_bind : GoodIn wsX7_pairs wsX7_bind := goodIn_r _ [33, 25, 26, 4, 27] (by decide +kernel) (by decide +kernel)
set_option maxRecDepth 20000 in
theorem gX7_pairs_X7_bind : GoodIn wsX7_pairs (va_wsS RX7 125 yX7_bind wsX7_bind) := goodIn_app (goodIn_of _ (by decide +kernel)) ggX7_pairs_X7_bind
set_option maxRecDepth 20000 in
theorem ggX7_pairs_X7_answersOf : GoodIn wsX7_pairs wsX7_answersOf := goodIn_r _ [37, 1, 19, 20, 4, 21, 22, 23, 24, 25, 26, 27, 28, 29, 30, 38, 39, 40, 41, 42, 43, 44, 45, 46] (by decide +kernel) (by decide +kernel)
set_option maxRecDepth 20000 in
theorem gX7_pairs_X7_answersOf : GoodIn wsX7_pairs (wsV RX7 72 RX7 yX7_answersOf wsX7_answersOf) := goodIn_app (goodIn_of _ (by decide +kernel)) ggX7_pairs_X7_answersOf
theorem dX7_pairs_0 : decode cX7_pairs 0 = .ok (.aload_n 0, 1) := by decide +kernel
theorem dX7_pairs_1 : decode cX7_pairs 1 = .ok (.iload_n 1, 1) := by decide +kernel
theorem dX7_pairs_2 : decode cX7_pairs 2 = .ok (.iload_n 2, 1) := by decide +kernel
theorem dX7_pairs_3 : decode cX7_pairs 3 = .ok (.iload_n 3, 1) := by decide +kernel
theorem dX7_pairs_4 : decode cX7_pairs 4 = .ok (.iload 4, 2) := by decide +kernel
theorem dX7_pairs_6 : decode cX7_pairs 6 = .ok (.invokestatic 121, 3) := by decide +kernel
theorem dX7_pairs_9 : decode cX7_pairs 9 = .ok (.ifCond .eq 7, 3) := by decide +kernel
theorem dX7_pairs_12 : decode cX7_pairs 12 = .ok (.iconst 0, 1) := by decide +kernel
theorem dX7_pairs_13 : decode cX7_pairs 13 = .ok (.goto 4, 3) := by decide +kernel
theorem dX7_pairs_16 : decode cX7_pairs 16 = .ok (.iconst 1, 1) := by decide +kernel
theorem dX7_pairs_17 : decode cX7_pairs 17 = .ok (.invokevirtual 89, 3) := by decide +kernel
theorem dX7_pairs_20 : decode cX7_pairs 20 = .ok (.ifCond .ne 5, 3) := by decide +kernel
theorem dX7_pairs_23 : decode cX7_pairs 23 = .ok (.iconst 0, 1) := by decide +kernel
theorem dX7_pairs_24 : decode cX7_pairs 24 = .ok (.ireturn, 1) := by decide +kernel
theorem dX7_pairs_25 : decode cX7_pairs 25 = .ok (.iconst 0, 1) := by decide +kernel
theorem dX7_pairs_26 : decode cX7_pairs 26 = .ok (.istore 5, 2) := by decide +kernel
theorem dX7_pairs_28 : decode cX7_pairs 28 = .ok (.iconst 0, 1) := by decide +kernel
theorem dX7_pairs_29 : decode cX7_pairs 29 = .ok (.istore 6, 2) := by decide +kernel
theorem dX7_pairs_31 : decode cX7_pairs 31 = .ok (.iload 6, 2) := by decide +kernel
theorem dX7_pairs_33 : decode cX7_pairs 33 = .ok (.aload_n 0, 1) := by decide +kernel
theorem dX7_pairs_34 : decode cX7_pairs 34 = .ok (.getfield 7, 3) := by decide +kernel
theorem dX7_pairs_37 : decode cX7_pairs 37 = .ok (.iconst 0, 1) := by decide +kernel
theorem dX7_pairs_38 : decode cX7_pairs 38 = .ok (.iaload, 1) := by decide +kernel
theorem dX7_pairs_39 : decode cX7_pairs 39 = .ok (.if_icmp .ge 71, 3) := by decide +kernel
theorem dX7_pairs_42 : decode cX7_pairs 42 = .ok (.iload_n 1, 1) := by decide +kernel
theorem dX7_pairs_43 : decode cX7_pairs 43 = .ok (.aload_n 0, 1) := by decide +kernel
theorem dX7_pairs_44 : decode cX7_pairs 44 = .ok (.getfield 7, 3) := by decide +kernel
theorem dX7_pairs_47 : decode cX7_pairs 47 = .ok (.iconst 1, 1) := by decide +kernel
theorem dX7_pairs_48 : decode cX7_pairs 48 = .ok (.iload 6, 2) := by decide +kernel
theorem dX7_pairs_50 : decode cX7_pairs 50 = .ok (.iadd, 1) := by decide +kernel
theorem dX7_pairs_51 : decode cX7_pairs 51 = .ok (.iaload, 1) := by decide +kernel
theorem dX7_pairs_52 : decode cX7_pairs 52 = .ok (.invokestatic 59, 3) := by decide +kernel
theorem dX7_pairs_55 : decode cX7_pairs 55 = .ok (.ifCond .eq 25, 3) := by decide +kernel
theorem dX7_pairs_58 : decode cX7_pairs 58 = .ok (.iload_n 2, 1) := by decide +kernel
theorem dX7_pairs_59 : decode cX7_pairs 59 = .ok (.iload 4, 2) := by decide +kernel
theorem dX7_pairs_61 : decode cX7_pairs 61 = .ok (.aload_n 0, 1) := by decide +kernel
theorem dX7_pairs_62 : decode cX7_pairs 62 = .ok (.getfield 7, 3) := by decide +kernel
theorem dX7_pairs_65 : decode cX7_pairs 65 = .ok (.iconst 1, 1) := by decide +kernel
theorem dX7_pairs_66 : decode cX7_pairs 66 = .ok (.iload 6, 2) := by decide +kernel
theorem dX7_pairs_68 : decode cX7_pairs 68 = .ok (.iadd, 1) := by decide +kernel
theorem dX7_pairs_69 : decode cX7_pairs 69 = .ok (.iaload, 1) := by decide +kernel
theorem dX7_pairs_70 : decode cX7_pairs 70 = .ok (.iload_n 3, 1) := by decide +kernel
theorem dX7_pairs_71 : decode cX7_pairs 71 = .ok (.invokestatic 41, 3) := by decide +kernel
theorem dX7_pairs_74 : decode cX7_pairs 74 = .ok (.invokestatic 125, 3) := by decide +kernel
theorem dX7_pairs_77 : decode cX7_pairs 77 = .ok (.goto 4, 3) := by decide +kernel
theorem dX7_pairs_80 : decode cX7_pairs 80 = .ok (.iconst (-1), 1) := by decide +kernel
theorem dX7_pairs_81 : decode cX7_pairs 81 = .ok (.istore 7, 2) := by decide +kernel
theorem dX7_pairs_83 : decode cX7_pairs 83 = .ok (.iload 5, 2) := by decide +kernel
theorem dX7_pairs_85 : decode cX7_pairs 85 = .ok (.iload 7, 2) := by decide +kernel
theorem dX7_pairs_87 : decode cX7_pairs 87 = .ok (.iconst (-1), 1) := by decide +kernel
theorem dX7_pairs_88 : decode cX7_pairs 88 = .ok (.if_icmp .ne 7, 3) := by decide +kernel
theorem dX7_pairs_91 : decode cX7_pairs 91 = .ok (.iconst 0, 1) := by decide +kernel
theorem dX7_pairs_92 : decode cX7_pairs 92 = .ok (.goto 9, 3) := by decide +kernel
theorem dX7_pairs_95 : decode cX7_pairs 95 = .ok (.aload_n 0, 1) := by decide +kernel
theorem dX7_pairs_96 : decode cX7_pairs 96 = .ok (.iload 7, 2) := by decide +kernel
theorem dX7_pairs_98 : decode cX7_pairs 98 = .ok (.invokevirtual 72, 3) := by decide +kernel
theorem dX7_pairs_101 : decode cX7_pairs 101 = .ok (.iadd, 1) := by decide +kernel
theorem dX7_pairs_102 : decode cX7_pairs 102 = .ok (.istore 5, 2) := by decide +kernel
theorem dX7_pairs_104 : decode cX7_pairs 104 = .ok (.iinc 6 1, 3) := by decide +kernel
theorem dX7_pairs_107 : decode cX7_pairs 107 = .ok (.goto (-76), 3) := by decide +kernel
theorem dX7_pairs_110 : decode cX7_pairs 110 = .ok (.iload 5, 2) := by decide +kernel
theorem dX7_pairs_112 : decode cX7_pairs 112 = .ok (.ireturn, 1) := by decide +kernel
set_option maxRecDepth 20000 in
theorem ggX7_mergedBy_X7_reachOf : GoodIn wsX7_mergedBy wsX7_reachOf := goodIn_r _ [5, 6, 7, 4, 8, 9, 10, 11, 12, 13, 14] (by decide +kernel) (by decide +kernel)
set_option maxRecDepth 20000 in
theorem gX7_mergedBy_X7_reachOf : GoodIn wsX7_mergedBy (va_wsS RX7 62 yX7_reachOf wsX7_reachOf) := goodIn_app (goodIn_of _ (by decide +kernel)) ggX7_mergedBy_X7_reachOf
set_option maxRecDepth 20000 in
theorem ggX7_mergedBy_X7_isIn : GoodIn wsX7_mergedBy wsX7_isIn := goodIn_r _ [17] (by decide +kernel) (by decide +kernel)
set_option maxRecDepth 20000 in
theorem gX7_mergedBy_X7_isIn : GoodIn wsX7_mergedBy (va_wsS RX7 75 yX7_isIn wsX7_isIn) := goodIn_app (goodIn_of _ (by decide +kernel)) ggX7_mergedBy_X7_isIn
set_option maxRecDepth 20000 in
theorem ggX7_mergedBy_X7_boundOf : GoodIn wsX7_mergedBy wsX7_boundOf := goodIn_r _ [20, 9, 10, 4, 11, 12, 13, 14] (by decide +kernel) (by decide +kernel)
set_option maxRecDepth 20000 in
theorem gX7_mergedBy_X7_boundOf : GoodIn wsX7_mergedBy (va_wsS RX7 128 yX7_boundOf wsX7_boundOf) := goodIn_app (goodIn_of _ (by decide +kernel)) ggX7_mergedBy_X7_boundOf
set_option maxRecDepth 20000 in
theorem ggX7_mergedBy_X7_compared : GoodIn wsX7_mergedBy wsX7_compared := goodIn_r _ [8] (by decide +kernel) (by decide +kernel)
set_option maxRecDepth 20000 in
theorem gX7_mergedBy_X7_compared : GoodIn wsX7_mergedBy (va_wsS RX7 37 yX7_compared wsX7_compared) := goodIn_app (goodIn_of _ (by decide +kernel)) ggX7_mergedBy_X7_compared
set_option maxRecDepth 20000 in
theorem ggX7_mergedBy_X7_costBy : GoodIn wsX7_mergedBy wsX7_costBy := goodIn_r _ [24, 1, 2, 3, 4, 5, 6, 7, 8, 9, 10, 11, 12, 13, 14, 25, 26, 27, 28, 29, 30, 31, 32, 33, 34, 35, 36, 37, 38, 39, 40, 41, 42, 43, 44, 45, 46, 47, 48, 49] (by decide +kernel) (by decide +kernel)
set_option maxRecDepth 20000 in
theorem gX7_mergedBy_X7_costBy : GoodIn wsX7_mergedBy (wsV RX7 78 RX7 yX7_costBy wsX7_costBy) := goodIn_app (goodIn_of _ (by decide +kernel)) ggX7_mergedBy_X7_costBy
theorem dX7_mergedBy_0 : decode cX7_mergedBy 0 = .ok (.iconst (-1), 1) := by decide +kernel
theorem dX7_mergedBy_1 : decode cX7_mergedBy 1 = .ok (.istore_n 3, 1) := by decide +kernel
theorem dX7_mergedBy_2 : decode cX7_mergedBy 2 = .ok (.iconst 0, 1) := by decide +kernel
theorem dX7_mergedBy_3 : decode cX7_mergedBy 3 = .ok (.istore 4, 2) := by decide +kernel
theorem dX7_mergedBy_5 : decode cX7_mergedBy 5 = .ok (.iload 4, 2) := by decide +kernel
theorem dX7_mergedBy_7 : decode cX7_mergedBy 7 = .ok (.bipush 6, 2) := by decide +kernel
theorem dX7_mergedBy_9 : decode cX7_mergedBy 9 = .ok (.if_icmp .ge 106, 3) := by decide +kernel
theorem dX7_mergedBy_12 : decode cX7_mergedBy 12 = .ok (.iload_n 1, 1) := by decide +kernel
theorem dX7_mergedBy_13 : decode cX7_mergedBy 13 = .ok (.iload 4, 2) := by decide +kernel
theorem dX7_mergedBy_15 : decode cX7_mergedBy 15 = .ok (.invokestatic 62, 3) := by decide +kernel
theorem dX7_mergedBy_18 : decode cX7_mergedBy 18 = .ok (.istore 5, 2) := by decide +kernel
theorem dX7_mergedBy_20 : decode cX7_mergedBy 20 = .ok (.aload_n 0, 1) := by decide +kernel
theorem dX7_mergedBy_21 : decode cX7_mergedBy 21 = .ok (.getfield 7, 3) := by decide +kernel
theorem dX7_mergedBy_24 : decode cX7_mergedBy 24 = .ok (.bipush 41, 2) := by decide +kernel
theorem dX7_mergedBy_26 : decode cX7_mergedBy 26 = .ok (.iaload, 1) := by decide +kernel
theorem dX7_mergedBy_27 : decode cX7_mergedBy 27 = .ok (.iload 4, 2) := by decide +kernel
theorem dX7_mergedBy_29 : decode cX7_mergedBy 29 = .ok (.invokestatic 75, 3) := by decide +kernel
theorem dX7_mergedBy_32 : decode cX7_mergedBy 32 = .ok (.ifCond .eq 33, 3) := by decide +kernel
theorem dX7_mergedBy_35 : decode cX7_mergedBy 35 = .ok (.iload 5, 2) := by decide +kernel
theorem dX7_mergedBy_37 : decode cX7_mergedBy 37 = .ok (.iload_n 1, 1) := by decide +kernel
theorem dX7_mergedBy_38 : decode cX7_mergedBy 38 = .ok (.invokestatic 128, 3) := by decide +kernel
theorem dX7_mergedBy_41 : decode cX7_mergedBy 41 = .ok (.if_icmp .ne 24, 3) := by decide +kernel
theorem dX7_mergedBy_44 : decode cX7_mergedBy 44 = .ok (.iload 5, 2) := by decide +kernel
theorem dX7_mergedBy_46 : decode cX7_mergedBy 46 = .ok (.iconst 3, 1) := by decide +kernel
theorem dX7_mergedBy_47 : decode cX7_mergedBy 47 = .ok (.if_icmp .ge 18, 3) := by decide +kernel
theorem dX7_mergedBy_50 : decode cX7_mergedBy 50 = .ok (.iload 4, 2) := by decide +kernel
theorem dX7_mergedBy_52 : decode cX7_mergedBy 52 = .ok (.iload 5, 2) := by decide +kernel
theorem dX7_mergedBy_54 : decode cX7_mergedBy 54 = .ok (.invokestatic 37, 3) := by decide +kernel
theorem dX7_mergedBy_57 : decode cX7_mergedBy 57 = .ok (.iload_n 2, 1) := by decide +kernel
theorem dX7_mergedBy_58 : decode cX7_mergedBy 58 = .ok (.if_icmp .ne 7, 3) := by decide +kernel
theorem dX7_mergedBy_61 : decode cX7_mergedBy 61 = .ok (.iconst 1, 1) := by decide +kernel
theorem dX7_mergedBy_62 : decode cX7_mergedBy 62 = .ok (.goto 4, 3) := by decide +kernel
theorem dX7_mergedBy_65 : decode cX7_mergedBy 65 = .ok (.iconst 0, 1) := by decide +kernel
theorem dX7_mergedBy_66 : decode cX7_mergedBy 66 = .ok (.istore 6, 2) := by decide +kernel
theorem dX7_mergedBy_68 : decode cX7_mergedBy 68 = .ok (.iload 6, 2) := by decide +kernel
theorem dX7_mergedBy_70 : decode cX7_mergedBy 70 = .ok (.ifCond .eq 13, 3) := by decide +kernel
theorem dX7_mergedBy_73 : decode cX7_mergedBy 73 = .ok (.aload_n 0, 1) := by decide +kernel
theorem dX7_mergedBy_74 : decode cX7_mergedBy 74 = .ok (.iload_n 1, 1) := by decide +kernel
theorem dX7_mergedBy_75 : decode cX7_mergedBy 75 = .ok (.iload 4, 2) := by decide +kernel
theorem dX7_mergedBy_77 : decode cX7_mergedBy 77 = .ok (.invokevirtual 78, 3) := by decide +kernel
theorem dX7_mergedBy_80 : decode cX7_mergedBy 80 = .ok (.goto 4, 3) := by decide +kernel
theorem dX7_mergedBy_83 : decode cX7_mergedBy 83 = .ok (.iconst 0, 1) := by decide +kernel
theorem dX7_mergedBy_84 : decode cX7_mergedBy 84 = .ok (.istore 7, 2) := by decide +kernel
theorem dX7_mergedBy_86 : decode cX7_mergedBy 86 = .ok (.iload 6, 2) := by decide +kernel
theorem dX7_mergedBy_88 : decode cX7_mergedBy 88 = .ok (.ifCond .eq 19, 3) := by decide +kernel
theorem dX7_mergedBy_91 : decode cX7_mergedBy 91 = .ok (.iload_n 3, 1) := by decide +kernel
theorem dX7_mergedBy_92 : decode cX7_mergedBy 92 = .ok (.iconst (-1), 1) := by decide +kernel
theorem dX7_mergedBy_93 : decode cX7_mergedBy 93 = .ok (.if_icmp .eq 9, 3) := by decide +kernel
theorem dX7_mergedBy_96 : decode cX7_mergedBy 96 = .ok (.iload 7, 2) := by decide +kernel
theorem dX7_mergedBy_98 : decode cX7_mergedBy 98 = .ok (.iload_n 3, 1) := by decide +kernel
theorem dX7_mergedBy_99 : decode cX7_mergedBy 99 = .ok (.if_icmp .ge 8, 3) := by decide +kernel
theorem dX7_mergedBy_102 : decode cX7_mergedBy 102 = .ok (.iload 7, 2) := by decide +kernel
theorem dX7_mergedBy_104 : decode cX7_mergedBy 104 = .ok (.goto 4, 3) := by decide +kernel
theorem dX7_mergedBy_107 : decode cX7_mergedBy 107 = .ok (.iload_n 3, 1) := by decide +kernel
theorem dX7_mergedBy_108 : decode cX7_mergedBy 108 = .ok (.istore_n 3, 1) := by decide +kernel
theorem dX7_mergedBy_109 : decode cX7_mergedBy 109 = .ok (.iinc 4 1, 3) := by decide +kernel
theorem dX7_mergedBy_112 : decode cX7_mergedBy 112 = .ok (.goto (-107), 3) := by decide +kernel
theorem dX7_mergedBy_115 : decode cX7_mergedBy 115 = .ok (.iload_n 3, 1) := by decide +kernel
theorem dX7_mergedBy_116 : decode cX7_mergedBy 116 = .ok (.ireturn, 1) := by decide +kernel
set_option maxRecDepth 20000 in
theorem ggX7_joinCost_X7_isJoin : GoodIn wsX7_joinCost wsX7_isJoin := goodIn_r _ [5, 6, 7, 8, 4, 9, 10, 11, 12, 13] (by decide +kernel) (by decide +kernel)
set_option maxRecDepth 20000 in
theorem gX7_joinCost_X7_isJoin : GoodIn wsX7_joinCost (va_wsS RX7 121 yX7_isJoin wsX7_isJoin) := goodIn_app (goodIn_of _ (by decide +kernel)) ggX7_joinCost_X7_isJoin
set_option maxRecDepth 20000 in
theorem ggX7_joinCost_X7_holds : GoodIn wsX7_joinCost wsX7_holds := goodIn_r _ [17, 18, 72, 73, 74, 75, 76, 77, 78, 79, 80] (by decide +kernel) (by decide +kernel)
set_option maxRecDepth 20000 in
theorem gX7_joinCost_X7_holds : GoodIn wsX7_joinCost (wsV RX7 89 RX7 yX7_holds wsX7_holds) := goodIn_app (goodIn_of _ (by decide +kernel)) ggX7_joinCost_X7_holds
set_option maxRecDepth 20000 in
theorem ggX7_joinCost_X7_mergedBy : GoodIn wsX7_joinCost wsX7_mergedBy := goodIn_r _ [22, 1, 23, 24, 4, 25, 26, 27, 28, 29, 30, 31, 32, 33, 34, 35, 36, 37, 38, 39, 40, 41, 42, 43, 44, 45, 46, 47, 48, 49, 50, 51, 52, 53, 54, 55, 56, 57, 58, 59, 60, 72, 73, 74, 75, 76, 77, 78, 79, 80] (by decide +kernel) (by decide +kernel)
set_option maxRecDepth 20000 in
theorem gX7_joinCost_X7_mergedBy : GoodIn wsX7_joinCost (wsV RX7 131 RX7 yX7_mergedBy wsX7_mergedBy) := goodIn_app (goodIn_of _ (by decide +kernel)) ggX7_joinCost_X7_mergedBy
set_option maxRecDepth 20000 in
theorem ggX7_joinCost_X7_costOf : GoodIn wsX7_joinCost wsX7_costOf := goodIn_r _ [64, 1, 65, 66, 67, 4, 68, 35, 36, 37, 41, 42, 43, 44, 23, 24, 25, 26, 27, 28, 29, 30, 31, 32, 33, 34, 45, 46, 47, 48, 49, 50, 51, 52, 53, 54, 55, 56, 57, 58, 59, 60, 72, 73, 74, 75, 76, 77, 78, 79, 80] (by decide +kernel) (by decide +kernel)
set_option maxRecDepth 20000 in
theorem gX7_joinCost_X7_costOf : GoodIn wsX7_joinCost (wsV RX7 116 RX7 yX7_costOf wsX7_costOf) := goodIn_app (goodIn_of _ (by decide +kernel)) ggX7_joinCost_X7_costOf
set_option maxRecDepth 20000 in
theorem ggX7_joinCost_X7_isAnswer : GoodIn wsX7_joinCost wsX7_isAnswer := goodIn_r _ [57, 29, 30, 4, 31, 32, 33, 34, 58, 59, 60] (by decide +kernel) (by decide +kernel)
set_option maxRecDepth 20000 in
theorem gX7_joinCost_X7_isAnswer : GoodIn wsX7_joinCost (va_wsS RX7 59 yX7_isAnswer wsX7_isAnswer) := goodIn_app (goodIn_of _ (by decide +kernel)) ggX7_joinCost_X7_isAnswer
set_option maxRecDepth 20000 in
theorem ggX7_joinCost_X7_partOf : GoodIn wsX7_joinCost wsX7_partOf := goodIn_r _ [60] (by decide +kernel) (by decide +kernel)
set_option maxRecDepth 20000 in
theorem gX7_joinCost_X7_partOf : GoodIn wsX7_joinCost (va_wsS RX7 41 yX7_partOf wsX7_partOf) := goodIn_app (goodIn_of _ (by decide +kernel)) ggX7_joinCost_X7_partOf
set_option maxRecDepth 20000 in
theorem ggX7_joinCost_X7_bind : GoodIn wsX7_joinCost wsX7_bind := goodIn_r _ [71, 32, 33, 4, 34] (by decide +kernel) (by decide +kernel)
set_option maxRecDepth 20000 in
theorem gX7_joinCost_X7_bind : GoodIn wsX7_joinCost (va_wsS RX7 125 yX7_bind wsX7_bind) := goodIn_app (goodIn_of _ (by decide +kernel)) ggX7_joinCost_X7_bind
theorem dX7_joinCost_0 : decode cX7_joinCost 0 = .ok (.aload_n 0, 1) := by decide +kernel
theorem dX7_joinCost_1 : decode cX7_joinCost 1 = .ok (.iload_n 1, 1) := by decide +kernel
theorem dX7_joinCost_2 : decode cX7_joinCost 2 = .ok (.iload_n 2, 1) := by decide +kernel
theorem dX7_joinCost_3 : decode cX7_joinCost 3 = .ok (.iload_n 3, 1) := by decide +kernel
theorem dX7_joinCost_4 : decode cX7_joinCost 4 = .ok (.iload 4, 2) := by decide +kernel
theorem dX7_joinCost_6 : decode cX7_joinCost 6 = .ok (.invokestatic 121, 3) := by decide +kernel
theorem dX7_joinCost_9 : decode cX7_joinCost 9 = .ok (.ifCond .eq 7, 3) := by decide +kernel
theorem dX7_joinCost_12 : decode cX7_joinCost 12 = .ok (.iconst 0, 1) := by decide +kernel
theorem dX7_joinCost_13 : decode cX7_joinCost 13 = .ok (.goto 4, 3) := by decide +kernel
theorem dX7_joinCost_16 : decode cX7_joinCost 16 = .ok (.iconst 1, 1) := by decide +kernel
theorem dX7_joinCost_17 : decode cX7_joinCost 17 = .ok (.invokevirtual 89, 3) := by decide +kernel
theorem dX7_joinCost_20 : decode cX7_joinCost 20 = .ok (.ifCond .ne 5, 3) := by decide +kernel
theorem dX7_joinCost_23 : decode cX7_joinCost 23 = .ok (.iconst 0, 1) := by decide +kernel
theorem dX7_joinCost_24 : decode cX7_joinCost 24 = .ok (.ireturn, 1) := by decide +kernel
theorem dX7_joinCost_25 : decode cX7_joinCost 25 = .ok (.iload 5, 2) := by decide +kernel
theorem dX7_joinCost_27 : decode cX7_joinCost 27 = .ok (.ifCond .eq 42, 3) := by decide +kernel
theorem dX7_joinCost_30 : decode cX7_joinCost 30 = .ok (.aload_n 0, 1) := by decide +kernel
theorem dX7_joinCost_31 : decode cX7_joinCost 31 = .ok (.iload_n 1, 1) := by decide +kernel
theorem dX7_joinCost_32 : decode cX7_joinCost 32 = .ok (.iload_n 3, 1) := by decide +kernel
theorem dX7_joinCost_33 : decode cX7_joinCost 33 = .ok (.invokevirtual 131, 3) := by decide +kernel
theorem dX7_joinCost_36 : decode cX7_joinCost 36 = .ok (.istore 6, 2) := by decide +kernel
theorem dX7_joinCost_38 : decode cX7_joinCost 38 = .ok (.aload_n 0, 1) := by decide +kernel
theorem dX7_joinCost_39 : decode cX7_joinCost 39 = .ok (.iload_n 2, 1) := by decide +kernel
theorem dX7_joinCost_40 : decode cX7_joinCost 40 = .ok (.iload 4, 2) := by decide +kernel
theorem dX7_joinCost_42 : decode cX7_joinCost 42 = .ok (.invokevirtual 131, 3) := by decide +kernel
theorem dX7_joinCost_45 : decode cX7_joinCost 45 = .ok (.istore 7, 2) := by decide +kernel
theorem dX7_joinCost_47 : decode cX7_joinCost 47 = .ok (.iload 6, 2) := by decide +kernel
theorem dX7_joinCost_49 : decode cX7_joinCost 49 = .ok (.iconst (-1), 1) := by decide +kernel
theorem dX7_joinCost_50 : decode cX7_joinCost 50 = .ok (.if_icmp .eq 9, 3) := by decide +kernel
theorem dX7_joinCost_53 : decode cX7_joinCost 53 = .ok (.iload 7, 2) := by decide +kernel
theorem dX7_joinCost_55 : decode cX7_joinCost 55 = .ok (.iconst (-1), 1) := by decide +kernel
theorem dX7_joinCost_56 : decode cX7_joinCost 56 = .ok (.if_icmp .ne 7, 3) := by decide +kernel
theorem dX7_joinCost_59 : decode cX7_joinCost 59 = .ok (.iconst (-1), 1) := by decide +kernel
theorem dX7_joinCost_60 : decode cX7_joinCost 60 = .ok (.goto 8, 3) := by decide +kernel
theorem dX7_joinCost_63 : decode cX7_joinCost 63 = .ok (.iload 6, 2) := by decide +kernel
theorem dX7_joinCost_65 : decode cX7_joinCost 65 = .ok (.iload 7, 2) := by decide +kernel
theorem dX7_joinCost_67 : decode cX7_joinCost 67 = .ok (.iadd, 1) := by decide +kernel
theorem dX7_joinCost_68 : decode cX7_joinCost 68 = .ok (.ireturn, 1) := by decide +kernel
theorem dX7_joinCost_69 : decode cX7_joinCost 69 = .ok (.aload_n 0, 1) := by decide +kernel
theorem dX7_joinCost_70 : decode cX7_joinCost 70 = .ok (.iload_n 1, 1) := by decide +kernel
theorem dX7_joinCost_71 : decode cX7_joinCost 71 = .ok (.aload_n 0, 1) := by decide +kernel
theorem dX7_joinCost_72 : decode cX7_joinCost 72 = .ok (.getfield 7, 3) := by decide +kernel
theorem dX7_joinCost_75 : decode cX7_joinCost 75 = .ok (.bipush 41, 2) := by decide +kernel
theorem dX7_joinCost_77 : decode cX7_joinCost 77 = .ok (.iaload, 1) := by decide +kernel
theorem dX7_joinCost_78 : decode cX7_joinCost 78 = .ok (.invokevirtual 116, 3) := by decide +kernel
theorem dX7_joinCost_81 : decode cX7_joinCost 81 = .ok (.istore 6, 2) := by decide +kernel
theorem dX7_joinCost_83 : decode cX7_joinCost 83 = .ok (.iconst 0, 1) := by decide +kernel
theorem dX7_joinCost_84 : decode cX7_joinCost 84 = .ok (.istore 7, 2) := by decide +kernel
theorem dX7_joinCost_86 : decode cX7_joinCost 86 = .ok (.iload 7, 2) := by decide +kernel
theorem dX7_joinCost_88 : decode cX7_joinCost 88 = .ok (.aload_n 0, 1) := by decide +kernel
theorem dX7_joinCost_89 : decode cX7_joinCost 89 = .ok (.getfield 7, 3) := by decide +kernel
theorem dX7_joinCost_92 : decode cX7_joinCost 92 = .ok (.iconst 0, 1) := by decide +kernel
theorem dX7_joinCost_93 : decode cX7_joinCost 93 = .ok (.iaload, 1) := by decide +kernel
theorem dX7_joinCost_94 : decode cX7_joinCost 94 = .ok (.if_icmp .ge 78, 3) := by decide +kernel
theorem dX7_joinCost_97 : decode cX7_joinCost 97 = .ok (.iload_n 1, 1) := by decide +kernel
theorem dX7_joinCost_98 : decode cX7_joinCost 98 = .ok (.aload_n 0, 1) := by decide +kernel
theorem dX7_joinCost_99 : decode cX7_joinCost 99 = .ok (.getfield 7, 3) := by decide +kernel
theorem dX7_joinCost_102 : decode cX7_joinCost 102 = .ok (.iconst 1, 1) := by decide +kernel
theorem dX7_joinCost_103 : decode cX7_joinCost 103 = .ok (.iload 7, 2) := by decide +kernel
theorem dX7_joinCost_105 : decode cX7_joinCost 105 = .ok (.iadd, 1) := by decide +kernel
theorem dX7_joinCost_106 : decode cX7_joinCost 106 = .ok (.iaload, 1) := by decide +kernel
theorem dX7_joinCost_107 : decode cX7_joinCost 107 = .ok (.invokestatic 59, 3) := by decide +kernel
theorem dX7_joinCost_110 : decode cX7_joinCost 110 = .ok (.ifCond .eq 25, 3) := by decide +kernel
theorem dX7_joinCost_113 : decode cX7_joinCost 113 = .ok (.iload_n 2, 1) := by decide +kernel
theorem dX7_joinCost_114 : decode cX7_joinCost 114 = .ok (.iload 4, 2) := by decide +kernel
theorem dX7_joinCost_116 : decode cX7_joinCost 116 = .ok (.aload_n 0, 1) := by decide +kernel
theorem dX7_joinCost_117 : decode cX7_joinCost 117 = .ok (.getfield 7, 3) := by decide +kernel
theorem dX7_joinCost_120 : decode cX7_joinCost 120 = .ok (.iconst 1, 1) := by decide +kernel
theorem dX7_joinCost_121 : decode cX7_joinCost 121 = .ok (.iload 7, 2) := by decide +kernel
theorem dX7_joinCost_123 : decode cX7_joinCost 123 = .ok (.iadd, 1) := by decide +kernel
theorem dX7_joinCost_124 : decode cX7_joinCost 124 = .ok (.iaload, 1) := by decide +kernel
theorem dX7_joinCost_125 : decode cX7_joinCost 125 = .ok (.iload_n 3, 1) := by decide +kernel
theorem dX7_joinCost_126 : decode cX7_joinCost 126 = .ok (.invokestatic 41, 3) := by decide +kernel
theorem dX7_joinCost_129 : decode cX7_joinCost 129 = .ok (.invokestatic 125, 3) := by decide +kernel
theorem dX7_joinCost_132 : decode cX7_joinCost 132 = .ok (.goto 4, 3) := by decide +kernel
theorem dX7_joinCost_135 : decode cX7_joinCost 135 = .ok (.iconst (-1), 1) := by decide +kernel
theorem dX7_joinCost_136 : decode cX7_joinCost 136 = .ok (.istore 8, 2) := by decide +kernel
theorem dX7_joinCost_138 : decode cX7_joinCost 138 = .ok (.iload 6, 2) := by decide +kernel
theorem dX7_joinCost_140 : decode cX7_joinCost 140 = .ok (.iload 8, 2) := by decide +kernel
theorem dX7_joinCost_142 : decode cX7_joinCost 142 = .ok (.iconst (-1), 1) := by decide +kernel
theorem dX7_joinCost_143 : decode cX7_joinCost 143 = .ok (.if_icmp .ne 7, 3) := by decide +kernel
theorem dX7_joinCost_146 : decode cX7_joinCost 146 = .ok (.iconst 0, 1) := by decide +kernel
theorem dX7_joinCost_147 : decode cX7_joinCost 147 = .ok (.goto 16, 3) := by decide +kernel
theorem dX7_joinCost_150 : decode cX7_joinCost 150 = .ok (.aload_n 0, 1) := by decide +kernel
theorem dX7_joinCost_151 : decode cX7_joinCost 151 = .ok (.iload 8, 2) := by decide +kernel
theorem dX7_joinCost_153 : decode cX7_joinCost 153 = .ok (.aload_n 0, 1) := by decide +kernel
theorem dX7_joinCost_154 : decode cX7_joinCost 154 = .ok (.getfield 7, 3) := by decide +kernel
theorem dX7_joinCost_157 : decode cX7_joinCost 157 = .ok (.bipush 41, 2) := by decide +kernel
theorem dX7_joinCost_159 : decode cX7_joinCost 159 = .ok (.iaload, 1) := by decide +kernel
theorem dX7_joinCost_160 : decode cX7_joinCost 160 = .ok (.invokevirtual 116, 3) := by decide +kernel
theorem dX7_joinCost_163 : decode cX7_joinCost 163 = .ok (.iadd, 1) := by decide +kernel
theorem dX7_joinCost_164 : decode cX7_joinCost 164 = .ok (.istore 6, 2) := by decide +kernel
theorem dX7_joinCost_166 : decode cX7_joinCost 166 = .ok (.iinc 7 1, 3) := by decide +kernel
theorem dX7_joinCost_169 : decode cX7_joinCost 169 = .ok (.goto (-83), 3) := by decide +kernel
theorem dX7_joinCost_172 : decode cX7_joinCost 172 = .ok (.iload 6, 2) := by decide +kernel
theorem dX7_joinCost_174 : decode cX7_joinCost 174 = .ok (.ireturn, 1) := by decide +kernel
theorem dX7_placeOf_0 : decode cX7_placeOf 0 = .ok (.iconst (-1), 1) := by decide +kernel
theorem dX7_placeOf_1 : decode cX7_placeOf 1 = .ok (.istore_n 2, 1) := by decide +kernel
theorem dX7_placeOf_2 : decode cX7_placeOf 2 = .ok (.iconst 0, 1) := by decide +kernel
theorem dX7_placeOf_3 : decode cX7_placeOf 3 = .ok (.istore_n 3, 1) := by decide +kernel
theorem dX7_placeOf_4 : decode cX7_placeOf 4 = .ok (.iload_n 3, 1) := by decide +kernel
theorem dX7_placeOf_5 : decode cX7_placeOf 5 = .ok (.aload_n 0, 1) := by decide +kernel
theorem dX7_placeOf_6 : decode cX7_placeOf 6 = .ok (.getfield 7, 3) := by decide +kernel
theorem dX7_placeOf_9 : decode cX7_placeOf 9 = .ok (.iconst 0, 1) := by decide +kernel
theorem dX7_placeOf_10 : decode cX7_placeOf 10 = .ok (.iaload, 1) := by decide +kernel
theorem dX7_placeOf_11 : decode cX7_placeOf 11 = .ok (.if_icmp .ge 27, 3) := by decide +kernel
theorem dX7_placeOf_14 : decode cX7_placeOf 14 = .ok (.aload_n 0, 1) := by decide +kernel
theorem dX7_placeOf_15 : decode cX7_placeOf 15 = .ok (.getfield 7, 3) := by decide +kernel
theorem dX7_placeOf_18 : decode cX7_placeOf 18 = .ok (.iconst 1, 1) := by decide +kernel
theorem dX7_placeOf_19 : decode cX7_placeOf 19 = .ok (.iload_n 3, 1) := by decide +kernel
theorem dX7_placeOf_20 : decode cX7_placeOf 20 = .ok (.iadd, 1) := by decide +kernel
theorem dX7_placeOf_21 : decode cX7_placeOf 21 = .ok (.iaload, 1) := by decide +kernel
theorem dX7_placeOf_22 : decode cX7_placeOf 22 = .ok (.iload_n 1, 1) := by decide +kernel
theorem dX7_placeOf_23 : decode cX7_placeOf 23 = .ok (.if_icmp .ne 7, 3) := by decide +kernel
theorem dX7_placeOf_26 : decode cX7_placeOf 26 = .ok (.iload_n 3, 1) := by decide +kernel
theorem dX7_placeOf_27 : decode cX7_placeOf 27 = .ok (.goto 4, 3) := by decide +kernel
theorem dX7_placeOf_30 : decode cX7_placeOf 30 = .ok (.iload_n 2, 1) := by decide +kernel
theorem dX7_placeOf_31 : decode cX7_placeOf 31 = .ok (.istore_n 2, 1) := by decide +kernel
theorem dX7_placeOf_32 : decode cX7_placeOf 32 = .ok (.iinc 3 1, 3) := by decide +kernel
theorem dX7_placeOf_35 : decode cX7_placeOf 35 = .ok (.goto (-31), 3) := by decide +kernel
theorem dX7_placeOf_38 : decode cX7_placeOf 38 = .ok (.iload_n 2, 1) := by decide +kernel
theorem dX7_placeOf_39 : decode cX7_placeOf 39 = .ok (.ireturn, 1) := by decide +kernel
set_option maxRecDepth 20000 in
theorem ggX7_keepUp_X7_bitsOf : GoodIn wsX7_keepUp wsX7_bitsOf := goodIn_r _ [5] (by decide +kernel) (by decide +kernel)
set_option maxRecDepth 20000 in
theorem gX7_keepUp_X7_bitsOf : GoodIn wsX7_keepUp (va_wsS RX7 134 yX7_bitsOf wsX7_bitsOf) := goodIn_app (goodIn_of _ (by decide +kernel)) ggX7_keepUp_X7_bitsOf
set_option maxRecDepth 20000 in
theorem ggX7_keepUp_X7_look : GoodIn wsX7_keepUp wsX7_look := goodIn_r _ [8] (by decide +kernel) (by decide +kernel)
set_option maxRecDepth 20000 in
theorem gX7_keepUp_X7_look : GoodIn wsX7_keepUp (va_wsS RX7 65 yX7_look wsX7_look) := goodIn_app (goodIn_of _ (by decide +kernel)) ggX7_keepUp_X7_look
theorem dX7_keepUp_0 : decode cX7_keepUp 0 = .ok (.aload_n 0, 1) := by decide +kernel
theorem dX7_keepUp_1 : decode cX7_keepUp 1 = .ok (.getfield 7, 3) := by decide +kernel
theorem dX7_keepUp_4 : decode cX7_keepUp 4 = .ok (.bipush 42, 2) := by decide +kernel
theorem dX7_keepUp_6 : decode cX7_keepUp 6 = .ok (.dup2, 1) := by decide +kernel
theorem dX7_keepUp_7 : decode cX7_keepUp 7 = .ok (.iaload, 1) := by decide +kernel
theorem dX7_keepUp_8 : decode cX7_keepUp 8 = .ok (.aload_n 0, 1) := by decide +kernel
theorem dX7_keepUp_9 : decode cX7_keepUp 9 = .ok (.getfield 7, 3) := by decide +kernel
theorem dX7_keepUp_12 : decode cX7_keepUp 12 = .ok (.bipush 41, 2) := by decide +kernel
theorem dX7_keepUp_14 : decode cX7_keepUp 14 = .ok (.iaload, 1) := by decide +kernel
theorem dX7_keepUp_15 : decode cX7_keepUp 15 = .ok (.invokestatic 134, 3) := by decide +kernel
theorem dX7_keepUp_18 : decode cX7_keepUp 18 = .ok (.aload_n 0, 1) := by decide +kernel
theorem dX7_keepUp_19 : decode cX7_keepUp 19 = .ok (.getfield 7, 3) := by decide +kernel
theorem dX7_keepUp_22 : decode cX7_keepUp 22 = .ok (.iconst 0, 1) := by decide +kernel
theorem dX7_keepUp_23 : decode cX7_keepUp 23 = .ok (.iaload, 1) := by decide +kernel
theorem dX7_keepUp_24 : decode cX7_keepUp 24 = .ok (.invokestatic 65, 3) := by decide +kernel
theorem dX7_keepUp_27 : decode cX7_keepUp 27 = .ok (.iconst 1, 1) := by decide +kernel
theorem dX7_keepUp_28 : decode cX7_keepUp 28 = .ok (.iadd, 1) := by decide +kernel
theorem dX7_keepUp_29 : decode cX7_keepUp 29 = .ok (.imul, 1) := by decide +kernel
theorem dX7_keepUp_30 : decode cX7_keepUp 30 = .ok (.iadd, 1) := by decide +kernel
theorem dX7_keepUp_31 : decode cX7_keepUp 31 = .ok (.iastore, 1) := by decide +kernel
theorem dX7_keepUp_32 : decode cX7_keepUp 32 = .ok (.return_, 1) := by decide +kernel
set_option maxRecDepth 20000 in
theorem ggX7_addFault_X7_in : GoodIn wsX7_addFault wsX7_in := goodIn_r _ [6] (by decide +kernel) (by decide +kernel)
set_option maxRecDepth 20000 in
theorem gX7_addFault_X7_in : GoodIn wsX7_addFault (va_wsS RX7 53 yX7_in wsX7_in) := goodIn_app (goodIn_of _ (by decide +kernel)) ggX7_addFault_X7_in
set_option maxRecDepth 20000 in
theorem ggX7_addFault_X7_placeOf : GoodIn wsX7_addFault wsX7_placeOf := goodIn_r _ [10, 2, 11, 12, 13, 14, 15, 16, 17, 18, 19] (by decide +kernel) (by decide +kernel)
set_option maxRecDepth 20000 in
theorem gX7_addFault_X7_placeOf : GoodIn wsX7_addFault (wsV RX7 139 RX7 yX7_placeOf wsX7_placeOf) := goodIn_app (goodIn_of _ (by decide +kernel)) ggX7_addFault_X7_placeOf
theorem dX7_addFault_0 : decode cX7_addFault 0 = .ok (.iload_n 1, 1) := by decide +kernel
theorem dX7_addFault_1 : decode cX7_addFault 1 = .ok (.i2l, 1) := by decide +kernel
theorem dX7_addFault_2 : decode cX7_addFault 2 = .ok (.lconst 0, 1) := by decide +kernel
theorem dX7_addFault_3 : decode cX7_addFault 3 = .ok (.ldc2_w 137, 3) := by decide +kernel
theorem dX7_addFault_6 : decode cX7_addFault 6 = .ok (.invokestatic 53, 3) := by decide +kernel
theorem dX7_addFault_9 : decode cX7_addFault 9 = .ok (.ifCond .ne 7, 3) := by decide +kernel
theorem dX7_addFault_12 : decode cX7_addFault 12 = .ok (.iconst 1, 1) := by decide +kernel
theorem dX7_addFault_13 : decode cX7_addFault 13 = .ok (.goto 28, 3) := by decide +kernel
theorem dX7_addFault_16 : decode cX7_addFault 16 = .ok (.aload_n 0, 1) := by decide +kernel
theorem dX7_addFault_17 : decode cX7_addFault 17 = .ok (.iload_n 1, 1) := by decide +kernel
theorem dX7_addFault_18 : decode cX7_addFault 18 = .ok (.invokevirtual 139, 3) := by decide +kernel
theorem dX7_addFault_21 : decode cX7_addFault 21 = .ok (.iconst (-1), 1) := by decide +kernel
theorem dX7_addFault_22 : decode cX7_addFault 22 = .ok (.if_icmp .ne 18, 3) := by decide +kernel
theorem dX7_addFault_25 : decode cX7_addFault 25 = .ok (.aload_n 0, 1) := by decide +kernel
theorem dX7_addFault_26 : decode cX7_addFault 26 = .ok (.getfield 7, 3) := by decide +kernel
theorem dX7_addFault_29 : decode cX7_addFault 29 = .ok (.iconst 0, 1) := by decide +kernel
theorem dX7_addFault_30 : decode cX7_addFault 30 = .ok (.iaload, 1) := by decide +kernel
theorem dX7_addFault_31 : decode cX7_addFault 31 = .ok (.bipush 40, 2) := by decide +kernel
theorem dX7_addFault_33 : decode cX7_addFault 33 = .ok (.if_icmp .ne 7, 3) := by decide +kernel
theorem dX7_addFault_36 : decode cX7_addFault 36 = .ok (.iconst 2, 1) := by decide +kernel
theorem dX7_addFault_37 : decode cX7_addFault 37 = .ok (.goto 4, 3) := by decide +kernel
theorem dX7_addFault_40 : decode cX7_addFault 40 = .ok (.iconst 0, 1) := by decide +kernel
theorem dX7_addFault_41 : decode cX7_addFault 41 = .ok (.ireturn, 1) := by decide +kernel
set_option maxRecDepth 20000 in
theorem ggX7_adds_X7_placeOf : GoodIn wsX7_adds wsX7_placeOf := goodIn_r _ [6, 1, 17, 18, 19, 20, 21, 22, 23, 24, 25] (by decide +kernel) (by decide +kernel)
set_option maxRecDepth 20000 in
theorem gX7_adds_X7_placeOf : GoodIn wsX7_adds (wsV RX7 139 RX7 yX7_placeOf wsX7_placeOf) := goodIn_app (goodIn_of _ (by decide +kernel)) ggX7_adds_X7_placeOf
set_option maxRecDepth 20000 in
theorem ggX7_adds_X7_keepUp : GoodIn wsX7_adds wsX7_keepUp := goodIn_r _ [10, 1, 11, 12, 5, 13, 14, 15, 16, 17, 18, 19, 20, 21, 22, 23, 24, 25] (by decide +kernel) (by decide +kernel)
set_option maxRecDepth 20000 in
theorem gX7_adds_X7_keepUp : GoodIn wsX7_adds (wsV RX7 142 RX7 yX7_keepUp wsX7_keepUp) := goodIn_app (goodIn_of _ (by decide +kernel)) ggX7_adds_X7_keepUp
theorem dX7_adds_0 : decode cX7_adds 0 = .ok (.aload_n 0, 1) := by decide +kernel
theorem dX7_adds_1 : decode cX7_adds 1 = .ok (.iload_n 1, 1) := by decide +kernel
theorem dX7_adds_2 : decode cX7_adds 2 = .ok (.invokevirtual 139, 3) := by decide +kernel
theorem dX7_adds_5 : decode cX7_adds 5 = .ok (.iconst (-1), 1) := by decide +kernel
theorem dX7_adds_6 : decode cX7_adds 6 = .ok (.if_icmp .eq 5, 3) := by decide +kernel
theorem dX7_adds_9 : decode cX7_adds 9 = .ok (.iconst 0, 1) := by decide +kernel
theorem dX7_adds_10 : decode cX7_adds 10 = .ok (.ireturn, 1) := by decide +kernel
theorem dX7_adds_11 : decode cX7_adds 11 = .ok (.aload_n 0, 1) := by decide +kernel
theorem dX7_adds_12 : decode cX7_adds 12 = .ok (.invokevirtual 142, 3) := by decide +kernel
theorem dX7_adds_15 : decode cX7_adds 15 = .ok (.aload_n 0, 1) := by decide +kernel
theorem dX7_adds_16 : decode cX7_adds 16 = .ok (.getfield 7, 3) := by decide +kernel
theorem dX7_adds_19 : decode cX7_adds 19 = .ok (.iconst 1, 1) := by decide +kernel
theorem dX7_adds_20 : decode cX7_adds 20 = .ok (.aload_n 0, 1) := by decide +kernel
theorem dX7_adds_21 : decode cX7_adds 21 = .ok (.getfield 7, 3) := by decide +kernel
theorem dX7_adds_24 : decode cX7_adds 24 = .ok (.iconst 0, 1) := by decide +kernel
theorem dX7_adds_25 : decode cX7_adds 25 = .ok (.iaload, 1) := by decide +kernel
theorem dX7_adds_26 : decode cX7_adds 26 = .ok (.iadd, 1) := by decide +kernel
theorem dX7_adds_27 : decode cX7_adds 27 = .ok (.iload_n 1, 1) := by decide +kernel
theorem dX7_adds_28 : decode cX7_adds 28 = .ok (.iastore, 1) := by decide +kernel
theorem dX7_adds_29 : decode cX7_adds 29 = .ok (.aload_n 0, 1) := by decide +kernel
theorem dX7_adds_30 : decode cX7_adds 30 = .ok (.getfield 7, 3) := by decide +kernel
theorem dX7_adds_33 : decode cX7_adds 33 = .ok (.iconst 0, 1) := by decide +kernel
theorem dX7_adds_34 : decode cX7_adds 34 = .ok (.dup2, 1) := by decide +kernel
theorem dX7_adds_35 : decode cX7_adds 35 = .ok (.iaload, 1) := by decide +kernel
theorem dX7_adds_36 : decode cX7_adds 36 = .ok (.iconst 1, 1) := by decide +kernel
theorem dX7_adds_37 : decode cX7_adds 37 = .ok (.iadd, 1) := by decide +kernel
theorem dX7_adds_38 : decode cX7_adds 38 = .ok (.iastore, 1) := by decide +kernel
theorem dX7_adds_39 : decode cX7_adds 39 = .ok (.iconst 1, 1) := by decide +kernel
theorem dX7_adds_40 : decode cX7_adds 40 = .ok (.ireturn, 1) := by decide +kernel
set_option maxRecDepth 20000 in
theorem ggX7_removes_X7_placeOf : GoodIn wsX7_removes wsX7_placeOf := goodIn_r _ [6, 1, 17, 18, 19, 20, 21, 22, 23, 24, 25] (by decide +kernel) (by decide +kernel)
set_option maxRecDepth 20000 in
theorem gX7_removes_X7_placeOf : GoodIn wsX7_removes (wsV RX7 139 RX7 yX7_placeOf wsX7_placeOf) := goodIn_app (goodIn_of _ (by decide +kernel)) ggX7_removes_X7_placeOf
set_option maxRecDepth 20000 in
theorem ggX7_removes_X7_keepUp : GoodIn wsX7_removes wsX7_keepUp := goodIn_r _ [10, 1, 11, 12, 5, 13, 14, 15, 16, 17, 18, 19, 20, 21, 22, 23, 24, 25] (by decide +kernel) (by decide +kernel)
set_option maxRecDepth 20000 in
theorem gX7_removes_X7_keepUp : GoodIn wsX7_removes (wsV RX7 142 RX7 yX7_keepUp wsX7_keepUp) := goodIn_app (goodIn_of _ (by decide +kernel)) ggX7_removes_X7_keepUp
theorem dX7_removes_0 : decode cX7_removes 0 = .ok (.aload_n 0, 1) := by decide +kernel
theorem dX7_removes_1 : decode cX7_removes 1 = .ok (.iload_n 1, 1) := by decide +kernel
theorem dX7_removes_2 : decode cX7_removes 2 = .ok (.invokevirtual 139, 3) := by decide +kernel
theorem dX7_removes_5 : decode cX7_removes 5 = .ok (.istore_n 2, 1) := by decide +kernel
theorem dX7_removes_6 : decode cX7_removes 6 = .ok (.iload_n 2, 1) := by decide +kernel
theorem dX7_removes_7 : decode cX7_removes 7 = .ok (.iconst (-1), 1) := by decide +kernel
theorem dX7_removes_8 : decode cX7_removes 8 = .ok (.if_icmp .ne 5, 3) := by decide +kernel
theorem dX7_removes_11 : decode cX7_removes 11 = .ok (.iconst 0, 1) := by decide +kernel
theorem dX7_removes_12 : decode cX7_removes 12 = .ok (.ireturn, 1) := by decide +kernel
theorem dX7_removes_13 : decode cX7_removes 13 = .ok (.aload_n 0, 1) := by decide +kernel
theorem dX7_removes_14 : decode cX7_removes 14 = .ok (.invokevirtual 142, 3) := by decide +kernel
theorem dX7_removes_17 : decode cX7_removes 17 = .ok (.iload_n 2, 1) := by decide +kernel
theorem dX7_removes_18 : decode cX7_removes 18 = .ok (.istore_n 3, 1) := by decide +kernel
theorem dX7_removes_19 : decode cX7_removes 19 = .ok (.iload_n 3, 1) := by decide +kernel
theorem dX7_removes_20 : decode cX7_removes 20 = .ok (.iconst 1, 1) := by decide +kernel
theorem dX7_removes_21 : decode cX7_removes 21 = .ok (.iadd, 1) := by decide +kernel
theorem dX7_removes_22 : decode cX7_removes 22 = .ok (.aload_n 0, 1) := by decide +kernel
theorem dX7_removes_23 : decode cX7_removes 23 = .ok (.getfield 7, 3) := by decide +kernel
theorem dX7_removes_26 : decode cX7_removes 26 = .ok (.iconst 0, 1) := by decide +kernel
theorem dX7_removes_27 : decode cX7_removes 27 = .ok (.iaload, 1) := by decide +kernel
theorem dX7_removes_28 : decode cX7_removes 28 = .ok (.if_icmp .ge 27, 3) := by decide +kernel
theorem dX7_removes_31 : decode cX7_removes 31 = .ok (.aload_n 0, 1) := by decide +kernel
theorem dX7_removes_32 : decode cX7_removes 32 = .ok (.getfield 7, 3) := by decide +kernel
theorem dX7_removes_35 : decode cX7_removes 35 = .ok (.iconst 1, 1) := by decide +kernel
theorem dX7_removes_36 : decode cX7_removes 36 = .ok (.iload_n 3, 1) := by decide +kernel
theorem dX7_removes_37 : decode cX7_removes 37 = .ok (.iadd, 1) := by decide +kernel
theorem dX7_removes_38 : decode cX7_removes 38 = .ok (.aload_n 0, 1) := by decide +kernel
theorem dX7_removes_39 : decode cX7_removes 39 = .ok (.getfield 7, 3) := by decide +kernel
theorem dX7_removes_42 : decode cX7_removes 42 = .ok (.iconst 1, 1) := by decide +kernel
theorem dX7_removes_43 : decode cX7_removes 43 = .ok (.iload_n 3, 1) := by decide +kernel
theorem dX7_removes_44 : decode cX7_removes 44 = .ok (.iadd, 1) := by decide +kernel
theorem dX7_removes_45 : decode cX7_removes 45 = .ok (.iconst 1, 1) := by decide +kernel
theorem dX7_removes_46 : decode cX7_removes 46 = .ok (.iadd, 1) := by decide +kernel
theorem dX7_removes_47 : decode cX7_removes 47 = .ok (.iaload, 1) := by decide +kernel
theorem dX7_removes_48 : decode cX7_removes 48 = .ok (.iastore, 1) := by decide +kernel
theorem dX7_removes_49 : decode cX7_removes 49 = .ok (.iinc 3 1, 3) := by decide +kernel
theorem dX7_removes_52 : decode cX7_removes 52 = .ok (.goto (-33), 3) := by decide +kernel
theorem dX7_removes_55 : decode cX7_removes 55 = .ok (.aload_n 0, 1) := by decide +kernel
theorem dX7_removes_56 : decode cX7_removes 56 = .ok (.getfield 7, 3) := by decide +kernel
theorem dX7_removes_59 : decode cX7_removes 59 = .ok (.iconst 0, 1) := by decide +kernel
theorem dX7_removes_60 : decode cX7_removes 60 = .ok (.dup2, 1) := by decide +kernel
theorem dX7_removes_61 : decode cX7_removes 61 = .ok (.iaload, 1) := by decide +kernel
theorem dX7_removes_62 : decode cX7_removes 62 = .ok (.iconst 1, 1) := by decide +kernel
theorem dX7_removes_63 : decode cX7_removes 63 = .ok (.isub, 1) := by decide +kernel
theorem dX7_removes_64 : decode cX7_removes 64 = .ok (.iastore, 1) := by decide +kernel
theorem dX7_removes_65 : decode cX7_removes 65 = .ok (.iconst 1, 1) := by decide +kernel
theorem dX7_removes_66 : decode cX7_removes 66 = .ok (.ireturn, 1) := by decide +kernel
set_option maxRecDepth 20000 in
theorem ggX7_asks_X7_costOf : GoodIn wsX7_asks wsX7_costOf := goodIn_r _ [6, 1, 7, 8, 9, 5, 10, 11, 12, 13, 14, 15, 16, 17, 18, 19, 20, 21, 22, 23, 24, 25, 26, 27, 28, 29, 30, 31, 32, 33, 34, 35, 36, 37, 38, 39, 40, 41, 42, 43, 44, 45, 46, 47, 48, 49, 50, 51, 52, 53, 54] (by decide +kernel) (by decide +kernel)
set_option maxRecDepth 20000 in
theorem gX7_asks_X7_costOf : GoodIn wsX7_asks (wsV RX7 116 RX7 yX7_costOf wsX7_costOf) := goodIn_app (goodIn_of _ (by decide +kernel)) ggX7_asks_X7_costOf
set_option maxRecDepth 20000 in
theorem ggX7_asks_X7_answersOf : GoodIn wsX7_asks wsX7_answersOf := goodIn_r _ [39, 1, 40, 41, 5, 42, 24, 25, 26, 27, 28, 29, 43, 44, 45, 46, 47, 48, 49, 50, 51, 52, 53, 54] (by decide +kernel) (by decide +kernel)
set_option maxRecDepth 20000 in
theorem gX7_asks_X7_answersOf : GoodIn wsX7_asks (wsV RX7 72 RX7 yX7_answersOf wsX7_answersOf) := goodIn_app (goodIn_of _ (by decide +kernel)) ggX7_asks_X7_answersOf
theorem dX7_asks_0 : decode cX7_asks 0 = .ok (.aload_n 0, 1) := by decide +kernel
theorem dX7_asks_1 : decode cX7_asks 1 = .ok (.getfield 7, 3) := by decide +kernel
theorem dX7_asks_4 : decode cX7_asks 4 = .ok (.bipush 46, 2) := by decide +kernel
theorem dX7_asks_6 : decode cX7_asks 6 = .ok (.iaload, 1) := by decide +kernel
theorem dX7_asks_7 : decode cX7_asks 7 = .ok (.bipush 12, 2) := by decide +kernel
theorem dX7_asks_9 : decode cX7_asks 9 = .ok (.if_icmp .ne 50, 3) := by decide +kernel
theorem dX7_asks_12 : decode cX7_asks 12 = .ok (.iconst 0, 1) := by decide +kernel
theorem dX7_asks_13 : decode cX7_asks 13 = .ok (.istore_n 2, 1) := by decide +kernel
theorem dX7_asks_14 : decode cX7_asks 14 = .ok (.iload_n 2, 1) := by decide +kernel
theorem dX7_asks_15 : decode cX7_asks 15 = .ok (.iconst 1, 1) := by decide +kernel
theorem dX7_asks_16 : decode cX7_asks 16 = .ok (.iadd, 1) := by decide +kernel
theorem dX7_asks_17 : decode cX7_asks 17 = .ok (.bipush 12, 2) := by decide +kernel
theorem dX7_asks_19 : decode cX7_asks 19 = .ok (.if_icmp .ge 29, 3) := by decide +kernel
theorem dX7_asks_22 : decode cX7_asks 22 = .ok (.aload_n 0, 1) := by decide +kernel
theorem dX7_asks_23 : decode cX7_asks 23 = .ok (.getfield 7, 3) := by decide +kernel
theorem dX7_asks_26 : decode cX7_asks 26 = .ok (.bipush 47, 2) := by decide +kernel
theorem dX7_asks_28 : decode cX7_asks 28 = .ok (.iload_n 2, 1) := by decide +kernel
theorem dX7_asks_29 : decode cX7_asks 29 = .ok (.iadd, 1) := by decide +kernel
theorem dX7_asks_30 : decode cX7_asks 30 = .ok (.aload_n 0, 1) := by decide +kernel
theorem dX7_asks_31 : decode cX7_asks 31 = .ok (.getfield 7, 3) := by decide +kernel
theorem dX7_asks_34 : decode cX7_asks 34 = .ok (.bipush 47, 2) := by decide +kernel
theorem dX7_asks_36 : decode cX7_asks 36 = .ok (.iload_n 2, 1) := by decide +kernel
theorem dX7_asks_37 : decode cX7_asks 37 = .ok (.iadd, 1) := by decide +kernel
theorem dX7_asks_38 : decode cX7_asks 38 = .ok (.iconst 1, 1) := by decide +kernel
theorem dX7_asks_39 : decode cX7_asks 39 = .ok (.iadd, 1) := by decide +kernel
theorem dX7_asks_40 : decode cX7_asks 40 = .ok (.iaload, 1) := by decide +kernel
theorem dX7_asks_41 : decode cX7_asks 41 = .ok (.iastore, 1) := by decide +kernel
theorem dX7_asks_42 : decode cX7_asks 42 = .ok (.iinc 2 1, 3) := by decide +kernel
theorem dX7_asks_45 : decode cX7_asks 45 = .ok (.goto (-31), 3) := by decide +kernel
theorem dX7_asks_48 : decode cX7_asks 48 = .ok (.aload_n 0, 1) := by decide +kernel
theorem dX7_asks_49 : decode cX7_asks 49 = .ok (.getfield 7, 3) := by decide +kernel
theorem dX7_asks_52 : decode cX7_asks 52 = .ok (.bipush 46, 2) := by decide +kernel
theorem dX7_asks_54 : decode cX7_asks 54 = .ok (.dup2, 1) := by decide +kernel
theorem dX7_asks_55 : decode cX7_asks 55 = .ok (.iaload, 1) := by decide +kernel
theorem dX7_asks_56 : decode cX7_asks 56 = .ok (.iconst 1, 1) := by decide +kernel
theorem dX7_asks_57 : decode cX7_asks 57 = .ok (.isub, 1) := by decide +kernel
theorem dX7_asks_58 : decode cX7_asks 58 = .ok (.iastore, 1) := by decide +kernel
theorem dX7_asks_59 : decode cX7_asks 59 = .ok (.aload_n 0, 1) := by decide +kernel
theorem dX7_asks_60 : decode cX7_asks 60 = .ok (.getfield 7, 3) := by decide +kernel
theorem dX7_asks_63 : decode cX7_asks 63 = .ok (.bipush 47, 2) := by decide +kernel
theorem dX7_asks_65 : decode cX7_asks 65 = .ok (.aload_n 0, 1) := by decide +kernel
theorem dX7_asks_66 : decode cX7_asks 66 = .ok (.getfield 7, 3) := by decide +kernel
theorem dX7_asks_69 : decode cX7_asks 69 = .ok (.bipush 46, 2) := by decide +kernel
theorem dX7_asks_71 : decode cX7_asks 71 = .ok (.iaload, 1) := by decide +kernel
theorem dX7_asks_72 : decode cX7_asks 72 = .ok (.iadd, 1) := by decide +kernel
theorem dX7_asks_73 : decode cX7_asks 73 = .ok (.iload_n 1, 1) := by decide +kernel
theorem dX7_asks_74 : decode cX7_asks 74 = .ok (.iastore, 1) := by decide +kernel
theorem dX7_asks_75 : decode cX7_asks 75 = .ok (.aload_n 0, 1) := by decide +kernel
theorem dX7_asks_76 : decode cX7_asks 76 = .ok (.getfield 7, 3) := by decide +kernel
theorem dX7_asks_79 : decode cX7_asks 79 = .ok (.bipush 46, 2) := by decide +kernel
theorem dX7_asks_81 : decode cX7_asks 81 = .ok (.dup2, 1) := by decide +kernel
theorem dX7_asks_82 : decode cX7_asks 82 = .ok (.iaload, 1) := by decide +kernel
theorem dX7_asks_83 : decode cX7_asks 83 = .ok (.iconst 1, 1) := by decide +kernel
theorem dX7_asks_84 : decode cX7_asks 84 = .ok (.iadd, 1) := by decide +kernel
theorem dX7_asks_85 : decode cX7_asks 85 = .ok (.iastore, 1) := by decide +kernel
theorem dX7_asks_86 : decode cX7_asks 86 = .ok (.aload_n 0, 1) := by decide +kernel
theorem dX7_asks_87 : decode cX7_asks 87 = .ok (.getfield 7, 3) := by decide +kernel
theorem dX7_asks_90 : decode cX7_asks 90 = .ok (.bipush 45, 2) := by decide +kernel
theorem dX7_asks_92 : decode cX7_asks 92 = .ok (.dup2, 1) := by decide +kernel
theorem dX7_asks_93 : decode cX7_asks 93 = .ok (.iaload, 1) := by decide +kernel
theorem dX7_asks_94 : decode cX7_asks 94 = .ok (.iconst 1, 1) := by decide +kernel
theorem dX7_asks_95 : decode cX7_asks 95 = .ok (.iadd, 1) := by decide +kernel
theorem dX7_asks_96 : decode cX7_asks 96 = .ok (.iastore, 1) := by decide +kernel
theorem dX7_asks_97 : decode cX7_asks 97 = .ok (.aload_n 0, 1) := by decide +kernel
theorem dX7_asks_98 : decode cX7_asks 98 = .ok (.getfield 7, 3) := by decide +kernel
theorem dX7_asks_101 : decode cX7_asks 101 = .ok (.bipush 44, 2) := by decide +kernel
theorem dX7_asks_103 : decode cX7_asks 103 = .ok (.dup2, 1) := by decide +kernel
theorem dX7_asks_104 : decode cX7_asks 104 = .ok (.iaload, 1) := by decide +kernel
theorem dX7_asks_105 : decode cX7_asks 105 = .ok (.aload_n 0, 1) := by decide +kernel
theorem dX7_asks_106 : decode cX7_asks 106 = .ok (.iload_n 1, 1) := by decide +kernel
theorem dX7_asks_107 : decode cX7_asks 107 = .ok (.aload_n 0, 1) := by decide +kernel
theorem dX7_asks_108 : decode cX7_asks 108 = .ok (.getfield 7, 3) := by decide +kernel
theorem dX7_asks_111 : decode cX7_asks 111 = .ok (.bipush 41, 2) := by decide +kernel
theorem dX7_asks_113 : decode cX7_asks 113 = .ok (.iaload, 1) := by decide +kernel
theorem dX7_asks_114 : decode cX7_asks 114 = .ok (.invokevirtual 116, 3) := by decide +kernel
theorem dX7_asks_117 : decode cX7_asks 117 = .ok (.iadd, 1) := by decide +kernel
theorem dX7_asks_118 : decode cX7_asks 118 = .ok (.iastore, 1) := by decide +kernel
theorem dX7_asks_119 : decode cX7_asks 119 = .ok (.aload_n 0, 1) := by decide +kernel
theorem dX7_asks_120 : decode cX7_asks 120 = .ok (.iload_n 1, 1) := by decide +kernel
theorem dX7_asks_121 : decode cX7_asks 121 = .ok (.invokevirtual 72, 3) := by decide +kernel
theorem dX7_asks_124 : decode cX7_asks 124 = .ok (.ireturn, 1) := by decide +kernel
set_option maxRecDepth 20000 in
theorem ggX7_builds_X7_look : GoodIn wsX7_builds wsX7_look := goodIn_r _ [5] (by decide +kernel) (by decide +kernel)
set_option maxRecDepth 20000 in
theorem gX7_builds_X7_look : GoodIn wsX7_builds (va_wsS RX7 65 yX7_look wsX7_look) := goodIn_app (goodIn_of _ (by decide +kernel)) ggX7_builds_X7_look
theorem dX7_builds_0 : decode cX7_builds 0 = .ok (.aload_n 0, 1) := by decide +kernel
theorem dX7_builds_1 : decode cX7_builds 1 = .ok (.getfield 7, 3) := by decide +kernel
theorem dX7_builds_4 : decode cX7_builds 4 = .ok (.iconst 0, 1) := by decide +kernel
theorem dX7_builds_5 : decode cX7_builds 5 = .ok (.iaload, 1) := by decide +kernel
theorem dX7_builds_6 : decode cX7_builds 6 = .ok (.aload_n 0, 1) := by decide +kernel
theorem dX7_builds_7 : decode cX7_builds 7 = .ok (.getfield 7, 3) := by decide +kernel
theorem dX7_builds_10 : decode cX7_builds 10 = .ok (.iconst 0, 1) := by decide +kernel
theorem dX7_builds_11 : decode cX7_builds 11 = .ok (.iaload, 1) := by decide +kernel
theorem dX7_builds_12 : decode cX7_builds 12 = .ok (.invokestatic 65, 3) := by decide +kernel
theorem dX7_builds_15 : decode cX7_builds 15 = .ok (.imul, 1) := by decide +kernel
theorem dX7_builds_16 : decode cX7_builds 16 = .ok (.istore_n 2, 1) := by decide +kernel
theorem dX7_builds_17 : decode cX7_builds 17 = .ok (.aload_n 0, 1) := by decide +kernel
theorem dX7_builds_18 : decode cX7_builds 18 = .ok (.getfield 7, 3) := by decide +kernel
theorem dX7_builds_21 : decode cX7_builds 21 = .ok (.bipush 43, 2) := by decide +kernel
theorem dX7_builds_23 : decode cX7_builds 23 = .ok (.dup2, 1) := by decide +kernel
theorem dX7_builds_24 : decode cX7_builds 24 = .ok (.iaload, 1) := by decide +kernel
theorem dX7_builds_25 : decode cX7_builds 25 = .ok (.iload_n 2, 1) := by decide +kernel
theorem dX7_builds_26 : decode cX7_builds 26 = .ok (.iadd, 1) := by decide +kernel
theorem dX7_builds_27 : decode cX7_builds 27 = .ok (.iastore, 1) := by decide +kernel
theorem dX7_builds_28 : decode cX7_builds 28 = .ok (.aload_n 0, 1) := by decide +kernel
theorem dX7_builds_29 : decode cX7_builds 29 = .ok (.getfield 7, 3) := by decide +kernel
theorem dX7_builds_32 : decode cX7_builds 32 = .ok (.bipush 41, 2) := by decide +kernel
theorem dX7_builds_34 : decode cX7_builds 34 = .ok (.dup2, 1) := by decide +kernel
theorem dX7_builds_35 : decode cX7_builds 35 = .ok (.iaload, 1) := by decide +kernel
theorem dX7_builds_36 : decode cX7_builds 36 = .ok (.iconst 1, 1) := by decide +kernel
theorem dX7_builds_37 : decode cX7_builds 37 = .ok (.iload_n 1, 1) := by decide +kernel
theorem dX7_builds_38 : decode cX7_builds 38 = .ok (.ishl, 1) := by decide +kernel
theorem dX7_builds_39 : decode cX7_builds 39 = .ok (.ior, 1) := by decide +kernel
theorem dX7_builds_40 : decode cX7_builds 40 = .ok (.iastore, 1) := by decide +kernel
theorem dX7_builds_41 : decode cX7_builds 41 = .ok (.iload_n 2, 1) := by decide +kernel
theorem dX7_builds_42 : decode cX7_builds 42 = .ok (.ireturn, 1) := by decide +kernel
set_option maxRecDepth 20000 in
theorem ggX7_drops_X7_bitsOf : GoodIn wsX7_drops wsX7_bitsOf := goodIn_r _ [5] (by decide +kernel) (by decide +kernel)
set_option maxRecDepth 20000 in
theorem gX7_drops_X7_bitsOf : GoodIn wsX7_drops (va_wsS RX7 134 yX7_bitsOf wsX7_bitsOf) := goodIn_app (goodIn_of _ (by decide +kernel)) ggX7_drops_X7_bitsOf
theorem dX7_drops_0 : decode cX7_drops 0 = .ok (.aload_n 0, 1) := by decide +kernel
theorem dX7_drops_1 : decode cX7_drops 1 = .ok (.getfield 7, 3) := by decide +kernel
theorem dX7_drops_4 : decode cX7_drops 4 = .ok (.bipush 41, 2) := by decide +kernel
theorem dX7_drops_6 : decode cX7_drops 6 = .ok (.dup2, 1) := by decide +kernel
theorem dX7_drops_7 : decode cX7_drops 7 = .ok (.iaload, 1) := by decide +kernel
theorem dX7_drops_8 : decode cX7_drops 8 = .ok (.iconst 1, 1) := by decide +kernel
theorem dX7_drops_9 : decode cX7_drops 9 = .ok (.iload_n 1, 1) := by decide +kernel
theorem dX7_drops_10 : decode cX7_drops 10 = .ok (.ishl, 1) := by decide +kernel
theorem dX7_drops_11 : decode cX7_drops 11 = .ok (.iconst (-1), 1) := by decide +kernel
theorem dX7_drops_12 : decode cX7_drops 12 = .ok (.ixor, 1) := by decide +kernel
theorem dX7_drops_13 : decode cX7_drops 13 = .ok (.iand, 1) := by decide +kernel
theorem dX7_drops_14 : decode cX7_drops 14 = .ok (.iastore, 1) := by decide +kernel
theorem dX7_drops_15 : decode cX7_drops 15 = .ok (.aload_n 0, 1) := by decide +kernel
theorem dX7_drops_16 : decode cX7_drops 16 = .ok (.getfield 7, 3) := by decide +kernel
theorem dX7_drops_19 : decode cX7_drops 19 = .ok (.bipush 41, 2) := by decide +kernel
theorem dX7_drops_21 : decode cX7_drops 21 = .ok (.iaload, 1) := by decide +kernel
theorem dX7_drops_22 : decode cX7_drops 22 = .ok (.invokestatic 134, 3) := by decide +kernel
theorem dX7_drops_25 : decode cX7_drops 25 = .ok (.ireturn, 1) := by decide +kernel
set_option maxRecDepth 20000 in
theorem ggX7_tidies_X7_advice : GoodIn wsX7_tidies wsX7_advice := goodIn_r _ [5, 6, 7, 8, 4, 9, 10, 11, 12, 13, 14, 15, 16, 17, 18, 19, 20, 21, 22, 23, 24, 25, 26, 27, 28, 29, 30, 31, 32, 33, 34, 35, 36, 37, 38, 39, 40, 41, 42, 43, 44, 45, 46, 47, 48, 49, 50, 51, 52, 53, 54, 55, 56, 57, 58, 59, 60, 61, 73, 74, 75, 76, 77, 78, 79, 80, 81] (by decide +kernel) (by decide +kernel)
set_option maxRecDepth 20000 in
theorem gX7_tidies_X7_advice : GoodIn wsX7_tidies (wsV RX7 145 RX7 yX7_advice wsX7_advice) := goodIn_app (goodIn_of _ (by decide +kernel)) ggX7_tidies_X7_advice
set_option maxRecDepth 20000 in
theorem ggX7_tidies_X7_builds : GoodIn wsX7_tidies wsX7_builds := goodIn_r _ [65, 6, 42, 43, 4, 44, 73, 74, 75, 76, 77, 78, 79, 80, 81] (by decide +kernel) (by decide +kernel)
set_option maxRecDepth 20000 in
theorem gX7_tidies_X7_builds : GoodIn wsX7_tidies (wsV RX7 148 RX7 yX7_builds wsX7_builds) := goodIn_app (goodIn_of _ (by decide +kernel)) ggX7_tidies_X7_builds
set_option maxRecDepth 20000 in
theorem ggX7_tidies_X7_drops : GoodIn wsX7_tidies wsX7_drops := goodIn_r _ [69, 6, 70, 71, 4, 72, 73, 74, 75, 76, 77, 78, 79, 80, 81] (by decide +kernel) (by decide +kernel)
set_option maxRecDepth 20000 in
theorem gX7_tidies_X7_drops : GoodIn wsX7_tidies (wsV RX7 151 RX7 yX7_drops wsX7_drops) := goodIn_app (goodIn_of _ (by decide +kernel)) ggX7_tidies_X7_drops
theorem dX7_tidies_0 : decode cX7_tidies 0 = .ok (.aload_n 0, 1) := by decide +kernel
theorem dX7_tidies_1 : decode cX7_tidies 1 = .ok (.iconst 1, 1) := by decide +kernel
theorem dX7_tidies_2 : decode cX7_tidies 2 = .ok (.invokevirtual 145, 3) := by decide +kernel
theorem dX7_tidies_5 : decode cX7_tidies 5 = .ok (.istore_n 1, 1) := by decide +kernel
theorem dX7_tidies_6 : decode cX7_tidies 6 = .ok (.iload_n 1, 1) := by decide +kernel
theorem dX7_tidies_7 : decode cX7_tidies 7 = .ok (.iconst (-1), 1) := by decide +kernel
theorem dX7_tidies_8 : decode cX7_tidies 8 = .ok (.if_icmp .eq 14, 3) := by decide +kernel
theorem dX7_tidies_11 : decode cX7_tidies 11 = .ok (.aload_n 0, 1) := by decide +kernel
theorem dX7_tidies_12 : decode cX7_tidies 12 = .ok (.iload_n 1, 1) := by decide +kernel
theorem dX7_tidies_13 : decode cX7_tidies 13 = .ok (.invokevirtual 148, 3) := by decide +kernel
theorem dX7_tidies_16 : decode cX7_tidies 16 = .ok (.istore_n 2, 1) := by decide +kernel
theorem dX7_tidies_17 : decode cX7_tidies 17 = .ok (.bipush 10, 2) := by decide +kernel
theorem dX7_tidies_19 : decode cX7_tidies 19 = .ok (.iload_n 1, 1) := by decide +kernel
theorem dX7_tidies_20 : decode cX7_tidies 20 = .ok (.iadd, 1) := by decide +kernel
theorem dX7_tidies_21 : decode cX7_tidies 21 = .ok (.ireturn, 1) := by decide +kernel
theorem dX7_tidies_22 : decode cX7_tidies 22 = .ok (.aload_n 0, 1) := by decide +kernel
theorem dX7_tidies_23 : decode cX7_tidies 23 = .ok (.iconst 0, 1) := by decide +kernel
theorem dX7_tidies_24 : decode cX7_tidies 24 = .ok (.invokevirtual 145, 3) := by decide +kernel
theorem dX7_tidies_27 : decode cX7_tidies 27 = .ok (.istore_n 2, 1) := by decide +kernel
theorem dX7_tidies_28 : decode cX7_tidies 28 = .ok (.iload_n 2, 1) := by decide +kernel
theorem dX7_tidies_29 : decode cX7_tidies 29 = .ok (.iconst (-1), 1) := by decide +kernel
theorem dX7_tidies_30 : decode cX7_tidies 30 = .ok (.if_icmp .eq 9, 3) := by decide +kernel
theorem dX7_tidies_33 : decode cX7_tidies 33 = .ok (.aload_n 0, 1) := by decide +kernel
theorem dX7_tidies_34 : decode cX7_tidies 34 = .ok (.iload_n 2, 1) := by decide +kernel
theorem dX7_tidies_35 : decode cX7_tidies 35 = .ok (.invokevirtual 151, 3) := by decide +kernel
theorem dX7_tidies_38 : decode cX7_tidies 38 = .ok (.istore_n 3, 1) := by decide +kernel
theorem dX7_tidies_39 : decode cX7_tidies 39 = .ok (.iload_n 2, 1) := by decide +kernel
theorem dX7_tidies_40 : decode cX7_tidies 40 = .ok (.ireturn, 1) := by decide +kernel
set_option maxRecDepth 20000 in
theorem ggX7_add_X7_addFault : GoodIn wsX7_add wsX7_addFault := goodIn_r _ [5, 6, 7, 8, 9, 4, 10, 11, 12, 13, 14, 40, 41, 42, 43, 44, 45, 46, 47, 48] (by decide +kernel) (by decide +kernel)
set_option maxRecDepth 20000 in
theorem gX7_add_X7_addFault : GoodIn wsX7_add (wsV RX7 154 RX7 yX7_addFault wsX7_addFault) := goodIn_app (goodIn_of _ (by decide +kernel)) ggX7_add_X7_addFault
set_option maxRecDepth 20000 in
theorem ggX7_add_X7_holds : GoodIn wsX7_add wsX7_holds := goodIn_r _ [18, 19, 40, 41, 42, 43, 44, 45, 46, 47, 48] (by decide +kernel) (by decide +kernel)
set_option maxRecDepth 20000 in
theorem gX7_add_X7_holds : GoodIn wsX7_add (wsV RX7 89 RX7 yX7_holds wsX7_holds) := goodIn_app (goodIn_of _ (by decide +kernel)) ggX7_add_X7_holds
set_option maxRecDepth 20000 in
theorem ggX7_add_X7_remember : GoodIn wsX7_add wsX7_remember := goodIn_r _ [23, 24, 25, 7, 40, 41, 42, 43, 44, 45, 46, 47, 48] (by decide +kernel) (by decide +kernel)
set_option maxRecDepth 20000 in
theorem gX7_add_X7_remember : GoodIn wsX7_add (wsV RX7 157 RX7 yX7_remember wsX7_remember) := goodIn_app (goodIn_of _ (by decide +kernel)) ggX7_add_X7_remember
