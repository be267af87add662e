theorem dX4_look_24 : decode cX4_look 24 = .ok (.iload_n 1, 1) := by decide +kernel
theorem dX4_look_25 : decode cX4_look 25 = .ok (.ireturn, 1) := by decide +kernel
theorem dX4_tripleAt_0 : decode cX4_tripleAt 0 = .ok (.iload_n 1, 1) := by decide +kernel
theorem dX4_tripleAt_1 : decode cX4_tripleAt 1 = .ok (.ifCond .lt 29, 3) := by decide +kernel
theorem dX4_tripleAt_4 : decode cX4_tripleAt 4 = .ok (.iload_n 1, 1) := by decide +kernel
theorem dX4_tripleAt_5 : decode cX4_tripleAt 5 = .ok (.aload_n 0, 1) := by decide +kernel
theorem dX4_tripleAt_6 : decode cX4_tripleAt 6 = .ok (.getfield 25, 3) := by decide +kernel
theorem dX4_tripleAt_9 : decode cX4_tripleAt 9 = .ok (.if_icmp .ge 21, 3) := by decide +kernel
theorem dX4_tripleAt_12 : decode cX4_tripleAt 12 = .ok (.iload_n 1, 1) := by decide +kernel
theorem dX4_tripleAt_13 : decode cX4_tripleAt 13 = .ok (.aload_n 0, 1) := by decide +kernel
theorem dX4_tripleAt_14 : decode cX4_tripleAt 14 = .ok (.getfield 9, 3) := by decide +kernel
theorem dX4_tripleAt_17 : decode cX4_tripleAt 17 = .ok (.arraylength, 1) := by decide +kernel
theorem dX4_tripleAt_18 : decode cX4_tripleAt 18 = .ok (.if_icmp .ge 12, 3) := by decide +kernel
theorem dX4_tripleAt_21 : decode cX4_tripleAt 21 = .ok (.aload_n 0, 1) := by decide +kernel
theorem dX4_tripleAt_22 : decode cX4_tripleAt 22 = .ok (.getfield 9, 3) := by decide +kernel
theorem dX4_tripleAt_25 : decode cX4_tripleAt 25 = .ok (.iload_n 1, 1) := by decide +kernel
theorem dX4_tripleAt_26 : decode cX4_tripleAt 26 = .ok (.iaload, 1) := by decide +kernel
theorem dX4_tripleAt_27 : decode cX4_tripleAt 27 = .ok (.goto 4, 3) := by decide +kernel
theorem dX4_tripleAt_30 : decode cX4_tripleAt 30 = .ok (.iconst (-1), 1) := by decide +kernel
theorem dX4_tripleAt_31 : decode cX4_tripleAt 31 = .ok (.ireturn, 1) := by decide +kernel
theorem dX4_questionAt_0 : decode cX4_questionAt 0 = .ok (.iload_n 1, 1) := by decide +kernel
theorem dX4_questionAt_1 : decode cX4_questionAt 1 = .ok (.ifCond .lt 29, 3) := by decide +kernel
theorem dX4_questionAt_4 : decode cX4_questionAt 4 = .ok (.iload_n 1, 1) := by decide +kernel
theorem dX4_questionAt_5 : decode cX4_questionAt 5 = .ok (.aload_n 0, 1) := by decide +kernel
theorem dX4_questionAt_6 : decode cX4_questionAt 6 = .ok (.getfield 44, 3) := by decide +kernel
theorem dX4_questionAt_9 : decode cX4_questionAt 9 = .ok (.if_icmp .ge 21, 3) := by decide +kernel
theorem dX4_questionAt_12 : decode cX4_questionAt 12 = .ok (.iload_n 1, 1) := by decide +kernel
theorem dX4_questionAt_13 : decode cX4_questionAt 13 = .ok (.aload_n 0, 1) := by decide +kernel
theorem dX4_questionAt_14 : decode cX4_questionAt 14 = .ok (.getfield 19, 3) := by decide +kernel
theorem dX4_questionAt_17 : decode cX4_questionAt 17 = .ok (.arraylength, 1) := by decide +kernel
theorem dX4_questionAt_18 : decode cX4_questionAt 18 = .ok (.if_icmp .ge 12, 3) := by decide +kernel
theorem dX4_questionAt_21 : decode cX4_questionAt 21 = .ok (.aload_n 0, 1) := by decide +kernel
theorem dX4_questionAt_22 : decode cX4_questionAt 22 = .ok (.getfield 19, 3) := by decide +kernel
theorem dX4_questionAt_25 : decode cX4_questionAt 25 = .ok (.iload_n 1, 1) := by decide +kernel
theorem dX4_questionAt_26 : decode cX4_questionAt 26 = .ok (.iaload, 1) := by decide +kernel
theorem dX4_questionAt_27 : decode cX4_questionAt 27 = .ok (.goto 4, 3) := by decide +kernel
theorem dX4_questionAt_30 : decode cX4_questionAt 30 = .ok (.iconst (-1), 1) := by decide +kernel
theorem dX4_questionAt_31 : decode cX4_questionAt 31 = .ok (.ireturn, 1) := by decide +kernel
set_option maxRecDepth 20000 in
theorem ggX4_canPut_X4_indexOf : GoodIn wsX4_canPut wsX4_indexOf := goodIn_r _ [7, 1, 8, 9, 10, 6, 11, 2, 12, 13, 14, 15, 16, 17, 18, 19, 20, 21] (by decide +kernel) (by decide +kernel)
set_option maxRecDepth 20000 in
theorem gX4_canPut_X4_indexOf : GoodIn wsX4_canPut (wsV RX4 47 RX4 yX4_indexOf wsX4_indexOf) := goodIn_app (goodIn_of _ (by decide +kernel)) ggX4_canPut_X4_indexOf
theorem dX4_canPut_0 : decode cX4_canPut 0 = .ok (.aload_n 0, 1) := by decide +kernel
theorem dX4_canPut_1 : decode cX4_canPut 1 = .ok (.getfield 25, 3) := by decide +kernel
theorem dX4_canPut_4 : decode cX4_canPut 4 = .ok (.aload_n 0, 1) := by decide +kernel
theorem dX4_canPut_5 : decode cX4_canPut 5 = .ok (.getfield 9, 3) := by decide +kernel
theorem dX4_canPut_8 : decode cX4_canPut 8 = .ok (.arraylength, 1) := by decide +kernel
theorem dX4_canPut_9 : decode cX4_canPut 9 = .ok (.if_icmp .lt 12, 3) := by decide +kernel
theorem dX4_canPut_12 : decode cX4_canPut 12 = .ok (.aload_n 0, 1) := by decide +kernel
theorem dX4_canPut_13 : decode cX4_canPut 13 = .ok (.iload_n 1, 1) := by decide +kernel
theorem dX4_canPut_14 : decode cX4_canPut 14 = .ok (.invokevirtual 47, 3) := by decide +kernel
theorem dX4_canPut_17 : decode cX4_canPut 17 = .ok (.iconst (-1), 1) := by decide +kernel
theorem dX4_canPut_18 : decode cX4_canPut 18 = .ok (.if_icmp .eq 7, 3) := by decide +kernel
theorem dX4_canPut_21 : decode cX4_canPut 21 = .ok (.iconst 1, 1) := by decide +kernel
theorem dX4_canPut_22 : decode cX4_canPut 22 = .ok (.goto 4, 3) := by decide +kernel
theorem dX4_canPut_25 : decode cX4_canPut 25 = .ok (.iconst 0, 1) := by decide +kernel
theorem dX4_canPut_26 : decode cX4_canPut 26 = .ok (.ireturn, 1) := by decide +kernel
set_option maxRecDepth 20000 in
theorem ggX4_put_X4_indexOf : GoodIn wsX4_put wsX4_indexOf := goodIn_r _ [7, 1, 8, 9, 10, 6, 11, 2, 29, 30, 31, 32, 33, 34, 35, 36, 37, 38] (by decide +kernel) (by decide +kernel)
set_option maxRecDepth 20000 in
theorem gX4_put_X4_indexOf : GoodIn wsX4_put (wsV RX4 47 RX4 yX4_indexOf wsX4_indexOf) := goodIn_app (goodIn_of _ (by decide +kernel)) ggX4_put_X4_indexOf
set_option maxRecDepth 20000 in
theorem ggX4_put_X4_payUpkeep : GoodIn wsX4_put wsX4_payUpkeep := goodIn_r _ [15, 16, 17, 18, 19, 20, 21, 22, 23, 24, 25, 26, 27, 6, 28, 1, 29, 30, 31, 32, 33, 34, 35, 36, 37, 38] (by decide +kernel) (by decide +kernel)
set_option maxRecDepth 20000 in
theorem gX4_put_X4_payUpkeep : GoodIn wsX4_put (wsV RX4 51 RX4 yX4_payUpkeep wsX4_payUpkeep) := goodIn_app (goodIn_of _ (by decide +kernel)) ggX4_put_X4_payUpkeep
theorem dX4_put_0 : decode cX4_put 0 = .ok (.aload_n 0, 1) := by decide +kernel
theorem dX4_put_1 : decode cX4_put 1 = .ok (.getfield 25, 3) := by decide +kernel
theorem dX4_put_4 : decode cX4_put 4 = .ok (.ifCond .lt 24, 3) := by decide +kernel
theorem dX4_put_7 : decode cX4_put 7 = .ok (.aload_n 0, 1) := by decide +kernel
theorem dX4_put_8 : decode cX4_put 8 = .ok (.getfield 25, 3) := by decide +kernel
theorem dX4_put_11 : decode cX4_put 11 = .ok (.aload_n 0, 1) := by decide +kernel
theorem dX4_put_12 : decode cX4_put 12 = .ok (.getfield 9, 3) := by decide +kernel
theorem dX4_put_15 : decode cX4_put 15 = .ok (.arraylength, 1) := by decide +kernel
theorem dX4_put_16 : decode cX4_put 16 = .ok (.if_icmp .ge 12, 3) := by decide +kernel
theorem dX4_put_19 : decode cX4_put 19 = .ok (.aload_n 0, 1) := by decide +kernel
theorem dX4_put_20 : decode cX4_put 20 = .ok (.iload_n 1, 1) := by decide +kernel
theorem dX4_put_21 : decode cX4_put 21 = .ok (.invokevirtual 47, 3) := by decide +kernel
theorem dX4_put_24 : decode cX4_put 24 = .ok (.iconst (-1), 1) := by decide +kernel
theorem dX4_put_25 : decode cX4_put 25 = .ok (.if_icmp .eq 5, 3) := by decide +kernel
theorem dX4_put_28 : decode cX4_put 28 = .ok (.iconst 0, 1) := by decide +kernel
theorem dX4_put_29 : decode cX4_put 29 = .ok (.ireturn, 1) := by decide +kernel
theorem dX4_put_30 : decode cX4_put 30 = .ok (.aload_n 0, 1) := by decide +kernel
theorem dX4_put_31 : decode cX4_put 31 = .ok (.invokevirtual 51, 3) := by decide +kernel
theorem dX4_put_34 : decode cX4_put 34 = .ok (.aload_n 0, 1) := by decide +kernel
theorem dX4_put_35 : decode cX4_put 35 = .ok (.getfield 9, 3) := by decide +kernel
theorem dX4_put_38 : decode cX4_put 38 = .ok (.aload_n 0, 1) := by decide +kernel
theorem dX4_put_39 : decode cX4_put 39 = .ok (.getfield 25, 3) := by decide +kernel
theorem dX4_put_42 : decode cX4_put 42 = .ok (.iload_n 1, 1) := by decide +kernel
theorem dX4_put_43 : decode cX4_put 43 = .ok (.iastore, 1) := by decide +kernel
theorem dX4_put_44 : decode cX4_put 44 = .ok (.aload_n 0, 1) := by decide +kernel
theorem dX4_put_45 : decode cX4_put 45 = .ok (.dup, 1) := by decide +kernel
theorem dX4_put_46 : decode cX4_put 46 = .ok (.getfield 25, 3) := by decide +kernel
theorem dX4_put_49 : decode cX4_put 49 = .ok (.iconst 1, 1) := by decide +kernel
theorem dX4_put_50 : decode cX4_put 50 = .ok (.iadd, 1) := by decide +kernel
theorem dX4_put_51 : decode cX4_put 51 = .ok (.putfield 25, 3) := by decide +kernel
theorem dX4_put_54 : decode cX4_put 54 = .ok (.iconst 1, 1) := by decide +kernel
theorem dX4_put_55 : decode cX4_put 55 = .ok (.ireturn, 1) := by decide +kernel
set_option maxRecDepth 20000 in
theorem ggX4_take_X4_indexOf : GoodIn wsX4_take wsX4_indexOf := goodIn_r _ [7, 1, 8, 9, 10, 6, 11, 2, 29, 30, 31, 32, 33, 34, 35, 36, 37, 38] (by decide +kernel) (by decide +kernel)
set_option maxRecDepth 20000 in
theorem gX4_take_X4_indexOf : GoodIn wsX4_take (wsV RX4 47 RX4 yX4_indexOf wsX4_indexOf) := goodIn_app (goodIn_of _ (by decide +kernel)) ggX4_take_X4_indexOf
set_option maxRecDepth 20000 in
theorem ggX4_take_X4_payUpkeep : GoodIn wsX4_take wsX4_payUpkeep := goodIn_r _ [15, 16, 17, 18, 19, 20, 21, 22, 23, 24, 25, 26, 27, 6, 28, 1, 29, 30, 31, 32, 33, 34, 35, 36, 37, 38] (by decide +kernel) (by decide +kernel)
set_option maxRecDepth 20000 in
theorem gX4_take_X4_payUpkeep : GoodIn wsX4_take (wsV RX4 51 RX4 yX4_payUpkeep wsX4_payUpkeep) := goodIn_app (goodIn_of _ (by decide +kernel)) ggX4_take_X4_payUpkeep
theorem dX4_take_0 : decode cX4_take 0 = .ok (.aload_n 0, 1) := by decide +kernel
theorem dX4_take_1 : decode cX4_take 1 = .ok (.iload_n 1, 1) := by decide +kernel
theorem dX4_take_2 : decode cX4_take 2 = .ok (.invokevirtual 47, 3) := by decide +kernel
theorem dX4_take_5 : decode cX4_take 5 = .ok (.istore_n 2, 1) := by decide +kernel
theorem dX4_take_6 : decode cX4_take 6 = .ok (.iload_n 2, 1) := by decide +kernel
theorem dX4_take_7 : decode cX4_take 7 = .ok (.ifCond .ge 5, 3) := by decide +kernel
theorem dX4_take_10 : decode cX4_take 10 = .ok (.iconst 0, 1) := by decide +kernel
theorem dX4_take_11 : decode cX4_take 11 = .ok (.ireturn, 1) := by decide +kernel
theorem dX4_take_12 : decode cX4_take 12 = .ok (.aload_n 0, 1) := by decide +kernel
theorem dX4_take_13 : decode cX4_take 13 = .ok (.invokevirtual 51, 3) := by decide +kernel
theorem dX4_take_16 : decode cX4_take 16 = .ok (.iload_n 2, 1) := by decide +kernel
theorem dX4_take_17 : decode cX4_take 17 = .ok (.istore_n 3, 1) := by decide +kernel
theorem dX4_take_18 : decode cX4_take 18 = .ok (.iload_n 3, 1) := by decide +kernel
theorem dX4_take_19 : decode cX4_take 19 = .ok (.iconst 1, 1) := by decide +kernel
theorem dX4_take_20 : decode cX4_take 20 = .ok (.iadd, 1) := by decide +kernel
theorem dX4_take_21 : decode cX4_take 21 = .ok (.aload_n 0, 1) := by decide +kernel
theorem dX4_take_22 : decode cX4_take 22 = .ok (.getfield 25, 3) := by decide +kernel
theorem dX4_take_25 : decode cX4_take 25 = .ok (.if_icmp .ge 34, 3) := by decide +kernel
theorem dX4_take_28 : decode cX4_take 28 = .ok (.iload_n 3, 1) := by decide +kernel
theorem dX4_take_29 : decode cX4_take 29 = .ok (.iconst 1, 1) := by decide +kernel
theorem dX4_take_30 : decode cX4_take 30 = .ok (.iadd, 1) := by decide +kernel
theorem dX4_take_31 : decode cX4_take 31 = .ok (.aload_n 0, 1) := by decide +kernel
theorem dX4_take_32 : decode cX4_take 32 = .ok (.getfield 9, 3) := by decide +kernel
theorem dX4_take_35 : decode cX4_take 35 = .ok (.arraylength, 1) := by decide +kernel
theorem dX4_take_36 : decode cX4_take 36 = .ok (.if_icmp .ge 23, 3) := by decide +kernel
theorem dX4_take_39 : decode cX4_take 39 = .ok (.aload_n 0, 1) := by decide +kernel
theorem dX4_take_40 : decode cX4_take 40 = .ok (.getfield 9, 3) := by decide +kernel
theorem dX4_take_43 : decode cX4_take 43 = .ok (.iload_n 3, 1) := by decide +kernel
theorem dX4_take_44 : decode cX4_take 44 = .ok (.aload_n 0, 1) := by decide +kernel
theorem dX4_take_45 : decode cX4_take 45 = .ok (.getfield 9, 3) := by decide +kernel
theorem dX4_take_48 : decode cX4_take 48 = .ok (.iload_n 3, 1) := by decide +kernel
theorem dX4_take_49 : decode cX4_take 49 = .ok (.iconst 1, 1) := by decide +kernel
theorem dX4_take_50 : decode cX4_take 50 = .ok (.iadd, 1) := by decide +kernel
theorem dX4_take_51 : decode cX4_take 51 = .ok (.iaload, 1) := by decide +kernel
theorem dX4_take_52 : decode cX4_take 52 = .ok (.iastore, 1) := by decide +kernel
theorem dX4_take_53 : decode cX4_take 53 = .ok (.iinc 3 1, 3) := by decide +kernel
theorem dX4_take_56 : decode cX4_take 56 = .ok (.goto (-38), 3) := by decide +kernel
theorem dX4_take_59 : decode cX4_take 59 = .ok (.aload_n 0, 1) := by decide +kernel
theorem dX4_take_60 : decode cX4_take 60 = .ok (.dup, 1) := by decide +kernel
theorem dX4_take_61 : decode cX4_take 61 = .ok (.getfield 25, 3) := by decide +kernel
theorem dX4_take_64 : decode cX4_take 64 = .ok (.iconst 1, 1) := by decide +kernel
theorem dX4_take_65 : decode cX4_take 65 = .ok (.isub, 1) := by decide +kernel
theorem dX4_take_66 : decode cX4_take 66 = .ok (.putfield 25, 3) := by decide +kernel
theorem dX4_take_69 : decode cX4_take 69 = .ok (.iconst 1, 1) := by decide +kernel
theorem dX4_take_70 : decode cX4_take 70 = .ok (.ireturn, 1) := by decide +kernel
set_option maxRecDepth 20000 in
theorem ggX4_indexOf_X4_tripleAt : GoodIn wsX4_indexOf wsX4_tripleAt := goodIn_r _ [6, 1, 7, 8, 9, 10, 11, 12, 13, 14, 15, 16, 17] (by decide +kernel) (by decide +kernel)
set_option maxRecDepth 20000 in
theorem gX4_indexOf_X4_tripleAt : GoodIn wsX4_indexOf (wsV RX4 54 RX4 yX4_tripleAt wsX4_tripleAt) := goodIn_app (goodIn_of _ (by decide +kernel)) ggX4_indexOf_X4_tripleAt
theorem dX4_indexOf_0 : decode cX4_indexOf 0 = .ok (.iconst 0, 1) := by decide +kernel
theorem dX4_indexOf_1 : decode cX4_indexOf 1 = .ok (.istore_n 2, 1) := by decide +kernel
theorem dX4_indexOf_2 : decode cX4_indexOf 2 = .ok (.iload_n 2, 1) := by decide +kernel
theorem dX4_indexOf_3 : decode cX4_indexOf 3 = .ok (.aload_n 0, 1) := by decide +kernel
theorem dX4_indexOf_4 : decode cX4_indexOf 4 = .ok (.getfield 25, 3) := by decide +kernel
theorem dX4_indexOf_7 : decode cX4_indexOf 7 = .ok (.if_icmp .ge 20, 3) := by decide +kernel
theorem dX4_indexOf_10 : decode cX4_indexOf 10 = .ok (.aload_n 0, 1) := by decide +kernel
theorem dX4_indexOf_11 : decode cX4_indexOf 11 = .ok (.iload_n 2, 1) := by decide +kernel
theorem dX4_indexOf_12 : decode cX4_indexOf 12 = .ok (.invokevirtual 54, 3) := by decide +kernel
theorem dX4_indexOf_15 : decode cX4_indexOf 15 = .ok (.iload_n 1, 1) := by decide +kernel
theorem dX4_indexOf_16 : decode cX4_indexOf 16 = .ok (.if_icmp .ne 5, 3) := by decide +kernel
theorem dX4_indexOf_19 : decode cX4_indexOf 19 = .ok (.iload_n 2, 1) := by decide +kernel
theorem dX4_indexOf_20 : decode cX4_indexOf 20 = .ok (.ireturn, 1) := by decide +kernel
theorem dX4_indexOf_21 : decode cX4_indexOf 21 = .ok (.iinc 2 1, 3) := by decide +kernel
theorem dX4_indexOf_24 : decode cX4_indexOf 24 = .ok (.goto (-22), 3) := by decide +kernel
theorem dX4_indexOf_27 : decode cX4_indexOf 27 = .ok (.iconst (-1), 1) := by decide +kernel
theorem dX4_indexOf_28 : decode cX4_indexOf 28 = .ok (.ireturn, 1) := by decide +kernel
set_option maxRecDepth 20000 in
theorem ggX4_payUpkeep_J6_bitCount_0f7a4 : GoodIn wsX4_payUpkeep wsJ6_bitCount_0f7a4 := goodIn_r _ [6, 7, 8, 9] (by decide +kernel) (by decide +kernel)
set_option maxRecDepth 20000 in
theorem gX4_payUpkeep_J6_bitCount_0f7a4 : GoodIn wsX4_payUpkeep (va_wsS RX4 57 yJ6_bitCount_0f7a4 wsJ6_bitCount_0f7a4) := goodIn_app (goodIn_of _ (by decide +kernel)) ggX4_payUpkeep_J6_bitCount_0f7a4
set_option maxRecDepth 20000 in
theorem ggX4_payUpkeep_X4_look : GoodIn wsX4_payUpkeep wsX4_look := goodIn_r _ [14, 15, 16, 17, 18, 19, 20, 21, 22, 23, 24, 25] (by decide +kernel) (by decide +kernel)
set_option maxRecDepth 20000 in
theorem gX4_payUpkeep_X4_look : GoodIn wsX4_payUpkeep (wsV RX4 62 RX4 yX4_look wsX4_look) := goodIn_app (goodIn_of _ (by decide +kernel)) ggX4_payUpkeep_X4_look
theorem dX4_payUpkeep_0 : decode cX4_payUpkeep 0 = .ok (.aload_n 0, 1) := by decide +kernel
theorem dX4_payUpkeep_1 : decode cX4_payUpkeep 1 = .ok (.dup, 1) := by decide +kernel
theorem dX4_payUpkeep_2 : decode cX4_payUpkeep 2 = .ok (.getfield 32, 3) := by decide +kernel
theorem dX4_payUpkeep_5 : decode cX4_payUpkeep 5 = .ok (.aload_n 0, 1) := by decide +kernel
theorem dX4_payUpkeep_6 : decode cX4_payUpkeep 6 = .ok (.getfield 15, 3) := by decide +kernel
theorem dX4_payUpkeep_9 : decode cX4_payUpkeep 9 = .ok (.invokestatic 57, 3) := by decide +kernel
theorem dX4_payUpkeep_12 : decode cX4_payUpkeep 12 = .ok (.aload_n 0, 1) := by decide +kernel
theorem dX4_payUpkeep_13 : decode cX4_payUpkeep 13 = .ok (.invokevirtual 62, 3) := by decide +kernel
theorem dX4_payUpkeep_16 : decode cX4_payUpkeep 16 = .ok (.iconst 1, 1) := by decide +kernel
theorem dX4_payUpkeep_17 : decode cX4_payUpkeep 17 = .ok (.iadd, 1) := by decide +kernel
theorem dX4_payUpkeep_18 : decode cX4_payUpkeep 18 = .ok (.imul, 1) := by decide +kernel
theorem dX4_payUpkeep_19 : decode cX4_payUpkeep 19 = .ok (.iadd, 1) := by decide +kernel
theorem dX4_payUpkeep_20 : decode cX4_payUpkeep 20 = .ok (.putfield 32, 3) := by decide +kernel
theorem dX4_payUpkeep_23 : decode cX4_payUpkeep 23 = .ok (.return_, 1) := by decide +kernel
theorem dX4_keeps_0 : decode cX4_keeps 0 = .ok (.aload_n 0, 1) := by decide +kernel
theorem dX4_keeps_1 : decode cX4_keeps 1 = .ok (.getfield 15, 3) := by decide +kernel
theorem dX4_keeps_4 : decode cX4_keeps 4 = .ok (.iload_n 1, 1) := by decide +kernel
theorem dX4_keeps_5 : decode cX4_keeps 5 = .ok (.ishr, 1) := by decide +kernel
theorem dX4_keeps_6 : decode cX4_keeps 6 = .ok (.iconst 1, 1) := by decide +kernel
theorem dX4_keeps_7 : decode cX4_keeps 7 = .ok (.iand, 1) := by decide +kernel
theorem dX4_keeps_8 : decode cX4_keeps 8 = .ok (.iconst 1, 1) := by decide +kernel
theorem dX4_keeps_9 : decode cX4_keeps 9 = .ok (.if_icmp .ne 7, 3) := by decide +kernel
theorem dX4_keeps_12 : decode cX4_keeps 12 = .ok (.iconst 1, 1) := by decide +kernel
theorem dX4_keeps_13 : decode cX4_keeps 13 = .ok (.goto 4, 3) := by decide +kernel
theorem dX4_keeps_16 : decode cX4_keeps 16 = .ok (.iconst 0, 1) := by decide +kernel
theorem dX4_keeps_17 : decode cX4_keeps 17 = .ok (.ireturn, 1) := by decide +kernel
set_option maxRecDepth 20000 in
theorem ggX4_keep_X4_look : GoodIn wsX4_keep wsX4_look := goodIn_r _ [8, 1, 9, 10, 11, 12, 13, 14, 15, 16, 17, 18] (by decide +kernel) (by decide +kernel)
set_option maxRecDepth 20000 in
theorem gX4_keep_X4_look : GoodIn wsX4_keep (wsV RX4 62 RX4 yX4_look wsX4_look) := goodIn_app (goodIn_of _ (by decide +kernel)) ggX4_keep_X4_look
theorem dX4_keep_0 : decode cX4_keep 0 = .ok (.aload_n 0, 1) := by decide +kernel
theorem dX4_keep_1 : decode cX4_keep 1 = .ok (.getfield 25, 3) := by decide +kernel
theorem dX4_keep_4 : decode cX4_keep 4 = .ok (.aload_n 0, 1) := by decide +kernel
theorem dX4_keep_5 : decode cX4_keep 5 = .ok (.invokevirtual 62, 3) := by decide +kernel
theorem dX4_keep_8 : decode cX4_keep 8 = .ok (.imul, 1) := by decide +kernel
theorem dX4_keep_9 : decode cX4_keep 9 = .ok (.istore_n 2, 1) := by decide +kernel
theorem dX4_keep_10 : decode cX4_keep 10 = .ok (.aload_n 0, 1) := by decide +kernel
theorem dX4_keep_11 : decode cX4_keep 11 = .ok (.dup, 1) := by decide +kernel
theorem dX4_keep_12 : decode cX4_keep 12 = .ok (.getfield 35, 3) := by decide +kernel
theorem dX4_keep_15 : decode cX4_keep 15 = .ok (.iload_n 2, 1) := by decide +kernel
theorem dX4_keep_16 : decode cX4_keep 16 = .ok (.iadd, 1) := by decide +kernel
theorem dX4_keep_17 : decode cX4_keep 17 = .ok (.putfield 35, 3) := by decide +kernel
theorem dX4_keep_20 : decode cX4_keep 20 = .ok (.aload_n 0, 1) := by decide +kernel
theorem dX4_keep_21 : decode cX4_keep 21 = .ok (.dup, 1) := by decide +kernel
theorem dX4_keep_22 : decode cX4_keep 22 = .ok (.getfield 15, 3) := by decide +kernel
theorem dX4_keep_25 : decode cX4_keep 25 = .ok (.iconst 1, 1) := by decide +kernel
theorem dX4_keep_26 : decode cX4_keep 26 = .ok (.iload_n 1, 1) := by decide +kernel
theorem dX4_keep_27 : decode cX4_keep 27 = .ok (.ishl, 1) := by decide +kernel
theorem dX4_keep_28 : decode cX4_keep 28 = .ok (.ior, 1) := by decide +kernel
theorem dX4_keep_29 : decode cX4_keep 29 = .ok (.putfield 15, 3) := by decide +kernel
theorem dX4_keep_32 : decode cX4_keep 32 = .ok (.iload_n 2, 1) := by decide +kernel
theorem dX4_keep_33 : decode cX4_keep 33 = .ok (.ireturn, 1) := by decide +kernel
set_option maxRecDepth 20000 in
theorem ggX4_discard_J6_bitCount_0f7a4 : GoodIn wsX4_discard wsJ6_bitCount_0f7a4 := goodIn_r _ [5, 6, 7, 8] (by decide +kernel) (by decide +kernel)
set_option maxRecDepth 20000 in
theorem gX4_discard_J6_bitCount_0f7a4 : GoodIn wsX4_discard (va_wsS RX4 57 yJ6_bitCount_0f7a4 wsJ6_bitCount_0f7a4) := goodIn_app (goodIn_of _ (by decide +kernel)) ggX4_discard_J6_bitCount_0f7a4
theorem dX4_discard_0 : decode cX4_discard 0 = .ok (.aload_n 0, 1) := by decide +kernel
theorem dX4_discard_1 : decode cX4_discard 1 = .ok (.dup, 1) := by decide +kernel
theorem dX4_discard_2 : decode cX4_discard 2 = .ok (.getfield 15, 3) := by decide +kernel
theorem dX4_discard_5 : decode cX4_discard 5 = .ok (.iconst 1, 1) := by decide +kernel
theorem dX4_discard_6 : decode cX4_discard 6 = .ok (.iload_n 1, 1) := by decide +kernel
theorem dX4_discard_7 : decode cX4_discard 7 = .ok (.ishl, 1) := by decide +kernel
theorem dX4_discard_8 : decode cX4_discard 8 = .ok (.iconst (-1), 1) := by decide +kernel
theorem dX4_discard_9 : decode cX4_discard 9 = .ok (.ixor, 1) := by decide +kernel
theorem dX4_discard_10 : decode cX4_discard 10 = .ok (.iand, 1) := by decide +kernel
theorem dX4_discard_11 : decode cX4_discard 11 = .ok (.putfield 15, 3) := by decide +kernel
theorem dX4_discard_14 : decode cX4_discard 14 = .ok (.aload_n 0, 1) := by decide +kernel
theorem dX4_discard_15 : decode cX4_discard 15 = .ok (.getfield 15, 3) := by decide +kernel
theorem dX4_discard_18 : decode cX4_discard 18 = .ok (.invokestatic 57, 3) := by decide +kernel
theorem dX4_discard_21 : decode cX4_discard 21 = .ok (.ireturn, 1) := by decide +kernel
set_option maxRecDepth 20000 in
theorem ggX4_countAnswers_X4_tripleAt : GoodIn wsX4_countAnswers wsX4_tripleAt := goodIn_r _ [6, 1, 7, 11, 12, 13, 14, 15, 16, 17, 18, 19, 20] (by decide +kernel) (by decide +kernel)
set_option maxRecDepth 20000 in
theorem gX4_countAnswers_X4_tripleAt : GoodIn wsX4_countAnswers (wsV RX4 54 RX4 yX4_tripleAt wsX4_tripleAt) := goodIn_app (goodIn_of _ (by decide +kernel)) ggX4_countAnswers_X4_tripleAt
set_option maxRecDepth 20000 in
theorem ggX4_countAnswers_X4_fits : GoodIn wsX4_countAnswers wsX4_fits := goodIn_r _ [10] (by decide +kernel) (by decide +kernel)
set_option maxRecDepth 20000 in
theorem gX4_countAnswers_X4_fits : GoodIn wsX4_countAnswers (va_wsS RX4 66 yX4_fits wsX4_fits) := goodIn_app (goodIn_of _ (by decide +kernel)) ggX4_countAnswers_X4_fits
theorem dX4_countAnswers_0 : decode cX4_countAnswers 0 = .ok (.iconst 0, 1) := by decide +kernel
theorem dX4_countAnswers_1 : decode cX4_countAnswers 1 = .ok (.istore_n 2, 1) := by decide +kernel
theorem dX4_countAnswers_2 : decode cX4_countAnswers 2 = .ok (.iconst 0, 1) := by decide +kernel
theorem dX4_countAnswers_3 : decode cX4_countAnswers 3 = .ok (.istore_n 3, 1) := by decide +kernel
theorem dX4_countAnswers_4 : decode cX4_countAnswers 4 = .ok (.iload_n 3, 1) := by decide +kernel
theorem dX4_countAnswers_5 : decode cX4_countAnswers 5 = .ok (.aload_n 0, 1) := by decide +kernel
theorem dX4_countAnswers_6 : decode cX4_countAnswers 6 = .ok (.getfield 25, 3) := by decide +kernel
theorem dX4_countAnswers_9 : decode cX4_countAnswers 9 = .ok (.if_icmp .ge 24, 3) := by decide +kernel
theorem dX4_countAnswers_12 : decode cX4_countAnswers 12 = .ok (.aload_n 0, 1) := by decide +kernel
theorem dX4_countAnswers_13 : decode cX4_countAnswers 13 = .ok (.iload_n 3, 1) := by decide +kernel
theorem dX4_countAnswers_14 : decode cX4_countAnswers 14 = .ok (.invokevirtual 54, 3) := by decide +kernel
theorem dX4_countAnswers_17 : decode cX4_countAnswers 17 = .ok (.iload_n 1, 1) := by decide +kernel
theorem dX4_countAnswers_18 : decode cX4_countAnswers 18 = .ok (.invokestatic 66, 3) := by decide +kernel
theorem dX4_countAnswers_21 : decode cX4_countAnswers 21 = .ok (.ifCond .eq 6, 3) := by decide +kernel
theorem dX4_countAnswers_24 : decode cX4_countAnswers 24 = .ok (.iinc 2 1, 3) := by decide +kernel
theorem dX4_countAnswers_27 : decode cX4_countAnswers 27 = .ok (.iinc 3 1, 3) := by decide +kernel
theorem dX4_countAnswers_30 : decode cX4_countAnswers 30 = .ok (.goto (-26), 3) := by decide +kernel
theorem dX4_countAnswers_33 : decode cX4_countAnswers 33 = .ok (.iload_n 2, 1) := by decide +kernel
theorem dX4_countAnswers_34 : decode cX4_countAnswers 34 = .ok (.ireturn, 1) := by decide +kernel
set_option maxRecDepth 20000 in
theorem ggX4_costBy_X2_reachOf : GoodIn wsX4_costBy wsX2_reachOf := goodIn_r _ [5, 6, 7, 4, 8, 9, 10, 11, 12] (by decide +kernel) (by decide +kernel)
set_option maxRecDepth 20000 in
theorem gX4_costBy_X2_reachOf : GoodIn wsX4_costBy (va_wsS RX4 70 yX2_reachOf wsX2_reachOf) := goodIn_app (goodIn_of _ (by decide +kernel)) ggX4_costBy_X2_reachOf
set_option maxRecDepth 20000 in
theorem ggX4_costBy_X4_look : GoodIn wsX4_costBy wsX4_look := goodIn_r _ [17, 1, 36, 37, 38, 39, 40, 41, 42, 43, 44, 45] (by decide +kernel) (by decide +kernel)
set_option maxRecDepth 20000 in
theorem gX4_costBy_X4_look : GoodIn wsX4_costBy (wsV RX4 62 RX4 yX4_look wsX4_look) := goodIn_app (goodIn_of _ (by decide +kernel)) ggX4_costBy_X4_look
set_option maxRecDepth 20000 in
theorem ggX4_costBy_X2_reachedPart : GoodIn wsX4_costBy wsX2_reachedPart := goodIn_r _ [20, 6, 7, 4, 8, 9, 21, 22, 23, 10, 11, 12] (by decide +kernel) (by decide +kernel)
set_option maxRecDepth 20000 in
theorem gX4_costBy_X2_reachedPart : GoodIn wsX4_costBy (va_wsS RX4 76 yX2_reachedPart wsX2_reachedPart) := goodIn_app (goodIn_of _ (by decide +kernel)) ggX4_costBy_X2_reachedPart
set_option maxRecDepth 20000 in
theorem ggX4_costBy_X4_countAnswers : GoodIn wsX4_costBy wsX4_countAnswers := goodIn_r _ [27, 1, 28, 29, 30, 16, 31, 32, 33, 34, 35, 36, 37, 38, 39, 40, 41, 42, 43, 44, 45] (by decide +kernel) (by decide +kernel)
set_option maxRecDepth 20000 in
theorem gX4_costBy_X4_countAnswers : GoodIn wsX4_costBy (wsV RX4 80 RX4 yX4_countAnswers wsX4_countAnswers) := goodIn_app (goodIn_of _ (by decide +kernel)) ggX4_costBy_X4_countAnswers
theorem dX4_costBy_0 : decode cX4_costBy 0 = .ok (.iload_n 1, 1) := by decide +kernel
theorem dX4_costBy_1 : decode cX4_costBy 1 = .ok (.iload_n 2, 1) := by decide +kernel
theorem dX4_costBy_2 : decode cX4_costBy 2 = .ok (.invokestatic 70, 3) := by decide +kernel
theorem dX4_costBy_5 : decode cX4_costBy 5 = .ok (.istore_n 3, 1) := by decide +kernel
theorem dX4_costBy_6 : decode cX4_costBy 6 = .ok (.iload_n 3, 1) := by decide +kernel
theorem dX4_costBy_7 : decode cX4_costBy 7 = .ok (.ifCond .ne 10, 3) := by decide +kernel
theorem dX4_costBy_10 : decode cX4_costBy 10 = .ok (.aload_n 0, 1) := by decide +kernel
theorem dX4_costBy_11 : decode cX4_costBy 11 = .ok (.getfield 25, 3) := by decide +kernel
theorem dX4_costBy_14 : decode cX4_costBy 14 = .ok (.goto 18, 3) := by decide +kernel
theorem dX4_costBy_17 : decode cX4_costBy 17 = .ok (.aload_n 0, 1) := by decide +kernel
theorem dX4_costBy_18 : decode cX4_costBy 18 = .ok (.invokevirtual 62, 3) := by decide +kernel
theorem dX4_costBy_21 : decode cX4_costBy 21 = .ok (.aload_n 0, 1) := by decide +kernel
theorem dX4_costBy_22 : decode cX4_costBy 22 = .ok (.iload_n 1, 1) := by decide +kernel
theorem dX4_costBy_23 : decode cX4_costBy 23 = .ok (.iload_n 2, 1) := by decide +kernel
theorem dX4_costBy_24 : decode cX4_costBy 24 = .ok (.iload_n 3, 1) := by decide +kernel
theorem dX4_costBy_25 : decode cX4_costBy 25 = .ok (.invokestatic 76, 3) := by decide +kernel
theorem dX4_costBy_28 : decode cX4_costBy 28 = .ok (.invokevirtual 80, 3) := by decide +kernel
theorem dX4_costBy_31 : decode cX4_costBy 31 = .ok (.iadd, 1) := by decide +kernel
theorem dX4_costBy_32 : decode cX4_costBy 32 = .ok (.ireturn, 1) := by decide +kernel
set_option maxRecDepth 20000 in
theorem ggX4_costNow_X4_keeps : GoodIn wsX4_costNow wsX4_keeps := goodIn_r _ [10, 11, 49, 50, 51, 52, 53, 54, 55, 56, 57, 58] (by decide +kernel) (by decide +kernel)
set_option maxRecDepth 20000 in
theorem gX4_costNow_X4_keeps : GoodIn wsX4_costNow (wsV RX4 83 RX4 yX4_keeps wsX4_keeps) := goodIn_app (goodIn_of _ (by decide +kernel)) ggX4_costNow_X4_keeps
set_option maxRecDepth 20000 in
theorem ggX4_costNow_X4_costBy : GoodIn wsX4_costNow wsX4_costBy := goodIn_r _ [15, 1, 16, 17, 18, 19, 20, 21, 22, 23, 24, 25, 26, 27, 28, 29, 9, 30, 31, 32, 33, 34, 35, 36, 37, 38, 39, 40, 41, 42, 43, 44, 45, 46, 47, 48, 49, 50, 51, 52, 53, 54, 55, 56, 57, 58] (by decide +kernel) (by decide +kernel)
set_option maxRecDepth 20000 in
theorem gX4_costNow_X4_costBy : GoodIn wsX4_costNow (wsV RX4 87 RX4 yX4_costBy wsX4_costBy) := goodIn_app (goodIn_of _ (by decide +kernel)) ggX4_costNow_X4_costBy
theorem dX4_costNow_0 : decode cX4_costNow 0 = .ok (.aload_n 0, 1) := by decide +kernel
theorem dX4_costNow_1 : decode cX4_costNow 1 = .ok (.getfield 25, 3) := by decide +kernel
theorem dX4_costNow_4 : decode cX4_costNow 4 = .ok (.istore_n 2, 1) := by decide +kernel
theorem dX4_costNow_5 : decode cX4_costNow 5 = .ok (.iconst 0, 1) := by decide +kernel
theorem dX4_costNow_6 : decode cX4_costNow 6 = .ok (.istore_n 3, 1) := by decide +kernel
theorem dX4_costNow_7 : decode cX4_costNow 7 = .ok (.iload_n 3, 1) := by decide +kernel
theorem dX4_costNow_8 : decode cX4_costNow 8 = .ok (.bipush 6, 2) := by decide +kernel
theorem dX4_costNow_10 : decode cX4_costNow 10 = .ok (.if_icmp .ge 28, 3) := by decide +kernel
theorem dX4_costNow_13 : decode cX4_costNow 13 = .ok (.aload_n 0, 1) := by decide +kernel
theorem dX4_costNow_14 : decode cX4_costNow 14 = .ok (.iload_n 3, 1) := by decide +kernel
theorem dX4_costNow_15 : decode cX4_costNow 15 = .ok (.invokevirtual 83, 3) := by decide +kernel
theorem dX4_costNow_18 : decode cX4_costNow 18 = .ok (.ifCond .eq 14, 3) := by decide +kernel
theorem dX4_costNow_21 : decode cX4_costNow 21 = .ok (.iload_n 2, 1) := by decide +kernel
theorem dX4_costNow_22 : decode cX4_costNow 22 = .ok (.aload_n 0, 1) := by decide +kernel
theorem dX4_costNow_23 : decode cX4_costNow 23 = .ok (.iload_n 1, 1) := by decide +kernel
theorem dX4_costNow_24 : decode cX4_costNow 24 = .ok (.iload_n 3, 1) := by decide +kernel
theorem dX4_costNow_25 : decode cX4_costNow 25 = .ok (.invokevirtual 87, 3) := by decide +kernel
theorem dX4_costNow_28 : decode cX4_costNow 28 = .ok (.invokestatic 90, 3) := by decide +kernel
theorem dX4_costNow_31 : decode cX4_costNow 31 = .ok (.istore_n 2, 1) := by decide +kernel
theorem dX4_costNow_32 : decode cX4_costNow 32 = .ok (.iinc 3 1, 3) := by decide +kernel
theorem dX4_costNow_35 : decode cX4_costNow 35 = .ok (.goto (-28), 3) := by decide +kernel
theorem dX4_costNow_38 : decode cX4_costNow 38 = .ok (.iload_n 2, 1) := by decide +kernel
theorem dX4_costNow_39 : decode cX4_costNow 39 = .ok (.ireturn, 1) := by decide +kernel
set_option maxRecDepth 20000 in
theorem ggX4_answeringOrder_X4_keeps : GoodIn wsX4_answeringOrder wsX4_keeps := goodIn_r _ [6, 7, 45, 46, 47, 48, 49, 50, 51, 52, 53, 54] (by decide +kernel) (by decide +kernel)
set_option maxRecDepth 20000 in
theorem gX4_answeringOrder_X4_keeps : GoodIn wsX4_answeringOrder (wsV RX4 83 RX4 yX4_keeps wsX4_keeps) := goodIn_app (goodIn_of _ (by decide +kernel)) ggX4_answeringOrder_X4_keeps
set_option maxRecDepth 20000 in
theorem ggX4_answeringOrder_X4_costBy : GoodIn wsX4_answeringOrder wsX4_costBy := goodIn_r _ [11, 1, 12, 13, 14, 15, 16, 17, 18, 19, 20, 21, 22, 23, 24, 25, 5, 26, 27, 28, 29, 30, 31, 32, 33, 34, 35, 36, 37, 38, 39, 40, 41, 42, 43, 44, 45, 46, 47, 48, 49, 50, 51, 52, 53, 54] (by decide +kernel) (by decide +kernel)
set_option maxRecDepth 20000 in
theorem gX4_answeringOrder_X4_costBy : GoodIn wsX4_answeringOrder (wsV RX4 87 RX4 yX4_costBy wsX4_costBy) := goodIn_app (goodIn_of _ (by decide +kernel)) ggX4_answeringOrder_X4_costBy
theorem dX4_answeringOrder_0 : decode cX4_answeringOrder 0 = .ok (.iconst (-1), 1) := by decide +kernel
theorem dX4_answeringOrder_1 : decode cX4_answeringOrder 1 = .ok (.istore_n 2, 1) := by decide +kernel
theorem dX4_answeringOrder_2 : decode cX4_answeringOrder 2 = .ok (.aload_n 0, 1) := by decide +kernel
theorem dX4_answeringOrder_3 : decode cX4_answeringOrder 3 = .ok (.getfield 25, 3) := by decide +kernel
theorem dX4_answeringOrder_6 : decode cX4_answeringOrder 6 = .ok (.istore_n 3, 1) := by decide +kernel
theorem dX4_answeringOrder_7 : decode cX4_answeringOrder 7 = .ok (.iconst 0, 1) := by decide +kernel
theorem dX4_answeringOrder_8 : decode cX4_answeringOrder 8 = .ok (.istore 4, 2) := by decide +kernel
theorem dX4_answeringOrder_10 : decode cX4_answeringOrder 10 = .ok (.iload 4, 2) := by decide +kernel
theorem dX4_answeringOrder_12 : decode cX4_answeringOrder 12 = .ok (.bipush 6, 2) := by decide +kernel
theorem dX4_answeringOrder_14 : decode cX4_answeringOrder 14 = .ok (.if_icmp .ge 46, 3) := by decide +kernel
theorem dX4_answeringOrder_17 : decode cX4_answeringOrder 17 = .ok (.aload_n 0, 1) := by decide +kernel
theorem dX4_answeringOrder_18 : decode cX4_answeringOrder 18 = .ok (.iload 4, 2) := by decide +kernel
theorem dX4_answeringOrder_20 : decode cX4_answeringOrder 20 = .ok (.invokevirtual 83, 3) := by decide +kernel
theorem dX4_answeringOrder_23 : decode cX4_answeringOrder 23 = .ok (.ifCond .eq 13, 3) := by decide +kernel
theorem dX4_answeringOrder_26 : decode cX4_answeringOrder 26 = .ok (.aload_n 0, 1) := by decide +kernel
theorem dX4_answeringOrder_27 : decode cX4_answeringOrder 27 = .ok (.iload_n 1, 1) := by decide +kernel
theorem dX4_answeringOrder_28 : decode cX4_answeringOrder 28 = .ok (.iload 4, 2) := by decide +kernel
theorem dX4_answeringOrder_30 : decode cX4_answeringOrder 30 = .ok (.invokevirtual 87, 3) := by decide +kernel
theorem dX4_answeringOrder_33 : decode cX4_answeringOrder 33 = .ok (.goto 7, 3) := by decide +kernel
theorem dX4_answeringOrder_36 : decode cX4_answeringOrder 36 = .ok (.aload_n 0, 1) := by decide +kernel
theorem dX4_answeringOrder_37 : decode cX4_answeringOrder 37 = .ok (.getfield 25, 3) := by decide +kernel
theorem dX4_answeringOrder_40 : decode cX4_answeringOrder 40 = .ok (.istore 5, 2) := by decide +kernel
theorem dX4_answeringOrder_42 : decode cX4_answeringOrder 42 = .ok (.iload 5, 2) := by decide +kernel
theorem dX4_answeringOrder_44 : decode cX4_answeringOrder 44 = .ok (.iload_n 3, 1) := by decide +kernel
theorem dX4_answeringOrder_45 : decode cX4_answeringOrder 45 = .ok (.if_icmp .ge 9, 3) := by decide +kernel
theorem dX4_answeringOrder_48 : decode cX4_answeringOrder 48 = .ok (.iload 5, 2) := by decide +kernel
theorem dX4_answeringOrder_50 : decode cX4_answeringOrder 50 = .ok (.istore_n 3, 1) := by decide +kernel
theorem dX4_answeringOrder_51 : decode cX4_answeringOrder 51 = .ok (.iload 4, 2) := by decide +kernel
theorem dX4_answeringOrder_53 : decode cX4_answeringOrder 53 = .ok (.istore_n 2, 1) := by decide +kernel
theorem dX4_answeringOrder_54 : decode cX4_answeringOrder 54 = .ok (.iinc 4 1, 3) := by decide +kernel
theorem dX4_answeringOrder_57 : decode cX4_answeringOrder 57 = .ok (.goto (-47), 3) := by decide +kernel
theorem dX4_answeringOrder_60 : decode cX4_answeringOrder 60 = .ok (.iload_n 2, 1) := by decide +kernel
theorem dX4_answeringOrder_61 : decode cX4_answeringOrder 61 = .ok (.ireturn, 1) := by decide +kernel
set_option maxRecDepth 20000 in
theorem ggX4_costSortedBy_X4_keeps : GoodIn wsX4_costSortedBy wsX4_keeps := goodIn_r _ [9, 10, 60, 61, 62, 63, 64, 65, 66, 67, 68, 69] (by decide +kernel) (by decide +kernel)
set_option maxRecDepth 20000 in
theorem gX4_costSortedBy_X4_keeps : GoodIn wsX4_costSortedBy (wsV RX4 83 RX4 yX4_keeps wsX4_keeps) := goodIn_app (goodIn_of _ (by decide +kernel)) ggX4_costSortedBy_X4_keeps
set_option maxRecDepth 20000 in
theorem ggX4_costSortedBy_X4_sortsBy : GoodIn wsX4_costSortedBy wsX4_sortsBy := goodIn_r _ [13, 14, 15, 16, 17, 18, 19, 20, 21, 22, 23, 24, 25, 26, 27, 28, 29, 30, 31, 32] (by decide +kernel) (by decide +kernel)
set_option maxRecDepth 20000 in
theorem gX4_costSortedBy_X4_sortsBy : GoodIn wsX4_costSortedBy (va_wsS RX4 95 yX4_sortsBy wsX4_sortsBy) := goodIn_app (goodIn_of _ (by decide +kernel)) ggX4_costSortedBy_X4_sortsBy
set_option maxRecDepth 20000 in
theorem ggX4_costSortedBy_X4_costBy : GoodIn wsX4_costSortedBy wsX4_costBy := goodIn_r _ [36, 37, 14, 15, 16, 17, 18, 19, 20, 21, 22, 23, 24, 38, 39, 40, 8, 41, 42, 43, 44, 45, 46, 47, 48, 49, 50, 51, 52, 53, 54, 55, 56, 57, 58, 59, 60, 61, 62, 63, 64, 65, 66, 67, 68, 69] (by decide +kernel) (by decide +kernel)
set_option maxRecDepth 20000 in
theorem gX4_costSortedBy_X4_costBy : GoodIn wsX4_costSortedBy (wsV RX4 87 RX4 yX4_costBy wsX4_costBy) := goodIn_app (goodIn_of _ (by decide +kernel)) ggX4_costSortedBy_X4_costBy
theorem dX4_costSortedBy_0 : decode cX4_costSortedBy 0 = .ok (.iconst (-1), 1) := by decide +kernel
theorem dX4_costSortedBy_1 : decode cX4_costSortedBy 1 = .ok (.istore_n 3, 1) := by decide +kernel
theorem dX4_costSortedBy_2 : decode cX4_costSortedBy 2 = .ok (.iconst 0, 1) := by decide +kernel
theorem dX4_costSortedBy_3 : decode cX4_costSortedBy 3 = .ok (.istore 4, 2) := by decide +kernel
theorem dX4_costSortedBy_5 : decode cX4_costSortedBy 5 = .ok (.iload 4, 2) := by decide +kernel
theorem dX4_costSortedBy_7 : decode cX4_costSortedBy 7 = .ok (.bipush 6, 2) := by decide +kernel
theorem dX4_costSortedBy_9 : decode cX4_costSortedBy 9 = .ok (.if_icmp .ge 54, 3) := by decide +kernel
theorem dX4_costSortedBy_12 : decode cX4_costSortedBy 12 = .ok (.aload_n 0, 1) := by decide +kernel
theorem dX4_costSortedBy_13 : decode cX4_costSortedBy 13 = .ok (.iload 4, 2) := by decide +kernel
theorem dX4_costSortedBy_15 : decode cX4_costSortedBy 15 = .ok (.invokevirtual 83, 3) := by decide +kernel
theorem dX4_costSortedBy_18 : decode cX4_costSortedBy 18 = .ok (.ifCond .eq 39, 3) := by decide +kernel
theorem dX4_costSortedBy_21 : decode cX4_costSortedBy 21 = .ok (.iload_n 1, 1) := by decide +kernel
theorem dX4_costSortedBy_22 : decode cX4_costSortedBy 22 = .ok (.iload 4, 2) := by decide +kernel
theorem dX4_costSortedBy_24 : decode cX4_costSortedBy 24 = .ok (.iload_n 2, 1) := by decide +kernel
theorem dX4_costSortedBy_25 : decode cX4_costSortedBy 25 = .ok (.invokestatic 95, 3) := by decide +kernel
theorem dX4_costSortedBy_28 : decode cX4_costSortedBy 28 = .ok (.ifCond .eq 29, 3) := by decide +kernel
theorem dX4_costSortedBy_31 : decode cX4_costSortedBy 31 = .ok (.aload_n 0, 1) := by decide +kernel
theorem dX4_costSortedBy_32 : decode cX4_costSortedBy 32 = .ok (.iload_n 1, 1) := by decide +kernel
theorem dX4_costSortedBy_33 : decode cX4_costSortedBy 33 = .ok (.iload 4, 2) := by decide +kernel
theorem dX4_costSortedBy_35 : decode cX4_costSortedBy 35 = .ok (.invokevirtual 87, 3) := by decide +kernel
theorem dX4_costSortedBy_38 : decode cX4_costSortedBy 38 = .ok (.istore 5, 2) := by decide +kernel
theorem dX4_costSortedBy_40 : decode cX4_costSortedBy 40 = .ok (.iload_n 3, 1) := by decide +kernel
theorem dX4_costSortedBy_41 : decode cX4_costSortedBy 41 = .ok (.iconst (-1), 1) := by decide +kernel
theorem dX4_costSortedBy_42 : decode cX4_costSortedBy 42 = .ok (.if_icmp .ne 8, 3) := by decide +kernel
theorem dX4_costSortedBy_45 : decode cX4_costSortedBy 45 = .ok (.iload 5, 2) := by decide +kernel
theorem dX4_costSortedBy_47 : decode cX4_costSortedBy 47 = .ok (.goto 9, 3) := by decide +kernel
theorem dX4_costSortedBy_50 : decode cX4_costSortedBy 50 = .ok (.iload_n 3, 1) := by decide +kernel
theorem dX4_costSortedBy_51 : decode cX4_costSortedBy 51 = .ok (.iload 5, 2) := by decide +kernel
theorem dX4_costSortedBy_53 : decode cX4_costSortedBy 53 = .ok (.invokestatic 90, 3) := by decide +kernel
theorem dX4_costSortedBy_56 : decode cX4_costSortedBy 56 = .ok (.istore_n 3, 1) := by decide +kernel
theorem dX4_costSortedBy_57 : decode cX4_costSortedBy 57 = .ok (.iinc 4 1, 3) := by decide +kernel
theorem dX4_costSortedBy_60 : decode cX4_costSortedBy 60 = .ok (.goto (-55), 3) := by decide +kernel
theorem dX4_costSortedBy_63 : decode cX4_costSortedBy 63 = .ok (.iload_n 3, 1) := by decide +kernel
theorem dX4_costSortedBy_64 : decode cX4_costSortedBy 64 = .ok (.ireturn, 1) := by decide +kernel
set_option maxRecDepth 20000 in
theorem ggX4_sortsBy_X2_reachOf : GoodIn wsX4_sortsBy wsX2_reachOf := goodIn_r _ [4, 5, 6, 3, 7, 8, 9, 10, 11] (by decide +kernel) (by decide +kernel)
set_option maxRecDepth 20000 in
theorem gX4_sortsBy_X2_reachOf : GoodIn wsX4_sortsBy (va_wsS RX4 70 yX2_reachOf wsX2_reachOf) := goodIn_app (goodIn_of _ (by decide +kernel)) ggX4_sortsBy_X2_reachOf
set_option maxRecDepth 20000 in
theorem ggX4_sortsBy_X2_reachesAll : GoodIn wsX4_sortsBy wsX2_reachesAll := goodIn_r _ [14, 15, 2, 3, 4, 5, 6, 7, 8, 9, 10, 11, 16, 17, 18] (by decide +kernel) (by decide +kernel)
set_option maxRecDepth 20000 in
theorem gX4_sortsBy_X2_reachesAll : GoodIn wsX4_sortsBy (va_wsS RX4 99 yX2_reachesAll wsX2_reachesAll) := goodIn_app (goodIn_of _ (by decide +kernel)) ggX4_sortsBy_X2_reachesAll
set_option maxRecDepth 20000 in
theorem ggX4_sortsBy_X2_componentAt : GoodIn wsX4_sortsBy wsX2_componentAt := goodIn_r _ [7, 8] (by decide +kernel) (by decide +kernel)
set_option maxRecDepth 20000 in
theorem gX4_sortsBy_X2_componentAt : GoodIn wsX4_sortsBy (va_wsS RX4 102 yX2_componentAt wsX2_componentAt) := goodIn_app (goodIn_of _ (by decide +kernel)) ggX4_sortsBy_X2_componentAt
theorem dX4_sortsBy_0 : decode cX4_sortsBy 0 = .ok (.iload_n 0, 1) := by decide +kernel
theorem dX4_sortsBy_1 : decode cX4_sortsBy 1 = .ok (.iload_n 1, 1) := by decide +kernel
theorem dX4_sortsBy_2 : decode cX4_sortsBy 2 = .ok (.invokestatic 70, 3) := by decide +kernel
theorem dX4_sortsBy_5 : decode cX4_sortsBy 5 = .ok (.istore_n 3, 1) := by decide +kernel
theorem dX4_sortsBy_6 : decode cX4_sortsBy 6 = .ok (.iload_n 3, 1) := by decide +kernel
theorem dX4_sortsBy_7 : decode cX4_sortsBy 7 = .ok (.iconst 3, 1) := by decide +kernel
theorem dX4_sortsBy_8 : decode cX4_sortsBy 8 = .ok (.if_icmp .ge 24, 3) := by decide +kernel
theorem dX4_sortsBy_11 : decode cX4_sortsBy 11 = .ok (.iload_n 0, 1) := by decide +kernel
theorem dX4_sortsBy_12 : decode cX4_sortsBy 12 = .ok (.iload_n 1, 1) := by decide +kernel
theorem dX4_sortsBy_13 : decode cX4_sortsBy 13 = .ok (.invokestatic 99, 3) := by decide +kernel
theorem dX4_sortsBy_16 : decode cX4_sortsBy 16 = .ok (.ifCond .eq 16, 3) := by decide +kernel
theorem dX4_sortsBy_19 : decode cX4_sortsBy 19 = .ok (.iload_n 1, 1) := by decide +kernel
theorem dX4_sortsBy_20 : decode cX4_sortsBy 20 = .ok (.iload_n 3, 1) := by decide +kernel
theorem dX4_sortsBy_21 : decode cX4_sortsBy 21 = .ok (.invokestatic 102, 3) := by decide +kernel
theorem dX4_sortsBy_24 : decode cX4_sortsBy 24 = .ok (.iload_n 2, 1) := by decide +kernel
theorem dX4_sortsBy_25 : decode cX4_sortsBy 25 = .ok (.if_icmp .ne 7, 3) := by decide +kernel
theorem dX4_sortsBy_28 : decode cX4_sortsBy 28 = .ok (.iconst 1, 1) := by decide +kernel
theorem dX4_sortsBy_29 : decode cX4_sortsBy 29 = .ok (.goto 4, 3) := by decide +kernel
theorem dX4_sortsBy_32 : decode cX4_sortsBy 32 = .ok (.iconst 0, 1) := by decide +kernel
theorem dX4_sortsBy_33 : decode cX4_sortsBy 33 = .ok (.ireturn, 1) := by decide +kernel
set_option maxRecDepth 20000 in
theorem ggX4_answerAt_X4_tripleAt : GoodIn wsX4_answerAt wsX4_tripleAt := goodIn_r _ [6, 1, 7, 30, 31, 32, 33, 34, 35, 36, 37, 38, 39] (by decide +kernel) (by decide +kernel)
set_option maxRecDepth 20000 in
theorem gX4_answerAt_X4_tripleAt : GoodIn wsX4_answerAt (wsV RX4 54 RX4 yX4_tripleAt wsX4_tripleAt) := goodIn_app (goodIn_of _ (by decide +kernel)) ggX4_answerAt_X4_tripleAt
set_option maxRecDepth 20000 in
theorem ggX4_answerAt_X4_fits : GoodIn wsX4_answerAt wsX4_fits := goodIn_r _ [10] (by decide +kernel) (by decide +kernel)
set_option maxRecDepth 20000 in
theorem gX4_answerAt_X4_fits : GoodIn wsX4_answerAt (va_wsS RX4 66 yX4_fits wsX4_fits) := goodIn_app (goodIn_of _ (by decide +kernel)) ggX4_answerAt_X4_fits
set_option maxRecDepth 20000 in
theorem ggX4_answerAt_X4_countBefore : GoodIn wsX4_answerAt wsX4_countBefore := goodIn_r _ [14, 1, 15, 16, 17, 5, 18, 2, 3, 4, 6, 7, 19, 20, 21, 22, 23, 24, 25, 26, 27, 28, 29, 8, 9, 10, 30, 31, 32, 33, 34, 35, 36, 37, 38, 39] (by decide +kernel) (by decide +kernel)
set_option maxRecDepth 20000 in
theorem gX4_answerAt_X4_countBefore : GoodIn wsX4_answerAt (wsV RX4 105 RX4 yX4_countBefore wsX4_countBefore) := goodIn_app (goodIn_of _ (by decide +kernel)) ggX4_answerAt_X4_countBefore
theorem dX4_answerAt_0 : decode cX4_answerAt 0 = .ok (.iload_n 3, 1) := by decide +kernel
theorem dX4_answerAt_1 : decode cX4_answerAt 1 = .ok (.aload_n 0, 1) := by decide +kernel
theorem dX4_answerAt_2 : decode cX4_answerAt 2 = .ok (.getfield 25, 3) := by decide +kernel
theorem dX4_answerAt_5 : decode cX4_answerAt 5 = .ok (.if_icmp .lt 5, 3) := by decide +kernel
theorem dX4_answerAt_8 : decode cX4_answerAt 8 = .ok (.iconst (-1), 1) := by decide +kernel
theorem dX4_answerAt_9 : decode cX4_answerAt 9 = .ok (.ireturn, 1) := by decide +kernel
theorem dX4_answerAt_10 : decode cX4_answerAt 10 = .ok (.iconst 0, 1) := by decide +kernel
theorem dX4_answerAt_11 : decode cX4_answerAt 11 = .ok (.istore 4, 2) := by decide +kernel
theorem dX4_answerAt_13 : decode cX4_answerAt 13 = .ok (.iload 4, 2) := by decide +kernel
theorem dX4_answerAt_15 : decode cX4_answerAt 15 = .ok (.aload_n 0, 1) := by decide +kernel
theorem dX4_answerAt_16 : decode cX4_answerAt 16 = .ok (.getfield 25, 3) := by decide +kernel
theorem dX4_answerAt_19 : decode cX4_answerAt 19 = .ok (.if_icmp .ge 41, 3) := by decide +kernel
theorem dX4_answerAt_22 : decode cX4_answerAt 22 = .ok (.aload_n 0, 1) := by decide +kernel
theorem dX4_answerAt_23 : decode cX4_answerAt 23 = .ok (.iload 4, 2) := by decide +kernel
theorem dX4_answerAt_25 : decode cX4_answerAt 25 = .ok (.invokevirtual 54, 3) := by decide +kernel
theorem dX4_answerAt_28 : decode cX4_answerAt 28 = .ok (.iload_n 1, 1) := by decide +kernel
theorem dX4_answerAt_29 : decode cX4_answerAt 29 = .ok (.invokestatic 66, 3) := by decide +kernel
theorem dX4_answerAt_32 : decode cX4_answerAt 32 = .ok (.ifCond .eq 22, 3) := by decide +kernel
theorem dX4_answerAt_35 : decode cX4_answerAt 35 = .ok (.aload_n 0, 1) := by decide +kernel
theorem dX4_answerAt_36 : decode cX4_answerAt 36 = .ok (.iload_n 1, 1) := by decide +kernel
theorem dX4_answerAt_37 : decode cX4_answerAt 37 = .ok (.iload_n 2, 1) := by decide +kernel
theorem dX4_answerAt_38 : decode cX4_answerAt 38 = .ok (.iload 4, 2) := by decide +kernel
theorem dX4_answerAt_40 : decode cX4_answerAt 40 = .ok (.invokevirtual 105, 3) := by decide +kernel
theorem dX4_answerAt_43 : decode cX4_answerAt 43 = .ok (.iload_n 3, 1) := by decide +kernel
theorem dX4_answerAt_44 : decode cX4_answerAt 44 = .ok (.if_icmp .ne 10, 3) := by decide +kernel
theorem dX4_answerAt_47 : decode cX4_answerAt 47 = .ok (.aload_n 0, 1) := by decide +kernel
theorem dX4_answerAt_48 : decode cX4_answerAt 48 = .ok (.iload 4, 2) := by decide +kernel
theorem dX4_answerAt_50 : decode cX4_answerAt 50 = .ok (.invokevirtual 54, 3) := by decide +kernel
theorem dX4_answerAt_53 : decode cX4_answerAt 53 = .ok (.ireturn, 1) := by decide +kernel
theorem dX4_answerAt_54 : decode cX4_answerAt 54 = .ok (.iinc 4 1, 3) := by decide +kernel
theorem dX4_answerAt_57 : decode cX4_answerAt 57 = .ok (.goto (-44), 3) := by decide +kernel
theorem dX4_answerAt_60 : decode cX4_answerAt 60 = .ok (.iconst (-1), 1) := by decide +kernel
theorem dX4_answerAt_61 : decode cX4_answerAt 61 = .ok (.ireturn, 1) := by decide +kernel
set_option maxRecDepth 20000 in
theorem ggX4_countBefore_X4_rankAt : GoodIn wsX4_countBefore wsX4_rankAt := goodIn_r _ [6, 7, 8, 9, 5, 10, 1, 11, 12, 13, 14, 15, 16, 17, 18, 19, 20, 21, 22, 26, 27, 28, 29, 30, 31, 32, 33, 34, 35] (by decide +kernel) (by decide +kernel)
set_option maxRecDepth 20000 in
theorem gX4_countBefore_X4_rankAt : GoodIn wsX4_countBefore (wsV RX4 108 RX4 yX4_rankAt wsX4_rankAt) := goodIn_app (goodIn_of _ (by decide +kernel)) ggX4_countBefore_X4_rankAt
set_option maxRecDepth 20000 in
theorem ggX4_countBefore_X4_tripleAt : GoodIn wsX4_countBefore wsX4_tripleAt := goodIn_r _ [10, 1, 11, 26, 27, 28, 29, 30, 31, 32, 33, 34, 35] (by decide +kernel) (by decide +kernel)
set_option maxRecDepth 20000 in
theorem gX4_countBefore_X4_tripleAt : GoodIn wsX4_countBefore (wsV RX4 54 RX4 yX4_tripleAt wsX4_tripleAt) := goodIn_app (goodIn_of _ (by decide +kernel)) ggX4_countBefore_X4_tripleAt
set_option maxRecDepth 20000 in
theorem ggX4_countBefore_X4_fits : GoodIn wsX4_countBefore wsX4_fits := goodIn_r _ [25] (by decide +kernel) (by decide +kernel)
set_option maxRecDepth 20000 in
theorem gX4_countBefore_X4_fits : GoodIn wsX4_countBefore (va_wsS RX4 66 yX4_fits wsX4_fits) := goodIn_app (goodIn_of _ (by decide +kernel)) ggX4_countBefore_X4_fits
theorem dX4_countBefore_0 : decode cX4_countBefore 0 = .ok (.aload_n 0, 1) := by decide +kernel
theorem dX4_countBefore_1 : decode cX4_countBefore 1 = .ok (.iload_n 3, 1) := by decide +kernel
theorem dX4_countBefore_2 : decode cX4_countBefore 2 = .ok (.iload_n 2, 1) := by decide +kernel
theorem dX4_countBefore_3 : decode cX4_countBefore 3 = .ok (.invokevirtual 108, 3) := by decide +kernel
theorem dX4_countBefore_6 : decode cX4_countBefore 6 = .ok (.istore 4, 2) := by decide +kernel
theorem dX4_countBefore_8 : decode cX4_countBefore 8 = .ok (.iconst 0, 1) := by decide +kernel
theorem dX4_countBefore_9 : decode cX4_countBefore 9 = .ok (.istore 5, 2) := by decide +kernel
theorem dX4_countBefore_11 : decode cX4_countBefore 11 = .ok (.iconst 0, 1) := by decide +kernel
theorem dX4_countBefore_12 : decode cX4_countBefore 12 = .ok (.istore 6, 2) := by decide +kernel
theorem dX4_countBefore_14 : decode cX4_countBefore 14 = .ok (.iload 6, 2) := by decide +kernel
theorem dX4_countBefore_16 : decode cX4_countBefore 16 = .ok (.aload_n 0, 1) := by decide +kernel
theorem dX4_countBefore_17 : decode cX4_countBefore 17 = .ok (.getfield 25, 3) := by decide +kernel
theorem dX4_countBefore_20 : decode cX4_countBefore 20 = .ok (.if_icmp .ge 37, 3) := by decide +kernel
theorem dX4_countBefore_23 : decode cX4_countBefore 23 = .ok (.aload_n 0, 1) := by decide +kernel
theorem dX4_countBefore_24 : decode cX4_countBefore 24 = .ok (.iload 6, 2) := by decide +kernel
theorem dX4_countBefore_26 : decode cX4_countBefore 26 = .ok (.invokevirtual 54, 3) := by decide +kernel
theorem dX4_countBefore_29 : decode cX4_countBefore 29 = .ok (.iload_n 1, 1) := by decide +kernel
theorem dX4_countBefore_30 : decode cX4_countBefore 30 = .ok (.invokestatic 66, 3) := by decide +kernel
theorem dX4_countBefore_33 : decode cX4_countBefore 33 = .ok (.ifCond .eq 18, 3) := by decide +kernel
theorem dX4_countBefore_36 : decode cX4_countBefore 36 = .ok (.aload_n 0, 1) := by decide +kernel
theorem dX4_countBefore_37 : decode cX4_countBefore 37 = .ok (.iload 6, 2) := by decide +kernel
theorem dX4_countBefore_39 : decode cX4_countBefore 39 = .ok (.iload_n 2, 1) := by decide +kernel
theorem dX4_countBefore_40 : decode cX4_countBefore 40 = .ok (.invokevirtual 108, 3) := by decide +kernel
theorem dX4_countBefore_43 : decode cX4_countBefore 43 = .ok (.iload 4, 2) := by decide +kernel
theorem dX4_countBefore_45 : decode cX4_countBefore 45 = .ok (.if_icmp .ge 6, 3) := by decide +kernel
theorem dX4_countBefore_48 : decode cX4_countBefore 48 = .ok (.iinc 5 1, 3) := by decide +kernel
theorem dX4_countBefore_51 : decode cX4_countBefore 51 = .ok (.iinc 6 1, 3) := by decide +kernel
theorem dX4_countBefore_54 : decode cX4_countBefore 54 = .ok (.goto (-40), 3) := by decide +kernel
theorem dX4_countBefore_57 : decode cX4_countBefore 57 = .ok (.iload 5, 2) := by decide +kernel
theorem dX4_countBefore_59 : decode cX4_countBefore 59 = .ok (.ireturn, 1) := by decide +kernel
set_option maxRecDepth 20000 in
theorem ggX4_rankAt_X4_tripleAt : GoodIn wsX4_rankAt wsX4_tripleAt := goodIn_r _ [5, 6, 7, 19, 20, 21, 22, 23, 24, 25, 26, 27, 28] (by decide +kernel) (by decide +kernel)
set_option maxRecDepth 20000 in
theorem gX4_rankAt_X4_tripleAt : GoodIn wsX4_rankAt (wsV RX4 54 RX4 yX4_tripleAt wsX4_tripleAt) := goodIn_app (goodIn_of _ (by decide +kernel)) ggX4_rankAt_X4_tripleAt
set_option maxRecDepth 20000 in
theorem ggX4_rankAt_X2_rankOf : GoodIn wsX4_rankAt wsX2_rankOf := goodIn_r _ [11, 12, 13, 10, 14, 15, 16, 17, 18] (by decide +kernel) (by decide +kernel)
set_option maxRecDepth 20000 in
theorem gX4_rankAt_X2_rankOf : GoodIn wsX4_rankAt (va_wsS RX4 111 yX2_rankOf wsX2_rankOf) := goodIn_app (goodIn_of _ (by decide +kernel)) ggX4_rankAt_X2_rankOf
theorem dX4_rankAt_0 : decode cX4_rankAt 0 = .ok (.iload_n 2, 1) := by decide +kernel
theorem dX4_rankAt_1 : decode cX4_rankAt 1 = .ok (.iconst (-1), 1) := by decide +kernel
theorem dX4_rankAt_2 : decode cX4_rankAt 2 = .ok (.if_icmp .ne 7, 3) := by decide +kernel
theorem dX4_rankAt_5 : decode cX4_rankAt 5 = .ok (.iload_n 1, 1) := by decide +kernel
theorem dX4_rankAt_6 : decode cX4_rankAt 6 = .ok (.goto 12, 3) := by decide +kernel
theorem dX4_rankAt_9 : decode cX4_rankAt 9 = .ok (.aload_n 0, 1) := by decide +kernel
theorem dX4_rankAt_10 : decode cX4_rankAt 10 = .ok (.iload_n 1, 1) := by decide +kernel
theorem dX4_rankAt_11 : decode cX4_rankAt 11 = .ok (.invokevirtual 54, 3) := by decide +kernel
theorem dX4_rankAt_14 : decode cX4_rankAt 14 = .ok (.iload_n 2, 1) := by decide +kernel
theorem dX4_rankAt_15 : decode cX4_rankAt 15 = .ok (.invokestatic 111, 3) := by decide +kernel
theorem dX4_rankAt_18 : decode cX4_rankAt 18 = .ok (.ireturn, 1) := by decide +kernel
theorem dX4_fits_0 : decode cX4_fits 0 = .ok (.iload_n 1, 1) := by decide +kernel
theorem dX4_fits_1 : decode cX4_fits 1 = .ok (.ifCond .ge 5, 3) := by decide +kernel
theorem dX4_fits_4 : decode cX4_fits 4 = .ok (.iconst 0, 1) := by decide +kernel
theorem dX4_fits_5 : decode cX4_fits 5 = .ok (.ireturn, 1) := by decide +kernel
theorem dX4_fits_6 : decode cX4_fits 6 = .ok (.iload_n 1, 1) := by decide +kernel
theorem dX4_fits_7 : decode cX4_fits 7 = .ok (.bipush 121, 2) := by decide +kernel
theorem dX4_fits_9 : decode cX4_fits 9 = .ok (.idiv, 1) := by decide +kernel
theorem dX4_fits_10 : decode cX4_fits 10 = .ok (.istore_n 2, 1) := by decide +kernel
theorem dX4_fits_11 : decode cX4_fits 11 = .ok (.iload_n 1, 1) := by decide +kernel
theorem dX4_fits_12 : decode cX4_fits 12 = .ok (.bipush 11, 2) := by decide +kernel
theorem dX4_fits_14 : decode cX4_fits 14 = .ok (.idiv, 1) := by decide +kernel
theorem dX4_fits_15 : decode cX4_fits 15 = .ok (.bipush 11, 2) := by decide +kernel
theorem dX4_fits_17 : decode cX4_fits 17 = .ok (.irem, 1) := by decide +kernel
theorem dX4_fits_18 : decode cX4_fits 18 = .ok (.istore_n 3, 1) := by decide +kernel
theorem dX4_fits_19 : decode cX4_fits 19 = .ok (.iload_n 1, 1) := by decide +kernel
theorem dX4_fits_20 : decode cX4_fits 20 = .ok (.bipush 11, 2) := by decide +kernel
theorem dX4_fits_22 : decode cX4_fits 22 = .ok (.irem, 1) := by decide +kernel
theorem dX4_fits_23 : decode cX4_fits 23 = .ok (.istore 4, 2) := by decide +kernel
theorem dX4_fits_25 : decode cX4_fits 25 = .ok (.iload_n 2, 1) := by decide +kernel
theorem dX4_fits_26 : decode cX4_fits 26 = .ok (.bipush 10, 2) := by decide +kernel
theorem dX4_fits_28 : decode cX4_fits 28 = .ok (.if_icmp .eq 11, 3) := by decide +kernel
theorem dX4_fits_31 : decode cX4_fits 31 = .ok (.iload_n 2, 1) := by decide +kernel
theorem dX4_fits_32 : decode cX4_fits 32 = .ok (.iload_n 0, 1) := by decide +kernel
theorem dX4_fits_33 : decode cX4_fits 33 = .ok (.bipush 100, 2) := by decide +kernel
theorem dX4_fits_35 : decode cX4_fits 35 = .ok (.idiv, 1) := by decide +kernel
theorem dX4_fits_36 : decode cX4_fits 36 = .ok (.if_icmp .ne 40, 3) := by decide +kernel
theorem dX4_fits_39 : decode cX4_fits 39 = .ok (.iload_n 3, 1) := by decide +kernel
theorem dX4_fits_40 : decode cX4_fits 40 = .ok (.bipush 10, 2) := by decide +kernel
theorem dX4_fits_42 : decode cX4_fits 42 = .ok (.if_icmp .eq 14, 3) := by decide +kernel
theorem dX4_fits_45 : decode cX4_fits 45 = .ok (.iload_n 3, 1) := by decide +kernel
theorem dX4_fits_46 : decode cX4_fits 46 = .ok (.iload_n 0, 1) := by decide +kernel
theorem dX4_fits_47 : decode cX4_fits 47 = .ok (.bipush 10, 2) := by decide +kernel
theorem dX4_fits_49 : decode cX4_fits 49 = .ok (.idiv, 1) := by decide +kernel
theorem dX4_fits_50 : decode cX4_fits 50 = .ok (.bipush 10, 2) := by decide +kernel
theorem dX4_fits_52 : decode cX4_fits 52 = .ok (.irem, 1) := by decide +kernel
theorem dX4_fits_53 : decode cX4_fits 53 = .ok (.if_icmp .ne 23, 3) := by decide +kernel
theorem dX4_fits_56 : decode cX4_fits 56 = .ok (.iload 4, 2) := by decide +kernel
theorem dX4_fits_58 : decode cX4_fits 58 = .ok (.bipush 10, 2) := by decide +kernel
theorem dX4_fits_60 : decode cX4_fits 60 = .ok (.if_icmp .eq 12, 3) := by decide +kernel
theorem dX4_fits_63 : decode cX4_fits 63 = .ok (.iload 4, 2) := by decide +kernel
theorem dX4_fits_65 : decode cX4_fits 65 = .ok (.iload_n 0, 1) := by decide +kernel
theorem dX4_fits_66 : decode cX4_fits 66 = .ok (.bipush 10, 2) := by decide +kernel
theorem dX4_fits_68 : decode cX4_fits 68 = .ok (.irem, 1) := by decide +kernel
theorem dX4_fits_69 : decode cX4_fits 69 = .ok (.if_icmp .ne 7, 3) := by decide +kernel
theorem dX4_fits_72 : decode cX4_fits 72 = .ok (.iconst 1, 1) := by decide +kernel
theorem dX4_fits_73 : decode cX4_fits 73 = .ok (.goto 4, 3) := by decide +kernel
theorem dX4_fits_76 : decode cX4_fits 76 = .ok (.iconst 0, 1) := by decide +kernel
theorem dX4_fits_77 : decode cX4_fits 77 = .ok (.ireturn, 1) := by decide +kernel
set_option maxRecDepth 20000 in
theorem ggX4_noteQuestion_X4_costNow : GoodIn wsX4_noteQuestion wsX4_costNow := goodIn_r _ [9, 10, 11, 12, 13, 14, 15, 16, 17, 8, 18, 19, 20, 21, 22, 23, 24, 25, 26, 27, 28, 29, 30, 31, 32, 33, 34, 35, 36, 37, 38, 39, 40, 41, 42, 43, 44, 45, 46, 47, 48, 49, 50, 51, 52, 53, 54, 55, 56, 61, 62, 63, 64, 65, 66, 67, 68, 69, 70] (by decide +kernel) (by decide +kernel)
set_option maxRecDepth 20000 in
theorem gX4_noteQuestion_X4_costNow : GoodIn wsX4_noteQuestion (wsV RX4 114 RX4 yX4_costNow wsX4_costNow) := goodIn_app (goodIn_of _ (by decide +kernel)) ggX4_noteQuestion_X4_costNow
set_option maxRecDepth 20000 in
theorem ggX4_noteQuestion_X4_forgetOldest : GoodIn wsX4_noteQuestion wsX4_forgetOldest := goodIn_r _ [60, 3, 4, 61, 62, 63, 64, 65, 66, 67, 68, 69, 70] (by decide +kernel) (by decide +kernel)
set_option maxRecDepth 20000 in
theorem gX4_noteQuestion_X4_forgetOldest : GoodIn wsX4_noteQuestion (wsV RX4 117 RX4 yX4_forgetOldest wsX4_forgetOldest) := goodIn_app (goodIn_of _ (by decide +kernel)) ggX4_noteQuestion_X4_forgetOldest
set_option maxRecDepth 20000 in
theorem ggX4_noteQuestion_X4_countAnswers : GoodIn wsX4_noteQuestion wsX4_countAnswers := goodIn_r _ [48, 10, 49, 50, 51, 8, 52, 53, 54, 55, 56, 61, 62, 63, 64, 65, 66, 67, 68, 69, 70] (by decide +kernel) (by decide +kernel)
set_option maxRecDepth 20000 in
theorem gX4_noteQuestion_X4_countAnswers : GoodIn wsX4_noteQuestion (wsV RX4 80 RX4 yX4_countAnswers wsX4_countAnswers) := goodIn_app (goodIn_of _ (by decide +kernel)) ggX4_noteQuestion_X4_countAnswers
theorem dX4_noteQuestion_0 : decode cX4_noteQuestion 0 = .ok (.aload_n 0, 1) := by decide +kernel
theorem dX4_noteQuestion_1 : decode cX4_noteQuestion 1 = .ok (.dup, 1) := by decide +kernel
theorem dX4_noteQuestion_2 : decode cX4_noteQuestion 2 = .ok (.getfield 38, 3) := by decide +kernel
theorem dX4_noteQuestion_5 : decode cX4_noteQuestion 5 = .ok (.aload_n 0, 1) := by decide +kernel
theorem dX4_noteQuestion_6 : decode cX4_noteQuestion 6 = .ok (.iload_n 1, 1) := by decide +kernel
theorem dX4_noteQuestion_7 : decode cX4_noteQuestion 7 = .ok (.invokevirtual 114, 3) := by decide +kernel
theorem dX4_noteQuestion_10 : decode cX4_noteQuestion 10 = .ok (.iadd, 1) := by decide +kernel
theorem dX4_noteQuestion_11 : decode cX4_noteQuestion 11 = .ok (.putfield 38, 3) := by decide +kernel
theorem dX4_noteQuestion_14 : decode cX4_noteQuestion 14 = .ok (.aload_n 0, 1) := by decide +kernel
theorem dX4_noteQuestion_15 : decode cX4_noteQuestion 15 = .ok (.dup, 1) := by decide +kernel
theorem dX4_noteQuestion_16 : decode cX4_noteQuestion 16 = .ok (.getfield 41, 3) := by decide +kernel
theorem dX4_noteQuestion_19 : decode cX4_noteQuestion 19 = .ok (.iconst 1, 1) := by decide +kernel
theorem dX4_noteQuestion_20 : decode cX4_noteQuestion 20 = .ok (.iadd, 1) := by decide +kernel
theorem dX4_noteQuestion_21 : decode cX4_noteQuestion 21 = .ok (.putfield 41, 3) := by decide +kernel
theorem dX4_noteQuestion_24 : decode cX4_noteQuestion 24 = .ok (.aload_n 0, 1) := by decide +kernel
theorem dX4_noteQuestion_25 : decode cX4_noteQuestion 25 = .ok (.getfield 44, 3) := by decide +kernel
theorem dX4_noteQuestion_28 : decode cX4_noteQuestion 28 = .ok (.aload_n 0, 1) := by decide +kernel
theorem dX4_noteQuestion_29 : decode cX4_noteQuestion 29 = .ok (.getfield 19, 3) := by decide +kernel
theorem dX4_noteQuestion_32 : decode cX4_noteQuestion 32 = .ok (.arraylength, 1) := by decide +kernel
theorem dX4_noteQuestion_33 : decode cX4_noteQuestion 33 = .ok (.if_icmp .lt 7, 3) := by decide +kernel
theorem dX4_noteQuestion_36 : decode cX4_noteQuestion 36 = .ok (.aload_n 0, 1) := by decide +kernel
theorem dX4_noteQuestion_37 : decode cX4_noteQuestion 37 = .ok (.invokevirtual 117, 3) := by decide +kernel
theorem dX4_noteQuestion_40 : decode cX4_noteQuestion 40 = .ok (.aload_n 0, 1) := by decide +kernel
theorem dX4_noteQuestion_41 : decode cX4_noteQuestion 41 = .ok (.getfield 44, 3) := by decide +kernel
theorem dX4_noteQuestion_44 : decode cX4_noteQuestion 44 = .ok (.ifCond .lt 35, 3) := by decide +kernel
theorem dX4_noteQuestion_47 : decode cX4_noteQuestion 47 = .ok (.aload_n 0, 1) := by decide +kernel
theorem dX4_noteQuestion_48 : decode cX4_noteQuestion 48 = .ok (.getfield 44, 3) := by decide +kernel
theorem dX4_noteQuestion_51 : decode cX4_noteQuestion 51 = .ok (.aload_n 0, 1) := by decide +kernel
theorem dX4_noteQuestion_52 : decode cX4_noteQuestion 52 = .ok (.getfield 19, 3) := by decide +kernel
theorem dX4_noteQuestion_55 : decode cX4_noteQuestion 55 = .ok (.arraylength, 1) := by decide +kernel
theorem dX4_noteQuestion_56 : decode cX4_noteQuestion 56 = .ok (.if_icmp .ge 23, 3) := by decide +kernel
theorem dX4_noteQuestion_59 : decode cX4_noteQuestion 59 = .ok (.aload_n 0, 1) := by decide +kernel
theorem dX4_noteQuestion_60 : decode cX4_noteQuestion 60 = .ok (.getfield 19, 3) := by decide +kernel
theorem dX4_noteQuestion_63 : decode cX4_noteQuestion 63 = .ok (.aload_n 0, 1) := by decide +kernel
theorem dX4_noteQuestion_64 : decode cX4_noteQuestion 64 = .ok (.getfield 44, 3) := by decide +kernel
theorem dX4_noteQuestion_67 : decode cX4_noteQuestion 67 = .ok (.iload_n 1, 1) := by decide +kernel
theorem dX4_noteQuestion_68 : decode cX4_noteQuestion 68 = .ok (.iastore, 1) := by decide +kernel
theorem dX4_noteQuestion_69 : decode cX4_noteQuestion 69 = .ok (.aload_n 0, 1) := by decide +kernel
theorem dX4_noteQuestion_70 : decode cX4_noteQuestion 70 = .ok (.dup, 1) := by decide +kernel
theorem dX4_noteQuestion_71 : decode cX4_noteQuestion 71 = .ok (.getfield 44, 3) := by decide +kernel
theorem dX4_noteQuestion_74 : decode cX4_noteQuestion 74 = .ok (.iconst 1, 1) := by decide +kernel
theorem dX4_noteQuestion_75 : decode cX4_noteQuestion 75 = .ok (.iadd, 1) := by decide +kernel
theorem dX4_noteQuestion_76 : decode cX4_noteQuestion 76 = .ok (.putfield 44, 3) := by decide +kernel
theorem dX4_noteQuestion_79 : decode cX4_noteQuestion 79 = .ok (.aload_n 0, 1) := by decide +kernel
theorem dX4_noteQuestion_80 : decode cX4_noteQuestion 80 = .ok (.iload_n 1, 1) := by decide +kernel
theorem dX4_noteQuestion_81 : decode cX4_noteQuestion 81 = .ok (.invokevirtual 80, 3) := by decide +kernel
theorem dX4_noteQuestion_84 : decode cX4_noteQuestion 84 = .ok (.ireturn, 1) := by decide +kernel
theorem dX4_forgetOldest_0 : decode cX4_forgetOldest 0 = .ok (.iconst 0, 1) := by decide +kernel
theorem dX4_forgetOldest_1 : decode cX4_forgetOldest 1 = .ok (.istore_n 1, 1) := by decide +kernel
theorem dX4_forgetOldest_2 : decode cX4_forgetOldest 2 = .ok (.iload_n 1, 1) := by decide +kernel
theorem dX4_forgetOldest_3 : decode cX4_forgetOldest 3 = .ok (.iconst 1, 1) := by decide +kernel
theorem dX4_forgetOldest_4 : decode cX4_forgetOldest 4 = .ok (.iadd, 1) := by decide +kernel
theorem dX4_forgetOldest_5 : decode cX4_forgetOldest 5 = .ok (.aload_n 0, 1) := by decide +kernel
theorem dX4_forgetOldest_6 : decode cX4_forgetOldest 6 = .ok (.getfield 44, 3) := by decide +kernel
theorem dX4_forgetOldest_9 : decode cX4_forgetOldest 9 = .ok (.if_icmp .ge 34, 3) := by decide +kernel
theorem dX4_forgetOldest_12 : decode cX4_forgetOldest 12 = .ok (.iload_n 1, 1) := by decide +kernel
theorem dX4_forgetOldest_13 : decode cX4_forgetOldest 13 = .ok (.iconst 1, 1) := by decide +kernel
theorem dX4_forgetOldest_14 : decode cX4_forgetOldest 14 = .ok (.iadd, 1) := by decide +kernel
theorem dX4_forgetOldest_15 : decode cX4_forgetOldest 15 = .ok (.aload_n 0, 1) := by decide +kernel
theorem dX4_forgetOldest_16 : decode cX4_forgetOldest 16 = .ok (.getfield 19, 3) := by decide +kernel
theorem dX4_forgetOldest_19 : decode cX4_forgetOldest 19 = .ok (.arraylength, 1) := by decide +kernel
theorem dX4_forgetOldest_20 : decode cX4_forgetOldest 20 = .ok (.if_icmp .ge 23, 3) := by decide +kernel
theorem dX4_forgetOldest_23 : decode cX4_forgetOldest 23 = .ok (.aload_n 0, 1) := by decide +kernel
theorem dX4_forgetOldest_24 : decode cX4_forgetOldest 24 = .ok (.getfield 19, 3) := by decide +kernel
theorem dX4_forgetOldest_27 : decode cX4_forgetOldest 27 = .ok (.iload_n 1, 1) := by decide +kernel
theorem dX4_forgetOldest_28 : decode cX4_forgetOldest 28 = .ok (.aload_n 0, 1) := by decide +kernel
theorem dX4_forgetOldest_29 : decode cX4_forgetOldest 29 = .ok (.getfield 19, 3) := by decide +kernel
theorem dX4_forgetOldest_32 : decode cX4_forgetOldest 32 = .ok (.iload_n 1, 1) := by decide +kernel
theorem dX4_forgetOldest_33 : decode cX4_forgetOldest 33 = .ok (.iconst 1, 1) := by decide +kernel
theorem dX4_forgetOldest_34 : decode cX4_forgetOldest 34 = .ok (.iadd, 1) := by decide +kernel
theorem dX4_forgetOldest_35 : decode cX4_forgetOldest 35 = .ok (.iaload, 1) := by decide +kernel
theorem dX4_forgetOldest_36 : decode cX4_forgetOldest 36 = .ok (.iastore, 1) := by decide +kernel
theorem dX4_forgetOldest_37 : decode cX4_forgetOldest 37 = .ok (.iinc 1 1, 3) := by decide +kernel
theorem dX4_forgetOldest_40 : decode cX4_forgetOldest 40 = .ok (.goto (-38), 3) := by decide +kernel
theorem dX4_forgetOldest_43 : decode cX4_forgetOldest 43 = .ok (.aload_n 0, 1) := by decide +kernel
theorem dX4_forgetOldest_44 : decode cX4_forgetOldest 44 = .ok (.dup, 1) := by decide +kernel
theorem dX4_forgetOldest_45 : decode cX4_forgetOldest 45 = .ok (.getfield 44, 3) := by decide +kernel
theorem dX4_forgetOldest_48 : decode cX4_forgetOldest 48 = .ok (.iconst 1, 1) := by decide +kernel
theorem dX4_forgetOldest_49 : decode cX4_forgetOldest 49 = .ok (.isub, 1) := by decide +kernel
theorem dX4_forgetOldest_50 : decode cX4_forgetOldest 50 = .ok (.putfield 44, 3) := by decide +kernel
theorem dX4_forgetOldest_53 : decode cX4_forgetOldest 53 = .ok (.return_, 1) := by decide +kernel
theorem dX5_init_0 : decode cX5_init 0 = .ok (.aload_n 0, 1) := by decide +kernel
theorem dX5_init_1 : decode cX5_init 1 = .ok (.invokespecial 3, 3) := by decide +kernel
theorem dX5_init_4 : decode cX5_init 4 = .ok (.aload_n 0, 1) := by decide +kernel
theorem dX5_init_5 : decode cX5_init 5 = .ok (.bipush 100, 2) := by decide +kernel
theorem dX5_init_7 : decode cX5_init 7 = .ok (.newarray .char, 2) := by decide +kernel
theorem dX5_init_9 : decode cX5_init 9 = .ok (.putfield 9, 3) := by decide +kernel
theorem dX5_init_12 : decode cX5_init 12 = .ok (.return_, 1) := by decide +kernel
theorem dX5_isFull_0 : decode cX5_isFull 0 = .ok (.aload_n 0, 1) := by decide +kernel
theorem dX5_isFull_1 : decode cX5_isFull 1 = .ok (.getfield 15, 3) := by decide +kernel
theorem dX5_isFull_4 : decode cX5_isFull 4 = .ok (.aload_n 0, 1) := by decide +kernel
theorem dX5_isFull_5 : decode cX5_isFull 5 = .ok (.getfield 9, 3) := by decide +kernel
theorem dX5_isFull_8 : decode cX5_isFull 8 = .ok (.arraylength, 1) := by decide +kernel
theorem dX5_isFull_9 : decode cX5_isFull 9 = .ok (.if_icmp .lt 7, 3) := by decide +kernel
theorem dX5_isFull_12 : decode cX5_isFull 12 = .ok (.iconst 1, 1) := by decide +kernel
theorem dX5_isFull_13 : decode cX5_isFull 13 = .ok (.goto 4, 3) := by decide +kernel
theorem dX5_isFull_16 : decode cX5_isFull 16 = .ok (.iconst 0, 1) := by decide +kernel
theorem dX5_isFull_17 : decode cX5_isFull 17 = .ok (.ireturn, 1) := by decide +kernel
theorem dX5_put_0 : decode cX5_put 0 = .ok (.aload_n 0, 1) := by decide +kernel
theorem dX5_put_1 : decode cX5_put 1 = .ok (.getfield 15, 3) := by decide +kernel
theorem dX5_put_4 : decode cX5_put 4 = .ok (.ifCond .lt 36, 3) := by decide +kernel
theorem dX5_put_7 : decode cX5_put 7 = .ok (.aload_n 0, 1) := by decide +kernel
theorem dX5_put_8 : decode cX5_put 8 = .ok (.getfield 15, 3) := by decide +kernel
theorem dX5_put_11 : decode cX5_put 11 = .ok (.aload_n 0, 1) := by decide +kernel
theorem dX5_put_12 : decode cX5_put 12 = .ok (.getfield 9, 3) := by decide +kernel
theorem dX5_put_15 : decode cX5_put 15 = .ok (.arraylength, 1) := by decide +kernel
theorem dX5_put_16 : decode cX5_put 16 = .ok (.if_icmp .ge 24, 3) := by decide +kernel
theorem dX5_put_19 : decode cX5_put 19 = .ok (.aload_n 0, 1) := by decide +kernel
theorem dX5_put_20 : decode cX5_put 20 = .ok (.getfield 9, 3) := by decide +kernel
theorem dX5_put_23 : decode cX5_put 23 = .ok (.aload_n 0, 1) := by decide +kernel
theorem dX5_put_24 : decode cX5_put 24 = .ok (.getfield 15, 3) := by decide +kernel
theorem dX5_put_27 : decode cX5_put 27 = .ok (.iload_n 1, 1) := by decide +kernel
theorem dX5_put_28 : decode cX5_put 28 = .ok (.i2c, 1) := by decide +kernel
theorem dX5_put_29 : decode cX5_put 29 = .ok (.castore, 1) := by decide +kernel
theorem dX5_put_30 : decode cX5_put 30 = .ok (.aload_n 0, 1) := by decide +kernel
theorem dX5_put_31 : decode cX5_put 31 = .ok (.dup, 1) := by decide +kernel
theorem dX5_put_32 : decode cX5_put 32 = .ok (.getfield 15, 3) := by decide +kernel
theorem dX5_put_35 : decode cX5_put 35 = .ok (.iconst 1, 1) := by decide +kernel
theorem dX5_put_36 : decode cX5_put 36 = .ok (.iadd, 1) := by decide +kernel
theorem dX5_put_37 : decode cX5_put 37 = .ok (.putfield 15, 3) := by decide +kernel
theorem dX5_put_40 : decode cX5_put 40 = .ok (.aload_n 0, 1) := by decide +kernel
theorem dX5_put_41 : decode cX5_put 41 = .ok (.getfield 15, 3) := by decide +kernel
theorem dX5_put_44 : decode cX5_put 44 = .ok (.ireturn, 1) := by decide +kernel
theorem dX5_empty_0 : decode cX5_empty 0 = .ok (.aload_n 0, 1) := by decide +kernel
theorem dX5_empty_1 : decode cX5_empty 1 = .ok (.getfield 15, 3) := by decide +kernel
theorem dX5_empty_4 : decode cX5_empty 4 = .ok (.istore_n 1, 1) := by decide +kernel
theorem dX5_empty_5 : decode cX5_empty 5 = .ok (.aload_n 0, 1) := by decide +kernel
theorem dX5_empty_6 : decode cX5_empty 6 = .ok (.iconst 0, 1) := by decide +kernel
theorem dX5_empty_7 : decode cX5_empty 7 = .ok (.putfield 15, 3) := by decide +kernel
theorem dX5_empty_10 : decode cX5_empty 10 = .ok (.iload_n 1, 1) := by decide +kernel
theorem dX5_empty_11 : decode cX5_empty 11 = .ok (.ireturn, 1) := by decide +kernel
set_option maxRecDepth 20000 in
theorem ggX5_questionError_X5_choiceAt : GoodIn wsX5_questionError wsX5_choiceAt := goodIn_r _ [6, 7, 8, 9, 5, 10, 1, 11, 12, 13, 14, 15, 16, 17] (by decide +kernel) (by decide +kernel)
set_option maxRecDepth 20000 in
theorem gX5_questionError_X5_choiceAt : GoodIn wsX5_questionError (wsV RX5 19 RX5 yX5_choiceAt wsX5_choiceAt) := goodIn_app (goodIn_of _ (by decide +kernel)) ggX5_questionError_X5_choiceAt
theorem dX5_questionError_0 : decode cX5_questionError 0 = .ok (.iconst 0, 1) := by decide +kernel
theorem dX5_questionError_1 : decode cX5_questionError 1 = .ok (.istore_n 1, 1) := by decide +kernel
theorem dX5_questionError_2 : decode cX5_questionError 2 = .ok (.iload_n 1, 1) := by decide +kernel
theorem dX5_questionError_3 : decode cX5_questionError 3 = .ok (.aload_n 0, 1) := by decide +kernel
theorem dX5_questionError_4 : decode cX5_questionError 4 = .ok (.getfield 15, 3) := by decide +kernel
theorem dX5_questionError_7 : decode cX5_questionError 7 = .ok (.if_icmp .ge 25, 3) := by decide +kernel
theorem dX5_questionError_10 : decode cX5_questionError 10 = .ok (.iload_n 1, 1) := by decide +kernel
theorem dX5_questionError_11 : decode cX5_questionError 11 = .ok (.iconst 3, 1) := by decide +kernel
theorem dX5_questionError_12 : decode cX5_questionError 12 = .ok (.if_icmp .ge 12, 3) := by decide +kernel
theorem dX5_questionError_15 : decode cX5_questionError 15 = .ok (.aload_n 0, 1) := by decide +kernel
theorem dX5_questionError_16 : decode cX5_questionError 16 = .ok (.iload_n 1, 1) := by decide +kernel
theorem dX5_questionError_17 : decode cX5_questionError 17 = .ok (.invokevirtual 19, 3) := by decide +kernel
theorem dX5_questionError_20 : decode cX5_questionError 20 = .ok (.iconst (-1), 1) := by decide +kernel
theorem dX5_questionError_21 : decode cX5_questionError 21 = .ok (.if_icmp .ne 5, 3) := by decide +kernel
theorem dX5_questionError_24 : decode cX5_questionError 24 = .ok (.iload_n 1, 1) := by decide +kernel
theorem dX5_questionError_25 : decode cX5_questionError 25 = .ok (.ireturn, 1) := by decide +kernel
theorem dX5_questionError_26 : decode cX5_questionError 26 = .ok (.iinc 1 1, 3) := by decide +kernel
theorem dX5_questionError_29 : decode cX5_questionError 29 = .ok (.goto (-27), 3) := by decide +kernel
theorem dX5_questionError_32 : decode cX5_questionError 32 = .ok (.aload_n 0, 1) := by decide +kernel
theorem dX5_questionError_33 : decode cX5_questionError 33 = .ok (.getfield 15, 3) := by decide +kernel
theorem dX5_questionError_36 : decode cX5_questionError 36 = .ok (.iconst 3, 1) := by decide +kernel
theorem dX5_questionError_37 : decode cX5_questionError 37 = .ok (.if_icmp .ge 10, 3) := by decide +kernel
theorem dX5_questionError_40 : decode cX5_questionError 40 = .ok (.aload_n 0, 1) := by decide +kernel
theorem dX5_questionError_41 : decode cX5_questionError 41 = .ok (.getfield 15, 3) := by decide +kernel
theorem dX5_questionError_44 : decode cX5_questionError 44 = .ok (.goto 4, 3) := by decide +kernel
theorem dX5_questionError_47 : decode cX5_questionError 47 = .ok (.iconst (-1), 1) := by decide +kernel
theorem dX5_questionError_48 : decode cX5_questionError 48 = .ok (.ireturn, 1) := by decide +kernel
set_option maxRecDepth 20000 in
theorem ggX5_triplesError_X5_signAt : GoodIn wsX5_triplesError wsX5_signAt := goodIn_r _ [6, 1, 7, 12, 13] (by decide +kernel) (by decide +kernel)
set_option maxRecDepth 20000 in
theorem gX5_triplesError_X5_signAt : GoodIn wsX5_triplesError (wsV RX5 23 RX5 yX5_signAt wsX5_signAt) := goodIn_app (goodIn_of _ (by decide +kernel)) ggX5_triplesError_X5_signAt
set_option maxRecDepth 20000 in
theorem ggX5_triplesError_X5_digitAt : GoodIn wsX5_triplesError wsX5_digitAt := goodIn_r _ [11, 2, 3, 4, 5, 6, 1, 7, 12, 13] (by decide +kernel) (by decide +kernel)
set_option maxRecDepth 20000 in
theorem gX5_triplesError_X5_digitAt : GoodIn wsX5_triplesError (wsV RX5 26 RX5 yX5_digitAt wsX5_digitAt) := goodIn_app (goodIn_of _ (by decide +kernel)) ggX5_triplesError_X5_digitAt
theorem dX5_triplesError_0 : decode cX5_triplesError 0 = .ok (.iconst 0, 1) := by decide +kernel
theorem dX5_triplesError_1 : decode cX5_triplesError 1 = .ok (.istore_n 1, 1) := by decide +kernel
theorem dX5_triplesError_2 : decode cX5_triplesError 2 = .ok (.iload_n 1, 1) := by decide +kernel
theorem dX5_triplesError_3 : decode cX5_triplesError 3 = .ok (.aload_n 0, 1) := by decide +kernel
theorem dX5_triplesError_4 : decode cX5_triplesError 4 = .ok (.getfield 15, 3) := by decide +kernel
theorem dX5_triplesError_7 : decode cX5_triplesError 7 = .ok (.if_icmp .ge 55, 3) := by decide +kernel
theorem dX5_triplesError_10 : decode cX5_triplesError 10 = .ok (.iload_n 1, 1) := by decide +kernel
theorem dX5_triplesError_11 : decode cX5_triplesError 11 = .ok (.iconst 4, 1) := by decide +kernel
theorem dX5_triplesError_12 : decode cX5_triplesError 12 = .ok (.irem, 1) := by decide +kernel
theorem dX5_triplesError_13 : decode cX5_triplesError 13 = .ok (.iconst 3, 1) := by decide +kernel
theorem dX5_triplesError_14 : decode cX5_triplesError 14 = .ok (.if_icmp .ne 21, 3) := by decide +kernel
theorem dX5_triplesError_17 : decode cX5_triplesError 17 = .ok (.aload_n 0, 1) := by decide +kernel
theorem dX5_triplesError_18 : decode cX5_triplesError 18 = .ok (.iload_n 1, 1) := by decide +kernel
theorem dX5_triplesError_19 : decode cX5_triplesError 19 = .ok (.invokevirtual 23, 3) := by decide +kernel
theorem dX5_triplesError_22 : decode cX5_triplesError 22 = .ok (.bipush 44, 2) := by decide +kernel
theorem dX5_triplesError_24 : decode cX5_triplesError 24 = .ok (.if_icmp .ne 7, 3) := by decide +kernel
theorem dX5_triplesError_27 : decode cX5_triplesError 27 = .ok (.iconst 1, 1) := by decide +kernel
theorem dX5_triplesError_28 : decode cX5_triplesError 28 = .ok (.goto 21, 3) := by decide +kernel
theorem dX5_triplesError_31 : decode cX5_triplesError 31 = .ok (.iconst 0, 1) := by decide +kernel
theorem dX5_triplesError_32 : decode cX5_triplesError 32 = .ok (.goto 17, 3) := by decide +kernel
theorem dX5_triplesError_35 : decode cX5_triplesError 35 = .ok (.aload_n 0, 1) := by decide +kernel
theorem dX5_triplesError_36 : decode cX5_triplesError 36 = .ok (.iload_n 1, 1) := by decide +kernel
theorem dX5_triplesError_37 : decode cX5_triplesError 37 = .ok (.invokevirtual 26, 3) := by decide +kernel
theorem dX5_triplesError_40 : decode cX5_triplesError 40 = .ok (.iconst (-1), 1) := by decide +kernel
theorem dX5_triplesError_41 : decode cX5_triplesError 41 = .ok (.if_icmp .eq 7, 3) := by decide +kernel
theorem dX5_triplesError_44 : decode cX5_triplesError 44 = .ok (.iconst 1, 1) := by decide +kernel
theorem dX5_triplesError_45 : decode cX5_triplesError 45 = .ok (.goto 4, 3) := by decide +kernel
theorem dX5_triplesError_48 : decode cX5_triplesError 48 = .ok (.iconst 0, 1) := by decide +kernel
theorem dX5_triplesError_49 : decode cX5_triplesError 49 = .ok (.istore_n 2, 1) := by decide +kernel
theorem dX5_triplesError_50 : decode cX5_triplesError 50 = .ok (.iload_n 2, 1) := by decide +kernel
theorem dX5_triplesError_51 : decode cX5_triplesError 51 = .ok (.ifCond .ne 5, 3) := by decide +kernel
theorem dX5_triplesError_54 : decode cX5_triplesError 54 = .ok (.iload_n 1, 1) := by decide +kernel
theorem dX5_triplesError_55 : decode cX5_triplesError 55 = .ok (.ireturn, 1) := by decide +kernel
theorem dX5_triplesError_56 : decode cX5_triplesError 56 = .ok (.iinc 1 1, 3) := by decide +kernel
theorem dX5_triplesError_59 : decode cX5_triplesError 59 = .ok (.goto (-57), 3) := by decide +kernel
theorem dX5_triplesError_62 : decode cX5_triplesError 62 = .ok (.aload_n 0, 1) := by decide +kernel
theorem dX5_triplesError_63 : decode cX5_triplesError 63 = .ok (.getfield 15, 3) := by decide +kernel
theorem dX5_triplesError_66 : decode cX5_triplesError 66 = .ok (.iconst 4, 1) := by decide +kernel
theorem dX5_triplesError_67 : decode cX5_triplesError 67 = .ok (.irem, 1) := by decide +kernel
theorem dX5_triplesError_68 : decode cX5_triplesError 68 = .ok (.iconst 3, 1) := by decide +kernel
theorem dX5_triplesError_69 : decode cX5_triplesError 69 = .ok (.if_icmp .ne 7, 3) := by decide +kernel
theorem dX5_triplesError_72 : decode cX5_triplesError 72 = .ok (.iconst (-1), 1) := by decide +kernel
theorem dX5_triplesError_73 : decode cX5_triplesError 73 = .ok (.goto 7, 3) := by decide +kernel
theorem dX5_triplesError_76 : decode cX5_triplesError 76 = .ok (.aload_n 0, 1) := by decide +kernel
theorem dX5_triplesError_77 : decode cX5_triplesError 77 = .ok (.getfield 15, 3) := by decide +kernel
theorem dX5_triplesError_80 : decode cX5_triplesError 80 = .ok (.ireturn, 1) := by decide +kernel
set_option maxRecDepth 20000 in
theorem ggX5_asQuestion_X5_choiceAt : GoodIn wsX5_asQuestion wsX5_choiceAt := goodIn_r _ [5, 6, 7, 8, 4, 9, 10, 11, 12, 13, 14, 15, 20, 21] (by decide +kernel) (by decide +kernel)
set_option maxRecDepth 20000 in
theorem gX5_asQuestion_X5_choiceAt : GoodIn wsX5_asQuestion (wsV RX5 19 RX5 yX5_choiceAt wsX5_choiceAt) := goodIn_app (goodIn_of _ (by decide +kernel)) ggX5_asQuestion_X5_choiceAt
set_option maxRecDepth 20000 in
theorem ggX5_asQuestion_X2_questionOf : GoodIn wsX5_asQuestion wsX2_questionOf := goodIn_r _ [19] (by decide +kernel) (by decide +kernel)
set_option maxRecDepth 20000 in
theorem gX5_asQuestion_X2_questionOf : GoodIn wsX5_asQuestion (va_wsS RX5 29 yX2_questionOf wsX2_questionOf) := goodIn_app (goodIn_of _ (by decide +kernel)) ggX5_asQuestion_X2_questionOf
theorem dX5_asQuestion_0 : decode cX5_asQuestion 0 = .ok (.aload_n 0, 1) := by decide +kernel
theorem dX5_asQuestion_1 : decode cX5_asQuestion 1 = .ok (.iconst 0, 1) := by decide +kernel
theorem dX5_asQuestion_2 : decode cX5_asQuestion 2 = .ok (.invokevirtual 19, 3) := by decide +kernel
theorem dX5_asQuestion_5 : decode cX5_asQuestion 5 = .ok (.aload_n 0, 1) := by decide +kernel
theorem dX5_asQuestion_6 : decode cX5_asQuestion 6 = .ok (.iconst 1, 1) := by decide +kernel
theorem dX5_asQuestion_7 : decode cX5_asQuestion 7 = .ok (.invokevirtual 19, 3) := by decide +kernel
theorem dX5_asQuestion_10 : decode cX5_asQuestion 10 = .ok (.aload_n 0, 1) := by decide +kernel
theorem dX5_asQuestion_11 : decode cX5_asQuestion 11 = .ok (.iconst 2, 1) := by decide +kernel
theorem dX5_asQuestion_12 : decode cX5_asQuestion 12 = .ok (.invokevirtual 19, 3) := by decide +kernel
theorem dX5_asQuestion_15 : decode cX5_asQuestion 15 = .ok (.invokestatic 29, 3) := by decide +kernel
theorem dX5_asQuestion_18 : decode cX5_asQuestion 18 = .ok (.ireturn, 1) := by decide +kernel
theorem dX5_countTriples_0 : decode cX5_countTriples 0 = .ok (.aload_n 0, 1) := by decide +kernel
theorem dX5_countTriples_1 : decode cX5_countTriples 1 = .ok (.getfield 15, 3) := by decide +kernel
theorem dX5_countTriples_4 : decode cX5_countTriples 4 = .ok (.iconst 1, 1) := by decide +kernel
theorem dX5_countTriples_5 : decode cX5_countTriples 5 = .ok (.iadd, 1) := by decide +kernel
theorem dX5_countTriples_6 : decode cX5_countTriples 6 = .ok (.iconst 4, 1) := by decide +kernel
theorem dX5_countTriples_7 : decode cX5_countTriples 7 = .ok (.idiv, 1) := by decide +kernel
theorem dX5_countTriples_8 : decode cX5_countTriples 8 = .ok (.ireturn, 1) := by decide +kernel
set_option maxRecDepth 20000 in
theorem ggX5_tripleAt_X5_digitAt : GoodIn wsX5_tripleAt wsX5_digitAt := goodIn_r _ [5, 6, 7, 8, 4, 9, 10, 11, 12, 13] (by decide +kernel) (by decide +kernel)
set_option maxRecDepth 20000 in
theorem gX5_tripleAt_X5_digitAt : GoodIn wsX5_tripleAt (wsV RX5 26 RX5 yX5_digitAt wsX5_digitAt) := goodIn_app (goodIn_of _ (by decide +kernel)) ggX5_tripleAt_X5_digitAt
theorem dX5_tripleAt_0 : decode cX5_tripleAt 0 = .ok (.bipush 100, 2) := by decide +kernel
theorem dX5_tripleAt_2 : decode cX5_tripleAt 2 = .ok (.aload_n 0, 1) := by decide +kernel
theorem dX5_tripleAt_3 : decode cX5_tripleAt 3 = .ok (.iconst 4, 1) := by decide +kernel
theorem dX5_tripleAt_4 : decode cX5_tripleAt 4 = .ok (.iload_n 1, 1) := by decide +kernel
theorem dX5_tripleAt_5 : decode cX5_tripleAt 5 = .ok (.imul, 1) := by decide +kernel
theorem dX5_tripleAt_6 : decode cX5_tripleAt 6 = .ok (.invokevirtual 26, 3) := by decide +kernel
theorem dX5_tripleAt_9 : decode cX5_tripleAt 9 = .ok (.imul, 1) := by decide +kernel
theorem dX5_tripleAt_10 : decode cX5_tripleAt 10 = .ok (.bipush 10, 2) := by decide +kernel
theorem dX5_tripleAt_12 : decode cX5_tripleAt 12 = .ok (.aload_n 0, 1) := by decide +kernel
theorem dX5_tripleAt_13 : decode cX5_tripleAt 13 = .ok (.iconst 4, 1) := by decide +kernel
theorem dX5_tripleAt_14 : decode cX5_tripleAt 14 = .ok (.iload_n 1, 1) := by decide +kernel
theorem dX5_tripleAt_15 : decode cX5_tripleAt 15 = .ok (.imul, 1) := by decide +kernel
theorem dX5_tripleAt_16 : decode cX5_tripleAt 16 = .ok (.iconst 1, 1) := by decide +kernel
theorem dX5_tripleAt_17 : decode cX5_tripleAt 17 = .ok (.iadd, 1) := by decide +kernel
theorem dX5_tripleAt_18 : decode cX5_tripleAt 18 = .ok (.invokevirtual 26, 3) := by decide +kernel
theorem dX5_tripleAt_21 : decode cX5_tripleAt 21 = .ok (.imul, 1) := by decide +kernel
theorem dX5_tripleAt_22 : decode cX5_tripleAt 22 = .ok (.iadd, 1) := by decide +kernel
theorem dX5_tripleAt_23 : decode cX5_tripleAt 23 = .ok (.aload_n 0, 1) := by decide +kernel
theorem dX5_tripleAt_24 : decode cX5_tripleAt 24 = .ok (.iconst 4, 1) := by decide +kernel
theorem dX5_tripleAt_25 : decode cX5_tripleAt 25 = .ok (.iload_n 1, 1) := by decide +kernel
theorem dX5_tripleAt_26 : decode cX5_tripleAt 26 = .ok (.imul, 1) := by decide +kernel
theorem dX5_tripleAt_27 : decode cX5_tripleAt 27 = .ok (.iconst 2, 1) := by decide +kernel
theorem dX5_tripleAt_28 : decode cX5_tripleAt 28 = .ok (.iadd, 1) := by decide +kernel
theorem dX5_tripleAt_29 : decode cX5_tripleAt 29 = .ok (.invokevirtual 26, 3) := by decide +kernel
theorem dX5_tripleAt_32 : decode cX5_tripleAt 32 = .ok (.iadd, 1) := by decide +kernel
theorem dX5_tripleAt_33 : decode cX5_tripleAt 33 = .ok (.ireturn, 1) := by decide +kernel
set_option maxRecDepth 20000 in
theorem ggX5_choiceAt_X5_signAt : GoodIn wsX5_choiceAt wsX5_signAt := goodIn_r _ [5, 6, 7, 12, 13] (by decide +kernel) (by decide +kernel)
