set_option maxRecDepth 20000 in
theorem ggX4_put_X4_payUpkeep : GoodIn wsX4_put wsX4_payUpkeep := goodIn_r _ [15, 16, 17, 18, 19, 20, 21, 22, 23, 24, 25, 26, 27, 6, 28, 1, 29, 30, 31, 32, 33, 34, 35, 36, 37, 38] (by decide +kernel) (by decide +kernel)
set_option maxRecDepth 20000 in
theorem gX4_put_X4_payUpkeep : GoodIn wsX4_put (wsV RX4 51 RX4 yX4_payUpkeep wsX4_payUpkeep) := goodIn_app (goodIn_of _ (by decide +kernel)) ggX4_put_X4_payUpkeep
theorem dX4_put_0 : decode cX4_put 0 = .ok (.aload_n 0, 1) := by decide +kernel
theorem dX4_put_1 : decode cX4_put 1 = .ok (.getfield 25, 3) := by decide +kernel
theorem dX4_put_4 : decode cX4_put 4 = .ok (.ifCond .lt 24, 3) := by decide +kernel
theorem dX4_put_7 : decode cX4_put 7 = .ok (.aload_n 0, 1) := by decide +kernel
theorem dX4_put_8 : decode cX4_put 8 = .ok (.getfield 25, 3) := by decide +kernel
theorem dX4_put_11 : decode cX4_put 11 = .ok (.aload_n 0, 1) := by decide +kernel
theorem dX4_put_12 : decode cX4_put 12 = .ok (.getfield 9, 3) := by decide +kernel
theorem dX4_put_15 : decode cX4_put 15 = .ok (.arraylength, 1) := by decide +kernel
theorem dX4_put_16 : decode cX4_put 16 = .ok (.if_icmp .ge 12, 3) := by decide +kernel
theorem dX4_put_19 : decode cX4_put 19 = .ok (.aload_n 0, 1) := by decide +kernel
theorem dX4_put_20 : decode cX4_put 20 = .ok (.iload_n 1, 1) := by decide +kernel
theorem dX4_put_21 : decode cX4_put 21 = .ok (.invokevirtual 47, 3) := by decide +kernel
theorem dX4_put_24 : decode cX4_put 24 = .ok (.iconst (-1), 1) := by decide +kernel
theorem dX4_put_25 : decode cX4_put 25 = .ok (.if_icmp .eq 5, 3) := by decide +kernel
theorem dX4_put_28 : decode cX4_put 28 = .ok (.iconst 0, 1) := by decide +kernel
theorem dX4_put_29 : decode cX4_put 29 = .ok (.ireturn, 1) := by decide +kernel
theorem dX4_put_30 : decode cX4_put 30 = .ok (.aload_n 0, 1) := by decide +kernel
theorem dX4_put_31 : decode cX4_put 31 = .ok (.invokevirtual 51, 3) := by decide +kernel
theorem dX4_put_34 : decode cX4_put 34 = .ok (.aload_n 0, 1) := by decide +kernel
theorem dX4_put_35 : decode cX4_put 35 = .ok (.getfield 9, 3) := by decide +kernel
theorem dX4_put_38 : decode cX4_put 38 = .ok (.aload_n 0, 1) := by decide +kernel
theorem dX4_put_39 : decode cX4_put 39 = .ok (.getfield 25, 3) := by decide +kernel
theorem dX4_put_42 : decode cX4_put 42 = .ok (.iload_n 1, 1) := by decide +kernel
theorem dX4_put_43 : decode cX4_put 43 = .ok (.iastore, 1) := by decide +kernel
theorem dX4_put_44 : decode cX4_put 44 = .ok (.aload_n 0, 1) := by decide +kernel
theorem dX4_put_45 : decode cX4_put 45 = .ok (.dup, 1) := by decide +kernel
theorem dX4_put_46 : decode cX4_put 46 = .ok (.getfield 25, 3) := by decide +kernel
theorem dX4_put_49 : decode cX4_put 49 = .ok (.iconst 1, 1) := by decide +kernel
theorem dX4_put_50 : decode cX4_put 50 = .ok (.iadd, 1) := by decide +kernel
theorem dX4_put_51 : decode cX4_put 51 = .ok (.putfield 25, 3) := by decide +kernel
theorem dX4_put_54 : decode cX4_put 54 = .ok (.iconst 1, 1) := by decide +kernel
theorem dX4_put_55 : decode cX4_put 55 = .ok (.ireturn, 1) := by decide +kernel
set_option maxRecDepth 20000 in
theorem ggX4_take_X4_indexOf : GoodIn wsX4_take wsX4_indexOf := goodIn_r _ [7, 1, 8, 9, 10, 6, 11, 2, 29, 30, 31, 32, 33, 34, 35, 36, 37, 38] (by decide +kernel) (by decide +kernel)
set_option maxRecDepth 20000 in
theorem gX4_take_X4_indexOf : GoodIn wsX4_take (wsV RX4 47 RX4 yX4_indexOf wsX4_indexOf) := goodIn_app (goodIn_of _ (by decide +kernel)) ggX4_take_X4_indexOf
set_option maxRecDepth 20000 in
theorem ggX4_take_X4_payUpkeep : GoodIn wsX4_take wsX4_payUpkeep := goodIn_r _ [15, 16, 17, 18, 19, 20, 21, 22, 23, 24, 25, 26, 27, 6, 28, 1, 29, 30, 31, 32, 33, 34, 35, 36, 37, 38] (by decide +kernel) (by decide +kernel)
set_option maxRecDepth 20000 in
theorem gX4_take_X4_payUpkeep : GoodIn wsX4_take (wsV RX4 51 RX4 yX4_payUpkeep wsX4_payUpkeep) := goodIn_app (goodIn_of _ (by decide +kernel)) ggX4_take_X4_payUpkeep
theorem dX4_take_0 : decode cX4_take 0 = .ok (.aload_n 0, 1) := by decide +kernel
theorem dX4_take_1 : decode cX4_take 1 = .ok (.iload_n 1, 1) := by decide +kernel
theorem dX4_take_2 : decode cX4_take 2 = .ok (.invokevirtual 47, 3) := by decide +kernel
theorem dX4_take_5 : decode cX4_take 5 = .ok (.istore_n 2, 1) := by decide +kernel
theorem dX4_take_6 : decode cX4_take 6 = .ok (.iload_n 2, 1) := by decide +kernel
theorem dX4_take_7 : decode cX4_take 7 = .ok (.ifCond .ge 5, 3) := by decide +kernel
theorem dX4_take_10 : decode cX4_take 10 = .ok (.iconst 0, 1) := by decide +kernel
theorem dX4_take_11 : decode cX4_take 11 = .ok (.ireturn, 1) := by decide +kernel
theorem dX4_take_12 : decode cX4_take 12 = .ok (.aload_n 0, 1) := by decide +kernel
theorem dX4_take_13 : decode cX4_take 13 = .ok (.invokevirtual 51, 3) := by decide +kernel
theorem dX4_take_16 : decode cX4_take 16 = .ok (.iload_n 2, 1) := by decide +kernel
theorem dX4_take_17 : decode cX4_take 17 = .ok (.istore_n 3, 1) := by decide +kernel
theorem dX4_take_18 : decode cX4_take 18 = .ok (.iload_n 3, 1) := by decide +kernel
theorem dX4_take_19 : decode cX4_take 19 = .ok (.iconst 1, 1) := by decide +kernel
theorem dX4_take_20 : decode cX4_take 20 = .ok (.iadd, 1) := by decide +kernel
theorem dX4_take_21 : decode cX4_take 21 = .ok (.aload_n 0, 1) := by decide +kernel
theorem dX4_take_22 : decode cX4_take 22 = .ok (.getfield 25, 3) := by decide +kernel
theorem dX4_take_25 : decode cX4_take 25 = .ok (.if_icmp .ge 34, 3) := by decide +kernel
theorem dX4_take_28 : decode cX4_take 28 = .ok (.iload_n 3, 1) := by decide +kernel
theorem dX4_take_29 : decode cX4_take 29 = .ok (.iconst 1, 1) := by decide +kernel
theorem dX4_take_30 : decode cX4_take 30 = .ok (.iadd, 1) := by decide +kernel
theorem dX4_take_31 : decode cX4_take 31 = .ok (.aload_n 0, 1) := by decide +kernel
theorem dX4_take_32 : decode cX4_take 32 = .ok (.getfield 9, 3) := by decide +kernel
theorem dX4_take_35 : decode cX4_take 35 = .ok (.arraylength, 1) := by decide +kernel
theorem dX4_take_36 : decode cX4_take 36 = .ok (.if_icmp .ge 23, 3) := by decide +kernel
theorem dX4_take_39 : decode cX4_take 39 = .ok (.aload_n 0, 1) := by decide +kernel
theorem dX4_take_40 : decode cX4_take 40 = .ok (.getfield 9, 3) := by decide +kernel
theorem dX4_take_43 : decode cX4_take 43 = .ok (.iload_n 3, 1) := by decide +kernel
theorem dX4_take_44 : decode cX4_take 44 = .ok (.aload_n 0, 1) := by decide +kernel
theorem dX4_take_45 : decode cX4_take 45 = .ok (.getfield 9, 3) := by decide +kernel
theorem dX4_take_48 : decode cX4_take 48 = .ok (.iload_n 3, 1) := by decide +kernel
theorem dX4_take_49 : decode cX4_take 49 = .ok (.iconst 1, 1) := by decide +kernel
theorem dX4_take_50 : decode cX4_take 50 = .ok (.iadd, 1) := by decide +kernel
theorem dX4_take_51 : decode cX4_take 51 = .ok (.iaload, 1) := by decide +kernel
theorem dX4_take_52 : decode cX4_take 52 = .ok (.iastore, 1) := by decide +kernel
theorem dX4_take_53 : decode cX4_take 53 = .ok (.iinc 3 1, 3) := by decide +kernel
theorem dX4_take_56 : decode cX4_take 56 = .ok (.goto (-38), 3) := by decide +kernel
theorem dX4_take_59 : decode cX4_take 59 = .ok (.aload_n 0, 1) := by decide +kernel
theorem dX4_take_60 : decode cX4_take 60 = .ok (.dup, 1) := by decide +kernel
theorem dX4_take_61 : decode cX4_take 61 = .ok (.getfield 25, 3) := by decide +kernel
theorem dX4_take_64 : decode cX4_take 64 = .ok (.iconst 1, 1) := by decide +kernel
theorem dX4_take_65 : decode cX4_take 65 = .ok (.isub, 1) := by decide +kernel
theorem dX4_take_66 : decode cX4_take 66 = .ok (.putfield 25, 3) := by decide +kernel
theorem dX4_take_69 : decode cX4_take 69 = .ok (.iconst 1, 1) := by decide +kernel
theorem dX4_take_70 : decode cX4_take 70 = .ok (.ireturn, 1) := by decide +kernel
set_option maxRecDepth 20000 in
theorem ggX4_indexOf_X4_tripleAt : GoodIn wsX4_indexOf wsX4_tripleAt := goodIn_r _ [6, 1, 7, 8, 9, 10, 11, 12, 13, 14, 15, 16, 17] (by decide +kernel) (by decide +kernel)
set_option maxRecDepth 20000 in
theorem gX4_indexOf_X4_tripleAt : GoodIn wsX4_indexOf (wsV RX4 54 RX4 yX4_tripleAt wsX4_tripleAt) := goodIn_app (goodIn_of _ (by decide +kernel)) ggX4_indexOf_X4_tripleAt
theorem dX4_indexOf_0 : decode cX4_indexOf 0 = .ok (.iconst 0, 1) := by decide +kernel
theorem dX4_indexOf_1 : decode cX4_indexOf 1 = .ok (.istore_n 2, 1) := by decide +kernel
theorem dX4_indexOf_2 : decode cX4_indexOf 2 = .ok (.iload_n 2, 1) := by decide +kernel
theorem dX4_indexOf_3 : decode cX4_indexOf 3 = .ok (.aload_n 0, 1) := by decide +kernel
theorem dX4_indexOf_4 : decode cX4_indexOf 4 = .ok (.getfield 25, 3) := by decide +kernel
theorem dX4_indexOf_7 : decode cX4_indexOf 7 = .ok (.if_icmp .ge 20, 3) := by decide +kernel
theorem dX4_indexOf_10 : decode cX4_indexOf 10 = .ok (.aload_n 0, 1) := by decide +kernel
theorem dX4_indexOf_11 : decode cX4_indexOf 11 = .ok (.iload_n 2, 1) := by decide +kernel
theorem dX4_indexOf_12 : decode cX4_indexOf 12 = .ok (.invokevirtual 54, 3) := by decide +kernel
theorem dX4_indexOf_15 : decode cX4_indexOf 15 = .ok (.iload_n 1, 1) := by decide +kernel
theorem dX4_indexOf_16 : decode cX4_indexOf 16 = .ok (.if_icmp .ne 5, 3) := by decide +kernel
theorem dX4_indexOf_19 : decode cX4_indexOf 19 = .ok (.iload_n 2, 1) := by decide +kernel
theorem dX4_indexOf_20 : decode cX4_indexOf 20 = .ok (.ireturn, 1) := by decide +kernel
theorem dX4_indexOf_21 : decode cX4_indexOf 21 = .ok (.iinc 2 1, 3) := by decide +kernel
theorem dX4_indexOf_24 : decode cX4_indexOf 24 = .ok (.goto (-22), 3) := by decide +kernel
theorem dX4_indexOf_27 : decode cX4_indexOf 27 = .ok (.iconst (-1), 1) := by decide +kernel
theorem dX4_indexOf_28 : decode cX4_indexOf 28 = .ok (.ireturn, 1) := by decide +kernel
set_option maxRecDepth 20000 in
theorem ggX4_payUpkeep_J6_bitCount_0f7a4 : GoodIn wsX4_payUpkeep wsJ6_bitCount_0f7a4 := goodIn_r _ [6, 7, 8, 9] (by decide +kernel) (by decide +kernel)
set_option maxRecDepth 20000 in
theorem gX4_payUpkeep_J6_bitCount_0f7a4 : GoodIn wsX4_payUpkeep (va_wsS RX4 57 yJ6_bitCount_0f7a4 wsJ6_bitCount_0f7a4) := goodIn_app (goodIn_of _ (by decide +kernel)) ggX4_payUpkeep_J6_bitCount_0f7a4
set_option maxRecDepth 20000 in
theorem ggX4_payUpkeep_X4_look : GoodIn wsX4_payUpkeep wsX4_look := goodIn_r _ [14, 15, 16, 17, 18, 19, 20, 21, 22, 23, 24, 25] (by decide +kernel) (by decide +kernel)
set_option maxRecDepth 20000 in
theorem gX4_payUpkeep_X4_look : GoodIn wsX4_payUpkeep (wsV RX4 62 RX4 yX4_look wsX4_look) := goodIn_app (goodIn_of _ (by decide +kernel)) ggX4_payUpkeep_X4_look
theorem dX4_payUpkeep_0 : decode cX4_payUpkeep 0 = .ok (.aload_n 0, 1) := by decide +kernel
theorem dX4_payUpkeep_1 : decode cX4_payUpkeep 1 = .ok (.dup, 1) := by decide +kernel
theorem dX4_payUpkeep_2 : decode cX4_payUpkeep 2 = .ok (.getfield 32, 3) := by decide +kernel
theorem dX4_payUpkeep_5 : decode cX4_payUpkeep 5 = .ok (.aload_n 0, 1) := by decide +kernel
theorem dX4_payUpkeep_6 : decode cX4_payUpkeep 6 = .ok (.getfield 15, 3) := by decide +kernel
theorem dX4_payUpkeep_9 : decode cX4_payUpkeep 9 = .ok (.invokestatic 57, 3) := by decide +kernel
theorem dX4_payUpkeep_12 : decode cX4_payUpkeep 12 = .ok (.aload_n 0, 1) := by decide +kernel
theorem dX4_payUpkeep_13 : decode cX4_payUpkeep 13 = .ok (.invokevirtual 62, 3) := by decide +kernel
theorem dX4_payUpkeep_16 : decode cX4_payUpkeep 16 = .ok (.iconst 1, 1) := by decide +kernel
theorem dX4_payUpkeep_17 : decode cX4_payUpkeep 17 = .ok (.iadd, 1) := by decide +kernel
theorem dX4_payUpkeep_18 : decode cX4_payUpkeep 18 = .ok (.imul, 1) := by decide +kernel
theorem dX4_payUpkeep_19 : decode cX4_payUpkeep 19 = .ok (.iadd, 1) := by decide +kernel
theorem dX4_payUpkeep_20 : decode cX4_payUpkeep 20 = .ok (.putfield 32, 3) := by decide +kernel
theorem dX4_payUpkeep_23 : decode cX4_payUpkeep 23 = .ok (.return_, 1) := by decide +kernel
theorem dX4_keeps_0 : decode cX4_keeps 0 = .ok (.aload_n 0, 1) := by decide +kernel
theorem dX4_keeps_1 : decode cX4_keeps 1 = .ok (.getfield 15, 3) := by decide +kernel
theorem dX4_keeps_4 : decode cX4_keeps 4 = .ok (.iload_n 1, 1) := by decide +kernel
theorem dX4_keeps_5 : decode cX4_keeps 5 = .ok (.ishr, 1) := by decide +kernel
theorem dX4_keeps_6 : decode cX4_keeps 6 = .ok (.iconst 1, 1) := by decide +kernel
theorem dX4_keeps_7 : decode cX4_keeps 7 = .ok (.iand, 1) := by decide +kernel
theorem dX4_keeps_8 : decode cX4_keeps 8 = .ok (.iconst 1, 1) := by decide +kernel
theorem dX4_keeps_9 : decode cX4_keeps 9 = .ok (.if_icmp .ne 7, 3) := by decide +kernel
theorem dX4_keeps_12 : decode cX4_keeps 12 = .ok (.iconst 1, 1) := by decide +kernel
theorem dX4_keeps_13 : decode cX4_keeps 13 = .ok (.goto 4, 3) := by decide +kernel
theorem dX4_keeps_16 : decode cX4_keeps 16 = .ok (.iconst 0, 1) := by decide +kernel
theorem dX4_keeps_17 : decode cX4_keeps 17 = .ok (.ireturn, 1) := by decide +kernel
set_option maxRecDepth 20000 in
theorem ggX4_keep_X4_look : GoodIn wsX4_keep wsX4_look := goodIn_r _ [8, 1, 9, 10, 11, 12, 13, 14, 15, 16, 17, 18] (by decide +kernel) (by decide +kernel)
set_option maxRecDepth 20000 in
theorem gX4_keep_X4_look : GoodIn wsX4_keep (wsV RX4 62 RX4 yX4_look wsX4_look) := goodIn_app (goodIn_of _ (by decide +kernel)) ggX4_keep_X4_look
theorem dX4_keep_0 : decode cX4_keep 0 = .ok (.aload_n 0, 1) := by decide +kernel
theorem dX4_keep_1 : decode cX4_keep 1 = .ok (.getfield 25, 3) := by decide +kernel
theorem dX4_keep_4 : decode cX4_keep 4 = .ok (.aload_n 0, 1) := by decide +kernel
theorem dX4_keep_5 : decode cX4_keep 5 = .ok (.invokevirtual 62, 3) := by decide +kernel
theorem dX4_keep_8 : decode cX4_keep 8 = .ok (.imul, 1) := by decide +kernel
theorem dX4_keep_9 : decode cX4_keep 9 = .ok (.istore_n 2, 1) := by decide +kernel
theorem dX4_keep_10 : decode cX4_keep 10 = .ok (.aload_n 0, 1) := by decide +kernel
theorem dX4_keep_11 : decode cX4_keep 11 = .ok (.dup, 1) := by decide +kernel
theorem dX4_keep_12 : decode cX4_keep 12 = .ok (.getfield 35, 3) := by decide +kernel
theorem dX4_keep_15 : decode cX4_keep 15 = .ok (.iload_n 2, 1) := by decide +kernel
theorem dX4_keep_16 : decode cX4_keep 16 = .ok (.iadd, 1) := by decide +kernel
theorem dX4_keep_17 : decode cX4_keep 17 = .ok (.putfield 35, 3) := by decide +kernel
theorem dX4_keep_20 : decode cX4_keep 20 = .ok (.aload_n 0, 1) := by decide +kernel
theorem dX4_keep_21 : decode cX4_keep 21 = .ok (.dup, 1) := by decide +kernel
theorem dX4_keep_22 : decode cX4_keep 22 = .ok (.getfield 15, 3) := by decide +kernel
theorem dX4_keep_25 : decode cX4_keep 25 = .ok (.iconst 1, 1) := by decide +kernel
theorem dX4_keep_26 : decode cX4_keep 26 = .ok (.iload_n 1, 1) := by decide +kernel
theorem dX4_keep_27 : decode cX4_keep 27 = .ok (.ishl, 1) := by decide +kernel
theorem dX4_keep_28 : decode cX4_keep 28 = .ok (.ior, 1) := by decide +kernel
theorem dX4_keep_29 : decode cX4_keep 29 = .ok (.putfield 15, 3) := by decide +kernel
theorem dX4_keep_32 : decode cX4_keep 32 = .ok (.iload_n 2, 1) := by decide +kernel
theorem dX4_keep_33 : decode cX4_keep 33 = .ok (.ireturn, 1) := by decide +kernel
set_option maxRecDepth 20000 in
theorem ggX4_discard_J6_bitCount_0f7a4 : GoodIn wsX4_discard wsJ6_bitCount_0f7a4 := goodIn_r _ [5, 6, 7, 8] (by decide +kernel) (by decide +kernel)
set_option maxRecDepth 20000 in
theorem gX4_discard_J6_bitCount_0f7a4 : GoodIn wsX4_discard (va_wsS RX4 57 yJ6_bitCount_0f7a4 wsJ6_bitCount_0f7a4) := goodIn_app (goodIn_of _ (by decide +kernel)) ggX4_discard_J6_bitCount_0f7a4
theorem dX4_discard_0 : decode cX4_discard 0 = .ok (.aload_n 0, 1) := by decide +kernel
theorem dX4_discard_1 : decode cX4_discard 1 = .ok (.dup, 1) := by decide +kernel
theorem dX4_discard_2 : decode cX4_discard 2 = .ok (.getfield 15, 3) := by decide +kernel
theorem dX4_discard_5 : decode cX4_discard 5 = .ok (.iconst 1, 1) := by decide +kernel
theorem dX4_discard_6 : decode cX4_discard 6 = .ok (.iload_n 1, 1) := by decide +kernel
theorem dX4_discard_7 : decode cX4_discard 7 = .ok (.ishl, 1) := by decide +kernel
theorem dX4_discard_8 : decode cX4_discard 8 = .ok (.iconst (-1), 1) := by decide +kernel
theorem dX4_discard_9 : decode cX4_discard 9 = .ok (.ixor, 1) := by decide +kernel
theorem dX4_discard_10 : decode cX4_discard 10 = .ok (.iand, 1) := by decide +kernel
theorem dX4_discard_11 : decode cX4_discard 11 = .ok (.putfield 15, 3) := by decide +kernel
theorem dX4_discard_14 : decode cX4_discard 14 = .ok (.aload_n 0, 1) := by decide +kernel
theorem dX4_discard_15 : decode cX4_discard 15 = .ok (.getfield 15, 3) := by decide +kernel
theorem dX4_discard_18 : decode cX4_discard 18 = .ok (.invokestatic 57, 3) := by decide +kernel
theorem dX4_discard_21 : decode cX4_discard 21 = .ok (.ireturn, 1) := by decide +kernel
set_option maxRecDepth 20000 in
theorem ggX4_countAnswers_X4_tripleAt : GoodIn wsX4_countAnswers wsX4_tripleAt := goodIn_r _ [6, 1, 7, 11, 12, 13, 14, 15, 16, 17, 18, 19, 20] (by decide +kernel) (by decide +kernel)
set_option maxRecDepth 20000 in
theorem gX4_countAnswers_X4_tripleAt : GoodIn wsX4_countAnswers (wsV RX4 54 RX4 yX4_tripleAt wsX4_tripleAt) := goodIn_app (goodIn_of _ (by decide +kernel)) ggX4_countAnswers_X4_tripleAt
set_option maxRecDepth 20000 in
theorem ggX4_countAnswers_X4_fits : GoodIn wsX4_countAnswers wsX4_fits := goodIn_r _ [10] (by decide +kernel) (by decide +kernel)
set_option maxRecDepth 20000 in
theorem gX4_countAnswers_X4_fits : GoodIn wsX4_countAnswers (va_wsS RX4 66 yX4_fits wsX4_fits) := goodIn_app (goodIn_of _ (by decide +kernel)) ggX4_countAnswers_X4_fits
theorem dX4_countAnswers_0 : decode cX4_countAnswers 0 = .ok (.iconst 0, 1) := by decide +kernel
theorem dX4_countAnswers_1 : decode cX4_countAnswers 1 = .ok (.istore_n 2, 1) := by decide +kernel
theorem dX4_countAnswers_2 : decode cX4_countAnswers 2 = .ok (.iconst 0, 1) := by decide +kernel
theorem dX4_countAnswers_3 : decode cX4_countAnswers 3 = .ok (.istore_n 3, 1) := by decide +kernel
theorem dX4_countAnswers_4 : decode cX4_countAnswers 4 = .ok (.iload_n 3, 1) := by decide +kernel
theorem dX4_countAnswers_5 : decode cX4_countAnswers 5 = .ok (.aload_n 0, 1) := by decide +kernel
theorem dX4_countAnswers_6 : decode cX4_countAnswers 6 = .ok (.getfield 25, 3) := by decide +kernel
theorem dX4_countAnswers_9 : decode cX4_countAnswers 9 = .ok (.if_icmp .ge 24, 3) := by decide +kernel
theorem dX4_countAnswers_12 : decode cX4_countAnswers 12 = .ok (.aload_n 0, 1) := by decide +kernel
theorem dX4_countAnswers_13 : decode cX4_countAnswers 13 = .ok (.iload_n 3, 1) := by decide +kernel
theorem dX4_countAnswers_14 : decode cX4_countAnswers 14 = .ok (.invokevirtual 54, 3) := by decide +kernel
theorem dX4_countAnswers_17 : decode cX4_countAnswers 17 = .ok (.iload_n 1, 1) := by decide +kernel
theorem dX4_countAnswers_18 : decode cX4_countAnswers 18 = .ok (.invokestatic 66, 3) := by decide +kernel
theorem dX4_countAnswers_21 : decode cX4_countAnswers 21 = .ok (.ifCond .eq 6, 3) := by decide +kernel
theorem dX4_countAnswers_24 : decode cX4_countAnswers 24 = .ok (.iinc 2 1, 3) := by decide +kernel
theorem dX4_countAnswers_27 : decode cX4_countAnswers 27 = .ok (.iinc 3 1, 3) := by decide +kernel
theorem dX4_countAnswers_30 : decode cX4_countAnswers 30 = .ok (.goto (-26), 3) := by decide +kernel
theorem dX4_countAnswers_33 : decode cX4_countAnswers 33 = .ok (.iload_n 2, 1) := by decide +kernel
theorem dX4_countAnswers_34 : decode cX4_countAnswers 34 = .ok (.ireturn, 1) := by decide +kernel
set_option maxRecDepth 20000 in
theorem ggX4_costBy_X2_reachOf : GoodIn wsX4_costBy wsX2_reachOf := goodIn_r _ [5, 6, 7, 4, 8, 9, 10, 11, 12] (by decide +kernel) (by decide +kernel)
set_option maxRecDepth 20000 in
theorem gX4_costBy_X2_reachOf : GoodIn wsX4_costBy (va_wsS RX4 70 yX2_reachOf wsX2_reachOf) := goodIn_app (goodIn_of _ (by decide +kernel)) ggX4_costBy_X2_reachOf
set_option maxRecDepth 20000 in
theorem ggX4_costBy_X4_look : GoodIn wsX4_costBy wsX4_look := goodIn_r _ [17, 1, 36, 37, 38, 39, 40, 41, 42, 43, 44, 45] (by decide +kernel) (by decide +kernel)
set_option maxRecDepth 20000 in
theorem gX4_costBy_X4_look : GoodIn wsX4_costBy (wsV RX4 62 RX4 yX4_look wsX4_look) := goodIn_app (goodIn_of _ (by decide +kernel)) ggX4_costBy_X4_look
set_option maxRecDepth 20000 in
theorem ggX4_costBy_X2_reachedPart : GoodIn wsX4_costBy wsX2_reachedPart := goodIn_r _ [20, 6, 7, 4, 8, 9, 21, 22, 23, 10, 11, 12] (by decide +kernel) (by decide +kernel)
set_option maxRecDepth 20000 in
theorem gX4_costBy_X2_reachedPart : GoodIn wsX4_costBy (va_wsS RX4 76 yX2_reachedPart wsX2_reachedPart) := goodIn_app (goodIn_of _ (by decide +kernel)) ggX4_costBy_X2_reachedPart
set_option maxRecDepth 20000 in
theorem ggX4_costBy_X4_countAnswers : GoodIn wsX4_costBy wsX4_countAnswers := goodIn_r _ [27, 1, 28, 29, 30, 16, 31, 32, 33, 34, 35, 36, 37, 38, 39, 40, 41, 42, 43, 44, 45] (by decide +kernel) (by decide +kernel)
set_option maxRecDepth 20000 in
theorem gX4_costBy_X4_countAnswers : GoodIn wsX4_costBy (wsV RX4 80 RX4 yX4_countAnswers wsX4_countAnswers) := goodIn_app (goodIn_of _ (by decide +kernel)) ggX4_costBy_X4_countAnswers
theorem dX4_costBy_0 : decode cX4_costBy 0 = .ok (.iload_n 1, 1) := by decide +kernel
theorem dX4_costBy_1 : decode cX4_costBy 1 = .ok (.iload_n 2, 1) := by decide +kernel
theorem dX4_costBy_2 : decode cX4_costBy 2 = .ok (.invokestatic 70, 3) := by decide +kernel
theorem dX4_costBy_5 : decode cX4_costBy 5 = .ok (.istore_n 3, 1) := by decide +kernel
theorem dX4_costBy_6 : decode cX4_costBy 6 = .ok (.iload_n 3, 1) := by decide +kernel
theorem dX4_costBy_7 : decode cX4_costBy 7 = .ok (.ifCond .ne 10, 3) := by decide +kernel
theorem dX4_costBy_10 : decode cX4_costBy 10 = .ok (.aload_n 0, 1) := by decide +kernel
theorem dX4_costBy_11 : decode cX4_costBy 11 = .ok (.getfield 25, 3) := by decide +kernel
theorem dX4_costBy_14 : decode cX4_costBy 14 = .ok (.goto 18, 3) := by decide +kernel
theorem dX4_costBy_17 : decode cX4_costBy 17 = .ok (.aload_n 0, 1) := by decide +kernel
theorem dX4_costBy_18 : decode cX4_costBy 18 = .ok (.invokevirtual 62, 3) := by decide +kernel
theorem dX4_costBy_21 : decode cX4_costBy 21 = .ok (.aload_n 0, 1) := by decide +kernel
theorem dX4_costBy_22 : decode cX4_costBy 22 = .ok (.iload_n 1, 1) := by decide +kernel
theorem dX4_costBy_23 : decode cX4_costBy 23 = .ok (.iload_n 2, 1) := by decide +kernel
theorem dX4_costBy_24 : decode cX4_costBy 24 = .ok (.iload_n 3, 1) := by decide +kernel
theorem dX4_costBy_25 : decode cX4_costBy 25 = .ok (.invokestatic 76, 3) := by decide +kernel
theorem dX4_costBy_28 : decode cX4_costBy 28 = .ok (.invokevirtual 80, 3) := by decide +kernel
theorem dX4_costBy_31 : decode cX4_costBy 31 = .ok (.iadd, 1) := by decide +kernel
theorem dX4_costBy_32 : decode cX4_costBy 32 = .ok (.ireturn, 1) := by decide +kernel
set_option maxRecDepth 20000 in
theorem ggX4_costNow_X4_keeps : GoodIn wsX4_costNow wsX4_keeps := goodIn_r _ [10, 11, 49, 50, 51, 52, 53, 54, 55, 56, 57, 58] (by decide +kernel) (by decide +kernel)
set_option maxRecDepth 20000 in
theorem gX4_costNow_X4_keeps : GoodIn wsX4_costNow (wsV RX4 83 RX4 yX4_keeps wsX4_keeps) := goodIn_app (goodIn_of _ (by decide +kernel)) ggX4_costNow_X4_keeps
set_option maxRecDepth 20000 in
theorem ggX4_costNow_X4_costBy : GoodIn wsX4_costNow wsX4_costBy := goodIn_r _ [15, 1, 16, 17, 18, 19, 20, 21, 22, 23, 24, 25, 26, 27, 28, 29, 9, 30, 31, 32, 33, 34, 35, 36, 37, 38, 39, 40, 41, 42, 43, 44, 45, 46, 47, 48, 49, 50, 51, 52, 53, 54, 55, 56, 57, 58] (by decide +kernel) (by decide +kernel)
set_option maxRecDepth 20000 in
theorem gX4_costNow_X4_costBy : GoodIn wsX4_costNow (wsV RX4 87 RX4 yX4_costBy wsX4_costBy) := goodIn_app (goodIn_of _ (by decide +kernel)) ggX4_costNow_X4_costBy
theorem dX4_costNow_0 : decode cX4_costNow 0 = .ok (.aload_n 0, 1) := by decide +kernel
theorem dX4_costNow_1 : decode cX4_costNow 1 = .ok (.getfield 25, 3) := by decide +kernel
theorem dX4_costNow_4 : decode cX4_costNow 4 = .ok (.istore_n 2, 1) := by decide +kernel
theorem dX4_costNow_5 : decode cX4_costNow 5 = .ok (.iconst 0, 1) := by decide +kernel
theorem dX4_costNow_6 : decode cX4_costNow 6 = .ok (.istore_n 3, 1) := by decide +kernel
theorem dX4_costNow_7 : decode cX4_costNow 7 = .ok (.iload_n 3, 1) := by decide +kernel
theorem dX4_costNow_8 : decode cX4_costNow 8 = .ok (.bipush 6, 2) := by decide +kernel
theorem dX4_costNow_10 : decode cX4_costNow 10 = .ok (.if_icmp .ge 28, 3) := by decide +kernel
theorem dX4_costNow_13 : decode cX4_costNow 13 = .ok (.aload_n 0, 1) := by decide +kernel
theorem dX4_costNow_14 : decode cX4_costNow 14 = .ok (.iload_n 3, 1) := by decide +kernel
theorem dX4_costNow_15 : decode cX4_costNow 15 = .ok (.invokevirtual 83, 3) := by decide +kernel
theorem dX4_costNow_18 : decode cX4_costNow 18 = .ok (.ifCond .eq 14, 3) := by decide +kernel
theorem dX4_costNow_21 : decode cX4_costNow 21 = .ok (.iload_n 2, 1) := by decide +kernel
theorem dX4_costNow_22 : decode cX4_costNow 22 = .ok (.aload_n 0, 1) := by decide +kernel
theorem dX4_costNow_23 : decode cX4_costNow 23 = .ok (.iload_n 1, 1) := by decide +kernel
theorem dX4_costNow_24 : decode cX4_costNow 24 = .ok (.iload_n 3, 1) := by decide +kernel
theorem dX4_costNow_25 : decode cX4_costNow 25 = .ok (.invokevirtual 87, 3) := by decide +kernel
theorem dX4_costNow_28 : decode cX4_costNow 28 = .ok (.invokestatic 90, 3) := by decide +kernel
theorem dX4_costNow_31 : decode cX4_costNow 31 = .ok (.istore_n 2, 1) := by decide +kernel
theorem dX4_costNow_32 : decode cX4_costNow 32 = .ok (.iinc 3 1, 3) := by decide +kernel
theorem dX4_costNow_35 : decode cX4_costNow 35 = .ok (.goto (-28), 3) := by decide +kernel
theorem dX4_costNow_38 : decode cX4_costNow 38 = .ok (.iload_n 2, 1) := by decide +kernel
theorem dX4_costNow_39 : decode cX4_costNow 39 = .ok (.ireturn, 1) := by decide +kernel
set_option maxRecDepth 20000 in
theorem ggX4_answeringOrder_X4_keeps : GoodIn wsX4_answeringOrder wsX4_keeps := goodIn_r _ [6, 7, 45, 46, 47, 48, 49, 50, 51, 52, 53, 54] (by decide +kernel) (by decide +kernel)
set_option maxRecDepth 20000 in
theorem gX4_answeringOrder_X4_keeps : GoodIn wsX4_answeringOrder (wsV RX4 83 RX4 yX4_keeps wsX4_keeps) := goodIn_app (goodIn_of _ (by decide +kernel)) ggX4_answeringOrder_X4_keeps
set_option maxRecDepth 20000 in
theorem ggX4_answeringOrder_X4_costBy : GoodIn wsX4_answeringOrder wsX4_costBy := goodIn_r _ [11, 1, 12, 13, 14, 15, 16, 17, 18, 19, 20, 21, 22, 23, 24, 25, 5, 26, 27, 28, 29, 30, 31, 32, 33, 34, 35, 36, 37, 38, 39, 40, 41, 42, 43, 44, 45, 46, 47, 48, 49, 50, 51, 52, 53, 54] (by decide +kernel) (by decide +kernel)
set_option maxRecDepth 20000 in
theorem gX4_answeringOrder_X4_costBy : GoodIn wsX4_answeringOrder (wsV RX4 87 RX4 yX4_costBy wsX4_costBy) := goodIn_app (goodIn_of _ (by decide +kernel)) ggX4_answeringOrder_X4_costBy
theorem dX4_answeringOrder_0 : decode cX4_answeringOrder 0 = .ok (.iconst (-1), 1) := by decide +kernel
theorem dX4_answeringOrder_1 : decode cX4_answeringOrder 1 = .ok (.istore_n 2, 1) := by decide +kernel
theorem dX4_answeringOrder_2 : decode cX4_answeringOrder 2 = .ok (.aload_n 0, 1) := by decide +kernel
theorem dX4_answeringOrder_3 : decode cX4_answeringOrder 3 = .ok (.getfield 25, 3) := by decide +kernel
theorem dX4_answeringOrder_6 : decode cX4_answeringOrder 6 = .ok (.istore_n 3, 1) := by decide +kernel
theorem dX4_answeringOrder_7 : decode cX4_answeringOrder 7 = .ok (.iconst 0, 1) := by decide +kernel
theorem dX4_answeringOrder_8 : decode cX4_answeringOrder 8 = .ok (.istore 4, 2) := by decide +kernel
theorem dX4_answeringOrder_10 : decode cX4_answeringOrder 10 = .ok (.iload 4, 2) := by decide +kernel
theorem dX4_answeringOrder_12 : decode cX4_answeringOrder 12 = .ok (.bipush 6, 2) := by decide +kernel
theorem dX4_answeringOrder_14 : decode cX4_answeringOrder 14 = .ok (.if_icmp .ge 46, 3) := by decide +kernel
theorem dX4_answeringOrder_17 : decode cX4_answeringOrder 17 = .ok (.aload_n 0, 1) := by decide +kernel
theorem dX4_answeringOrder_18 : decode cX4_answeringOrder 18 = .ok (.iload 4, 2) := by decide +kernel
theorem dX4_answeringOrder_20 : decode cX4_answeringOrder 20 = .ok (.invokevirtual 83, 3) := by decide +kernel
theorem dX4_answeringOrder_23 : decode cX4_answeringOrder 23 = .ok (.ifCond .eq 13, 3) := by decide +kernel
theorem dX4_answeringOrder_26 : decode cX4_answeringOrder 26 = .ok (.aload_n 0, 1) := by decide +kernel
theorem dX4_answeringOrder_27 : decode cX4_answeringOrder 27 = .ok (.iload_n 1, 1) := by decide +kernel
theorem dX4_answeringOrder_28 : decode cX4_answeringOrder 28 = .ok (.iload 4, 2) := by decide +kernel
theorem dX4_answeringOrder_30 : decode cX4_answeringOrder 30 = .ok (.invokevirtual 87, 3) := by decide +kernel
theorem dX4_answeringOrder_33 : decode cX4_answeringOrder 33 = .ok (.goto 7, 3) := by decide +kernel
theorem dX4_answeringOrder_36 : decode cX4_answeringOrder 36 = .ok (.aload_n 0, 1) := by decide +kernel
theorem dX4_answeringOrder_37 : decode cX4_answeringOrder 37 = .ok (.getfield 25, 3) := by decide +kernel
theorem dX4_answeringOrder_40 : decode cX4_answeringOrder 40 = .ok (.istore 5, 2) := by decide +kernel
theorem dX4_answeringOrder_42 : decode cX4_answeringOrder 42 = .ok (.iload 5, 2) := by decide +kernel
theorem dX4_answeringOrder_44 : decode cX4_answeringOrder 44 = .ok (.iload_n 3, 1) := by decide +kernel
theorem dX4_answeringOrder_45 : decode cX4_answeringOrder 45 = .ok (.if_icmp .ge 9, 3) := by decide +kernel
theorem dX4_answeringOrder_48 : decode cX4_answeringOrder 48 = .ok (.iload 5, 2) := by decide +kernel
theorem dX4_answeringOrder_50 : decode cX4_answeringOrder 50 = .ok (.istore_n 3, 1) := by decide +kernel
theorem dX4_answeringOrder_51 : decode cX4_answeringOrder 51 = .ok (.iload 4, 2) := by decide +kernel
theorem dX4_answeringOrder_53 : decode cX4_answeringOrder 53 = .ok (.istore_n 2, 1) := by decide +kernel
theorem dX4_answeringOrder_54 : decode cX4_answeringOrder 54 = .ok (.iinc 4 1, 3) := by decide +kernel
theorem dX4_answeringOrder_57 : decode cX4_answeringOrder 57 = .ok (.goto (-47), 3) := by decide +kernel
theorem dX4_answeringOrder_60 : decode cX4_answeringOrder 60 = .ok (.iload_n 2, 1) := by decide +kernel
theorem dX4_answeringOrder_61 : decode cX4_answeringOrder 61 = .ok (.ireturn, 1) := by decide +kernel
set_option maxRecDepth 20000 in
theorem ggX4_answerAt_X4_tripleAt : GoodIn wsX4_answerAt wsX4_tripleAt := goodIn_r _ [6, 1, 7, 30, 31, 32, 33, 34, 35, 36, 37, 38, 39] (by decide +kernel) (by decide +kernel)
set_option maxRecDepth 20000 in
theorem gX4_answerAt_X4_tripleAt : GoodIn wsX4_answerAt (wsV RX4 54 RX4 yX4_tripleAt wsX4_tripleAt) := goodIn_app (goodIn_of _ (by decide +kernel)) ggX4_answerAt_X4_tripleAt
set_option maxRecDepth 20000 in
theorem ggX4_answerAt_X4_fits : GoodIn wsX4_answerAt wsX4_fits := goodIn_r _ [10] (by decide +kernel) (by decide +kernel)
set_option maxRecDepth 20000 in
theorem gX4_answerAt_X4_fits : GoodIn wsX4_answerAt (va_wsS RX4 66 yX4_fits wsX4_fits) := goodIn_app (goodIn_of _ (by decide +kernel)) ggX4_answerAt_X4_fits
set_option maxRecDepth 20000 in
theorem ggX4_answerAt_X4_countBefore : GoodIn wsX4_answerAt wsX4_countBefore := goodIn_r _ [14, 1, 15, 16, 17, 5, 18, 2, 3, 4, 6, 7, 19, 20, 21, 22, 23, 24, 25, 26, 27, 28, 29, 8, 9, 10, 30, 31, 32, 33, 34, 35, 36, 37, 38, 39] (by decide +kernel) (by decide +kernel)
set_option maxRecDepth 20000 in
theorem gX4_answerAt_X4_countBefore : GoodIn wsX4_answerAt (wsV RX4 105 RX4 yX4_countBefore wsX4_countBefore) := goodIn_app (goodIn_of _ (by decide +kernel)) ggX4_answerAt_X4_countBefore
theorem dX4_answerAt_0 : decode cX4_answerAt 0 = .ok (.iload_n 3, 1) := by decide +kernel
theorem dX4_answerAt_1 : decode cX4_answerAt 1 = .ok (.aload_n 0, 1) := by decide +kernel
theorem dX4_answerAt_2 : decode cX4_answerAt 2 = .ok (.getfield 25, 3) := by decide +kernel
theorem dX4_answerAt_5 : decode cX4_answerAt 5 = .ok (.if_icmp .lt 5, 3) := by decide +kernel
theorem dX4_answerAt_8 : decode cX4_answerAt 8 = .ok (.iconst (-1), 1) := by decide +kernel
theorem dX4_answerAt_9 : decode cX4_answerAt 9 = .ok (.ireturn, 1) := by decide +kernel
theorem dX4_answerAt_10 : decode cX4_answerAt 10 = .ok (.iconst 0, 1) := by decide +kernel
theorem dX4_answerAt_11 : decode cX4_answerAt 11 = .ok (.istore 4, 2) := by decide +kernel
theorem dX4_answerAt_13 : decode cX4_answerAt 13 = .ok (.iload 4, 2) := by decide +kernel
theorem dX4_answerAt_15 : decode cX4_answerAt 15 = .ok (.aload_n 0, 1) := by decide +kernel
theorem dX4_answerAt_16 : decode cX4_answerAt 16 = .ok (.getfield 25, 3) := by decide +kernel
theorem dX4_answerAt_19 : decode cX4_answerAt 19 = .ok (.if_icmp .ge 41, 3) := by decide +kernel
theorem dX4_answerAt_22 : decode cX4_answerAt 22 = .ok (.aload_n 0, 1) := by decide +kernel
theorem dX4_answerAt_23 : decode cX4_answerAt 23 = .ok (.iload 4, 2) := by decide +kernel
theorem dX4_answerAt_25 : decode cX4_answerAt 25 = .ok (.invokevirtual 54, 3) := by decide +kernel
theorem dX4_answerAt_28 : decode cX4_answerAt 28 = .ok (.iload_n 1, 1) := by decide +kernel
theorem dX4_answerAt_29 : decode cX4_answerAt 29 = .ok (.invokestatic 66, 3) := by decide +kernel
theorem dX4_answerAt_32 : decode cX4_answerAt 32 = .ok (.ifCond .eq 22, 3) := by decide +kernel
theorem dX4_answerAt_35 : decode cX4_answerAt 35 = .ok (.aload_n 0, 1) := by decide +kernel
theorem dX4_answerAt_36 : decode cX4_answerAt 36 = .ok (.iload_n 1, 1) := by decide +kernel
theorem dX4_answerAt_37 : decode cX4_answerAt 37 = .ok (.iload_n 2, 1) := by decide +kernel
theorem dX4_answerAt_38 : decode cX4_answerAt 38 = .ok (.iload 4, 2) := by decide +kernel
theorem dX4_answerAt_40 : decode cX4_answerAt 40 = .ok (.invokevirtual 105, 3) := by decide +kernel
theorem dX4_answerAt_43 : decode cX4_answerAt 43 = .ok (.iload_n 3, 1) := by decide +kernel
theorem dX4_answerAt_44 : decode cX4_answerAt 44 = .ok (.if_icmp .ne 10, 3) := by decide +kernel
theorem dX4_answerAt_47 : decode cX4_answerAt 47 = .ok (.aload_n 0, 1) := by decide +kernel
theorem dX4_answerAt_48 : decode cX4_answerAt 48 = .ok (.iload 4, 2) := by decide +kernel
theorem dX4_answerAt_50 : decode cX4_answerAt 50 = .ok (.invokevirtual 54, 3) := by decide +kernel
theorem dX4_answerAt_53 : decode cX4_answerAt 53 = .ok (.ireturn, 1) := by decide +kernel
theorem dX4_answerAt_54 : decode cX4_answerAt 54 = .ok (.iinc 4 1, 3) := by decide +kernel
theorem dX4_answerAt_57 : decode cX4_answerAt 57 = .ok (.goto (-44), 3) := by decide +kernel
theorem dX4_answerAt_60 : decode cX4_answerAt 60 = .ok (.iconst (-1), 1) := by decide +kernel
theorem dX4_answerAt_61 : decode cX4_answerAt 61 = .ok (.ireturn, 1) := by decide +kernel
set_option maxRecDepth 20000 in
theorem ggX4_countBefore_X4_rankAt : GoodIn wsX4_countBefore wsX4_rankAt := goodIn_r _ [6, 7, 8, 9, 5, 10, 1, 11, 12, 13, 14, 15, 16, 17, 18, 19, 20, 21, 22, 26, 27, 28, 29, 30, 31, 32, 33, 34, 35] (by decide +kernel) (by decide +kernel)
set_option maxRecDepth 20000 in
theorem gX4_countBefore_X4_rankAt : GoodIn wsX4_countBefore (wsV RX4 108 RX4 yX4_rankAt wsX4_rankAt) := goodIn_app (goodIn_of _ (by decide +kernel)) ggX4_countBefore_X4_rankAt
set_option maxRecDepth 20000 in
theorem ggX4_countBefore_X4_tripleAt : GoodIn wsX4_countBefore wsX4_tripleAt := goodIn_r _ [10, 1, 11, 26, 27, 28, 29, 30, 31, 32, 33, 34, 35] (by decide +kernel) (by decide +kernel)
set_option maxRecDepth 20000 in
theorem gX4_countBefore_X4_tripleAt : GoodIn wsX4_countBefore (wsV RX4 54 RX4 yX4_tripleAt wsX4_tripleAt) := goodIn_app (goodIn_of _ (by decide +kernel)) ggX4_countBefore_X4_tripleAt
set_option maxRecDepth 20000 in
theorem ggX4_countBefore_X4_fits : GoodIn wsX4_countBefore wsX4_fits := goodIn_r _ [25] (by decide +kernel) (by decide +kernel)
set_option maxRecDepth 20000 in
theorem gX4_countBefore_X4_fits : GoodIn wsX4_countBefore (va_wsS RX4 66 yX4_fits wsX4_fits) := goodIn_app (goodIn_of _ (by decide +kernel)) ggX4_countBefore_X4_fits
theorem dX4_countBefore_0 : decode cX4_countBefore 0 = .ok (.aload_n 0, 1) := by decide +kernel
theorem dX4_countBefore_1 : decode cX4_countBefore 1 = .ok (.iload_n 3, 1) := by decide +kernel
theorem dX4_countBefore_2 : decode cX4_countBefore 2 = .ok (.iload_n 2, 1) := by decide +kernel
theorem dX4_countBefore_3 : decode cX4_countBefore 3 = .ok (.invokevirtual 108, 3) := by decide +kernel
theorem dX4_countBefore_6 : decode cX4_countBefore 6 = .ok (.istore 4, 2) := by decide +kernel
theorem dX4_countBefore_8 : decode cX4_countBefore 8 = .ok (.iconst 0, 1) := by decide +kernel
theorem dX4_countBefore_9 : decode cX4_countBefore 9 = .ok (.istore 5, 2) := by decide +kernel
theorem dX4_countBefore_11 : decode cX4_countBefore 11 = .ok (.iconst 0, 1) := by decide +kernel
theorem dX4_countBefore_12 : decode cX4_countBefore 12 = .ok (.istore 6, 2) := by decide +kernel
theorem dX4_countBefore_14 : decode cX4_countBefore 14 = .ok (.iload 6, 2) := by decide +kernel
theorem dX4_countBefore_16 : decode cX4_countBefore 16 = .ok (.aload_n 0, 1) := by decide +kernel
theorem dX4_countBefore_17 : decode cX4_countBefore 17 = .ok (.getfield 25, 3) := by decide +kernel
theorem dX4_countBefore_20 : decode cX4_countBefore 20 = .ok (.if_icmp .ge 37, 3) := by decide +kernel
theorem dX4_countBefore_23 : decode cX4_countBefore 23 = .ok (.aload_n 0, 1) := by decide +kernel
theorem dX4_countBefore_24 : decode cX4_countBefore 24 = .ok (.iload 6, 2) := by decide +kernel
theorem dX4_countBefore_26 : decode cX4_countBefore 26 = .ok (.invokevirtual 54, 3) := by decide +kernel
theorem dX4_countBefore_29 : decode cX4_countBefore 29 = .ok (.iload_n 1, 1) := by decide +kernel
theorem dX4_countBefore_30 : decode cX4_countBefore 30 = .ok (.invokestatic 66, 3) := by decide +kernel
theorem dX4_countBefore_33 : decode cX4_countBefore 33 = .ok (.ifCond .eq 18, 3) := by decide +kernel
theorem dX4_countBefore_36 : decode cX4_countBefore 36 = .ok (.aload_n 0, 1) := by decide +kernel
theorem dX4_countBefore_37 : decode cX4_countBefore 37 = .ok (.iload 6, 2) := by decide +kernel
theorem dX4_countBefore_39 : decode cX4_countBefore 39 = .ok (.iload_n 2, 1) := by decide +kernel
theorem dX4_countBefore_40 : decode cX4_countBefore 40 = .ok (.invokevirtual 108, 3) := by decide +kernel
theorem dX4_countBefore_43 : decode cX4_countBefore 43 = .ok (.iload 4, 2) := by decide +kernel
theorem dX4_countBefore_45 : decode cX4_countBefore 45 = .ok (.if_icmp .ge 6, 3) := by decide +kernel
theorem dX4_countBefore_48 : decode cX4_countBefore 48 = .ok (.iinc 5 1, 3) := by decide +kernel
theorem dX4_countBefore_51 : decode cX4_countBefore 51 = .ok (.iinc 6 1, 3) := by decide +kernel
theorem dX4_countBefore_54 : decode cX4_countBefore 54 = .ok (.goto (-40), 3) := by decide +kernel
theorem dX4_countBefore_57 : decode cX4_countBefore 57 = .ok (.iload 5, 2) := by decide +kernel
theorem dX4_countBefore_59 : decode cX4_countBefore 59 = .ok (.ireturn, 1) := by decide +kernel
set_option maxRecDepth 20000 in
theorem ggX4_rankAt_X4_tripleAt : GoodIn wsX4_rankAt wsX4_tripleAt := goodIn_r _ [5, 6, 7, 19, 20, 21, 22, 23, 24, 25, 26, 27, 28] (by decide +kernel) (by decide +kernel)
set_option maxRecDepth 20000 in
theorem gX4_rankAt_X4_tripleAt : GoodIn wsX4_rankAt (wsV RX4 54 RX4 yX4_tripleAt wsX4_tripleAt) := goodIn_app (goodIn_of _ (by decide +kernel)) ggX4_rankAt_X4_tripleAt
set_option maxRecDepth 20000 in
theorem ggX4_rankAt_X2_rankOf : GoodIn wsX4_rankAt wsX2_rankOf := goodIn_r _ [11, 12, 13, 10, 14, 15, 16, 17, 18] (by decide +kernel) (by decide +kernel)
set_option maxRecDepth 20000 in
theorem gX4_rankAt_X2_rankOf : GoodIn wsX4_rankAt (va_wsS RX4 111 yX2_rankOf wsX2_rankOf) := goodIn_app (goodIn_of _ (by decide +kernel)) ggX4_rankAt_X2_rankOf
theorem dX4_rankAt_0 : decode cX4_rankAt 0 = .ok (.iload_n 2, 1) := by decide +kernel
theorem dX4_rankAt_1 : decode cX4_rankAt 1 = .ok (.iconst (-1), 1) := by decide +kernel
theorem dX4_rankAt_2 : decode cX4_rankAt 2 = .ok (.if_icmp .ne 7, 3) := by decide +kernel
theorem dX4_rankAt_5 : decode cX4_rankAt 5 = .ok (.iload_n 1, 1) := by decide +kernel
theorem dX4_rankAt_6 : decode cX4_rankAt 6 = .ok (.goto 12, 3) := by decide +kernel
theorem dX4_rankAt_9 : decode cX4_rankAt 9 = .ok (.aload_n 0, 1) := by decide +kernel
theorem dX4_rankAt_10 : decode cX4_rankAt 10 = .ok (.iload_n 1, 1) := by decide +kernel
theorem dX4_rankAt_11 : decode cX4_rankAt 11 = .ok (.invokevirtual 54, 3) := by decide +kernel
theorem dX4_rankAt_14 : decode cX4_rankAt 14 = .ok (.iload_n 2, 1) := by decide +kernel
theorem dX4_rankAt_15 : decode cX4_rankAt 15 = .ok (.invokestatic 111, 3) := by decide +kernel
theorem dX4_rankAt_18 : decode cX4_rankAt 18 = .ok (.ireturn, 1) := by decide +kernel
theorem dX4_fits_0 : decode cX4_fits 0 = .ok (.iload_n 1, 1) := by decide +kernel
theorem dX4_fits_1 : decode cX4_fits 1 = .ok (.ifCond .ge 5, 3) := by decide +kernel
theorem dX4_fits_4 : decode cX4_fits 4 = .ok (.iconst 0, 1) := by decide +kernel
theorem dX4_fits_5 : decode cX4_fits 5 = .ok (.ireturn, 1) := by decide +kernel
theorem dX4_fits_6 : decode cX4_fits 6 = .ok (.iload_n 1, 1) := by decide +kernel
theorem dX4_fits_7 : decode cX4_fits 7 = .ok (.bipush 121, 2) := by decide +kernel
theorem dX4_fits_9 : decode cX4_fits 9 = .ok (.idiv, 1) := by decide +kernel
theorem dX4_fits_10 : decode cX4_fits 10 = .ok (.istore_n 2, 1) := by decide +kernel
theorem dX4_fits_11 : decode cX4_fits 11 = .ok (.iload_n 1, 1) := by decide +kernel
theorem dX4_fits_12 : decode cX4_fits 12 = .ok (.bipush 11, 2) := by decide +kernel
theorem dX4_fits_14 : decode cX4_fits 14 = .ok (.idiv, 1) := by decide +kernel
theorem dX4_fits_15 : decode cX4_fits 15 = .ok (.bipush 11, 2) := by decide +kernel
theorem dX4_fits_17 : decode cX4_fits 17 = .ok (.irem, 1) := by decide +kernel
theorem dX4_fits_18 : decode cX4_fits 18 = .ok (.istore_n 3, 1) := by decide +kernel
theorem dX4_fits_19 : decode cX4_fits 19 = .ok (.iload_n 1, 1) := by decide +kernel
theorem dX4_fits_20 : decode cX4_fits 20 = .ok (.bipush 11, 2) := by decide +kernel
theorem dX4_fits_22 : decode cX4_fits 22 = .ok (.irem, 1) := by decide +kernel
theorem dX4_fits_23 : decode cX4_fits 23 = .ok (.istore 4, 2) := by decide +kernel
theorem dX4_fits_25 : decode cX4_fits 25 = .ok (.iload_n 2, 1) := by decide +kernel
theorem dX4_fits_26 : decode cX4_fits 26 = .ok (.bipush 10, 2) := by decide +kernel
theorem dX4_fits_28 : decode cX4_fits 28 = .ok (.if_icmp .eq 11, 3) := by decide +kernel
theorem dX4_fits_31 : decode cX4_fits 31 = .ok (.iload_n 2, 1) := by decide +kernel
theorem dX4_fits_32 : decode cX4_fits 32 = .ok (.iload_n 0, 1) := by decide +kernel
theorem dX4_fits_33 : decode cX4_fits 33 = .ok (.bipush 100, 2) := by decide +kernel
theorem dX4_fits_35 : decode cX4_fits 35 = .ok (.idiv, 1) := by decide +kernel
theorem dX4_fits_36 : decode cX4_fits 36 = .ok (.if_icmp .ne 40, 3) := by decide +kernel
theorem dX4_fits_39 : decode cX4_fits 39 = .ok (.iload_n 3, 1) := by decide +kernel
theorem dX4_fits_40 : decode cX4_fits 40 = .ok (.bipush 10, 2) := by decide +kernel
theorem dX4_fits_42 : decode cX4_fits 42 = .ok (.if_icmp .eq 14, 3) := by decide +kernel
theorem dX4_fits_45 : decode cX4_fits 45 = .ok (.iload_n 3, 1) := by decide +kernel
theorem dX4_fits_46 : decode cX4_fits 46 = .ok (.iload_n 0, 1) := by decide +kernel
theorem dX4_fits_47 : decode cX4_fits 47 = .ok (.bipush 10, 2) := by decide +kernel
theorem dX4_fits_49 : decode cX4_fits 49 = .ok (.idiv, 1) := by decide +kernel
theorem dX4_fits_50 : decode cX4_fits 50 = .ok (.bipush 10, 2) := by decide +kernel
theorem dX4_fits_52 : decode cX4_fits 52 = .ok (.irem, 1) := by decide +kernel
theorem dX4_fits_53 : decode cX4_fits 53 = .ok (.if_icmp .ne 23, 3) := by decide +kernel
theorem dX4_fits_56 : decode cX4_fits 56 = .ok (.iload 4, 2) := by decide +kernel
theorem dX4_fits_58 : decode cX4_fits 58 = .ok (.bipush 10, 2) := by decide +kernel
theorem dX4_fits_60 : decode cX4_fits 60 = .ok (.if_icmp .eq 12, 3) := by decide +kernel
theorem dX4_fits_63 : decode cX4_fits 63 = .ok (.iload 4, 2) := by decide +kernel
theorem dX4_fits_65 : decode cX4_fits 65 = .ok (.iload_n 0, 1) := by decide +kernel
theorem dX4_fits_66 : decode cX4_fits 66 = .ok (.bipush 10, 2) := by decide +kernel
theorem dX4_fits_68 : decode cX4_fits 68 = .ok (.irem, 1) := by decide +kernel
theorem dX4_fits_69 : decode cX4_fits 69 = .ok (.if_icmp .ne 7, 3) := by decide +kernel
theorem dX4_fits_72 : decode cX4_fits 72 = .ok (.iconst 1, 1) := by decide +kernel
theorem dX4_fits_73 : decode cX4_fits 73 = .ok (.goto 4, 3) := by decide +kernel
theorem dX4_fits_76 : decode cX4_fits 76 = .ok (.iconst 0, 1) := by decide +kernel
theorem dX4_fits_77 : decode cX4_fits 77 = .ok (.ireturn, 1) := by decide +kernel
set_option maxRecDepth 20000 in
theorem ggX4_noteQuestion_X4_costNow : GoodIn wsX4_noteQuestion wsX4_costNow := goodIn_r _ [9, 10, 11, 12, 13, 14, 15, 16, 17, 8, 18, 19, 20, 21, 22, 23, 24, 25, 26, 27, 28, 29, 30, 31, 32, 33, 34, 35, 36, 37, 38, 39, 40, 41, 42, 43, 44, 45, 46, 47, 48, 49, 50, 51, 52, 53, 54, 55, 56, 61, 62, 63, 64, 65, 66, 67, 68, 69, 70] (by decide +kernel) (by decide +kernel)
set_option maxRecDepth 20000 in
theorem gX4_noteQuestion_X4_costNow : GoodIn wsX4_noteQuestion (wsV RX4 114 RX4 yX4_costNow wsX4_costNow) := goodIn_app (goodIn_of _ (by decide +kernel)) ggX4_noteQuestion_X4_costNow
set_option maxRecDepth 20000 in
theorem ggX4_noteQuestion_X4_forgetOldest : GoodIn wsX4_noteQuestion wsX4_forgetOldest := goodIn_r _ [60, 3, 4, 61, 62, 63, 64, 65, 66, 67, 68, 69, 70] (by decide +kernel) (by decide +kernel)
set_option maxRecDepth 20000 in
theorem gX4_noteQuestion_X4_forgetOldest : GoodIn wsX4_noteQuestion (wsV RX4 117 RX4 yX4_forgetOldest wsX4_forgetOldest) := goodIn_app (goodIn_of _ (by decide +kernel)) ggX4_noteQuestion_X4_forgetOldest
set_option maxRecDepth 20000 in
theorem ggX4_noteQuestion_X4_countAnswers : GoodIn wsX4_noteQuestion wsX4_countAnswers := goodIn_r _ [48, 10, 49, 50, 51, 8, 52, 53, 54, 55, 56, 61, 62, 63, 64, 65, 66, 67, 68, 69, 70] (by decide +kernel) (by decide +kernel)
set_option maxRecDepth 20000 in
theorem gX4_noteQuestion_X4_countAnswers : GoodIn wsX4_noteQuestion (wsV RX4 80 RX4 yX4_countAnswers wsX4_countAnswers) := goodIn_app (goodIn_of _ (by decide +kernel)) ggX4_noteQuestion_X4_countAnswers
theorem dX4_noteQuestion_0 : decode cX4_noteQuestion 0 = .ok (.aload_n 0, 1) := by decide +kernel
theorem dX4_noteQuestion_1 : decode cX4_noteQuestion 1 = .ok (.dup, 1) := by decide +kernel
theorem dX4_noteQuestion_2 : decode cX4_noteQuestion 2 = .ok (.getfield 38, 3) := by decide +kernel
theorem dX4_noteQuestion_5 : decode cX4_noteQuestion 5 = .ok (.aload_n 0, 1) := by decide +kernel
theorem dX4_noteQuestion_6 : decode cX4_noteQuestion 6 = .ok (.iload_n 1, 1) := by decide +kernel
theorem dX4_noteQuestion_7 : decode cX4_noteQuestion 7 = .ok (.invokevirtual 114, 3) := by decide +kernel
theorem dX4_noteQuestion_10 : decode cX4_noteQuestion 10 = .ok (.iadd, 1) := by decide +kernel
theorem dX4_noteQuestion_11 : decode cX4_noteQuestion 11 = .ok (.putfield 38, 3) := by decide +kernel
theorem dX4_noteQuestion_14 : decode cX4_noteQuestion 14 = .ok (.aload_n 0, 1) := by decide +kernel
theorem dX4_noteQuestion_15 : decode cX4_noteQuestion 15 = .ok (.dup, 1) := by decide +kernel
theorem dX4_noteQuestion_16 : decode cX4_noteQuestion 16 = .ok (.getfield 41, 3) := by decide +kernel
theorem dX4_noteQuestion_19 : decode cX4_noteQuestion 19 = .ok (.iconst 1, 1) := by decide +kernel
theorem dX4_noteQuestion_20 : decode cX4_noteQuestion 20 = .ok (.iadd, 1) := by decide +kernel
theorem dX4_noteQuestion_21 : decode cX4_noteQuestion 21 = .ok (.putfield 41, 3) := by decide +kernel
theorem dX4_noteQuestion_24 : decode cX4_noteQuestion 24 = .ok (.aload_n 0, 1) := by decide +kernel
theorem dX4_noteQuestion_25 : decode cX4_noteQuestion 25 = .ok (.getfield 44, 3) := by decide +kernel
theorem dX4_noteQuestion_28 : decode cX4_noteQuestion 28 = .ok (.aload_n 0, 1) := by decide +kernel
theorem dX4_noteQuestion_29 : decode cX4_noteQuestion 29 = .ok (.getfield 19, 3) := by decide +kernel
theorem dX4_noteQuestion_32 : decode cX4_noteQuestion 32 = .ok (.arraylength, 1) := by decide +kernel
theorem dX4_noteQuestion_33 : decode cX4_noteQuestion 33 = .ok (.if_icmp .lt 7, 3) := by decide +kernel
theorem dX4_noteQuestion_36 : decode cX4_noteQuestion 36 = .ok (.aload_n 0, 1) := by decide +kernel
theorem dX4_noteQuestion_37 : decode cX4_noteQuestion 37 = .ok (.invokevirtual 117, 3) := by decide +kernel
theorem dX4_noteQuestion_40 : decode cX4_noteQuestion 40 = .ok (.aload_n 0, 1) := by decide +kernel
theorem dX4_noteQuestion_41 : decode cX4_noteQuestion 41 = .ok (.getfield 44, 3) := by decide +kernel
theorem dX4_noteQuestion_44 : decode cX4_noteQuestion 44 = .ok (.ifCond .lt 35, 3) := by decide +kernel
theorem dX4_noteQuestion_47 : decode cX4_noteQuestion 47 = .ok (.aload_n 0, 1) := by decide +kernel
theorem dX4_noteQuestion_48 : decode cX4_noteQuestion 48 = .ok (.getfield 44, 3) := by decide +kernel
theorem dX4_noteQuestion_51 : decode cX4_noteQuestion 51 = .ok (.aload_n 0, 1) := by decide +kernel
theorem dX4_noteQuestion_52 : decode cX4_noteQuestion 52 = .ok (.getfield 19, 3) := by decide +kernel
theorem dX4_noteQuestion_55 : decode cX4_noteQuestion 55 = .ok (.arraylength, 1) := by decide +kernel
theorem dX4_noteQuestion_56 : decode cX4_noteQuestion 56 = .ok (.if_icmp .ge 23, 3) := by decide +kernel
theorem dX4_noteQuestion_59 : decode cX4_noteQuestion 59 = .ok (.aload_n 0, 1) := by decide +kernel
theorem dX4_noteQuestion_60 : decode cX4_noteQuestion 60 = .ok (.getfield 19, 3) := by decide +kernel
theorem dX4_noteQuestion_63 : decode cX4_noteQuestion 63 = .ok (.aload_n 0, 1) := by decide +kernel
theorem dX4_noteQuestion_64 : decode cX4_noteQuestion 64 = .ok (.getfield 44, 3) := by decide +kernel
theorem dX4_noteQuestion_67 : decode cX4_noteQuestion 67 = .ok (.iload_n 1, 1) := by decide +kernel
theorem dX4_noteQuestion_68 : decode cX4_noteQuestion 68 = .ok (.iastore, 1) := by decide +kernel
theorem dX4_noteQuestion_69 : decode cX4_noteQuestion 69 = .ok (.aload_n 0, 1) := by decide +kernel
theorem dX4_noteQuestion_70 : decode cX4_noteQuestion 70 = .ok (.dup, 1) := by decide +kernel
theorem dX4_noteQuestion_71 : decode cX4_noteQuestion 71 = .ok (.getfield 44, 3) := by decide +kernel
theorem dX4_noteQuestion_74 : decode cX4_noteQuestion 74 = .ok (.iconst 1, 1) := by decide +kernel
theorem dX4_noteQuestion_75 : decode cX4_noteQuestion 75 = .ok (.iadd, 1) := by decide +kernel
theorem dX4_noteQuestion_76 : decode cX4_noteQuestion 76 = .ok (.putfield 44, 3) := by decide +kernel
theorem dX4_noteQuestion_79 : decode cX4_noteQuestion 79 = .ok (.aload_n 0, 1) := by decide +kernel
theorem dX4_noteQuestion_80 : decode cX4_noteQuestion 80 = .ok (.iload_n 1, 1) := by decide +kernel
theorem dX4_noteQuestion_81 : decode cX4_noteQuestion 81 = .ok (.invokevirtual 80, 3) := by decide +kernel
theorem dX4_noteQuestion_84 : decode cX4_noteQuestion 84 = .ok (.ireturn, 1) := by decide +kernel
theorem dX4_forgetOldest_0 : decode cX4_forgetOldest 0 = .ok (.iconst 0, 1) := by decide +kernel
theorem dX4_forgetOldest_1 : decode cX4_forgetOldest 1 = .ok (.istore_n 1, 1) := by decide +kernel
theorem dX4_forgetOldest_2 : decode cX4_forgetOldest 2 = .ok (.iload_n 1, 1) := by decide +kernel
theorem dX4_forgetOldest_3 : decode cX4_forgetOldest 3 = .ok (.iconst 1, 1) := by decide +kernel
theorem dX4_forgetOldest_4 : decode cX4_forgetOldest 4 = .ok (.iadd, 1) := by decide +kernel
theorem dX4_forgetOldest_5 : decode cX4_forgetOldest 5 = .ok (.aload_n 0, 1) := by decide +kernel
theorem dX4_forgetOldest_6 : decode cX4_forgetOldest 6 = .ok (.getfield 44, 3) := by decide +kernel
theorem dX4_forgetOldest_9 : decode cX4_forgetOldest 9 = .ok (.if_icmp .ge 34, 3) := by decide +kernel
theorem dX4_forgetOldest_12 : decode cX4_forgetOldest 12 = .ok (.iload_n 1, 1) := by decide +kernel
theorem dX4_forgetOldest_13 : decode cX4_forgetOldest 13 = .ok (.iconst 1, 1) := by decide +kernel
theorem dX4_forgetOldest_14 : decode cX4_forgetOldest 14 = .ok (.iadd, 1) := by decide +kernel
theorem dX4_forgetOldest_15 : decode cX4_forgetOldest 15 = .ok (.aload_n 0, 1) := by decide +kernel
theorem dX4_forgetOldest_16 : decode cX4_forgetOldest 16 = .ok (.getfield 19, 3) := by decide +kernel
theorem dX4_forgetOldest_19 : decode cX4_forgetOldest 19 = .ok (.arraylength, 1) := by decide +kernel
theorem dX4_forgetOldest_20 : decode cX4_forgetOldest 20 = .ok (.if_icmp .ge 23, 3) := by decide +kernel
theorem dX4_forgetOldest_23 : decode cX4_forgetOldest 23 = .ok (.aload_n 0, 1) := by decide +kernel
theorem dX4_forgetOldest_24 : decode cX4_forgetOldest 24 = .ok (.getfield 19, 3) := by decide +kernel
theorem dX4_forgetOldest_27 : decode cX4_forgetOldest 27 = .ok (.iload_n 1, 1) := by decide +kernel
theorem dX4_forgetOldest_28 : decode cX4_forgetOldest 28 = .ok (.aload_n 0, 1) := by decide +kernel
theorem dX4_forgetOldest_29 : decode cX4_forgetOldest 29 = .ok (.getfield 19, 3) := by decide +kernel
theorem dX4_forgetOldest_32 : decode cX4_forgetOldest 32 = .ok (.iload_n 1, 1) := by decide +kernel
theorem dX4_forgetOldest_33 : decode cX4_forgetOldest 33 = .ok (.iconst 1, 1) := by decide +kernel
theorem dX4_forgetOldest_34 : decode cX4_forgetOldest 34 = .ok (.iadd, 1) := by decide +kernel
theorem dX4_forgetOldest_35 : decode cX4_forgetOldest 35 = .ok (.iaload, 1) := by decide +kernel
theorem dX4_forgetOldest_36 : decode cX4_forgetOldest 36 = .ok (.iastore, 1) := by decide +kernel
theorem dX4_forgetOldest_37 : decode cX4_forgetOldest 37 = .ok (.iinc 1 1, 3) := by decide +kernel
theorem dX4_forgetOldest_40 : decode cX4_forgetOldest 40 = .ok (.goto (-38), 3) := by decide +kernel
theorem dX4_forgetOldest_43 : decode cX4_forgetOldest 43 = .ok (.aload_n 0, 1) := by decide +kernel
theorem dX4_forgetOldest_44 : decode cX4_forgetOldest 44 = .ok (.dup, 1) := by decide +kernel
theorem dX4_forgetOldest_45 : decode cX4_forgetOldest 45 = .ok (.getfield 44, 3) := by decide +kernel
theorem dX4_forgetOldest_48 : decode cX4_forgetOldest 48 = .ok (.iconst 1, 1) := by decide +kernel
theorem dX4_forgetOldest_49 : decode cX4_forgetOldest 49 = .ok (.isub, 1) := by decide +kernel
theorem dX4_forgetOldest_50 : decode cX4_forgetOldest 50 = .ok (.putfield 44, 3) := by decide +kernel
theorem dX4_forgetOldest_53 : decode cX4_forgetOldest 53 = .ok (.return_, 1) := by decide +kernel
theorem dX5_init_0 : decode cX5_init 0 = .ok (.aload_n 0, 1) := by decide +kernel
theorem dX5_init_1 : decode cX5_init 1 = .ok (.invokespecial 3, 3) := by decide +kernel
theorem dX5_init_4 : decode cX5_init 4 = .ok (.aload_n 0, 1) := by decide +kernel
theorem dX5_init_5 : decode cX5_init 5 = .ok (.bipush 100, 2) := by decide +kernel
theorem dX5_init_7 : decode cX5_init 7 = .ok (.newarray .char, 2) := by decide +kernel
theorem dX5_init_9 : decode cX5_init 9 = .ok (.putfield 9, 3) := by decide +kernel
theorem dX5_init_12 : decode cX5_init 12 = .ok (.return_, 1) := by decide +kernel
set_option maxRecDepth 20000 in
theorem ggX6_init_X5_init : GoodIn wsX6_init wsX5_init := goodIn_r _ [27, 28, 2, 3, 29, 30, 55, 56] (by decide +kernel) (by decide +kernel)
set_option maxRecDepth 20000 in
theorem gX6_init_X5_init_n9 : GoodIn wsX6_init (wsX5_init) := ggX6_init_X5_init
set_option maxRecDepth 20000 in
theorem ggX6_init_X4_init : GoodIn wsX6_init wsX4_init := goodIn_r _ [32, 33, 2, 3, 34, 35, 36, 37, 38, 64, 65, 66, 67, 68, 69, 70, 71, 72, 73] (by decide +kernel) (by decide +kernel)
set_option maxRecDepth 20000 in
theorem gX6_init_X4_init_n18 : GoodIn wsX6_init (wsX4_init) := ggX6_init_X4_init
set_option maxRecDepth 20000 in
theorem ggX6_init_X1_init : GoodIn wsX6_init wsX1_init := goodIn_r _ [41, 42, 2, 3, 43, 44, 9, 10, 31, 32, 33, 34, 35, 36, 37, 38, 74, 75, 76, 64, 65, 66, 67, 68, 69, 70, 71, 72, 73] (by decide +kernel) (by decide +kernel)
set_option maxRecDepth 20000 in
theorem gX6_init_X1_init : GoodIn wsX6_init (wsX1_init) := ggX6_init_X1_init
set_option maxRecDepth 20000 in
theorem ggX6_init_X0_init : GoodIn wsX6_init wsX0_init := goodIn_r _ [46, 47, 2, 3, 34, 48, 49, 77, 78, 79, 80, 81, 82] (by decide +kernel) (by decide +kernel)
set_option maxRecDepth 20000 in
theorem gX6_init_X0_init_n35 : GoodIn wsX6_init (wsX0_init) := ggX6_init_X0_init
set_option maxRecDepth 20000 in
theorem ggX6_init_X3_init : GoodIn wsX6_init wsX3_init := goodIn_r _ [51, 52, 2, 3, 53, 9, 10, 54, 31, 32, 33, 34, 35, 36, 37, 38, 64, 65, 66, 67, 68, 69, 70, 71, 72, 73, 83, 84] (by decide +kernel) (by decide +kernel)
set_option maxRecDepth 20000 in
theorem gX6_init_X3_init_n42 : GoodIn wsX6_init (wsX3_init) := ggX6_init_X3_init
theorem dX6_init_0 : decode cX6_init 0 = .ok (.aload_n 0, 1) := by decide +kernel
theorem dX6_init_1 : decode cX6_init 1 = .ok (.invokespecial 1, 3) := by decide +kernel
theorem dX6_init_4 : decode cX6_init 4 = .ok (.aload_n 0, 1) := by decide +kernel
theorem dX6_init_5 : decode cX6_init 5 = .ok (.new 7, 3) := by decide +kernel
theorem dX6_init_8 : decode cX6_init 8 = .ok (.dup, 1) := by decide +kernel
theorem dX6_init_9 : decode cX6_init 9 = .ok (.invokespecial 9, 3) := by decide +kernel
theorem dX6_init_12 : decode cX6_init 12 = .ok (.putfield 10, 3) := by decide +kernel
theorem dX6_init_15 : decode cX6_init 15 = .ok (.aload_n 0, 1) := by decide +kernel
theorem dX6_init_16 : decode cX6_init 16 = .ok (.new 16, 3) := by decide +kernel
theorem dX6_init_19 : decode cX6_init 19 = .ok (.dup, 1) := by decide +kernel
theorem dX6_init_20 : decode cX6_init 20 = .ok (.invokespecial 18, 3) := by decide +kernel
theorem dX6_init_23 : decode cX6_init 23 = .ok (.putfield 19, 3) := by decide +kernel
theorem dX6_init_26 : decode cX6_init 26 = .ok (.aload_n 0, 1) := by decide +kernel
theorem dX6_init_27 : decode cX6_init 27 = .ok (.new 16, 3) := by decide +kernel
theorem dX6_init_30 : decode cX6_init 30 = .ok (.dup, 1) := by decide +kernel
theorem dX6_init_31 : decode cX6_init 31 = .ok (.invokespecial 18, 3) := by decide +kernel
theorem dX6_init_34 : decode cX6_init 34 = .ok (.putfield 23, 3) := by decide +kernel
theorem dX6_init_37 : decode cX6_init 37 = .ok (.aload_n 0, 1) := by decide +kernel
theorem dX6_init_38 : decode cX6_init 38 = .ok (.new 26, 3) := by decide +kernel
theorem dX6_init_41 : decode cX6_init 41 = .ok (.dup, 1) := by decide +kernel
theorem dX6_init_42 : decode cX6_init 42 = .ok (.invokespecial 28, 3) := by decide +kernel
theorem dX6_init_45 : decode cX6_init 45 = .ok (.putfield 29, 3) := by decide +kernel
theorem dX6_init_48 : decode cX6_init 48 = .ok (.aload_n 0, 1) := by decide +kernel
theorem dX6_init_49 : decode cX6_init 49 = .ok (.new 33, 3) := by decide +kernel
theorem dX6_init_52 : decode cX6_init 52 = .ok (.dup, 1) := by decide +kernel
theorem dX6_init_53 : decode cX6_init 53 = .ok (.invokespecial 35, 3) := by decide +kernel
theorem dX6_init_56 : decode cX6_init 56 = .ok (.putfield 36, 3) := by decide +kernel
theorem dX6_init_59 : decode cX6_init 59 = .ok (.aload_n 0, 1) := by decide +kernel
theorem dX6_init_60 : decode cX6_init 60 = .ok (.new 40, 3) := by decide +kernel
theorem dX6_init_63 : decode cX6_init 63 = .ok (.dup, 1) := by decide +kernel
theorem dX6_init_64 : decode cX6_init 64 = .ok (.invokespecial 42, 3) := by decide +kernel
theorem dX6_init_67 : decode cX6_init 67 = .ok (.putfield 43, 3) := by decide +kernel
theorem dX6_init_70 : decode cX6_init 70 = .ok (.aload_n 0, 1) := by decide +kernel
theorem dX6_init_71 : decode cX6_init 71 = .ok (.new 40, 3) := by decide +kernel
theorem dX6_init_74 : decode cX6_init 74 = .ok (.dup, 1) := by decide +kernel
theorem dX6_init_75 : decode cX6_init 75 = .ok (.invokespecial 42, 3) := by decide +kernel
theorem dX6_init_78 : decode cX6_init 78 = .ok (.putfield 47, 3) := by decide +kernel
theorem dX6_init_81 : decode cX6_init 81 = .ok (.return_, 1) := by decide +kernel
set_option maxRecDepth 20000 in
theorem ggX6_about_X4_look : GoodIn wsX6_about wsX4_look := goodIn_r _ [8, 9, 17, 18, 19, 20, 21, 22, 23, 24, 25, 26] (by decide +kernel) (by decide +kernel)
set_option maxRecDepth 20000 in
theorem gX6_about_X4_look : GoodIn wsX6_about (wsV RX6 107 RX4 yX4_look wsX4_look) := goodIn_app (goodIn_of _ (by decide +kernel)) ggX6_about_X4_look
theorem dX6_about_0 : decode cX6_about 0 = .ok (.iload_n 1, 1) := by decide +kernel
theorem dX6_about_1 : decode cX6_about 1 = .ok (.tableswitch 111 0 7 #[47, 55, 63, 71, 79, 87, 95, 103], 47) := by decide +kernel
theorem dX6_about_48 : decode cX6_about 48 = .ok (.aload_n 0, 1) := by decide +kernel
theorem dX6_about_49 : decode cX6_about 49 = .ok (.getfield 19, 3) := by decide +kernel
theorem dX6_about_52 : decode cX6_about 52 = .ok (.getfield 85, 3) := by decide +kernel
theorem dX6_about_55 : decode cX6_about 55 = .ok (.ireturn, 1) := by decide +kernel
theorem dX6_about_56 : decode cX6_about 56 = .ok (.aload_n 0, 1) := by decide +kernel
theorem dX6_about_57 : decode cX6_about 57 = .ok (.getfield 19, 3) := by decide +kernel
theorem dX6_about_60 : decode cX6_about 60 = .ok (.getfield 89, 3) := by decide +kernel
theorem dX6_about_63 : decode cX6_about 63 = .ok (.ireturn, 1) := by decide +kernel
theorem dX6_about_64 : decode cX6_about 64 = .ok (.aload_n 0, 1) := by decide +kernel
theorem dX6_about_65 : decode cX6_about 65 = .ok (.getfield 19, 3) := by decide +kernel
theorem dX6_about_68 : decode cX6_about 68 = .ok (.getfield 92, 3) := by decide +kernel
theorem dX6_about_71 : decode cX6_about 71 = .ok (.ireturn, 1) := by decide +kernel
theorem dX6_about_72 : decode cX6_about 72 = .ok (.aload_n 0, 1) := by decide +kernel
theorem dX6_about_73 : decode cX6_about 73 = .ok (.getfield 19, 3) := by decide +kernel
theorem dX6_about_76 : decode cX6_about 76 = .ok (.getfield 95, 3) := by decide +kernel
theorem dX6_about_79 : decode cX6_about 79 = .ok (.ireturn, 1) := by decide +kernel
theorem dX6_about_80 : decode cX6_about 80 = .ok (.aload_n 0, 1) := by decide +kernel
theorem dX6_about_81 : decode cX6_about 81 = .ok (.getfield 19, 3) := by decide +kernel
theorem dX6_about_84 : decode cX6_about 84 = .ok (.getfield 98, 3) := by decide +kernel
theorem dX6_about_87 : decode cX6_about 87 = .ok (.ireturn, 1) := by decide +kernel
theorem dX6_about_88 : decode cX6_about 88 = .ok (.aload_n 0, 1) := by decide +kernel
theorem dX6_about_89 : decode cX6_about 89 = .ok (.getfield 19, 3) := by decide +kernel
theorem dX6_about_92 : decode cX6_about 92 = .ok (.getfield 101, 3) := by decide +kernel
theorem dX6_about_95 : decode cX6_about 95 = .ok (.ireturn, 1) := by decide +kernel
theorem dX6_about_96 : decode cX6_about 96 = .ok (.aload_n 0, 1) := by decide +kernel
theorem dX6_about_97 : decode cX6_about 97 = .ok (.getfield 19, 3) := by decide +kernel
theorem dX6_about_100 : decode cX6_about 100 = .ok (.getfield 104, 3) := by decide +kernel
theorem dX6_about_103 : decode cX6_about 103 = .ok (.ireturn, 1) := by decide +kernel
theorem dX6_about_104 : decode cX6_about 104 = .ok (.aload_n 0, 1) := by decide +kernel
theorem dX6_about_105 : decode cX6_about 105 = .ok (.getfield 19, 3) := by decide +kernel
theorem dX6_about_108 : decode cX6_about 108 = .ok (.invokevirtual 107, 3) := by decide +kernel
theorem dX6_about_111 : decode cX6_about 111 = .ok (.ireturn, 1) := by decide +kernel
theorem dX6_about_112 : decode cX6_about 112 = .ok (.new 50, 3) := by decide +kernel
theorem dX6_about_115 : decode cX6_about 115 = .ok (.dup, 1) := by decide +kernel
theorem dX6_about_116 : decode cX6_about 116 = .ok (.ldc 110, 2) := by decide +kernel
theorem dX6_about_118 : decode cX6_about 118 = .ok (.invokespecial 54, 3) := by decide +kernel
theorem dX6_about_121 : decode cX6_about 121 = .ok (.athrow, 1) := by decide +kernel
set_option maxRecDepth 20000 in
theorem ggX6_triple_X6_needOrderOrNone : GoodIn wsX6_triple wsX6_needOrderOrNone := goodIn_ca (goodIn_r _ [5, 6, 7, 4, 8, 9, 10] (by decide +kernel) (by decide +kernel)) (goodIn_sub (fun _ h => List.mem_cons_of_mem _ (List.mem_append_left _ (List.mem_append_right _ h))) (by decide +kernel))
set_option maxRecDepth 20000 in
theorem gX6_triple_X6_needOrderOrNone : GoodIn wsX6_triple (va_wsS RX6 112 yX6_needOrderOrNone wsX6_needOrderOrNone) := goodIn_app (goodIn_of _ (by decide +kernel)) ggX6_triple_X6_needOrderOrNone
set_option maxRecDepth 20000 in
theorem ggX6_triple_X6_needPlace : GoodIn wsX6_triple wsX6_needPlace := goodIn_ca (goodIn_r _ [13, 14, 15] (by decide +kernel) (by decide +kernel)) (goodIn_sub (fun _ h => List.mem_cons_of_mem _ (List.mem_append_right _ h)) (by decide +kernel))
set_option maxRecDepth 20000 in
theorem gX6_triple_X6_needPlace : GoodIn wsX6_triple (va_wsS RX6 116 yX6_needPlace wsX6_needPlace) := goodIn_app (goodIn_of _ (by decide +kernel)) ggX6_triple_X6_needPlace
set_option maxRecDepth 20000 in
theorem ggX6_triple_X4_answerAt : GoodIn wsX6_triple wsX4_answerAt := goodIn_r _ [20, 21, 22, 23, 24, 19, 25, 26, 27, 28, 29, 30, 31, 32, 33, 34, 35, 36, 37, 38, 39, 40, 41, 42, 43, 44, 45, 46, 47, 48, 56, 57, 58, 59, 60, 61, 62, 63, 64, 65] (by decide +kernel) (by decide +kernel)
set_option maxRecDepth 20000 in
theorem gX6_triple_X4_answerAt : GoodIn wsX6_triple (wsV RX6 119 RX4 yX4_answerAt wsX4_answerAt) := goodIn_app (goodIn_of _ (by decide +kernel)) ggX6_triple_X4_answerAt
theorem dX6_triple_0 : decode cX6_triple 0 = .ok (.iload_n 1, 1) := by decide +kernel
theorem dX6_triple_1 : decode cX6_triple 1 = .ok (.invokestatic 112, 3) := by decide +kernel
theorem dX6_triple_4 : decode cX6_triple 4 = .ok (.iload_n 2, 1) := by decide +kernel
theorem dX6_triple_5 : decode cX6_triple 5 = .ok (.invokestatic 116, 3) := by decide +kernel
theorem dX6_triple_8 : decode cX6_triple 8 = .ok (.aload_n 0, 1) := by decide +kernel
theorem dX6_triple_9 : decode cX6_triple 9 = .ok (.getfield 19, 3) := by decide +kernel
theorem dX6_triple_12 : decode cX6_triple 12 = .ok (.sipush 1330, 3) := by decide +kernel
theorem dX6_triple_15 : decode cX6_triple 15 = .ok (.iload_n 1, 1) := by decide +kernel
theorem dX6_triple_16 : decode cX6_triple 16 = .ok (.iload_n 2, 1) := by decide +kernel
theorem dX6_triple_17 : decode cX6_triple 17 = .ok (.invokevirtual 119, 3) := by decide +kernel
theorem dX6_triple_20 : decode cX6_triple 20 = .ok (.ireturn, 1) := by decide +kernel
set_option maxRecDepth 20000 in
theorem ggX6_remembered_X6_needPlace : GoodIn wsX6_remembered wsX6_needPlace := goodIn_ca (goodIn_r _ [5, 6, 7] (by decide +kernel) (by decide +kernel)) (goodIn_sub (fun _ h => List.mem_cons_of_mem _ (List.mem_append_right _ h)) (by decide +kernel))
set_option maxRecDepth 20000 in
theorem gX6_remembered_X6_needPlace : GoodIn wsX6_remembered (va_wsS RX6 116 yX6_needPlace wsX6_needPlace) := goodIn_app (goodIn_of _ (by decide +kernel)) ggX6_remembered_X6_needPlace
set_option maxRecDepth 20000 in
theorem ggX6_remembered_X4_questionAt : GoodIn wsX6_remembered wsX4_questionAt := goodIn_r _ [12, 13, 14, 22, 23, 24, 25, 26, 27, 28, 29, 30, 31] (by decide +kernel) (by decide +kernel)
set_option maxRecDepth 20000 in
theorem gX6_remembered_X4_questionAt : GoodIn wsX6_remembered (wsV RX6 123 RX4 yX4_questionAt wsX4_questionAt) := goodIn_app (goodIn_of _ (by decide +kernel)) ggX6_remembered_X4_questionAt
theorem dX6_remembered_0 : decode cX6_remembered 0 = .ok (.iload_n 1, 1) := by decide +kernel
theorem dX6_remembered_1 : decode cX6_remembered 1 = .ok (.invokestatic 116, 3) := by decide +kernel
theorem dX6_remembered_4 : decode cX6_remembered 4 = .ok (.iload_n 1, 1) := by decide +kernel
theorem dX6_remembered_5 : decode cX6_remembered 5 = .ok (.aload_n 0, 1) := by decide +kernel
theorem dX6_remembered_6 : decode cX6_remembered 6 = .ok (.getfield 19, 3) := by decide +kernel
theorem dX6_remembered_9 : decode cX6_remembered 9 = .ok (.getfield 104, 3) := by decide +kernel
theorem dX6_remembered_12 : decode cX6_remembered 12 = .ok (.if_icmp .ge 24, 3) := by decide +kernel
theorem dX6_remembered_15 : decode cX6_remembered 15 = .ok (.aload_n 0, 1) := by decide +kernel
theorem dX6_remembered_16 : decode cX6_remembered 16 = .ok (.getfield 19, 3) := by decide +kernel
theorem dX6_remembered_19 : decode cX6_remembered 19 = .ok (.aload_n 0, 1) := by decide +kernel
theorem dX6_remembered_20 : decode cX6_remembered 20 = .ok (.getfield 19, 3) := by decide +kernel
theorem dX6_remembered_23 : decode cX6_remembered 23 = .ok (.getfield 104, 3) := by decide +kernel
theorem dX6_remembered_26 : decode cX6_remembered 26 = .ok (.iconst 1, 1) := by decide +kernel
theorem dX6_remembered_27 : decode cX6_remembered 27 = .ok (.isub, 1) := by decide +kernel
theorem dX6_remembered_28 : decode cX6_remembered 28 = .ok (.iload_n 1, 1) := by decide +kernel
theorem dX6_remembered_29 : decode cX6_remembered 29 = .ok (.isub, 1) := by decide +kernel
theorem dX6_remembered_30 : decode cX6_remembered 30 = .ok (.invokevirtual 123, 3) := by decide +kernel
theorem dX6_remembered_33 : decode cX6_remembered 33 = .ok (.goto 4, 3) := by decide +kernel
theorem dX6_remembered_36 : decode cX6_remembered 36 = .ok (.iconst (-1), 1) := by decide +kernel
theorem dX6_remembered_37 : decode cX6_remembered 37 = .ok (.ireturn, 1) := by decide +kernel
theorem dX6_weight_0 : decode cX6_weight 0 = .ok (.aload_n 0, 1) := by decide +kernel
theorem dX6_weight_1 : decode cX6_weight 1 = .ok (.getfield 19, 3) := by decide +kernel
theorem dX6_weight_4 : decode cX6_weight 4 = .ok (.getfield 126, 3) := by decide +kernel
theorem dX6_weight_7 : decode cX6_weight 7 = .ok (.ireturn, 1) := by decide +kernel
set_option maxRecDepth 20000 in
theorem ggX6_count_X6_needQuestion : GoodIn wsX6_count wsX6_needQuestion := goodIn_ca (goodIn_r _ [5, 6, 7] (by decide +kernel) (by decide +kernel)) (goodIn_sub (fun _ h => List.mem_cons_of_mem _ (List.mem_append_right _ h)) (by decide +kernel))
set_option maxRecDepth 20000 in
theorem gX6_count_X6_needQuestion : GoodIn wsX6_count (va_wsS RX6 129 yX6_needQuestion wsX6_needQuestion) := goodIn_app (goodIn_of _ (by decide +kernel)) ggX6_count_X6_needQuestion
set_option maxRecDepth 20000 in
theorem ggX6_count_X4_countAnswers : GoodIn wsX6_count wsX4_countAnswers := goodIn_r _ [12, 13, 14, 15, 16, 11, 17, 18, 19, 20, 21, 29, 30, 31, 32, 33, 34, 35, 36, 37, 38] (by decide +kernel) (by decide +kernel)
set_option maxRecDepth 20000 in
theorem gX6_count_X4_countAnswers : GoodIn wsX6_count (wsV RX6 132 RX4 yX4_countAnswers wsX4_countAnswers) := goodIn_app (goodIn_of _ (by decide +kernel)) ggX6_count_X4_countAnswers
theorem dX6_count_0 : decode cX6_count 0 = .ok (.iload_n 1, 1) := by decide +kernel
theorem dX6_count_1 : decode cX6_count 1 = .ok (.invokestatic 129, 3) := by decide +kernel
theorem dX6_count_4 : decode cX6_count 4 = .ok (.aload_n 0, 1) := by decide +kernel
theorem dX6_count_5 : decode cX6_count 5 = .ok (.getfield 19, 3) := by decide +kernel
theorem dX6_count_8 : decode cX6_count 8 = .ok (.iload_n 1, 1) := by decide +kernel
theorem dX6_count_9 : decode cX6_count 9 = .ok (.invokevirtual 132, 3) := by decide +kernel
theorem dX6_count_12 : decode cX6_count 12 = .ok (.ireturn, 1) := by decide +kernel
set_option maxRecDepth 20000 in
theorem ggX6_cost_X6_needQuestion : GoodIn wsX6_cost wsX6_needQuestion := goodIn_ca (goodIn_r _ [5, 6, 7] (by decide +kernel) (by decide +kernel)) (goodIn_sub (fun _ h => List.mem_cons_of_mem _ (List.mem_append_left _ (List.mem_append_right _ h))) (by decide +kernel))
set_option maxRecDepth 20000 in
theorem gX6_cost_X6_needQuestion : GoodIn wsX6_cost (va_wsS RX6 129 yX6_needQuestion wsX6_needQuestion) := goodIn_app (goodIn_of _ (by decide +kernel)) ggX6_cost_X6_needQuestion
set_option maxRecDepth 20000 in
theorem ggX6_cost_X6_needOrderOrNone : GoodIn wsX6_cost wsX6_needOrderOrNone := goodIn_ca (goodIn_r _ [10, 11, 12, 4, 13, 14, 15] (by decide +kernel) (by decide +kernel)) (goodIn_sub (fun _ h => List.mem_cons_of_mem _ (List.mem_append_right _ h)) (by decide +kernel))
set_option maxRecDepth 20000 in
theorem gX6_cost_X6_needOrderOrNone : GoodIn wsX6_cost (va_wsS RX6 112 yX6_needOrderOrNone wsX6_needOrderOrNone) := goodIn_app (goodIn_of _ (by decide +kernel)) ggX6_cost_X6_needOrderOrNone
set_option maxRecDepth 20000 in
theorem ggX6_cost_X4_costNow : GoodIn wsX6_cost wsX4_costNow := goodIn_r _ [20, 21, 22, 23, 24, 25, 26, 27, 28, 19, 29, 30, 31, 32, 33, 34, 35, 36, 37, 38, 39, 40, 41, 42, 43, 44, 45, 46, 47, 48, 49, 50, 51, 52, 53, 54, 55, 56, 57, 58, 59, 60, 61, 62, 63, 64, 65, 66, 67, 76, 77, 78, 79, 80, 81, 82, 83, 84, 85] (by decide +kernel) (by decide +kernel)
set_option maxRecDepth 20000 in
theorem gX6_cost_X4_costNow : GoodIn wsX6_cost (wsV RX6 135 RX4 yX4_costNow wsX4_costNow) := goodIn_app (goodIn_of _ (by decide +kernel)) ggX6_cost_X4_costNow
set_option maxRecDepth 20000 in
theorem ggX6_cost_X4_costBy : GoodIn wsX6_cost wsX4_costBy := goodIn_r _ [34, 21, 35, 36, 37, 38, 39, 40, 41, 42, 43, 44, 45, 46, 47, 48, 19, 49, 50, 51, 52, 53, 54, 55, 56, 57, 58, 59, 60, 61, 62, 63, 64, 65, 66, 67, 76, 77, 78, 79, 80, 81, 82, 83, 84, 85] (by decide +kernel) (by decide +kernel)
set_option maxRecDepth 20000 in
theorem gX6_cost_X4_costBy : GoodIn wsX6_cost (wsV RX6 138 RX4 yX4_costBy wsX4_costBy) := goodIn_app (goodIn_of _ (by decide +kernel)) ggX6_cost_X4_costBy
theorem dX6_cost_0 : decode cX6_cost 0 = .ok (.iload_n 1, 1) := by decide +kernel
theorem dX6_cost_1 : decode cX6_cost 1 = .ok (.invokestatic 129, 3) := by decide +kernel
theorem dX6_cost_4 : decode cX6_cost 4 = .ok (.iload_n 2, 1) := by decide +kernel
theorem dX6_cost_5 : decode cX6_cost 5 = .ok (.invokestatic 112, 3) := by decide +kernel
theorem dX6_cost_8 : decode cX6_cost 8 = .ok (.iload_n 2, 1) := by decide +kernel
theorem dX6_cost_9 : decode cX6_cost 9 = .ok (.iconst (-1), 1) := by decide +kernel
theorem dX6_cost_10 : decode cX6_cost 10 = .ok (.if_icmp .ne 14, 3) := by decide +kernel
theorem dX6_cost_13 : decode cX6_cost 13 = .ok (.aload_n 0, 1) := by decide +kernel
theorem dX6_cost_14 : decode cX6_cost 14 = .ok (.getfield 19, 3) := by decide +kernel
theorem dX6_cost_17 : decode cX6_cost 17 = .ok (.iload_n 1, 1) := by decide +kernel
theorem dX6_cost_18 : decode cX6_cost 18 = .ok (.invokevirtual 135, 3) := by decide +kernel
theorem dX6_cost_21 : decode cX6_cost 21 = .ok (.goto 12, 3) := by decide +kernel
theorem dX6_cost_24 : decode cX6_cost 24 = .ok (.aload_n 0, 1) := by decide +kernel
theorem dX6_cost_25 : decode cX6_cost 25 = .ok (.getfield 19, 3) := by decide +kernel
theorem dX6_cost_28 : decode cX6_cost 28 = .ok (.iload_n 1, 1) := by decide +kernel
theorem dX6_cost_29 : decode cX6_cost 29 = .ok (.iload_n 2, 1) := by decide +kernel
theorem dX6_cost_30 : decode cX6_cost 30 = .ok (.invokevirtual 138, 3) := by decide +kernel
theorem dX6_cost_33 : decode cX6_cost 33 = .ok (.ireturn, 1) := by decide +kernel
set_option maxRecDepth 20000 in
theorem ggX6_by_X6_needQuestion : GoodIn wsX6_by wsX6_needQuestion := goodIn_ca (goodIn_r _ [5, 6, 7] (by decide +kernel) (by decide +kernel)) (goodIn_sub (fun _ h => List.mem_cons_of_mem _ (List.mem_append_right _ h)) (by decide +kernel))
set_option maxRecDepth 20000 in
theorem gX6_by_X6_needQuestion : GoodIn wsX6_by (va_wsS RX6 129 yX6_needQuestion wsX6_needQuestion) := goodIn_app (goodIn_of _ (by decide +kernel)) ggX6_by_X6_needQuestion
set_option maxRecDepth 20000 in
theorem ggX6_by_X4_answeringOrder : GoodIn wsX6_by wsX4_answeringOrder := goodIn_r _ [12, 13, 14, 15, 16, 11, 17, 18, 19, 20, 21, 22, 23, 24, 25, 26, 27, 28, 29, 30, 31, 32, 33, 34, 35, 36, 37, 38, 39, 40, 41, 42, 43, 44, 45, 46, 47, 48, 49, 50, 51, 52, 53, 54, 55, 63, 64, 65, 66, 67, 68, 69, 70, 71, 72] (by decide +kernel) (by decide +kernel)
set_option maxRecDepth 20000 in
theorem gX6_by_X4_answeringOrder : GoodIn wsX6_by (wsV RX6 142 RX4 yX4_answeringOrder wsX4_answeringOrder) := goodIn_app (goodIn_of _ (by decide +kernel)) ggX6_by_X4_answeringOrder
theorem dX6_by_0 : decode cX6_by 0 = .ok (.iload_n 1, 1) := by decide +kernel
theorem dX6_by_1 : decode cX6_by 1 = .ok (.invokestatic 129, 3) := by decide +kernel
theorem dX6_by_4 : decode cX6_by 4 = .ok (.aload_n 0, 1) := by decide +kernel
theorem dX6_by_5 : decode cX6_by 5 = .ok (.getfield 19, 3) := by decide +kernel
theorem dX6_by_8 : decode cX6_by 8 = .ok (.iload_n 1, 1) := by decide +kernel
theorem dX6_by_9 : decode cX6_by 9 = .ok (.invokevirtual 142, 3) := by decide +kernel
theorem dX6_by_12 : decode cX6_by 12 = .ok (.ireturn, 1) := by decide +kernel
set_option maxRecDepth 20000 in
theorem ggX6_reach_X6_needQuestion : GoodIn wsX6_reach wsX6_needQuestion := goodIn_ca (goodIn_r _ [4, 5, 6] (by decide +kernel) (by decide +kernel)) (goodIn_sub (fun _ h => List.mem_cons_of_mem _ (List.mem_append_left _ (List.mem_append_right _ h))) (by decide +kernel))
set_option maxRecDepth 20000 in
theorem gX6_reach_X6_needQuestion : GoodIn wsX6_reach (va_wsS RX6 129 yX6_needQuestion wsX6_needQuestion) := goodIn_app (goodIn_of _ (by decide +kernel)) ggX6_reach_X6_needQuestion
set_option maxRecDepth 20000 in
theorem ggX6_reach_X6_needOrder : GoodIn wsX6_reach wsX6_needOrder := goodIn_ca (goodIn_r _ [9, 10, 11] (by decide +kernel) (by decide +kernel)) (goodIn_sub (fun _ h => List.mem_cons_of_mem _ (List.mem_append_right _ h)) (by decide +kernel))
set_option maxRecDepth 20000 in
theorem gX6_reach_X6_needOrder : GoodIn wsX6_reach (va_wsS RX6 145 yX6_needOrder wsX6_needOrder) := goodIn_app (goodIn_of _ (by decide +kernel)) ggX6_reach_X6_needOrder
set_option maxRecDepth 20000 in
theorem ggX6_reach_X2_reachOf : GoodIn wsX6_reach wsX2_reachOf := goodIn_r _ [15, 16, 17, 14, 18, 19, 20, 21, 22] (by decide +kernel) (by decide +kernel)
set_option maxRecDepth 20000 in
theorem gX6_reach_X2_reachOf : GoodIn wsX6_reach (va_wsS RX6 148 yX2_reachOf wsX2_reachOf) := goodIn_app (goodIn_of _ (by decide +kernel)) ggX6_reach_X2_reachOf
theorem dX6_reach_0 : decode cX6_reach 0 = .ok (.iload_n 1, 1) := by decide +kernel
theorem dX6_reach_1 : decode cX6_reach 1 = .ok (.invokestatic 129, 3) := by decide +kernel
theorem dX6_reach_4 : decode cX6_reach 4 = .ok (.iload_n 2, 1) := by decide +kernel
theorem dX6_reach_5 : decode cX6_reach 5 = .ok (.invokestatic 145, 3) := by decide +kernel
theorem dX6_reach_8 : decode cX6_reach 8 = .ok (.iload_n 1, 1) := by decide +kernel
theorem dX6_reach_9 : decode cX6_reach 9 = .ok (.iload_n 2, 1) := by decide +kernel
theorem dX6_reach_10 : decode cX6_reach 10 = .ok (.invokestatic 148, 3) := by decide +kernel
theorem dX6_reach_13 : decode cX6_reach 13 = .ok (.ireturn, 1) := by decide +kernel
set_option maxRecDepth 20000 in
theorem ggX6_answer_X6_needQuestion : GoodIn wsX6_answer wsX6_needQuestion := goodIn_ca (goodIn_r _ [5, 6, 7] (by decide +kernel) (by decide +kernel)) (goodIn_sub (fun _ h => List.mem_cons_of_mem _ (List.mem_append_right _ h)) (by decide +kernel))
set_option maxRecDepth 20000 in
theorem gX6_answer_X6_needQuestion : GoodIn wsX6_answer (va_wsS RX6 129 yX6_needQuestion wsX6_needQuestion) := goodIn_app (goodIn_of _ (by decide +kernel)) ggX6_answer_X6_needQuestion
set_option maxRecDepth 20000 in
theorem ggX6_answer_X6_needPlace : GoodIn wsX6_answer wsX6_needPlace := goodIn_ca (goodIn_r _ [10, 6, 7] (by decide +kernel) (by decide +kernel)) (goodIn_sub (fun _ h => List.mem_cons_of_mem _ (List.mem_append_right _ h)) (by decide +kernel))
set_option maxRecDepth 20000 in
theorem gX6_answer_X6_needPlace : GoodIn wsX6_answer (va_wsS RX6 116 yX6_needPlace wsX6_needPlace) := goodIn_app (goodIn_of _ (by decide +kernel)) ggX6_answer_X6_needPlace
set_option maxRecDepth 20000 in
theorem ggX6_answer_X4_answeringOrder : GoodIn wsX6_answer wsX4_answeringOrder := goodIn_r _ [15, 16, 17, 18, 19, 14, 20, 21, 22, 23, 24, 25, 26, 27, 28, 29, 30, 31, 32, 33, 34, 35, 36, 37, 38, 39, 40, 41, 42, 43, 44, 45, 46, 47, 48, 49, 50, 51, 52, 53, 54, 55, 56, 57, 58, 84, 85, 86, 87, 88, 89, 90, 91, 92, 93] (by decide +kernel) (by decide +kernel)
set_option maxRecDepth 20000 in
theorem gX6_answer_X4_answeringOrder : GoodIn wsX6_answer (wsV RX6 142 RX4 yX4_answeringOrder wsX4_answeringOrder) := goodIn_app (goodIn_of _ (by decide +kernel)) ggX6_answer_X4_answeringOrder
set_option maxRecDepth 20000 in
theorem ggX6_answer_X4_answerAt : GoodIn wsX6_answer wsX4_answerAt := goodIn_r _ [62, 16, 51, 52, 53, 14, 54, 55, 56, 57, 58, 63, 64, 65, 66, 67, 68, 69, 70, 71, 72, 28, 73, 30, 31, 32, 33, 74, 75, 76, 84, 85, 86, 87, 88, 89, 90, 91, 92, 93] (by decide +kernel) (by decide +kernel)
set_option maxRecDepth 20000 in
theorem gX6_answer_X4_answerAt : GoodIn wsX6_answer (wsV RX6 119 RX4 yX4_answerAt wsX4_answerAt) := goodIn_app (goodIn_of _ (by decide +kernel)) ggX6_answer_X4_answerAt
theorem dX6_answer_0 : decode cX6_answer 0 = .ok (.iload_n 1, 1) := by decide +kernel
theorem dX6_answer_1 : decode cX6_answer 1 = .ok (.invokestatic 129, 3) := by decide +kernel
theorem dX6_answer_4 : decode cX6_answer 4 = .ok (.iload_n 2, 1) := by decide +kernel
theorem dX6_answer_5 : decode cX6_answer 5 = .ok (.invokestatic 116, 3) := by decide +kernel
theorem dX6_answer_8 : decode cX6_answer 8 = .ok (.aload_n 0, 1) := by decide +kernel
theorem dX6_answer_9 : decode cX6_answer 9 = .ok (.getfield 19, 3) := by decide +kernel
theorem dX6_answer_12 : decode cX6_answer 12 = .ok (.iload_n 1, 1) := by decide +kernel
theorem dX6_answer_13 : decode cX6_answer 13 = .ok (.aload_n 0, 1) := by decide +kernel
theorem dX6_answer_14 : decode cX6_answer 14 = .ok (.getfield 19, 3) := by decide +kernel
theorem dX6_answer_17 : decode cX6_answer 17 = .ok (.iload_n 1, 1) := by decide +kernel
theorem dX6_answer_18 : decode cX6_answer 18 = .ok (.invokevirtual 142, 3) := by decide +kernel
theorem dX6_answer_21 : decode cX6_answer 21 = .ok (.iload_n 2, 1) := by decide +kernel
theorem dX6_answer_22 : decode cX6_answer 22 = .ok (.invokevirtual 119, 3) := by decide +kernel
theorem dX6_answer_25 : decode cX6_answer 25 = .ok (.ireturn, 1) := by decide +kernel
set_option maxRecDepth 20000 in
theorem ggX6_add_X6_needTriple : GoodIn wsX6_add wsX6_needTriple := goodIn_ca (goodIn_r _ [8, 9, 10] (by decide +kernel) (by decide +kernel)) (goodIn_sub (fun _ h => List.mem_cons_of_mem _ (List.mem_append_right _ h)) (by decide +kernel))
set_option maxRecDepth 20000 in
theorem gX6_add_X6_needTriple : GoodIn wsX6_add (va_wsS RX6 167 yX6_needTriple wsX6_needTriple) := goodIn_app (goodIn_of _ (by decide +kernel)) ggX6_add_X6_needTriple
set_option maxRecDepth 20000 in
theorem ggX6_add_X4_canPut : GoodIn wsX6_add wsX4_canPut := goodIn_r _ [15, 16, 17, 18, 19, 20, 14, 21, 22, 23, 24, 25, 79, 80, 81, 82, 83, 84, 85, 86, 87, 88] (by decide +kernel) (by decide +kernel)
set_option maxRecDepth 20000 in
theorem gX6_add_X4_canPut : GoodIn wsX6_add (wsV RX6 170 RX4 yX4_canPut wsX4_canPut) := goodIn_app (goodIn_of _ (by decide +kernel)) ggX6_add_X4_canPut
set_option maxRecDepth 20000 in
theorem ggX6_add_X1_push : GoodIn wsX6_add wsX1_push := goodIn_r _ [30, 31, 32, 33, 34, 35, 29, 36, 37, 38, 39, 40, 14, 41, 16, 17, 42, 43, 44, 45, 46, 47, 48, 49, 50, 51, 52, 89, 90, 91, 79, 80, 81, 82, 83, 84, 85, 86, 87, 88] (by decide +kernel) (by decide +kernel)
set_option maxRecDepth 20000 in
theorem gX6_add_X1_push : GoodIn wsX6_add (wsV RX6 176 RX1 yX1_push wsX1_push) := goodIn_app (goodIn_of _ (by decide +kernel)) ggX6_add_X1_push
set_option maxRecDepth 20000 in
theorem ggX6_add_X4_put : GoodIn wsX6_add wsX4_put := goodIn_r _ [56, 16, 17, 18, 19, 20, 14, 21, 22, 23, 24, 25, 57, 58, 59, 60, 43, 42, 61, 62, 63, 64, 65, 66, 67, 68, 69, 70, 71, 79, 80, 81, 82, 83, 84, 85, 86, 87, 88] (by decide +kernel) (by decide +kernel)
set_option maxRecDepth 20000 in
theorem gX6_add_X4_put : GoodIn wsX6_add (wsV RX6 180 RX4 yX4_put wsX4_put) := goodIn_app (goodIn_of _ (by decide +kernel)) ggX6_add_X4_put
theorem dX6_add_0 : decode cX6_add 0 = .ok (.iload_n 1, 1) := by decide +kernel
theorem dX6_add_1 : decode cX6_add 1 = .ok (.invokestatic 167, 3) := by decide +kernel
theorem dX6_add_4 : decode cX6_add 4 = .ok (.aload_n 0, 1) := by decide +kernel
theorem dX6_add_5 : decode cX6_add 5 = .ok (.getfield 19, 3) := by decide +kernel
theorem dX6_add_8 : decode cX6_add 8 = .ok (.iload_n 1, 1) := by decide +kernel
theorem dX6_add_9 : decode cX6_add 9 = .ok (.invokevirtual 170, 3) := by decide +kernel
theorem dX6_add_12 : decode cX6_add 12 = .ok (.ifCond .ne 13, 3) := by decide +kernel
theorem dX6_add_15 : decode cX6_add 15 = .ok (.new 61, 3) := by decide +kernel
theorem dX6_add_18 : decode cX6_add 18 = .ok (.dup, 1) := by decide +kernel
theorem dX6_add_19 : decode cX6_add 19 = .ok (.ldc 174, 2) := by decide +kernel
theorem dX6_add_21 : decode cX6_add 21 = .ok (.invokespecial 65, 3) := by decide +kernel
theorem dX6_add_24 : decode cX6_add 24 = .ok (.athrow, 1) := by decide +kernel
theorem dX6_add_25 : decode cX6_add 25 = .ok (.aload_n 0, 1) := by decide +kernel
theorem dX6_add_26 : decode cX6_add 26 = .ok (.getfield 29, 3) := by decide +kernel
theorem dX6_add_29 : decode cX6_add 29 = .ok (.aload_n 0, 1) := by decide +kernel
theorem dX6_add_30 : decode cX6_add 30 = .ok (.getfield 19, 3) := by decide +kernel
theorem dX6_add_33 : decode cX6_add 33 = .ok (.invokevirtual 176, 3) := by decide +kernel
theorem dX6_add_36 : decode cX6_add 36 = .ok (.aload_n 0, 1) := by decide +kernel
theorem dX6_add_37 : decode cX6_add 37 = .ok (.getfield 19, 3) := by decide +kernel
theorem dX6_add_40 : decode cX6_add 40 = .ok (.iload_n 1, 1) := by decide +kernel
theorem dX6_add_41 : decode cX6_add 41 = .ok (.invokevirtual 180, 3) := by decide +kernel
theorem dX6_add_44 : decode cX6_add 44 = .ok (.ireturn, 1) := by decide +kernel
set_option maxRecDepth 20000 in
theorem ggX6_remove_X6_needTriple : GoodIn wsX6_remove wsX6_needTriple := goodIn_ca (goodIn_r _ [6, 7, 8] (by decide +kernel) (by decide +kernel)) (goodIn_sub (fun _ h => List.mem_cons_of_mem _ (List.mem_append_right _ h)) (by decide +kernel))
set_option maxRecDepth 20000 in
theorem gX6_remove_X6_needTriple : GoodIn wsX6_remove (va_wsS RX6 167 yX6_needTriple wsX6_needTriple) := goodIn_app (goodIn_of _ (by decide +kernel)) ggX6_remove_X6_needTriple
set_option maxRecDepth 20000 in
theorem ggX6_remove_X1_push : GoodIn wsX6_remove wsX1_push := goodIn_r _ [13, 14, 15, 16, 17, 18, 12, 19, 20, 21, 22, 23, 24, 25, 26, 27, 28, 29, 30, 31, 32, 33, 34, 35, 36, 37, 38, 73, 74, 75, 76, 77, 78, 79, 80, 81, 82, 83, 84, 85] (by decide +kernel) (by decide +kernel)
set_option maxRecDepth 20000 in
theorem gX6_remove_X1_push : GoodIn wsX6_remove (wsV RX6 176 RX1 yX1_push wsX1_push) := goodIn_app (goodIn_of _ (by decide +kernel)) ggX6_remove_X1_push
set_option maxRecDepth 20000 in
theorem ggX6_remove_X4_take : GoodIn wsX6_remove wsX4_take := goodIn_r _ [42, 26, 27, 43, 44, 45, 24, 46, 47, 48, 49, 50, 51, 52, 53, 54, 29, 28, 55, 56, 57, 58, 59, 60, 61, 62, 63, 64, 65, 76, 77, 78, 79, 80, 81, 82, 83, 84, 85] (by decide +kernel) (by decide +kernel)
set_option maxRecDepth 20000 in
theorem gX6_remove_X4_take : GoodIn wsX6_remove (wsV RX6 189 RX4 yX4_take wsX4_take) := goodIn_app (goodIn_of _ (by decide +kernel)) ggX6_remove_X4_take
theorem dX6_remove_0 : decode cX6_remove 0 = .ok (.iload_n 1, 1) := by decide +kernel
theorem dX6_remove_1 : decode cX6_remove 1 = .ok (.invokestatic 167, 3) := by decide +kernel
theorem dX6_remove_4 : decode cX6_remove 4 = .ok (.aload_n 0, 1) := by decide +kernel
theorem dX6_remove_5 : decode cX6_remove 5 = .ok (.getfield 29, 3) := by decide +kernel
