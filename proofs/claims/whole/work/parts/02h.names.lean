set_option maxRecDepth 20000 in
theorem ggX7_add_X7_adds : GoodIn wsX7_add wsX7_adds := goodIn_r _ [29, 7, 11, 12, 13, 4, 14, 30, 31, 32, 33, 34, 35, 36, 37, 38, 39, 40, 41, 42, 43, 44, 45, 46, 47, 48] (by decide +kernel) (by decide +kernel)
set_option maxRecDepth 20000 in
theorem gX7_add_X7_adds : GoodIn wsX7_add (wsV RX7 160 RX7 yX7_adds wsX7_adds) := goodIn_app (goodIn_of _ (by decide +kernel)) ggX7_add_X7_adds
theorem dX7_add_0 : decode cX7_add 0 = .ok (.aload_n 0, 1) := by decide +kernel
theorem dX7_add_1 : decode cX7_add 1 = .ok (.aload_n 0, 1) := by decide +kernel
theorem dX7_add_2 : decode cX7_add 2 = .ok (.iload_n 1, 1) := by decide +kernel
theorem dX7_add_3 : decode cX7_add 3 = .ok (.invokevirtual 154, 3) := by decide +kernel
theorem dX7_add_6 : decode cX7_add 6 = .ok (.invokevirtual 89, 3) := by decide +kernel
theorem dX7_add_9 : decode cX7_add 9 = .ok (.ifCond .ne 5, 3) := by decide +kernel
theorem dX7_add_12 : decode cX7_add 12 = .ok (.iconst 0, 1) := by decide +kernel
theorem dX7_add_13 : decode cX7_add 13 = .ok (.ireturn, 1) := by decide +kernel
theorem dX7_add_14 : decode cX7_add 14 = .ok (.aload_n 0, 1) := by decide +kernel
theorem dX7_add_15 : decode cX7_add 15 = .ok (.invokevirtual 157, 3) := by decide +kernel
theorem dX7_add_18 : decode cX7_add 18 = .ok (.aload_n 0, 1) := by decide +kernel
theorem dX7_add_19 : decode cX7_add 19 = .ok (.iload_n 1, 1) := by decide +kernel
theorem dX7_add_20 : decode cX7_add 20 = .ok (.invokevirtual 160, 3) := by decide +kernel
theorem dX7_add_23 : decode cX7_add 23 = .ok (.ireturn, 1) := by decide +kernel
set_option maxRecDepth 20000 in
theorem ggX7_addAll_X7_faultOf : GoodIn wsX7_addAll wsX7_faultOf := goodIn_r _ [7, 1, 2, 8, 9, 10, 11, 6, 12, 48, 49, 50, 51, 52, 53, 54, 55, 56] (by decide +kernel) (by decide +kernel)
set_option maxRecDepth 20000 in
theorem gX7_addAll_X7_faultOf : GoodIn wsX7_addAll (wsV RX7 97 RX7 yX7_faultOf wsX7_faultOf) := goodIn_app (goodIn_of _ (by decide +kernel)) ggX7_addAll_X7_faultOf
set_option maxRecDepth 20000 in
theorem ggX7_addAll_X7_holds : GoodIn wsX7_addAll wsX7_holds := goodIn_r _ [16, 17, 48, 49, 50, 51, 52, 53, 54, 55, 56] (by decide +kernel) (by decide +kernel)
set_option maxRecDepth 20000 in
theorem gX7_addAll_X7_holds : GoodIn wsX7_addAll (wsV RX7 89 RX7 yX7_holds wsX7_holds) := goodIn_app (goodIn_of _ (by decide +kernel)) ggX7_addAll_X7_holds
set_option maxRecDepth 20000 in
theorem ggX7_addAll_X7_remember : GoodIn wsX7_addAll wsX7_remember := goodIn_r _ [21, 22, 23, 24, 48, 49, 50, 51, 52, 53, 54, 55, 56] (by decide +kernel) (by decide +kernel)
set_option maxRecDepth 20000 in
theorem gX7_addAll_X7_remember : GoodIn wsX7_addAll (wsV RX7 157 RX7 yX7_remember wsX7_remember) := goodIn_app (goodIn_of _ (by decide +kernel)) ggX7_addAll_X7_remember
set_option maxRecDepth 20000 in
theorem ggX7_addAll_X7_addFault : GoodIn wsX7_addAll wsX7_addFault := goodIn_r _ [28, 29, 24, 10, 11, 6, 12, 30, 31, 32, 33, 48, 49, 50, 51, 52, 53, 54, 55, 56] (by decide +kernel) (by decide +kernel)
set_option maxRecDepth 20000 in
theorem gX7_addAll_X7_addFault : GoodIn wsX7_addAll (wsV RX7 154 RX7 yX7_addFault wsX7_addFault) := goodIn_app (goodIn_of _ (by decide +kernel)) ggX7_addAll_X7_addFault
set_option maxRecDepth 20000 in
theorem ggX7_addAll_X7_adds : GoodIn wsX7_addAll wsX7_adds := goodIn_r _ [37, 24, 30, 31, 32, 6, 33, 38, 39, 40, 41, 42, 43, 44, 45, 46, 47, 48, 49, 50, 51, 52, 53, 54, 55, 56] (by decide +kernel) (by decide +kernel)
set_option maxRecDepth 20000 in
theorem gX7_addAll_X7_adds : GoodIn wsX7_addAll (wsV RX7 160 RX7 yX7_adds wsX7_adds) := goodIn_app (goodIn_of _ (by decide +kernel)) ggX7_addAll_X7_adds
theorem dX7_addAll_0 : decode cX7_addAll 0 = .ok (.aload_n 0, 1) := by decide +kernel
theorem dX7_addAll_1 : decode cX7_addAll 1 = .ok (.aload_n 0, 1) := by decide +kernel
theorem dX7_addAll_2 : decode cX7_addAll 2 = .ok (.iconst 0, 1) := by decide +kernel
theorem dX7_addAll_3 : decode cX7_addAll 3 = .ok (.invokevirtual 97, 3) := by decide +kernel
theorem dX7_addAll_6 : decode cX7_addAll 6 = .ok (.iconst (-1), 1) := by decide +kernel
theorem dX7_addAll_7 : decode cX7_addAll 7 = .ok (.if_icmp .ne 7, 3) := by decide +kernel
theorem dX7_addAll_10 : decode cX7_addAll 10 = .ok (.iconst 0, 1) := by decide +kernel
theorem dX7_addAll_11 : decode cX7_addAll 11 = .ok (.goto 4, 3) := by decide +kernel
theorem dX7_addAll_14 : decode cX7_addAll 14 = .ok (.iconst 1, 1) := by decide +kernel
theorem dX7_addAll_15 : decode cX7_addAll 15 = .ok (.invokevirtual 89, 3) := by decide +kernel
theorem dX7_addAll_18 : decode cX7_addAll 18 = .ok (.ifCond .ne 5, 3) := by decide +kernel
theorem dX7_addAll_21 : decode cX7_addAll 21 = .ok (.iconst 0, 1) := by decide +kernel
theorem dX7_addAll_22 : decode cX7_addAll 22 = .ok (.ireturn, 1) := by decide +kernel
theorem dX7_addAll_23 : decode cX7_addAll 23 = .ok (.aload_n 0, 1) := by decide +kernel
theorem dX7_addAll_24 : decode cX7_addAll 24 = .ok (.invokevirtual 157, 3) := by decide +kernel
theorem dX7_addAll_27 : decode cX7_addAll 27 = .ok (.iconst 0, 1) := by decide +kernel
theorem dX7_addAll_28 : decode cX7_addAll 28 = .ok (.istore_n 1, 1) := by decide +kernel
theorem dX7_addAll_29 : decode cX7_addAll 29 = .ok (.iconst 0, 1) := by decide +kernel
theorem dX7_addAll_30 : decode cX7_addAll 30 = .ok (.istore_n 2, 1) := by decide +kernel
theorem dX7_addAll_31 : decode cX7_addAll 31 = .ok (.iload_n 2, 1) := by decide +kernel
theorem dX7_addAll_32 : decode cX7_addAll 32 = .ok (.aload_n 0, 1) := by decide +kernel
theorem dX7_addAll_33 : decode cX7_addAll 33 = .ok (.getfield 86, 3) := by decide +kernel
theorem dX7_addAll_36 : decode cX7_addAll 36 = .ok (.if_icmp .ge 69, 3) := by decide +kernel
theorem dX7_addAll_39 : decode cX7_addAll 39 = .ok (.bipush 100, 2) := by decide +kernel
theorem dX7_addAll_41 : decode cX7_addAll 41 = .ok (.aload_n 0, 1) := by decide +kernel
theorem dX7_addAll_42 : decode cX7_addAll 42 = .ok (.getfield 26, 3) := by decide +kernel
theorem dX7_addAll_45 : decode cX7_addAll 45 = .ok (.iload_n 2, 1) := by decide +kernel
theorem dX7_addAll_46 : decode cX7_addAll 46 = .ok (.baload, 1) := by decide +kernel
theorem dX7_addAll_47 : decode cX7_addAll 47 = .ok (.bipush 48, 2) := by decide +kernel
theorem dX7_addAll_49 : decode cX7_addAll 49 = .ok (.isub, 1) := by decide +kernel
theorem dX7_addAll_50 : decode cX7_addAll 50 = .ok (.imul, 1) := by decide +kernel
theorem dX7_addAll_51 : decode cX7_addAll 51 = .ok (.bipush 10, 2) := by decide +kernel
theorem dX7_addAll_53 : decode cX7_addAll 53 = .ok (.aload_n 0, 1) := by decide +kernel
theorem dX7_addAll_54 : decode cX7_addAll 54 = .ok (.getfield 26, 3) := by decide +kernel
theorem dX7_addAll_57 : decode cX7_addAll 57 = .ok (.iload_n 2, 1) := by decide +kernel
theorem dX7_addAll_58 : decode cX7_addAll 58 = .ok (.iconst 1, 1) := by decide +kernel
theorem dX7_addAll_59 : decode cX7_addAll 59 = .ok (.iadd, 1) := by decide +kernel
theorem dX7_addAll_60 : decode cX7_addAll 60 = .ok (.baload, 1) := by decide +kernel
theorem dX7_addAll_61 : decode cX7_addAll 61 = .ok (.bipush 48, 2) := by decide +kernel
theorem dX7_addAll_63 : decode cX7_addAll 63 = .ok (.isub, 1) := by decide +kernel
theorem dX7_addAll_64 : decode cX7_addAll 64 = .ok (.imul, 1) := by decide +kernel
theorem dX7_addAll_65 : decode cX7_addAll 65 = .ok (.iadd, 1) := by decide +kernel
theorem dX7_addAll_66 : decode cX7_addAll 66 = .ok (.aload_n 0, 1) := by decide +kernel
theorem dX7_addAll_67 : decode cX7_addAll 67 = .ok (.getfield 26, 3) := by decide +kernel
theorem dX7_addAll_70 : decode cX7_addAll 70 = .ok (.iload_n 2, 1) := by decide +kernel
theorem dX7_addAll_71 : decode cX7_addAll 71 = .ok (.iconst 2, 1) := by decide +kernel
theorem dX7_addAll_72 : decode cX7_addAll 72 = .ok (.iadd, 1) := by decide +kernel
theorem dX7_addAll_73 : decode cX7_addAll 73 = .ok (.baload, 1) := by decide +kernel
theorem dX7_addAll_74 : decode cX7_addAll 74 = .ok (.iadd, 1) := by decide +kernel
theorem dX7_addAll_75 : decode cX7_addAll 75 = .ok (.bipush 48, 2) := by decide +kernel
theorem dX7_addAll_77 : decode cX7_addAll 77 = .ok (.isub, 1) := by decide +kernel
theorem dX7_addAll_78 : decode cX7_addAll 78 = .ok (.istore_n 3, 1) := by decide +kernel
theorem dX7_addAll_79 : decode cX7_addAll 79 = .ok (.iload_n 1, 1) := by decide +kernel
theorem dX7_addAll_80 : decode cX7_addAll 80 = .ok (.aload_n 0, 1) := by decide +kernel
theorem dX7_addAll_81 : decode cX7_addAll 81 = .ok (.iload_n 3, 1) := by decide +kernel
theorem dX7_addAll_82 : decode cX7_addAll 82 = .ok (.invokevirtual 154, 3) := by decide +kernel
theorem dX7_addAll_85 : decode cX7_addAll 85 = .ok (.ifCond .ne 11, 3) := by decide +kernel
theorem dX7_addAll_88 : decode cX7_addAll 88 = .ok (.aload_n 0, 1) := by decide +kernel
theorem dX7_addAll_89 : decode cX7_addAll 89 = .ok (.iload_n 3, 1) := by decide +kernel
theorem dX7_addAll_90 : decode cX7_addAll 90 = .ok (.invokevirtual 160, 3) := by decide +kernel
theorem dX7_addAll_93 : decode cX7_addAll 93 = .ok (.goto 4, 3) := by decide +kernel
theorem dX7_addAll_96 : decode cX7_addAll 96 = .ok (.iconst 0, 1) := by decide +kernel
theorem dX7_addAll_97 : decode cX7_addAll 97 = .ok (.iadd, 1) := by decide +kernel
theorem dX7_addAll_98 : decode cX7_addAll 98 = .ok (.istore_n 1, 1) := by decide +kernel
theorem dX7_addAll_99 : decode cX7_addAll 99 = .ok (.iinc 2 4, 3) := by decide +kernel
theorem dX7_addAll_102 : decode cX7_addAll 102 = .ok (.goto (-71), 3) := by decide +kernel
theorem dX7_addAll_105 : decode cX7_addAll 105 = .ok (.iload_n 1, 1) := by decide +kernel
theorem dX7_addAll_106 : decode cX7_addAll 106 = .ok (.ireturn, 1) := by decide +kernel
set_option maxRecDepth 20000 in
theorem ggX7_remove_X7_in : GoodIn wsX7_remove wsX7_in := goodIn_r _ [5] (by decide +kernel) (by decide +kernel)
set_option maxRecDepth 20000 in
theorem gX7_remove_X7_in : GoodIn wsX7_remove (va_wsS RX7 53 yX7_in wsX7_in) := goodIn_app (goodIn_of _ (by decide +kernel)) ggX7_remove_X7_in
set_option maxRecDepth 20000 in
theorem ggX7_remove_X7_holds : GoodIn wsX7_remove wsX7_holds := goodIn_r _ [9, 10, 36, 37, 38, 39, 40, 41, 42, 43, 44] (by decide +kernel) (by decide +kernel)
set_option maxRecDepth 20000 in
theorem gX7_remove_X7_holds : GoodIn wsX7_remove (wsV RX7 89 RX7 yX7_holds wsX7_holds) := goodIn_app (goodIn_of _ (by decide +kernel)) ggX7_remove_X7_holds
set_option maxRecDepth 20000 in
theorem ggX7_remove_X7_remember : GoodIn wsX7_remove wsX7_remember := goodIn_r _ [14, 15, 16, 17, 36, 37, 38, 39, 40, 41, 42, 43, 44] (by decide +kernel) (by decide +kernel)
set_option maxRecDepth 20000 in
theorem gX7_remove_X7_remember : GoodIn wsX7_remove (wsV RX7 157 RX7 yX7_remember wsX7_remember) := goodIn_app (goodIn_of _ (by decide +kernel)) ggX7_remove_X7_remember
set_option maxRecDepth 20000 in
theorem ggX7_remove_X7_removes : GoodIn wsX7_remove wsX7_removes := goodIn_r _ [21, 17, 22, 23, 24, 4, 25, 26, 27, 28, 29, 30, 31, 32, 33, 34, 35, 36, 37, 38, 39, 40, 41, 42, 43, 44] (by decide +kernel) (by decide +kernel)
set_option maxRecDepth 20000 in
theorem gX7_remove_X7_removes : GoodIn wsX7_remove (wsV RX7 163 RX7 yX7_removes wsX7_removes) := goodIn_app (goodIn_of _ (by decide +kernel)) ggX7_remove_X7_removes
theorem dX7_remove_0 : decode cX7_remove 0 = .ok (.aload_n 0, 1) := by decide +kernel
theorem dX7_remove_1 : decode cX7_remove 1 = .ok (.iload_n 1, 1) := by decide +kernel
theorem dX7_remove_2 : decode cX7_remove 2 = .ok (.i2l, 1) := by decide +kernel
theorem dX7_remove_3 : decode cX7_remove 3 = .ok (.lconst 0, 1) := by decide +kernel
theorem dX7_remove_4 : decode cX7_remove 4 = .ok (.ldc2_w 137, 3) := by decide +kernel
theorem dX7_remove_7 : decode cX7_remove 7 = .ok (.invokestatic 53, 3) := by decide +kernel
theorem dX7_remove_10 : decode cX7_remove 10 = .ok (.ifCond .eq 7, 3) := by decide +kernel
theorem dX7_remove_13 : decode cX7_remove 13 = .ok (.iconst 0, 1) := by decide +kernel
theorem dX7_remove_14 : decode cX7_remove 14 = .ok (.goto 4, 3) := by decide +kernel
theorem dX7_remove_17 : decode cX7_remove 17 = .ok (.iconst 1, 1) := by decide +kernel
theorem dX7_remove_18 : decode cX7_remove 18 = .ok (.invokevirtual 89, 3) := by decide +kernel
theorem dX7_remove_21 : decode cX7_remove 21 = .ok (.ifCond .ne 5, 3) := by decide +kernel
theorem dX7_remove_24 : decode cX7_remove 24 = .ok (.iconst 0, 1) := by decide +kernel
theorem dX7_remove_25 : decode cX7_remove 25 = .ok (.ireturn, 1) := by decide +kernel
theorem dX7_remove_26 : decode cX7_remove 26 = .ok (.aload_n 0, 1) := by decide +kernel
theorem dX7_remove_27 : decode cX7_remove 27 = .ok (.invokevirtual 157, 3) := by decide +kernel
theorem dX7_remove_30 : decode cX7_remove 30 = .ok (.aload_n 0, 1) := by decide +kernel
theorem dX7_remove_31 : decode cX7_remove 31 = .ok (.iload_n 1, 1) := by decide +kernel
theorem dX7_remove_32 : decode cX7_remove 32 = .ok (.invokevirtual 163, 3) := by decide +kernel
theorem dX7_remove_35 : decode cX7_remove 35 = .ok (.ireturn, 1) := by decide +kernel
set_option maxRecDepth 20000 in
theorem ggX7_ask_X7_isQuestion : GoodIn wsX7_ask wsX7_isQuestion := goodIn_r _ [4, 5, 6, 7, 3, 8] (by decide +kernel) (by decide +kernel)
set_option maxRecDepth 20000 in
theorem gX7_ask_X7_isQuestion : GoodIn wsX7_ask (va_wsS RX7 113 yX7_isQuestion wsX7_isQuestion) := goodIn_app (goodIn_of _ (by decide +kernel)) ggX7_ask_X7_isQuestion
set_option maxRecDepth 20000 in
theorem ggX7_ask_X7_holds : GoodIn wsX7_ask wsX7_holds := goodIn_r _ [12, 13, 68, 69, 70, 71, 72, 73, 74, 75, 76] (by decide +kernel) (by decide +kernel)
set_option maxRecDepth 20000 in
theorem gX7_ask_X7_holds : GoodIn wsX7_ask (wsV RX7 89 RX7 yX7_holds wsX7_holds) := goodIn_app (goodIn_of _ (by decide +kernel)) ggX7_ask_X7_holds
set_option maxRecDepth 20000 in
theorem ggX7_ask_X7_remember : GoodIn wsX7_ask wsX7_remember := goodIn_r _ [17, 18, 19, 20, 68, 69, 70, 71, 72, 73, 74, 75, 76] (by decide +kernel) (by decide +kernel)
set_option maxRecDepth 20000 in
theorem gX7_ask_X7_remember : GoodIn wsX7_ask (wsV RX7 157 RX7 yX7_remember wsX7_remember) := goodIn_app (goodIn_of _ (by decide +kernel)) ggX7_ask_X7_remember
set_option maxRecDepth 20000 in
theorem ggX7_ask_X7_asks : GoodIn wsX7_ask wsX7_asks := goodIn_r _ [24, 20, 25, 26, 27, 3, 28, 29, 30, 31, 32, 33, 34, 35, 36, 37, 38, 39, 40, 41, 42, 43, 44, 45, 46, 47, 48, 49, 50, 51, 52, 53, 54, 55, 56, 57, 58, 59, 60, 61, 62, 63, 64, 65, 66, 67, 68, 69, 70, 71, 72, 73, 74, 75, 76] (by decide +kernel) (by decide +kernel)
set_option maxRecDepth 20000 in
theorem gX7_ask_X7_asks : GoodIn wsX7_ask (wsV RX7 166 RX7 yX7_asks wsX7_asks) := goodIn_app (goodIn_of _ (by decide +kernel)) ggX7_ask_X7_asks
theorem dX7_ask_0 : decode cX7_ask 0 = .ok (.aload_n 0, 1) := by decide +kernel
theorem dX7_ask_1 : decode cX7_ask 1 = .ok (.iload_n 1, 1) := by decide +kernel
theorem dX7_ask_2 : decode cX7_ask 2 = .ok (.invokestatic 113, 3) := by decide +kernel
theorem dX7_ask_5 : decode cX7_ask 5 = .ok (.ifCond .eq 7, 3) := by decide +kernel
theorem dX7_ask_8 : decode cX7_ask 8 = .ok (.iconst 0, 1) := by decide +kernel
theorem dX7_ask_9 : decode cX7_ask 9 = .ok (.goto 4, 3) := by decide +kernel
theorem dX7_ask_12 : decode cX7_ask 12 = .ok (.iconst 1, 1) := by decide +kernel
theorem dX7_ask_13 : decode cX7_ask 13 = .ok (.invokevirtual 89, 3) := by decide +kernel
theorem dX7_ask_16 : decode cX7_ask 16 = .ok (.ifCond .ne 5, 3) := by decide +kernel
theorem dX7_ask_19 : decode cX7_ask 19 = .ok (.iconst 0, 1) := by decide +kernel
theorem dX7_ask_20 : decode cX7_ask 20 = .ok (.ireturn, 1) := by decide +kernel
theorem dX7_ask_21 : decode cX7_ask 21 = .ok (.aload_n 0, 1) := by decide +kernel
theorem dX7_ask_22 : decode cX7_ask 22 = .ok (.invokevirtual 157, 3) := by decide +kernel
theorem dX7_ask_25 : decode cX7_ask 25 = .ok (.aload_n 0, 1) := by decide +kernel
theorem dX7_ask_26 : decode cX7_ask 26 = .ok (.iload_n 1, 1) := by decide +kernel
theorem dX7_ask_27 : decode cX7_ask 27 = .ok (.invokevirtual 166, 3) := by decide +kernel
theorem dX7_ask_30 : decode cX7_ask 30 = .ok (.ireturn, 1) := by decide +kernel
set_option maxRecDepth 20000 in
theorem ggX7_build_X7_isOrder : GoodIn wsX7_build wsX7_isOrder := goodIn_r _ [5, 6, 7, 8, 4, 9] (by decide +kernel) (by decide +kernel)
set_option maxRecDepth 20000 in
theorem gX7_build_X7_isOrder : GoodIn wsX7_build (va_wsS RX7 106 yX7_isOrder wsX7_isOrder) := goodIn_app (goodIn_of _ (by decide +kernel)) ggX7_build_X7_isOrder
set_option maxRecDepth 20000 in
theorem ggX7_build_X7_isIn : GoodIn wsX7_build wsX7_isIn := goodIn_r _ [12] (by decide +kernel) (by decide +kernel)
set_option maxRecDepth 20000 in
theorem gX7_build_X7_isIn : GoodIn wsX7_build (va_wsS RX7 75 yX7_isIn wsX7_isIn) := goodIn_app (goodIn_of _ (by decide +kernel)) ggX7_build_X7_isIn
set_option maxRecDepth 20000 in
theorem ggX7_build_X7_holds : GoodIn wsX7_build wsX7_holds := goodIn_r _ [16, 17, 31, 32, 33, 34, 35, 36, 37, 38, 39] (by decide +kernel) (by decide +kernel)
set_option maxRecDepth 20000 in
theorem gX7_build_X7_holds : GoodIn wsX7_build (wsV RX7 89 RX7 yX7_holds wsX7_holds) := goodIn_app (goodIn_of _ (by decide +kernel)) ggX7_build_X7_holds
set_option maxRecDepth 20000 in
theorem ggX7_build_X7_remember : GoodIn wsX7_build wsX7_remember := goodIn_r _ [21, 22, 23, 1, 31, 32, 33, 34, 35, 36, 37, 38, 39] (by decide +kernel) (by decide +kernel)
set_option maxRecDepth 20000 in
theorem gX7_build_X7_remember : GoodIn wsX7_build (wsV RX7 157 RX7 yX7_remember wsX7_remember) := goodIn_app (goodIn_of _ (by decide +kernel)) ggX7_build_X7_remember
set_option maxRecDepth 20000 in
theorem ggX7_build_X7_builds : GoodIn wsX7_build wsX7_builds := goodIn_r _ [27, 1, 28, 29, 4, 30, 31, 32, 33, 34, 35, 36, 37, 38, 39] (by decide +kernel) (by decide +kernel)
set_option maxRecDepth 20000 in
theorem gX7_build_X7_builds : GoodIn wsX7_build (wsV RX7 148 RX7 yX7_builds wsX7_builds) := goodIn_app (goodIn_of _ (by decide +kernel)) ggX7_build_X7_builds
theorem dX7_build_0 : decode cX7_build 0 = .ok (.aload_n 0, 1) := by decide +kernel
theorem dX7_build_1 : decode cX7_build 1 = .ok (.iload_n 1, 1) := by decide +kernel
theorem dX7_build_2 : decode cX7_build 2 = .ok (.invokestatic 106, 3) := by decide +kernel
theorem dX7_build_5 : decode cX7_build 5 = .ok (.ifCond .ne 7, 3) := by decide +kernel
theorem dX7_build_8 : decode cX7_build 8 = .ok (.iconst 1, 1) := by decide +kernel
theorem dX7_build_9 : decode cX7_build 9 = .ok (.goto 22, 3) := by decide +kernel
theorem dX7_build_12 : decode cX7_build 12 = .ok (.aload_n 0, 1) := by decide +kernel
theorem dX7_build_13 : decode cX7_build 13 = .ok (.getfield 7, 3) := by decide +kernel
theorem dX7_build_16 : decode cX7_build 16 = .ok (.bipush 41, 2) := by decide +kernel
theorem dX7_build_18 : decode cX7_build 18 = .ok (.iaload, 1) := by decide +kernel
theorem dX7_build_19 : decode cX7_build 19 = .ok (.iload_n 1, 1) := by decide +kernel
theorem dX7_build_20 : decode cX7_build 20 = .ok (.invokestatic 75, 3) := by decide +kernel
theorem dX7_build_23 : decode cX7_build 23 = .ok (.ifCond .eq 7, 3) := by decide +kernel
theorem dX7_build_26 : decode cX7_build 26 = .ok (.iconst 2, 1) := by decide +kernel
theorem dX7_build_27 : decode cX7_build 27 = .ok (.goto 4, 3) := by decide +kernel
theorem dX7_build_30 : decode cX7_build 30 = .ok (.iconst 0, 1) := by decide +kernel
theorem dX7_build_31 : decode cX7_build 31 = .ok (.invokevirtual 89, 3) := by decide +kernel
theorem dX7_build_34 : decode cX7_build 34 = .ok (.ifCond .ne 5, 3) := by decide +kernel
theorem dX7_build_37 : decode cX7_build 37 = .ok (.iconst 0, 1) := by decide +kernel
theorem dX7_build_38 : decode cX7_build 38 = .ok (.ireturn, 1) := by decide +kernel
theorem dX7_build_39 : decode cX7_build 39 = .ok (.aload_n 0, 1) := by decide +kernel
theorem dX7_build_40 : decode cX7_build 40 = .ok (.invokevirtual 157, 3) := by decide +kernel
theorem dX7_build_43 : decode cX7_build 43 = .ok (.aload_n 0, 1) := by decide +kernel
theorem dX7_build_44 : decode cX7_build 44 = .ok (.iload_n 1, 1) := by decide +kernel
theorem dX7_build_45 : decode cX7_build 45 = .ok (.invokevirtual 148, 3) := by decide +kernel
theorem dX7_build_48 : decode cX7_build 48 = .ok (.ireturn, 1) := by decide +kernel
set_option maxRecDepth 20000 in
theorem ggX7_drop_X7_isOrder : GoodIn wsX7_drop wsX7_isOrder := goodIn_r _ [5, 6, 7, 8, 4, 9] (by decide +kernel) (by decide +kernel)
set_option maxRecDepth 20000 in
theorem gX7_drop_X7_isOrder : GoodIn wsX7_drop (va_wsS RX7 106 yX7_isOrder wsX7_isOrder) := goodIn_app (goodIn_of _ (by decide +kernel)) ggX7_drop_X7_isOrder
set_option maxRecDepth 20000 in
theorem ggX7_drop_X7_isIn : GoodIn wsX7_drop wsX7_isIn := goodIn_r _ [12] (by decide +kernel) (by decide +kernel)
set_option maxRecDepth 20000 in
theorem gX7_drop_X7_isIn : GoodIn wsX7_drop (va_wsS RX7 75 yX7_isIn wsX7_isIn) := goodIn_app (goodIn_of _ (by decide +kernel)) ggX7_drop_X7_isIn
set_option maxRecDepth 20000 in
theorem ggX7_drop_X7_holds : GoodIn wsX7_drop wsX7_holds := goodIn_r _ [16, 17, 31, 32, 33, 34, 35, 36, 37, 38, 39] (by decide +kernel) (by decide +kernel)
set_option maxRecDepth 20000 in
theorem gX7_drop_X7_holds : GoodIn wsX7_drop (wsV RX7 89 RX7 yX7_holds wsX7_holds) := goodIn_app (goodIn_of _ (by decide +kernel)) ggX7_drop_X7_holds
set_option maxRecDepth 20000 in
theorem ggX7_drop_X7_remember : GoodIn wsX7_drop wsX7_remember := goodIn_r _ [21, 22, 23, 1, 31, 32, 33, 34, 35, 36, 37, 38, 39] (by decide +kernel) (by decide +kernel)
set_option maxRecDepth 20000 in
theorem gX7_drop_X7_remember : GoodIn wsX7_drop (wsV RX7 157 RX7 yX7_remember wsX7_remember) := goodIn_app (goodIn_of _ (by decide +kernel)) ggX7_drop_X7_remember
set_option maxRecDepth 20000 in
theorem ggX7_drop_X7_drops : GoodIn wsX7_drop wsX7_drops := goodIn_r _ [27, 1, 28, 29, 4, 30, 31, 32, 33, 34, 35, 36, 37, 38, 39] (by decide +kernel) (by decide +kernel)
set_option maxRecDepth 20000 in
theorem gX7_drop_X7_drops : GoodIn wsX7_drop (wsV RX7 151 RX7 yX7_drops wsX7_drops) := goodIn_app (goodIn_of _ (by decide +kernel)) ggX7_drop_X7_drops
theorem dX7_drop_0 : decode cX7_drop 0 = .ok (.aload_n 0, 1) := by decide +kernel
theorem dX7_drop_1 : decode cX7_drop 1 = .ok (.iload_n 1, 1) := by decide +kernel
theorem dX7_drop_2 : decode cX7_drop 2 = .ok (.invokestatic 106, 3) := by decide +kernel
theorem dX7_drop_5 : decode cX7_drop 5 = .ok (.ifCond .ne 7, 3) := by decide +kernel
theorem dX7_drop_8 : decode cX7_drop 8 = .ok (.iconst 1, 1) := by decide +kernel
theorem dX7_drop_9 : decode cX7_drop 9 = .ok (.goto 22, 3) := by decide +kernel
theorem dX7_drop_12 : decode cX7_drop 12 = .ok (.aload_n 0, 1) := by decide +kernel
theorem dX7_drop_13 : decode cX7_drop 13 = .ok (.getfield 7, 3) := by decide +kernel
theorem dX7_drop_16 : decode cX7_drop 16 = .ok (.bipush 41, 2) := by decide +kernel
theorem dX7_drop_18 : decode cX7_drop 18 = .ok (.iaload, 1) := by decide +kernel
theorem dX7_drop_19 : decode cX7_drop 19 = .ok (.iload_n 1, 1) := by decide +kernel
theorem dX7_drop_20 : decode cX7_drop 20 = .ok (.invokestatic 75, 3) := by decide +kernel
theorem dX7_drop_23 : decode cX7_drop 23 = .ok (.ifCond .ne 7, 3) := by decide +kernel
theorem dX7_drop_26 : decode cX7_drop 26 = .ok (.iconst 2, 1) := by decide +kernel
theorem dX7_drop_27 : decode cX7_drop 27 = .ok (.goto 4, 3) := by decide +kernel
theorem dX7_drop_30 : decode cX7_drop 30 = .ok (.iconst 0, 1) := by decide +kernel
theorem dX7_drop_31 : decode cX7_drop 31 = .ok (.invokevirtual 89, 3) := by decide +kernel
theorem dX7_drop_34 : decode cX7_drop 34 = .ok (.ifCond .ne 5, 3) := by decide +kernel
theorem dX7_drop_37 : decode cX7_drop 37 = .ok (.iconst 0, 1) := by decide +kernel
theorem dX7_drop_38 : decode cX7_drop 38 = .ok (.ireturn, 1) := by decide +kernel
theorem dX7_drop_39 : decode cX7_drop 39 = .ok (.aload_n 0, 1) := by decide +kernel
theorem dX7_drop_40 : decode cX7_drop 40 = .ok (.invokevirtual 157, 3) := by decide +kernel
theorem dX7_drop_43 : decode cX7_drop 43 = .ok (.aload_n 0, 1) := by decide +kernel
theorem dX7_drop_44 : decode cX7_drop 44 = .ok (.iload_n 1, 1) := by decide +kernel
theorem dX7_drop_45 : decode cX7_drop 45 = .ok (.invokevirtual 151, 3) := by decide +kernel
theorem dX7_drop_48 : decode cX7_drop 48 = .ok (.ireturn, 1) := by decide +kernel
set_option maxRecDepth 20000 in
theorem ggX7_tidy_X7_remember : GoodIn wsX7_tidy wsX7_remember := goodIn_r _ [6, 7, 8, 9, 84, 85, 86, 87, 88, 89, 90, 91, 92] (by decide +kernel) (by decide +kernel)
set_option maxRecDepth 20000 in
theorem gX7_tidy_X7_remember : GoodIn wsX7_tidy (wsV RX7 157 RX7 yX7_remember wsX7_remember) := goodIn_app (goodIn_of _ (by decide +kernel)) ggX7_tidy_X7_remember
set_option maxRecDepth 20000 in
theorem ggX7_tidy_X7_tidies : GoodIn wsX7_tidy wsX7_tidies := goodIn_r _ [13, 14, 15, 16, 5, 17, 9, 18, 19, 20, 21, 22, 23, 24, 25, 26, 27, 28, 29, 30, 31, 32, 33, 34, 35, 36, 37, 38, 39, 40, 41, 42, 43, 44, 45, 46, 47, 48, 49, 50, 51, 52, 53, 54, 55, 56, 57, 58, 59, 60, 61, 62, 63, 64, 65, 66, 67, 68, 69, 70, 71, 72, 73, 74, 75, 76, 77, 78, 79, 80, 81, 82, 83, 84, 85, 86, 87, 88, 89, 90, 91, 92] (by decide +kernel) (by decide +kernel)
set_option maxRecDepth 20000 in
theorem gX7_tidy_X7_tidies : GoodIn wsX7_tidy (wsV RX7 169 RX7 yX7_tidies wsX7_tidies) := goodIn_app (goodIn_of _ (by decide +kernel)) ggX7_tidy_X7_tidies
theorem dX7_tidy_0 : decode cX7_tidy 0 = .ok (.aload_n 0, 1) := by decide +kernel
theorem dX7_tidy_1 : decode cX7_tidy 1 = .ok (.iconst 0, 1) := by decide +kernel
theorem dX7_tidy_2 : decode cX7_tidy 2 = .ok (.putfield 30, 3) := by decide +kernel
theorem dX7_tidy_5 : decode cX7_tidy 5 = .ok (.aload_n 0, 1) := by decide +kernel
theorem dX7_tidy_6 : decode cX7_tidy 6 = .ok (.invokevirtual 157, 3) := by decide +kernel
theorem dX7_tidy_9 : decode cX7_tidy 9 = .ok (.aload_n 0, 1) := by decide +kernel
theorem dX7_tidy_10 : decode cX7_tidy 10 = .ok (.invokevirtual 169, 3) := by decide +kernel
theorem dX7_tidy_13 : decode cX7_tidy 13 = .ok (.ireturn, 1) := by decide +kernel
set_option maxRecDepth 20000 in
theorem ggX7_setWeight_X7_in : GoodIn wsX7_setWeight wsX7_in := goodIn_r _ [6] (by decide +kernel) (by decide +kernel)
set_option maxRecDepth 20000 in
theorem gX7_setWeight_X7_in : GoodIn wsX7_setWeight (va_wsS RX7 53 yX7_in wsX7_in) := goodIn_app (goodIn_of _ (by decide +kernel)) ggX7_setWeight_X7_in
set_option maxRecDepth 20000 in
theorem ggX7_setWeight_X7_holds : GoodIn wsX7_setWeight wsX7_holds := goodIn_r _ [10, 11, 18, 19, 20, 21, 22, 23, 24, 25, 26] (by decide +kernel) (by decide +kernel)
set_option maxRecDepth 20000 in
theorem gX7_setWeight_X7_holds : GoodIn wsX7_setWeight (wsV RX7 89 RX7 yX7_holds wsX7_holds) := goodIn_app (goodIn_of _ (by decide +kernel)) ggX7_setWeight_X7_holds
set_option maxRecDepth 20000 in
theorem ggX7_setWeight_X7_remember : GoodIn wsX7_setWeight wsX7_remember := goodIn_r _ [15, 16, 17, 2, 18, 19, 20, 21, 22, 23, 24, 25, 26] (by decide +kernel) (by decide +kernel)
set_option maxRecDepth 20000 in
theorem gX7_setWeight_X7_remember : GoodIn wsX7_setWeight (wsV RX7 157 RX7 yX7_remember wsX7_remember) := goodIn_app (goodIn_of _ (by decide +kernel)) ggX7_setWeight_X7_remember
theorem dX7_setWeight_0 : decode cX7_setWeight 0 = .ok (.aload_n 0, 1) := by decide +kernel
theorem dX7_setWeight_1 : decode cX7_setWeight 1 = .ok (.iload_n 1, 1) := by decide +kernel
theorem dX7_setWeight_2 : decode cX7_setWeight 2 = .ok (.i2l, 1) := by decide +kernel
theorem dX7_setWeight_3 : decode cX7_setWeight 3 = .ok (.lconst 0, 1) := by decide +kernel
theorem dX7_setWeight_4 : decode cX7_setWeight 4 = .ok (.ldc2_w 173, 3) := by decide +kernel
theorem dX7_setWeight_7 : decode cX7_setWeight 7 = .ok (.invokestatic 53, 3) := by decide +kernel
theorem dX7_setWeight_10 : decode cX7_setWeight 10 = .ok (.ifCond .eq 7, 3) := by decide +kernel
theorem dX7_setWeight_13 : decode cX7_setWeight 13 = .ok (.iconst 0, 1) := by decide +kernel
theorem dX7_setWeight_14 : decode cX7_setWeight 14 = .ok (.goto 4, 3) := by decide +kernel
theorem dX7_setWeight_17 : decode cX7_setWeight 17 = .ok (.iconst 1, 1) := by decide +kernel
theorem dX7_setWeight_18 : decode cX7_setWeight 18 = .ok (.invokevirtual 89, 3) := by decide +kernel
theorem dX7_setWeight_21 : decode cX7_setWeight 21 = .ok (.ifCond .ne 5, 3) := by decide +kernel
theorem dX7_setWeight_24 : decode cX7_setWeight 24 = .ok (.iconst 0, 1) := by decide +kernel
theorem dX7_setWeight_25 : decode cX7_setWeight 25 = .ok (.ireturn, 1) := by decide +kernel
theorem dX7_setWeight_26 : decode cX7_setWeight 26 = .ok (.aload_n 0, 1) := by decide +kernel
theorem dX7_setWeight_27 : decode cX7_setWeight 27 = .ok (.invokevirtual 157, 3) := by decide +kernel
theorem dX7_setWeight_30 : decode cX7_setWeight 30 = .ok (.aload_n 0, 1) := by decide +kernel
theorem dX7_setWeight_31 : decode cX7_setWeight 31 = .ok (.getfield 7, 3) := by decide +kernel
theorem dX7_setWeight_34 : decode cX7_setWeight 34 = .ok (.bipush 59, 2) := by decide +kernel
theorem dX7_setWeight_36 : decode cX7_setWeight 36 = .ok (.iaload, 1) := by decide +kernel
theorem dX7_setWeight_37 : decode cX7_setWeight 37 = .ok (.istore_n 2, 1) := by decide +kernel
theorem dX7_setWeight_38 : decode cX7_setWeight 38 = .ok (.aload_n 0, 1) := by decide +kernel
theorem dX7_setWeight_39 : decode cX7_setWeight 39 = .ok (.getfield 7, 3) := by decide +kernel
theorem dX7_setWeight_42 : decode cX7_setWeight 42 = .ok (.bipush 59, 2) := by decide +kernel
theorem dX7_setWeight_44 : decode cX7_setWeight 44 = .ok (.iload_n 1, 1) := by decide +kernel
theorem dX7_setWeight_45 : decode cX7_setWeight 45 = .ok (.iastore, 1) := by decide +kernel
theorem dX7_setWeight_46 : decode cX7_setWeight 46 = .ok (.iload_n 2, 1) := by decide +kernel
theorem dX7_setWeight_47 : decode cX7_setWeight 47 = .ok (.ireturn, 1) := by decide +kernel
set_option maxRecDepth 20000 in
theorem ggX7_undo_X7_holds : GoodIn wsX7_undo wsX7_holds := goodIn_r _ [8, 9, 10, 11, 12, 13, 14, 15, 16, 17, 18] (by decide +kernel) (by decide +kernel)
set_option maxRecDepth 20000 in
theorem gX7_undo_X7_holds : GoodIn wsX7_undo (wsV RX7 89 RX7 yX7_holds wsX7_holds) := goodIn_app (goodIn_of _ (by decide +kernel)) ggX7_undo_X7_holds
theorem dX7_undo_0 : decode cX7_undo 0 = .ok (.aload_n 0, 1) := by decide +kernel
theorem dX7_undo_1 : decode cX7_undo 1 = .ok (.aload_n 0, 1) := by decide +kernel
theorem dX7_undo_2 : decode cX7_undo 2 = .ok (.getfield 34, 3) := by decide +kernel
theorem dX7_undo_5 : decode cX7_undo 5 = .ok (.ifCond .le 7, 3) := by decide +kernel
theorem dX7_undo_8 : decode cX7_undo 8 = .ok (.iconst 0, 1) := by decide +kernel
theorem dX7_undo_9 : decode cX7_undo 9 = .ok (.goto 4, 3) := by decide +kernel
theorem dX7_undo_12 : decode cX7_undo 12 = .ok (.iconst 1, 1) := by decide +kernel
theorem dX7_undo_13 : decode cX7_undo 13 = .ok (.invokevirtual 89, 3) := by decide +kernel
theorem dX7_undo_16 : decode cX7_undo 16 = .ok (.ifCond .ne 5, 3) := by decide +kernel
theorem dX7_undo_19 : decode cX7_undo 19 = .ok (.iconst 0, 1) := by decide +kernel
theorem dX7_undo_20 : decode cX7_undo 20 = .ok (.ireturn, 1) := by decide +kernel
theorem dX7_undo_21 : decode cX7_undo 21 = .ok (.aload_n 0, 1) := by decide +kernel
theorem dX7_undo_22 : decode cX7_undo 22 = .ok (.dup, 1) := by decide +kernel
theorem dX7_undo_23 : decode cX7_undo 23 = .ok (.getfield 34, 3) := by decide +kernel
theorem dX7_undo_26 : decode cX7_undo 26 = .ok (.iconst 1, 1) := by decide +kernel
theorem dX7_undo_27 : decode cX7_undo 27 = .ok (.isub, 1) := by decide +kernel
theorem dX7_undo_28 : decode cX7_undo 28 = .ok (.putfield 34, 3) := by decide +kernel
theorem dX7_undo_31 : decode cX7_undo 31 = .ok (.iconst 0, 1) := by decide +kernel
theorem dX7_undo_32 : decode cX7_undo 32 = .ok (.istore_n 1, 1) := by decide +kernel
theorem dX7_undo_33 : decode cX7_undo 33 = .ok (.iload_n 1, 1) := by decide +kernel
theorem dX7_undo_34 : decode cX7_undo 34 = .ok (.bipush 60, 2) := by decide +kernel
theorem dX7_undo_36 : decode cX7_undo 36 = .ok (.if_icmp .ge 29, 3) := by decide +kernel
theorem dX7_undo_39 : decode cX7_undo 39 = .ok (.aload_n 0, 1) := by decide +kernel
theorem dX7_undo_40 : decode cX7_undo 40 = .ok (.getfield 7, 3) := by decide +kernel
theorem dX7_undo_43 : decode cX7_undo 43 = .ok (.iload_n 1, 1) := by decide +kernel
theorem dX7_undo_44 : decode cX7_undo 44 = .ok (.aload_n 0, 1) := by decide +kernel
theorem dX7_undo_45 : decode cX7_undo 45 = .ok (.getfield 16, 3) := by decide +kernel
theorem dX7_undo_48 : decode cX7_undo 48 = .ok (.bipush 60, 2) := by decide +kernel
theorem dX7_undo_50 : decode cX7_undo 50 = .ok (.aload_n 0, 1) := by decide +kernel
theorem dX7_undo_51 : decode cX7_undo 51 = .ok (.getfield 34, 3) := by decide +kernel
theorem dX7_undo_54 : decode cX7_undo 54 = .ok (.imul, 1) := by decide +kernel
theorem dX7_undo_55 : decode cX7_undo 55 = .ok (.iload_n 1, 1) := by decide +kernel
theorem dX7_undo_56 : decode cX7_undo 56 = .ok (.iadd, 1) := by decide +kernel
theorem dX7_undo_57 : decode cX7_undo 57 = .ok (.iaload, 1) := by decide +kernel
theorem dX7_undo_58 : decode cX7_undo 58 = .ok (.iastore, 1) := by decide +kernel
theorem dX7_undo_59 : decode cX7_undo 59 = .ok (.iinc 1 1, 3) := by decide +kernel
theorem dX7_undo_62 : decode cX7_undo 62 = .ok (.goto (-29), 3) := by decide +kernel
theorem dX7_undo_65 : decode cX7_undo 65 = .ok (.aload_n 0, 1) := by decide +kernel
theorem dX7_undo_66 : decode cX7_undo 66 = .ok (.getfield 34, 3) := by decide +kernel
theorem dX7_undo_69 : decode cX7_undo 69 = .ok (.ireturn, 1) := by decide +kernel
set_option maxRecDepth 20000 in
theorem ggX7_sumBy_X7_costOf : GoodIn wsX7_sumBy wsX7_costOf := goodIn_r _ [6, 1, 7, 8, 9, 5, 10, 11, 12, 13, 14, 15, 16, 17, 18, 19, 20, 21, 22, 23, 24, 25, 26, 27, 28, 29, 30, 31, 32, 33, 34, 35, 36, 37, 38, 39, 40, 41, 42, 43, 44, 45, 46, 47, 48, 49, 50, 51, 52, 53, 54] (by decide +kernel) (by decide +kernel)
set_option maxRecDepth 20000 in
theorem gX7_sumBy_X7_costOf : GoodIn wsX7_sumBy (wsV RX7 116 RX7 yX7_costOf wsX7_costOf) := goodIn_app (goodIn_of _ (by decide +kernel)) ggX7_sumBy_X7_costOf
theorem dX7_sumBy_0 : decode cX7_sumBy 0 = .ok (.iconst 0, 1) := by decide +kernel
theorem dX7_sumBy_1 : decode cX7_sumBy 1 = .ok (.istore_n 2, 1) := by decide +kernel
theorem dX7_sumBy_2 : decode cX7_sumBy 2 = .ok (.iconst 0, 1) := by decide +kernel
theorem dX7_sumBy_3 : decode cX7_sumBy 3 = .ok (.istore_n 3, 1) := by decide +kernel
theorem dX7_sumBy_4 : decode cX7_sumBy 4 = .ok (.iload_n 3, 1) := by decide +kernel
theorem dX7_sumBy_5 : decode cX7_sumBy 5 = .ok (.aload_n 0, 1) := by decide +kernel
theorem dX7_sumBy_6 : decode cX7_sumBy 6 = .ok (.getfield 7, 3) := by decide +kernel
theorem dX7_sumBy_9 : decode cX7_sumBy 9 = .ok (.bipush 46, 2) := by decide +kernel
theorem dX7_sumBy_11 : decode cX7_sumBy 11 = .ok (.iaload, 1) := by decide +kernel
theorem dX7_sumBy_12 : decode cX7_sumBy 12 = .ok (.if_icmp .ge 26, 3) := by decide +kernel
theorem dX7_sumBy_15 : decode cX7_sumBy 15 = .ok (.iload_n 2, 1) := by decide +kernel
theorem dX7_sumBy_16 : decode cX7_sumBy 16 = .ok (.aload_n 0, 1) := by decide +kernel
theorem dX7_sumBy_17 : decode cX7_sumBy 17 = .ok (.aload_n 0, 1) := by decide +kernel
theorem dX7_sumBy_18 : decode cX7_sumBy 18 = .ok (.getfield 7, 3) := by decide +kernel
theorem dX7_sumBy_21 : decode cX7_sumBy 21 = .ok (.bipush 47, 2) := by decide +kernel
theorem dX7_sumBy_23 : decode cX7_sumBy 23 = .ok (.iload_n 3, 1) := by decide +kernel
theorem dX7_sumBy_24 : decode cX7_sumBy 24 = .ok (.iadd, 1) := by decide +kernel
theorem dX7_sumBy_25 : decode cX7_sumBy 25 = .ok (.iaload, 1) := by decide +kernel
theorem dX7_sumBy_26 : decode cX7_sumBy 26 = .ok (.iload_n 1, 1) := by decide +kernel
theorem dX7_sumBy_27 : decode cX7_sumBy 27 = .ok (.invokevirtual 116, 3) := by decide +kernel
theorem dX7_sumBy_30 : decode cX7_sumBy 30 = .ok (.iadd, 1) := by decide +kernel
theorem dX7_sumBy_31 : decode cX7_sumBy 31 = .ok (.istore_n 2, 1) := by decide +kernel
theorem dX7_sumBy_32 : decode cX7_sumBy 32 = .ok (.iinc 3 1, 3) := by decide +kernel
theorem dX7_sumBy_35 : decode cX7_sumBy 35 = .ok (.goto (-31), 3) := by decide +kernel
theorem dX7_sumBy_38 : decode cX7_sumBy 38 = .ok (.iload_n 2, 1) := by decide +kernel
theorem dX7_sumBy_39 : decode cX7_sumBy 39 = .ok (.ireturn, 1) := by decide +kernel
set_option maxRecDepth 20000 in
theorem ggX7_dues_X7_look : GoodIn wsX7_dues wsX7_look := goodIn_r _ [5] (by decide +kernel) (by decide +kernel)
set_option maxRecDepth 20000 in
theorem gX7_dues_X7_look : GoodIn wsX7_dues (va_wsS RX7 65 yX7_look wsX7_look) := goodIn_app (goodIn_of _ (by decide +kernel)) ggX7_dues_X7_look
theorem dX7_dues_0 : decode cX7_dues 0 = .ok (.aload_n 0, 1) := by decide +kernel
theorem dX7_dues_1 : decode cX7_dues 1 = .ok (.getfield 7, 3) := by decide +kernel
theorem dX7_dues_4 : decode cX7_dues 4 = .ok (.bipush 59, 2) := by decide +kernel
theorem dX7_dues_6 : decode cX7_dues 6 = .ok (.iaload, 1) := by decide +kernel
theorem dX7_dues_7 : decode cX7_dues 7 = .ok (.aload_n 0, 1) := by decide +kernel
theorem dX7_dues_8 : decode cX7_dues 8 = .ok (.getfield 7, 3) := by decide +kernel
theorem dX7_dues_11 : decode cX7_dues 11 = .ok (.iconst 0, 1) := by decide +kernel
theorem dX7_dues_12 : decode cX7_dues 12 = .ok (.iaload, 1) := by decide +kernel
theorem dX7_dues_13 : decode cX7_dues 13 = .ok (.invokestatic 65, 3) := by decide +kernel
theorem dX7_dues_16 : decode cX7_dues 16 = .ok (.iconst 1, 1) := by decide +kernel
theorem dX7_dues_17 : decode cX7_dues 17 = .ok (.iadd, 1) := by decide +kernel
theorem dX7_dues_18 : decode cX7_dues 18 = .ok (.imul, 1) := by decide +kernel
theorem dX7_dues_19 : decode cX7_dues 19 = .ok (.ireturn, 1) := by decide +kernel
set_option maxRecDepth 20000 in
theorem ggX7_valueOf_X7_sumBy : GoodIn wsX7_valueOf wsX7_sumBy := goodIn_r _ [6, 1, 7, 8, 9, 5, 10, 11, 12, 13, 14, 15, 16, 17, 18, 19, 20, 21, 22, 23, 24, 25, 26, 27, 28, 29, 30, 31, 32, 33, 34, 35, 36, 37, 38, 39, 40, 41, 42, 43, 44, 45, 46, 47, 48, 49, 54, 55, 56, 57, 58, 59, 60, 61, 62] (by decide +kernel) (by decide +kernel)
set_option maxRecDepth 20000 in
theorem gX7_valueOf_X7_sumBy : GoodIn wsX7_valueOf (wsV RX7 175 RX7 yX7_sumBy wsX7_sumBy) := goodIn_app (goodIn_of _ (by decide +kernel)) ggX7_valueOf_X7_sumBy
set_option maxRecDepth 20000 in
theorem ggX7_valueOf_X7_dues : GoodIn wsX7_valueOf wsX7_dues := goodIn_r _ [53, 1, 34, 35, 5, 36, 54, 55, 56, 57, 58, 59, 60, 61, 62] (by decide +kernel) (by decide +kernel)
set_option maxRecDepth 20000 in
theorem gX7_valueOf_X7_dues : GoodIn wsX7_valueOf (wsV RX7 178 RX7 yX7_dues wsX7_dues) := goodIn_app (goodIn_of _ (by decide +kernel)) ggX7_valueOf_X7_dues
theorem dX7_valueOf_0 : decode cX7_valueOf 0 = .ok (.iconst 1, 1) := by decide +kernel
theorem dX7_valueOf_1 : decode cX7_valueOf 1 = .ok (.iload_n 1, 1) := by decide +kernel
theorem dX7_valueOf_2 : decode cX7_valueOf 2 = .ok (.ishl, 1) := by decide +kernel
theorem dX7_valueOf_3 : decode cX7_valueOf 3 = .ok (.istore_n 2, 1) := by decide +kernel
theorem dX7_valueOf_4 : decode cX7_valueOf 4 = .ok (.aload_n 0, 1) := by decide +kernel
theorem dX7_valueOf_5 : decode cX7_valueOf 5 = .ok (.aload_n 0, 1) := by decide +kernel
theorem dX7_valueOf_6 : decode cX7_valueOf 6 = .ok (.getfield 7, 3) := by decide +kernel
theorem dX7_valueOf_9 : decode cX7_valueOf 9 = .ok (.bipush 41, 2) := by decide +kernel
theorem dX7_valueOf_11 : decode cX7_valueOf 11 = .ok (.iaload, 1) := by decide +kernel
theorem dX7_valueOf_12 : decode cX7_valueOf 12 = .ok (.iload_n 2, 1) := by decide +kernel
theorem dX7_valueOf_13 : decode cX7_valueOf 13 = .ok (.iconst (-1), 1) := by decide +kernel
theorem dX7_valueOf_14 : decode cX7_valueOf 14 = .ok (.ixor, 1) := by decide +kernel
theorem dX7_valueOf_15 : decode cX7_valueOf 15 = .ok (.iand, 1) := by decide +kernel
theorem dX7_valueOf_16 : decode cX7_valueOf 16 = .ok (.invokevirtual 175, 3) := by decide +kernel
theorem dX7_valueOf_19 : decode cX7_valueOf 19 = .ok (.aload_n 0, 1) := by decide +kernel
theorem dX7_valueOf_20 : decode cX7_valueOf 20 = .ok (.aload_n 0, 1) := by decide +kernel
theorem dX7_valueOf_21 : decode cX7_valueOf 21 = .ok (.getfield 7, 3) := by decide +kernel
theorem dX7_valueOf_24 : decode cX7_valueOf 24 = .ok (.bipush 41, 2) := by decide +kernel
theorem dX7_valueOf_26 : decode cX7_valueOf 26 = .ok (.iaload, 1) := by decide +kernel
theorem dX7_valueOf_27 : decode cX7_valueOf 27 = .ok (.iload_n 2, 1) := by decide +kernel
theorem dX7_valueOf_28 : decode cX7_valueOf 28 = .ok (.ior, 1) := by decide +kernel
theorem dX7_valueOf_29 : decode cX7_valueOf 29 = .ok (.invokevirtual 175, 3) := by decide +kernel
theorem dX7_valueOf_32 : decode cX7_valueOf 32 = .ok (.isub, 1) := by decide +kernel
theorem dX7_valueOf_33 : decode cX7_valueOf 33 = .ok (.aload_n 0, 1) := by decide +kernel
theorem dX7_valueOf_34 : decode cX7_valueOf 34 = .ok (.invokevirtual 178, 3) := by decide +kernel
theorem dX7_valueOf_37 : decode cX7_valueOf 37 = .ok (.isub, 1) := by decide +kernel
theorem dX7_valueOf_38 : decode cX7_valueOf 38 = .ok (.ireturn, 1) := by decide +kernel
set_option maxRecDepth 20000 in
theorem ggX7_advice_X7_isIn : GoodIn wsX7_advice wsX7_isIn := goodIn_r _ [5] (by decide +kernel) (by decide +kernel)
set_option maxRecDepth 20000 in
theorem gX7_advice_X7_isIn : GoodIn wsX7_advice (va_wsS RX7 75 yX7_isIn wsX7_isIn) := goodIn_app (goodIn_of _ (by decide +kernel)) ggX7_advice_X7_isIn
set_option maxRecDepth 20000 in
theorem ggX7_advice_X7_valueOf : GoodIn wsX7_advice wsX7_valueOf := goodIn_r _ [9, 1, 10, 11, 12, 4, 13, 14, 15, 16, 17, 18, 19, 20, 21, 2, 3, 5, 22, 23, 24, 25, 26, 27, 28, 29, 30, 31, 32, 33, 34, 35, 36, 37, 38, 39, 40, 41, 42, 43, 44, 45, 46, 47, 48, 49, 50, 51, 52, 53, 54, 55, 56, 57, 58, 59, 60, 61, 62, 63, 64, 65, 66] (by decide +kernel) (by decide +kernel)
set_option maxRecDepth 20000 in
theorem gX7_advice_X7_valueOf : GoodIn wsX7_advice (wsV RX7 181 RX7 yX7_valueOf wsX7_valueOf) := goodIn_app (goodIn_of _ (by decide +kernel)) ggX7_advice_X7_valueOf
theorem dX7_advice_0 : decode cX7_advice 0 = .ok (.iconst (-1), 1) := by decide +kernel
theorem dX7_advice_1 : decode cX7_advice 1 = .ok (.istore_n 2, 1) := by decide +kernel
theorem dX7_advice_2 : decode cX7_advice 2 = .ok (.iconst 0, 1) := by decide +kernel
theorem dX7_advice_3 : decode cX7_advice 3 = .ok (.istore_n 3, 1) := by decide +kernel
theorem dX7_advice_4 : decode cX7_advice 4 = .ok (.iconst 0, 1) := by decide +kernel
theorem dX7_advice_5 : decode cX7_advice 5 = .ok (.istore 4, 2) := by decide +kernel
theorem dX7_advice_7 : decode cX7_advice 7 = .ok (.iload 4, 2) := by decide +kernel
theorem dX7_advice_9 : decode cX7_advice 9 = .ok (.bipush 6, 2) := by decide +kernel
theorem dX7_advice_11 : decode cX7_advice 11 = .ok (.if_icmp .ge 88, 3) := by decide +kernel
theorem dX7_advice_14 : decode cX7_advice 14 = .ok (.aload_n 0, 1) := by decide +kernel
theorem dX7_advice_15 : decode cX7_advice 15 = .ok (.getfield 7, 3) := by decide +kernel
theorem dX7_advice_18 : decode cX7_advice 18 = .ok (.bipush 41, 2) := by decide +kernel
theorem dX7_advice_20 : decode cX7_advice 20 = .ok (.iaload, 1) := by decide +kernel
theorem dX7_advice_21 : decode cX7_advice 21 = .ok (.iload 4, 2) := by decide +kernel
theorem dX7_advice_23 : decode cX7_advice 23 = .ok (.invokestatic 75, 3) := by decide +kernel
theorem dX7_advice_26 : decode cX7_advice 26 = .ok (.iload_n 1, 1) := by decide +kernel
theorem dX7_advice_27 : decode cX7_advice 27 = .ok (.if_icmp .eq 66, 3) := by decide +kernel
theorem dX7_advice_30 : decode cX7_advice 30 = .ok (.aload_n 0, 1) := by decide +kernel
theorem dX7_advice_31 : decode cX7_advice 31 = .ok (.iload 4, 2) := by decide +kernel
theorem dX7_advice_33 : decode cX7_advice 33 = .ok (.invokevirtual 181, 3) := by decide +kernel
theorem dX7_advice_36 : decode cX7_advice 36 = .ok (.istore 5, 2) := by decide +kernel
theorem dX7_advice_38 : decode cX7_advice 38 = .ok (.iload_n 1, 1) := by decide +kernel
theorem dX7_advice_39 : decode cX7_advice 39 = .ok (.ifCond .eq 17, 3) := by decide +kernel
theorem dX7_advice_42 : decode cX7_advice 42 = .ok (.iload 5, 2) := by decide +kernel
theorem dX7_advice_44 : decode cX7_advice 44 = .ok (.iload_n 3, 1) := by decide +kernel
theorem dX7_advice_45 : decode cX7_advice 45 = .ok (.if_icmp .le 7, 3) := by decide +kernel
theorem dX7_advice_48 : decode cX7_advice 48 = .ok (.iconst 1, 1) := by decide +kernel
theorem dX7_advice_49 : decode cX7_advice 49 = .ok (.goto 18, 3) := by decide +kernel
theorem dX7_advice_52 : decode cX7_advice 52 = .ok (.iconst 0, 1) := by decide +kernel
theorem dX7_advice_53 : decode cX7_advice 53 = .ok (.goto 14, 3) := by decide +kernel
theorem dX7_advice_56 : decode cX7_advice 56 = .ok (.iload 5, 2) := by decide +kernel
theorem dX7_advice_58 : decode cX7_advice 58 = .ok (.iload_n 3, 1) := by decide +kernel
theorem dX7_advice_59 : decode cX7_advice 59 = .ok (.if_icmp .ge 7, 3) := by decide +kernel
theorem dX7_advice_62 : decode cX7_advice 62 = .ok (.iconst 1, 1) := by decide +kernel
theorem dX7_advice_63 : decode cX7_advice 63 = .ok (.goto 4, 3) := by decide +kernel
theorem dX7_advice_66 : decode cX7_advice 66 = .ok (.iconst 0, 1) := by decide +kernel
theorem dX7_advice_67 : decode cX7_advice 67 = .ok (.istore 6, 2) := by decide +kernel
theorem dX7_advice_69 : decode cX7_advice 69 = .ok (.iload 6, 2) := by decide +kernel
theorem dX7_advice_71 : decode cX7_advice 71 = .ok (.ifCond .eq 8, 3) := by decide +kernel
theorem dX7_advice_74 : decode cX7_advice 74 = .ok (.iload 4, 2) := by decide +kernel
theorem dX7_advice_76 : decode cX7_advice 76 = .ok (.goto 4, 3) := by decide +kernel
theorem dX7_advice_79 : decode cX7_advice 79 = .ok (.iload_n 2, 1) := by decide +kernel
theorem dX7_advice_80 : decode cX7_advice 80 = .ok (.istore_n 2, 1) := by decide +kernel
theorem dX7_advice_81 : decode cX7_advice 81 = .ok (.iload 6, 2) := by decide +kernel
theorem dX7_advice_83 : decode cX7_advice 83 = .ok (.ifCond .eq 8, 3) := by decide +kernel
theorem dX7_advice_86 : decode cX7_advice 86 = .ok (.iload 5, 2) := by decide +kernel
theorem dX7_advice_88 : decode cX7_advice 88 = .ok (.goto 4, 3) := by decide +kernel
theorem dX7_advice_91 : decode cX7_advice 91 = .ok (.iload_n 3, 1) := by decide +kernel
theorem dX7_advice_92 : decode cX7_advice 92 = .ok (.istore_n 3, 1) := by decide +kernel
theorem dX7_advice_93 : decode cX7_advice 93 = .ok (.iinc 4 1, 3) := by decide +kernel
theorem dX7_advice_96 : decode cX7_advice 96 = .ok (.goto (-89), 3) := by decide +kernel
theorem dX7_advice_99 : decode cX7_advice 99 = .ok (.iload_n 2, 1) := by decide +kernel
theorem dX7_advice_100 : decode cX7_advice 100 = .ok (.ireturn, 1) := by decide +kernel
set_option maxRecDepth 20000 in
theorem ggX7_value_X7_isOrder : GoodIn wsX7_value wsX7_isOrder := goodIn_r _ [4, 5, 6, 7, 3, 8] (by decide +kernel) (by decide +kernel)
set_option maxRecDepth 20000 in
theorem gX7_value_X7_isOrder : GoodIn wsX7_value (va_wsS RX7 106 yX7_isOrder wsX7_isOrder) := goodIn_app (goodIn_of _ (by decide +kernel)) ggX7_value_X7_isOrder
set_option maxRecDepth 20000 in
theorem ggX7_value_X7_holds : GoodIn wsX7_value wsX7_holds := goodIn_r _ [12, 13, 70, 71, 72, 73, 74, 75, 76, 77, 78] (by decide +kernel) (by decide +kernel)
set_option maxRecDepth 20000 in
theorem gX7_value_X7_holds : GoodIn wsX7_value (wsV RX7 89 RX7 yX7_holds wsX7_holds) := goodIn_app (goodIn_of _ (by decide +kernel)) ggX7_value_X7_holds
set_option maxRecDepth 20000 in
theorem ggX7_value_X7_valueOf : GoodIn wsX7_value wsX7_valueOf := goodIn_r _ [17, 18, 19, 20, 21, 3, 22, 23, 24, 25, 26, 27, 28, 29, 30, 31, 32, 33, 34, 35, 36, 37, 38, 39, 40, 41, 42, 43, 44, 45, 46, 47, 48, 49, 50, 51, 52, 53, 54, 55, 56, 57, 58, 59, 60, 61, 62, 63, 64, 65, 66, 67, 68, 69, 70, 71, 72, 73, 74, 75, 76, 77, 78] (by decide +kernel) (by decide +kernel)
set_option maxRecDepth 20000 in
theorem gX7_value_X7_valueOf : GoodIn wsX7_value (wsV RX7 181 RX7 yX7_valueOf wsX7_valueOf) := goodIn_app (goodIn_of _ (by decide +kernel)) ggX7_value_X7_valueOf
theorem dX7_value_0 : decode cX7_value 0 = .ok (.aload_n 0, 1) := by decide +kernel
theorem dX7_value_1 : decode cX7_value 1 = .ok (.iload_n 1, 1) := by decide +kernel
theorem dX7_value_2 : decode cX7_value 2 = .ok (.invokestatic 106, 3) := by decide +kernel
theorem dX7_value_5 : decode cX7_value 5 = .ok (.ifCond .eq 7, 3) := by decide +kernel
theorem dX7_value_8 : decode cX7_value 8 = .ok (.iconst 0, 1) := by decide +kernel
theorem dX7_value_9 : decode cX7_value 9 = .ok (.goto 4, 3) := by decide +kernel
theorem dX7_value_12 : decode cX7_value 12 = .ok (.iconst 1, 1) := by decide +kernel
theorem dX7_value_13 : decode cX7_value 13 = .ok (.invokevirtual 89, 3) := by decide +kernel
theorem dX7_value_16 : decode cX7_value 16 = .ok (.ifCond .eq 11, 3) := by decide +kernel
theorem dX7_value_19 : decode cX7_value 19 = .ok (.aload_n 0, 1) := by decide +kernel
theorem dX7_value_20 : decode cX7_value 20 = .ok (.iload_n 1, 1) := by decide +kernel
theorem dX7_value_21 : decode cX7_value 21 = .ok (.invokevirtual 181, 3) := by decide +kernel
theorem dX7_value_24 : decode cX7_value 24 = .ok (.goto 4, 3) := by decide +kernel
theorem dX7_value_27 : decode cX7_value 27 = .ok (.iconst 0, 1) := by decide +kernel
theorem dX7_value_28 : decode cX7_value 28 = .ok (.ireturn, 1) := by decide +kernel
set_option maxRecDepth 20000 in
theorem ggX7_advised_X7_advice : GoodIn wsX7_advised wsX7_advice := goodIn_r _ [6, 7, 8, 9, 5, 10, 11, 12, 13, 14, 15, 16, 17, 18, 19, 20, 21, 22, 23, 24, 25, 26, 27, 28, 29, 30, 31, 32, 33, 34, 35, 36, 37, 38, 39, 40, 41, 42, 43, 44, 45, 46, 47, 48, 49, 50, 51, 52, 53, 54, 55, 56, 57, 58, 59, 60, 61, 62, 63, 64, 65, 66, 67, 68, 69, 70, 71] (by decide +kernel) (by decide +kernel)
set_option maxRecDepth 20000 in
theorem gX7_advised_X7_advice : GoodIn wsX7_advised (wsV RX7 145 RX7 yX7_advice wsX7_advice) := goodIn_app (goodIn_of _ (by decide +kernel)) ggX7_advised_X7_advice
theorem dX7_advised_0 : decode cX7_advised 0 = .ok (.aload_n 0, 1) := by decide +kernel
theorem dX7_advised_1 : decode cX7_advised 1 = .ok (.iconst 0, 1) := by decide +kernel
theorem dX7_advised_2 : decode cX7_advised 2 = .ok (.putfield 30, 3) := by decide +kernel
theorem dX7_advised_5 : decode cX7_advised 5 = .ok (.aload_n 0, 1) := by decide +kernel
theorem dX7_advised_6 : decode cX7_advised 6 = .ok (.iconst 1, 1) := by decide +kernel
theorem dX7_advised_7 : decode cX7_advised 7 = .ok (.invokevirtual 145, 3) := by decide +kernel
theorem dX7_advised_10 : decode cX7_advised 10 = .ok (.ireturn, 1) := by decide +kernel
set_option maxRecDepth 20000 in
theorem ggX7_spare_X7_advice : GoodIn wsX7_spare wsX7_advice := goodIn_r _ [6, 7, 8, 9, 5, 10, 11, 12, 13, 14, 15, 16, 17, 18, 19, 20, 21, 22, 23, 24, 25, 26, 27, 28, 29, 30, 31, 32, 33, 34, 35, 36, 37, 38, 39, 40, 41, 42, 43, 44, 45, 46, 47, 48, 49, 50, 51, 52, 53, 54, 55, 56, 57, 58, 59, 60, 61, 62, 63, 64, 65, 66, 67, 68, 69, 70, 71] (by decide +kernel) (by decide +kernel)
set_option maxRecDepth 20000 in
theorem gX7_spare_X7_advice : GoodIn wsX7_spare (wsV RX7 145 RX7 yX7_advice wsX7_advice) := goodIn_app (goodIn_of _ (by decide +kernel)) ggX7_spare_X7_advice
theorem dX7_spare_0 : decode cX7_spare 0 = .ok (.aload_n 0, 1) := by decide +kernel
theorem dX7_spare_1 : decode cX7_spare 1 = .ok (.iconst 0, 1) := by decide +kernel
theorem dX7_spare_2 : decode cX7_spare 2 = .ok (.putfield 30, 3) := by decide +kernel
theorem dX7_spare_5 : decode cX7_spare 5 = .ok (.aload_n 0, 1) := by decide +kernel
theorem dX7_spare_6 : decode cX7_spare 6 = .ok (.iconst 0, 1) := by decide +kernel
theorem dX7_spare_7 : decode cX7_spare 7 = .ok (.invokevirtual 145, 3) := by decide +kernel
theorem dX7_spare_10 : decode cX7_spare 10 = .ok (.ireturn, 1) := by decide +kernel
set_option maxRecDepth 20000 in
theorem ggX7_isEnough_X7_isIn : GoodIn wsX7_isEnough wsX7_isIn := goodIn_r _ [5] (by decide +kernel) (by decide +kernel)
set_option maxRecDepth 20000 in
theorem gX7_isEnough_X7_isIn : GoodIn wsX7_isEnough (va_wsS RX7 75 yX7_isIn wsX7_isIn) := goodIn_app (goodIn_of _ (by decide +kernel)) ggX7_isEnough_X7_isIn
set_option maxRecDepth 20000 in
theorem ggX7_isEnough_X7_reachOf : GoodIn wsX7_isEnough wsX7_reachOf := goodIn_r _ [8, 9, 10, 4, 11, 12, 13, 14, 15, 16, 17] (by decide +kernel) (by decide +kernel)
set_option maxRecDepth 20000 in
theorem gX7_isEnough_X7_reachOf : GoodIn wsX7_isEnough (va_wsS RX7 62 yX7_reachOf wsX7_reachOf) := goodIn_app (goodIn_of _ (by decide +kernel)) ggX7_isEnough_X7_reachOf
set_option maxRecDepth 20000 in
theorem ggX7_isEnough_X7_boundOf : GoodIn wsX7_isEnough wsX7_boundOf := goodIn_r _ [20, 12, 13, 4, 14, 15, 16, 17] (by decide +kernel) (by decide +kernel)
set_option maxRecDepth 20000 in
theorem gX7_isEnough_X7_boundOf : GoodIn wsX7_isEnough (va_wsS RX7 128 yX7_boundOf wsX7_boundOf) := goodIn_app (goodIn_of _ (by decide +kernel)) ggX7_isEnough_X7_boundOf
theorem dX7_isEnough_0 : decode cX7_isEnough 0 = .ok (.iconst 1, 1) := by decide +kernel
theorem dX7_isEnough_1 : decode cX7_isEnough 1 = .ok (.istore_n 2, 1) := by decide +kernel
theorem dX7_isEnough_2 : decode cX7_isEnough 2 = .ok (.iconst 0, 1) := by decide +kernel
theorem dX7_isEnough_3 : decode cX7_isEnough 3 = .ok (.istore_n 3, 1) := by decide +kernel
theorem dX7_isEnough_4 : decode cX7_isEnough 4 = .ok (.iload_n 3, 1) := by decide +kernel
theorem dX7_isEnough_5 : decode cX7_isEnough 5 = .ok (.aload_n 0, 1) := by decide +kernel
theorem dX7_isEnough_6 : decode cX7_isEnough 6 = .ok (.getfield 7, 3) := by decide +kernel
theorem dX7_isEnough_9 : decode cX7_isEnough 9 = .ok (.bipush 46, 2) := by decide +kernel
theorem dX7_isEnough_11 : decode cX7_isEnough 11 = .ok (.iaload, 1) := by decide +kernel
theorem dX7_isEnough_12 : decode cX7_isEnough 12 = .ok (.if_icmp .ge 93, 3) := by decide +kernel
theorem dX7_isEnough_15 : decode cX7_isEnough 15 = .ok (.iconst 0, 1) := by decide +kernel
theorem dX7_isEnough_16 : decode cX7_isEnough 16 = .ok (.istore 4, 2) := by decide +kernel
theorem dX7_isEnough_18 : decode cX7_isEnough 18 = .ok (.iconst 0, 1) := by decide +kernel
theorem dX7_isEnough_19 : decode cX7_isEnough 19 = .ok (.istore 5, 2) := by decide +kernel
theorem dX7_isEnough_21 : decode cX7_isEnough 21 = .ok (.iload 5, 2) := by decide +kernel
theorem dX7_isEnough_23 : decode cX7_isEnough 23 = .ok (.bipush 6, 2) := by decide +kernel
theorem dX7_isEnough_25 : decode cX7_isEnough 25 = .ok (.if_icmp .ge 59, 3) := by decide +kernel
theorem dX7_isEnough_28 : decode cX7_isEnough 28 = .ok (.iload 4, 2) := by decide +kernel
theorem dX7_isEnough_30 : decode cX7_isEnough 30 = .ok (.ifCond .ne 41, 3) := by decide +kernel
theorem dX7_isEnough_33 : decode cX7_isEnough 33 = .ok (.iload_n 1, 1) := by decide +kernel
theorem dX7_isEnough_34 : decode cX7_isEnough 34 = .ok (.iload 5, 2) := by decide +kernel
theorem dX7_isEnough_36 : decode cX7_isEnough 36 = .ok (.invokestatic 75, 3) := by decide +kernel
theorem dX7_isEnough_39 : decode cX7_isEnough 39 = .ok (.ifCond .eq 36, 3) := by decide +kernel
theorem dX7_isEnough_42 : decode cX7_isEnough 42 = .ok (.aload_n 0, 1) := by decide +kernel
theorem dX7_isEnough_43 : decode cX7_isEnough 43 = .ok (.getfield 7, 3) := by decide +kernel
theorem dX7_isEnough_46 : decode cX7_isEnough 46 = .ok (.bipush 47, 2) := by decide +kernel
theorem dX7_isEnough_48 : decode cX7_isEnough 48 = .ok (.iload_n 3, 1) := by decide +kernel
theorem dX7_isEnough_49 : decode cX7_isEnough 49 = .ok (.iadd, 1) := by decide +kernel
theorem dX7_isEnough_50 : decode cX7_isEnough 50 = .ok (.iaload, 1) := by decide +kernel
theorem dX7_isEnough_51 : decode cX7_isEnough 51 = .ok (.iload 5, 2) := by decide +kernel
theorem dX7_isEnough_53 : decode cX7_isEnough 53 = .ok (.invokestatic 62, 3) := by decide +kernel
theorem dX7_isEnough_56 : decode cX7_isEnough 56 = .ok (.aload_n 0, 1) := by decide +kernel
theorem dX7_isEnough_57 : decode cX7_isEnough 57 = .ok (.getfield 7, 3) := by decide +kernel
theorem dX7_isEnough_60 : decode cX7_isEnough 60 = .ok (.bipush 47, 2) := by decide +kernel
theorem dX7_isEnough_62 : decode cX7_isEnough 62 = .ok (.iload_n 3, 1) := by decide +kernel
theorem dX7_isEnough_63 : decode cX7_isEnough 63 = .ok (.iadd, 1) := by decide +kernel
theorem dX7_isEnough_64 : decode cX7_isEnough 64 = .ok (.iaload, 1) := by decide +kernel
theorem dX7_isEnough_65 : decode cX7_isEnough 65 = .ok (.invokestatic 128, 3) := by decide +kernel
theorem dX7_isEnough_68 : decode cX7_isEnough 68 = .ok (.if_icmp .ne 7, 3) := by decide +kernel
theorem dX7_isEnough_71 : decode cX7_isEnough 71 = .ok (.iconst 1, 1) := by decide +kernel
theorem dX7_isEnough_72 : decode cX7_isEnough 72 = .ok (.goto 4, 3) := by decide +kernel
theorem dX7_isEnough_75 : decode cX7_isEnough 75 = .ok (.iconst 0, 1) := by decide +kernel
theorem dX7_isEnough_76 : decode cX7_isEnough 76 = .ok (.istore 4, 2) := by decide +kernel
theorem dX7_isEnough_78 : decode cX7_isEnough 78 = .ok (.iinc 5 1, 3) := by decide +kernel
theorem dX7_isEnough_81 : decode cX7_isEnough 81 = .ok (.goto (-60), 3) := by decide +kernel
theorem dX7_isEnough_84 : decode cX7_isEnough 84 = .ok (.iload_n 2, 1) := by decide +kernel
theorem dX7_isEnough_85 : decode cX7_isEnough 85 = .ok (.ifCond .eq 12, 3) := by decide +kernel
theorem dX7_isEnough_88 : decode cX7_isEnough 88 = .ok (.iload 4, 2) := by decide +kernel
theorem dX7_isEnough_90 : decode cX7_isEnough 90 = .ok (.ifCond .eq 7, 3) := by decide +kernel
theorem dX7_isEnough_93 : decode cX7_isEnough 93 = .ok (.iconst 1, 1) := by decide +kernel
theorem dX7_isEnough_94 : decode cX7_isEnough 94 = .ok (.goto 4, 3) := by decide +kernel
theorem dX7_isEnough_97 : decode cX7_isEnough 97 = .ok (.iconst 0, 1) := by decide +kernel
theorem dX7_isEnough_98 : decode cX7_isEnough 98 = .ok (.istore_n 2, 1) := by decide +kernel
theorem dX7_isEnough_99 : decode cX7_isEnough 99 = .ok (.iinc 3 1, 3) := by decide +kernel
theorem dX7_isEnough_102 : decode cX7_isEnough 102 = .ok (.goto (-98), 3) := by decide +kernel
theorem dX7_isEnough_105 : decode cX7_isEnough 105 = .ok (.iload_n 2, 1) := by decide +kernel
theorem dX7_isEnough_106 : decode cX7_isEnough 106 = .ok (.ireturn, 1) := by decide +kernel
set_option maxRecDepth 20000 in
theorem ggX7_needed_X7_isEnough : GoodIn wsX7_needed wsX7_isEnough := goodIn_r _ [6, 7, 8, 9, 5, 10, 11, 12, 13, 14, 15, 16, 17, 18, 19, 20, 21, 22, 23, 24, 25, 29, 30, 31, 32, 33, 34, 35, 36, 37] (by decide +kernel) (by decide +kernel)
set_option maxRecDepth 20000 in
theorem gX7_needed_X7_isEnough : GoodIn wsX7_needed (wsV RX7 184 RX7 yX7_isEnough wsX7_isEnough) := goodIn_app (goodIn_of _ (by decide +kernel)) ggX7_needed_X7_isEnough
set_option maxRecDepth 20000 in
theorem ggX7_needed_X7_bitsOf : GoodIn wsX7_needed wsX7_bitsOf := goodIn_r _ [28] (by decide +kernel) (by decide +kernel)
set_option maxRecDepth 20000 in
theorem gX7_needed_X7_bitsOf : GoodIn wsX7_needed (va_wsS RX7 134 yX7_bitsOf wsX7_bitsOf) := goodIn_app (goodIn_of _ (by decide +kernel)) ggX7_needed_X7_bitsOf
theorem dX7_needed_0 : decode cX7_needed 0 = .ok (.aload_n 0, 1) := by decide +kernel
theorem dX7_needed_1 : decode cX7_needed 1 = .ok (.iconst 0, 1) := by decide +kernel
theorem dX7_needed_2 : decode cX7_needed 2 = .ok (.putfield 30, 3) := by decide +kernel
theorem dX7_needed_5 : decode cX7_needed 5 = .ok (.iconst (-1), 1) := by decide +kernel
theorem dX7_needed_6 : decode cX7_needed 6 = .ok (.istore_n 1, 1) := by decide +kernel
theorem dX7_needed_7 : decode cX7_needed 7 = .ok (.iconst 0, 1) := by decide +kernel
theorem dX7_needed_8 : decode cX7_needed 8 = .ok (.istore_n 2, 1) := by decide +kernel
theorem dX7_needed_9 : decode cX7_needed 9 = .ok (.iload_n 2, 1) := by decide +kernel
theorem dX7_needed_10 : decode cX7_needed 10 = .ok (.bipush 64, 2) := by decide +kernel
theorem dX7_needed_12 : decode cX7_needed 12 = .ok (.if_icmp .ge 39, 3) := by decide +kernel
theorem dX7_needed_15 : decode cX7_needed 15 = .ok (.aload_n 0, 1) := by decide +kernel
theorem dX7_needed_16 : decode cX7_needed 16 = .ok (.iload_n 2, 1) := by decide +kernel
theorem dX7_needed_17 : decode cX7_needed 17 = .ok (.invokevirtual 184, 3) := by decide +kernel
theorem dX7_needed_20 : decode cX7_needed 20 = .ok (.ifCond .eq 23, 3) := by decide +kernel
theorem dX7_needed_23 : decode cX7_needed 23 = .ok (.iload_n 1, 1) := by decide +kernel
theorem dX7_needed_24 : decode cX7_needed 24 = .ok (.iconst (-1), 1) := by decide +kernel
theorem dX7_needed_25 : decode cX7_needed 25 = .ok (.if_icmp .eq 14, 3) := by decide +kernel
theorem dX7_needed_28 : decode cX7_needed 28 = .ok (.iload_n 2, 1) := by decide +kernel
theorem dX7_needed_29 : decode cX7_needed 29 = .ok (.invokestatic 134, 3) := by decide +kernel
theorem dX7_needed_32 : decode cX7_needed 32 = .ok (.iload_n 1, 1) := by decide +kernel
theorem dX7_needed_33 : decode cX7_needed 33 = .ok (.invokestatic 134, 3) := by decide +kernel
theorem dX7_needed_36 : decode cX7_needed 36 = .ok (.if_icmp .ge 7, 3) := by decide +kernel
theorem dX7_needed_39 : decode cX7_needed 39 = .ok (.iload_n 2, 1) := by decide +kernel
theorem dX7_needed_40 : decode cX7_needed 40 = .ok (.goto 4, 3) := by decide +kernel
theorem dX7_needed_43 : decode cX7_needed 43 = .ok (.iload_n 1, 1) := by decide +kernel
theorem dX7_needed_44 : decode cX7_needed 44 = .ok (.istore_n 1, 1) := by decide +kernel
theorem dX7_needed_45 : decode cX7_needed 45 = .ok (.iinc 2 1, 3) := by decide +kernel
theorem dX7_needed_48 : decode cX7_needed 48 = .ok (.goto (-39), 3) := by decide +kernel
theorem dX7_needed_51 : decode cX7_needed 51 = .ok (.iload_n 1, 1) := by decide +kernel
theorem dX7_needed_52 : decode cX7_needed 52 = .ok (.ireturn, 1) := by decide +kernel
set_option maxRecDepth 20000 in
theorem ggX7_ifKept_X7_in : GoodIn wsX7_ifKept wsX7_in := goodIn_r _ [5] (by decide +kernel) (by decide +kernel)
set_option maxRecDepth 20000 in
theorem gX7_ifKept_X7_in : GoodIn wsX7_ifKept (va_wsS RX7 53 yX7_in wsX7_in) := goodIn_app (goodIn_of _ (by decide +kernel)) ggX7_ifKept_X7_in
set_option maxRecDepth 20000 in
theorem ggX7_ifKept_X7_holds : GoodIn wsX7_ifKept wsX7_holds := goodIn_r _ [9, 10, 59, 60, 61, 62, 63, 64, 65, 66, 67] (by decide +kernel) (by decide +kernel)
set_option maxRecDepth 20000 in
theorem gX7_ifKept_X7_holds : GoodIn wsX7_ifKept (wsV RX7 89 RX7 yX7_holds wsX7_holds) := goodIn_app (goodIn_of _ (by decide +kernel)) ggX7_ifKept_X7_holds
set_option maxRecDepth 20000 in
theorem ggX7_ifKept_X7_sumBy : GoodIn wsX7_ifKept wsX7_sumBy := goodIn_r _ [14, 15, 16, 17, 18, 4, 19, 20, 21, 22, 23, 24, 25, 26, 27, 28, 29, 30, 31, 32, 33, 34, 35, 36, 37, 38, 39, 40, 41, 42, 43, 44, 45, 46, 47, 48, 49, 50, 51, 52, 53, 54, 55, 56, 57, 58, 59, 60, 61, 62, 63, 64, 65, 66, 67] (by decide +kernel) (by decide +kernel)
set_option maxRecDepth 20000 in
theorem gX7_ifKept_X7_sumBy : GoodIn wsX7_ifKept (wsV RX7 175 RX7 yX7_sumBy wsX7_sumBy) := goodIn_app (goodIn_of _ (by decide +kernel)) ggX7_ifKept_X7_sumBy
theorem dX7_ifKept_0 : decode cX7_ifKept 0 = .ok (.aload_n 0, 1) := by decide +kernel
theorem dX7_ifKept_1 : decode cX7_ifKept 1 = .ok (.iload_n 1, 1) := by decide +kernel
theorem dX7_ifKept_2 : decode cX7_ifKept 2 = .ok (.i2l, 1) := by decide +kernel
theorem dX7_ifKept_3 : decode cX7_ifKept 3 = .ok (.lconst 0, 1) := by decide +kernel
theorem dX7_ifKept_4 : decode cX7_ifKept 4 = .ok (.ldc2_w 187, 3) := by decide +kernel
theorem dX7_ifKept_7 : decode cX7_ifKept 7 = .ok (.invokestatic 53, 3) := by decide +kernel
theorem dX7_ifKept_10 : decode cX7_ifKept 10 = .ok (.ifCond .eq 7, 3) := by decide +kernel
theorem dX7_ifKept_13 : decode cX7_ifKept 13 = .ok (.iconst 0, 1) := by decide +kernel
theorem dX7_ifKept_14 : decode cX7_ifKept 14 = .ok (.goto 4, 3) := by decide +kernel
theorem dX7_ifKept_17 : decode cX7_ifKept 17 = .ok (.iconst 1, 1) := by decide +kernel
theorem dX7_ifKept_18 : decode cX7_ifKept 18 = .ok (.invokevirtual 89, 3) := by decide +kernel
theorem dX7_ifKept_21 : decode cX7_ifKept 21 = .ok (.ifCond .eq 11, 3) := by decide +kernel
theorem dX7_ifKept_24 : decode cX7_ifKept 24 = .ok (.aload_n 0, 1) := by decide +kernel
theorem dX7_ifKept_25 : decode cX7_ifKept 25 = .ok (.iload_n 1, 1) := by decide +kernel
theorem dX7_ifKept_26 : decode cX7_ifKept 26 = .ok (.invokevirtual 175, 3) := by decide +kernel
theorem dX7_ifKept_29 : decode cX7_ifKept 29 = .ok (.goto 4, 3) := by decide +kernel
theorem dX7_ifKept_32 : decode cX7_ifKept 32 = .ok (.iconst 0, 1) := by decide +kernel
theorem dX7_ifKept_33 : decode cX7_ifKept 33 = .ok (.ireturn, 1) := by decide +kernel
set_option maxRecDepth 20000 in
theorem ggX7_bestSet_X7_sumBy : GoodIn wsX7_bestSet wsX7_sumBy := goodIn_r _ [6, 7, 8, 9, 10, 5, 11, 12, 13, 14, 15, 16, 17, 18, 19, 20, 21, 22, 23, 24, 25, 26, 27, 28, 29, 30, 31, 32, 33, 34, 35, 36, 37, 38, 39, 40, 41, 42, 43, 44, 45, 46, 47, 48, 49, 50, 58, 59, 60, 61, 62, 63, 64, 65, 66] (by decide +kernel) (by decide +kernel)
set_option maxRecDepth 20000 in
theorem gX7_bestSet_X7_sumBy : GoodIn wsX7_bestSet (wsV RX7 175 RX7 yX7_sumBy wsX7_sumBy) := goodIn_app (goodIn_of _ (by decide +kernel)) ggX7_bestSet_X7_sumBy
set_option maxRecDepth 20000 in
theorem ggX7_bestSet_X7_bitsOf : GoodIn wsX7_bestSet wsX7_bitsOf := goodIn_r _ [53] (by decide +kernel) (by decide +kernel)
set_option maxRecDepth 20000 in
theorem gX7_bestSet_X7_bitsOf : GoodIn wsX7_bestSet (va_wsS RX7 134 yX7_bitsOf wsX7_bitsOf) := goodIn_app (goodIn_of _ (by decide +kernel)) ggX7_bestSet_X7_bitsOf
set_option maxRecDepth 20000 in
theorem ggX7_bestSet_X7_dues : GoodIn wsX7_bestSet wsX7_dues := goodIn_r _ [57, 7, 35, 36, 5, 37, 58, 59, 60, 61, 62, 63, 64, 65, 66] (by decide +kernel) (by decide +kernel)
set_option maxRecDepth 20000 in
theorem gX7_bestSet_X7_dues : GoodIn wsX7_bestSet (wsV RX7 178 RX7 yX7_dues wsX7_dues) := goodIn_app (goodIn_of _ (by decide +kernel)) ggX7_bestSet_X7_dues
theorem dX7_bestSet_0 : decode cX7_bestSet 0 = .ok (.aload_n 0, 1) := by decide +kernel
theorem dX7_bestSet_1 : decode cX7_bestSet 1 = .ok (.iconst 0, 1) := by decide +kernel
theorem dX7_bestSet_2 : decode cX7_bestSet 2 = .ok (.putfield 30, 3) := by decide +kernel
theorem dX7_bestSet_5 : decode cX7_bestSet 5 = .ok (.iconst 0, 1) := by decide +kernel
theorem dX7_bestSet_6 : decode cX7_bestSet 6 = .ok (.istore_n 1, 1) := by decide +kernel
theorem dX7_bestSet_7 : decode cX7_bestSet 7 = .ok (.aload_n 0, 1) := by decide +kernel
theorem dX7_bestSet_8 : decode cX7_bestSet 8 = .ok (.iconst 0, 1) := by decide +kernel
theorem dX7_bestSet_9 : decode cX7_bestSet 9 = .ok (.invokevirtual 175, 3) := by decide +kernel
theorem dX7_bestSet_12 : decode cX7_bestSet 12 = .ok (.istore_n 2, 1) := by decide +kernel
theorem dX7_bestSet_13 : decode cX7_bestSet 13 = .ok (.iconst 1, 1) := by decide +kernel
theorem dX7_bestSet_14 : decode cX7_bestSet 14 = .ok (.istore_n 3, 1) := by decide +kernel
theorem dX7_bestSet_15 : decode cX7_bestSet 15 = .ok (.iload_n 3, 1) := by decide +kernel
theorem dX7_bestSet_16 : decode cX7_bestSet 16 = .ok (.bipush 64, 2) := by decide +kernel
theorem dX7_bestSet_18 : decode cX7_bestSet 18 = .ok (.if_icmp .ge 51, 3) := by decide +kernel
theorem dX7_bestSet_21 : decode cX7_bestSet 21 = .ok (.aload_n 0, 1) := by decide +kernel
theorem dX7_bestSet_22 : decode cX7_bestSet 22 = .ok (.iload_n 3, 1) := by decide +kernel
theorem dX7_bestSet_23 : decode cX7_bestSet 23 = .ok (.invokevirtual 175, 3) := by decide +kernel
theorem dX7_bestSet_26 : decode cX7_bestSet 26 = .ok (.iload_n 3, 1) := by decide +kernel
theorem dX7_bestSet_27 : decode cX7_bestSet 27 = .ok (.invokestatic 134, 3) := by decide +kernel
theorem dX7_bestSet_30 : decode cX7_bestSet 30 = .ok (.aload_n 0, 1) := by decide +kernel
theorem dX7_bestSet_31 : decode cX7_bestSet 31 = .ok (.invokevirtual 178, 3) := by decide +kernel
theorem dX7_bestSet_34 : decode cX7_bestSet 34 = .ok (.imul, 1) := by decide +kernel
theorem dX7_bestSet_35 : decode cX7_bestSet 35 = .ok (.iadd, 1) := by decide +kernel
theorem dX7_bestSet_36 : decode cX7_bestSet 36 = .ok (.istore 4, 2) := by decide +kernel
theorem dX7_bestSet_38 : decode cX7_bestSet 38 = .ok (.iload 4, 2) := by decide +kernel
theorem dX7_bestSet_40 : decode cX7_bestSet 40 = .ok (.iload_n 2, 1) := by decide +kernel
theorem dX7_bestSet_41 : decode cX7_bestSet 41 = .ok (.if_icmp .ge 7, 3) := by decide +kernel
theorem dX7_bestSet_44 : decode cX7_bestSet 44 = .ok (.iload_n 3, 1) := by decide +kernel
theorem dX7_bestSet_45 : decode cX7_bestSet 45 = .ok (.goto 4, 3) := by decide +kernel
theorem dX7_bestSet_48 : decode cX7_bestSet 48 = .ok (.iload_n 1, 1) := by decide +kernel
theorem dX7_bestSet_49 : decode cX7_bestSet 49 = .ok (.istore_n 1, 1) := by decide +kernel
theorem dX7_bestSet_50 : decode cX7_bestSet 50 = .ok (.iload 4, 2) := by decide +kernel
theorem dX7_bestSet_52 : decode cX7_bestSet 52 = .ok (.iload_n 2, 1) := by decide +kernel
theorem dX7_bestSet_53 : decode cX7_bestSet 53 = .ok (.if_icmp .ge 8, 3) := by decide +kernel
theorem dX7_bestSet_56 : decode cX7_bestSet 56 = .ok (.iload 4, 2) := by decide +kernel
theorem dX7_bestSet_58 : decode cX7_bestSet 58 = .ok (.goto 4, 3) := by decide +kernel
theorem dX7_bestSet_61 : decode cX7_bestSet 61 = .ok (.iload_n 2, 1) := by decide +kernel
theorem dX7_bestSet_62 : decode cX7_bestSet 62 = .ok (.istore_n 2, 1) := by decide +kernel
theorem dX7_bestSet_63 : decode cX7_bestSet 63 = .ok (.iinc 3 1, 3) := by decide +kernel
theorem dX7_bestSet_66 : decode cX7_bestSet 66 = .ok (.goto (-51), 3) := by decide +kernel
theorem dX7_bestSet_69 : decode cX7_bestSet 69 = .ok (.iload_n 1, 1) := by decide +kernel
theorem dX7_bestSet_70 : decode cX7_bestSet 70 = .ok (.ireturn, 1) := by decide +kernel
set_option maxRecDepth 20000 in
theorem ggX7_succeeds_X7_addFault : GoodIn wsX7_succeeds wsX7_addFault := goodIn_r _ [6, 7, 1, 8, 9, 5, 10, 11, 12, 13, 14, 113, 114, 115, 116, 117, 118, 119, 120, 121] (by decide +kernel) (by decide +kernel)
set_option maxRecDepth 20000 in
theorem gX7_succeeds_X7_addFault : GoodIn wsX7_succeeds (wsV RX7 154 RX7 yX7_addFault wsX7_addFault) := goodIn_app (goodIn_of _ (by decide +kernel)) ggX7_succeeds_X7_addFault
set_option maxRecDepth 20000 in
theorem ggX7_succeeds_X7_adds : GoodIn wsX7_succeeds wsX7_adds := goodIn_r _ [18, 1, 11, 12, 13, 5, 14, 19, 20, 21, 22, 23, 24, 25, 26, 27, 28, 113, 114, 115, 116, 117, 118, 119, 120, 121] (by decide +kernel) (by decide +kernel)
set_option maxRecDepth 20000 in
theorem gX7_succeeds_X7_adds : GoodIn wsX7_succeeds (wsV RX7 160 RX7 yX7_adds wsX7_adds) := goodIn_app (goodIn_of _ (by decide +kernel)) ggX7_succeeds_X7_adds
set_option maxRecDepth 20000 in
theorem ggX7_succeeds_X7_removes : GoodIn wsX7_succeeds wsX7_removes := goodIn_r _ [32, 1, 11, 12, 13, 5, 14, 19, 20, 21, 22, 23, 24, 25, 26, 27, 28, 113, 114, 115, 116, 117, 118, 119, 120, 121] (by decide +kernel) (by decide +kernel)
set_option maxRecDepth 20000 in
theorem gX7_succeeds_X7_removes : GoodIn wsX7_succeeds (wsV RX7 163 RX7 yX7_removes wsX7_removes) := goodIn_app (goodIn_of _ (by decide +kernel)) ggX7_succeeds_X7_removes
set_option maxRecDepth 20000 in
theorem ggX7_succeeds_X7_isQuestion : GoodIn wsX7_succeeds wsX7_isQuestion := goodIn_r _ [35, 36, 8, 9, 5, 10] (by decide +kernel) (by decide +kernel)
set_option maxRecDepth 20000 in
theorem gX7_succeeds_X7_isQuestion : GoodIn wsX7_succeeds (va_wsS RX7 113 yX7_isQuestion wsX7_isQuestion) := goodIn_app (goodIn_of _ (by decide +kernel)) ggX7_succeeds_X7_isQuestion
set_option maxRecDepth 20000 in
theorem ggX7_succeeds_X7_asks : GoodIn wsX7_succeeds wsX7_asks := goodIn_r _ [40, 1, 41, 42, 43, 5, 44, 45, 46, 47, 48, 49, 50, 51, 52, 53, 54, 55, 56, 57, 58, 59, 60, 61, 62, 63, 64, 65, 66, 67, 26, 27, 28, 68, 69, 70, 71, 72, 73, 74, 75, 76, 77, 78, 79, 80, 113, 114, 115, 116, 117, 118, 119, 120, 121] (by decide +kernel) (by decide +kernel)
set_option maxRecDepth 20000 in
theorem gX7_succeeds_X7_asks : GoodIn wsX7_succeeds (wsV RX7 166 RX7 yX7_asks wsX7_asks) := goodIn_app (goodIn_of _ (by decide +kernel)) ggX7_succeeds_X7_asks
set_option maxRecDepth 20000 in
theorem ggX7_succeeds_X7_isOrder : GoodIn wsX7_succeeds wsX7_isOrder := goodIn_r _ [83, 84, 8, 9, 5, 10] (by decide +kernel) (by decide +kernel)
set_option maxRecDepth 20000 in
theorem gX7_succeeds_X7_isOrder : GoodIn wsX7_succeeds (va_wsS RX7 106 yX7_isOrder wsX7_isOrder) := goodIn_app (goodIn_of _ (by decide +kernel)) ggX7_succeeds_X7_isOrder
set_option maxRecDepth 20000 in
theorem ggX7_succeeds_X7_isIn : GoodIn wsX7_succeeds wsX7_isIn := goodIn_r _ [51] (by decide +kernel) (by decide +kernel)
set_option maxRecDepth 20000 in
theorem gX7_succeeds_X7_isIn : GoodIn wsX7_succeeds (va_wsS RX7 75 yX7_isIn wsX7_isIn) := goodIn_app (goodIn_of _ (by decide +kernel)) ggX7_succeeds_X7_isIn
set_option maxRecDepth 20000 in
theorem ggX7_succeeds_X7_builds : GoodIn wsX7_succeeds wsX7_builds := goodIn_r _ [88, 1, 26, 27, 5, 28, 113, 114, 115, 116, 117, 118, 119, 120, 121] (by decide +kernel) (by decide +kernel)
set_option maxRecDepth 20000 in
theorem gX7_succeeds_X7_builds : GoodIn wsX7_succeeds (wsV RX7 148 RX7 yX7_builds wsX7_builds) := goodIn_app (goodIn_of _ (by decide +kernel)) ggX7_succeeds_X7_builds
set_option maxRecDepth 20000 in
theorem ggX7_succeeds_X7_drops : GoodIn wsX7_succeeds wsX7_drops := goodIn_r _ [92, 1, 23, 24, 5, 25, 113, 114, 115, 116, 117, 118, 119, 120, 121] (by decide +kernel) (by decide +kernel)
set_option maxRecDepth 20000 in
theorem gX7_succeeds_X7_drops : GoodIn wsX7_succeeds (wsV RX7 151 RX7 yX7_drops wsX7_drops) := goodIn_app (goodIn_of _ (by decide +kernel)) ggX7_succeeds_X7_drops
set_option maxRecDepth 20000 in
theorem ggX7_succeeds_X7_tidies : GoodIn wsX7_succeeds wsX7_tidies := goodIn_r _ [96, 97, 98, 99, 5, 100, 1, 49, 50, 51, 101, 102, 103, 104, 105, 106, 107, 108, 41, 42, 43, 44, 45, 46, 47, 48, 52, 53, 54, 55, 56, 57, 58, 59, 60, 61, 62, 63, 64, 65, 66, 67, 26, 27, 28, 68, 69, 70, 71, 72, 73, 74, 75, 76, 77, 78, 79, 80, 109, 110, 111, 112, 85, 86, 87, 88, 89, 90, 91, 92, 23, 24, 25, 113, 114, 115, 116, 117, 118, 119, 120, 121] (by decide +kernel) (by decide +kernel)
set_option maxRecDepth 20000 in
theorem gX7_succeeds_X7_tidies : GoodIn wsX7_succeeds (wsV RX7 169 RX7 yX7_tidies wsX7_tidies) := goodIn_app (goodIn_of _ (by decide +kernel)) ggX7_succeeds_X7_tidies
set_option maxRecDepth 20000 in
theorem ggX7_succeeds_X7_costOf : GoodIn wsX7_succeeds wsX7_costOf := goodIn_r _ [44, 1, 45, 46, 47, 5, 48, 49, 50, 51, 52, 53, 54, 55, 56, 57, 58, 59, 60, 61, 62, 63, 64, 65, 66, 67, 26, 27, 28, 68, 69, 70, 71, 72, 73, 74, 75, 76, 77, 78, 79, 80, 113, 114, 115, 116, 117, 118, 119, 120, 121] (by decide +kernel) (by decide +kernel)
set_option maxRecDepth 20000 in
theorem gX7_succeeds_X7_costOf : GoodIn wsX7_succeeds (wsV RX7 116 RX7 yX7_costOf wsX7_costOf) := goodIn_app (goodIn_of _ (by decide +kernel)) ggX7_succeeds_X7_costOf
theorem dX7_succeeds_0 : decode cX7_succeeds 0 = .ok (.iload_n 1, 1) := by decide +kernel
theorem dX7_succeeds_1 : decode cX7_succeeds 1 = .ok (.sipush 1000, 3) := by decide +kernel
theorem dX7_succeeds_4 : decode cX7_succeeds 4 = .ok (.idiv, 1) := by decide +kernel
theorem dX7_succeeds_5 : decode cX7_succeeds 5 = .ok (.bipush 10, 2) := by decide +kernel
theorem dX7_succeeds_7 : decode cX7_succeeds 7 = .ok (.irem, 1) := by decide +kernel
theorem dX7_succeeds_8 : decode cX7_succeeds 8 = .ok (.istore_n 2, 1) := by decide +kernel
theorem dX7_succeeds_9 : decode cX7_succeeds 9 = .ok (.iload_n 1, 1) := by decide +kernel
theorem dX7_succeeds_10 : decode cX7_succeeds 10 = .ok (.sipush 1000, 3) := by decide +kernel
theorem dX7_succeeds_13 : decode cX7_succeeds 13 = .ok (.irem, 1) := by decide +kernel
theorem dX7_succeeds_14 : decode cX7_succeeds 14 = .ok (.istore_n 3, 1) := by decide +kernel
theorem dX7_succeeds_15 : decode cX7_succeeds 15 = .ok (.iload_n 1, 1) := by decide +kernel
theorem dX7_succeeds_16 : decode cX7_succeeds 16 = .ok (.sipush 10000, 3) := by decide +kernel
theorem dX7_succeeds_19 : decode cX7_succeeds 19 = .ok (.irem, 1) := by decide +kernel
theorem dX7_succeeds_20 : decode cX7_succeeds 20 = .ok (.istore 4, 2) := by decide +kernel
theorem dX7_succeeds_22 : decode cX7_succeeds 22 = .ok (.iload_n 1, 1) := by decide +kernel
theorem dX7_succeeds_23 : decode cX7_succeeds 23 = .ok (.sipush 10000, 3) := by decide +kernel
theorem dX7_succeeds_26 : decode cX7_succeeds 26 = .ok (.idiv, 1) := by decide +kernel
theorem dX7_succeeds_27 : decode cX7_succeeds 27 = .ok (.tableswitch 340 1 9 #[49, 87, 112, 138, 189, 240, 259, 283, 319], 49) := by decide +kernel
theorem dX7_succeeds_76 : decode cX7_succeeds 76 = .ok (.iload_n 2, 1) := by decide +kernel
theorem dX7_succeeds_77 : decode cX7_succeeds 77 = .ok (.ifCond .ne 15, 3) := by decide +kernel
theorem dX7_succeeds_80 : decode cX7_succeeds 80 = .ok (.aload_n 0, 1) := by decide +kernel
theorem dX7_succeeds_81 : decode cX7_succeeds 81 = .ok (.iload_n 3, 1) := by decide +kernel
theorem dX7_succeeds_82 : decode cX7_succeeds 82 = .ok (.invokevirtual 154, 3) := by decide +kernel
theorem dX7_succeeds_85 : decode cX7_succeeds 85 = .ok (.ifCond .ne 7, 3) := by decide +kernel
theorem dX7_succeeds_88 : decode cX7_succeeds 88 = .ok (.iconst 1, 1) := by decide +kernel
theorem dX7_succeeds_89 : decode cX7_succeeds 89 = .ok (.goto 4, 3) := by decide +kernel
theorem dX7_succeeds_92 : decode cX7_succeeds 92 = .ok (.iconst 0, 1) := by decide +kernel
theorem dX7_succeeds_93 : decode cX7_succeeds 93 = .ok (.istore 5, 2) := by decide +kernel
theorem dX7_succeeds_95 : decode cX7_succeeds 95 = .ok (.iload 5, 2) := by decide +kernel
theorem dX7_succeeds_97 : decode cX7_succeeds 97 = .ok (.ifCond .eq 11, 3) := by decide +kernel
theorem dX7_succeeds_100 : decode cX7_succeeds 100 = .ok (.aload_n 0, 1) := by decide +kernel
theorem dX7_succeeds_101 : decode cX7_succeeds 101 = .ok (.iload_n 3, 1) := by decide +kernel
theorem dX7_succeeds_102 : decode cX7_succeeds 102 = .ok (.invokevirtual 160, 3) := by decide +kernel
theorem dX7_succeeds_105 : decode cX7_succeeds 105 = .ok (.goto 4, 3) := by decide +kernel
theorem dX7_succeeds_108 : decode cX7_succeeds 108 = .ok (.iconst 0, 1) := by decide +kernel
theorem dX7_succeeds_109 : decode cX7_succeeds 109 = .ok (.istore 6, 2) := by decide +kernel
theorem dX7_succeeds_111 : decode cX7_succeeds 111 = .ok (.iload 5, 2) := by decide +kernel
theorem dX7_succeeds_113 : decode cX7_succeeds 113 = .ok (.ireturn, 1) := by decide +kernel
theorem dX7_succeeds_114 : decode cX7_succeeds 114 = .ok (.iload_n 2, 1) := by decide +kernel
theorem dX7_succeeds_115 : decode cX7_succeeds 115 = .ok (.ifCond .ne 11, 3) := by decide +kernel
theorem dX7_succeeds_118 : decode cX7_succeeds 118 = .ok (.aload_n 0, 1) := by decide +kernel
theorem dX7_succeeds_119 : decode cX7_succeeds 119 = .ok (.iload_n 3, 1) := by decide +kernel
theorem dX7_succeeds_120 : decode cX7_succeeds 120 = .ok (.invokevirtual 163, 3) := by decide +kernel
theorem dX7_succeeds_123 : decode cX7_succeeds 123 = .ok (.goto 4, 3) := by decide +kernel
theorem dX7_succeeds_126 : decode cX7_succeeds 126 = .ok (.iconst 0, 1) := by decide +kernel
theorem dX7_succeeds_127 : decode cX7_succeeds 127 = .ok (.istore 7, 2) := by decide +kernel
theorem dX7_succeeds_129 : decode cX7_succeeds 129 = .ok (.iload_n 2, 1) := by decide +kernel
theorem dX7_succeeds_130 : decode cX7_succeeds 130 = .ok (.ifCond .ne 7, 3) := by decide +kernel
theorem dX7_succeeds_133 : decode cX7_succeeds 133 = .ok (.iconst 1, 1) := by decide +kernel
theorem dX7_succeeds_134 : decode cX7_succeeds 134 = .ok (.goto 4, 3) := by decide +kernel
theorem dX7_succeeds_137 : decode cX7_succeeds 137 = .ok (.iconst 0, 1) := by decide +kernel
theorem dX7_succeeds_138 : decode cX7_succeeds 138 = .ok (.ireturn, 1) := by decide +kernel
theorem dX7_succeeds_139 : decode cX7_succeeds 139 = .ok (.iload 4, 2) := by decide +kernel
theorem dX7_succeeds_141 : decode cX7_succeeds 141 = .ok (.invokestatic 113, 3) := by decide +kernel
theorem dX7_succeeds_144 : decode cX7_succeeds 144 = .ok (.ifCond .eq 12, 3) := by decide +kernel
theorem dX7_succeeds_147 : decode cX7_succeeds 147 = .ok (.aload_n 0, 1) := by decide +kernel
theorem dX7_succeeds_148 : decode cX7_succeeds 148 = .ok (.iload 4, 2) := by decide +kernel
theorem dX7_succeeds_150 : decode cX7_succeeds 150 = .ok (.invokevirtual 166, 3) := by decide +kernel
theorem dX7_succeeds_153 : decode cX7_succeeds 153 = .ok (.goto 4, 3) := by decide +kernel
theorem dX7_succeeds_156 : decode cX7_succeeds 156 = .ok (.iconst 0, 1) := by decide +kernel
theorem dX7_succeeds_157 : decode cX7_succeeds 157 = .ok (.istore 8, 2) := by decide +kernel
theorem dX7_succeeds_159 : decode cX7_succeeds 159 = .ok (.iload 4, 2) := by decide +kernel
theorem dX7_succeeds_161 : decode cX7_succeeds 161 = .ok (.invokestatic 113, 3) := by decide +kernel
theorem dX7_succeeds_164 : decode cX7_succeeds 164 = .ok (.ireturn, 1) := by decide +kernel
theorem dX7_succeeds_165 : decode cX7_succeeds 165 = .ok (.iload_n 3, 1) := by decide +kernel
theorem dX7_succeeds_166 : decode cX7_succeeds 166 = .ok (.ifCond .ne 28, 3) := by decide +kernel
theorem dX7_succeeds_169 : decode cX7_succeeds 169 = .ok (.iload_n 2, 1) := by decide +kernel
theorem dX7_succeeds_170 : decode cX7_succeeds 170 = .ok (.invokestatic 106, 3) := by decide +kernel
theorem dX7_succeeds_173 : decode cX7_succeeds 173 = .ok (.ifCond .eq 21, 3) := by decide +kernel
theorem dX7_succeeds_176 : decode cX7_succeeds 176 = .ok (.aload_n 0, 1) := by decide +kernel
theorem dX7_succeeds_177 : decode cX7_succeeds 177 = .ok (.getfield 7, 3) := by decide +kernel
theorem dX7_succeeds_180 : decode cX7_succeeds 180 = .ok (.bipush 41, 2) := by decide +kernel
theorem dX7_succeeds_182 : decode cX7_succeeds 182 = .ok (.iaload, 1) := by decide +kernel
theorem dX7_succeeds_183 : decode cX7_succeeds 183 = .ok (.iload_n 2, 1) := by decide +kernel
theorem dX7_succeeds_184 : decode cX7_succeeds 184 = .ok (.invokestatic 75, 3) := by decide +kernel
theorem dX7_succeeds_187 : decode cX7_succeeds 187 = .ok (.ifCond .ne 7, 3) := by decide +kernel
theorem dX7_succeeds_190 : decode cX7_succeeds 190 = .ok (.iconst 1, 1) := by decide +kernel
theorem dX7_succeeds_191 : decode cX7_succeeds 191 = .ok (.goto 4, 3) := by decide +kernel
theorem dX7_succeeds_194 : decode cX7_succeeds 194 = .ok (.iconst 0, 1) := by decide +kernel
theorem dX7_succeeds_195 : decode cX7_succeeds 195 = .ok (.istore 9, 2) := by decide +kernel
theorem dX7_succeeds_197 : decode cX7_succeeds 197 = .ok (.iload 9, 2) := by decide +kernel
theorem dX7_succeeds_199 : decode cX7_succeeds 199 = .ok (.ifCond .eq 11, 3) := by decide +kernel
theorem dX7_succeeds_202 : decode cX7_succeeds 202 = .ok (.aload_n 0, 1) := by decide +kernel
theorem dX7_succeeds_203 : decode cX7_succeeds 203 = .ok (.iload_n 2, 1) := by decide +kernel
theorem dX7_succeeds_204 : decode cX7_succeeds 204 = .ok (.invokevirtual 148, 3) := by decide +kernel
theorem dX7_succeeds_207 : decode cX7_succeeds 207 = .ok (.goto 4, 3) := by decide +kernel
theorem dX7_succeeds_210 : decode cX7_succeeds 210 = .ok (.iconst 0, 1) := by decide +kernel
theorem dX7_succeeds_211 : decode cX7_succeeds 211 = .ok (.istore 10, 2) := by decide +kernel
theorem dX7_succeeds_213 : decode cX7_succeeds 213 = .ok (.iload 9, 2) := by decide +kernel
theorem dX7_succeeds_215 : decode cX7_succeeds 215 = .ok (.ireturn, 1) := by decide +kernel
theorem dX7_succeeds_216 : decode cX7_succeeds 216 = .ok (.iload_n 3, 1) := by decide +kernel
theorem dX7_succeeds_217 : decode cX7_succeeds 217 = .ok (.ifCond .ne 28, 3) := by decide +kernel
theorem dX7_succeeds_220 : decode cX7_succeeds 220 = .ok (.iload_n 2, 1) := by decide +kernel
theorem dX7_succeeds_221 : decode cX7_succeeds 221 = .ok (.invokestatic 106, 3) := by decide +kernel
theorem dX7_succeeds_224 : decode cX7_succeeds 224 = .ok (.ifCond .eq 21, 3) := by decide +kernel
theorem dX7_succeeds_227 : decode cX7_succeeds 227 = .ok (.aload_n 0, 1) := by decide +kernel
theorem dX7_succeeds_228 : decode cX7_succeeds 228 = .ok (.getfield 7, 3) := by decide +kernel
theorem dX7_succeeds_231 : decode cX7_succeeds 231 = .ok (.bipush 41, 2) := by decide +kernel
theorem dX7_succeeds_233 : decode cX7_succeeds 233 = .ok (.iaload, 1) := by decide +kernel
theorem dX7_succeeds_234 : decode cX7_succeeds 234 = .ok (.iload_n 2, 1) := by decide +kernel
theorem dX7_succeeds_235 : decode cX7_succeeds 235 = .ok (.invokestatic 75, 3) := by decide +kernel
theorem dX7_succeeds_238 : decode cX7_succeeds 238 = .ok (.ifCond .eq 7, 3) := by decide +kernel
theorem dX7_succeeds_241 : decode cX7_succeeds 241 = .ok (.iconst 1, 1) := by decide +kernel
theorem dX7_succeeds_242 : decode cX7_succeeds 242 = .ok (.goto 4, 3) := by decide +kernel
theorem dX7_succeeds_245 : decode cX7_succeeds 245 = .ok (.iconst 0, 1) := by decide +kernel
theorem dX7_succeeds_246 : decode cX7_succeeds 246 = .ok (.istore 11, 2) := by decide +kernel
