theorem dX0_init_0 : decode cX0_init 0 = .ok (.aload_n 0, 1) := by decide +kernel
theorem dX0_init_1 : decode cX0_init 1 = .ok (.invokespecial 3, 3) := by decide +kernel
theorem dX0_init_4 : decode cX0_init 4 = .ok (.aload_n 0, 1) := by decide +kernel
theorem dX0_init_5 : decode cX0_init 5 = .ok (.bipush 72, 2) := by decide +kernel
theorem dX0_init_7 : decode cX0_init 7 = .ok (.newarray .int, 2) := by decide +kernel
theorem dX0_init_9 : decode cX0_init 9 = .ok (.putfield 9, 3) := by decide +kernel
theorem dX0_init_12 : decode cX0_init 12 = .ok (.aload_n 0, 1) := by decide +kernel
theorem dX0_init_13 : decode cX0_init 13 = .ok (.bipush 12, 2) := by decide +kernel
theorem dX0_init_15 : decode cX0_init 15 = .ok (.newarray .int, 2) := by decide +kernel
theorem dX0_init_17 : decode cX0_init 17 = .ok (.putfield 15, 3) := by decide +kernel
theorem dX0_init_20 : decode cX0_init 20 = .ok (.return_, 1) := by decide +kernel
set_option maxRecDepth 20000 in
theorem ggX0_learn_X4_look : GoodIn wsX0_learn wsX4_look := goodIn_r _ [11, 12, 60, 61, 62, 63, 64, 65, 66, 67, 68, 69] (by decide +kernel) (by decide +kernel)
set_option maxRecDepth 20000 in
theorem gX0_learn_X4_look : GoodIn wsX0_learn (wsV RX0 38 RX4 yX4_look wsX4_look) := goodIn_app (goodIn_of _ (by decide +kernel)) ggX0_learn_X4_look
set_option maxRecDepth 20000 in
theorem ggX0_learn_X4_questionAt : GoodIn wsX0_learn wsX4_questionAt := goodIn_r _ [16, 17, 18, 60, 61, 62, 63, 64, 65, 66, 67, 68, 69] (by decide +kernel) (by decide +kernel)
set_option maxRecDepth 20000 in
theorem gX0_learn_X4_questionAt : GoodIn wsX0_learn (wsV RX0 45 RX4 yX4_questionAt wsX4_questionAt) := goodIn_app (goodIn_of _ (by decide +kernel)) ggX0_learn_X4_questionAt
set_option maxRecDepth 20000 in
theorem ggX0_learn_X4_costBy : GoodIn wsX0_learn wsX4_costBy := goodIn_r _ [22, 12, 23, 24, 25, 26, 27, 28, 29, 30, 31, 32, 33, 34, 8, 9, 10, 11, 35, 36, 37, 38, 39, 40, 41, 42, 43, 44, 45, 46, 47, 48, 49, 50, 51, 52, 60, 61, 62, 63, 64, 65, 66, 67, 68, 69] (by decide +kernel) (by decide +kernel)
set_option maxRecDepth 20000 in
theorem gX0_learn_X4_costBy : GoodIn wsX0_learn (wsV RX0 49 RX4 yX4_costBy wsX4_costBy) := goodIn_app (goodIn_of _ (by decide +kernel)) ggX0_learn_X4_costBy
set_option maxRecDepth 20000 in
theorem ggX0_learn_X2_reachesAll : GoodIn wsX0_learn wsX2_reachesAll := goodIn_r _ [55, 56, 24, 25, 26, 27, 28, 29, 30, 31, 32, 33, 57, 58, 59] (by decide +kernel) (by decide +kernel)
set_option maxRecDepth 20000 in
theorem gX0_learn_X2_reachesAll : GoodIn wsX0_learn (va_wsS RX0 53 yX2_reachesAll wsX2_reachesAll) := goodIn_app (goodIn_of _ (by decide +kernel)) ggX0_learn_X2_reachesAll
theorem dX0_learn_0 : decode cX0_learn 0 = .ok (.aload_n 0, 1) := by decide +kernel
theorem dX0_learn_1 : decode cX0_learn 1 = .ok (.aload_n 1, 1) := by decide +kernel
theorem dX0_learn_2 : decode cX0_learn 2 = .ok (.getfield 18, 3) := by decide +kernel
theorem dX0_learn_5 : decode cX0_learn 5 = .ok (.putfield 24, 3) := by decide +kernel
theorem dX0_learn_8 : decode cX0_learn 8 = .ok (.aload_n 0, 1) := by decide +kernel
theorem dX0_learn_9 : decode cX0_learn 9 = .ok (.aload_n 1, 1) := by decide +kernel
theorem dX0_learn_10 : decode cX0_learn 10 = .ok (.getfield 25, 3) := by decide +kernel
theorem dX0_learn_13 : decode cX0_learn 13 = .ok (.putfield 28, 3) := by decide +kernel
theorem dX0_learn_16 : decode cX0_learn 16 = .ok (.aload_n 0, 1) := by decide +kernel
theorem dX0_learn_17 : decode cX0_learn 17 = .ok (.aload_n 1, 1) := by decide +kernel
theorem dX0_learn_18 : decode cX0_learn 18 = .ok (.getfield 31, 3) := by decide +kernel
theorem dX0_learn_21 : decode cX0_learn 21 = .ok (.putfield 34, 3) := by decide +kernel
theorem dX0_learn_24 : decode cX0_learn 24 = .ok (.aload_n 0, 1) := by decide +kernel
theorem dX0_learn_25 : decode cX0_learn 25 = .ok (.aload_n 1, 1) := by decide +kernel
theorem dX0_learn_26 : decode cX0_learn 26 = .ok (.getfield 35, 3) := by decide +kernel
theorem dX0_learn_29 : decode cX0_learn 29 = .ok (.aload_n 1, 1) := by decide +kernel
theorem dX0_learn_30 : decode cX0_learn 30 = .ok (.invokevirtual 38, 3) := by decide +kernel
theorem dX0_learn_33 : decode cX0_learn 33 = .ok (.iconst 1, 1) := by decide +kernel
theorem dX0_learn_34 : decode cX0_learn 34 = .ok (.iadd, 1) := by decide +kernel
theorem dX0_learn_35 : decode cX0_learn 35 = .ok (.imul, 1) := by decide +kernel
theorem dX0_learn_36 : decode cX0_learn 36 = .ok (.putfield 42, 3) := by decide +kernel
theorem dX0_learn_39 : decode cX0_learn 39 = .ok (.iconst 0, 1) := by decide +kernel
theorem dX0_learn_40 : decode cX0_learn 40 = .ok (.istore_n 2, 1) := by decide +kernel
theorem dX0_learn_41 : decode cX0_learn 41 = .ok (.iconst 0, 1) := by decide +kernel
theorem dX0_learn_42 : decode cX0_learn 42 = .ok (.istore_n 3, 1) := by decide +kernel
theorem dX0_learn_43 : decode cX0_learn 43 = .ok (.iload_n 3, 1) := by decide +kernel
theorem dX0_learn_44 : decode cX0_learn 44 = .ok (.aload_n 0, 1) := by decide +kernel
theorem dX0_learn_45 : decode cX0_learn 45 = .ok (.getfield 24, 3) := by decide +kernel
theorem dX0_learn_48 : decode cX0_learn 48 = .ok (.if_icmp .ge 101, 3) := by decide +kernel
theorem dX0_learn_51 : decode cX0_learn 51 = .ok (.iload_n 3, 1) := by decide +kernel
theorem dX0_learn_52 : decode cX0_learn 52 = .ok (.aload_n 0, 1) := by decide +kernel
theorem dX0_learn_53 : decode cX0_learn 53 = .ok (.getfield 15, 3) := by decide +kernel
theorem dX0_learn_56 : decode cX0_learn 56 = .ok (.arraylength, 1) := by decide +kernel
theorem dX0_learn_57 : decode cX0_learn 57 = .ok (.if_icmp .ge 92, 3) := by decide +kernel
theorem dX0_learn_60 : decode cX0_learn 60 = .ok (.aload_n 1, 1) := by decide +kernel
theorem dX0_learn_61 : decode cX0_learn 61 = .ok (.iload_n 3, 1) := by decide +kernel
theorem dX0_learn_62 : decode cX0_learn 62 = .ok (.invokevirtual 45, 3) := by decide +kernel
theorem dX0_learn_65 : decode cX0_learn 65 = .ok (.istore 4, 2) := by decide +kernel
theorem dX0_learn_67 : decode cX0_learn 67 = .ok (.iconst 0, 1) := by decide +kernel
theorem dX0_learn_68 : decode cX0_learn 68 = .ok (.istore 5, 2) := by decide +kernel
theorem dX0_learn_70 : decode cX0_learn 70 = .ok (.iconst 0, 1) := by decide +kernel
theorem dX0_learn_71 : decode cX0_learn 71 = .ok (.istore 6, 2) := by decide +kernel
theorem dX0_learn_73 : decode cX0_learn 73 = .ok (.iload 6, 2) := by decide +kernel
theorem dX0_learn_75 : decode cX0_learn 75 = .ok (.bipush 6, 2) := by decide +kernel
theorem dX0_learn_77 : decode cX0_learn 77 = .ok (.if_icmp .ge 58, 3) := by decide +kernel
theorem dX0_learn_80 : decode cX0_learn 80 = .ok (.iload_n 2, 1) := by decide +kernel
theorem dX0_learn_81 : decode cX0_learn 81 = .ok (.aload_n 0, 1) := by decide +kernel
theorem dX0_learn_82 : decode cX0_learn 82 = .ok (.getfield 9, 3) := by decide +kernel
theorem dX0_learn_85 : decode cX0_learn 85 = .ok (.arraylength, 1) := by decide +kernel
theorem dX0_learn_86 : decode cX0_learn 86 = .ok (.if_icmp .ge 49, 3) := by decide +kernel
theorem dX0_learn_89 : decode cX0_learn 89 = .ok (.aload_n 0, 1) := by decide +kernel
theorem dX0_learn_90 : decode cX0_learn 90 = .ok (.getfield 9, 3) := by decide +kernel
theorem dX0_learn_93 : decode cX0_learn 93 = .ok (.iload_n 2, 1) := by decide +kernel
theorem dX0_learn_94 : decode cX0_learn 94 = .ok (.aload_n 1, 1) := by decide +kernel
theorem dX0_learn_95 : decode cX0_learn 95 = .ok (.iload 4, 2) := by decide +kernel
theorem dX0_learn_97 : decode cX0_learn 97 = .ok (.iload 6, 2) := by decide +kernel
theorem dX0_learn_99 : decode cX0_learn 99 = .ok (.invokevirtual 49, 3) := by decide +kernel
theorem dX0_learn_102 : decode cX0_learn 102 = .ok (.iastore, 1) := by decide +kernel
theorem dX0_learn_103 : decode cX0_learn 103 = .ok (.iinc 2 1, 3) := by decide +kernel
theorem dX0_learn_106 : decode cX0_learn 106 = .ok (.iload 5, 2) := by decide +kernel
theorem dX0_learn_108 : decode cX0_learn 108 = .ok (.iload 4, 2) := by decide +kernel
theorem dX0_learn_110 : decode cX0_learn 110 = .ok (.iload 6, 2) := by decide +kernel
theorem dX0_learn_112 : decode cX0_learn 112 = .ok (.invokestatic 53, 3) := by decide +kernel
theorem dX0_learn_115 : decode cX0_learn 115 = .ok (.ifCond .eq 10, 3) := by decide +kernel
theorem dX0_learn_118 : decode cX0_learn 118 = .ok (.iconst 1, 1) := by decide +kernel
theorem dX0_learn_119 : decode cX0_learn 119 = .ok (.iload 6, 2) := by decide +kernel
theorem dX0_learn_121 : decode cX0_learn 121 = .ok (.ishl, 1) := by decide +kernel
theorem dX0_learn_122 : decode cX0_learn 122 = .ok (.goto 4, 3) := by decide +kernel
theorem dX0_learn_125 : decode cX0_learn 125 = .ok (.iconst 0, 1) := by decide +kernel
theorem dX0_learn_126 : decode cX0_learn 126 = .ok (.ior, 1) := by decide +kernel
theorem dX0_learn_127 : decode cX0_learn 127 = .ok (.istore 5, 2) := by decide +kernel
theorem dX0_learn_129 : decode cX0_learn 129 = .ok (.iinc 6 1, 3) := by decide +kernel
theorem dX0_learn_132 : decode cX0_learn 132 = .ok (.goto (-59), 3) := by decide +kernel
theorem dX0_learn_135 : decode cX0_learn 135 = .ok (.aload_n 0, 1) := by decide +kernel
theorem dX0_learn_136 : decode cX0_learn 136 = .ok (.getfield 15, 3) := by decide +kernel
theorem dX0_learn_139 : decode cX0_learn 139 = .ok (.iload_n 3, 1) := by decide +kernel
theorem dX0_learn_140 : decode cX0_learn 140 = .ok (.iload 5, 2) := by decide +kernel
theorem dX0_learn_142 : decode cX0_learn 142 = .ok (.iastore, 1) := by decide +kernel
theorem dX0_learn_143 : decode cX0_learn 143 = .ok (.iinc 3 1, 3) := by decide +kernel
theorem dX0_learn_146 : decode cX0_learn 146 = .ok (.goto (-103), 3) := by decide +kernel
theorem dX0_learn_149 : decode cX0_learn 149 = .ok (.return_, 1) := by decide +kernel
set_option maxRecDepth 20000 in
theorem ggX0_costWith_X0_costAt : GoodIn wsX0_costWith wsX0_costAt := goodIn_r _ [11, 12, 2, 13, 14, 15, 16, 17, 18] (by decide +kernel) (by decide +kernel)
set_option maxRecDepth 20000 in
theorem gX0_costWith_X0_costAt : GoodIn wsX0_costWith (wsV RX0 59 RX0 yX0_costAt wsX0_costAt) := goodIn_app (goodIn_of _ (by decide +kernel)) ggX0_costWith_X0_costAt
theorem dX0_costWith_0 : decode cX0_costWith 0 = .ok (.iconst 0, 1) := by decide +kernel
theorem dX0_costWith_1 : decode cX0_costWith 1 = .ok (.istore_n 2, 1) := by decide +kernel
theorem dX0_costWith_2 : decode cX0_costWith 2 = .ok (.iconst 0, 1) := by decide +kernel
theorem dX0_costWith_3 : decode cX0_costWith 3 = .ok (.istore_n 3, 1) := by decide +kernel
theorem dX0_costWith_4 : decode cX0_costWith 4 = .ok (.iload_n 3, 1) := by decide +kernel
theorem dX0_costWith_5 : decode cX0_costWith 5 = .ok (.aload_n 0, 1) := by decide +kernel
theorem dX0_costWith_6 : decode cX0_costWith 6 = .ok (.getfield 24, 3) := by decide +kernel
theorem dX0_costWith_9 : decode cX0_costWith 9 = .ok (.if_icmp .ge 60, 3) := by decide +kernel
theorem dX0_costWith_12 : decode cX0_costWith 12 = .ok (.aload_n 0, 1) := by decide +kernel
theorem dX0_costWith_13 : decode cX0_costWith 13 = .ok (.getfield 28, 3) := by decide +kernel
theorem dX0_costWith_16 : decode cX0_costWith 16 = .ok (.istore 4, 2) := by decide +kernel
theorem dX0_costWith_18 : decode cX0_costWith 18 = .ok (.iconst 0, 1) := by decide +kernel
theorem dX0_costWith_19 : decode cX0_costWith 19 = .ok (.istore 5, 2) := by decide +kernel
theorem dX0_costWith_21 : decode cX0_costWith 21 = .ok (.iload 5, 2) := by decide +kernel
theorem dX0_costWith_23 : decode cX0_costWith 23 = .ok (.bipush 6, 2) := by decide +kernel
theorem dX0_costWith_25 : decode cX0_costWith 25 = .ok (.if_icmp .ge 33, 3) := by decide +kernel
theorem dX0_costWith_28 : decode cX0_costWith 28 = .ok (.iload_n 1, 1) := by decide +kernel
theorem dX0_costWith_29 : decode cX0_costWith 29 = .ok (.iload 5, 2) := by decide +kernel
theorem dX0_costWith_31 : decode cX0_costWith 31 = .ok (.ishr, 1) := by decide +kernel
theorem dX0_costWith_32 : decode cX0_costWith 32 = .ok (.iconst 1, 1) := by decide +kernel
theorem dX0_costWith_33 : decode cX0_costWith 33 = .ok (.iand, 1) := by decide +kernel
theorem dX0_costWith_34 : decode cX0_costWith 34 = .ok (.iconst 1, 1) := by decide +kernel
theorem dX0_costWith_35 : decode cX0_costWith 35 = .ok (.if_icmp .ne 17, 3) := by decide +kernel
theorem dX0_costWith_38 : decode cX0_costWith 38 = .ok (.iload 4, 2) := by decide +kernel
theorem dX0_costWith_40 : decode cX0_costWith 40 = .ok (.aload_n 0, 1) := by decide +kernel
theorem dX0_costWith_41 : decode cX0_costWith 41 = .ok (.iload_n 3, 1) := by decide +kernel
theorem dX0_costWith_42 : decode cX0_costWith 42 = .ok (.iload 5, 2) := by decide +kernel
theorem dX0_costWith_44 : decode cX0_costWith 44 = .ok (.invokevirtual 59, 3) := by decide +kernel
theorem dX0_costWith_47 : decode cX0_costWith 47 = .ok (.invokestatic 62, 3) := by decide +kernel
theorem dX0_costWith_50 : decode cX0_costWith 50 = .ok (.istore 4, 2) := by decide +kernel
theorem dX0_costWith_52 : decode cX0_costWith 52 = .ok (.iinc 5 1, 3) := by decide +kernel
theorem dX0_costWith_55 : decode cX0_costWith 55 = .ok (.goto (-34), 3) := by decide +kernel
theorem dX0_costWith_58 : decode cX0_costWith 58 = .ok (.iload_n 2, 1) := by decide +kernel
theorem dX0_costWith_59 : decode cX0_costWith 59 = .ok (.iload 4, 2) := by decide +kernel
theorem dX0_costWith_61 : decode cX0_costWith 61 = .ok (.iadd, 1) := by decide +kernel
theorem dX0_costWith_62 : decode cX0_costWith 62 = .ok (.istore_n 2, 1) := by decide +kernel
theorem dX0_costWith_63 : decode cX0_costWith 63 = .ok (.iinc 3 1, 3) := by decide +kernel
theorem dX0_costWith_66 : decode cX0_costWith 66 = .ok (.goto (-62), 3) := by decide +kernel
theorem dX0_costWith_69 : decode cX0_costWith 69 = .ok (.iload_n 2, 1) := by decide +kernel
theorem dX0_costWith_70 : decode cX0_costWith 70 = .ok (.ireturn, 1) := by decide +kernel
theorem dX0_costAt_0 : decode cX0_costAt 0 = .ok (.bipush 6, 2) := by decide +kernel
theorem dX0_costAt_2 : decode cX0_costAt 2 = .ok (.iload_n 1, 1) := by decide +kernel
theorem dX0_costAt_3 : decode cX0_costAt 3 = .ok (.imul, 1) := by decide +kernel
theorem dX0_costAt_4 : decode cX0_costAt 4 = .ok (.iload_n 2, 1) := by decide +kernel
theorem dX0_costAt_5 : decode cX0_costAt 5 = .ok (.iadd, 1) := by decide +kernel
theorem dX0_costAt_6 : decode cX0_costAt 6 = .ok (.istore_n 3, 1) := by decide +kernel
theorem dX0_costAt_7 : decode cX0_costAt 7 = .ok (.iload_n 3, 1) := by decide +kernel
theorem dX0_costAt_8 : decode cX0_costAt 8 = .ok (.ifCond .lt 21, 3) := by decide +kernel
theorem dX0_costAt_11 : decode cX0_costAt 11 = .ok (.iload_n 3, 1) := by decide +kernel
theorem dX0_costAt_12 : decode cX0_costAt 12 = .ok (.aload_n 0, 1) := by decide +kernel
theorem dX0_costAt_13 : decode cX0_costAt 13 = .ok (.getfield 9, 3) := by decide +kernel
theorem dX0_costAt_16 : decode cX0_costAt 16 = .ok (.arraylength, 1) := by decide +kernel
theorem dX0_costAt_17 : decode cX0_costAt 17 = .ok (.if_icmp .ge 12, 3) := by decide +kernel
theorem dX0_costAt_20 : decode cX0_costAt 20 = .ok (.aload_n 0, 1) := by decide +kernel
theorem dX0_costAt_21 : decode cX0_costAt 21 = .ok (.getfield 9, 3) := by decide +kernel
theorem dX0_costAt_24 : decode cX0_costAt 24 = .ok (.iload_n 3, 1) := by decide +kernel
theorem dX0_costAt_25 : decode cX0_costAt 25 = .ok (.iaload, 1) := by decide +kernel
theorem dX0_costAt_26 : decode cX0_costAt 26 = .ok (.goto 7, 3) := by decide +kernel
theorem dX0_costAt_29 : decode cX0_costAt 29 = .ok (.aload_n 0, 1) := by decide +kernel
theorem dX0_costAt_30 : decode cX0_costAt 30 = .ok (.getfield 28, 3) := by decide +kernel
theorem dX0_costAt_33 : decode cX0_costAt 33 = .ok (.ireturn, 1) := by decide +kernel
set_option maxRecDepth 20000 in
theorem ggX0_worth_X0_costWith : GoodIn wsX0_worth wsX0_costWith := goodIn_r _ [7, 8, 9, 10, 11, 12, 13, 14, 15, 16, 6, 17, 18, 19, 20, 21, 22, 23, 24] (by decide +kernel) (by decide +kernel)
set_option maxRecDepth 20000 in
theorem gX0_worth_X0_costWith : GoodIn wsX0_worth (wsV RX0 67 RX0 yX0_costWith wsX0_costWith) := goodIn_app (goodIn_of _ (by decide +kernel)) ggX0_worth_X0_costWith
theorem dX0_worth_0 : decode cX0_worth 0 = .ok (.iconst 1, 1) := by decide +kernel
theorem dX0_worth_1 : decode cX0_worth 1 = .ok (.iload_n 1, 1) := by decide +kernel
theorem dX0_worth_2 : decode cX0_worth 2 = .ok (.ishl, 1) := by decide +kernel
theorem dX0_worth_3 : decode cX0_worth 3 = .ok (.istore_n 2, 1) := by decide +kernel
theorem dX0_worth_4 : decode cX0_worth 4 = .ok (.aload_n 0, 1) := by decide +kernel
theorem dX0_worth_5 : decode cX0_worth 5 = .ok (.aload_n 0, 1) := by decide +kernel
theorem dX0_worth_6 : decode cX0_worth 6 = .ok (.getfield 34, 3) := by decide +kernel
theorem dX0_worth_9 : decode cX0_worth 9 = .ok (.iload_n 2, 1) := by decide +kernel
theorem dX0_worth_10 : decode cX0_worth 10 = .ok (.iconst (-1), 1) := by decide +kernel
theorem dX0_worth_11 : decode cX0_worth 11 = .ok (.ixor, 1) := by decide +kernel
theorem dX0_worth_12 : decode cX0_worth 12 = .ok (.iand, 1) := by decide +kernel
theorem dX0_worth_13 : decode cX0_worth 13 = .ok (.invokevirtual 67, 3) := by decide +kernel
theorem dX0_worth_16 : decode cX0_worth 16 = .ok (.aload_n 0, 1) := by decide +kernel
theorem dX0_worth_17 : decode cX0_worth 17 = .ok (.aload_n 0, 1) := by decide +kernel
theorem dX0_worth_18 : decode cX0_worth 18 = .ok (.getfield 34, 3) := by decide +kernel
theorem dX0_worth_21 : decode cX0_worth 21 = .ok (.iload_n 2, 1) := by decide +kernel
theorem dX0_worth_22 : decode cX0_worth 22 = .ok (.ior, 1) := by decide +kernel
theorem dX0_worth_23 : decode cX0_worth 23 = .ok (.invokevirtual 67, 3) := by decide +kernel
theorem dX0_worth_26 : decode cX0_worth 26 = .ok (.isub, 1) := by decide +kernel
theorem dX0_worth_27 : decode cX0_worth 27 = .ok (.aload_n 0, 1) := by decide +kernel
theorem dX0_worth_28 : decode cX0_worth 28 = .ok (.getfield 42, 3) := by decide +kernel
theorem dX0_worth_31 : decode cX0_worth 31 = .ok (.isub, 1) := by decide +kernel
theorem dX0_worth_32 : decode cX0_worth 32 = .ok (.ireturn, 1) := by decide +kernel
set_option maxRecDepth 20000 in
theorem ggX0_orderToBuild_X0_worth : GoodIn wsX0_orderToBuild wsX0_worth := goodIn_r _ [6, 1, 7, 8, 9, 10, 5, 11, 12, 13, 14, 15, 16, 17, 18, 19, 20, 21, 22, 23, 24, 25, 26, 27, 28] (by decide +kernel) (by decide +kernel)
set_option maxRecDepth 20000 in
theorem gX0_orderToBuild_X0_worth : GoodIn wsX0_orderToBuild (wsV RX0 70 RX0 yX0_worth wsX0_worth) := goodIn_app (goodIn_of _ (by decide +kernel)) ggX0_orderToBuild_X0_worth
theorem dX0_orderToBuild_0 : decode cX0_orderToBuild 0 = .ok (.iconst (-1), 1) := by decide +kernel
theorem dX0_orderToBuild_1 : decode cX0_orderToBuild 1 = .ok (.istore_n 1, 1) := by decide +kernel
theorem dX0_orderToBuild_2 : decode cX0_orderToBuild 2 = .ok (.iconst 0, 1) := by decide +kernel
theorem dX0_orderToBuild_3 : decode cX0_orderToBuild 3 = .ok (.istore_n 2, 1) := by decide +kernel
theorem dX0_orderToBuild_4 : decode cX0_orderToBuild 4 = .ok (.iconst 0, 1) := by decide +kernel
theorem dX0_orderToBuild_5 : decode cX0_orderToBuild 5 = .ok (.istore_n 3, 1) := by decide +kernel
theorem dX0_orderToBuild_6 : decode cX0_orderToBuild 6 = .ok (.iload_n 3, 1) := by decide +kernel
theorem dX0_orderToBuild_7 : decode cX0_orderToBuild 7 = .ok (.bipush 6, 2) := by decide +kernel
theorem dX0_orderToBuild_9 : decode cX0_orderToBuild 9 = .ok (.if_icmp .ge 42, 3) := by decide +kernel
theorem dX0_orderToBuild_12 : decode cX0_orderToBuild 12 = .ok (.aload_n 0, 1) := by decide +kernel
theorem dX0_orderToBuild_13 : decode cX0_orderToBuild 13 = .ok (.getfield 34, 3) := by decide +kernel
theorem dX0_orderToBuild_16 : decode cX0_orderToBuild 16 = .ok (.iload_n 3, 1) := by decide +kernel
theorem dX0_orderToBuild_17 : decode cX0_orderToBuild 17 = .ok (.ishr, 1) := by decide +kernel
theorem dX0_orderToBuild_18 : decode cX0_orderToBuild 18 = .ok (.iconst 1, 1) := by decide +kernel
theorem dX0_orderToBuild_19 : decode cX0_orderToBuild 19 = .ok (.iand, 1) := by decide +kernel
theorem dX0_orderToBuild_20 : decode cX0_orderToBuild 20 = .ok (.ifCond .ne 11, 3) := by decide +kernel
theorem dX0_orderToBuild_23 : decode cX0_orderToBuild 23 = .ok (.aload_n 0, 1) := by decide +kernel
theorem dX0_orderToBuild_24 : decode cX0_orderToBuild 24 = .ok (.iload_n 3, 1) := by decide +kernel
theorem dX0_orderToBuild_25 : decode cX0_orderToBuild 25 = .ok (.invokevirtual 70, 3) := by decide +kernel
theorem dX0_orderToBuild_28 : decode cX0_orderToBuild 28 = .ok (.goto 4, 3) := by decide +kernel
theorem dX0_orderToBuild_31 : decode cX0_orderToBuild 31 = .ok (.iconst 0, 1) := by decide +kernel
theorem dX0_orderToBuild_32 : decode cX0_orderToBuild 32 = .ok (.istore 4, 2) := by decide +kernel
theorem dX0_orderToBuild_34 : decode cX0_orderToBuild 34 = .ok (.iload 4, 2) := by decide +kernel
theorem dX0_orderToBuild_36 : decode cX0_orderToBuild 36 = .ok (.iload_n 2, 1) := by decide +kernel
theorem dX0_orderToBuild_37 : decode cX0_orderToBuild 37 = .ok (.if_icmp .le 8, 3) := by decide +kernel
theorem dX0_orderToBuild_40 : decode cX0_orderToBuild 40 = .ok (.iload 4, 2) := by decide +kernel
theorem dX0_orderToBuild_42 : decode cX0_orderToBuild 42 = .ok (.istore_n 2, 1) := by decide +kernel
theorem dX0_orderToBuild_43 : decode cX0_orderToBuild 43 = .ok (.iload_n 3, 1) := by decide +kernel
theorem dX0_orderToBuild_44 : decode cX0_orderToBuild 44 = .ok (.istore_n 1, 1) := by decide +kernel
theorem dX0_orderToBuild_45 : decode cX0_orderToBuild 45 = .ok (.iinc 3 1, 3) := by decide +kernel
theorem dX0_orderToBuild_48 : decode cX0_orderToBuild 48 = .ok (.goto (-42), 3) := by decide +kernel
theorem dX0_orderToBuild_51 : decode cX0_orderToBuild 51 = .ok (.iload_n 1, 1) := by decide +kernel
theorem dX0_orderToBuild_52 : decode cX0_orderToBuild 52 = .ok (.ireturn, 1) := by decide +kernel
set_option maxRecDepth 20000 in
theorem ggX0_orderToDrop_X0_worth : GoodIn wsX0_orderToDrop wsX0_worth := goodIn_r _ [6, 1, 7, 8, 9, 10, 5, 11, 12, 13, 14, 15, 16, 17, 18, 19, 20, 21, 22, 23, 24, 25, 26, 27, 28] (by decide +kernel) (by decide +kernel)
set_option maxRecDepth 20000 in
theorem gX0_orderToDrop_X0_worth : GoodIn wsX0_orderToDrop (wsV RX0 70 RX0 yX0_worth wsX0_worth) := goodIn_app (goodIn_of _ (by decide +kernel)) ggX0_orderToDrop_X0_worth
theorem dX0_orderToDrop_0 : decode cX0_orderToDrop 0 = .ok (.iconst (-1), 1) := by decide +kernel
theorem dX0_orderToDrop_1 : decode cX0_orderToDrop 1 = .ok (.istore_n 1, 1) := by decide +kernel
theorem dX0_orderToDrop_2 : decode cX0_orderToDrop 2 = .ok (.iconst 0, 1) := by decide +kernel
theorem dX0_orderToDrop_3 : decode cX0_orderToDrop 3 = .ok (.istore_n 2, 1) := by decide +kernel
theorem dX0_orderToDrop_4 : decode cX0_orderToDrop 4 = .ok (.iconst 0, 1) := by decide +kernel
theorem dX0_orderToDrop_5 : decode cX0_orderToDrop 5 = .ok (.istore_n 3, 1) := by decide +kernel
theorem dX0_orderToDrop_6 : decode cX0_orderToDrop 6 = .ok (.iload_n 3, 1) := by decide +kernel
theorem dX0_orderToDrop_7 : decode cX0_orderToDrop 7 = .ok (.bipush 6, 2) := by decide +kernel
theorem dX0_orderToDrop_9 : decode cX0_orderToDrop 9 = .ok (.if_icmp .ge 43, 3) := by decide +kernel
theorem dX0_orderToDrop_12 : decode cX0_orderToDrop 12 = .ok (.aload_n 0, 1) := by decide +kernel
theorem dX0_orderToDrop_13 : decode cX0_orderToDrop 13 = .ok (.getfield 34, 3) := by decide +kernel
theorem dX0_orderToDrop_16 : decode cX0_orderToDrop 16 = .ok (.iload_n 3, 1) := by decide +kernel
theorem dX0_orderToDrop_17 : decode cX0_orderToDrop 17 = .ok (.ishr, 1) := by decide +kernel
theorem dX0_orderToDrop_18 : decode cX0_orderToDrop 18 = .ok (.iconst 1, 1) := by decide +kernel
theorem dX0_orderToDrop_19 : decode cX0_orderToDrop 19 = .ok (.iand, 1) := by decide +kernel
theorem dX0_orderToDrop_20 : decode cX0_orderToDrop 20 = .ok (.iconst 1, 1) := by decide +kernel
theorem dX0_orderToDrop_21 : decode cX0_orderToDrop 21 = .ok (.if_icmp .ne 11, 3) := by decide +kernel
theorem dX0_orderToDrop_24 : decode cX0_orderToDrop 24 = .ok (.aload_n 0, 1) := by decide +kernel
theorem dX0_orderToDrop_25 : decode cX0_orderToDrop 25 = .ok (.iload_n 3, 1) := by decide +kernel
theorem dX0_orderToDrop_26 : decode cX0_orderToDrop 26 = .ok (.invokevirtual 70, 3) := by decide +kernel
theorem dX0_orderToDrop_29 : decode cX0_orderToDrop 29 = .ok (.goto 4, 3) := by decide +kernel
theorem dX0_orderToDrop_32 : decode cX0_orderToDrop 32 = .ok (.iconst 0, 1) := by decide +kernel
theorem dX0_orderToDrop_33 : decode cX0_orderToDrop 33 = .ok (.istore 4, 2) := by decide +kernel
theorem dX0_orderToDrop_35 : decode cX0_orderToDrop 35 = .ok (.iload 4, 2) := by decide +kernel
theorem dX0_orderToDrop_37 : decode cX0_orderToDrop 37 = .ok (.iload_n 2, 1) := by decide +kernel
theorem dX0_orderToDrop_38 : decode cX0_orderToDrop 38 = .ok (.if_icmp .ge 8, 3) := by decide +kernel
theorem dX0_orderToDrop_41 : decode cX0_orderToDrop 41 = .ok (.iload 4, 2) := by decide +kernel
theorem dX0_orderToDrop_43 : decode cX0_orderToDrop 43 = .ok (.istore_n 2, 1) := by decide +kernel
theorem dX0_orderToDrop_44 : decode cX0_orderToDrop 44 = .ok (.iload_n 3, 1) := by decide +kernel
theorem dX0_orderToDrop_45 : decode cX0_orderToDrop 45 = .ok (.istore_n 1, 1) := by decide +kernel
theorem dX0_orderToDrop_46 : decode cX0_orderToDrop 46 = .ok (.iinc 3 1, 3) := by decide +kernel
theorem dX0_orderToDrop_49 : decode cX0_orderToDrop 49 = .ok (.goto (-43), 3) := by decide +kernel
theorem dX0_orderToDrop_52 : decode cX0_orderToDrop 52 = .ok (.iload_n 1, 1) := by decide +kernel
theorem dX0_orderToDrop_53 : decode cX0_orderToDrop 53 = .ok (.ireturn, 1) := by decide +kernel
set_option maxRecDepth 20000 in
theorem ggX0_follow_X0_learn : GoodIn wsX0_follow wsX0_learn := goodIn_r _ [5, 6, 7, 8, 9, 10, 11, 12, 13, 14, 15, 16, 17, 18, 19, 20, 21, 22, 23, 24, 25, 26, 27, 28, 29, 30, 31, 32, 33, 34, 35, 36, 37, 38, 39, 40, 41, 42, 43, 44, 45, 46, 47, 48, 49, 50, 51, 52, 53, 54, 55, 56, 57, 58, 59, 60, 61, 62, 63, 64, 106, 107, 108, 109, 110, 111, 112, 113, 114, 115, 116, 117, 118, 119, 120, 121] (by decide +kernel) (by decide +kernel)
set_option maxRecDepth 20000 in
theorem gX0_follow_X0_learn : GoodIn wsX0_follow (wsV RX0 73 RX0 yX0_learn wsX0_learn) := goodIn_app (goodIn_of _ (by decide +kernel)) ggX0_follow_X0_learn
set_option maxRecDepth 20000 in
theorem ggX0_follow_X0_orderToBuild : GoodIn wsX0_follow wsX0_orderToBuild := goodIn_r _ [68, 8, 69, 70, 71, 4, 72, 9, 73, 74, 75, 76, 6, 7, 77, 78, 79, 80, 81, 82, 83, 84, 11, 116, 117, 118, 119, 120, 121] (by decide +kernel) (by decide +kernel)
set_option maxRecDepth 20000 in
theorem gX0_follow_X0_orderToBuild : GoodIn wsX0_follow (wsV RX0 77 RX0 yX0_orderToBuild wsX0_orderToBuild) := goodIn_app (goodIn_of _ (by decide +kernel)) ggX0_follow_X0_orderToBuild
set_option maxRecDepth 20000 in
theorem ggX0_follow_X4_keep : GoodIn wsX0_follow wsX4_keep := goodIn_r _ [88, 17, 89, 90, 39, 13, 14, 15, 16, 106, 107, 108, 109, 110, 111, 112, 113, 114, 115] (by decide +kernel) (by decide +kernel)
set_option maxRecDepth 20000 in
theorem gX0_follow_X4_keep : GoodIn wsX0_follow (wsV RX0 80 RX4 yX4_keep wsX4_keep) := goodIn_app (goodIn_of _ (by decide +kernel)) ggX0_follow_X4_keep
set_option maxRecDepth 20000 in
theorem ggX0_follow_X0_orderToDrop : GoodIn wsX0_follow wsX0_orderToDrop := goodIn_r _ [94, 8, 69, 70, 71, 4, 72, 9, 73, 74, 75, 76, 6, 7, 77, 78, 79, 80, 81, 82, 83, 84, 11, 116, 117, 118, 119, 120, 121] (by decide +kernel) (by decide +kernel)
set_option maxRecDepth 20000 in
theorem gX0_follow_X0_orderToDrop : GoodIn wsX0_follow (wsV RX0 83 RX0 yX0_orderToDrop wsX0_orderToDrop) := goodIn_app (goodIn_of _ (by decide +kernel)) ggX0_follow_X0_orderToDrop
set_option maxRecDepth 20000 in
theorem ggX0_follow_X4_discard : GoodIn wsX0_follow wsX4_discard := goodIn_r _ [98, 90, 99, 100, 101, 102, 103, 104, 105, 106, 107, 108, 109, 110, 111, 112, 113, 114, 115] (by decide +kernel) (by decide +kernel)
set_option maxRecDepth 20000 in
theorem gX0_follow_X4_discard : GoodIn wsX0_follow (wsV RX0 86 RX4 yX4_discard wsX4_discard) := goodIn_app (goodIn_of _ (by decide +kernel)) ggX0_follow_X4_discard
theorem dX0_follow_0 : decode cX0_follow 0 = .ok (.aload_n 0, 1) := by decide +kernel
theorem dX0_follow_1 : decode cX0_follow 1 = .ok (.aload_n 1, 1) := by decide +kernel
theorem dX0_follow_2 : decode cX0_follow 2 = .ok (.invokevirtual 73, 3) := by decide +kernel
theorem dX0_follow_5 : decode cX0_follow 5 = .ok (.aload_n 0, 1) := by decide +kernel
theorem dX0_follow_6 : decode cX0_follow 6 = .ok (.invokevirtual 77, 3) := by decide +kernel
theorem dX0_follow_9 : decode cX0_follow 9 = .ok (.istore_n 2, 1) := by decide +kernel
theorem dX0_follow_10 : decode cX0_follow 10 = .ok (.iload_n 2, 1) := by decide +kernel
theorem dX0_follow_11 : decode cX0_follow 11 = .ok (.iconst (-1), 1) := by decide +kernel
theorem dX0_follow_12 : decode cX0_follow 12 = .ok (.if_icmp .eq 14, 3) := by decide +kernel
theorem dX0_follow_15 : decode cX0_follow 15 = .ok (.aload_n 1, 1) := by decide +kernel
theorem dX0_follow_16 : decode cX0_follow 16 = .ok (.iload_n 2, 1) := by decide +kernel
theorem dX0_follow_17 : decode cX0_follow 17 = .ok (.invokevirtual 80, 3) := by decide +kernel
theorem dX0_follow_20 : decode cX0_follow 20 = .ok (.pop, 1) := by decide +kernel
theorem dX0_follow_21 : decode cX0_follow 21 = .ok (.bipush 10, 2) := by decide +kernel
theorem dX0_follow_23 : decode cX0_follow 23 = .ok (.iload_n 2, 1) := by decide +kernel
theorem dX0_follow_24 : decode cX0_follow 24 = .ok (.iadd, 1) := by decide +kernel
theorem dX0_follow_25 : decode cX0_follow 25 = .ok (.ireturn, 1) := by decide +kernel
theorem dX0_follow_26 : decode cX0_follow 26 = .ok (.aload_n 0, 1) := by decide +kernel
theorem dX0_follow_27 : decode cX0_follow 27 = .ok (.invokevirtual 83, 3) := by decide +kernel
theorem dX0_follow_30 : decode cX0_follow 30 = .ok (.istore_n 3, 1) := by decide +kernel
theorem dX0_follow_31 : decode cX0_follow 31 = .ok (.iload_n 3, 1) := by decide +kernel
theorem dX0_follow_32 : decode cX0_follow 32 = .ok (.iconst (-1), 1) := by decide +kernel
theorem dX0_follow_33 : decode cX0_follow 33 = .ok (.if_icmp .eq 9, 3) := by decide +kernel
theorem dX0_follow_36 : decode cX0_follow 36 = .ok (.aload_n 1, 1) := by decide +kernel
theorem dX0_follow_37 : decode cX0_follow 37 = .ok (.iload_n 3, 1) := by decide +kernel
theorem dX0_follow_38 : decode cX0_follow 38 = .ok (.invokevirtual 86, 3) := by decide +kernel
theorem dX0_follow_41 : decode cX0_follow 41 = .ok (.pop, 1) := by decide +kernel
theorem dX0_follow_42 : decode cX0_follow 42 = .ok (.iload_n 3, 1) := by decide +kernel
theorem dX0_follow_43 : decode cX0_follow 43 = .ok (.ireturn, 1) := by decide +kernel
set_option maxRecDepth 20000 in
theorem ggX0_smallestCover_J6_bitCount_0f7a4 : GoodIn wsX0_smallestCover wsJ6_bitCount_0f7a4 := goodIn_r _ [4, 5, 6, 7] (by decide +kernel) (by decide +kernel)
set_option maxRecDepth 20000 in
theorem gX0_smallestCover_J6_bitCount_0f7a4 : GoodIn wsX0_smallestCover (va_wsS RX0 89 yJ6_bitCount_0f7a4 wsJ6_bitCount_0f7a4) := goodIn_app (goodIn_of _ (by decide +kernel)) ggX0_smallestCover_J6_bitCount_0f7a4
set_option maxRecDepth 20000 in
theorem ggX0_smallestCover_X0_coversAll : GoodIn wsX0_smallestCover wsX0_coversAll := goodIn_r _ [12, 13, 14, 15, 16, 17, 18, 19, 20] (by decide +kernel) (by decide +kernel)
set_option maxRecDepth 20000 in
theorem gX0_smallestCover_X0_coversAll : GoodIn wsX0_smallestCover (wsV RX0 94 RX0 yX0_coversAll wsX0_coversAll) := goodIn_app (goodIn_of _ (by decide +kernel)) ggX0_smallestCover_X0_coversAll
theorem dX0_smallestCover_0 : decode cX0_smallestCover 0 = .ok (.bipush 63, 2) := by decide +kernel
theorem dX0_smallestCover_2 : decode cX0_smallestCover 2 = .ok (.istore_n 1, 1) := by decide +kernel
theorem dX0_smallestCover_3 : decode cX0_smallestCover 3 = .ok (.bipush 63, 2) := by decide +kernel
theorem dX0_smallestCover_5 : decode cX0_smallestCover 5 = .ok (.istore_n 2, 1) := by decide +kernel
theorem dX0_smallestCover_6 : decode cX0_smallestCover 6 = .ok (.iload_n 2, 1) := by decide +kernel
theorem dX0_smallestCover_7 : decode cX0_smallestCover 7 = .ok (.ifCond .lt 30, 3) := by decide +kernel
theorem dX0_smallestCover_10 : decode cX0_smallestCover 10 = .ok (.iload_n 2, 1) := by decide +kernel
theorem dX0_smallestCover_11 : decode cX0_smallestCover 11 = .ok (.invokestatic 89, 3) := by decide +kernel
theorem dX0_smallestCover_14 : decode cX0_smallestCover 14 = .ok (.iload_n 1, 1) := by decide +kernel
theorem dX0_smallestCover_15 : decode cX0_smallestCover 15 = .ok (.invokestatic 89, 3) := by decide +kernel
theorem dX0_smallestCover_18 : decode cX0_smallestCover 18 = .ok (.if_icmp .gt 13, 3) := by decide +kernel
theorem dX0_smallestCover_21 : decode cX0_smallestCover 21 = .ok (.aload_n 0, 1) := by decide +kernel
theorem dX0_smallestCover_22 : decode cX0_smallestCover 22 = .ok (.iload_n 2, 1) := by decide +kernel
theorem dX0_smallestCover_23 : decode cX0_smallestCover 23 = .ok (.invokevirtual 94, 3) := by decide +kernel
theorem dX0_smallestCover_26 : decode cX0_smallestCover 26 = .ok (.ifCond .eq 5, 3) := by decide +kernel
theorem dX0_smallestCover_29 : decode cX0_smallestCover 29 = .ok (.iload_n 2, 1) := by decide +kernel
theorem dX0_smallestCover_30 : decode cX0_smallestCover 30 = .ok (.istore_n 1, 1) := by decide +kernel
theorem dX0_smallestCover_31 : decode cX0_smallestCover 31 = .ok (.iinc 2 (-1), 3) := by decide +kernel
theorem dX0_smallestCover_34 : decode cX0_smallestCover 34 = .ok (.goto (-28), 3) := by decide +kernel
theorem dX0_smallestCover_37 : decode cX0_smallestCover 37 = .ok (.iload_n 1, 1) := by decide +kernel
theorem dX0_smallestCover_38 : decode cX0_smallestCover 38 = .ok (.ireturn, 1) := by decide +kernel
theorem dX0_coversAll_0 : decode cX0_coversAll 0 = .ok (.iconst 0, 1) := by decide +kernel
theorem dX0_coversAll_1 : decode cX0_coversAll 1 = .ok (.istore_n 2, 1) := by decide +kernel
theorem dX0_coversAll_2 : decode cX0_coversAll 2 = .ok (.iload_n 2, 1) := by decide +kernel
theorem dX0_coversAll_3 : decode cX0_coversAll 3 = .ok (.aload_n 0, 1) := by decide +kernel
theorem dX0_coversAll_4 : decode cX0_coversAll 4 = .ok (.getfield 24, 3) := by decide +kernel
theorem dX0_coversAll_7 : decode cX0_coversAll 7 = .ok (.if_icmp .ge 31, 3) := by decide +kernel
theorem dX0_coversAll_10 : decode cX0_coversAll 10 = .ok (.iload_n 2, 1) := by decide +kernel
theorem dX0_coversAll_11 : decode cX0_coversAll 11 = .ok (.aload_n 0, 1) := by decide +kernel
theorem dX0_coversAll_12 : decode cX0_coversAll 12 = .ok (.getfield 15, 3) := by decide +kernel
theorem dX0_coversAll_15 : decode cX0_coversAll 15 = .ok (.arraylength, 1) := by decide +kernel
theorem dX0_coversAll_16 : decode cX0_coversAll 16 = .ok (.if_icmp .ge 22, 3) := by decide +kernel
theorem dX0_coversAll_19 : decode cX0_coversAll 19 = .ok (.aload_n 0, 1) := by decide +kernel
theorem dX0_coversAll_20 : decode cX0_coversAll 20 = .ok (.getfield 15, 3) := by decide +kernel
theorem dX0_coversAll_23 : decode cX0_coversAll 23 = .ok (.iload_n 2, 1) := by decide +kernel
theorem dX0_coversAll_24 : decode cX0_coversAll 24 = .ok (.iaload, 1) := by decide +kernel
theorem dX0_coversAll_25 : decode cX0_coversAll 25 = .ok (.iload_n 1, 1) := by decide +kernel
theorem dX0_coversAll_26 : decode cX0_coversAll 26 = .ok (.iand, 1) := by decide +kernel
theorem dX0_coversAll_27 : decode cX0_coversAll 27 = .ok (.ifCond .ne 5, 3) := by decide +kernel
theorem dX0_coversAll_30 : decode cX0_coversAll 30 = .ok (.iconst 0, 1) := by decide +kernel
theorem dX0_coversAll_31 : decode cX0_coversAll 31 = .ok (.ireturn, 1) := by decide +kernel
theorem dX0_coversAll_32 : decode cX0_coversAll 32 = .ok (.iinc 2 1, 3) := by decide +kernel
theorem dX0_coversAll_35 : decode cX0_coversAll 35 = .ok (.goto (-33), 3) := by decide +kernel
theorem dX0_coversAll_38 : decode cX0_coversAll 38 = .ok (.iconst 1, 1) := by decide +kernel
theorem dX0_coversAll_39 : decode cX0_coversAll 39 = .ok (.ireturn, 1) := by decide +kernel
set_option maxRecDepth 20000 in
theorem ggX0_cheapestSet_X0_costWith : GoodIn wsX0_cheapestSet wsX0_costWith := goodIn_r _ [6, 7, 8, 9, 10, 11, 12, 13, 14, 15, 5, 16, 17, 25, 26, 27, 28, 29, 30] (by decide +kernel) (by decide +kernel)
set_option maxRecDepth 20000 in
theorem gX0_cheapestSet_X0_costWith : GoodIn wsX0_cheapestSet (wsV RX0 67 RX0 yX0_costWith wsX0_costWith) := goodIn_app (goodIn_of _ (by decide +kernel)) ggX0_cheapestSet_X0_costWith
set_option maxRecDepth 20000 in
theorem ggX0_cheapestSet_J6_bitCount_0f7a4 : GoodIn wsX0_cheapestSet wsJ6_bitCount_0f7a4 := goodIn_r _ [21, 22, 23, 24] (by decide +kernel) (by decide +kernel)
set_option maxRecDepth 20000 in
theorem gX0_cheapestSet_J6_bitCount_0f7a4 : GoodIn wsX0_cheapestSet (va_wsS RX0 89 yJ6_bitCount_0f7a4 wsJ6_bitCount_0f7a4) := goodIn_app (goodIn_of _ (by decide +kernel)) ggX0_cheapestSet_J6_bitCount_0f7a4
theorem dX0_cheapestSet_0 : decode cX0_cheapestSet 0 = .ok (.iconst 0, 1) := by decide +kernel
theorem dX0_cheapestSet_1 : decode cX0_cheapestSet 1 = .ok (.istore_n 1, 1) := by decide +kernel
theorem dX0_cheapestSet_2 : decode cX0_cheapestSet 2 = .ok (.aload_n 0, 1) := by decide +kernel
theorem dX0_cheapestSet_3 : decode cX0_cheapestSet 3 = .ok (.iconst 0, 1) := by decide +kernel
theorem dX0_cheapestSet_4 : decode cX0_cheapestSet 4 = .ok (.invokevirtual 67, 3) := by decide +kernel
theorem dX0_cheapestSet_7 : decode cX0_cheapestSet 7 = .ok (.istore_n 2, 1) := by decide +kernel
theorem dX0_cheapestSet_8 : decode cX0_cheapestSet 8 = .ok (.iconst 1, 1) := by decide +kernel
theorem dX0_cheapestSet_9 : decode cX0_cheapestSet 9 = .ok (.istore_n 3, 1) := by decide +kernel
theorem dX0_cheapestSet_10 : decode cX0_cheapestSet 10 = .ok (.iload_n 3, 1) := by decide +kernel
theorem dX0_cheapestSet_11 : decode cX0_cheapestSet 11 = .ok (.bipush 64, 2) := by decide +kernel
theorem dX0_cheapestSet_13 : decode cX0_cheapestSet 13 = .ok (.if_icmp .ge 37, 3) := by decide +kernel
theorem dX0_cheapestSet_16 : decode cX0_cheapestSet 16 = .ok (.aload_n 0, 1) := by decide +kernel
theorem dX0_cheapestSet_17 : decode cX0_cheapestSet 17 = .ok (.iload_n 3, 1) := by decide +kernel
theorem dX0_cheapestSet_18 : decode cX0_cheapestSet 18 = .ok (.invokevirtual 67, 3) := by decide +kernel
theorem dX0_cheapestSet_21 : decode cX0_cheapestSet 21 = .ok (.aload_n 0, 1) := by decide +kernel
theorem dX0_cheapestSet_22 : decode cX0_cheapestSet 22 = .ok (.getfield 42, 3) := by decide +kernel
theorem dX0_cheapestSet_25 : decode cX0_cheapestSet 25 = .ok (.iload_n 3, 1) := by decide +kernel
theorem dX0_cheapestSet_26 : decode cX0_cheapestSet 26 = .ok (.invokestatic 89, 3) := by decide +kernel
theorem dX0_cheapestSet_29 : decode cX0_cheapestSet 29 = .ok (.imul, 1) := by decide +kernel
theorem dX0_cheapestSet_30 : decode cX0_cheapestSet 30 = .ok (.iadd, 1) := by decide +kernel
theorem dX0_cheapestSet_31 : decode cX0_cheapestSet 31 = .ok (.istore 4, 2) := by decide +kernel
theorem dX0_cheapestSet_33 : decode cX0_cheapestSet 33 = .ok (.iload 4, 2) := by decide +kernel
theorem dX0_cheapestSet_35 : decode cX0_cheapestSet 35 = .ok (.iload_n 2, 1) := by decide +kernel
theorem dX0_cheapestSet_36 : decode cX0_cheapestSet 36 = .ok (.if_icmp .ge 8, 3) := by decide +kernel
theorem dX0_cheapestSet_39 : decode cX0_cheapestSet 39 = .ok (.iload 4, 2) := by decide +kernel
theorem dX0_cheapestSet_41 : decode cX0_cheapestSet 41 = .ok (.istore_n 2, 1) := by decide +kernel
theorem dX0_cheapestSet_42 : decode cX0_cheapestSet 42 = .ok (.iload_n 3, 1) := by decide +kernel
theorem dX0_cheapestSet_43 : decode cX0_cheapestSet 43 = .ok (.istore_n 1, 1) := by decide +kernel
theorem dX0_cheapestSet_44 : decode cX0_cheapestSet 44 = .ok (.iinc 3 1, 3) := by decide +kernel
theorem dX0_cheapestSet_47 : decode cX0_cheapestSet 47 = .ok (.goto (-37), 3) := by decide +kernel
theorem dX0_cheapestSet_50 : decode cX0_cheapestSet 50 = .ok (.iload_n 1, 1) := by decide +kernel
theorem dX0_cheapestSet_51 : decode cX0_cheapestSet 51 = .ok (.ireturn, 1) := by decide +kernel
set_option maxRecDepth 20000 in
theorem ggX1_init_X4_init : GoodIn wsX1_init wsX4_init := goodIn_r _ [9, 10, 2, 3, 11, 12, 13, 14, 15, 19, 20, 21, 22, 23, 24, 25, 26, 27, 28] (by decide +kernel) (by decide +kernel)
set_option maxRecDepth 20000 in
theorem gX1_init_X4_init_n17 : GoodIn wsX1_init (wsX4_init) := ggX1_init_X4_init
theorem dX1_init_0 : decode cX1_init 0 = .ok (.aload_n 0, 1) := by decide +kernel
theorem dX1_init_1 : decode cX1_init 1 = .ok (.invokespecial 3, 3) := by decide +kernel
theorem dX1_init_4 : decode cX1_init 4 = .ok (.aload_n 0, 1) := by decide +kernel
theorem dX1_init_5 : decode cX1_init 5 = .ok (.bipush 14, 2) := by decide +kernel
theorem dX1_init_7 : decode cX1_init 7 = .ok (.anewarray 9, 3) := by decide +kernel
theorem dX1_init_10 : decode cX1_init 10 = .ok (.putfield 11, 3) := by decide +kernel
theorem dX1_init_13 : decode cX1_init 13 = .ok (.iconst 0, 1) := by decide +kernel
theorem dX1_init_14 : decode cX1_init 14 = .ok (.istore_n 1, 1) := by decide +kernel
theorem dX1_init_15 : decode cX1_init 15 = .ok (.iload_n 1, 1) := by decide +kernel
theorem dX1_init_16 : decode cX1_init 16 = .ok (.aload_n 0, 1) := by decide +kernel
theorem dX1_init_17 : decode cX1_init 17 = .ok (.getfield 11, 3) := by decide +kernel
theorem dX1_init_20 : decode cX1_init 20 = .ok (.arraylength, 1) := by decide +kernel
theorem dX1_init_21 : decode cX1_init 21 = .ok (.if_icmp .ge 22, 3) := by decide +kernel
theorem dX1_init_24 : decode cX1_init 24 = .ok (.aload_n 0, 1) := by decide +kernel
theorem dX1_init_25 : decode cX1_init 25 = .ok (.getfield 11, 3) := by decide +kernel
theorem dX1_init_28 : decode cX1_init 28 = .ok (.iload_n 1, 1) := by decide +kernel
theorem dX1_init_29 : decode cX1_init 29 = .ok (.new 9, 3) := by decide +kernel
theorem dX1_init_32 : decode cX1_init 32 = .ok (.dup, 1) := by decide +kernel
theorem dX1_init_33 : decode cX1_init 33 = .ok (.invokespecial 17, 3) := by decide +kernel
theorem dX1_init_36 : decode cX1_init 36 = .ok (.aastore, 1) := by decide +kernel
theorem dX1_init_37 : decode cX1_init 37 = .ok (.iinc 1 1, 3) := by decide +kernel
theorem dX1_init_40 : decode cX1_init 40 = .ok (.goto (-25), 3) := by decide +kernel
theorem dX1_init_43 : decode cX1_init 43 = .ok (.return_, 1) := by decide +kernel
set_option maxRecDepth 20000 in
theorem ggX1_push_X1_stateAt : GoodIn wsX1_push wsX1_stateAt := goodIn_r _ [7, 2, 8, 27, 28, 29] (by decide +kernel) (by decide +kernel)
set_option maxRecDepth 20000 in
theorem gX1_push_X1_stateAt : GoodIn wsX1_push (wsV RX1 25 RX1 yX1_stateAt wsX1_stateAt) := goodIn_app (goodIn_of _ (by decide +kernel)) ggX1_push_X1_stateAt
set_option maxRecDepth 20000 in
theorem ggX1_push_X4_become : GoodIn wsX1_push wsX4_become := goodIn_r _ [13, 14, 15, 16, 17, 18, 19, 20, 21, 22, 23, 24, 25, 12, 26, 30, 31, 32, 33, 34, 35, 36, 37, 38, 39] (by decide +kernel) (by decide +kernel)
set_option maxRecDepth 20000 in
theorem gX1_push_X4_become : GoodIn wsX1_push (wsV RX1 29 RX4 yX4_become wsX4_become) := goodIn_app (goodIn_of _ (by decide +kernel)) ggX1_push_X4_become
theorem dX1_push_0 : decode cX1_push 0 = .ok (.aload_n 0, 1) := by decide +kernel
theorem dX1_push_1 : decode cX1_push 1 = .ok (.getfield 18, 3) := by decide +kernel
theorem dX1_push_4 : decode cX1_push 4 = .ok (.bipush 14, 2) := by decide +kernel
theorem dX1_push_6 : decode cX1_push 6 = .ok (.if_icmp .lt 26, 3) := by decide +kernel
theorem dX1_push_9 : decode cX1_push 9 = .ok (.aload_n 0, 1) := by decide +kernel
theorem dX1_push_10 : decode cX1_push 10 = .ok (.aload_n 0, 1) := by decide +kernel
theorem dX1_push_11 : decode cX1_push 11 = .ok (.getfield 22, 3) := by decide +kernel
theorem dX1_push_14 : decode cX1_push 14 = .ok (.iconst 1, 1) := by decide +kernel
theorem dX1_push_15 : decode cX1_push 15 = .ok (.iadd, 1) := by decide +kernel
theorem dX1_push_16 : decode cX1_push 16 = .ok (.bipush 14, 2) := by decide +kernel
theorem dX1_push_18 : decode cX1_push 18 = .ok (.irem, 1) := by decide +kernel
theorem dX1_push_19 : decode cX1_push 19 = .ok (.putfield 22, 3) := by decide +kernel
theorem dX1_push_22 : decode cX1_push 22 = .ok (.aload_n 0, 1) := by decide +kernel
theorem dX1_push_23 : decode cX1_push 23 = .ok (.dup, 1) := by decide +kernel
theorem dX1_push_24 : decode cX1_push 24 = .ok (.getfield 18, 3) := by decide +kernel
theorem dX1_push_27 : decode cX1_push 27 = .ok (.iconst 1, 1) := by decide +kernel
theorem dX1_push_28 : decode cX1_push 28 = .ok (.isub, 1) := by decide +kernel
theorem dX1_push_29 : decode cX1_push 29 = .ok (.putfield 18, 3) := by decide +kernel
theorem dX1_push_32 : decode cX1_push 32 = .ok (.aload_n 0, 1) := by decide +kernel
theorem dX1_push_33 : decode cX1_push 33 = .ok (.aload_n 0, 1) := by decide +kernel
theorem dX1_push_34 : decode cX1_push 34 = .ok (.getfield 18, 3) := by decide +kernel
theorem dX1_push_37 : decode cX1_push 37 = .ok (.invokevirtual 25, 3) := by decide +kernel
theorem dX1_push_40 : decode cX1_push 40 = .ok (.astore_n 2, 1) := by decide +kernel
theorem dX1_push_41 : decode cX1_push 41 = .ok (.aload_n 2, 1) := by decide +kernel
theorem dX1_push_42 : decode cX1_push 42 = .ok (.ifnull 18, 3) := by decide +kernel
theorem dX1_push_45 : decode cX1_push 45 = .ok (.aload_n 2, 1) := by decide +kernel
theorem dX1_push_46 : decode cX1_push 46 = .ok (.aload_n 1, 1) := by decide +kernel
theorem dX1_push_47 : decode cX1_push 47 = .ok (.invokevirtual 29, 3) := by decide +kernel
theorem dX1_push_50 : decode cX1_push 50 = .ok (.aload_n 0, 1) := by decide +kernel
theorem dX1_push_51 : decode cX1_push 51 = .ok (.dup, 1) := by decide +kernel
theorem dX1_push_52 : decode cX1_push 52 = .ok (.getfield 18, 3) := by decide +kernel
theorem dX1_push_55 : decode cX1_push 55 = .ok (.iconst 1, 1) := by decide +kernel
theorem dX1_push_56 : decode cX1_push 56 = .ok (.iadd, 1) := by decide +kernel
theorem dX1_push_57 : decode cX1_push 57 = .ok (.putfield 18, 3) := by decide +kernel
theorem dX1_push_60 : decode cX1_push 60 = .ok (.return_, 1) := by decide +kernel
set_option maxRecDepth 20000 in
theorem ggX1_pop_X1_stateAt : GoodIn wsX1_pop wsX1_stateAt := goodIn_r _ [6, 7, 8, 27, 28, 29] (by decide +kernel) (by decide +kernel)
set_option maxRecDepth 20000 in
theorem gX1_pop_X1_stateAt : GoodIn wsX1_pop (wsV RX1 25 RX1 yX1_stateAt wsX1_stateAt) := goodIn_app (goodIn_of _ (by decide +kernel)) ggX1_pop_X1_stateAt
set_option maxRecDepth 20000 in
theorem ggX1_pop_X4_become : GoodIn wsX1_pop wsX4_become := goodIn_r _ [13, 14, 15, 16, 17, 18, 19, 20, 21, 22, 23, 24, 25, 12, 26, 30, 31, 32, 33, 34, 35, 36, 37, 38, 39] (by decide +kernel) (by decide +kernel)
set_option maxRecDepth 20000 in
theorem gX1_pop_X4_become : GoodIn wsX1_pop (wsV RX1 29 RX4 yX4_become wsX4_become) := goodIn_app (goodIn_of _ (by decide +kernel)) ggX1_pop_X4_become
theorem dX1_pop_0 : decode cX1_pop 0 = .ok (.aload_n 0, 1) := by decide +kernel
theorem dX1_pop_1 : decode cX1_pop 1 = .ok (.getfield 18, 3) := by decide +kernel
theorem dX1_pop_4 : decode cX1_pop 4 = .ok (.ifCond .le 25, 3) := by decide +kernel
theorem dX1_pop_7 : decode cX1_pop 7 = .ok (.aload_n 0, 1) := by decide +kernel
theorem dX1_pop_8 : decode cX1_pop 8 = .ok (.dup, 1) := by decide +kernel
theorem dX1_pop_9 : decode cX1_pop 9 = .ok (.getfield 18, 3) := by decide +kernel
theorem dX1_pop_12 : decode cX1_pop 12 = .ok (.iconst 1, 1) := by decide +kernel
theorem dX1_pop_13 : decode cX1_pop 13 = .ok (.isub, 1) := by decide +kernel
theorem dX1_pop_14 : decode cX1_pop 14 = .ok (.putfield 18, 3) := by decide +kernel
theorem dX1_pop_17 : decode cX1_pop 17 = .ok (.aload_n 1, 1) := by decide +kernel
theorem dX1_pop_18 : decode cX1_pop 18 = .ok (.aload_n 0, 1) := by decide +kernel
theorem dX1_pop_19 : decode cX1_pop 19 = .ok (.aload_n 0, 1) := by decide +kernel
theorem dX1_pop_20 : decode cX1_pop 20 = .ok (.getfield 18, 3) := by decide +kernel
theorem dX1_pop_23 : decode cX1_pop 23 = .ok (.invokevirtual 25, 3) := by decide +kernel
theorem dX1_pop_26 : decode cX1_pop 26 = .ok (.invokevirtual 29, 3) := by decide +kernel
theorem dX1_pop_29 : decode cX1_pop 29 = .ok (.aload_n 0, 1) := by decide +kernel
theorem dX1_pop_30 : decode cX1_pop 30 = .ok (.getfield 18, 3) := by decide +kernel
theorem dX1_pop_33 : decode cX1_pop 33 = .ok (.ireturn, 1) := by decide +kernel
theorem dX1_stateAt_0 : decode cX1_stateAt 0 = .ok (.aload_n 0, 1) := by decide +kernel
theorem dX1_stateAt_1 : decode cX1_stateAt 1 = .ok (.getfield 22, 3) := by decide +kernel
theorem dX1_stateAt_4 : decode cX1_stateAt 4 = .ok (.iload_n 1, 1) := by decide +kernel
theorem dX1_stateAt_5 : decode cX1_stateAt 5 = .ok (.iadd, 1) := by decide +kernel
theorem dX1_stateAt_6 : decode cX1_stateAt 6 = .ok (.bipush 14, 2) := by decide +kernel
theorem dX1_stateAt_8 : decode cX1_stateAt 8 = .ok (.irem, 1) := by decide +kernel
theorem dX1_stateAt_9 : decode cX1_stateAt 9 = .ok (.istore_n 2, 1) := by decide +kernel
theorem dX1_stateAt_10 : decode cX1_stateAt 10 = .ok (.iload_n 2, 1) := by decide +kernel
theorem dX1_stateAt_11 : decode cX1_stateAt 11 = .ok (.ifCond .lt 21, 3) := by decide +kernel
theorem dX1_stateAt_14 : decode cX1_stateAt 14 = .ok (.iload_n 2, 1) := by decide +kernel
theorem dX1_stateAt_15 : decode cX1_stateAt 15 = .ok (.aload_n 0, 1) := by decide +kernel
theorem dX1_stateAt_16 : decode cX1_stateAt 16 = .ok (.getfield 11, 3) := by decide +kernel
theorem dX1_stateAt_19 : decode cX1_stateAt 19 = .ok (.arraylength, 1) := by decide +kernel
theorem dX1_stateAt_20 : decode cX1_stateAt 20 = .ok (.if_icmp .ge 12, 3) := by decide +kernel
theorem dX1_stateAt_23 : decode cX1_stateAt 23 = .ok (.aload_n 0, 1) := by decide +kernel
theorem dX1_stateAt_24 : decode cX1_stateAt 24 = .ok (.getfield 11, 3) := by decide +kernel
theorem dX1_stateAt_27 : decode cX1_stateAt 27 = .ok (.iload_n 2, 1) := by decide +kernel
theorem dX1_stateAt_28 : decode cX1_stateAt 28 = .ok (.aaload, 1) := by decide +kernel
theorem dX1_stateAt_29 : decode cX1_stateAt 29 = .ok (.goto 4, 3) := by decide +kernel
theorem dX1_stateAt_32 : decode cX1_stateAt 32 = .ok (.aconst_null, 1) := by decide +kernel
theorem dX1_stateAt_33 : decode cX1_stateAt 33 = .ok (.areturn, 1) := by decide +kernel
theorem dX2_componentAt_0 : decode cX2_componentAt 0 = .ok (.iconst 3, 1) := by decide +kernel
theorem dX2_componentAt_1 : decode cX2_componentAt 1 = .ok (.iload_n 0, 1) := by decide +kernel
theorem dX2_componentAt_2 : decode cX2_componentAt 2 = .ok (.imul, 1) := by decide +kernel
theorem dX2_componentAt_3 : decode cX2_componentAt 3 = .ok (.iload_n 1, 1) := by decide +kernel
theorem dX2_componentAt_4 : decode cX2_componentAt 4 = .ok (.iadd, 1) := by decide +kernel
theorem dX2_componentAt_5 : decode cX2_componentAt 5 = .ok (.istore_n 2, 1) := by decide +kernel
theorem dX2_componentAt_6 : decode cX2_componentAt 6 = .ok (.iload_n 2, 1) := by decide +kernel
theorem dX2_componentAt_7 : decode cX2_componentAt 7 = .ok (.ifCond .lt 19, 3) := by decide +kernel
theorem dX2_componentAt_10 : decode cX2_componentAt 10 = .ok (.iload_n 2, 1) := by decide +kernel
theorem dX2_componentAt_11 : decode cX2_componentAt 11 = .ok (.getstatic 9, 3) := by decide +kernel
theorem dX2_componentAt_14 : decode cX2_componentAt 14 = .ok (.arraylength, 1) := by decide +kernel
theorem dX2_componentAt_15 : decode cX2_componentAt 15 = .ok (.if_icmp .ge 11, 3) := by decide +kernel
theorem dX2_componentAt_18 : decode cX2_componentAt 18 = .ok (.getstatic 9, 3) := by decide +kernel
theorem dX2_componentAt_21 : decode cX2_componentAt 21 = .ok (.iload_n 2, 1) := by decide +kernel
theorem dX2_componentAt_22 : decode cX2_componentAt 22 = .ok (.iaload, 1) := by decide +kernel
theorem dX2_componentAt_23 : decode cX2_componentAt 23 = .ok (.goto 4, 3) := by decide +kernel
theorem dX2_componentAt_26 : decode cX2_componentAt 26 = .ok (.iconst (-1), 1) := by decide +kernel
theorem dX2_componentAt_27 : decode cX2_componentAt 27 = .ok (.ireturn, 1) := by decide +kernel
theorem dX2_tripleDigit_0 : decode cX2_tripleDigit 0 = .ok (.iload_n 1, 1) := by decide +kernel
theorem dX2_tripleDigit_1 : decode cX2_tripleDigit 1 = .ok (.lookupswitch 40 #[(0, 27), (1, 32)], 27) := by decide +kernel
theorem dX2_tripleDigit_28 : decode cX2_tripleDigit 28 = .ok (.iload_n 0, 1) := by decide +kernel
theorem dX2_tripleDigit_29 : decode cX2_tripleDigit 29 = .ok (.bipush 100, 2) := by decide +kernel
theorem dX2_tripleDigit_31 : decode cX2_tripleDigit 31 = .ok (.idiv, 1) := by decide +kernel
theorem dX2_tripleDigit_32 : decode cX2_tripleDigit 32 = .ok (.ireturn, 1) := by decide +kernel
theorem dX2_tripleDigit_33 : decode cX2_tripleDigit 33 = .ok (.iload_n 0, 1) := by decide +kernel
theorem dX2_tripleDigit_34 : decode cX2_tripleDigit 34 = .ok (.bipush 10, 2) := by decide +kernel
theorem dX2_tripleDigit_36 : decode cX2_tripleDigit 36 = .ok (.idiv, 1) := by decide +kernel
theorem dX2_tripleDigit_37 : decode cX2_tripleDigit 37 = .ok (.bipush 10, 2) := by decide +kernel
theorem dX2_tripleDigit_39 : decode cX2_tripleDigit 39 = .ok (.irem, 1) := by decide +kernel
theorem dX2_tripleDigit_40 : decode cX2_tripleDigit 40 = .ok (.ireturn, 1) := by decide +kernel
theorem dX2_tripleDigit_41 : decode cX2_tripleDigit 41 = .ok (.iload_n 0, 1) := by decide +kernel
theorem dX2_tripleDigit_42 : decode cX2_tripleDigit 42 = .ok (.bipush 10, 2) := by decide +kernel
theorem dX2_tripleDigit_44 : decode cX2_tripleDigit 44 = .ok (.irem, 1) := by decide +kernel
theorem dX2_tripleDigit_45 : decode cX2_tripleDigit 45 = .ok (.ireturn, 1) := by decide +kernel
theorem dX2_questionDigit_0 : decode cX2_questionDigit 0 = .ok (.iload_n 1, 1) := by decide +kernel
theorem dX2_questionDigit_1 : decode cX2_questionDigit 1 = .ok (.lookupswitch 40 #[(0, 27), (1, 32)], 27) := by decide +kernel
theorem dX2_questionDigit_28 : decode cX2_questionDigit 28 = .ok (.iload_n 0, 1) := by decide +kernel
theorem dX2_questionDigit_29 : decode cX2_questionDigit 29 = .ok (.bipush 121, 2) := by decide +kernel
theorem dX2_questionDigit_31 : decode cX2_questionDigit 31 = .ok (.idiv, 1) := by decide +kernel
theorem dX2_questionDigit_32 : decode cX2_questionDigit 32 = .ok (.ireturn, 1) := by decide +kernel
theorem dX2_questionDigit_33 : decode cX2_questionDigit 33 = .ok (.iload_n 0, 1) := by decide +kernel
theorem dX2_questionDigit_34 : decode cX2_questionDigit 34 = .ok (.bipush 11, 2) := by decide +kernel
theorem dX2_questionDigit_36 : decode cX2_questionDigit 36 = .ok (.idiv, 1) := by decide +kernel
theorem dX2_questionDigit_37 : decode cX2_questionDigit 37 = .ok (.bipush 11, 2) := by decide +kernel
theorem dX2_questionDigit_39 : decode cX2_questionDigit 39 = .ok (.irem, 1) := by decide +kernel
theorem dX2_questionDigit_40 : decode cX2_questionDigit 40 = .ok (.ireturn, 1) := by decide +kernel
theorem dX2_questionDigit_41 : decode cX2_questionDigit 41 = .ok (.iload_n 0, 1) := by decide +kernel
theorem dX2_questionDigit_42 : decode cX2_questionDigit 42 = .ok (.bipush 11, 2) := by decide +kernel
theorem dX2_questionDigit_44 : decode cX2_questionDigit 44 = .ok (.irem, 1) := by decide +kernel
theorem dX2_questionDigit_45 : decode cX2_questionDigit 45 = .ok (.ireturn, 1) := by decide +kernel
set_option maxRecDepth 20000 in
theorem ggX2_rankOf_X2_componentAt : GoodIn wsX2_rankOf wsX2_componentAt := goodIn_r _ [4, 5] (by decide +kernel) (by decide +kernel)
set_option maxRecDepth 20000 in
theorem gX2_rankOf_X2_componentAt : GoodIn wsX2_rankOf (va_wsS RX2 15 yX2_componentAt wsX2_componentAt) := goodIn_app (goodIn_of _ (by decide +kernel)) ggX2_rankOf_X2_componentAt
set_option maxRecDepth 20000 in
theorem ggX2_rankOf_X2_tripleDigit : GoodIn wsX2_rankOf wsX2_tripleDigit := goodIn_r _ [8] (by decide +kernel) (by decide +kernel)
set_option maxRecDepth 20000 in
theorem gX2_rankOf_X2_tripleDigit : GoodIn wsX2_rankOf (va_wsS RX2 19 yX2_tripleDigit wsX2_tripleDigit) := goodIn_app (goodIn_of _ (by decide +kernel)) ggX2_rankOf_X2_tripleDigit
theorem dX2_rankOf_0 : decode cX2_rankOf 0 = .ok (.iconst 0, 1) := by decide +kernel
theorem dX2_rankOf_1 : decode cX2_rankOf 1 = .ok (.istore_n 2, 1) := by decide +kernel
theorem dX2_rankOf_2 : decode cX2_rankOf 2 = .ok (.iconst 0, 1) := by decide +kernel
theorem dX2_rankOf_3 : decode cX2_rankOf 3 = .ok (.istore_n 3, 1) := by decide +kernel
theorem dX2_rankOf_4 : decode cX2_rankOf 4 = .ok (.iload_n 3, 1) := by decide +kernel
theorem dX2_rankOf_5 : decode cX2_rankOf 5 = .ok (.iconst 3, 1) := by decide +kernel
theorem dX2_rankOf_6 : decode cX2_rankOf 6 = .ok (.if_icmp .ge 24, 3) := by decide +kernel
theorem dX2_rankOf_9 : decode cX2_rankOf 9 = .ok (.bipush 10, 2) := by decide +kernel
theorem dX2_rankOf_11 : decode cX2_rankOf 11 = .ok (.iload_n 2, 1) := by decide +kernel
theorem dX2_rankOf_12 : decode cX2_rankOf 12 = .ok (.imul, 1) := by decide +kernel
theorem dX2_rankOf_13 : decode cX2_rankOf 13 = .ok (.iload_n 0, 1) := by decide +kernel
theorem dX2_rankOf_14 : decode cX2_rankOf 14 = .ok (.iload_n 1, 1) := by decide +kernel
theorem dX2_rankOf_15 : decode cX2_rankOf 15 = .ok (.iload_n 3, 1) := by decide +kernel
theorem dX2_rankOf_16 : decode cX2_rankOf 16 = .ok (.invokestatic 15, 3) := by decide +kernel
theorem dX2_rankOf_19 : decode cX2_rankOf 19 = .ok (.invokestatic 19, 3) := by decide +kernel
theorem dX2_rankOf_22 : decode cX2_rankOf 22 = .ok (.iadd, 1) := by decide +kernel
theorem dX2_rankOf_23 : decode cX2_rankOf 23 = .ok (.istore_n 2, 1) := by decide +kernel
theorem dX2_rankOf_24 : decode cX2_rankOf 24 = .ok (.iinc 3 1, 3) := by decide +kernel
theorem dX2_rankOf_27 : decode cX2_rankOf 27 = .ok (.goto (-23), 3) := by decide +kernel
theorem dX2_rankOf_30 : decode cX2_rankOf 30 = .ok (.iload_n 2, 1) := by decide +kernel
theorem dX2_rankOf_31 : decode cX2_rankOf 31 = .ok (.ireturn, 1) := by decide +kernel
set_option maxRecDepth 20000 in
theorem ggX2_reachOf_X2_componentAt : GoodIn wsX2_reachOf wsX2_componentAt := goodIn_r _ [4, 5] (by decide +kernel) (by decide +kernel)
set_option maxRecDepth 20000 in
theorem gX2_reachOf_X2_componentAt : GoodIn wsX2_reachOf (va_wsS RX2 15 yX2_componentAt wsX2_componentAt) := goodIn_app (goodIn_of _ (by decide +kernel)) ggX2_reachOf_X2_componentAt
set_option maxRecDepth 20000 in
theorem ggX2_reachOf_X2_questionDigit : GoodIn wsX2_reachOf wsX2_questionDigit := goodIn_r _ [8] (by decide +kernel) (by decide +kernel)
set_option maxRecDepth 20000 in
theorem gX2_reachOf_X2_questionDigit : GoodIn wsX2_reachOf (va_wsS RX2 22 yX2_questionDigit wsX2_questionDigit) := goodIn_app (goodIn_of _ (by decide +kernel)) ggX2_reachOf_X2_questionDigit
theorem dX2_reachOf_0 : decode cX2_reachOf 0 = .ok (.iconst 0, 1) := by decide +kernel
theorem dX2_reachOf_1 : decode cX2_reachOf 1 = .ok (.istore_n 2, 1) := by decide +kernel
theorem dX2_reachOf_2 : decode cX2_reachOf 2 = .ok (.iload_n 2, 1) := by decide +kernel
theorem dX2_reachOf_3 : decode cX2_reachOf 3 = .ok (.iconst 3, 1) := by decide +kernel
theorem dX2_reachOf_4 : decode cX2_reachOf 4 = .ok (.if_icmp .ge 23, 3) := by decide +kernel
theorem dX2_reachOf_7 : decode cX2_reachOf 7 = .ok (.iload_n 0, 1) := by decide +kernel
theorem dX2_reachOf_8 : decode cX2_reachOf 8 = .ok (.iload_n 1, 1) := by decide +kernel
theorem dX2_reachOf_9 : decode cX2_reachOf 9 = .ok (.iload_n 2, 1) := by decide +kernel
theorem dX2_reachOf_10 : decode cX2_reachOf 10 = .ok (.invokestatic 15, 3) := by decide +kernel
theorem dX2_reachOf_13 : decode cX2_reachOf 13 = .ok (.invokestatic 22, 3) := by decide +kernel
theorem dX2_reachOf_16 : decode cX2_reachOf 16 = .ok (.bipush 10, 2) := by decide +kernel
theorem dX2_reachOf_18 : decode cX2_reachOf 18 = .ok (.if_icmp .eq 9, 3) := by decide +kernel
theorem dX2_reachOf_21 : decode cX2_reachOf 21 = .ok (.iinc 2 1, 3) := by decide +kernel
theorem dX2_reachOf_24 : decode cX2_reachOf 24 = .ok (.goto (-22), 3) := by decide +kernel
theorem dX2_reachOf_27 : decode cX2_reachOf 27 = .ok (.iload_n 2, 1) := by decide +kernel
theorem dX2_reachOf_28 : decode cX2_reachOf 28 = .ok (.ireturn, 1) := by decide +kernel
set_option maxRecDepth 20000 in
theorem ggX2_reachesAll_X2_reachOf : GoodIn wsX2_reachesAll wsX2_reachOf := goodIn_r _ [4, 5, 6, 3, 7, 8, 9, 10, 11] (by decide +kernel) (by decide +kernel)
set_option maxRecDepth 20000 in
theorem gX2_reachesAll_X2_reachOf : GoodIn wsX2_reachesAll (va_wsS RX2 25 yX2_reachOf wsX2_reachOf) := goodIn_app (goodIn_of _ (by decide +kernel)) ggX2_reachesAll_X2_reachOf
set_option maxRecDepth 20000 in
theorem ggX2_reachesAll_X2_countBound : GoodIn wsX2_reachesAll wsX2_countBound := goodIn_r _ [14, 9, 10, 3, 11] (by decide +kernel) (by decide +kernel)
set_option maxRecDepth 20000 in
theorem gX2_reachesAll_X2_countBound : GoodIn wsX2_reachesAll (va_wsS RX2 28 yX2_countBound wsX2_countBound) := goodIn_app (goodIn_of _ (by decide +kernel)) ggX2_reachesAll_X2_countBound
theorem dX2_reachesAll_0 : decode cX2_reachesAll 0 = .ok (.iload_n 0, 1) := by decide +kernel
theorem dX2_reachesAll_1 : decode cX2_reachesAll 1 = .ok (.iload_n 1, 1) := by decide +kernel
theorem dX2_reachesAll_2 : decode cX2_reachesAll 2 = .ok (.invokestatic 25, 3) := by decide +kernel
theorem dX2_reachesAll_5 : decode cX2_reachesAll 5 = .ok (.iload_n 0, 1) := by decide +kernel
theorem dX2_reachesAll_6 : decode cX2_reachesAll 6 = .ok (.invokestatic 28, 3) := by decide +kernel
theorem dX2_reachesAll_9 : decode cX2_reachesAll 9 = .ok (.if_icmp .ne 7, 3) := by decide +kernel
theorem dX2_reachesAll_12 : decode cX2_reachesAll 12 = .ok (.iconst 1, 1) := by decide +kernel
theorem dX2_reachesAll_13 : decode cX2_reachesAll 13 = .ok (.goto 4, 3) := by decide +kernel
theorem dX2_reachesAll_16 : decode cX2_reachesAll 16 = .ok (.iconst 0, 1) := by decide +kernel
theorem dX2_reachesAll_17 : decode cX2_reachesAll 17 = .ok (.ireturn, 1) := by decide +kernel
set_option maxRecDepth 20000 in
theorem ggX2_reachedPart_X2_componentAt : GoodIn wsX2_reachedPart wsX2_componentAt := goodIn_r _ [4, 5] (by decide +kernel) (by decide +kernel)
set_option maxRecDepth 20000 in
theorem gX2_reachedPart_X2_componentAt : GoodIn wsX2_reachedPart (va_wsS RX2 15 yX2_componentAt wsX2_componentAt) := goodIn_app (goodIn_of _ (by decide +kernel)) ggX2_reachedPart_X2_componentAt
set_option maxRecDepth 20000 in
theorem ggX2_reachedPart_X2_unitOf : GoodIn wsX2_reachedPart wsX2_unitOf := goodIn_r _ [8] (by decide +kernel) (by decide +kernel)
set_option maxRecDepth 20000 in
theorem gX2_reachedPart_X2_unitOf : GoodIn wsX2_reachedPart (va_wsS RX2 32 yX2_unitOf wsX2_unitOf) := goodIn_app (goodIn_of _ (by decide +kernel)) ggX2_reachedPart_X2_unitOf
set_option maxRecDepth 20000 in
theorem ggX2_reachedPart_X2_questionDigit : GoodIn wsX2_reachedPart wsX2_questionDigit := goodIn_r _ [11] (by decide +kernel) (by decide +kernel)
set_option maxRecDepth 20000 in
theorem gX2_reachedPart_X2_questionDigit : GoodIn wsX2_reachedPart (va_wsS RX2 22 yX2_questionDigit wsX2_questionDigit) := goodIn_app (goodIn_of _ (by decide +kernel)) ggX2_reachedPart_X2_questionDigit
theorem dX2_reachedPart_0 : decode cX2_reachedPart 0 = .ok (.iload_n 0, 1) := by decide +kernel
theorem dX2_reachedPart_1 : decode cX2_reachedPart 1 = .ok (.istore_n 3, 1) := by decide +kernel
theorem dX2_reachedPart_2 : decode cX2_reachedPart 2 = .ok (.iload_n 2, 1) := by decide +kernel
theorem dX2_reachedPart_3 : decode cX2_reachedPart 3 = .ok (.istore 4, 2) := by decide +kernel
theorem dX2_reachedPart_5 : decode cX2_reachedPart 5 = .ok (.iload 4, 2) := by decide +kernel
theorem dX2_reachedPart_7 : decode cX2_reachedPart 7 = .ok (.iconst 3, 1) := by decide +kernel
theorem dX2_reachedPart_8 : decode cX2_reachedPart 8 = .ok (.if_icmp .ge 35, 3) := by decide +kernel
theorem dX2_reachedPart_11 : decode cX2_reachedPart 11 = .ok (.iload_n 1, 1) := by decide +kernel
theorem dX2_reachedPart_12 : decode cX2_reachedPart 12 = .ok (.iload 4, 2) := by decide +kernel
theorem dX2_reachedPart_14 : decode cX2_reachedPart 14 = .ok (.invokestatic 15, 3) := by decide +kernel
theorem dX2_reachedPart_17 : decode cX2_reachedPart 17 = .ok (.istore 5, 2) := by decide +kernel
theorem dX2_reachedPart_19 : decode cX2_reachedPart 19 = .ok (.iload_n 3, 1) := by decide +kernel
theorem dX2_reachedPart_20 : decode cX2_reachedPart 20 = .ok (.iload 5, 2) := by decide +kernel
theorem dX2_reachedPart_22 : decode cX2_reachedPart 22 = .ok (.invokestatic 32, 3) := by decide +kernel
theorem dX2_reachedPart_25 : decode cX2_reachedPart 25 = .ok (.bipush 10, 2) := by decide +kernel
theorem dX2_reachedPart_27 : decode cX2_reachedPart 27 = .ok (.iload_n 0, 1) := by decide +kernel
theorem dX2_reachedPart_28 : decode cX2_reachedPart 28 = .ok (.iload 5, 2) := by decide +kernel
theorem dX2_reachedPart_30 : decode cX2_reachedPart 30 = .ok (.invokestatic 22, 3) := by decide +kernel
theorem dX2_reachedPart_33 : decode cX2_reachedPart 33 = .ok (.isub, 1) := by decide +kernel
theorem dX2_reachedPart_34 : decode cX2_reachedPart 34 = .ok (.imul, 1) := by decide +kernel
theorem dX2_reachedPart_35 : decode cX2_reachedPart 35 = .ok (.iadd, 1) := by decide +kernel
theorem dX2_reachedPart_36 : decode cX2_reachedPart 36 = .ok (.istore_n 3, 1) := by decide +kernel
theorem dX2_reachedPart_37 : decode cX2_reachedPart 37 = .ok (.iinc 4 1, 3) := by decide +kernel
theorem dX2_reachedPart_40 : decode cX2_reachedPart 40 = .ok (.goto (-35), 3) := by decide +kernel
theorem dX2_reachedPart_43 : decode cX2_reachedPart 43 = .ok (.iload_n 3, 1) := by decide +kernel
theorem dX2_reachedPart_44 : decode cX2_reachedPart 44 = .ok (.ireturn, 1) := by decide +kernel
set_option maxRecDepth 20000 in
theorem ggX2_countBound_X2_questionDigit : GoodIn wsX2_countBound wsX2_questionDigit := goodIn_r _ [4] (by decide +kernel) (by decide +kernel)
set_option maxRecDepth 20000 in
theorem gX2_countBound_X2_questionDigit : GoodIn wsX2_countBound (va_wsS RX2 22 yX2_questionDigit wsX2_questionDigit) := goodIn_app (goodIn_of _ (by decide +kernel)) ggX2_countBound_X2_questionDigit
theorem dX2_countBound_0 : decode cX2_countBound 0 = .ok (.iconst 0, 1) := by decide +kernel
theorem dX2_countBound_1 : decode cX2_countBound 1 = .ok (.istore_n 1, 1) := by decide +kernel
theorem dX2_countBound_2 : decode cX2_countBound 2 = .ok (.iconst 0, 1) := by decide +kernel
theorem dX2_countBound_3 : decode cX2_countBound 3 = .ok (.istore_n 2, 1) := by decide +kernel
theorem dX2_countBound_4 : decode cX2_countBound 4 = .ok (.iload_n 2, 1) := by decide +kernel
theorem dX2_countBound_5 : decode cX2_countBound 5 = .ok (.iconst 3, 1) := by decide +kernel
theorem dX2_countBound_6 : decode cX2_countBound 6 = .ok (.if_icmp .ge 22, 3) := by decide +kernel
theorem dX2_countBound_9 : decode cX2_countBound 9 = .ok (.iload_n 0, 1) := by decide +kernel
theorem dX2_countBound_10 : decode cX2_countBound 10 = .ok (.iload_n 2, 1) := by decide +kernel
theorem dX2_countBound_11 : decode cX2_countBound 11 = .ok (.invokestatic 22, 3) := by decide +kernel
theorem dX2_countBound_14 : decode cX2_countBound 14 = .ok (.bipush 10, 2) := by decide +kernel
theorem dX2_countBound_16 : decode cX2_countBound 16 = .ok (.if_icmp .eq 6, 3) := by decide +kernel
theorem dX2_countBound_19 : decode cX2_countBound 19 = .ok (.iinc 1 1, 3) := by decide +kernel
theorem dX2_countBound_22 : decode cX2_countBound 22 = .ok (.iinc 2 1, 3) := by decide +kernel
theorem dX2_countBound_25 : decode cX2_countBound 25 = .ok (.goto (-21), 3) := by decide +kernel
theorem dX2_countBound_28 : decode cX2_countBound 28 = .ok (.iload_n 1, 1) := by decide +kernel
theorem dX2_countBound_29 : decode cX2_countBound 29 = .ok (.ireturn, 1) := by decide +kernel
theorem dX2_unitOf_0 : decode cX2_unitOf 0 = .ok (.iload_n 0, 1) := by decide +kernel
theorem dX2_unitOf_1 : decode cX2_unitOf 1 = .ok (.lookupswitch 33 #[(0, 27), (1, 30)], 27) := by decide +kernel
theorem dX2_unitOf_28 : decode cX2_unitOf 28 = .ok (.bipush 121, 2) := by decide +kernel
theorem dX2_unitOf_30 : decode cX2_unitOf 30 = .ok (.ireturn, 1) := by decide +kernel
theorem dX2_unitOf_31 : decode cX2_unitOf 31 = .ok (.bipush 11, 2) := by decide +kernel
theorem dX2_unitOf_33 : decode cX2_unitOf 33 = .ok (.ireturn, 1) := by decide +kernel
theorem dX2_unitOf_34 : decode cX2_unitOf 34 = .ok (.iconst 1, 1) := by decide +kernel
theorem dX2_unitOf_35 : decode cX2_unitOf 35 = .ok (.ireturn, 1) := by decide +kernel
set_option maxRecDepth 20000 in
theorem ggX3_init_X4_init : GoodIn wsX3_init wsX4_init := goodIn_r _ [9, 10, 2, 3, 11, 12, 13, 14, 15, 16, 17, 18, 19, 20, 21, 22, 23, 24, 25] (by decide +kernel) (by decide +kernel)
set_option maxRecDepth 20000 in
theorem gX3_init_X4_init_n9 : GoodIn wsX3_init (wsX4_init) := ggX3_init_X4_init
theorem dX3_init_0 : decode cX3_init 0 = .ok (.aload_n 0, 1) := by decide +kernel
theorem dX3_init_1 : decode cX3_init 1 = .ok (.invokespecial 1, 3) := by decide +kernel
theorem dX3_init_4 : decode cX3_init 4 = .ok (.aload_n 0, 1) := by decide +kernel
theorem dX3_init_5 : decode cX3_init 5 = .ok (.new 7, 3) := by decide +kernel
theorem dX3_init_8 : decode cX3_init 8 = .ok (.dup, 1) := by decide +kernel
theorem dX3_init_9 : decode cX3_init 9 = .ok (.invokespecial 9, 3) := by decide +kernel
theorem dX3_init_12 : decode cX3_init 12 = .ok (.putfield 10, 3) := by decide +kernel
theorem dX3_init_15 : decode cX3_init 15 = .ok (.return_, 1) := by decide +kernel
theorem dX4_init_0 : decode cX4_init 0 = .ok (.aload_n 0, 1) := by decide +kernel
theorem dX4_init_1 : decode cX4_init 1 = .ok (.invokespecial 3, 3) := by decide +kernel
theorem dX4_init_4 : decode cX4_init 4 = .ok (.aload_n 0, 1) := by decide +kernel
theorem dX4_init_5 : decode cX4_init 5 = .ok (.bipush 40, 2) := by decide +kernel
theorem dX4_init_7 : decode cX4_init 7 = .ok (.newarray .int, 2) := by decide +kernel
theorem dX4_init_9 : decode cX4_init 9 = .ok (.putfield 9, 3) := by decide +kernel
theorem dX4_init_12 : decode cX4_init 12 = .ok (.aload_n 0, 1) := by decide +kernel
theorem dX4_init_13 : decode cX4_init 13 = .ok (.iconst 1, 1) := by decide +kernel
theorem dX4_init_14 : decode cX4_init 14 = .ok (.putfield 15, 3) := by decide +kernel
theorem dX4_init_17 : decode cX4_init 17 = .ok (.aload_n 0, 1) := by decide +kernel
theorem dX4_init_18 : decode cX4_init 18 = .ok (.bipush 12, 2) := by decide +kernel
theorem dX4_init_20 : decode cX4_init 20 = .ok (.newarray .int, 2) := by decide +kernel
theorem dX4_init_22 : decode cX4_init 22 = .ok (.putfield 19, 3) := by decide +kernel
theorem dX4_init_25 : decode cX4_init 25 = .ok (.aload_n 0, 1) := by decide +kernel
theorem dX4_init_26 : decode cX4_init 26 = .ok (.iconst 4, 1) := by decide +kernel
theorem dX4_init_27 : decode cX4_init 27 = .ok (.putfield 22, 3) := by decide +kernel
theorem dX4_init_30 : decode cX4_init 30 = .ok (.return_, 1) := by decide +kernel
set_option maxRecDepth 20000 in
theorem ggX4_become_X4_copyRow : GoodIn wsX4_become wsX4_copyRow := goodIn_r _ [14] (by decide +kernel) (by decide +kernel)
set_option maxRecDepth 20000 in
theorem gX4_become_X4_copyRow : GoodIn wsX4_become (va_wsS RX4 28 yX4_copyRow wsX4_copyRow) := goodIn_app (goodIn_of _ (by decide +kernel)) ggX4_become_X4_copyRow
theorem dX4_become_0 : decode cX4_become 0 = .ok (.aload_n 1, 1) := by decide +kernel
theorem dX4_become_1 : decode cX4_become 1 = .ok (.ifnonnull 4, 3) := by decide +kernel
theorem dX4_become_4 : decode cX4_become 4 = .ok (.return_, 1) := by decide +kernel
theorem dX4_become_5 : decode cX4_become 5 = .ok (.aload_n 0, 1) := by decide +kernel
theorem dX4_become_6 : decode cX4_become 6 = .ok (.aload_n 1, 1) := by decide +kernel
theorem dX4_become_7 : decode cX4_become 7 = .ok (.getfield 25, 3) := by decide +kernel
theorem dX4_become_10 : decode cX4_become 10 = .ok (.putfield 25, 3) := by decide +kernel
theorem dX4_become_13 : decode cX4_become 13 = .ok (.aload_n 1, 1) := by decide +kernel
theorem dX4_become_14 : decode cX4_become 14 = .ok (.getfield 9, 3) := by decide +kernel
theorem dX4_become_17 : decode cX4_become 17 = .ok (.aload_n 0, 1) := by decide +kernel
theorem dX4_become_18 : decode cX4_become 18 = .ok (.getfield 9, 3) := by decide +kernel
theorem dX4_become_21 : decode cX4_become 21 = .ok (.aload_n 0, 1) := by decide +kernel
theorem dX4_become_22 : decode cX4_become 22 = .ok (.getfield 25, 3) := by decide +kernel
theorem dX4_become_25 : decode cX4_become 25 = .ok (.invokestatic 28, 3) := by decide +kernel
theorem dX4_become_28 : decode cX4_become 28 = .ok (.aload_n 0, 1) := by decide +kernel
theorem dX4_become_29 : decode cX4_become 29 = .ok (.aload_n 1, 1) := by decide +kernel
theorem dX4_become_30 : decode cX4_become 30 = .ok (.getfield 15, 3) := by decide +kernel
theorem dX4_become_33 : decode cX4_become 33 = .ok (.putfield 15, 3) := by decide +kernel
theorem dX4_become_36 : decode cX4_become 36 = .ok (.aload_n 0, 1) := by decide +kernel
theorem dX4_become_37 : decode cX4_become 37 = .ok (.aload_n 1, 1) := by decide +kernel
theorem dX4_become_38 : decode cX4_become 38 = .ok (.getfield 32, 3) := by decide +kernel
theorem dX4_become_41 : decode cX4_become 41 = .ok (.putfield 32, 3) := by decide +kernel
theorem dX4_become_44 : decode cX4_become 44 = .ok (.aload_n 0, 1) := by decide +kernel
theorem dX4_become_45 : decode cX4_become 45 = .ok (.aload_n 1, 1) := by decide +kernel
theorem dX4_become_46 : decode cX4_become 46 = .ok (.getfield 35, 3) := by decide +kernel
theorem dX4_become_49 : decode cX4_become 49 = .ok (.putfield 35, 3) := by decide +kernel
theorem dX4_become_52 : decode cX4_become 52 = .ok (.aload_n 0, 1) := by decide +kernel
theorem dX4_become_53 : decode cX4_become 53 = .ok (.aload_n 1, 1) := by decide +kernel
theorem dX4_become_54 : decode cX4_become 54 = .ok (.getfield 38, 3) := by decide +kernel
theorem dX4_become_57 : decode cX4_become 57 = .ok (.putfield 38, 3) := by decide +kernel
theorem dX4_become_60 : decode cX4_become 60 = .ok (.aload_n 0, 1) := by decide +kernel
theorem dX4_become_61 : decode cX4_become 61 = .ok (.aload_n 1, 1) := by decide +kernel
theorem dX4_become_62 : decode cX4_become 62 = .ok (.getfield 41, 3) := by decide +kernel
theorem dX4_become_65 : decode cX4_become 65 = .ok (.putfield 41, 3) := by decide +kernel
theorem dX4_become_68 : decode cX4_become 68 = .ok (.aload_n 0, 1) := by decide +kernel
theorem dX4_become_69 : decode cX4_become 69 = .ok (.aload_n 1, 1) := by decide +kernel
theorem dX4_become_70 : decode cX4_become 70 = .ok (.getfield 44, 3) := by decide +kernel
theorem dX4_become_73 : decode cX4_become 73 = .ok (.putfield 44, 3) := by decide +kernel
theorem dX4_become_76 : decode cX4_become 76 = .ok (.aload_n 1, 1) := by decide +kernel
theorem dX4_become_77 : decode cX4_become 77 = .ok (.getfield 19, 3) := by decide +kernel
theorem dX4_become_80 : decode cX4_become 80 = .ok (.aload_n 0, 1) := by decide +kernel
theorem dX4_become_81 : decode cX4_become 81 = .ok (.getfield 19, 3) := by decide +kernel
theorem dX4_become_84 : decode cX4_become 84 = .ok (.aload_n 0, 1) := by decide +kernel
theorem dX4_become_85 : decode cX4_become 85 = .ok (.getfield 44, 3) := by decide +kernel
theorem dX4_become_88 : decode cX4_become 88 = .ok (.invokestatic 28, 3) := by decide +kernel
theorem dX4_become_91 : decode cX4_become 91 = .ok (.aload_n 0, 1) := by decide +kernel
theorem dX4_become_92 : decode cX4_become 92 = .ok (.aload_n 1, 1) := by decide +kernel
theorem dX4_become_93 : decode cX4_become 93 = .ok (.getfield 22, 3) := by decide +kernel
theorem dX4_become_96 : decode cX4_become 96 = .ok (.putfield 22, 3) := by decide +kernel
theorem dX4_become_99 : decode cX4_become 99 = .ok (.return_, 1) := by decide +kernel
theorem dX4_copyRow_0 : decode cX4_copyRow 0 = .ok (.iconst 0, 1) := by decide +kernel
theorem dX4_copyRow_1 : decode cX4_copyRow 1 = .ok (.istore_n 3, 1) := by decide +kernel
theorem dX4_copyRow_2 : decode cX4_copyRow 2 = .ok (.iload_n 3, 1) := by decide +kernel
theorem dX4_copyRow_3 : decode cX4_copyRow 3 = .ok (.iload_n 2, 1) := by decide +kernel
theorem dX4_copyRow_4 : decode cX4_copyRow 4 = .ok (.if_icmp .ge 27, 3) := by decide +kernel
theorem dX4_copyRow_7 : decode cX4_copyRow 7 = .ok (.iload_n 3, 1) := by decide +kernel
theorem dX4_copyRow_8 : decode cX4_copyRow 8 = .ok (.aload_n 0, 1) := by decide +kernel
theorem dX4_copyRow_9 : decode cX4_copyRow 9 = .ok (.arraylength, 1) := by decide +kernel
theorem dX4_copyRow_10 : decode cX4_copyRow 10 = .ok (.if_icmp .ge 21, 3) := by decide +kernel
theorem dX4_copyRow_13 : decode cX4_copyRow 13 = .ok (.iload_n 3, 1) := by decide +kernel
theorem dX4_copyRow_14 : decode cX4_copyRow 14 = .ok (.aload_n 1, 1) := by decide +kernel
theorem dX4_copyRow_15 : decode cX4_copyRow 15 = .ok (.arraylength, 1) := by decide +kernel
theorem dX4_copyRow_16 : decode cX4_copyRow 16 = .ok (.if_icmp .ge 15, 3) := by decide +kernel
theorem dX4_copyRow_19 : decode cX4_copyRow 19 = .ok (.aload_n 1, 1) := by decide +kernel
theorem dX4_copyRow_20 : decode cX4_copyRow 20 = .ok (.iload_n 3, 1) := by decide +kernel
theorem dX4_copyRow_21 : decode cX4_copyRow 21 = .ok (.aload_n 0, 1) := by decide +kernel
theorem dX4_copyRow_22 : decode cX4_copyRow 22 = .ok (.iload_n 3, 1) := by decide +kernel
theorem dX4_copyRow_23 : decode cX4_copyRow 23 = .ok (.iaload, 1) := by decide +kernel
theorem dX4_copyRow_24 : decode cX4_copyRow 24 = .ok (.iastore, 1) := by decide +kernel
theorem dX4_copyRow_25 : decode cX4_copyRow 25 = .ok (.iinc 3 1, 3) := by decide +kernel
theorem dX4_copyRow_28 : decode cX4_copyRow 28 = .ok (.goto (-26), 3) := by decide +kernel
theorem dX4_copyRow_31 : decode cX4_copyRow 31 = .ok (.return_, 1) := by decide +kernel
theorem dX4_look_0 : decode cX4_look 0 = .ok (.iconst 0, 1) := by decide +kernel
theorem dX4_look_1 : decode cX4_look 1 = .ok (.istore_n 1, 1) := by decide +kernel
theorem dX4_look_2 : decode cX4_look 2 = .ok (.iload_n 1, 1) := by decide +kernel
theorem dX4_look_3 : decode cX4_look 3 = .ok (.bipush 30, 2) := by decide +kernel
theorem dX4_look_5 : decode cX4_look 5 = .ok (.if_icmp .ge 19, 3) := by decide +kernel
theorem dX4_look_8 : decode cX4_look 8 = .ok (.iconst 1, 1) := by decide +kernel
theorem dX4_look_9 : decode cX4_look 9 = .ok (.iload_n 1, 1) := by decide +kernel
theorem dX4_look_10 : decode cX4_look 10 = .ok (.ishl, 1) := by decide +kernel
theorem dX4_look_11 : decode cX4_look 11 = .ok (.aload_n 0, 1) := by decide +kernel
theorem dX4_look_12 : decode cX4_look 12 = .ok (.getfield 25, 3) := by decide +kernel
theorem dX4_look_15 : decode cX4_look 15 = .ok (.if_icmp .gt 9, 3) := by decide +kernel
theorem dX4_look_18 : decode cX4_look 18 = .ok (.iinc 1 1, 3) := by decide +kernel
theorem dX4_look_21 : decode cX4_look 21 = .ok (.goto (-19), 3) := by decide +kernel
theorem dX4_look_24 : decode cX4_look 24 = .ok (.iload_n 1, 1) := by decide +kernel
theorem dX4_look_25 : decode cX4_look 25 = .ok (.ireturn, 1) := by decide +kernel
theorem dX4_tripleAt_0 : decode cX4_tripleAt 0 = .ok (.iload_n 1, 1) := by decide +kernel
theorem dX4_tripleAt_1 : decode cX4_tripleAt 1 = .ok (.ifCond .lt 29, 3) := by decide +kernel
theorem dX4_tripleAt_4 : decode cX4_tripleAt 4 = .ok (.iload_n 1, 1) := by decide +kernel
theorem dX4_tripleAt_5 : decode cX4_tripleAt 5 = .ok (.aload_n 0, 1) := by decide +kernel
theorem dX4_tripleAt_6 : decode cX4_tripleAt 6 = .ok (.getfield 25, 3) := by decide +kernel
theorem dX4_tripleAt_9 : decode cX4_tripleAt 9 = .ok (.if_icmp .ge 21, 3) := by decide +kernel
theorem dX4_tripleAt_12 : decode cX4_tripleAt 12 = .ok (.iload_n 1, 1) := by decide +kernel
theorem dX4_tripleAt_13 : decode cX4_tripleAt 13 = .ok (.aload_n 0, 1) := by decide +kernel
theorem dX4_tripleAt_14 : decode cX4_tripleAt 14 = .ok (.getfield 9, 3) := by decide +kernel
theorem dX4_tripleAt_17 : decode cX4_tripleAt 17 = .ok (.arraylength, 1) := by decide +kernel
theorem dX4_tripleAt_18 : decode cX4_tripleAt 18 = .ok (.if_icmp .ge 12, 3) := by decide +kernel
theorem dX4_tripleAt_21 : decode cX4_tripleAt 21 = .ok (.aload_n 0, 1) := by decide +kernel
theorem dX4_tripleAt_22 : decode cX4_tripleAt 22 = .ok (.getfield 9, 3) := by decide +kernel
theorem dX4_tripleAt_25 : decode cX4_tripleAt 25 = .ok (.iload_n 1, 1) := by decide +kernel
theorem dX4_tripleAt_26 : decode cX4_tripleAt 26 = .ok (.iaload, 1) := by decide +kernel
theorem dX4_tripleAt_27 : decode cX4_tripleAt 27 = .ok (.goto 4, 3) := by decide +kernel
theorem dX4_tripleAt_30 : decode cX4_tripleAt 30 = .ok (.iconst (-1), 1) := by decide +kernel
theorem dX4_tripleAt_31 : decode cX4_tripleAt 31 = .ok (.ireturn, 1) := by decide +kernel
theorem dX4_questionAt_0 : decode cX4_questionAt 0 = .ok (.iload_n 1, 1) := by decide +kernel
theorem dX4_questionAt_1 : decode cX4_questionAt 1 = .ok (.ifCond .lt 29, 3) := by decide +kernel
theorem dX4_questionAt_4 : decode cX4_questionAt 4 = .ok (.iload_n 1, 1) := by decide +kernel
theorem dX4_questionAt_5 : decode cX4_questionAt 5 = .ok (.aload_n 0, 1) := by decide +kernel
theorem dX4_questionAt_6 : decode cX4_questionAt 6 = .ok (.getfield 44, 3) := by decide +kernel
theorem dX4_questionAt_9 : decode cX4_questionAt 9 = .ok (.if_icmp .ge 21, 3) := by decide +kernel
theorem dX4_questionAt_12 : decode cX4_questionAt 12 = .ok (.iload_n 1, 1) := by decide +kernel
theorem dX4_questionAt_13 : decode cX4_questionAt 13 = .ok (.aload_n 0, 1) := by decide +kernel
theorem dX4_questionAt_14 : decode cX4_questionAt 14 = .ok (.getfield 19, 3) := by decide +kernel
theorem dX4_questionAt_17 : decode cX4_questionAt 17 = .ok (.arraylength, 1) := by decide +kernel
theorem dX4_questionAt_18 : decode cX4_questionAt 18 = .ok (.if_icmp .ge 12, 3) := by decide +kernel
theorem dX4_questionAt_21 : decode cX4_questionAt 21 = .ok (.aload_n 0, 1) := by decide +kernel
theorem dX4_questionAt_22 : decode cX4_questionAt 22 = .ok (.getfield 19, 3) := by decide +kernel
theorem dX4_questionAt_25 : decode cX4_questionAt 25 = .ok (.iload_n 1, 1) := by decide +kernel
theorem dX4_questionAt_26 : decode cX4_questionAt 26 = .ok (.iaload, 1) := by decide +kernel
theorem dX4_questionAt_27 : decode cX4_questionAt 27 = .ok (.goto 4, 3) := by decide +kernel
theorem dX4_questionAt_30 : decode cX4_questionAt 30 = .ok (.iconst (-1), 1) := by decide +kernel
theorem dX4_questionAt_31 : decode cX4_questionAt 31 = .ok (.ireturn, 1) := by decide +kernel
set_option maxRecDepth 20000 in
theorem ggX4_canPut_X4_indexOf : GoodIn wsX4_canPut wsX4_indexOf := goodIn_r _ [7, 1, 8, 9, 10, 6, 11, 2, 12, 13, 14, 15, 16, 17, 18, 19, 20, 21] (by decide +kernel) (by decide +kernel)
set_option maxRecDepth 20000 in
theorem gX4_canPut_X4_indexOf : GoodIn wsX4_canPut (wsV RX4 47 RX4 yX4_indexOf wsX4_indexOf) := goodIn_app (goodIn_of _ (by decide +kernel)) ggX4_canPut_X4_indexOf
theorem dX4_canPut_0 : decode cX4_canPut 0 = .ok (.aload_n 0, 1) := by decide +kernel
theorem dX4_canPut_1 : decode cX4_canPut 1 = .ok (.getfield 25, 3) := by decide +kernel
theorem dX4_canPut_4 : decode cX4_canPut 4 = .ok (.aload_n 0, 1) := by decide +kernel
theorem dX4_canPut_5 : decode cX4_canPut 5 = .ok (.getfield 9, 3) := by decide +kernel
theorem dX4_canPut_8 : decode cX4_canPut 8 = .ok (.arraylength, 1) := by decide +kernel
theorem dX4_canPut_9 : decode cX4_canPut 9 = .ok (.if_icmp .lt 12, 3) := by decide +kernel
theorem dX4_canPut_12 : decode cX4_canPut 12 = .ok (.aload_n 0, 1) := by decide +kernel
theorem dX4_canPut_13 : decode cX4_canPut 13 = .ok (.iload_n 1, 1) := by decide +kernel
theorem dX4_canPut_14 : decode cX4_canPut 14 = .ok (.invokevirtual 47, 3) := by decide +kernel
theorem dX4_canPut_17 : decode cX4_canPut 17 = .ok (.iconst (-1), 1) := by decide +kernel
theorem dX4_canPut_18 : decode cX4_canPut 18 = .ok (.if_icmp .eq 7, 3) := by decide +kernel
theorem dX4_canPut_21 : decode cX4_canPut 21 = .ok (.iconst 1, 1) := by decide +kernel
theorem dX4_canPut_22 : decode cX4_canPut 22 = .ok (.goto 4, 3) := by decide +kernel
theorem dX4_canPut_25 : decode cX4_canPut 25 = .ok (.iconst 0, 1) := by decide +kernel
theorem dX4_canPut_26 : decode cX4_canPut 26 = .ok (.ireturn, 1) := by decide +kernel
set_option maxRecDepth 20000 in
theorem ggX4_put_X4_indexOf : GoodIn wsX4_put wsX4_indexOf := goodIn_r _ [7, 1, 8, 9, 10, 6, 11, 2, 29, 30, 31, 32, 33, 34, 35, 36, 37, 38] (by decide +kernel) (by decide +kernel)
set_option maxRecDepth 20000 in
theorem gX4_put_X4_indexOf : GoodIn wsX4_put (wsV RX4 47 RX4 yX4_indexOf wsX4_indexOf) := goodIn_app (goodIn_of _ (by decide +kernel)) ggX4_put_X4_indexOf
