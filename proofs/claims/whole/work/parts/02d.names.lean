set_option maxRecDepth 20000 in
theorem gX5_choiceAt_X5_signAt : GoodIn wsX5_choiceAt (wsV RX5 23 RX5 yX5_signAt wsX5_signAt) := goodIn_app (goodIn_of _ (by decide +kernel)) ggX5_choiceAt_X5_signAt
set_option maxRecDepth 20000 in
theorem ggX5_choiceAt_X5_digitAt : GoodIn wsX5_choiceAt wsX5_digitAt := goodIn_r _ [11, 1, 2, 3, 4, 5, 6, 7, 12, 13] (by decide +kernel) (by decide +kernel)
set_option maxRecDepth 20000 in
theorem gX5_choiceAt_X5_digitAt : GoodIn wsX5_choiceAt (wsV RX5 26 RX5 yX5_digitAt wsX5_digitAt) := goodIn_app (goodIn_of _ (by decide +kernel)) ggX5_choiceAt_X5_digitAt
theorem dX5_choiceAt_0 : decode cX5_choiceAt 0 = .ok (.aload_n 0, 1) := by decide +kernel
theorem dX5_choiceAt_1 : decode cX5_choiceAt 1 = .ok (.iload_n 1, 1) := by decide +kernel
theorem dX5_choiceAt_2 : decode cX5_choiceAt 2 = .ok (.invokevirtual 23, 3) := by decide +kernel
theorem dX5_choiceAt_5 : decode cX5_choiceAt 5 = .ok (.bipush 42, 2) := by decide +kernel
theorem dX5_choiceAt_7 : decode cX5_choiceAt 7 = .ok (.if_icmp .ne 8, 3) := by decide +kernel
theorem dX5_choiceAt_10 : decode cX5_choiceAt 10 = .ok (.bipush 10, 2) := by decide +kernel
theorem dX5_choiceAt_12 : decode cX5_choiceAt 12 = .ok (.goto 8, 3) := by decide +kernel
theorem dX5_choiceAt_15 : decode cX5_choiceAt 15 = .ok (.aload_n 0, 1) := by decide +kernel
theorem dX5_choiceAt_16 : decode cX5_choiceAt 16 = .ok (.iload_n 1, 1) := by decide +kernel
theorem dX5_choiceAt_17 : decode cX5_choiceAt 17 = .ok (.invokevirtual 26, 3) := by decide +kernel
theorem dX5_choiceAt_20 : decode cX5_choiceAt 20 = .ok (.ireturn, 1) := by decide +kernel
set_option maxRecDepth 20000 in
theorem ggX5_digitAt_X5_signAt : GoodIn wsX5_digitAt wsX5_signAt := goodIn_r _ [5, 6, 7, 8, 9] (by decide +kernel) (by decide +kernel)
set_option maxRecDepth 20000 in
theorem gX5_digitAt_X5_signAt : GoodIn wsX5_digitAt (wsV RX5 23 RX5 yX5_signAt wsX5_signAt) := goodIn_app (goodIn_of _ (by decide +kernel)) ggX5_digitAt_X5_signAt
theorem dX5_digitAt_0 : decode cX5_digitAt 0 = .ok (.aload_n 0, 1) := by decide +kernel
theorem dX5_digitAt_1 : decode cX5_digitAt 1 = .ok (.iload_n 1, 1) := by decide +kernel
theorem dX5_digitAt_2 : decode cX5_digitAt 2 = .ok (.invokevirtual 23, 3) := by decide +kernel
theorem dX5_digitAt_5 : decode cX5_digitAt 5 = .ok (.istore_n 2, 1) := by decide +kernel
theorem dX5_digitAt_6 : decode cX5_digitAt 6 = .ok (.iload_n 2, 1) := by decide +kernel
theorem dX5_digitAt_7 : decode cX5_digitAt 7 = .ok (.bipush 48, 2) := by decide +kernel
theorem dX5_digitAt_9 : decode cX5_digitAt 9 = .ok (.if_icmp .lt 16, 3) := by decide +kernel
theorem dX5_digitAt_12 : decode cX5_digitAt 12 = .ok (.iload_n 2, 1) := by decide +kernel
theorem dX5_digitAt_13 : decode cX5_digitAt 13 = .ok (.bipush 57, 2) := by decide +kernel
theorem dX5_digitAt_15 : decode cX5_digitAt 15 = .ok (.if_icmp .gt 10, 3) := by decide +kernel
theorem dX5_digitAt_18 : decode cX5_digitAt 18 = .ok (.iload_n 2, 1) := by decide +kernel
theorem dX5_digitAt_19 : decode cX5_digitAt 19 = .ok (.bipush 48, 2) := by decide +kernel
theorem dX5_digitAt_21 : decode cX5_digitAt 21 = .ok (.isub, 1) := by decide +kernel
theorem dX5_digitAt_22 : decode cX5_digitAt 22 = .ok (.goto 4, 3) := by decide +kernel
theorem dX5_digitAt_25 : decode cX5_digitAt 25 = .ok (.iconst (-1), 1) := by decide +kernel
theorem dX5_digitAt_26 : decode cX5_digitAt 26 = .ok (.ireturn, 1) := by decide +kernel
theorem dX5_signAt_0 : decode cX5_signAt 0 = .ok (.iload_n 1, 1) := by decide +kernel
theorem dX5_signAt_1 : decode cX5_signAt 1 = .ok (.ifCond .lt 29, 3) := by decide +kernel
theorem dX5_signAt_4 : decode cX5_signAt 4 = .ok (.iload_n 1, 1) := by decide +kernel
theorem dX5_signAt_5 : decode cX5_signAt 5 = .ok (.aload_n 0, 1) := by decide +kernel
theorem dX5_signAt_6 : decode cX5_signAt 6 = .ok (.getfield 15, 3) := by decide +kernel
theorem dX5_signAt_9 : decode cX5_signAt 9 = .ok (.if_icmp .ge 21, 3) := by decide +kernel
theorem dX5_signAt_12 : decode cX5_signAt 12 = .ok (.iload_n 1, 1) := by decide +kernel
theorem dX5_signAt_13 : decode cX5_signAt 13 = .ok (.aload_n 0, 1) := by decide +kernel
theorem dX5_signAt_14 : decode cX5_signAt 14 = .ok (.getfield 9, 3) := by decide +kernel
theorem dX5_signAt_17 : decode cX5_signAt 17 = .ok (.arraylength, 1) := by decide +kernel
theorem dX5_signAt_18 : decode cX5_signAt 18 = .ok (.if_icmp .ge 12, 3) := by decide +kernel
theorem dX5_signAt_21 : decode cX5_signAt 21 = .ok (.aload_n 0, 1) := by decide +kernel
theorem dX5_signAt_22 : decode cX5_signAt 22 = .ok (.getfield 9, 3) := by decide +kernel
theorem dX5_signAt_25 : decode cX5_signAt 25 = .ok (.iload_n 1, 1) := by decide +kernel
theorem dX5_signAt_26 : decode cX5_signAt 26 = .ok (.caload, 1) := by decide +kernel
theorem dX5_signAt_27 : decode cX5_signAt 27 = .ok (.goto 4, 3) := by decide +kernel
theorem dX5_signAt_30 : decode cX5_signAt 30 = .ok (.iconst (-1), 1) := by decide +kernel
theorem dX5_signAt_31 : decode cX5_signAt 31 = .ok (.ireturn, 1) := by decide +kernel
set_option maxRecDepth 20000 in
theorem ggX6_init_X5_init : GoodIn wsX6_init wsX5_init := goodIn_r _ [27, 28, 2, 3, 29, 30, 55, 56] (by decide +kernel) (by decide +kernel)
set_option maxRecDepth 20000 in
theorem gX6_init_X5_init_n9 : GoodIn wsX6_init (wsX5_init) := ggX6_init_X5_init
set_option maxRecDepth 20000 in
theorem ggX6_init_X4_init : GoodIn wsX6_init wsX4_init := goodIn_r _ [32, 33, 2, 3, 34, 35, 36, 37, 38, 64, 65, 66, 67, 68, 69, 70, 71, 72, 73] (by decide +kernel) (by decide +kernel)
set_option maxRecDepth 20000 in
theorem gX6_init_X4_init_n18 : GoodIn wsX6_init (wsX4_init) := ggX6_init_X4_init
set_option maxRecDepth 20000 in
theorem ggX6_init_X1_init : GoodIn wsX6_init wsX1_init := goodIn_r _ [41, 42, 2, 3, 43, 44, 9, 10, 31, 32, 33, 34, 35, 36, 37, 38, 74, 75, 76, 64, 65, 66, 67, 68, 69, 70, 71, 72, 73] (by decide +kernel) (by decide +kernel)
set_option maxRecDepth 20000 in
theorem gX6_init_X1_init : GoodIn wsX6_init (wsX1_init) := ggX6_init_X1_init
set_option maxRecDepth 20000 in
theorem ggX6_init_X0_init : GoodIn wsX6_init wsX0_init := goodIn_r _ [46, 47, 2, 3, 34, 48, 49, 77, 78, 79, 80, 81, 82] (by decide +kernel) (by decide +kernel)
set_option maxRecDepth 20000 in
theorem gX6_init_X0_init_n35 : GoodIn wsX6_init (wsX0_init) := ggX6_init_X0_init
set_option maxRecDepth 20000 in
theorem ggX6_init_X3_init : GoodIn wsX6_init wsX3_init := goodIn_r _ [51, 52, 2, 3, 53, 9, 10, 54, 31, 32, 33, 34, 35, 36, 37, 38, 64, 65, 66, 67, 68, 69, 70, 71, 72, 73, 83, 84] (by decide +kernel) (by decide +kernel)
set_option maxRecDepth 20000 in
theorem gX6_init_X3_init_n42 : GoodIn wsX6_init (wsX3_init) := ggX6_init_X3_init
theorem dX6_init_0 : decode cX6_init 0 = .ok (.aload_n 0, 1) := by decide +kernel
theorem dX6_init_1 : decode cX6_init 1 = .ok (.invokespecial 1, 3) := by decide +kernel
theorem dX6_init_4 : decode cX6_init 4 = .ok (.aload_n 0, 1) := by decide +kernel
theorem dX6_init_5 : decode cX6_init 5 = .ok (.new 7, 3) := by decide +kernel
theorem dX6_init_8 : decode cX6_init 8 = .ok (.dup, 1) := by decide +kernel
theorem dX6_init_9 : decode cX6_init 9 = .ok (.invokespecial 9, 3) := by decide +kernel
theorem dX6_init_12 : decode cX6_init 12 = .ok (.putfield 10, 3) := by decide +kernel
theorem dX6_init_15 : decode cX6_init 15 = .ok (.aload_n 0, 1) := by decide +kernel
theorem dX6_init_16 : decode cX6_init 16 = .ok (.new 16, 3) := by decide +kernel
theorem dX6_init_19 : decode cX6_init 19 = .ok (.dup, 1) := by decide +kernel
theorem dX6_init_20 : decode cX6_init 20 = .ok (.invokespecial 18, 3) := by decide +kernel
theorem dX6_init_23 : decode cX6_init 23 = .ok (.putfield 19, 3) := by decide +kernel
theorem dX6_init_26 : decode cX6_init 26 = .ok (.aload_n 0, 1) := by decide +kernel
theorem dX6_init_27 : decode cX6_init 27 = .ok (.new 16, 3) := by decide +kernel
theorem dX6_init_30 : decode cX6_init 30 = .ok (.dup, 1) := by decide +kernel
theorem dX6_init_31 : decode cX6_init 31 = .ok (.invokespecial 18, 3) := by decide +kernel
theorem dX6_init_34 : decode cX6_init 34 = .ok (.putfield 23, 3) := by decide +kernel
theorem dX6_init_37 : decode cX6_init 37 = .ok (.aload_n 0, 1) := by decide +kernel
theorem dX6_init_38 : decode cX6_init 38 = .ok (.new 26, 3) := by decide +kernel
theorem dX6_init_41 : decode cX6_init 41 = .ok (.dup, 1) := by decide +kernel
theorem dX6_init_42 : decode cX6_init 42 = .ok (.invokespecial 28, 3) := by decide +kernel
theorem dX6_init_45 : decode cX6_init 45 = .ok (.putfield 29, 3) := by decide +kernel
theorem dX6_init_48 : decode cX6_init 48 = .ok (.aload_n 0, 1) := by decide +kernel
theorem dX6_init_49 : decode cX6_init 49 = .ok (.new 33, 3) := by decide +kernel
theorem dX6_init_52 : decode cX6_init 52 = .ok (.dup, 1) := by decide +kernel
theorem dX6_init_53 : decode cX6_init 53 = .ok (.invokespecial 35, 3) := by decide +kernel
theorem dX6_init_56 : decode cX6_init 56 = .ok (.putfield 36, 3) := by decide +kernel
theorem dX6_init_59 : decode cX6_init 59 = .ok (.aload_n 0, 1) := by decide +kernel
theorem dX6_init_60 : decode cX6_init 60 = .ok (.new 40, 3) := by decide +kernel
theorem dX6_init_63 : decode cX6_init 63 = .ok (.dup, 1) := by decide +kernel
theorem dX6_init_64 : decode cX6_init 64 = .ok (.invokespecial 42, 3) := by decide +kernel
theorem dX6_init_67 : decode cX6_init 67 = .ok (.putfield 43, 3) := by decide +kernel
theorem dX6_init_70 : decode cX6_init 70 = .ok (.aload_n 0, 1) := by decide +kernel
theorem dX6_init_71 : decode cX6_init 71 = .ok (.new 40, 3) := by decide +kernel
theorem dX6_init_74 : decode cX6_init 74 = .ok (.dup, 1) := by decide +kernel
theorem dX6_init_75 : decode cX6_init 75 = .ok (.invokespecial 42, 3) := by decide +kernel
theorem dX6_init_78 : decode cX6_init 78 = .ok (.putfield 47, 3) := by decide +kernel
theorem dX6_init_81 : decode cX6_init 81 = .ok (.return_, 1) := by decide +kernel
set_option maxRecDepth 20000 in
theorem ggX6_append_X5_isFull : GoodIn wsX6_append wsX5_isFull := goodIn_r _ [10, 11, 12, 24, 25] (by decide +kernel) (by decide +kernel)
set_option maxRecDepth 20000 in
theorem gX6_append_X5_isFull : GoodIn wsX6_append (wsV RX6 57 RX5 yX5_isFull wsX5_isFull) := goodIn_app (goodIn_of _ (by decide +kernel)) ggX6_append_X5_isFull
set_option maxRecDepth 20000 in
theorem ggX6_append_X5_put : GoodIn wsX6_append wsX5_put := goodIn_r _ [16, 11, 12, 24, 25] (by decide +kernel) (by decide +kernel)
set_option maxRecDepth 20000 in
theorem gX6_append_X5_put : GoodIn wsX6_append (wsV RX6 66 RX5 yX5_put wsX5_put) := goodIn_app (goodIn_of _ (by decide +kernel)) ggX6_append_X5_put
theorem dX6_append_0 : decode cX6_append 0 = .ok (.iload_n 1, 1) := by decide +kernel
theorem dX6_append_1 : decode cX6_append 1 = .ok (.ifCond .lt 10, 3) := by decide +kernel
theorem dX6_append_4 : decode cX6_append 4 = .ok (.iload_n 1, 1) := by decide +kernel
theorem dX6_append_5 : decode cX6_append 5 = .ok (.sipush 255, 3) := by decide +kernel
theorem dX6_append_8 : decode cX6_append 8 = .ok (.if_icmp .le 13, 3) := by decide +kernel
theorem dX6_append_11 : decode cX6_append 11 = .ok (.new 50, 3) := by decide +kernel
theorem dX6_append_14 : decode cX6_append 14 = .ok (.dup, 1) := by decide +kernel
theorem dX6_append_15 : decode cX6_append 15 = .ok (.ldc 52, 2) := by decide +kernel
theorem dX6_append_17 : decode cX6_append 17 = .ok (.invokespecial 54, 3) := by decide +kernel
theorem dX6_append_20 : decode cX6_append 20 = .ok (.athrow, 1) := by decide +kernel
theorem dX6_append_21 : decode cX6_append 21 = .ok (.aload_n 0, 1) := by decide +kernel
theorem dX6_append_22 : decode cX6_append 22 = .ok (.getfield 10, 3) := by decide +kernel
theorem dX6_append_25 : decode cX6_append 25 = .ok (.invokevirtual 57, 3) := by decide +kernel
theorem dX6_append_28 : decode cX6_append 28 = .ok (.ifCond .eq 13, 3) := by decide +kernel
theorem dX6_append_31 : decode cX6_append 31 = .ok (.new 61, 3) := by decide +kernel
theorem dX6_append_34 : decode cX6_append 34 = .ok (.dup, 1) := by decide +kernel
theorem dX6_append_35 : decode cX6_append 35 = .ok (.ldc 63, 2) := by decide +kernel
theorem dX6_append_37 : decode cX6_append 37 = .ok (.invokespecial 65, 3) := by decide +kernel
theorem dX6_append_40 : decode cX6_append 40 = .ok (.athrow, 1) := by decide +kernel
theorem dX6_append_41 : decode cX6_append 41 = .ok (.aload_n 0, 1) := by decide +kernel
theorem dX6_append_42 : decode cX6_append 42 = .ok (.getfield 10, 3) := by decide +kernel
theorem dX6_append_45 : decode cX6_append 45 = .ok (.iload_n 1, 1) := by decide +kernel
theorem dX6_append_46 : decode cX6_append 46 = .ok (.invokevirtual 66, 3) := by decide +kernel
theorem dX6_append_49 : decode cX6_append 49 = .ok (.ireturn, 1) := by decide +kernel
set_option maxRecDepth 20000 in
theorem ggX6_clearText_X5_empty : GoodIn wsX6_clearText wsX5_empty := goodIn_r _ [6, 7, 15, 16] (by decide +kernel) (by decide +kernel)
set_option maxRecDepth 20000 in
theorem gX6_clearText_X5_empty : GoodIn wsX6_clearText (wsV RX6 70 RX5 yX5_empty wsX5_empty) := goodIn_app (goodIn_of _ (by decide +kernel)) ggX6_clearText_X5_empty
theorem dX6_clearText_0 : decode cX6_clearText 0 = .ok (.aload_n 0, 1) := by decide +kernel
theorem dX6_clearText_1 : decode cX6_clearText 1 = .ok (.getfield 10, 3) := by decide +kernel
theorem dX6_clearText_4 : decode cX6_clearText 4 = .ok (.invokevirtual 70, 3) := by decide +kernel
theorem dX6_clearText_7 : decode cX6_clearText 7 = .ok (.ireturn, 1) := by decide +kernel
set_option maxRecDepth 20000 in
theorem ggX6_errorPosition_X5_questionError : GoodIn wsX6_errorPosition wsX5_questionError := goodIn_r _ [6, 7, 8, 9, 10, 5, 11, 12, 13, 14, 15, 16, 17, 18, 19, 20, 32, 33] (by decide +kernel) (by decide +kernel)
set_option maxRecDepth 20000 in
theorem gX6_errorPosition_X5_questionError : GoodIn wsX6_errorPosition (wsV RX6 74 RX5 yX5_questionError wsX5_questionError) := goodIn_app (goodIn_of _ (by decide +kernel)) ggX6_errorPosition_X5_questionError
set_option maxRecDepth 20000 in
theorem ggX6_errorPosition_X5_triplesError : GoodIn wsX6_errorPosition wsX5_triplesError := goodIn_r _ [24, 7, 12, 13, 14, 5, 15, 16, 17, 18, 19, 20, 32, 33] (by decide +kernel) (by decide +kernel)
set_option maxRecDepth 20000 in
theorem gX6_errorPosition_X5_triplesError : GoodIn wsX6_errorPosition (wsV RX6 77 RX5 yX5_triplesError wsX5_triplesError) := goodIn_app (goodIn_of _ (by decide +kernel)) ggX6_errorPosition_X5_triplesError
theorem dX6_errorPosition_0 : decode cX6_errorPosition 0 = .ok (.iload_n 1, 1) := by decide +kernel
theorem dX6_errorPosition_1 : decode cX6_errorPosition 1 = .ok (.ifCond .eq 13, 3) := by decide +kernel
theorem dX6_errorPosition_4 : decode cX6_errorPosition 4 = .ok (.aload_n 0, 1) := by decide +kernel
theorem dX6_errorPosition_5 : decode cX6_errorPosition 5 = .ok (.getfield 10, 3) := by decide +kernel
theorem dX6_errorPosition_8 : decode cX6_errorPosition 8 = .ok (.invokevirtual 74, 3) := by decide +kernel
theorem dX6_errorPosition_11 : decode cX6_errorPosition 11 = .ok (.goto 10, 3) := by decide +kernel
theorem dX6_errorPosition_14 : decode cX6_errorPosition 14 = .ok (.aload_n 0, 1) := by decide +kernel
theorem dX6_errorPosition_15 : decode cX6_errorPosition 15 = .ok (.getfield 10, 3) := by decide +kernel
theorem dX6_errorPosition_18 : decode cX6_errorPosition 18 = .ok (.invokevirtual 77, 3) := by decide +kernel
theorem dX6_errorPosition_21 : decode cX6_errorPosition 21 = .ok (.ireturn, 1) := by decide +kernel
set_option maxRecDepth 20000 in
theorem ggX6_question_X5_questionError : GoodIn wsX6_question wsX5_questionError := goodIn_r _ [8, 9, 10, 11, 12, 7, 13, 14, 15, 16, 17, 18, 19, 20, 21, 22, 38, 39] (by decide +kernel) (by decide +kernel)
set_option maxRecDepth 20000 in
theorem gX6_question_X5_questionError : GoodIn wsX6_question (wsV RX6 74 RX5 yX5_questionError wsX5_questionError) := goodIn_app (goodIn_of _ (by decide +kernel)) ggX6_question_X5_questionError
set_option maxRecDepth 20000 in
theorem ggX6_question_X5_asQuestion : GoodIn wsX6_question wsX5_asQuestion := goodIn_r _ [26, 10, 11, 12, 7, 13, 14, 15, 16, 17, 9, 18, 19, 20, 21, 22, 27, 28, 29, 30, 38, 39] (by decide +kernel) (by decide +kernel)
set_option maxRecDepth 20000 in
theorem gX6_question_X5_asQuestion : GoodIn wsX6_question (wsV RX6 82 RX5 yX5_asQuestion wsX5_asQuestion) := goodIn_app (goodIn_of _ (by decide +kernel)) ggX6_question_X5_asQuestion
theorem dX6_question_0 : decode cX6_question 0 = .ok (.aload_n 0, 1) := by decide +kernel
theorem dX6_question_1 : decode cX6_question 1 = .ok (.getfield 10, 3) := by decide +kernel
theorem dX6_question_4 : decode cX6_question 4 = .ok (.invokevirtual 74, 3) := by decide +kernel
theorem dX6_question_7 : decode cX6_question 7 = .ok (.iconst (-1), 1) := by decide +kernel
theorem dX6_question_8 : decode cX6_question 8 = .ok (.if_icmp .eq 13, 3) := by decide +kernel
theorem dX6_question_11 : decode cX6_question 11 = .ok (.new 61, 3) := by decide +kernel
theorem dX6_question_14 : decode cX6_question 14 = .ok (.dup, 1) := by decide +kernel
theorem dX6_question_15 : decode cX6_question 15 = .ok (.ldc 80, 2) := by decide +kernel
theorem dX6_question_17 : decode cX6_question 17 = .ok (.invokespecial 65, 3) := by decide +kernel
theorem dX6_question_20 : decode cX6_question 20 = .ok (.athrow, 1) := by decide +kernel
theorem dX6_question_21 : decode cX6_question 21 = .ok (.aload_n 0, 1) := by decide +kernel
theorem dX6_question_22 : decode cX6_question 22 = .ok (.getfield 10, 3) := by decide +kernel
theorem dX6_question_25 : decode cX6_question 25 = .ok (.invokevirtual 82, 3) := by decide +kernel
theorem dX6_question_28 : decode cX6_question 28 = .ok (.ireturn, 1) := by decide +kernel
set_option maxRecDepth 20000 in
theorem ggX6_about_X4_look : GoodIn wsX6_about wsX4_look := goodIn_r _ [8, 9, 17, 18, 19, 20, 21, 22, 23, 24, 25, 26] (by decide +kernel) (by decide +kernel)
set_option maxRecDepth 20000 in
theorem gX6_about_X4_look : GoodIn wsX6_about (wsV RX6 107 RX4 yX4_look wsX4_look) := goodIn_app (goodIn_of _ (by decide +kernel)) ggX6_about_X4_look
theorem dX6_about_0 : decode cX6_about 0 = .ok (.iload_n 1, 1) := by decide +kernel
theorem dX6_about_1 : decode cX6_about 1 = .ok (.tableswitch 111 0 7 #[47, 55, 63, 71, 79, 87, 95, 103], 47) := by decide +kernel
theorem dX6_about_48 : decode cX6_about 48 = .ok (.aload_n 0, 1) := by decide +kernel
theorem dX6_about_49 : decode cX6_about 49 = .ok (.getfield 19, 3) := by decide +kernel
theorem dX6_about_52 : decode cX6_about 52 = .ok (.getfield 85, 3) := by decide +kernel
theorem dX6_about_55 : decode cX6_about 55 = .ok (.ireturn, 1) := by decide +kernel
theorem dX6_about_56 : decode cX6_about 56 = .ok (.aload_n 0, 1) := by decide +kernel
theorem dX6_about_57 : decode cX6_about 57 = .ok (.getfield 19, 3) := by decide +kernel
theorem dX6_about_60 : decode cX6_about 60 = .ok (.getfield 89, 3) := by decide +kernel
theorem dX6_about_63 : decode cX6_about 63 = .ok (.ireturn, 1) := by decide +kernel
theorem dX6_about_64 : decode cX6_about 64 = .ok (.aload_n 0, 1) := by decide +kernel
theorem dX6_about_65 : decode cX6_about 65 = .ok (.getfield 19, 3) := by decide +kernel
theorem dX6_about_68 : decode cX6_about 68 = .ok (.getfield 92, 3) := by decide +kernel
theorem dX6_about_71 : decode cX6_about 71 = .ok (.ireturn, 1) := by decide +kernel
theorem dX6_about_72 : decode cX6_about 72 = .ok (.aload_n 0, 1) := by decide +kernel
theorem dX6_about_73 : decode cX6_about 73 = .ok (.getfield 19, 3) := by decide +kernel
theorem dX6_about_76 : decode cX6_about 76 = .ok (.getfield 95, 3) := by decide +kernel
theorem dX6_about_79 : decode cX6_about 79 = .ok (.ireturn, 1) := by decide +kernel
theorem dX6_about_80 : decode cX6_about 80 = .ok (.aload_n 0, 1) := by decide +kernel
theorem dX6_about_81 : decode cX6_about 81 = .ok (.getfield 19, 3) := by decide +kernel
theorem dX6_about_84 : decode cX6_about 84 = .ok (.getfield 98, 3) := by decide +kernel
theorem dX6_about_87 : decode cX6_about 87 = .ok (.ireturn, 1) := by decide +kernel
theorem dX6_about_88 : decode cX6_about 88 = .ok (.aload_n 0, 1) := by decide +kernel
theorem dX6_about_89 : decode cX6_about 89 = .ok (.getfield 19, 3) := by decide +kernel
theorem dX6_about_92 : decode cX6_about 92 = .ok (.getfield 101, 3) := by decide +kernel
theorem dX6_about_95 : decode cX6_about 95 = .ok (.ireturn, 1) := by decide +kernel
theorem dX6_about_96 : decode cX6_about 96 = .ok (.aload_n 0, 1) := by decide +kernel
theorem dX6_about_97 : decode cX6_about 97 = .ok (.getfield 19, 3) := by decide +kernel
theorem dX6_about_100 : decode cX6_about 100 = .ok (.getfield 104, 3) := by decide +kernel
theorem dX6_about_103 : decode cX6_about 103 = .ok (.ireturn, 1) := by decide +kernel
theorem dX6_about_104 : decode cX6_about 104 = .ok (.aload_n 0, 1) := by decide +kernel
theorem dX6_about_105 : decode cX6_about 105 = .ok (.getfield 19, 3) := by decide +kernel
theorem dX6_about_108 : decode cX6_about 108 = .ok (.invokevirtual 107, 3) := by decide +kernel
theorem dX6_about_111 : decode cX6_about 111 = .ok (.ireturn, 1) := by decide +kernel
theorem dX6_about_112 : decode cX6_about 112 = .ok (.new 50, 3) := by decide +kernel
theorem dX6_about_115 : decode cX6_about 115 = .ok (.dup, 1) := by decide +kernel
theorem dX6_about_116 : decode cX6_about 116 = .ok (.ldc 110, 2) := by decide +kernel
theorem dX6_about_118 : decode cX6_about 118 = .ok (.invokespecial 54, 3) := by decide +kernel
theorem dX6_about_121 : decode cX6_about 121 = .ok (.athrow, 1) := by decide +kernel
set_option maxRecDepth 20000 in
theorem ggX6_triple_X6_needOrderOrNone : GoodIn wsX6_triple wsX6_needOrderOrNone := goodIn_ca (goodIn_r _ [5, 6, 7, 4, 8, 9, 10] (by decide +kernel) (by decide +kernel)) (goodIn_sub (fun _ h => List.mem_cons_of_mem _ (List.mem_append_left _ (List.mem_append_right _ h))) (by decide +kernel))
set_option maxRecDepth 20000 in
theorem gX6_triple_X6_needOrderOrNone : GoodIn wsX6_triple (va_wsS RX6 112 yX6_needOrderOrNone wsX6_needOrderOrNone) := goodIn_app (goodIn_of _ (by decide +kernel)) ggX6_triple_X6_needOrderOrNone
set_option maxRecDepth 20000 in
theorem ggX6_triple_X6_needPlace : GoodIn wsX6_triple wsX6_needPlace := goodIn_ca (goodIn_r _ [13, 14, 15] (by decide +kernel) (by decide +kernel)) (goodIn_sub (fun _ h => List.mem_cons_of_mem _ (List.mem_append_right _ h)) (by decide +kernel))
set_option maxRecDepth 20000 in
theorem gX6_triple_X6_needPlace : GoodIn wsX6_triple (va_wsS RX6 116 yX6_needPlace wsX6_needPlace) := goodIn_app (goodIn_of _ (by decide +kernel)) ggX6_triple_X6_needPlace
set_option maxRecDepth 20000 in
theorem ggX6_triple_X4_answerAt : GoodIn wsX6_triple wsX4_answerAt := goodIn_r _ [20, 21, 22, 23, 24, 19, 25, 26, 27, 28, 29, 30, 31, 32, 33, 34, 35, 36, 37, 38, 39, 40, 41, 42, 43, 44, 45, 46, 47, 48, 56, 57, 58, 59, 60, 61, 62, 63, 64, 65] (by decide +kernel) (by decide +kernel)
set_option maxRecDepth 20000 in
theorem gX6_triple_X4_answerAt : GoodIn wsX6_triple (wsV RX6 119 RX4 yX4_answerAt wsX4_answerAt) := goodIn_app (goodIn_of _ (by decide +kernel)) ggX6_triple_X4_answerAt
theorem dX6_triple_0 : decode cX6_triple 0 = .ok (.iload_n 1, 1) := by decide +kernel
theorem dX6_triple_1 : decode cX6_triple 1 = .ok (.invokestatic 112, 3) := by decide +kernel
theorem dX6_triple_4 : decode cX6_triple 4 = .ok (.iload_n 2, 1) := by decide +kernel
theorem dX6_triple_5 : decode cX6_triple 5 = .ok (.invokestatic 116, 3) := by decide +kernel
theorem dX6_triple_8 : decode cX6_triple 8 = .ok (.aload_n 0, 1) := by decide +kernel
theorem dX6_triple_9 : decode cX6_triple 9 = .ok (.getfield 19, 3) := by decide +kernel
theorem dX6_triple_12 : decode cX6_triple 12 = .ok (.sipush 1330, 3) := by decide +kernel
theorem dX6_triple_15 : decode cX6_triple 15 = .ok (.iload_n 1, 1) := by decide +kernel
theorem dX6_triple_16 : decode cX6_triple 16 = .ok (.iload_n 2, 1) := by decide +kernel
theorem dX6_triple_17 : decode cX6_triple 17 = .ok (.invokevirtual 119, 3) := by decide +kernel
theorem dX6_triple_20 : decode cX6_triple 20 = .ok (.ireturn, 1) := by decide +kernel
set_option maxRecDepth 20000 in
theorem ggX6_remembered_X6_needPlace : GoodIn wsX6_remembered wsX6_needPlace := goodIn_ca (goodIn_r _ [5, 6, 7] (by decide +kernel) (by decide +kernel)) (goodIn_sub (fun _ h => List.mem_cons_of_mem _ (List.mem_append_right _ h)) (by decide +kernel))
set_option maxRecDepth 20000 in
theorem gX6_remembered_X6_needPlace : GoodIn wsX6_remembered (va_wsS RX6 116 yX6_needPlace wsX6_needPlace) := goodIn_app (goodIn_of _ (by decide +kernel)) ggX6_remembered_X6_needPlace
set_option maxRecDepth 20000 in
theorem ggX6_remembered_X4_questionAt : GoodIn wsX6_remembered wsX4_questionAt := goodIn_r _ [12, 13, 14, 22, 23, 24, 25, 26, 27, 28, 29, 30, 31] (by decide +kernel) (by decide +kernel)
set_option maxRecDepth 20000 in
theorem gX6_remembered_X4_questionAt : GoodIn wsX6_remembered (wsV RX6 123 RX4 yX4_questionAt wsX4_questionAt) := goodIn_app (goodIn_of _ (by decide +kernel)) ggX6_remembered_X4_questionAt
theorem dX6_remembered_0 : decode cX6_remembered 0 = .ok (.iload_n 1, 1) := by decide +kernel
theorem dX6_remembered_1 : decode cX6_remembered 1 = .ok (.invokestatic 116, 3) := by decide +kernel
theorem dX6_remembered_4 : decode cX6_remembered 4 = .ok (.iload_n 1, 1) := by decide +kernel
theorem dX6_remembered_5 : decode cX6_remembered 5 = .ok (.aload_n 0, 1) := by decide +kernel
theorem dX6_remembered_6 : decode cX6_remembered 6 = .ok (.getfield 19, 3) := by decide +kernel
theorem dX6_remembered_9 : decode cX6_remembered 9 = .ok (.getfield 104, 3) := by decide +kernel
theorem dX6_remembered_12 : decode cX6_remembered 12 = .ok (.if_icmp .ge 24, 3) := by decide +kernel
theorem dX6_remembered_15 : decode cX6_remembered 15 = .ok (.aload_n 0, 1) := by decide +kernel
theorem dX6_remembered_16 : decode cX6_remembered 16 = .ok (.getfield 19, 3) := by decide +kernel
theorem dX6_remembered_19 : decode cX6_remembered 19 = .ok (.aload_n 0, 1) := by decide +kernel
theorem dX6_remembered_20 : decode cX6_remembered 20 = .ok (.getfield 19, 3) := by decide +kernel
theorem dX6_remembered_23 : decode cX6_remembered 23 = .ok (.getfield 104, 3) := by decide +kernel
theorem dX6_remembered_26 : decode cX6_remembered 26 = .ok (.iconst 1, 1) := by decide +kernel
theorem dX6_remembered_27 : decode cX6_remembered 27 = .ok (.isub, 1) := by decide +kernel
theorem dX6_remembered_28 : decode cX6_remembered 28 = .ok (.iload_n 1, 1) := by decide +kernel
theorem dX6_remembered_29 : decode cX6_remembered 29 = .ok (.isub, 1) := by decide +kernel
theorem dX6_remembered_30 : decode cX6_remembered 30 = .ok (.invokevirtual 123, 3) := by decide +kernel
theorem dX6_remembered_33 : decode cX6_remembered 33 = .ok (.goto 4, 3) := by decide +kernel
theorem dX6_remembered_36 : decode cX6_remembered 36 = .ok (.iconst (-1), 1) := by decide +kernel
theorem dX6_remembered_37 : decode cX6_remembered 37 = .ok (.ireturn, 1) := by decide +kernel
theorem dX6_weight_0 : decode cX6_weight 0 = .ok (.aload_n 0, 1) := by decide +kernel
theorem dX6_weight_1 : decode cX6_weight 1 = .ok (.getfield 19, 3) := by decide +kernel
theorem dX6_weight_4 : decode cX6_weight 4 = .ok (.getfield 126, 3) := by decide +kernel
theorem dX6_weight_7 : decode cX6_weight 7 = .ok (.ireturn, 1) := by decide +kernel
set_option maxRecDepth 20000 in
theorem ggX6_count_X6_needQuestion : GoodIn wsX6_count wsX6_needQuestion := goodIn_ca (goodIn_r _ [5, 6, 7] (by decide +kernel) (by decide +kernel)) (goodIn_sub (fun _ h => List.mem_cons_of_mem _ (List.mem_append_right _ h)) (by decide +kernel))
set_option maxRecDepth 20000 in
theorem gX6_count_X6_needQuestion : GoodIn wsX6_count (va_wsS RX6 129 yX6_needQuestion wsX6_needQuestion) := goodIn_app (goodIn_of _ (by decide +kernel)) ggX6_count_X6_needQuestion
set_option maxRecDepth 20000 in
theorem ggX6_count_X4_countAnswers : GoodIn wsX6_count wsX4_countAnswers := goodIn_r _ [12, 13, 14, 15, 16, 11, 17, 18, 19, 20, 21, 29, 30, 31, 32, 33, 34, 35, 36, 37, 38] (by decide +kernel) (by decide +kernel)
set_option maxRecDepth 20000 in
theorem gX6_count_X4_countAnswers : GoodIn wsX6_count (wsV RX6 132 RX4 yX4_countAnswers wsX4_countAnswers) := goodIn_app (goodIn_of _ (by decide +kernel)) ggX6_count_X4_countAnswers
theorem dX6_count_0 : decode cX6_count 0 = .ok (.iload_n 1, 1) := by decide +kernel
theorem dX6_count_1 : decode cX6_count 1 = .ok (.invokestatic 129, 3) := by decide +kernel
theorem dX6_count_4 : decode cX6_count 4 = .ok (.aload_n 0, 1) := by decide +kernel
theorem dX6_count_5 : decode cX6_count 5 = .ok (.getfield 19, 3) := by decide +kernel
theorem dX6_count_8 : decode cX6_count 8 = .ok (.iload_n 1, 1) := by decide +kernel
theorem dX6_count_9 : decode cX6_count 9 = .ok (.invokevirtual 132, 3) := by decide +kernel
theorem dX6_count_12 : decode cX6_count 12 = .ok (.ireturn, 1) := by decide +kernel
set_option maxRecDepth 20000 in
theorem ggX6_cost_X6_needQuestion : GoodIn wsX6_cost wsX6_needQuestion := goodIn_ca (goodIn_r _ [5, 6, 7] (by decide +kernel) (by decide +kernel)) (goodIn_sub (fun _ h => List.mem_cons_of_mem _ (List.mem_append_left _ (List.mem_append_right _ h))) (by decide +kernel))
set_option maxRecDepth 20000 in
theorem gX6_cost_X6_needQuestion : GoodIn wsX6_cost (va_wsS RX6 129 yX6_needQuestion wsX6_needQuestion) := goodIn_app (goodIn_of _ (by decide +kernel)) ggX6_cost_X6_needQuestion
set_option maxRecDepth 20000 in
theorem ggX6_cost_X6_needOrderOrNone : GoodIn wsX6_cost wsX6_needOrderOrNone := goodIn_ca (goodIn_r _ [10, 11, 12, 4, 13, 14, 15] (by decide +kernel) (by decide +kernel)) (goodIn_sub (fun _ h => List.mem_cons_of_mem _ (List.mem_append_right _ h)) (by decide +kernel))
set_option maxRecDepth 20000 in
theorem gX6_cost_X6_needOrderOrNone : GoodIn wsX6_cost (va_wsS RX6 112 yX6_needOrderOrNone wsX6_needOrderOrNone) := goodIn_app (goodIn_of _ (by decide +kernel)) ggX6_cost_X6_needOrderOrNone
set_option maxRecDepth 20000 in
theorem ggX6_cost_X4_costNow : GoodIn wsX6_cost wsX4_costNow := goodIn_r _ [20, 21, 22, 23, 24, 25, 26, 27, 28, 19, 29, 30, 31, 32, 33, 34, 35, 36, 37, 38, 39, 40, 41, 42, 43, 44, 45, 46, 47, 48, 49, 50, 51, 52, 53, 54, 55, 56, 57, 58, 59, 60, 61, 62, 63, 64, 65, 66, 67, 76, 77, 78, 79, 80, 81, 82, 83, 84, 85] (by decide +kernel) (by decide +kernel)
set_option maxRecDepth 20000 in
theorem gX6_cost_X4_costNow : GoodIn wsX6_cost (wsV RX6 135 RX4 yX4_costNow wsX4_costNow) := goodIn_app (goodIn_of _ (by decide +kernel)) ggX6_cost_X4_costNow
set_option maxRecDepth 20000 in
theorem ggX6_cost_X4_costBy : GoodIn wsX6_cost wsX4_costBy := goodIn_r _ [34, 21, 35, 36, 37, 38, 39, 40, 41, 42, 43, 44, 45, 46, 47, 48, 19, 49, 50, 51, 52, 53, 54, 55, 56, 57, 58, 59, 60, 61, 62, 63, 64, 65, 66, 67, 76, 77, 78, 79, 80, 81, 82, 83, 84, 85] (by decide +kernel) (by decide +kernel)
set_option maxRecDepth 20000 in
theorem gX6_cost_X4_costBy : GoodIn wsX6_cost (wsV RX6 138 RX4 yX4_costBy wsX4_costBy) := goodIn_app (goodIn_of _ (by decide +kernel)) ggX6_cost_X4_costBy
theorem dX6_cost_0 : decode cX6_cost 0 = .ok (.iload_n 1, 1) := by decide +kernel
theorem dX6_cost_1 : decode cX6_cost 1 = .ok (.invokestatic 129, 3) := by decide +kernel
theorem dX6_cost_4 : decode cX6_cost 4 = .ok (.iload_n 2, 1) := by decide +kernel
theorem dX6_cost_5 : decode cX6_cost 5 = .ok (.invokestatic 112, 3) := by decide +kernel
theorem dX6_cost_8 : decode cX6_cost 8 = .ok (.iload_n 2, 1) := by decide +kernel
theorem dX6_cost_9 : decode cX6_cost 9 = .ok (.iconst (-1), 1) := by decide +kernel
theorem dX6_cost_10 : decode cX6_cost 10 = .ok (.if_icmp .ne 14, 3) := by decide +kernel
theorem dX6_cost_13 : decode cX6_cost 13 = .ok (.aload_n 0, 1) := by decide +kernel
theorem dX6_cost_14 : decode cX6_cost 14 = .ok (.getfield 19, 3) := by decide +kernel
theorem dX6_cost_17 : decode cX6_cost 17 = .ok (.iload_n 1, 1) := by decide +kernel
theorem dX6_cost_18 : decode cX6_cost 18 = .ok (.invokevirtual 135, 3) := by decide +kernel
theorem dX6_cost_21 : decode cX6_cost 21 = .ok (.goto 12, 3) := by decide +kernel
theorem dX6_cost_24 : decode cX6_cost 24 = .ok (.aload_n 0, 1) := by decide +kernel
theorem dX6_cost_25 : decode cX6_cost 25 = .ok (.getfield 19, 3) := by decide +kernel
theorem dX6_cost_28 : decode cX6_cost 28 = .ok (.iload_n 1, 1) := by decide +kernel
theorem dX6_cost_29 : decode cX6_cost 29 = .ok (.iload_n 2, 1) := by decide +kernel
theorem dX6_cost_30 : decode cX6_cost 30 = .ok (.invokevirtual 138, 3) := by decide +kernel
theorem dX6_cost_33 : decode cX6_cost 33 = .ok (.ireturn, 1) := by decide +kernel
set_option maxRecDepth 20000 in
theorem ggX6_by_X6_needQuestion : GoodIn wsX6_by wsX6_needQuestion := goodIn_ca (goodIn_r _ [5, 6, 7] (by decide +kernel) (by decide +kernel)) (goodIn_sub (fun _ h => List.mem_cons_of_mem _ (List.mem_append_right _ h)) (by decide +kernel))
set_option maxRecDepth 20000 in
theorem gX6_by_X6_needQuestion : GoodIn wsX6_by (va_wsS RX6 129 yX6_needQuestion wsX6_needQuestion) := goodIn_app (goodIn_of _ (by decide +kernel)) ggX6_by_X6_needQuestion
set_option maxRecDepth 20000 in
theorem ggX6_by_X4_answeringOrder : GoodIn wsX6_by wsX4_answeringOrder := goodIn_r _ [12, 13, 14, 15, 16, 11, 17, 18, 19, 20, 21, 22, 23, 24, 25, 26, 27, 28, 29, 30, 31, 32, 33, 34, 35, 36, 37, 38, 39, 40, 41, 42, 43, 44, 45, 46, 47, 48, 49, 50, 51, 52, 53, 54, 55, 63, 64, 65, 66, 67, 68, 69, 70, 71, 72] (by decide +kernel) (by decide +kernel)
set_option maxRecDepth 20000 in
theorem gX6_by_X4_answeringOrder : GoodIn wsX6_by (wsV RX6 142 RX4 yX4_answeringOrder wsX4_answeringOrder) := goodIn_app (goodIn_of _ (by decide +kernel)) ggX6_by_X4_answeringOrder
theorem dX6_by_0 : decode cX6_by 0 = .ok (.iload_n 1, 1) := by decide +kernel
theorem dX6_by_1 : decode cX6_by 1 = .ok (.invokestatic 129, 3) := by decide +kernel
theorem dX6_by_4 : decode cX6_by 4 = .ok (.aload_n 0, 1) := by decide +kernel
theorem dX6_by_5 : decode cX6_by 5 = .ok (.getfield 19, 3) := by decide +kernel
theorem dX6_by_8 : decode cX6_by 8 = .ok (.iload_n 1, 1) := by decide +kernel
theorem dX6_by_9 : decode cX6_by 9 = .ok (.invokevirtual 142, 3) := by decide +kernel
theorem dX6_by_12 : decode cX6_by 12 = .ok (.ireturn, 1) := by decide +kernel
set_option maxRecDepth 20000 in
theorem ggX6_reach_X6_needQuestion : GoodIn wsX6_reach wsX6_needQuestion := goodIn_ca (goodIn_r _ [4, 5, 6] (by decide +kernel) (by decide +kernel)) (goodIn_sub (fun _ h => List.mem_cons_of_mem _ (List.mem_append_left _ (List.mem_append_right _ h))) (by decide +kernel))
set_option maxRecDepth 20000 in
theorem gX6_reach_X6_needQuestion : GoodIn wsX6_reach (va_wsS RX6 129 yX6_needQuestion wsX6_needQuestion) := goodIn_app (goodIn_of _ (by decide +kernel)) ggX6_reach_X6_needQuestion
set_option maxRecDepth 20000 in
theorem ggX6_reach_X6_needOrder : GoodIn wsX6_reach wsX6_needOrder := goodIn_ca (goodIn_r _ [9, 10, 11] (by decide +kernel) (by decide +kernel)) (goodIn_sub (fun _ h => List.mem_cons_of_mem _ (List.mem_append_right _ h)) (by decide +kernel))
set_option maxRecDepth 20000 in
theorem gX6_reach_X6_needOrder : GoodIn wsX6_reach (va_wsS RX6 145 yX6_needOrder wsX6_needOrder) := goodIn_app (goodIn_of _ (by decide +kernel)) ggX6_reach_X6_needOrder
set_option maxRecDepth 20000 in
theorem ggX6_reach_X2_reachOf : GoodIn wsX6_reach wsX2_reachOf := goodIn_r _ [15, 16, 17, 14, 18, 19, 20, 21, 22] (by decide +kernel) (by decide +kernel)
set_option maxRecDepth 20000 in
theorem gX6_reach_X2_reachOf : GoodIn wsX6_reach (va_wsS RX6 148 yX2_reachOf wsX2_reachOf) := goodIn_app (goodIn_of _ (by decide +kernel)) ggX6_reach_X2_reachOf
theorem dX6_reach_0 : decode cX6_reach 0 = .ok (.iload_n 1, 1) := by decide +kernel
theorem dX6_reach_1 : decode cX6_reach 1 = .ok (.invokestatic 129, 3) := by decide +kernel
theorem dX6_reach_4 : decode cX6_reach 4 = .ok (.iload_n 2, 1) := by decide +kernel
theorem dX6_reach_5 : decode cX6_reach 5 = .ok (.invokestatic 145, 3) := by decide +kernel
theorem dX6_reach_8 : decode cX6_reach 8 = .ok (.iload_n 1, 1) := by decide +kernel
theorem dX6_reach_9 : decode cX6_reach 9 = .ok (.iload_n 2, 1) := by decide +kernel
theorem dX6_reach_10 : decode cX6_reach 10 = .ok (.invokestatic 148, 3) := by decide +kernel
theorem dX6_reach_13 : decode cX6_reach 13 = .ok (.ireturn, 1) := by decide +kernel
set_option maxRecDepth 20000 in
theorem ggX6_answer_X6_needQuestion : GoodIn wsX6_answer wsX6_needQuestion := goodIn_ca (goodIn_r _ [5, 6, 7] (by decide +kernel) (by decide +kernel)) (goodIn_sub (fun _ h => List.mem_cons_of_mem _ (List.mem_append_right _ h)) (by decide +kernel))
set_option maxRecDepth 20000 in
theorem gX6_answer_X6_needQuestion : GoodIn wsX6_answer (va_wsS RX6 129 yX6_needQuestion wsX6_needQuestion) := goodIn_app (goodIn_of _ (by decide +kernel)) ggX6_answer_X6_needQuestion
set_option maxRecDepth 20000 in
theorem ggX6_answer_X6_needPlace : GoodIn wsX6_answer wsX6_needPlace := goodIn_ca (goodIn_r _ [10, 6, 7] (by decide +kernel) (by decide +kernel)) (goodIn_sub (fun _ h => List.mem_cons_of_mem _ (List.mem_append_right _ h)) (by decide +kernel))
set_option maxRecDepth 20000 in
theorem gX6_answer_X6_needPlace : GoodIn wsX6_answer (va_wsS RX6 116 yX6_needPlace wsX6_needPlace) := goodIn_app (goodIn_of _ (by decide +kernel)) ggX6_answer_X6_needPlace
set_option maxRecDepth 20000 in
theorem ggX6_answer_X4_answeringOrder : GoodIn wsX6_answer wsX4_answeringOrder := goodIn_r _ [15, 16, 17, 18, 19, 14, 20, 21, 22, 23, 24, 25, 26, 27, 28, 29, 30, 31, 32, 33, 34, 35, 36, 37, 38, 39, 40, 41, 42, 43, 44, 45, 46, 47, 48, 49, 50, 51, 52, 53, 54, 55, 56, 57, 58, 84, 85, 86, 87, 88, 89, 90, 91, 92, 93] (by decide +kernel) (by decide +kernel)
set_option maxRecDepth 20000 in
theorem gX6_answer_X4_answeringOrder : GoodIn wsX6_answer (wsV RX6 142 RX4 yX4_answeringOrder wsX4_answeringOrder) := goodIn_app (goodIn_of _ (by decide +kernel)) ggX6_answer_X4_answeringOrder
set_option maxRecDepth 20000 in
theorem ggX6_answer_X4_answerAt : GoodIn wsX6_answer wsX4_answerAt := goodIn_r _ [62, 16, 51, 52, 53, 14, 54, 55, 56, 57, 58, 63, 64, 65, 66, 67, 68, 69, 70, 71, 72, 28, 73, 30, 31, 32, 33, 74, 75, 76, 84, 85, 86, 87, 88, 89, 90, 91, 92, 93] (by decide +kernel) (by decide +kernel)
set_option maxRecDepth 20000 in
theorem gX6_answer_X4_answerAt : GoodIn wsX6_answer (wsV RX6 119 RX4 yX4_answerAt wsX4_answerAt) := goodIn_app (goodIn_of _ (by decide +kernel)) ggX6_answer_X4_answerAt
theorem dX6_answer_0 : decode cX6_answer 0 = .ok (.iload_n 1, 1) := by decide +kernel
theorem dX6_answer_1 : decode cX6_answer 1 = .ok (.invokestatic 129, 3) := by decide +kernel
theorem dX6_answer_4 : decode cX6_answer 4 = .ok (.iload_n 2, 1) := by decide +kernel
theorem dX6_answer_5 : decode cX6_answer 5 = .ok (.invokestatic 116, 3) := by decide +kernel
theorem dX6_answer_8 : decode cX6_answer 8 = .ok (.aload_n 0, 1) := by decide +kernel
theorem dX6_answer_9 : decode cX6_answer 9 = .ok (.getfield 19, 3) := by decide +kernel
theorem dX6_answer_12 : decode cX6_answer 12 = .ok (.iload_n 1, 1) := by decide +kernel
theorem dX6_answer_13 : decode cX6_answer 13 = .ok (.aload_n 0, 1) := by decide +kernel
theorem dX6_answer_14 : decode cX6_answer 14 = .ok (.getfield 19, 3) := by decide +kernel
theorem dX6_answer_17 : decode cX6_answer 17 = .ok (.iload_n 1, 1) := by decide +kernel
theorem dX6_answer_18 : decode cX6_answer 18 = .ok (.invokevirtual 142, 3) := by decide +kernel
theorem dX6_answer_21 : decode cX6_answer 21 = .ok (.iload_n 2, 1) := by decide +kernel
theorem dX6_answer_22 : decode cX6_answer 22 = .ok (.invokevirtual 119, 3) := by decide +kernel
theorem dX6_answer_25 : decode cX6_answer 25 = .ok (.ireturn, 1) := by decide +kernel
set_option maxRecDepth 20000 in
theorem ggX6_pairs_X6_needJoin : GoodIn wsX6_pairs wsX6_needJoin := goodIn_ca (goodIn_r _ [5, 6, 7, 4, 8, 9, 10, 11, 12, 13] (by decide +kernel) (by decide +kernel)) (goodIn_sub (fun _ h => List.mem_cons_of_mem _ (List.mem_append_right _ h)) (by decide +kernel))
set_option maxRecDepth 20000 in
theorem gX6_pairs_X6_needJoin : GoodIn wsX6_pairs (va_wsS RX6 153 yX6_needJoin wsX6_needJoin) := goodIn_app (goodIn_of _ (by decide +kernel)) ggX6_pairs_X6_needJoin
set_option maxRecDepth 20000 in
theorem ggX6_pairs_X2_boundTo : GoodIn wsX6_pairs wsX2_boundTo := goodIn_r _ [17, 18, 19, 16, 20, 21, 22, 23] (by decide +kernel) (by decide +kernel)
set_option maxRecDepth 20000 in
theorem gX6_pairs_X2_boundTo : GoodIn wsX6_pairs (va_wsS RX6 157 yX2_boundTo wsX2_boundTo) := goodIn_app (goodIn_of _ (by decide +kernel)) ggX6_pairs_X2_boundTo
set_option maxRecDepth 20000 in
theorem ggX6_pairs_X4_countAnswers : GoodIn wsX6_pairs wsX4_countAnswers := goodIn_r _ [28, 29, 30, 31, 32, 27, 33, 34, 35, 36, 37, 45, 46, 47, 48, 49, 50, 51, 52, 53, 54] (by decide +kernel) (by decide +kernel)
set_option maxRecDepth 20000 in
theorem gX6_pairs_X4_countAnswers : GoodIn wsX6_pairs (wsV RX6 132 RX4 yX4_countAnswers wsX4_countAnswers) := goodIn_app (goodIn_of _ (by decide +kernel)) ggX6_pairs_X4_countAnswers
theorem dX6_pairs_0 : decode cX6_pairs 0 = .ok (.iload_n 1, 1) := by decide +kernel
theorem dX6_pairs_1 : decode cX6_pairs 1 = .ok (.iload_n 2, 1) := by decide +kernel
theorem dX6_pairs_2 : decode cX6_pairs 2 = .ok (.iload_n 3, 1) := by decide +kernel
theorem dX6_pairs_3 : decode cX6_pairs 3 = .ok (.iload 4, 2) := by decide +kernel
theorem dX6_pairs_5 : decode cX6_pairs 5 = .ok (.invokestatic 153, 3) := by decide +kernel
theorem dX6_pairs_8 : decode cX6_pairs 8 = .ok (.iconst 0, 1) := by decide +kernel
theorem dX6_pairs_9 : decode cX6_pairs 9 = .ok (.istore 5, 2) := by decide +kernel
theorem dX6_pairs_11 : decode cX6_pairs 11 = .ok (.iconst 0, 1) := by decide +kernel
theorem dX6_pairs_12 : decode cX6_pairs 12 = .ok (.istore 6, 2) := by decide +kernel
theorem dX6_pairs_14 : decode cX6_pairs 14 = .ok (.iload 6, 2) := by decide +kernel
theorem dX6_pairs_16 : decode cX6_pairs 16 = .ok (.bipush 10, 2) := by decide +kernel
theorem dX6_pairs_18 : decode cX6_pairs 18 = .ok (.if_icmp .ge 48, 3) := by decide +kernel
theorem dX6_pairs_21 : decode cX6_pairs 21 = .ok (.aload_n 0, 1) := by decide +kernel
theorem dX6_pairs_22 : decode cX6_pairs 22 = .ok (.getfield 19, 3) := by decide +kernel
theorem dX6_pairs_25 : decode cX6_pairs 25 = .ok (.iload_n 1, 1) := by decide +kernel
theorem dX6_pairs_26 : decode cX6_pairs 26 = .ok (.iload_n 3, 1) := by decide +kernel
theorem dX6_pairs_27 : decode cX6_pairs 27 = .ok (.iload 6, 2) := by decide +kernel
theorem dX6_pairs_29 : decode cX6_pairs 29 = .ok (.invokestatic 157, 3) := by decide +kernel
theorem dX6_pairs_32 : decode cX6_pairs 32 = .ok (.invokevirtual 132, 3) := by decide +kernel
theorem dX6_pairs_35 : decode cX6_pairs 35 = .ok (.istore 7, 2) := by decide +kernel
theorem dX6_pairs_37 : decode cX6_pairs 37 = .ok (.iload 5, 2) := by decide +kernel
theorem dX6_pairs_39 : decode cX6_pairs 39 = .ok (.iload 7, 2) := by decide +kernel
theorem dX6_pairs_41 : decode cX6_pairs 41 = .ok (.aload_n 0, 1) := by decide +kernel
theorem dX6_pairs_42 : decode cX6_pairs 42 = .ok (.getfield 19, 3) := by decide +kernel
theorem dX6_pairs_45 : decode cX6_pairs 45 = .ok (.iload_n 2, 1) := by decide +kernel
theorem dX6_pairs_46 : decode cX6_pairs 46 = .ok (.iload 4, 2) := by decide +kernel
theorem dX6_pairs_48 : decode cX6_pairs 48 = .ok (.iload 6, 2) := by decide +kernel
theorem dX6_pairs_50 : decode cX6_pairs 50 = .ok (.invokestatic 157, 3) := by decide +kernel
theorem dX6_pairs_53 : decode cX6_pairs 53 = .ok (.invokevirtual 132, 3) := by decide +kernel
theorem dX6_pairs_56 : decode cX6_pairs 56 = .ok (.imul, 1) := by decide +kernel
theorem dX6_pairs_57 : decode cX6_pairs 57 = .ok (.iadd, 1) := by decide +kernel
theorem dX6_pairs_58 : decode cX6_pairs 58 = .ok (.istore 5, 2) := by decide +kernel
theorem dX6_pairs_60 : decode cX6_pairs 60 = .ok (.iinc 6 1, 3) := by decide +kernel
theorem dX6_pairs_63 : decode cX6_pairs 63 = .ok (.goto (-49), 3) := by decide +kernel
theorem dX6_pairs_66 : decode cX6_pairs 66 = .ok (.iload 5, 2) := by decide +kernel
theorem dX6_pairs_68 : decode cX6_pairs 68 = .ok (.ireturn, 1) := by decide +kernel
set_option maxRecDepth 20000 in
theorem ggX6_joinCost_X6_needJoin : GoodIn wsX6_joinCost wsX6_needJoin := goodIn_ca (goodIn_r _ [4, 5, 6, 3, 7, 8, 9, 10, 11, 12] (by decide +kernel) (by decide +kernel)) (goodIn_sub (fun _ h => List.mem_cons_of_mem _ (List.mem_append_right _ h)) (by decide +kernel))
set_option maxRecDepth 20000 in
theorem gX6_joinCost_X6_needJoin : GoodIn wsX6_joinCost (va_wsS RX6 153 yX6_needJoin wsX6_needJoin) := goodIn_app (goodIn_of _ (by decide +kernel)) ggX6_joinCost_X6_needJoin
set_option maxRecDepth 20000 in
theorem ggX6_joinCost_X6_mergingCost : GoodIn wsX6_joinCost wsX6_mergingCost := goodIn_r _ [16, 17, 18, 19, 20, 21, 22, 23, 24, 25, 26, 27, 28, 29, 30, 31, 32, 33, 34, 35, 36, 37, 38, 39, 40, 41, 42, 43, 44, 45, 46, 47, 48, 49, 50, 51, 52, 53, 54, 55, 56, 57, 58, 59, 60, 61, 62, 63, 64, 65, 66, 67, 68, 69, 70, 71, 72, 73, 74, 75, 76, 77, 78, 79, 80, 93, 94, 95, 96, 97, 98, 99, 100, 101, 102, 103, 104, 105, 106, 107, 108, 109] (by decide +kernel) (by decide +kernel)
set_option maxRecDepth 20000 in
theorem gX6_joinCost_X6_mergingCost : GoodIn wsX6_joinCost (wsV RX6 160 RX6 yX6_mergingCost wsX6_mergingCost) := goodIn_app (goodIn_of _ (by decide +kernel)) ggX6_joinCost_X6_mergingCost
set_option maxRecDepth 20000 in
theorem ggX6_joinCost_X6_lookingUpCost : GoodIn wsX6_joinCost wsX6_lookingUpCost := goodIn_r _ [84, 17, 85, 86, 87, 21, 88, 58, 23, 24, 25, 26, 27, 28, 29, 30, 31, 54, 55, 56, 57, 35, 36, 37, 38, 39, 40, 41, 42, 43, 44, 45, 59, 60, 61, 62, 63, 64, 65, 66, 67, 68, 69, 70, 71, 72, 73, 74, 75, 76, 77, 78, 79, 80, 89, 90, 91, 92, 93, 94, 95, 96, 97, 98, 99, 100, 101, 102, 103, 104, 105, 106, 107, 108, 109] (by decide +kernel) (by decide +kernel)
set_option maxRecDepth 20000 in
theorem gX6_joinCost_X6_lookingUpCost : GoodIn wsX6_joinCost (wsV RX6 164 RX6 yX6_lookingUpCost wsX6_lookingUpCost) := goodIn_app (goodIn_of _ (by decide +kernel)) ggX6_joinCost_X6_lookingUpCost
theorem dX6_joinCost_0 : decode cX6_joinCost 0 = .ok (.iload_n 1, 1) := by decide +kernel
theorem dX6_joinCost_1 : decode cX6_joinCost 1 = .ok (.iload_n 2, 1) := by decide +kernel
theorem dX6_joinCost_2 : decode cX6_joinCost 2 = .ok (.iload_n 3, 1) := by decide +kernel
theorem dX6_joinCost_3 : decode cX6_joinCost 3 = .ok (.iload 4, 2) := by decide +kernel
theorem dX6_joinCost_5 : decode cX6_joinCost 5 = .ok (.invokestatic 153, 3) := by decide +kernel
theorem dX6_joinCost_8 : decode cX6_joinCost 8 = .ok (.iload 5, 2) := by decide +kernel
theorem dX6_joinCost_10 : decode cX6_joinCost 10 = .ok (.ifCond .eq 15, 3) := by decide +kernel
theorem dX6_joinCost_13 : decode cX6_joinCost 13 = .ok (.aload_n 0, 1) := by decide +kernel
theorem dX6_joinCost_14 : decode cX6_joinCost 14 = .ok (.iload_n 1, 1) := by decide +kernel
theorem dX6_joinCost_15 : decode cX6_joinCost 15 = .ok (.iload_n 2, 1) := by decide +kernel
theorem dX6_joinCost_16 : decode cX6_joinCost 16 = .ok (.iload_n 3, 1) := by decide +kernel
theorem dX6_joinCost_17 : decode cX6_joinCost 17 = .ok (.iload 4, 2) := by decide +kernel
theorem dX6_joinCost_19 : decode cX6_joinCost 19 = .ok (.invokevirtual 160, 3) := by decide +kernel
theorem dX6_joinCost_22 : decode cX6_joinCost 22 = .ok (.goto 12, 3) := by decide +kernel
theorem dX6_joinCost_25 : decode cX6_joinCost 25 = .ok (.aload_n 0, 1) := by decide +kernel
theorem dX6_joinCost_26 : decode cX6_joinCost 26 = .ok (.iload_n 1, 1) := by decide +kernel
theorem dX6_joinCost_27 : decode cX6_joinCost 27 = .ok (.iload_n 2, 1) := by decide +kernel
theorem dX6_joinCost_28 : decode cX6_joinCost 28 = .ok (.iload_n 3, 1) := by decide +kernel
theorem dX6_joinCost_29 : decode cX6_joinCost 29 = .ok (.iload 4, 2) := by decide +kernel
theorem dX6_joinCost_31 : decode cX6_joinCost 31 = .ok (.invokevirtual 164, 3) := by decide +kernel
theorem dX6_joinCost_34 : decode cX6_joinCost 34 = .ok (.ireturn, 1) := by decide +kernel
set_option maxRecDepth 20000 in
theorem ggX6_add_X6_needTriple : GoodIn wsX6_add wsX6_needTriple := goodIn_ca (goodIn_r _ [8, 9, 10] (by decide +kernel) (by decide +kernel)) (goodIn_sub (fun _ h => List.mem_cons_of_mem _ (List.mem_append_right _ h)) (by decide +kernel))
set_option maxRecDepth 20000 in
theorem gX6_add_X6_needTriple : GoodIn wsX6_add (va_wsS RX6 167 yX6_needTriple wsX6_needTriple) := goodIn_app (goodIn_of _ (by decide +kernel)) ggX6_add_X6_needTriple
set_option maxRecDepth 20000 in
theorem ggX6_add_X4_canPut : GoodIn wsX6_add wsX4_canPut := goodIn_r _ [15, 16, 17, 18, 19, 20, 14, 21, 22, 23, 24, 25, 79, 80, 81, 82, 83, 84, 85, 86, 87, 88] (by decide +kernel) (by decide +kernel)
set_option maxRecDepth 20000 in
theorem gX6_add_X4_canPut : GoodIn wsX6_add (wsV RX6 170 RX4 yX4_canPut wsX4_canPut) := goodIn_app (goodIn_of _ (by decide +kernel)) ggX6_add_X4_canPut
set_option maxRecDepth 20000 in
theorem ggX6_add_X1_push : GoodIn wsX6_add wsX1_push := goodIn_r _ [30, 31, 32, 33, 34, 35, 29, 36, 37, 38, 39, 40, 14, 41, 16, 17, 42, 43, 44, 45, 46, 47, 48, 49, 50, 51, 52, 89, 90, 91, 79, 80, 81, 82, 83, 84, 85, 86, 87, 88] (by decide +kernel) (by decide +kernel)
set_option maxRecDepth 20000 in
theorem gX6_add_X1_push : GoodIn wsX6_add (wsV RX6 176 RX1 yX1_push wsX1_push) := goodIn_app (goodIn_of _ (by decide +kernel)) ggX6_add_X1_push
set_option maxRecDepth 20000 in
theorem ggX6_add_X4_put : GoodIn wsX6_add wsX4_put := goodIn_r _ [56, 16, 17, 18, 19, 20, 14, 21, 22, 23, 24, 25, 57, 58, 59, 60, 43, 42, 61, 62, 63, 64, 65, 66, 67, 68, 69, 70, 71, 79, 80, 81, 82, 83, 84, 85, 86, 87, 88] (by decide +kernel) (by decide +kernel)
set_option maxRecDepth 20000 in
theorem gX6_add_X4_put : GoodIn wsX6_add (wsV RX6 180 RX4 yX4_put wsX4_put) := goodIn_app (goodIn_of _ (by decide +kernel)) ggX6_add_X4_put
theorem dX6_add_0 : decode cX6_add 0 = .ok (.iload_n 1, 1) := by decide +kernel
theorem dX6_add_1 : decode cX6_add 1 = .ok (.invokestatic 167, 3) := by decide +kernel
theorem dX6_add_4 : decode cX6_add 4 = .ok (.aload_n 0, 1) := by decide +kernel
theorem dX6_add_5 : decode cX6_add 5 = .ok (.getfield 19, 3) := by decide +kernel
theorem dX6_add_8 : decode cX6_add 8 = .ok (.iload_n 1, 1) := by decide +kernel
theorem dX6_add_9 : decode cX6_add 9 = .ok (.invokevirtual 170, 3) := by decide +kernel
theorem dX6_add_12 : decode cX6_add 12 = .ok (.ifCond .ne 13, 3) := by decide +kernel
theorem dX6_add_15 : decode cX6_add 15 = .ok (.new 61, 3) := by decide +kernel
theorem dX6_add_18 : decode cX6_add 18 = .ok (.dup, 1) := by decide +kernel
theorem dX6_add_19 : decode cX6_add 19 = .ok (.ldc 174, 2) := by decide +kernel
theorem dX6_add_21 : decode cX6_add 21 = .ok (.invokespecial 65, 3) := by decide +kernel
theorem dX6_add_24 : decode cX6_add 24 = .ok (.athrow, 1) := by decide +kernel
theorem dX6_add_25 : decode cX6_add 25 = .ok (.aload_n 0, 1) := by decide +kernel
theorem dX6_add_26 : decode cX6_add 26 = .ok (.getfield 29, 3) := by decide +kernel
theorem dX6_add_29 : decode cX6_add 29 = .ok (.aload_n 0, 1) := by decide +kernel
theorem dX6_add_30 : decode cX6_add 30 = .ok (.getfield 19, 3) := by decide +kernel
theorem dX6_add_33 : decode cX6_add 33 = .ok (.invokevirtual 176, 3) := by decide +kernel
theorem dX6_add_36 : decode cX6_add 36 = .ok (.aload_n 0, 1) := by decide +kernel
theorem dX6_add_37 : decode cX6_add 37 = .ok (.getfield 19, 3) := by decide +kernel
theorem dX6_add_40 : decode cX6_add 40 = .ok (.iload_n 1, 1) := by decide +kernel
theorem dX6_add_41 : decode cX6_add 41 = .ok (.invokevirtual 180, 3) := by decide +kernel
theorem dX6_add_44 : decode cX6_add 44 = .ok (.ireturn, 1) := by decide +kernel
set_option maxRecDepth 20000 in
theorem ggX6_addAll_X5_triplesError : GoodIn wsX6_addAll wsX5_triplesError := goodIn_r _ [10, 11, 12, 13, 14, 9, 15, 16, 17, 18, 19, 20, 97, 98] (by decide +kernel) (by decide +kernel)
set_option maxRecDepth 20000 in
theorem gX6_addAll_X5_triplesError : GoodIn wsX6_addAll (wsV RX6 77 RX5 yX5_triplesError wsX5_triplesError) := goodIn_app (goodIn_of _ (by decide +kernel)) ggX6_addAll_X5_triplesError
set_option maxRecDepth 20000 in
theorem ggX6_addAll_X1_push : GoodIn wsX6_addAll wsX1_push := goodIn_r _ [25, 26, 27, 28, 29, 30, 24, 31, 32, 33, 34, 35, 36, 37, 38, 39, 40, 41, 42, 43, 44, 45, 46, 47, 48, 49, 50, 99, 100, 101, 102, 103, 104, 105, 106, 107, 108, 109, 110, 111] (by decide +kernel) (by decide +kernel)
set_option maxRecDepth 20000 in
theorem gX6_addAll_X1_push : GoodIn wsX6_addAll (wsV RX6 176 RX1 yX1_push wsX1_push) := goodIn_app (goodIn_of _ (by decide +kernel)) ggX6_addAll_X1_push
set_option maxRecDepth 20000 in
theorem ggX6_addAll_X5_countTriples : GoodIn wsX6_addAll wsX5_countTriples := goodIn_r _ [54, 11, 97, 98] (by decide +kernel) (by decide +kernel)
set_option maxRecDepth 20000 in
theorem gX6_addAll_X5_countTriples : GoodIn wsX6_addAll (wsV RX6 183 RX5 yX5_countTriples wsX5_countTriples) := goodIn_app (goodIn_of _ (by decide +kernel)) ggX6_addAll_X5_countTriples
set_option maxRecDepth 20000 in
theorem ggX6_addAll_X5_tripleAt : GoodIn wsX6_addAll wsX5_tripleAt := goodIn_r _ [58, 17, 18, 19, 9, 20, 12, 13, 14, 15, 11, 16, 97, 98] (by decide +kernel) (by decide +kernel)
set_option maxRecDepth 20000 in
theorem gX6_addAll_X5_tripleAt : GoodIn wsX6_addAll (wsV RX6 186 RX5 yX5_tripleAt wsX5_tripleAt) := goodIn_app (goodIn_of _ (by decide +kernel)) ggX6_addAll_X5_tripleAt
set_option maxRecDepth 20000 in
theorem ggX6_addAll_X4_canPut : GoodIn wsX6_addAll wsX4_canPut := goodIn_r _ [62, 38, 39, 63, 64, 65, 36, 66, 67, 68, 69, 70, 102, 103, 104, 105, 106, 107, 108, 109, 110, 111] (by decide +kernel) (by decide +kernel)
set_option maxRecDepth 20000 in
theorem gX6_addAll_X4_canPut : GoodIn wsX6_addAll (wsV RX6 170 RX4 yX4_canPut wsX4_canPut) := goodIn_app (goodIn_of _ (by decide +kernel)) ggX6_addAll_X4_canPut
set_option maxRecDepth 20000 in
theorem ggX6_addAll_X4_put : GoodIn wsX6_addAll wsX4_put := goodIn_r _ [74, 38, 39, 63, 64, 65, 36, 66, 67, 68, 69, 70, 75, 76, 77, 78, 41, 40, 79, 80, 81, 82, 83, 84, 85, 86, 87, 88, 89, 102, 103, 104, 105, 106, 107, 108, 109, 110, 111] (by decide +kernel) (by decide +kernel)
set_option maxRecDepth 20000 in
theorem gX6_addAll_X4_put : GoodIn wsX6_addAll (wsV RX6 180 RX4 yX4_put wsX4_put) := goodIn_app (goodIn_of _ (by decide +kernel)) ggX6_addAll_X4_put
theorem dX6_addAll_0 : decode cX6_addAll 0 = .ok (.aload_n 0, 1) := by decide +kernel
theorem dX6_addAll_1 : decode cX6_addAll 1 = .ok (.getfield 10, 3) := by decide +kernel
theorem dX6_addAll_4 : decode cX6_addAll 4 = .ok (.invokevirtual 77, 3) := by decide +kernel
theorem dX6_addAll_7 : decode cX6_addAll 7 = .ok (.iconst (-1), 1) := by decide +kernel
theorem dX6_addAll_8 : decode cX6_addAll 8 = .ok (.if_icmp .eq 13, 3) := by decide +kernel
theorem dX6_addAll_11 : decode cX6_addAll 11 = .ok (.new 61, 3) := by decide +kernel
theorem dX6_addAll_14 : decode cX6_addAll 14 = .ok (.dup, 1) := by decide +kernel
theorem dX6_addAll_15 : decode cX6_addAll 15 = .ok (.ldc 181, 2) := by decide +kernel
theorem dX6_addAll_17 : decode cX6_addAll 17 = .ok (.invokespecial 65, 3) := by decide +kernel
theorem dX6_addAll_20 : decode cX6_addAll 20 = .ok (.athrow, 1) := by decide +kernel
theorem dX6_addAll_21 : decode cX6_addAll 21 = .ok (.aload_n 0, 1) := by decide +kernel
theorem dX6_addAll_22 : decode cX6_addAll 22 = .ok (.getfield 29, 3) := by decide +kernel
theorem dX6_addAll_25 : decode cX6_addAll 25 = .ok (.aload_n 0, 1) := by decide +kernel
theorem dX6_addAll_26 : decode cX6_addAll 26 = .ok (.getfield 19, 3) := by decide +kernel
theorem dX6_addAll_29 : decode cX6_addAll 29 = .ok (.invokevirtual 176, 3) := by decide +kernel
theorem dX6_addAll_32 : decode cX6_addAll 32 = .ok (.iconst 0, 1) := by decide +kernel
theorem dX6_addAll_33 : decode cX6_addAll 33 = .ok (.istore_n 1, 1) := by decide +kernel
theorem dX6_addAll_34 : decode cX6_addAll 34 = .ok (.aload_n 0, 1) := by decide +kernel
theorem dX6_addAll_35 : decode cX6_addAll 35 = .ok (.getfield 10, 3) := by decide +kernel
theorem dX6_addAll_38 : decode cX6_addAll 38 = .ok (.invokevirtual 183, 3) := by decide +kernel
theorem dX6_addAll_41 : decode cX6_addAll 41 = .ok (.istore_n 2, 1) := by decide +kernel
theorem dX6_addAll_42 : decode cX6_addAll 42 = .ok (.iconst 0, 1) := by decide +kernel
theorem dX6_addAll_43 : decode cX6_addAll 43 = .ok (.istore_n 3, 1) := by decide +kernel
theorem dX6_addAll_44 : decode cX6_addAll 44 = .ok (.iload_n 3, 1) := by decide +kernel
theorem dX6_addAll_45 : decode cX6_addAll 45 = .ok (.iload_n 2, 1) := by decide +kernel
theorem dX6_addAll_46 : decode cX6_addAll 46 = .ok (.if_icmp .ge 43, 3) := by decide +kernel
theorem dX6_addAll_49 : decode cX6_addAll 49 = .ok (.aload_n 0, 1) := by decide +kernel
theorem dX6_addAll_50 : decode cX6_addAll 50 = .ok (.getfield 10, 3) := by decide +kernel
theorem dX6_addAll_53 : decode cX6_addAll 53 = .ok (.iload_n 3, 1) := by decide +kernel
theorem dX6_addAll_54 : decode cX6_addAll 54 = .ok (.invokevirtual 186, 3) := by decide +kernel
theorem dX6_addAll_57 : decode cX6_addAll 57 = .ok (.istore 4, 2) := by decide +kernel
theorem dX6_addAll_59 : decode cX6_addAll 59 = .ok (.aload_n 0, 1) := by decide +kernel
theorem dX6_addAll_60 : decode cX6_addAll 60 = .ok (.getfield 19, 3) := by decide +kernel
theorem dX6_addAll_63 : decode cX6_addAll 63 = .ok (.iload 4, 2) := by decide +kernel
theorem dX6_addAll_65 : decode cX6_addAll 65 = .ok (.invokevirtual 170, 3) := by decide +kernel
theorem dX6_addAll_68 : decode cX6_addAll 68 = .ok (.ifCond .eq 15, 3) := by decide +kernel
theorem dX6_addAll_71 : decode cX6_addAll 71 = .ok (.iload_n 1, 1) := by decide +kernel
theorem dX6_addAll_72 : decode cX6_addAll 72 = .ok (.aload_n 0, 1) := by decide +kernel
theorem dX6_addAll_73 : decode cX6_addAll 73 = .ok (.getfield 19, 3) := by decide +kernel
theorem dX6_addAll_76 : decode cX6_addAll 76 = .ok (.iload 4, 2) := by decide +kernel
theorem dX6_addAll_78 : decode cX6_addAll 78 = .ok (.invokevirtual 180, 3) := by decide +kernel
theorem dX6_addAll_81 : decode cX6_addAll 81 = .ok (.iadd, 1) := by decide +kernel
theorem dX6_addAll_82 : decode cX6_addAll 82 = .ok (.istore_n 1, 1) := by decide +kernel
theorem dX6_addAll_83 : decode cX6_addAll 83 = .ok (.iinc 3 1, 3) := by decide +kernel
theorem dX6_addAll_86 : decode cX6_addAll 86 = .ok (.goto (-42), 3) := by decide +kernel
theorem dX6_addAll_89 : decode cX6_addAll 89 = .ok (.iload_n 1, 1) := by decide +kernel
theorem dX6_addAll_90 : decode cX6_addAll 90 = .ok (.ireturn, 1) := by decide +kernel
set_option maxRecDepth 20000 in
theorem ggX6_remove_X6_needTriple : GoodIn wsX6_remove wsX6_needTriple := goodIn_ca (goodIn_r _ [6, 7, 8] (by decide +kernel) (by decide +kernel)) (goodIn_sub (fun _ h => List.mem_cons_of_mem _ (List.mem_append_right _ h)) (by decide +kernel))
set_option maxRecDepth 20000 in
theorem gX6_remove_X6_needTriple : GoodIn wsX6_remove (va_wsS RX6 167 yX6_needTriple wsX6_needTriple) := goodIn_app (goodIn_of _ (by decide +kernel)) ggX6_remove_X6_needTriple
set_option maxRecDepth 20000 in
theorem ggX6_remove_X1_push : GoodIn wsX6_remove wsX1_push := goodIn_r _ [13, 14, 15, 16, 17, 18, 12, 19, 20, 21, 22, 23, 24, 25, 26, 27, 28, 29, 30, 31, 32, 33, 34, 35, 36, 37, 38, 73, 74, 75, 76, 77, 78, 79, 80, 81, 82, 83, 84, 85] (by decide +kernel) (by decide +kernel)
set_option maxRecDepth 20000 in
theorem gX6_remove_X1_push : GoodIn wsX6_remove (wsV RX6 176 RX1 yX1_push wsX1_push) := goodIn_app (goodIn_of _ (by decide +kernel)) ggX6_remove_X1_push
set_option maxRecDepth 20000 in
theorem ggX6_remove_X4_take : GoodIn wsX6_remove wsX4_take := goodIn_r _ [42, 26, 27, 43, 44, 45, 24, 46, 47, 48, 49, 50, 51, 52, 53, 54, 29, 28, 55, 56, 57, 58, 59, 60, 61, 62, 63, 64, 65, 76, 77, 78, 79, 80, 81, 82, 83, 84, 85] (by decide +kernel) (by decide +kernel)
set_option maxRecDepth 20000 in
theorem gX6_remove_X4_take : GoodIn wsX6_remove (wsV RX6 189 RX4 yX4_take wsX4_take) := goodIn_app (goodIn_of _ (by decide +kernel)) ggX6_remove_X4_take
theorem dX6_remove_0 : decode cX6_remove 0 = .ok (.iload_n 1, 1) := by decide +kernel
theorem dX6_remove_1 : decode cX6_remove 1 = .ok (.invokestatic 167, 3) := by decide +kernel
theorem dX6_remove_4 : decode cX6_remove 4 = .ok (.aload_n 0, 1) := by decide +kernel
theorem dX6_remove_5 : decode cX6_remove 5 = .ok (.getfield 29, 3) := by decide +kernel
theorem dX6_remove_8 : decode cX6_remove 8 = .ok (.aload_n 0, 1) := by decide +kernel
theorem dX6_remove_9 : decode cX6_remove 9 = .ok (.getfield 19, 3) := by decide +kernel
theorem dX6_remove_12 : decode cX6_remove 12 = .ok (.invokevirtual 176, 3) := by decide +kernel
theorem dX6_remove_15 : decode cX6_remove 15 = .ok (.aload_n 0, 1) := by decide +kernel
theorem dX6_remove_16 : decode cX6_remove 16 = .ok (.getfield 19, 3) := by decide +kernel
theorem dX6_remove_19 : decode cX6_remove 19 = .ok (.iload_n 1, 1) := by decide +kernel
theorem dX6_remove_20 : decode cX6_remove 20 = .ok (.invokevirtual 189, 3) := by decide +kernel
theorem dX6_remove_23 : decode cX6_remove 23 = .ok (.ireturn, 1) := by decide +kernel
set_option maxRecDepth 20000 in
theorem ggX6_ask_X6_needQuestion : GoodIn wsX6_ask wsX6_needQuestion := goodIn_ca (goodIn_r _ [6, 7, 8] (by decide +kernel) (by decide +kernel)) (goodIn_sub (fun _ h => List.mem_cons_of_mem _ (List.mem_append_right _ h)) (by decide +kernel))
set_option maxRecDepth 20000 in
theorem gX6_ask_X6_needQuestion : GoodIn wsX6_ask (va_wsS RX6 129 yX6_needQuestion wsX6_needQuestion) := goodIn_app (goodIn_of _ (by decide +kernel)) ggX6_ask_X6_needQuestion
set_option maxRecDepth 20000 in
theorem ggX6_ask_X1_push : GoodIn wsX6_ask wsX1_push := goodIn_r _ [13, 14, 15, 16, 17, 18, 12, 19, 20, 21, 22, 23, 24, 25, 26, 27, 28, 29, 30, 31, 32, 33, 34, 35, 36, 37, 38, 102, 103, 104, 105, 106, 107, 108, 109, 110, 111, 112, 113, 114] (by decide +kernel) (by decide +kernel)
set_option maxRecDepth 20000 in
theorem gX6_ask_X1_push : GoodIn wsX6_ask (wsV RX6 176 RX1 yX1_push wsX1_push) := goodIn_app (goodIn_of _ (by decide +kernel)) ggX6_ask_X1_push
set_option maxRecDepth 20000 in
theorem ggX6_ask_X4_noteQuestion : GoodIn wsX6_ask wsX4_noteQuestion := goodIn_r _ [42, 31, 32, 33, 34, 43, 44, 45, 24, 46, 26, 47, 48, 49, 50, 51, 52, 53, 54, 28, 55, 56, 57, 58, 59, 60, 61, 62, 63, 64, 65, 66, 67, 68, 69, 70, 71, 72, 73, 74, 75, 76, 77, 78, 79, 80, 81, 82, 83, 84, 85, 86, 87, 27, 88, 89, 90, 91, 92, 93, 94, 105, 106, 107, 108, 109, 110, 111, 112, 113, 114] (by decide +kernel) (by decide +kernel)
set_option maxRecDepth 20000 in
theorem gX6_ask_X4_noteQuestion : GoodIn wsX6_ask (wsV RX6 192 RX4 yX4_noteQuestion wsX4_noteQuestion) := goodIn_app (goodIn_of _ (by decide +kernel)) ggX6_ask_X4_noteQuestion
theorem dX6_ask_0 : decode cX6_ask 0 = .ok (.iload_n 1, 1) := by decide +kernel
theorem dX6_ask_1 : decode cX6_ask 1 = .ok (.invokestatic 129, 3) := by decide +kernel
theorem dX6_ask_4 : decode cX6_ask 4 = .ok (.aload_n 0, 1) := by decide +kernel
theorem dX6_ask_5 : decode cX6_ask 5 = .ok (.getfield 29, 3) := by decide +kernel
theorem dX6_ask_8 : decode cX6_ask 8 = .ok (.aload_n 0, 1) := by decide +kernel
theorem dX6_ask_9 : decode cX6_ask 9 = .ok (.getfield 19, 3) := by decide +kernel
theorem dX6_ask_12 : decode cX6_ask 12 = .ok (.invokevirtual 176, 3) := by decide +kernel
theorem dX6_ask_15 : decode cX6_ask 15 = .ok (.aload_n 0, 1) := by decide +kernel
theorem dX6_ask_16 : decode cX6_ask 16 = .ok (.getfield 19, 3) := by decide +kernel
theorem dX6_ask_19 : decode cX6_ask 19 = .ok (.iload_n 1, 1) := by decide +kernel
theorem dX6_ask_20 : decode cX6_ask 20 = .ok (.invokevirtual 192, 3) := by decide +kernel
theorem dX6_ask_23 : decode cX6_ask 23 = .ok (.ireturn, 1) := by decide +kernel
set_option maxRecDepth 20000 in
theorem ggX6_build_X6_needOrder : GoodIn wsX6_build wsX6_needOrder := goodIn_ca (goodIn_r _ [8, 9, 10] (by decide +kernel) (by decide +kernel)) (goodIn_sub (fun _ h => List.mem_cons_of_mem _ (List.mem_append_right _ h)) (by decide +kernel))
set_option maxRecDepth 20000 in
theorem gX6_build_X6_needOrder : GoodIn wsX6_build (va_wsS RX6 145 yX6_needOrder wsX6_needOrder) := goodIn_app (goodIn_of _ (by decide +kernel)) ggX6_build_X6_needOrder
set_option maxRecDepth 20000 in
theorem ggX6_build_X4_keeps : GoodIn wsX6_build wsX4_keeps := goodIn_r _ [15, 16, 60, 61, 62, 63, 64, 65, 66, 67, 68, 69] (by decide +kernel) (by decide +kernel)
set_option maxRecDepth 20000 in
theorem gX6_build_X4_keeps : GoodIn wsX6_build (wsV RX6 195 RX4 yX4_keeps wsX4_keeps) := goodIn_app (goodIn_of _ (by decide +kernel)) ggX6_build_X4_keeps
set_option maxRecDepth 20000 in
theorem ggX6_build_X1_push : GoodIn wsX6_build wsX1_push := goodIn_r _ [21, 22, 23, 24, 25, 26, 20, 27, 28, 29, 30, 31, 14, 32, 33, 34, 16, 35, 36, 37, 38, 39, 40, 41, 42, 43, 44, 70, 71, 72, 60, 61, 62, 63, 64, 65, 66, 67, 68, 69] (by decide +kernel) (by decide +kernel)
set_option maxRecDepth 20000 in
theorem gX6_build_X1_push : GoodIn wsX6_build (wsV RX6 176 RX1 yX1_push wsX1_push) := goodIn_app (goodIn_of _ (by decide +kernel)) ggX6_build_X1_push
set_option maxRecDepth 20000 in
theorem ggX6_build_X4_keep : GoodIn wsX6_build wsX4_keep := goodIn_r _ [48, 33, 36, 16, 49, 50, 51, 14, 52, 60, 61, 62, 63, 64, 65, 66, 67, 68, 69] (by decide +kernel) (by decide +kernel)
set_option maxRecDepth 20000 in
theorem gX6_build_X4_keep : GoodIn wsX6_build (wsV RX6 200 RX4 yX4_keep wsX4_keep) := goodIn_app (goodIn_of _ (by decide +kernel)) ggX6_build_X4_keep
theorem dX6_build_0 : decode cX6_build 0 = .ok (.iload_n 1, 1) := by decide +kernel
theorem dX6_build_1 : decode cX6_build 1 = .ok (.invokestatic 145, 3) := by decide +kernel
theorem dX6_build_4 : decode cX6_build 4 = .ok (.aload_n 0, 1) := by decide +kernel
theorem dX6_build_5 : decode cX6_build 5 = .ok (.getfield 19, 3) := by decide +kernel
theorem dX6_build_8 : decode cX6_build 8 = .ok (.iload_n 1, 1) := by decide +kernel
theorem dX6_build_9 : decode cX6_build 9 = .ok (.invokevirtual 195, 3) := by decide +kernel
theorem dX6_build_12 : decode cX6_build 12 = .ok (.ifCond .eq 13, 3) := by decide +kernel
theorem dX6_build_15 : decode cX6_build 15 = .ok (.new 61, 3) := by decide +kernel
theorem dX6_build_18 : decode cX6_build 18 = .ok (.dup, 1) := by decide +kernel
theorem dX6_build_19 : decode cX6_build 19 = .ok (.ldc 198, 2) := by decide +kernel
theorem dX6_build_21 : decode cX6_build 21 = .ok (.invokespecial 65, 3) := by decide +kernel
theorem dX6_build_24 : decode cX6_build 24 = .ok (.athrow, 1) := by decide +kernel
theorem dX6_build_25 : decode cX6_build 25 = .ok (.aload_n 0, 1) := by decide +kernel
theorem dX6_build_26 : decode cX6_build 26 = .ok (.getfield 29, 3) := by decide +kernel
theorem dX6_build_29 : decode cX6_build 29 = .ok (.aload_n 0, 1) := by decide +kernel
theorem dX6_build_30 : decode cX6_build 30 = .ok (.getfield 19, 3) := by decide +kernel
theorem dX6_build_33 : decode cX6_build 33 = .ok (.invokevirtual 176, 3) := by decide +kernel
theorem dX6_build_36 : decode cX6_build 36 = .ok (.aload_n 0, 1) := by decide +kernel
theorem dX6_build_37 : decode cX6_build 37 = .ok (.getfield 19, 3) := by decide +kernel
theorem dX6_build_40 : decode cX6_build 40 = .ok (.iload_n 1, 1) := by decide +kernel
theorem dX6_build_41 : decode cX6_build 41 = .ok (.invokevirtual 200, 3) := by decide +kernel
theorem dX6_build_44 : decode cX6_build 44 = .ok (.ireturn, 1) := by decide +kernel
set_option maxRecDepth 20000 in
theorem ggX6_drop_X6_needOrder : GoodIn wsX6_drop wsX6_needOrder := goodIn_ca (goodIn_r _ [8, 9, 10] (by decide +kernel) (by decide +kernel)) (goodIn_sub (fun _ h => List.mem_cons_of_mem _ (List.mem_append_right _ h)) (by decide +kernel))
set_option maxRecDepth 20000 in
theorem gX6_drop_X6_needOrder : GoodIn wsX6_drop (va_wsS RX6 145 yX6_needOrder wsX6_needOrder) := goodIn_app (goodIn_of _ (by decide +kernel)) ggX6_drop_X6_needOrder
set_option maxRecDepth 20000 in
theorem ggX6_drop_X4_keeps : GoodIn wsX6_drop wsX4_keeps := goodIn_r _ [15, 16, 63, 64, 65, 66, 67, 68, 69, 70, 71, 72] (by decide +kernel) (by decide +kernel)
set_option maxRecDepth 20000 in
theorem gX6_drop_X4_keeps : GoodIn wsX6_drop (wsV RX6 195 RX4 yX4_keeps wsX4_keeps) := goodIn_app (goodIn_of _ (by decide +kernel)) ggX6_drop_X4_keeps
set_option maxRecDepth 20000 in
theorem ggX6_drop_X1_push : GoodIn wsX6_drop wsX1_push := goodIn_r _ [21, 22, 23, 24, 25, 26, 20, 27, 28, 29, 30, 31, 14, 32, 33, 34, 16, 35, 36, 37, 38, 39, 40, 41, 42, 43, 44, 73, 74, 75, 63, 64, 65, 66, 67, 68, 69, 70, 71, 72] (by decide +kernel) (by decide +kernel)
set_option maxRecDepth 20000 in
theorem gX6_drop_X1_push : GoodIn wsX6_drop (wsV RX6 176 RX1 yX1_push wsX1_push) := goodIn_app (goodIn_of _ (by decide +kernel)) ggX6_drop_X1_push
set_option maxRecDepth 20000 in
theorem ggX6_drop_X4_discard : GoodIn wsX6_drop wsX4_discard := goodIn_r _ [48, 16, 49, 50, 51, 52, 53, 54, 55, 63, 64, 65, 66, 67, 68, 69, 70, 71, 72] (by decide +kernel) (by decide +kernel)
set_option maxRecDepth 20000 in
theorem gX6_drop_X4_discard : GoodIn wsX6_drop (wsV RX6 205 RX4 yX4_discard wsX4_discard) := goodIn_app (goodIn_of _ (by decide +kernel)) ggX6_drop_X4_discard
theorem dX6_drop_0 : decode cX6_drop 0 = .ok (.iload_n 1, 1) := by decide +kernel
theorem dX6_drop_1 : decode cX6_drop 1 = .ok (.invokestatic 145, 3) := by decide +kernel
theorem dX6_drop_4 : decode cX6_drop 4 = .ok (.aload_n 0, 1) := by decide +kernel
theorem dX6_drop_5 : decode cX6_drop 5 = .ok (.getfield 19, 3) := by decide +kernel
theorem dX6_drop_8 : decode cX6_drop 8 = .ok (.iload_n 1, 1) := by decide +kernel
theorem dX6_drop_9 : decode cX6_drop 9 = .ok (.invokevirtual 195, 3) := by decide +kernel
theorem dX6_drop_12 : decode cX6_drop 12 = .ok (.ifCond .ne 13, 3) := by decide +kernel
theorem dX6_drop_15 : decode cX6_drop 15 = .ok (.new 61, 3) := by decide +kernel
theorem dX6_drop_18 : decode cX6_drop 18 = .ok (.dup, 1) := by decide +kernel
theorem dX6_drop_19 : decode cX6_drop 19 = .ok (.ldc 203, 2) := by decide +kernel
theorem dX6_drop_21 : decode cX6_drop 21 = .ok (.invokespecial 65, 3) := by decide +kernel
theorem dX6_drop_24 : decode cX6_drop 24 = .ok (.athrow, 1) := by decide +kernel
theorem dX6_drop_25 : decode cX6_drop 25 = .ok (.aload_n 0, 1) := by decide +kernel
theorem dX6_drop_26 : decode cX6_drop 26 = .ok (.getfield 29, 3) := by decide +kernel
theorem dX6_drop_29 : decode cX6_drop 29 = .ok (.aload_n 0, 1) := by decide +kernel
theorem dX6_drop_30 : decode cX6_drop 30 = .ok (.getfield 19, 3) := by decide +kernel
theorem dX6_drop_33 : decode cX6_drop 33 = .ok (.invokevirtual 176, 3) := by decide +kernel
theorem dX6_drop_36 : decode cX6_drop 36 = .ok (.aload_n 0, 1) := by decide +kernel
theorem dX6_drop_37 : decode cX6_drop 37 = .ok (.getfield 19, 3) := by decide +kernel
theorem dX6_drop_40 : decode cX6_drop 40 = .ok (.iload_n 1, 1) := by decide +kernel
theorem dX6_drop_41 : decode cX6_drop 41 = .ok (.invokevirtual 205, 3) := by decide +kernel
theorem dX6_drop_44 : decode cX6_drop 44 = .ok (.ireturn, 1) := by decide +kernel
set_option maxRecDepth 20000 in
theorem ggX6_tidy_X1_push : GoodIn wsX6_tidy wsX1_push := goodIn_r _ [8, 9, 10, 11, 12, 13, 7, 14, 15, 16, 17, 18, 19, 20, 21, 22, 23, 24, 25, 26, 27, 28, 29, 30, 31, 32, 33, 143, 144, 145, 146, 147, 148, 149, 150, 151, 152, 153, 154, 155] (by decide +kernel) (by decide +kernel)
set_option maxRecDepth 20000 in
theorem gX6_tidy_X1_push : GoodIn wsX6_tidy (wsV RX6 176 RX1 yX1_push wsX1_push) := goodIn_app (goodIn_of _ (by decide +kernel)) ggX6_tidy_X1_push
set_option maxRecDepth 20000 in
theorem ggX6_tidy_X0_follow : GoodIn wsX6_tidy wsX0_follow := goodIn_r _ [38, 39, 40, 41, 37, 42, 43, 44, 45, 46, 47, 48, 49, 50, 51, 19, 52, 21, 53, 54, 55, 56, 28, 29, 57, 58, 59, 60, 61, 62, 63, 64, 65, 66, 67, 68, 69, 70, 71, 72, 73, 74, 75, 76, 77, 78, 79, 80, 81, 82, 83, 84, 85, 86, 22, 87, 88, 89, 90, 91, 92, 93, 94, 95, 96, 97, 98, 99, 100, 101, 102, 103, 104, 105, 106, 107, 108, 109, 110, 111, 112, 113, 114, 115, 116, 117, 118, 119, 120, 25, 23, 121, 122, 123, 124, 125, 126, 127, 128, 129, 130, 131, 132, 133, 134, 135, 146, 147, 148, 149, 150, 151, 152, 153, 154, 155, 156, 157, 158, 159, 160, 161] (by decide +kernel) (by decide +kernel)
set_option maxRecDepth 20000 in
theorem gX6_tidy_X0_follow : GoodIn wsX6_tidy (wsV RX6 208 RX0 yX0_follow wsX0_follow) := goodIn_app (goodIn_of _ (by decide +kernel)) ggX6_tidy_X0_follow
theorem dX6_tidy_0 : decode cX6_tidy 0 = .ok (.aload_n 0, 1) := by decide +kernel
theorem dX6_tidy_1 : decode cX6_tidy 1 = .ok (.getfield 29, 3) := by decide +kernel
theorem dX6_tidy_4 : decode cX6_tidy 4 = .ok (.aload_n 0, 1) := by decide +kernel
theorem dX6_tidy_5 : decode cX6_tidy 5 = .ok (.getfield 19, 3) := by decide +kernel
theorem dX6_tidy_8 : decode cX6_tidy 8 = .ok (.invokevirtual 176, 3) := by decide +kernel
theorem dX6_tidy_11 : decode cX6_tidy 11 = .ok (.aload_n 0, 1) := by decide +kernel
theorem dX6_tidy_12 : decode cX6_tidy 12 = .ok (.getfield 36, 3) := by decide +kernel
theorem dX6_tidy_15 : decode cX6_tidy 15 = .ok (.aload_n 0, 1) := by decide +kernel
theorem dX6_tidy_16 : decode cX6_tidy 16 = .ok (.getfield 19, 3) := by decide +kernel
theorem dX6_tidy_19 : decode cX6_tidy 19 = .ok (.invokevirtual 208, 3) := by decide +kernel
theorem dX6_tidy_22 : decode cX6_tidy 22 = .ok (.ireturn, 1) := by decide +kernel
set_option maxRecDepth 20000 in
theorem ggX6_setWeight_X1_push : GoodIn wsX6_setWeight wsX1_push := goodIn_r _ [9, 10, 11, 12, 13, 14, 8, 15, 16, 17, 18, 19, 20, 21, 22, 23, 24, 25, 26, 27, 28, 29, 30, 31, 32, 33, 34, 52, 53, 54, 42, 43, 44, 45, 46, 47, 48, 49, 50, 51] (by decide +kernel) (by decide +kernel)
set_option maxRecDepth 20000 in
theorem gX6_setWeight_X1_push : GoodIn wsX6_setWeight (wsV RX6 176 RX1 yX1_push wsX1_push) := goodIn_app (goodIn_of _ (by decide +kernel)) ggX6_setWeight_X1_push
theorem dX6_setWeight_0 : decode cX6_setWeight 0 = .ok (.iload_n 1, 1) := by decide +kernel
theorem dX6_setWeight_1 : decode cX6_setWeight 1 = .ok (.ifCond .lt 9, 3) := by decide +kernel
theorem dX6_setWeight_4 : decode cX6_setWeight 4 = .ok (.iload_n 1, 1) := by decide +kernel
theorem dX6_setWeight_5 : decode cX6_setWeight 5 = .ok (.bipush 99, 2) := by decide +kernel
theorem dX6_setWeight_7 : decode cX6_setWeight 7 = .ok (.if_icmp .le 13, 3) := by decide +kernel
theorem dX6_setWeight_10 : decode cX6_setWeight 10 = .ok (.new 50, 3) := by decide +kernel
theorem dX6_setWeight_13 : decode cX6_setWeight 13 = .ok (.dup, 1) := by decide +kernel
theorem dX6_setWeight_14 : decode cX6_setWeight 14 = .ok (.ldc 212, 2) := by decide +kernel
theorem dX6_setWeight_16 : decode cX6_setWeight 16 = .ok (.invokespecial 54, 3) := by decide +kernel
theorem dX6_setWeight_19 : decode cX6_setWeight 19 = .ok (.athrow, 1) := by decide +kernel
theorem dX6_setWeight_20 : decode cX6_setWeight 20 = .ok (.aload_n 0, 1) := by decide +kernel
theorem dX6_setWeight_21 : decode cX6_setWeight 21 = .ok (.getfield 29, 3) := by decide +kernel
theorem dX6_setWeight_24 : decode cX6_setWeight 24 = .ok (.aload_n 0, 1) := by decide +kernel
theorem dX6_setWeight_25 : decode cX6_setWeight 25 = .ok (.getfield 19, 3) := by decide +kernel
theorem dX6_setWeight_28 : decode cX6_setWeight 28 = .ok (.invokevirtual 176, 3) := by decide +kernel
theorem dX6_setWeight_31 : decode cX6_setWeight 31 = .ok (.aload_n 0, 1) := by decide +kernel
theorem dX6_setWeight_32 : decode cX6_setWeight 32 = .ok (.getfield 19, 3) := by decide +kernel
theorem dX6_setWeight_35 : decode cX6_setWeight 35 = .ok (.getfield 126, 3) := by decide +kernel
theorem dX6_setWeight_38 : decode cX6_setWeight 38 = .ok (.istore_n 2, 1) := by decide +kernel
theorem dX6_setWeight_39 : decode cX6_setWeight 39 = .ok (.aload_n 0, 1) := by decide +kernel
theorem dX6_setWeight_40 : decode cX6_setWeight 40 = .ok (.getfield 19, 3) := by decide +kernel
theorem dX6_setWeight_43 : decode cX6_setWeight 43 = .ok (.iload_n 1, 1) := by decide +kernel
theorem dX6_setWeight_44 : decode cX6_setWeight 44 = .ok (.putfield 126, 3) := by decide +kernel
theorem dX6_setWeight_47 : decode cX6_setWeight 47 = .ok (.iload_n 2, 1) := by decide +kernel
theorem dX6_setWeight_48 : decode cX6_setWeight 48 = .ok (.ireturn, 1) := by decide +kernel
set_option maxRecDepth 20000 in
theorem ggX6_undo_X1_pop : GoodIn wsX6_undo wsX1_pop := goodIn_r _ [9, 10, 11, 12, 13, 8, 14, 15, 16, 17, 18, 19, 20, 21, 22, 23, 24, 25, 26, 27, 28, 29, 30, 31, 32, 33, 34, 42, 43, 44, 45, 46, 47, 48, 49, 50, 51, 52, 53, 54] (by decide +kernel) (by decide +kernel)
set_option maxRecDepth 20000 in
theorem gX6_undo_X1_pop : GoodIn wsX6_undo (wsV RX6 217 RX1 yX1_pop wsX1_pop) := goodIn_app (goodIn_of _ (by decide +kernel)) ggX6_undo_X1_pop
theorem dX6_undo_0 : decode cX6_undo 0 = .ok (.aload_n 0, 1) := by decide +kernel
theorem dX6_undo_1 : decode cX6_undo 1 = .ok (.getfield 29, 3) := by decide +kernel
theorem dX6_undo_4 : decode cX6_undo 4 = .ok (.getfield 214, 3) := by decide +kernel
theorem dX6_undo_7 : decode cX6_undo 7 = .ok (.ifCond .ne 13, 3) := by decide +kernel
theorem dX6_undo_10 : decode cX6_undo 10 = .ok (.new 61, 3) := by decide +kernel
theorem dX6_undo_13 : decode cX6_undo 13 = .ok (.dup, 1) := by decide +kernel
theorem dX6_undo_14 : decode cX6_undo 14 = .ok (.ldc 215, 2) := by decide +kernel
theorem dX6_undo_16 : decode cX6_undo 16 = .ok (.invokespecial 65, 3) := by decide +kernel
theorem dX6_undo_19 : decode cX6_undo 19 = .ok (.athrow, 1) := by decide +kernel
theorem dX6_undo_20 : decode cX6_undo 20 = .ok (.aload_n 0, 1) := by decide +kernel
theorem dX6_undo_21 : decode cX6_undo 21 = .ok (.getfield 29, 3) := by decide +kernel
theorem dX6_undo_24 : decode cX6_undo 24 = .ok (.aload_n 0, 1) := by decide +kernel
theorem dX6_undo_25 : decode cX6_undo 25 = .ok (.getfield 19, 3) := by decide +kernel
theorem dX6_undo_28 : decode cX6_undo 28 = .ok (.invokevirtual 217, 3) := by decide +kernel
theorem dX6_undo_31 : decode cX6_undo 31 = .ok (.ireturn, 1) := by decide +kernel
set_option maxRecDepth 20000 in
theorem ggX6_value_X6_needOrder : GoodIn wsX6_value wsX6_needOrder := goodIn_ca (goodIn_r _ [6, 7, 8] (by decide +kernel) (by decide +kernel)) (goodIn_sub (fun _ h => List.mem_cons_of_mem _ (List.mem_append_right _ h)) (by decide +kernel))
set_option maxRecDepth 20000 in
theorem gX6_value_X6_needOrder : GoodIn wsX6_value (va_wsS RX6 145 yX6_needOrder wsX6_needOrder) := goodIn_app (goodIn_of _ (by decide +kernel)) ggX6_value_X6_needOrder
set_option maxRecDepth 20000 in
theorem ggX6_value_X0_learn : GoodIn wsX6_value wsX0_learn := goodIn_r _ [13, 14, 15, 16, 17, 18, 19, 20, 21, 22, 23, 24, 25, 26, 27, 28, 29, 30, 31, 32, 33, 34, 35, 36, 37, 38, 39, 40, 41, 42, 43, 44, 45, 46, 47, 48, 49, 50, 51, 52, 53, 54, 55, 56, 57, 58, 59, 60, 61, 62, 63, 64, 65, 66, 67, 68, 69, 70, 71, 72, 96, 97, 98, 99, 100, 101, 102, 103, 104, 105, 106, 107, 108, 109, 110, 111] (by decide +kernel) (by decide +kernel)
set_option maxRecDepth 20000 in
theorem gX6_value_X0_learn : GoodIn wsX6_value (wsV RX6 220 RX0 yX0_learn wsX0_learn) := goodIn_app (goodIn_of _ (by decide +kernel)) ggX6_value_X0_learn
set_option maxRecDepth 20000 in
theorem ggX6_value_X0_worth : GoodIn wsX6_value wsX0_worth := goodIn_r _ [76, 16, 17, 77, 78, 79, 12, 80, 14, 15, 81, 82, 83, 84, 85, 86, 87, 88, 19, 106, 107, 108, 109, 110, 111] (by decide +kernel) (by decide +kernel)
set_option maxRecDepth 20000 in
theorem gX6_value_X0_worth : GoodIn wsX6_value (wsV RX6 223 RX0 yX0_worth wsX0_worth) := goodIn_app (goodIn_of _ (by decide +kernel)) ggX6_value_X0_worth
theorem dX6_value_0 : decode cX6_value 0 = .ok (.iload_n 1, 1) := by decide +kernel
theorem dX6_value_1 : decode cX6_value 1 = .ok (.invokestatic 145, 3) := by decide +kernel
theorem dX6_value_4 : decode cX6_value 4 = .ok (.aload_n 0, 1) := by decide +kernel
theorem dX6_value_5 : decode cX6_value 5 = .ok (.getfield 36, 3) := by decide +kernel
theorem dX6_value_8 : decode cX6_value 8 = .ok (.aload_n 0, 1) := by decide +kernel
theorem dX6_value_9 : decode cX6_value 9 = .ok (.getfield 19, 3) := by decide +kernel
theorem dX6_value_12 : decode cX6_value 12 = .ok (.invokevirtual 220, 3) := by decide +kernel
theorem dX6_value_15 : decode cX6_value 15 = .ok (.aload_n 0, 1) := by decide +kernel
theorem dX6_value_16 : decode cX6_value 16 = .ok (.getfield 36, 3) := by decide +kernel
theorem dX6_value_19 : decode cX6_value 19 = .ok (.iload_n 1, 1) := by decide +kernel
theorem dX6_value_20 : decode cX6_value 20 = .ok (.invokevirtual 223, 3) := by decide +kernel
theorem dX6_value_23 : decode cX6_value 23 = .ok (.ireturn, 1) := by decide +kernel
set_option maxRecDepth 20000 in
theorem ggX6_advised_X0_learn : GoodIn wsX6_advised wsX0_learn := goodIn_r _ [7, 8, 9, 10, 11, 12, 13, 14, 15, 16, 17, 18, 19, 20, 21, 22, 23, 24, 25, 26, 27, 28, 29, 30, 31, 32, 33, 34, 35, 36, 37, 38, 39, 40, 41, 42, 43, 44, 45, 46, 47, 48, 49, 50, 51, 52, 53, 54, 55, 56, 57, 58, 59, 60, 61, 62, 63, 64, 65, 66, 94, 95, 96, 97, 98, 99, 100, 101, 102, 103, 104, 105, 106, 107, 108, 109] (by decide +kernel) (by decide +kernel)
set_option maxRecDepth 20000 in
theorem gX6_advised_X0_learn : GoodIn wsX6_advised (wsV RX6 220 RX0 yX0_learn wsX0_learn) := goodIn_app (goodIn_of _ (by decide +kernel)) ggX6_advised_X0_learn
set_option maxRecDepth 20000 in
theorem ggX6_advised_X0_orderToBuild : GoodIn wsX6_advised wsX0_orderToBuild := goodIn_r _ [70, 10, 71, 72, 73, 6, 74, 11, 75, 76, 77, 78, 8, 9, 79, 80, 81, 82, 83, 84, 85, 86, 13, 104, 105, 106, 107, 108, 109] (by decide +kernel) (by decide +kernel)
set_option maxRecDepth 20000 in
theorem gX6_advised_X0_orderToBuild : GoodIn wsX6_advised (wsV RX6 226 RX0 yX0_orderToBuild wsX0_orderToBuild) := goodIn_app (goodIn_of _ (by decide +kernel)) ggX6_advised_X0_orderToBuild
theorem dX6_advised_0 : decode cX6_advised 0 = .ok (.aload_n 0, 1) := by decide +kernel
theorem dX6_advised_1 : decode cX6_advised 1 = .ok (.getfield 36, 3) := by decide +kernel
theorem dX6_advised_4 : decode cX6_advised 4 = .ok (.aload_n 0, 1) := by decide +kernel
theorem dX6_advised_5 : decode cX6_advised 5 = .ok (.getfield 19, 3) := by decide +kernel
theorem dX6_advised_8 : decode cX6_advised 8 = .ok (.invokevirtual 220, 3) := by decide +kernel
theorem dX6_advised_11 : decode cX6_advised 11 = .ok (.aload_n 0, 1) := by decide +kernel
theorem dX6_advised_12 : decode cX6_advised 12 = .ok (.getfield 36, 3) := by decide +kernel
theorem dX6_advised_15 : decode cX6_advised 15 = .ok (.invokevirtual 226, 3) := by decide +kernel
theorem dX6_advised_18 : decode cX6_advised 18 = .ok (.ireturn, 1) := by decide +kernel
set_option maxRecDepth 20000 in
theorem ggX6_spare_X0_learn : GoodIn wsX6_spare wsX0_learn := goodIn_r _ [7, 8, 9, 10, 11, 12, 13, 14, 15, 16, 17, 18, 19, 20, 21, 22, 23, 24, 25, 26, 27, 28, 29, 30, 31, 32, 33, 34, 35, 36, 37, 38, 39, 40, 41, 42, 43, 44, 45, 46, 47, 48, 49, 50, 51, 52, 53, 54, 55, 56, 57, 58, 59, 60, 61, 62, 63, 64, 65, 66, 94, 95, 96, 97, 98, 99, 100, 101, 102, 103, 104, 105, 106, 107, 108, 109] (by decide +kernel) (by decide +kernel)
set_option maxRecDepth 20000 in
theorem gX6_spare_X0_learn : GoodIn wsX6_spare (wsV RX6 220 RX0 yX0_learn wsX0_learn) := goodIn_app (goodIn_of _ (by decide +kernel)) ggX6_spare_X0_learn
set_option maxRecDepth 20000 in
theorem ggX6_spare_X0_orderToDrop : GoodIn wsX6_spare wsX0_orderToDrop := goodIn_r _ [70, 10, 71, 72, 73, 6, 74, 11, 75, 76, 77, 78, 8, 9, 79, 80, 81, 82, 83, 84, 85, 86, 13, 104, 105, 106, 107, 108, 109] (by decide +kernel) (by decide +kernel)
set_option maxRecDepth 20000 in
theorem gX6_spare_X0_orderToDrop : GoodIn wsX6_spare (wsV RX6 229 RX0 yX0_orderToDrop wsX0_orderToDrop) := goodIn_app (goodIn_of _ (by decide +kernel)) ggX6_spare_X0_orderToDrop
theorem dX6_spare_0 : decode cX6_spare 0 = .ok (.aload_n 0, 1) := by decide +kernel
theorem dX6_spare_1 : decode cX6_spare 1 = .ok (.getfield 36, 3) := by decide +kernel
theorem dX6_spare_4 : decode cX6_spare 4 = .ok (.aload_n 0, 1) := by decide +kernel
theorem dX6_spare_5 : decode cX6_spare 5 = .ok (.getfield 19, 3) := by decide +kernel
theorem dX6_spare_8 : decode cX6_spare 8 = .ok (.invokevirtual 220, 3) := by decide +kernel
theorem dX6_spare_11 : decode cX6_spare 11 = .ok (.aload_n 0, 1) := by decide +kernel
theorem dX6_spare_12 : decode cX6_spare 12 = .ok (.getfield 36, 3) := by decide +kernel
theorem dX6_spare_15 : decode cX6_spare 15 = .ok (.invokevirtual 229, 3) := by decide +kernel
theorem dX6_spare_18 : decode cX6_spare 18 = .ok (.ireturn, 1) := by decide +kernel
set_option maxRecDepth 20000 in
theorem ggX6_needed_X0_learn : GoodIn wsX6_needed wsX0_learn := goodIn_r _ [7, 8, 9, 10, 11, 12, 13, 14, 15, 16, 17, 18, 19, 20, 21, 22, 23, 24, 25, 26, 27, 28, 29, 30, 31, 32, 33, 34, 35, 36, 37, 38, 39, 40, 41, 42, 43, 44, 45, 46, 47, 48, 49, 50, 51, 52, 53, 54, 55, 56, 57, 58, 59, 60, 61, 62, 63, 64, 65, 66, 89, 90, 91, 92, 93, 94, 95, 96, 97, 98, 99, 100, 101, 102, 103, 104] (by decide +kernel) (by decide +kernel)
set_option maxRecDepth 20000 in
theorem gX6_needed_X0_learn : GoodIn wsX6_needed (wsV RX6 220 RX0 yX0_learn wsX0_learn) := goodIn_app (goodIn_of _ (by decide +kernel)) ggX6_needed_X0_learn
set_option maxRecDepth 20000 in
theorem ggX6_needed_X0_smallestCover : GoodIn wsX6_needed wsX0_smallestCover := goodIn_r _ [70, 71, 72, 73, 74, 75, 76, 77, 78, 79, 80, 6, 81, 8, 12, 99, 100, 101, 102, 103, 104] (by decide +kernel) (by decide +kernel)
set_option maxRecDepth 20000 in
theorem gX6_needed_X0_smallestCover : GoodIn wsX6_needed (wsV RX6 232 RX0 yX0_smallestCover wsX0_smallestCover) := goodIn_app (goodIn_of _ (by decide +kernel)) ggX6_needed_X0_smallestCover
theorem dX6_needed_0 : decode cX6_needed 0 = .ok (.aload_n 0, 1) := by decide +kernel
theorem dX6_needed_1 : decode cX6_needed 1 = .ok (.getfield 36, 3) := by decide +kernel
theorem dX6_needed_4 : decode cX6_needed 4 = .ok (.aload_n 0, 1) := by decide +kernel
theorem dX6_needed_5 : decode cX6_needed 5 = .ok (.getfield 19, 3) := by decide +kernel
theorem dX6_needed_8 : decode cX6_needed 8 = .ok (.invokevirtual 220, 3) := by decide +kernel
theorem dX6_needed_11 : decode cX6_needed 11 = .ok (.aload_n 0, 1) := by decide +kernel
theorem dX6_needed_12 : decode cX6_needed 12 = .ok (.getfield 36, 3) := by decide +kernel
theorem dX6_needed_15 : decode cX6_needed 15 = .ok (.invokevirtual 232, 3) := by decide +kernel
theorem dX6_needed_18 : decode cX6_needed 18 = .ok (.ireturn, 1) := by decide +kernel
set_option maxRecDepth 20000 in
theorem ggX6_ifKept_X0_learn : GoodIn wsX6_ifKept wsX0_learn := goodIn_r _ [9, 10, 11, 12, 13, 14, 15, 16, 17, 18, 19, 20, 21, 22, 23, 24, 25, 26, 27, 28, 29, 30, 31, 32, 33, 34, 35, 36, 37, 38, 39, 40, 41, 42, 43, 44, 45, 46, 47, 48, 49, 50, 51, 52, 53, 54, 55, 56, 57, 58, 59, 60, 61, 62, 63, 64, 65, 66, 67, 68, 88, 89, 90, 91, 92, 93, 94, 95, 96, 97, 98, 99, 100, 101, 102, 103] (by decide +kernel) (by decide +kernel)
set_option maxRecDepth 20000 in
theorem gX6_ifKept_X0_learn : GoodIn wsX6_ifKept (wsV RX6 220 RX0 yX0_learn wsX0_learn) := goodIn_app (goodIn_of _ (by decide +kernel)) ggX6_ifKept_X0_learn
set_option maxRecDepth 20000 in
theorem ggX6_ifKept_X0_costWith : GoodIn wsX6_ifKept wsX0_costWith := goodIn_r _ [72, 10, 11, 73, 74, 75, 76, 77, 78, 79, 8, 80, 15, 98, 99, 100, 101, 102, 103] (by decide +kernel) (by decide +kernel)
set_option maxRecDepth 20000 in
theorem gX6_ifKept_X0_costWith : GoodIn wsX6_ifKept (wsV RX6 237 RX0 yX0_costWith wsX0_costWith) := goodIn_app (goodIn_of _ (by decide +kernel)) ggX6_ifKept_X0_costWith
theorem dX6_ifKept_0 : decode cX6_ifKept 0 = .ok (.iload_n 1, 1) := by decide +kernel
theorem dX6_ifKept_1 : decode cX6_ifKept 1 = .ok (.ifCond .lt 9, 3) := by decide +kernel
theorem dX6_ifKept_4 : decode cX6_ifKept 4 = .ok (.iload_n 1, 1) := by decide +kernel
theorem dX6_ifKept_5 : decode cX6_ifKept 5 = .ok (.bipush 64, 2) := by decide +kernel
theorem dX6_ifKept_7 : decode cX6_ifKept 7 = .ok (.if_icmp .lt 13, 3) := by decide +kernel
theorem dX6_ifKept_10 : decode cX6_ifKept 10 = .ok (.new 50, 3) := by decide +kernel
theorem dX6_ifKept_13 : decode cX6_ifKept 13 = .ok (.dup, 1) := by decide +kernel
theorem dX6_ifKept_14 : decode cX6_ifKept 14 = .ok (.ldc 235, 2) := by decide +kernel
theorem dX6_ifKept_16 : decode cX6_ifKept 16 = .ok (.invokespecial 54, 3) := by decide +kernel
theorem dX6_ifKept_19 : decode cX6_ifKept 19 = .ok (.athrow, 1) := by decide +kernel
theorem dX6_ifKept_20 : decode cX6_ifKept 20 = .ok (.aload_n 0, 1) := by decide +kernel
theorem dX6_ifKept_21 : decode cX6_ifKept 21 = .ok (.getfield 36, 3) := by decide +kernel
theorem dX6_ifKept_24 : decode cX6_ifKept 24 = .ok (.aload_n 0, 1) := by decide +kernel
theorem dX6_ifKept_25 : decode cX6_ifKept 25 = .ok (.getfield 19, 3) := by decide +kernel
theorem dX6_ifKept_28 : decode cX6_ifKept 28 = .ok (.invokevirtual 220, 3) := by decide +kernel
theorem dX6_ifKept_31 : decode cX6_ifKept 31 = .ok (.aload_n 0, 1) := by decide +kernel
theorem dX6_ifKept_32 : decode cX6_ifKept 32 = .ok (.getfield 36, 3) := by decide +kernel
theorem dX6_ifKept_35 : decode cX6_ifKept 35 = .ok (.iload_n 1, 1) := by decide +kernel
theorem dX6_ifKept_36 : decode cX6_ifKept 36 = .ok (.invokevirtual 237, 3) := by decide +kernel
theorem dX6_ifKept_39 : decode cX6_ifKept 39 = .ok (.ireturn, 1) := by decide +kernel
set_option maxRecDepth 20000 in
theorem ggX6_bestSet_X0_learn : GoodIn wsX6_bestSet wsX0_learn := goodIn_r _ [7, 8, 9, 10, 11, 12, 13, 14, 15, 16, 17, 18, 19, 20, 21, 22, 23, 24, 25, 26, 27, 28, 29, 30, 31, 32, 33, 34, 35, 36, 37, 38, 39, 40, 41, 42, 43, 44, 45, 46, 47, 48, 49, 50, 51, 52, 53, 54, 55, 56, 57, 58, 59, 60, 61, 62, 63, 64, 65, 66, 97, 98, 99, 100, 101, 102, 103, 104, 105, 106, 107, 108, 109, 110, 111, 112] (by decide +kernel) (by decide +kernel)
set_option maxRecDepth 20000 in
theorem gX6_bestSet_X0_learn : GoodIn wsX6_bestSet (wsV RX6 220 RX0 yX0_learn wsX0_learn) := goodIn_app (goodIn_of _ (by decide +kernel)) ggX6_bestSet_X0_learn
set_option maxRecDepth 20000 in
theorem ggX6_bestSet_X0_cheapestSet : GoodIn wsX6_bestSet wsX0_cheapestSet := goodIn_r _ [70, 11, 71, 72, 73, 6, 74, 8, 9, 75, 76, 77, 78, 79, 80, 81, 82, 13, 83, 84, 85, 86, 87, 88, 89, 107, 108, 109, 110, 111, 112] (by decide +kernel) (by decide +kernel)
set_option maxRecDepth 20000 in
theorem gX6_bestSet_X0_cheapestSet : GoodIn wsX6_bestSet (wsV RX6 240 RX0 yX0_cheapestSet wsX0_cheapestSet) := goodIn_app (goodIn_of _ (by decide +kernel)) ggX6_bestSet_X0_cheapestSet
theorem dX6_bestSet_0 : decode cX6_bestSet 0 = .ok (.aload_n 0, 1) := by decide +kernel
theorem dX6_bestSet_1 : decode cX6_bestSet 1 = .ok (.getfield 36, 3) := by decide +kernel
theorem dX6_bestSet_4 : decode cX6_bestSet 4 = .ok (.aload_n 0, 1) := by decide +kernel
