theorem dX6_remove_8 : decode cX6_remove 8 = .ok (.aload_n 0, 1) := by decide +kernel
theorem dX6_remove_9 : decode cX6_remove 9 = .ok (.getfield 19, 3) := by decide +kernel
theorem dX6_remove_12 : decode cX6_remove 12 = .ok (.invokevirtual 176, 3) := by decide +kernel
theorem dX6_remove_15 : decode cX6_remove 15 = .ok (.aload_n 0, 1) := by decide +kernel
theorem dX6_remove_16 : decode cX6_remove 16 = .ok (.getfield 19, 3) := by decide +kernel
theorem dX6_remove_19 : decode cX6_remove 19 = .ok (.iload_n 1, 1) := by decide +kernel
theorem dX6_remove_20 : decode cX6_remove 20 = .ok (.invokevirtual 189, 3) := by decide +kernel
theorem dX6_remove_23 : decode cX6_remove 23 = .ok (.ireturn, 1) := by decide +kernel
set_option maxRecDepth 20000 in
theorem ggX6_ask_X6_needQuestion : GoodIn wsX6_ask wsX6_needQuestion := goodIn_ca (goodIn_r _ [6, 7, 8] (by decide +kernel) (by decide +kernel)) (goodIn_sub (fun _ h => List.mem_cons_of_mem _ (List.mem_append_right _ h)) (by decide +kernel))
set_option maxRecDepth 20000 in
theorem gX6_ask_X6_needQuestion : GoodIn wsX6_ask (va_wsS RX6 129 yX6_needQuestion wsX6_needQuestion) := goodIn_app (goodIn_of _ (by decide +kernel)) ggX6_ask_X6_needQuestion
set_option maxRecDepth 20000 in
theorem ggX6_ask_X1_push : GoodIn wsX6_ask wsX1_push := goodIn_r _ [13, 14, 15, 16, 17, 18, 12, 19, 20, 21, 22, 23, 24, 25, 26, 27, 28, 29, 30, 31, 32, 33, 34, 35, 36, 37, 38, 102, 103, 104, 105, 106, 107, 108, 109, 110, 111, 112, 113, 114] (by decide +kernel) (by decide +kernel)
set_option maxRecDepth 20000 in
theorem gX6_ask_X1_push : GoodIn wsX6_ask (wsV RX6 176 RX1 yX1_push wsX1_push) := goodIn_app (goodIn_of _ (by decide +kernel)) ggX6_ask_X1_push
set_option maxRecDepth 20000 in
theorem ggX6_ask_X4_noteQuestion : GoodIn wsX6_ask wsX4_noteQuestion := goodIn_r _ [42, 31, 32, 33, 34, 43, 44, 45, 24, 46, 26, 47, 48, 49, 50, 51, 52, 53, 54, 28, 55, 56, 57, 58, 59, 60, 61, 62, 63, 64, 65, 66, 67, 68, 69, 70, 71, 72, 73, 74, 75, 76, 77, 78, 79, 80, 81, 82, 83, 84, 85, 86, 87, 27, 88, 89, 90, 91, 92, 93, 94, 105, 106, 107, 108, 109, 110, 111, 112, 113, 114] (by decide +kernel) (by decide +kernel)
set_option maxRecDepth 20000 in
theorem gX6_ask_X4_noteQuestion : GoodIn wsX6_ask (wsV RX6 192 RX4 yX4_noteQuestion wsX4_noteQuestion) := goodIn_app (goodIn_of _ (by decide +kernel)) ggX6_ask_X4_noteQuestion
theorem dX6_ask_0 : decode cX6_ask 0 = .ok (.iload_n 1, 1) := by decide +kernel
theorem dX6_ask_1 : decode cX6_ask 1 = .ok (.invokestatic 129, 3) := by decide +kernel
theorem dX6_ask_4 : decode cX6_ask 4 = .ok (.aload_n 0, 1) := by decide +kernel
theorem dX6_ask_5 : decode cX6_ask 5 = .ok (.getfield 29, 3) := by decide +kernel
theorem dX6_ask_8 : decode cX6_ask 8 = .ok (.aload_n 0, 1) := by decide +kernel
theorem dX6_ask_9 : decode cX6_ask 9 = .ok (.getfield 19, 3) := by decide +kernel
theorem dX6_ask_12 : decode cX6_ask 12 = .ok (.invokevirtual 176, 3) := by decide +kernel
theorem dX6_ask_15 : decode cX6_ask 15 = .ok (.aload_n 0, 1) := by decide +kernel
theorem dX6_ask_16 : decode cX6_ask 16 = .ok (.getfield 19, 3) := by decide +kernel
theorem dX6_ask_19 : decode cX6_ask 19 = .ok (.iload_n 1, 1) := by decide +kernel
theorem dX6_ask_20 : decode cX6_ask 20 = .ok (.invokevirtual 192, 3) := by decide +kernel
theorem dX6_ask_23 : decode cX6_ask 23 = .ok (.ireturn, 1) := by decide +kernel
set_option maxRecDepth 20000 in
theorem ggX6_build_X6_needOrder : GoodIn wsX6_build wsX6_needOrder := goodIn_ca (goodIn_r _ [8, 9, 10] (by decide +kernel) (by decide +kernel)) (goodIn_sub (fun _ h => List.mem_cons_of_mem _ (List.mem_append_right _ h)) (by decide +kernel))
set_option maxRecDepth 20000 in
theorem gX6_build_X6_needOrder : GoodIn wsX6_build (va_wsS RX6 145 yX6_needOrder wsX6_needOrder) := goodIn_app (goodIn_of _ (by decide +kernel)) ggX6_build_X6_needOrder
set_option maxRecDepth 20000 in
theorem ggX6_build_X4_keeps : GoodIn wsX6_build wsX4_keeps := goodIn_r _ [15, 16, 60, 61, 62, 63, 64, 65, 66, 67, 68, 69] (by decide +kernel) (by decide +kernel)
set_option maxRecDepth 20000 in
theorem gX6_build_X4_keeps : GoodIn wsX6_build (wsV RX6 195 RX4 yX4_keeps wsX4_keeps) := goodIn_app (goodIn_of _ (by decide +kernel)) ggX6_build_X4_keeps
set_option maxRecDepth 20000 in
theorem ggX6_build_X1_push : GoodIn wsX6_build wsX1_push := goodIn_r _ [21, 22, 23, 24, 25, 26, 20, 27, 28, 29, 30, 31, 14, 32, 33, 34, 16, 35, 36, 37, 38, 39, 40, 41, 42, 43, 44, 70, 71, 72, 60, 61, 62, 63, 64, 65, 66, 67, 68, 69] (by decide +kernel) (by decide +kernel)
set_option maxRecDepth 20000 in
theorem gX6_build_X1_push : GoodIn wsX6_build (wsV RX6 176 RX1 yX1_push wsX1_push) := goodIn_app (goodIn_of _ (by decide +kernel)) ggX6_build_X1_push
set_option maxRecDepth 20000 in
theorem ggX6_build_X4_keep : GoodIn wsX6_build wsX4_keep := goodIn_r _ [48, 33, 36, 16, 49, 50, 51, 14, 52, 60, 61, 62, 63, 64, 65, 66, 67, 68, 69] (by decide +kernel) (by decide +kernel)
set_option maxRecDepth 20000 in
theorem gX6_build_X4_keep : GoodIn wsX6_build (wsV RX6 200 RX4 yX4_keep wsX4_keep) := goodIn_app (goodIn_of _ (by decide +kernel)) ggX6_build_X4_keep
theorem dX6_build_0 : decode cX6_build 0 = .ok (.iload_n 1, 1) := by decide +kernel
theorem dX6_build_1 : decode cX6_build 1 = .ok (.invokestatic 145, 3) := by decide +kernel
theorem dX6_build_4 : decode cX6_build 4 = .ok (.aload_n 0, 1) := by decide +kernel
theorem dX6_build_5 : decode cX6_build 5 = .ok (.getfield 19, 3) := by decide +kernel
theorem dX6_build_8 : decode cX6_build 8 = .ok (.iload_n 1, 1) := by decide +kernel
theorem dX6_build_9 : decode cX6_build 9 = .ok (.invokevirtual 195, 3) := by decide +kernel
theorem dX6_build_12 : decode cX6_build 12 = .ok (.ifCond .eq 13, 3) := by decide +kernel
theorem dX6_build_15 : decode cX6_build 15 = .ok (.new 61, 3) := by decide +kernel
theorem dX6_build_18 : decode cX6_build 18 = .ok (.dup, 1) := by decide +kernel
theorem dX6_build_19 : decode cX6_build 19 = .ok (.ldc 198, 2) := by decide +kernel
theorem dX6_build_21 : decode cX6_build 21 = .ok (.invokespecial 65, 3) := by decide +kernel
theorem dX6_build_24 : decode cX6_build 24 = .ok (.athrow, 1) := by decide +kernel
theorem dX6_build_25 : decode cX6_build 25 = .ok (.aload_n 0, 1) := by decide +kernel
theorem dX6_build_26 : decode cX6_build 26 = .ok (.getfield 29, 3) := by decide +kernel
theorem dX6_build_29 : decode cX6_build 29 = .ok (.aload_n 0, 1) := by decide +kernel
theorem dX6_build_30 : decode cX6_build 30 = .ok (.getfield 19, 3) := by decide +kernel
theorem dX6_build_33 : decode cX6_build 33 = .ok (.invokevirtual 176, 3) := by decide +kernel
theorem dX6_build_36 : decode cX6_build 36 = .ok (.aload_n 0, 1) := by decide +kernel
theorem dX6_build_37 : decode cX6_build 37 = .ok (.getfield 19, 3) := by decide +kernel
theorem dX6_build_40 : decode cX6_build 40 = .ok (.iload_n 1, 1) := by decide +kernel
theorem dX6_build_41 : decode cX6_build 41 = .ok (.invokevirtual 200, 3) := by decide +kernel
theorem dX6_build_44 : decode cX6_build 44 = .ok (.ireturn, 1) := by decide +kernel
set_option maxRecDepth 20000 in
theorem ggX6_drop_X6_needOrder : GoodIn wsX6_drop wsX6_needOrder := goodIn_ca (goodIn_r _ [8, 9, 10] (by decide +kernel) (by decide +kernel)) (goodIn_sub (fun _ h => List.mem_cons_of_mem _ (List.mem_append_right _ h)) (by decide +kernel))
set_option maxRecDepth 20000 in
theorem gX6_drop_X6_needOrder : GoodIn wsX6_drop (va_wsS RX6 145 yX6_needOrder wsX6_needOrder) := goodIn_app (goodIn_of _ (by decide +kernel)) ggX6_drop_X6_needOrder
set_option maxRecDepth 20000 in
theorem ggX6_drop_X4_keeps : GoodIn wsX6_drop wsX4_keeps := goodIn_r _ [15, 16, 63, 64, 65, 66, 67, 68, 69, 70, 71, 72] (by decide +kernel) (by decide +kernel)
set_option maxRecDepth 20000 in
theorem gX6_drop_X4_keeps : GoodIn wsX6_drop (wsV RX6 195 RX4 yX4_keeps wsX4_keeps) := goodIn_app (goodIn_of _ (by decide +kernel)) ggX6_drop_X4_keeps
set_option maxRecDepth 20000 in
theorem ggX6_drop_X1_push : GoodIn wsX6_drop wsX1_push := goodIn_r _ [21, 22, 23, 24, 25, 26, 20, 27, 28, 29, 30, 31, 14, 32, 33, 34, 16, 35, 36, 37, 38, 39, 40, 41, 42, 43, 44, 73, 74, 75, 63, 64, 65, 66, 67, 68, 69, 70, 71, 72] (by decide +kernel) (by decide +kernel)
set_option maxRecDepth 20000 in
theorem gX6_drop_X1_push : GoodIn wsX6_drop (wsV RX6 176 RX1 yX1_push wsX1_push) := goodIn_app (goodIn_of _ (by decide +kernel)) ggX6_drop_X1_push
set_option maxRecDepth 20000 in
theorem ggX6_drop_X4_discard : GoodIn wsX6_drop wsX4_discard := goodIn_r _ [48, 16, 49, 50, 51, 52, 53, 54, 55, 63, 64, 65, 66, 67, 68, 69, 70, 71, 72] (by decide +kernel) (by decide +kernel)
set_option maxRecDepth 20000 in
theorem gX6_drop_X4_discard : GoodIn wsX6_drop (wsV RX6 205 RX4 yX4_discard wsX4_discard) := goodIn_app (goodIn_of _ (by decide +kernel)) ggX6_drop_X4_discard
theorem dX6_drop_0 : decode cX6_drop 0 = .ok (.iload_n 1, 1) := by decide +kernel
theorem dX6_drop_1 : decode cX6_drop 1 = .ok (.invokestatic 145, 3) := by decide +kernel
theorem dX6_drop_4 : decode cX6_drop 4 = .ok (.aload_n 0, 1) := by decide +kernel
theorem dX6_drop_5 : decode cX6_drop 5 = .ok (.getfield 19, 3) := by decide +kernel
theorem dX6_drop_8 : decode cX6_drop 8 = .ok (.iload_n 1, 1) := by decide +kernel
theorem dX6_drop_9 : decode cX6_drop 9 = .ok (.invokevirtual 195, 3) := by decide +kernel
theorem dX6_drop_12 : decode cX6_drop 12 = .ok (.ifCond .ne 13, 3) := by decide +kernel
theorem dX6_drop_15 : decode cX6_drop 15 = .ok (.new 61, 3) := by decide +kernel
theorem dX6_drop_18 : decode cX6_drop 18 = .ok (.dup, 1) := by decide +kernel
theorem dX6_drop_19 : decode cX6_drop 19 = .ok (.ldc 203, 2) := by decide +kernel
theorem dX6_drop_21 : decode cX6_drop 21 = .ok (.invokespecial 65, 3) := by decide +kernel
theorem dX6_drop_24 : decode cX6_drop 24 = .ok (.athrow, 1) := by decide +kernel
theorem dX6_drop_25 : decode cX6_drop 25 = .ok (.aload_n 0, 1) := by decide +kernel
theorem dX6_drop_26 : decode cX6_drop 26 = .ok (.getfield 29, 3) := by decide +kernel
theorem dX6_drop_29 : decode cX6_drop 29 = .ok (.aload_n 0, 1) := by decide +kernel
theorem dX6_drop_30 : decode cX6_drop 30 = .ok (.getfield 19, 3) := by decide +kernel
theorem dX6_drop_33 : decode cX6_drop 33 = .ok (.invokevirtual 176, 3) := by decide +kernel
theorem dX6_drop_36 : decode cX6_drop 36 = .ok (.aload_n 0, 1) := by decide +kernel
theorem dX6_drop_37 : decode cX6_drop 37 = .ok (.getfield 19, 3) := by decide +kernel
theorem dX6_drop_40 : decode cX6_drop 40 = .ok (.iload_n 1, 1) := by decide +kernel
theorem dX6_drop_41 : decode cX6_drop 41 = .ok (.invokevirtual 205, 3) := by decide +kernel
theorem dX6_drop_44 : decode cX6_drop 44 = .ok (.ireturn, 1) := by decide +kernel
set_option maxRecDepth 20000 in
theorem ggX6_tidy_X1_push : GoodIn wsX6_tidy wsX1_push := goodIn_r _ [8, 9, 10, 11, 12, 13, 7, 14, 15, 16, 17, 18, 19, 20, 21, 22, 23, 24, 25, 26, 27, 28, 29, 30, 31, 32, 33, 143, 144, 145, 146, 147, 148, 149, 150, 151, 152, 153, 154, 155] (by decide +kernel) (by decide +kernel)
set_option maxRecDepth 20000 in
theorem gX6_tidy_X1_push : GoodIn wsX6_tidy (wsV RX6 176 RX1 yX1_push wsX1_push) := goodIn_app (goodIn_of _ (by decide +kernel)) ggX6_tidy_X1_push
set_option maxRecDepth 20000 in
theorem ggX6_tidy_X0_follow : GoodIn wsX6_tidy wsX0_follow := goodIn_r _ [38, 39, 40, 41, 37, 42, 43, 44, 45, 46, 47, 48, 49, 50, 51, 19, 52, 21, 53, 54, 55, 56, 28, 29, 57, 58, 59, 60, 61, 62, 63, 64, 65, 66, 67, 68, 69, 70, 71, 72, 73, 74, 75, 76, 77, 78, 79, 80, 81, 82, 83, 84, 85, 86, 22, 87, 88, 89, 90, 91, 92, 93, 94, 95, 96, 97, 98, 99, 100, 101, 102, 103, 104, 105, 106, 107, 108, 109, 110, 111, 112, 113, 114, 115, 116, 117, 118, 119, 120, 25, 23, 121, 122, 123, 124, 125, 126, 127, 128, 129, 130, 131, 132, 133, 134, 135, 146, 147, 148, 149, 150, 151, 152, 153, 154, 155, 156, 157, 158, 159, 160, 161] (by decide +kernel) (by decide +kernel)
set_option maxRecDepth 20000 in
theorem gX6_tidy_X0_follow : GoodIn wsX6_tidy (wsV RX6 208 RX0 yX0_follow wsX0_follow) := goodIn_app (goodIn_of _ (by decide +kernel)) ggX6_tidy_X0_follow
theorem dX6_tidy_0 : decode cX6_tidy 0 = .ok (.aload_n 0, 1) := by decide +kernel
theorem dX6_tidy_1 : decode cX6_tidy 1 = .ok (.getfield 29, 3) := by decide +kernel
theorem dX6_tidy_4 : decode cX6_tidy 4 = .ok (.aload_n 0, 1) := by decide +kernel
theorem dX6_tidy_5 : decode cX6_tidy 5 = .ok (.getfield 19, 3) := by decide +kernel
theorem dX6_tidy_8 : decode cX6_tidy 8 = .ok (.invokevirtual 176, 3) := by decide +kernel
theorem dX6_tidy_11 : decode cX6_tidy 11 = .ok (.aload_n 0, 1) := by decide +kernel
theorem dX6_tidy_12 : decode cX6_tidy 12 = .ok (.getfield 36, 3) := by decide +kernel
theorem dX6_tidy_15 : decode cX6_tidy 15 = .ok (.aload_n 0, 1) := by decide +kernel
theorem dX6_tidy_16 : decode cX6_tidy 16 = .ok (.getfield 19, 3) := by decide +kernel
theorem dX6_tidy_19 : decode cX6_tidy 19 = .ok (.invokevirtual 208, 3) := by decide +kernel
theorem dX6_tidy_22 : decode cX6_tidy 22 = .ok (.ireturn, 1) := by decide +kernel
set_option maxRecDepth 20000 in
theorem ggX6_setWeight_X1_push : GoodIn wsX6_setWeight wsX1_push := goodIn_r _ [9, 10, 11, 12, 13, 14, 8, 15, 16, 17, 18, 19, 20, 21, 22, 23, 24, 25, 26, 27, 28, 29, 30, 31, 32, 33, 34, 52, 53, 54, 42, 43, 44, 45, 46, 47, 48, 49, 50, 51] (by decide +kernel) (by decide +kernel)
set_option maxRecDepth 20000 in
theorem gX6_setWeight_X1_push : GoodIn wsX6_setWeight (wsV RX6 176 RX1 yX1_push wsX1_push) := goodIn_app (goodIn_of _ (by decide +kernel)) ggX6_setWeight_X1_push
theorem dX6_setWeight_0 : decode cX6_setWeight 0 = .ok (.iload_n 1, 1) := by decide +kernel
theorem dX6_setWeight_1 : decode cX6_setWeight 1 = .ok (.ifCond .lt 9, 3) := by decide +kernel
theorem dX6_setWeight_4 : decode cX6_setWeight 4 = .ok (.iload_n 1, 1) := by decide +kernel
theorem dX6_setWeight_5 : decode cX6_setWeight 5 = .ok (.bipush 99, 2) := by decide +kernel
theorem dX6_setWeight_7 : decode cX6_setWeight 7 = .ok (.if_icmp .le 13, 3) := by decide +kernel
theorem dX6_setWeight_10 : decode cX6_setWeight 10 = .ok (.new 50, 3) := by decide +kernel
theorem dX6_setWeight_13 : decode cX6_setWeight 13 = .ok (.dup, 1) := by decide +kernel
theorem dX6_setWeight_14 : decode cX6_setWeight 14 = .ok (.ldc 212, 2) := by decide +kernel
theorem dX6_setWeight_16 : decode cX6_setWeight 16 = .ok (.invokespecial 54, 3) := by decide +kernel
theorem dX6_setWeight_19 : decode cX6_setWeight 19 = .ok (.athrow, 1) := by decide +kernel
theorem dX6_setWeight_20 : decode cX6_setWeight 20 = .ok (.aload_n 0, 1) := by decide +kernel
theorem dX6_setWeight_21 : decode cX6_setWeight 21 = .ok (.getfield 29, 3) := by decide +kernel
theorem dX6_setWeight_24 : decode cX6_setWeight 24 = .ok (.aload_n 0, 1) := by decide +kernel
theorem dX6_setWeight_25 : decode cX6_setWeight 25 = .ok (.getfield 19, 3) := by decide +kernel
theorem dX6_setWeight_28 : decode cX6_setWeight 28 = .ok (.invokevirtual 176, 3) := by decide +kernel
theorem dX6_setWeight_31 : decode cX6_setWeight 31 = .ok (.aload_n 0, 1) := by decide +kernel
theorem dX6_setWeight_32 : decode cX6_setWeight 32 = .ok (.getfield 19, 3) := by decide +kernel
theorem dX6_setWeight_35 : decode cX6_setWeight 35 = .ok (.getfield 126, 3) := by decide +kernel
theorem dX6_setWeight_38 : decode cX6_setWeight 38 = .ok (.istore_n 2, 1) := by decide +kernel
theorem dX6_setWeight_39 : decode cX6_setWeight 39 = .ok (.aload_n 0, 1) := by decide +kernel
theorem dX6_setWeight_40 : decode cX6_setWeight 40 = .ok (.getfield 19, 3) := by decide +kernel
theorem dX6_setWeight_43 : decode cX6_setWeight 43 = .ok (.iload_n 1, 1) := by decide +kernel
theorem dX6_setWeight_44 : decode cX6_setWeight 44 = .ok (.putfield 126, 3) := by decide +kernel
theorem dX6_setWeight_47 : decode cX6_setWeight 47 = .ok (.iload_n 2, 1) := by decide +kernel
theorem dX6_setWeight_48 : decode cX6_setWeight 48 = .ok (.ireturn, 1) := by decide +kernel
set_option maxRecDepth 20000 in
theorem ggX6_undo_X1_pop : GoodIn wsX6_undo wsX1_pop := goodIn_r _ [9, 10, 11, 12, 13, 8, 14, 15, 16, 17, 18, 19, 20, 21, 22, 23, 24, 25, 26, 27, 28, 29, 30, 31, 32, 33, 34, 42, 43, 44, 45, 46, 47, 48, 49, 50, 51, 52, 53, 54] (by decide +kernel) (by decide +kernel)
set_option maxRecDepth 20000 in
theorem gX6_undo_X1_pop : GoodIn wsX6_undo (wsV RX6 217 RX1 yX1_pop wsX1_pop) := goodIn_app (goodIn_of _ (by decide +kernel)) ggX6_undo_X1_pop
theorem dX6_undo_0 : decode cX6_undo 0 = .ok (.aload_n 0, 1) := by decide +kernel
theorem dX6_undo_1 : decode cX6_undo 1 = .ok (.getfield 29, 3) := by decide +kernel
theorem dX6_undo_4 : decode cX6_undo 4 = .ok (.getfield 214, 3) := by decide +kernel
theorem dX6_undo_7 : decode cX6_undo 7 = .ok (.ifCond .ne 13, 3) := by decide +kernel
theorem dX6_undo_10 : decode cX6_undo 10 = .ok (.new 61, 3) := by decide +kernel
theorem dX6_undo_13 : decode cX6_undo 13 = .ok (.dup, 1) := by decide +kernel
theorem dX6_undo_14 : decode cX6_undo 14 = .ok (.ldc 215, 2) := by decide +kernel
theorem dX6_undo_16 : decode cX6_undo 16 = .ok (.invokespecial 65, 3) := by decide +kernel
theorem dX6_undo_19 : decode cX6_undo 19 = .ok (.athrow, 1) := by decide +kernel
theorem dX6_undo_20 : decode cX6_undo 20 = .ok (.aload_n 0, 1) := by decide +kernel
theorem dX6_undo_21 : decode cX6_undo 21 = .ok (.getfield 29, 3) := by decide +kernel
theorem dX6_undo_24 : decode cX6_undo 24 = .ok (.aload_n 0, 1) := by decide +kernel
theorem dX6_undo_25 : decode cX6_undo 25 = .ok (.getfield 19, 3) := by decide +kernel
theorem dX6_undo_28 : decode cX6_undo 28 = .ok (.invokevirtual 217, 3) := by decide +kernel
theorem dX6_undo_31 : decode cX6_undo 31 = .ok (.ireturn, 1) := by decide +kernel
set_option maxRecDepth 20000 in
theorem ggX6_value_X6_needOrder : GoodIn wsX6_value wsX6_needOrder := goodIn_ca (goodIn_r _ [6, 7, 8] (by decide +kernel) (by decide +kernel)) (goodIn_sub (fun _ h => List.mem_cons_of_mem _ (List.mem_append_right _ h)) (by decide +kernel))
set_option maxRecDepth 20000 in
theorem gX6_value_X6_needOrder : GoodIn wsX6_value (va_wsS RX6 145 yX6_needOrder wsX6_needOrder) := goodIn_app (goodIn_of _ (by decide +kernel)) ggX6_value_X6_needOrder
set_option maxRecDepth 20000 in
theorem ggX6_value_X0_learn : GoodIn wsX6_value wsX0_learn := goodIn_r _ [13, 14, 15, 16, 17, 18, 19, 20, 21, 22, 23, 24, 25, 26, 27, 28, 29, 30, 31, 32, 33, 34, 35, 36, 37, 38, 39, 40, 41, 42, 43, 44, 45, 46, 47, 48, 49, 50, 51, 52, 53, 54, 55, 56, 57, 58, 59, 60, 61, 62, 63, 64, 65, 66, 67, 68, 69, 70, 71, 72, 96, 97, 98, 99, 100, 101, 102, 103, 104, 105, 106, 107, 108, 109, 110, 111] (by decide +kernel) (by decide +kernel)
set_option maxRecDepth 20000 in
theorem gX6_value_X0_learn : GoodIn wsX6_value (wsV RX6 220 RX0 yX0_learn wsX0_learn) := goodIn_app (goodIn_of _ (by decide +kernel)) ggX6_value_X0_learn
set_option maxRecDepth 20000 in
theorem ggX6_value_X0_worth : GoodIn wsX6_value wsX0_worth := goodIn_r _ [76, 16, 17, 77, 78, 79, 12, 80, 14, 15, 81, 82, 83, 84, 85, 86, 87, 88, 19, 106, 107, 108, 109, 110, 111] (by decide +kernel) (by decide +kernel)
set_option maxRecDepth 20000 in
theorem gX6_value_X0_worth : GoodIn wsX6_value (wsV RX6 223 RX0 yX0_worth wsX0_worth) := goodIn_app (goodIn_of _ (by decide +kernel)) ggX6_value_X0_worth
theorem dX6_value_0 : decode cX6_value 0 = .ok (.iload_n 1, 1) := by decide +kernel
theorem dX6_value_1 : decode cX6_value 1 = .ok (.invokestatic 145, 3) := by decide +kernel
theorem dX6_value_4 : decode cX6_value 4 = .ok (.aload_n 0, 1) := by decide +kernel
theorem dX6_value_5 : decode cX6_value 5 = .ok (.getfield 36, 3) := by decide +kernel
theorem dX6_value_8 : decode cX6_value 8 = .ok (.aload_n 0, 1) := by decide +kernel
theorem dX6_value_9 : decode cX6_value 9 = .ok (.getfield 19, 3) := by decide +kernel
theorem dX6_value_12 : decode cX6_value 12 = .ok (.invokevirtual 220, 3) := by decide +kernel
theorem dX6_value_15 : decode cX6_value 15 = .ok (.aload_n 0, 1) := by decide +kernel
theorem dX6_value_16 : decode cX6_value 16 = .ok (.getfield 36, 3) := by decide +kernel
theorem dX6_value_19 : decode cX6_value 19 = .ok (.iload_n 1, 1) := by decide +kernel
theorem dX6_value_20 : decode cX6_value 20 = .ok (.invokevirtual 223, 3) := by decide +kernel
theorem dX6_value_23 : decode cX6_value 23 = .ok (.ireturn, 1) := by decide +kernel
set_option maxRecDepth 20000 in
theorem ggX6_advised_X0_learn : GoodIn wsX6_advised wsX0_learn := goodIn_r _ [7, 8, 9, 10, 11, 12, 13, 14, 15, 16, 17, 18, 19, 20, 21, 22, 23, 24, 25, 26, 27, 28, 29, 30, 31, 32, 33, 34, 35, 36, 37, 38, 39, 40, 41, 42, 43, 44, 45, 46, 47, 48, 49, 50, 51, 52, 53, 54, 55, 56, 57, 58, 59, 60, 61, 62, 63, 64, 65, 66, 94, 95, 96, 97, 98, 99, 100, 101, 102, 103, 104, 105, 106, 107, 108, 109] (by decide +kernel) (by decide +kernel)
set_option maxRecDepth 20000 in
theorem gX6_advised_X0_learn : GoodIn wsX6_advised (wsV RX6 220 RX0 yX0_learn wsX0_learn) := goodIn_app (goodIn_of _ (by decide +kernel)) ggX6_advised_X0_learn
set_option maxRecDepth 20000 in
theorem ggX6_advised_X0_orderToBuild : GoodIn wsX6_advised wsX0_orderToBuild := goodIn_r _ [70, 10, 71, 72, 73, 6, 74, 11, 75, 76, 77, 78, 8, 9, 79, 80, 81, 82, 83, 84, 85, 86, 13, 104, 105, 106, 107, 108, 109] (by decide +kernel) (by decide +kernel)
set_option maxRecDepth 20000 in
theorem gX6_advised_X0_orderToBuild : GoodIn wsX6_advised (wsV RX6 226 RX0 yX0_orderToBuild wsX0_orderToBuild) := goodIn_app (goodIn_of _ (by decide +kernel)) ggX6_advised_X0_orderToBuild
theorem dX6_advised_0 : decode cX6_advised 0 = .ok (.aload_n 0, 1) := by decide +kernel
theorem dX6_advised_1 : decode cX6_advised 1 = .ok (.getfield 36, 3) := by decide +kernel
theorem dX6_advised_4 : decode cX6_advised 4 = .ok (.aload_n 0, 1) := by decide +kernel
theorem dX6_advised_5 : decode cX6_advised 5 = .ok (.getfield 19, 3) := by decide +kernel
theorem dX6_advised_8 : decode cX6_advised 8 = .ok (.invokevirtual 220, 3) := by decide +kernel
theorem dX6_advised_11 : decode cX6_advised 11 = .ok (.aload_n 0, 1) := by decide +kernel
theorem dX6_advised_12 : decode cX6_advised 12 = .ok (.getfield 36, 3) := by decide +kernel
theorem dX6_advised_15 : decode cX6_advised 15 = .ok (.invokevirtual 226, 3) := by decide +kernel
theorem dX6_advised_18 : decode cX6_advised 18 = .ok (.ireturn, 1) := by decide +kernel
set_option maxRecDepth 20000 in
theorem ggX6_spare_X0_learn : GoodIn wsX6_spare wsX0_learn := goodIn_r _ [7, 8, 9, 10, 11, 12, 13, 14, 15, 16, 17, 18, 19, 20, 21, 22, 23, 24, 25, 26, 27, 28, 29, 30, 31, 32, 33, 34, 35, 36, 37, 38, 39, 40, 41, 42, 43, 44, 45, 46, 47, 48, 49, 50, 51, 52, 53, 54, 55, 56, 57, 58, 59, 60, 61, 62, 63, 64, 65, 66, 94, 95, 96, 97, 98, 99, 100, 101, 102, 103, 104, 105, 106, 107, 108, 109] (by decide +kernel) (by decide +kernel)
set_option maxRecDepth 20000 in
theorem gX6_spare_X0_learn : GoodIn wsX6_spare (wsV RX6 220 RX0 yX0_learn wsX0_learn) := goodIn_app (goodIn_of _ (by decide +kernel)) ggX6_spare_X0_learn
set_option maxRecDepth 20000 in
theorem ggX6_spare_X0_orderToDrop : GoodIn wsX6_spare wsX0_orderToDrop := goodIn_r _ [70, 10, 71, 72, 73, 6, 74, 11, 75, 76, 77, 78, 8, 9, 79, 80, 81, 82, 83, 84, 85, 86, 13, 104, 105, 106, 107, 108, 109] (by decide +kernel) (by decide +kernel)
set_option maxRecDepth 20000 in
theorem gX6_spare_X0_orderToDrop : GoodIn wsX6_spare (wsV RX6 229 RX0 yX0_orderToDrop wsX0_orderToDrop) := goodIn_app (goodIn_of _ (by decide +kernel)) ggX6_spare_X0_orderToDrop
theorem dX6_spare_0 : decode cX6_spare 0 = .ok (.aload_n 0, 1) := by decide +kernel
theorem dX6_spare_1 : decode cX6_spare 1 = .ok (.getfield 36, 3) := by decide +kernel
theorem dX6_spare_4 : decode cX6_spare 4 = .ok (.aload_n 0, 1) := by decide +kernel
theorem dX6_spare_5 : decode cX6_spare 5 = .ok (.getfield 19, 3) := by decide +kernel
theorem dX6_spare_8 : decode cX6_spare 8 = .ok (.invokevirtual 220, 3) := by decide +kernel
theorem dX6_spare_11 : decode cX6_spare 11 = .ok (.aload_n 0, 1) := by decide +kernel
theorem dX6_spare_12 : decode cX6_spare 12 = .ok (.getfield 36, 3) := by decide +kernel
theorem dX6_spare_15 : decode cX6_spare 15 = .ok (.invokevirtual 229, 3) := by decide +kernel
theorem dX6_spare_18 : decode cX6_spare 18 = .ok (.ireturn, 1) := by decide +kernel
set_option maxRecDepth 20000 in
theorem ggX6_needed_X0_learn : GoodIn wsX6_needed wsX0_learn := goodIn_r _ [7, 8, 9, 10, 11, 12, 13, 14, 15, 16, 17, 18, 19, 20, 21, 22, 23, 24, 25, 26, 27, 28, 29, 30, 31, 32, 33, 34, 35, 36, 37, 38, 39, 40, 41, 42, 43, 44, 45, 46, 47, 48, 49, 50, 51, 52, 53, 54, 55, 56, 57, 58, 59, 60, 61, 62, 63, 64, 65, 66, 89, 90, 91, 92, 93, 94, 95, 96, 97, 98, 99, 100, 101, 102, 103, 104] (by decide +kernel) (by decide +kernel)
set_option maxRecDepth 20000 in
theorem gX6_needed_X0_learn : GoodIn wsX6_needed (wsV RX6 220 RX0 yX0_learn wsX0_learn) := goodIn_app (goodIn_of _ (by decide +kernel)) ggX6_needed_X0_learn
set_option maxRecDepth 20000 in
theorem ggX6_needed_X0_smallestCover : GoodIn wsX6_needed wsX0_smallestCover := goodIn_r _ [70, 71, 72, 73, 74, 75, 76, 77, 78, 79, 80, 6, 81, 8, 12, 99, 100, 101, 102, 103, 104] (by decide +kernel) (by decide +kernel)
set_option maxRecDepth 20000 in
theorem gX6_needed_X0_smallestCover : GoodIn wsX6_needed (wsV RX6 232 RX0 yX0_smallestCover wsX0_smallestCover) := goodIn_app (goodIn_of _ (by decide +kernel)) ggX6_needed_X0_smallestCover
theorem dX6_needed_0 : decode cX6_needed 0 = .ok (.aload_n 0, 1) := by decide +kernel
theorem dX6_needed_1 : decode cX6_needed 1 = .ok (.getfield 36, 3) := by decide +kernel
theorem dX6_needed_4 : decode cX6_needed 4 = .ok (.aload_n 0, 1) := by decide +kernel
theorem dX6_needed_5 : decode cX6_needed 5 = .ok (.getfield 19, 3) := by decide +kernel
theorem dX6_needed_8 : decode cX6_needed 8 = .ok (.invokevirtual 220, 3) := by decide +kernel
theorem dX6_needed_11 : decode cX6_needed 11 = .ok (.aload_n 0, 1) := by decide +kernel
theorem dX6_needed_12 : decode cX6_needed 12 = .ok (.getfield 36, 3) := by decide +kernel
theorem dX6_needed_15 : decode cX6_needed 15 = .ok (.invokevirtual 232, 3) := by decide +kernel
theorem dX6_needed_18 : decode cX6_needed 18 = .ok (.ireturn, 1) := by decide +kernel
set_option maxRecDepth 20000 in
theorem ggX6_ifKept_X0_learn : GoodIn wsX6_ifKept wsX0_learn := goodIn_r _ [9, 10, 11, 12, 13, 14, 15, 16, 17, 18, 19, 20, 21, 22, 23, 24, 25, 26, 27, 28, 29, 30, 31, 32, 33, 34, 35, 36, 37, 38, 39, 40, 41, 42, 43, 44, 45, 46, 47, 48, 49, 50, 51, 52, 53, 54, 55, 56, 57, 58, 59, 60, 61, 62, 63, 64, 65, 66, 67, 68, 88, 89, 90, 91, 92, 93, 94, 95, 96, 97, 98, 99, 100, 101, 102, 103] (by decide +kernel) (by decide +kernel)
set_option maxRecDepth 20000 in
theorem gX6_ifKept_X0_learn : GoodIn wsX6_ifKept (wsV RX6 220 RX0 yX0_learn wsX0_learn) := goodIn_app (goodIn_of _ (by decide +kernel)) ggX6_ifKept_X0_learn
set_option maxRecDepth 20000 in
theorem ggX6_ifKept_X0_costWith : GoodIn wsX6_ifKept wsX0_costWith := goodIn_r _ [72, 10, 11, 73, 74, 75, 76, 77, 78, 79, 8, 80, 15, 98, 99, 100, 101, 102, 103] (by decide +kernel) (by decide +kernel)
set_option maxRecDepth 20000 in
theorem gX6_ifKept_X0_costWith : GoodIn wsX6_ifKept (wsV RX6 237 RX0 yX0_costWith wsX0_costWith) := goodIn_app (goodIn_of _ (by decide +kernel)) ggX6_ifKept_X0_costWith
theorem dX6_ifKept_0 : decode cX6_ifKept 0 = .ok (.iload_n 1, 1) := by decide +kernel
theorem dX6_ifKept_1 : decode cX6_ifKept 1 = .ok (.ifCond .lt 9, 3) := by decide +kernel
theorem dX6_ifKept_4 : decode cX6_ifKept 4 = .ok (.iload_n 1, 1) := by decide +kernel
theorem dX6_ifKept_5 : decode cX6_ifKept 5 = .ok (.bipush 64, 2) := by decide +kernel
theorem dX6_ifKept_7 : decode cX6_ifKept 7 = .ok (.if_icmp .lt 13, 3) := by decide +kernel
theorem dX6_ifKept_10 : decode cX6_ifKept 10 = .ok (.new 50, 3) := by decide +kernel
theorem dX6_ifKept_13 : decode cX6_ifKept 13 = .ok (.dup, 1) := by decide +kernel
theorem dX6_ifKept_14 : decode cX6_ifKept 14 = .ok (.ldc 235, 2) := by decide +kernel
theorem dX6_ifKept_16 : decode cX6_ifKept 16 = .ok (.invokespecial 54, 3) := by decide +kernel
theorem dX6_ifKept_19 : decode cX6_ifKept 19 = .ok (.athrow, 1) := by decide +kernel
theorem dX6_ifKept_20 : decode cX6_ifKept 20 = .ok (.aload_n 0, 1) := by decide +kernel
theorem dX6_ifKept_21 : decode cX6_ifKept 21 = .ok (.getfield 36, 3) := by decide +kernel
theorem dX6_ifKept_24 : decode cX6_ifKept 24 = .ok (.aload_n 0, 1) := by decide +kernel
theorem dX6_ifKept_25 : decode cX6_ifKept 25 = .ok (.getfield 19, 3) := by decide +kernel
theorem dX6_ifKept_28 : decode cX6_ifKept 28 = .ok (.invokevirtual 220, 3) := by decide +kernel
theorem dX6_ifKept_31 : decode cX6_ifKept 31 = .ok (.aload_n 0, 1) := by decide +kernel
theorem dX6_ifKept_32 : decode cX6_ifKept 32 = .ok (.getfield 36, 3) := by decide +kernel
theorem dX6_ifKept_35 : decode cX6_ifKept 35 = .ok (.iload_n 1, 1) := by decide +kernel
theorem dX6_ifKept_36 : decode cX6_ifKept 36 = .ok (.invokevirtual 237, 3) := by decide +kernel
theorem dX6_ifKept_39 : decode cX6_ifKept 39 = .ok (.ireturn, 1) := by decide +kernel
set_option maxRecDepth 20000 in
theorem ggX6_bestSet_X0_learn : GoodIn wsX6_bestSet wsX0_learn := goodIn_r _ [7, 8, 9, 10, 11, 12, 13, 14, 15, 16, 17, 18, 19, 20, 21, 22, 23, 24, 25, 26, 27, 28, 29, 30, 31, 32, 33, 34, 35, 36, 37, 38, 39, 40, 41, 42, 43, 44, 45, 46, 47, 48, 49, 50, 51, 52, 53, 54, 55, 56, 57, 58, 59, 60, 61, 62, 63, 64, 65, 66, 97, 98, 99, 100, 101, 102, 103, 104, 105, 106, 107, 108, 109, 110, 111, 112] (by decide +kernel) (by decide +kernel)
set_option maxRecDepth 20000 in
theorem gX6_bestSet_X0_learn : GoodIn wsX6_bestSet (wsV RX6 220 RX0 yX0_learn wsX0_learn) := goodIn_app (goodIn_of _ (by decide +kernel)) ggX6_bestSet_X0_learn
set_option maxRecDepth 20000 in
theorem ggX6_bestSet_X0_cheapestSet : GoodIn wsX6_bestSet wsX0_cheapestSet := goodIn_r _ [70, 11, 71, 72, 73, 6, 74, 8, 9, 75, 76, 77, 78, 79, 80, 81, 82, 13, 83, 84, 85, 86, 87, 88, 89, 107, 108, 109, 110, 111, 112] (by decide +kernel) (by decide +kernel)
set_option maxRecDepth 20000 in
theorem gX6_bestSet_X0_cheapestSet : GoodIn wsX6_bestSet (wsV RX6 240 RX0 yX0_cheapestSet wsX0_cheapestSet) := goodIn_app (goodIn_of _ (by decide +kernel)) ggX6_bestSet_X0_cheapestSet
theorem dX6_bestSet_0 : decode cX6_bestSet 0 = .ok (.aload_n 0, 1) := by decide +kernel
theorem dX6_bestSet_1 : decode cX6_bestSet 1 = .ok (.getfield 36, 3) := by decide +kernel
theorem dX6_bestSet_4 : decode cX6_bestSet 4 = .ok (.aload_n 0, 1) := by decide +kernel
theorem dX6_bestSet_5 : decode cX6_bestSet 5 = .ok (.getfield 19, 3) := by decide +kernel
theorem dX6_bestSet_8 : decode cX6_bestSet 8 = .ok (.invokevirtual 220, 3) := by decide +kernel
theorem dX6_bestSet_11 : decode cX6_bestSet 11 = .ok (.aload_n 0, 1) := by decide +kernel
theorem dX6_bestSet_12 : decode cX6_bestSet 12 = .ok (.getfield 36, 3) := by decide +kernel
theorem dX6_bestSet_15 : decode cX6_bestSet 15 = .ok (.invokevirtual 240, 3) := by decide +kernel
theorem dX6_bestSet_18 : decode cX6_bestSet 18 = .ok (.ireturn, 1) := by decide +kernel
theorem dX6_needTriple_0 : decode cX6_needTriple 0 = .ok (.iload_n 0, 1) := by decide +kernel
theorem dX6_needTriple_1 : decode cX6_needTriple 1 = .ok (.ifCond .lt 10, 3) := by decide +kernel
theorem dX6_needTriple_4 : decode cX6_needTriple 4 = .ok (.iload_n 0, 1) := by decide +kernel
theorem dX6_needTriple_5 : decode cX6_needTriple 5 = .ok (.sipush 999, 3) := by decide +kernel
theorem dX6_needTriple_8 : decode cX6_needTriple 8 = .ok (.if_icmp .le 14, 3) := by decide +kernel
theorem dX6_needTriple_11 : decode cX6_needTriple 11 = .ok (.new 50, 3) := by decide +kernel
theorem dX6_needTriple_14 : decode cX6_needTriple 14 = .ok (.dup, 1) := by decide +kernel
theorem dX6_needTriple_15 : decode cX6_needTriple 15 = .ok (.ldc_w 304, 3) := by decide +kernel
theorem dX6_needTriple_18 : decode cX6_needTriple 18 = .ok (.invokespecial 54, 3) := by decide +kernel
theorem dX6_needTriple_21 : decode cX6_needTriple 21 = .ok (.athrow, 1) := by decide +kernel
theorem dX6_needTriple_22 : decode cX6_needTriple 22 = .ok (.return_, 1) := by decide +kernel
theorem dX6_needQuestion_0 : decode cX6_needQuestion 0 = .ok (.iload_n 0, 1) := by decide +kernel
theorem dX6_needQuestion_1 : decode cX6_needQuestion 1 = .ok (.ifCond .lt 10, 3) := by decide +kernel
theorem dX6_needQuestion_4 : decode cX6_needQuestion 4 = .ok (.iload_n 0, 1) := by decide +kernel
theorem dX6_needQuestion_5 : decode cX6_needQuestion 5 = .ok (.sipush 1330, 3) := by decide +kernel
theorem dX6_needQuestion_8 : decode cX6_needQuestion 8 = .ok (.if_icmp .le 14, 3) := by decide +kernel
theorem dX6_needQuestion_11 : decode cX6_needQuestion 11 = .ok (.new 50, 3) := by decide +kernel
theorem dX6_needQuestion_14 : decode cX6_needQuestion 14 = .ok (.dup, 1) := by decide +kernel
theorem dX6_needQuestion_15 : decode cX6_needQuestion 15 = .ok (.ldc_w 306, 3) := by decide +kernel
theorem dX6_needQuestion_18 : decode cX6_needQuestion 18 = .ok (.invokespecial 54, 3) := by decide +kernel
theorem dX6_needQuestion_21 : decode cX6_needQuestion 21 = .ok (.athrow, 1) := by decide +kernel
theorem dX6_needQuestion_22 : decode cX6_needQuestion 22 = .ok (.return_, 1) := by decide +kernel
theorem dX6_needPlace_0 : decode cX6_needPlace 0 = .ok (.iload_n 0, 1) := by decide +kernel
theorem dX6_needPlace_1 : decode cX6_needPlace 1 = .ok (.ifCond .ge 14, 3) := by decide +kernel
theorem dX6_needPlace_4 : decode cX6_needPlace 4 = .ok (.new 50, 3) := by decide +kernel
theorem dX6_needPlace_7 : decode cX6_needPlace 7 = .ok (.dup, 1) := by decide +kernel
theorem dX6_needPlace_8 : decode cX6_needPlace 8 = .ok (.ldc_w 308, 3) := by decide +kernel
theorem dX6_needPlace_11 : decode cX6_needPlace 11 = .ok (.invokespecial 54, 3) := by decide +kernel
theorem dX6_needPlace_14 : decode cX6_needPlace 14 = .ok (.athrow, 1) := by decide +kernel
theorem dX6_needPlace_15 : decode cX6_needPlace 15 = .ok (.return_, 1) := by decide +kernel
theorem dX6_needOrder_0 : decode cX6_needOrder 0 = .ok (.iload_n 0, 1) := by decide +kernel
theorem dX6_needOrder_1 : decode cX6_needOrder 1 = .ok (.ifCond .lt 9, 3) := by decide +kernel
theorem dX6_needOrder_4 : decode cX6_needOrder 4 = .ok (.iload_n 0, 1) := by decide +kernel
theorem dX6_needOrder_5 : decode cX6_needOrder 5 = .ok (.bipush 6, 2) := by decide +kernel
theorem dX6_needOrder_7 : decode cX6_needOrder 7 = .ok (.if_icmp .lt 14, 3) := by decide +kernel
theorem dX6_needOrder_10 : decode cX6_needOrder 10 = .ok (.new 310, 3) := by decide +kernel
theorem dX6_needOrder_13 : decode cX6_needOrder 13 = .ok (.dup, 1) := by decide +kernel
theorem dX6_needOrder_14 : decode cX6_needOrder 14 = .ok (.ldc_w 312, 3) := by decide +kernel
theorem dX6_needOrder_17 : decode cX6_needOrder 17 = .ok (.invokespecial 314, 3) := by decide +kernel
theorem dX6_needOrder_20 : decode cX6_needOrder 20 = .ok (.athrow, 1) := by decide +kernel
theorem dX6_needOrder_21 : decode cX6_needOrder 21 = .ok (.return_, 1) := by decide +kernel
set_option maxRecDepth 20000 in
theorem ggX6_needOrderOrNone_X6_needOrder : GoodIn wsX6_needOrderOrNone wsX6_needOrder := goodIn_ca (goodIn_r _ [4, 5, 6] (by decide +kernel) (by decide +kernel)) (goodIn_sub (fun _ h => List.mem_cons_of_mem _ (List.mem_append_right _ h)) (by decide +kernel))
set_option maxRecDepth 20000 in
theorem gX6_needOrderOrNone_X6_needOrder : GoodIn wsX6_needOrderOrNone (va_wsS RX6 145 yX6_needOrder wsX6_needOrder) := goodIn_app (goodIn_of _ (by decide +kernel)) ggX6_needOrderOrNone_X6_needOrder
theorem dX6_needOrderOrNone_0 : decode cX6_needOrderOrNone 0 = .ok (.iload_n 0, 1) := by decide +kernel
theorem dX6_needOrderOrNone_1 : decode cX6_needOrderOrNone 1 = .ok (.iconst (-1), 1) := by decide +kernel
theorem dX6_needOrderOrNone_2 : decode cX6_needOrderOrNone 2 = .ok (.if_icmp .eq 7, 3) := by decide +kernel
theorem dX6_needOrderOrNone_5 : decode cX6_needOrderOrNone 5 = .ok (.iload_n 0, 1) := by decide +kernel
theorem dX6_needOrderOrNone_6 : decode cX6_needOrderOrNone 6 = .ok (.invokestatic 145, 3) := by decide +kernel
theorem dX6_needOrderOrNone_9 : decode cX6_needOrderOrNone 9 = .ok (.return_, 1) := by decide +kernel
theorem dJ6_bitCount_0f7a4_0 : decode cJ6_bitCount_0f7a4 0 = .ok (.iload_n 0, 1) := by decide +kernel
theorem dJ6_bitCount_0f7a4_1 : decode cJ6_bitCount_0f7a4 1 = .ok (.iload_n 0, 1) := by decide +kernel
theorem dJ6_bitCount_0f7a4_2 : decode cJ6_bitCount_0f7a4 2 = .ok (.iconst 1, 1) := by decide +kernel
theorem dJ6_bitCount_0f7a4_3 : decode cJ6_bitCount_0f7a4 3 = .ok (.iushr, 1) := by decide +kernel
theorem dJ6_bitCount_0f7a4_4 : decode cJ6_bitCount_0f7a4 4 = .ok (.ldc_w 265, 3) := by decide +kernel
theorem dJ6_bitCount_0f7a4_7 : decode cJ6_bitCount_0f7a4 7 = .ok (.iand, 1) := by decide +kernel
theorem dJ6_bitCount_0f7a4_8 : decode cJ6_bitCount_0f7a4 8 = .ok (.isub, 1) := by decide +kernel
theorem dJ6_bitCount_0f7a4_9 : decode cJ6_bitCount_0f7a4 9 = .ok (.istore_n 0, 1) := by decide +kernel
theorem dJ6_bitCount_0f7a4_10 : decode cJ6_bitCount_0f7a4 10 = .ok (.iload_n 0, 1) := by decide +kernel
theorem dJ6_bitCount_0f7a4_11 : decode cJ6_bitCount_0f7a4 11 = .ok (.ldc_w 266, 3) := by decide +kernel
theorem dJ6_bitCount_0f7a4_14 : decode cJ6_bitCount_0f7a4 14 = .ok (.iand, 1) := by decide +kernel
theorem dJ6_bitCount_0f7a4_15 : decode cJ6_bitCount_0f7a4 15 = .ok (.iload_n 0, 1) := by decide +kernel
theorem dJ6_bitCount_0f7a4_16 : decode cJ6_bitCount_0f7a4 16 = .ok (.iconst 2, 1) := by decide +kernel
theorem dJ6_bitCount_0f7a4_17 : decode cJ6_bitCount_0f7a4 17 = .ok (.iushr, 1) := by decide +kernel
theorem dJ6_bitCount_0f7a4_18 : decode cJ6_bitCount_0f7a4 18 = .ok (.ldc_w 266, 3) := by decide +kernel
theorem dJ6_bitCount_0f7a4_21 : decode cJ6_bitCount_0f7a4 21 = .ok (.iand, 1) := by decide +kernel
theorem dJ6_bitCount_0f7a4_22 : decode cJ6_bitCount_0f7a4 22 = .ok (.iadd, 1) := by decide +kernel
theorem dJ6_bitCount_0f7a4_23 : decode cJ6_bitCount_0f7a4 23 = .ok (.istore_n 0, 1) := by decide +kernel
theorem dJ6_bitCount_0f7a4_24 : decode cJ6_bitCount_0f7a4 24 = .ok (.iload_n 0, 1) := by decide +kernel
theorem dJ6_bitCount_0f7a4_25 : decode cJ6_bitCount_0f7a4 25 = .ok (.iload_n 0, 1) := by decide +kernel
theorem dJ6_bitCount_0f7a4_26 : decode cJ6_bitCount_0f7a4 26 = .ok (.iconst 4, 1) := by decide +kernel
theorem dJ6_bitCount_0f7a4_27 : decode cJ6_bitCount_0f7a4 27 = .ok (.iushr, 1) := by decide +kernel
theorem dJ6_bitCount_0f7a4_28 : decode cJ6_bitCount_0f7a4 28 = .ok (.iadd, 1) := by decide +kernel
theorem dJ6_bitCount_0f7a4_29 : decode cJ6_bitCount_0f7a4 29 = .ok (.ldc_w 267, 3) := by decide +kernel
theorem dJ6_bitCount_0f7a4_32 : decode cJ6_bitCount_0f7a4 32 = .ok (.iand, 1) := by decide +kernel
theorem dJ6_bitCount_0f7a4_33 : decode cJ6_bitCount_0f7a4 33 = .ok (.istore_n 0, 1) := by decide +kernel
theorem dJ6_bitCount_0f7a4_34 : decode cJ6_bitCount_0f7a4 34 = .ok (.iload_n 0, 1) := by decide +kernel
theorem dJ6_bitCount_0f7a4_35 : decode cJ6_bitCount_0f7a4 35 = .ok (.iload_n 0, 1) := by decide +kernel
theorem dJ6_bitCount_0f7a4_36 : decode cJ6_bitCount_0f7a4 36 = .ok (.bipush 8, 2) := by decide +kernel
theorem dJ6_bitCount_0f7a4_38 : decode cJ6_bitCount_0f7a4 38 = .ok (.iushr, 1) := by decide +kernel
theorem dJ6_bitCount_0f7a4_39 : decode cJ6_bitCount_0f7a4 39 = .ok (.iadd, 1) := by decide +kernel
theorem dJ6_bitCount_0f7a4_40 : decode cJ6_bitCount_0f7a4 40 = .ok (.istore_n 0, 1) := by decide +kernel
theorem dJ6_bitCount_0f7a4_41 : decode cJ6_bitCount_0f7a4 41 = .ok (.iload_n 0, 1) := by decide +kernel
theorem dJ6_bitCount_0f7a4_42 : decode cJ6_bitCount_0f7a4 42 = .ok (.iload_n 0, 1) := by decide +kernel
theorem dJ6_bitCount_0f7a4_43 : decode cJ6_bitCount_0f7a4 43 = .ok (.bipush 16, 2) := by decide +kernel
theorem dJ6_bitCount_0f7a4_45 : decode cJ6_bitCount_0f7a4 45 = .ok (.iushr, 1) := by decide +kernel
theorem dJ6_bitCount_0f7a4_46 : decode cJ6_bitCount_0f7a4 46 = .ok (.iadd, 1) := by decide +kernel
theorem dJ6_bitCount_0f7a4_47 : decode cJ6_bitCount_0f7a4 47 = .ok (.istore_n 0, 1) := by decide +kernel
theorem dJ6_bitCount_0f7a4_48 : decode cJ6_bitCount_0f7a4 48 = .ok (.iload_n 0, 1) := by decide +kernel
theorem dJ6_bitCount_0f7a4_49 : decode cJ6_bitCount_0f7a4 49 = .ok (.bipush 63, 2) := by decide +kernel
theorem dJ6_bitCount_0f7a4_51 : decode cJ6_bitCount_0f7a4 51 = .ok (.iand, 1) := by decide +kernel
theorem dJ6_bitCount_0f7a4_52 : decode cJ6_bitCount_0f7a4 52 = .ok (.ireturn, 1) := by decide +kernel
theorem dJ9_min_7cf53_0 : decode cJ9_min_7cf53 0 = .ok (.iload_n 0, 1) := by decide +kernel
theorem dJ9_min_7cf53_1 : decode cJ9_min_7cf53 1 = .ok (.iload_n 1, 1) := by decide +kernel
theorem dJ9_min_7cf53_2 : decode cJ9_min_7cf53 2 = .ok (.if_icmp .gt 7, 3) := by decide +kernel
theorem dJ9_min_7cf53_5 : decode cJ9_min_7cf53 5 = .ok (.iload_n 0, 1) := by decide +kernel
theorem dJ9_min_7cf53_6 : decode cJ9_min_7cf53 6 = .ok (.goto 4, 3) := by decide +kernel
theorem dJ9_min_7cf53_9 : decode cJ9_min_7cf53 9 = .ok (.iload_n 1, 1) := by decide +kernel
theorem dJ9_min_7cf53_10 : decode cJ9_min_7cf53 10 = .ok (.ireturn, 1) := by decide +kernel
theorem dL_cell_0 : decode cL_cell 0 = .ok (.iload_n 1, 1) := by decide +kernel
theorem dL_cell_1 : decode cL_cell 1 = .ok (.aload_n 0, 1) := by decide +kernel
theorem dL_cell_2 : decode cL_cell 2 = .ok (.arraylength, 1) := by decide +kernel
theorem dL_cell_3 : decode cL_cell 3 = .ok (.if_icmp .ge 9, 3) := by decide +kernel
theorem dL_cell_6 : decode cL_cell 6 = .ok (.aload_n 0, 1) := by decide +kernel
theorem dL_cell_7 : decode cL_cell 7 = .ok (.iload_n 1, 1) := by decide +kernel
theorem dL_cell_8 : decode cL_cell 8 = .ok (.iaload, 1) := by decide +kernel
theorem dL_cell_9 : decode cL_cell 9 = .ok (.goto 15, 3) := by decide +kernel
theorem dL_cell_12 : decode cL_cell 12 = .ok (.sipush 7919, 3) := by decide +kernel
theorem dL_cell_15 : decode cL_cell 15 = .ok (.iload_n 1, 1) := by decide +kernel
theorem dL_cell_16 : decode cL_cell 16 = .ok (.iconst 3, 1) := by decide +kernel
theorem dL_cell_17 : decode cL_cell 17 = .ok (.iadd, 1) := by decide +kernel
theorem dL_cell_18 : decode cL_cell 18 = .ok (.imul, 1) := by decide +kernel
theorem dL_cell_19 : decode cL_cell 19 = .ok (.iload_n 1, 1) := by decide +kernel
theorem dL_cell_20 : decode cL_cell 20 = .ok (.bipush 11, 2) := by decide +kernel
theorem dL_cell_22 : decode cL_cell 22 = .ok (.iadd, 1) := by decide +kernel
theorem dL_cell_23 : decode cL_cell 23 = .ok (.imul, 1) := by decide +kernel
theorem dL_cell_24 : decode cL_cell 24 = .ok (.ireturn, 1) := by decide +kernel
theorem dL_low_0 : decode cL_low 0 = .ok (.iload_n 0, 1) := by decide +kernel
theorem dL_low_1 : decode cL_low 1 = .ok (.ldc 7, 2) := by decide +kernel
theorem dL_low_3 : decode cL_low 3 = .ok (.iand, 1) := by decide +kernel
theorem dL_low_4 : decode cL_low 4 = .ok (.iload_n 1, 1) := by decide +kernel
theorem dL_low_5 : decode cL_low 5 = .ok (.irem, 1) := by decide +kernel
theorem dL_low_6 : decode cL_low 6 = .ok (.ireturn, 1) := by decide +kernel
theorem dL_digits_0 : decode cL_digits 0 = .ok (.bipush 100, 2) := by decide +kernel
theorem dL_digits_2 : decode cL_digits 2 = .ok (.iload_n 0, 1) := by decide +kernel
theorem dL_digits_3 : decode cL_digits 3 = .ok (.iconst 3, 1) := by decide +kernel
theorem dL_digits_4 : decode cL_digits 4 = .ok (.iand, 1) := by decide +kernel
theorem dL_digits_5 : decode cL_digits 5 = .ok (.imul, 1) := by decide +kernel
theorem dL_digits_6 : decode cL_digits 6 = .ok (.bipush 10, 2) := by decide +kernel
theorem dL_digits_8 : decode cL_digits 8 = .ok (.iload_n 0, 1) := by decide +kernel
theorem dL_digits_9 : decode cL_digits 9 = .ok (.iconst 2, 1) := by decide +kernel
theorem dL_digits_10 : decode cL_digits 10 = .ok (.ishr, 1) := by decide +kernel
theorem dL_digits_11 : decode cL_digits 11 = .ok (.iconst 3, 1) := by decide +kernel
theorem dL_digits_12 : decode cL_digits 12 = .ok (.iand, 1) := by decide +kernel
theorem dL_digits_13 : decode cL_digits 13 = .ok (.imul, 1) := by decide +kernel
theorem dL_digits_14 : decode cL_digits 14 = .ok (.iadd, 1) := by decide +kernel
theorem dL_digits_15 : decode cL_digits 15 = .ok (.iload_n 0, 1) := by decide +kernel
theorem dL_digits_16 : decode cL_digits 16 = .ok (.iconst 4, 1) := by decide +kernel
theorem dL_digits_17 : decode cL_digits 17 = .ok (.ishr, 1) := by decide +kernel
theorem dL_digits_18 : decode cL_digits 18 = .ok (.iconst 3, 1) := by decide +kernel
theorem dL_digits_19 : decode cL_digits 19 = .ok (.iand, 1) := by decide +kernel
theorem dL_digits_20 : decode cL_digits 20 = .ok (.iadd, 1) := by decide +kernel
theorem dL_digits_21 : decode cL_digits 21 = .ok (.ireturn, 1) := by decide +kernel
theorem dL_question_0 : decode cL_question 0 = .ok (.iload_n 0, 1) := by decide +kernel
theorem dL_question_1 : decode cL_question 1 = .ok (.bipush 6, 2) := by decide +kernel
theorem dL_question_3 : decode cL_question 3 = .ok (.ishr, 1) := by decide +kernel
theorem dL_question_4 : decode cL_question 4 = .ok (.iconst 1, 1) := by decide +kernel
theorem dL_question_5 : decode cL_question 5 = .ok (.iand, 1) := by decide +kernel
theorem dL_question_6 : decode cL_question 6 = .ok (.ifCond .ne 8, 3) := by decide +kernel
theorem dL_question_9 : decode cL_question 9 = .ok (.bipush 10, 2) := by decide +kernel
theorem dL_question_11 : decode cL_question 11 = .ok (.goto 6, 3) := by decide +kernel
theorem dL_question_14 : decode cL_question 14 = .ok (.iload_n 0, 1) := by decide +kernel
theorem dL_question_15 : decode cL_question 15 = .ok (.iconst 3, 1) := by decide +kernel
theorem dL_question_16 : decode cL_question 16 = .ok (.iand, 1) := by decide +kernel
theorem dL_question_17 : decode cL_question 17 = .ok (.istore_n 1, 1) := by decide +kernel
theorem dL_question_18 : decode cL_question 18 = .ok (.iload_n 0, 1) := by decide +kernel
theorem dL_question_19 : decode cL_question 19 = .ok (.bipush 7, 2) := by decide +kernel
theorem dL_question_21 : decode cL_question 21 = .ok (.ishr, 1) := by decide +kernel
theorem dL_question_22 : decode cL_question 22 = .ok (.iconst 1, 1) := by decide +kernel
theorem dL_question_23 : decode cL_question 23 = .ok (.iand, 1) := by decide +kernel
theorem dL_question_24 : decode cL_question 24 = .ok (.ifCond .ne 8, 3) := by decide +kernel
theorem dL_question_27 : decode cL_question 27 = .ok (.bipush 10, 2) := by decide +kernel
theorem dL_question_29 : decode cL_question 29 = .ok (.goto 8, 3) := by decide +kernel
theorem dL_question_32 : decode cL_question 32 = .ok (.iload_n 0, 1) := by decide +kernel
theorem dL_question_33 : decode cL_question 33 = .ok (.iconst 2, 1) := by decide +kernel
theorem dL_question_34 : decode cL_question 34 = .ok (.ishr, 1) := by decide +kernel
theorem dL_question_35 : decode cL_question 35 = .ok (.iconst 3, 1) := by decide +kernel
theorem dL_question_36 : decode cL_question 36 = .ok (.iand, 1) := by decide +kernel
theorem dL_question_37 : decode cL_question 37 = .ok (.istore_n 2, 1) := by decide +kernel
theorem dL_question_38 : decode cL_question 38 = .ok (.iload_n 0, 1) := by decide +kernel
theorem dL_question_39 : decode cL_question 39 = .ok (.bipush 8, 2) := by decide +kernel
theorem dL_question_41 : decode cL_question 41 = .ok (.ishr, 1) := by decide +kernel
theorem dL_question_42 : decode cL_question 42 = .ok (.iconst 1, 1) := by decide +kernel
theorem dL_question_43 : decode cL_question 43 = .ok (.iand, 1) := by decide +kernel
theorem dL_question_44 : decode cL_question 44 = .ok (.ifCond .ne 8, 3) := by decide +kernel
theorem dL_question_47 : decode cL_question 47 = .ok (.bipush 10, 2) := by decide +kernel
theorem dL_question_49 : decode cL_question 49 = .ok (.goto 8, 3) := by decide +kernel
theorem dL_question_52 : decode cL_question 52 = .ok (.iload_n 0, 1) := by decide +kernel
theorem dL_question_53 : decode cL_question 53 = .ok (.iconst 4, 1) := by decide +kernel
theorem dL_question_54 : decode cL_question 54 = .ok (.ishr, 1) := by decide +kernel
theorem dL_question_55 : decode cL_question 55 = .ok (.iconst 3, 1) := by decide +kernel
theorem dL_question_56 : decode cL_question 56 = .ok (.iand, 1) := by decide +kernel
theorem dL_question_57 : decode cL_question 57 = .ok (.istore_n 3, 1) := by decide +kernel
theorem dL_question_58 : decode cL_question 58 = .ok (.bipush 121, 2) := by decide +kernel
theorem dL_question_60 : decode cL_question 60 = .ok (.iload_n 1, 1) := by decide +kernel
theorem dL_question_61 : decode cL_question 61 = .ok (.imul, 1) := by decide +kernel
theorem dL_question_62 : decode cL_question 62 = .ok (.bipush 11, 2) := by decide +kernel
theorem dL_question_64 : decode cL_question 64 = .ok (.iload_n 2, 1) := by decide +kernel
theorem dL_question_65 : decode cL_question 65 = .ok (.imul, 1) := by decide +kernel
theorem dL_question_66 : decode cL_question 66 = .ok (.iadd, 1) := by decide +kernel
theorem dL_question_67 : decode cL_question 67 = .ok (.iload_n 3, 1) := by decide +kernel
theorem dL_question_68 : decode cL_question 68 = .ok (.iadd, 1) := by decide +kernel
theorem dL_question_69 : decode cL_question 69 = .ok (.ireturn, 1) := by decide +kernel
set_option maxRecDepth 20000 in
theorem ggL_does_L_low : GoodIn wsL_does wsL_low := goodIn_r _ [4, 5] (by decide +kernel) (by decide +kernel)
set_option maxRecDepth 20000 in
theorem gL_does_L_low : GoodIn wsL_does (va_wsS RL 8 yL_low wsL_low) := goodIn_app (goodIn_of _ (by decide +kernel)) ggL_does_L_low
set_option maxRecDepth 20000 in
theorem ggL_does_X6_about : GoodIn wsL_does wsX6_about := goodIn_ca (goodIn_r _ [10, 11, 12, 13, 14, 15, 16, 17, 18, 19, 237, 238, 239, 240, 241, 242, 243, 244, 245, 246, 247, 248, 249, 250, 251, 252, 253] (by decide +kernel) (by decide +kernel)) (goodIn_sub (fun _ h => List.mem_cons_of_mem _ (List.mem_append_left _ (List.mem_append_left _ (List.mem_append_right _ h)))) (by decide +kernel))
set_option maxRecDepth 20000 in
theorem gL_does_X6_about : GoodIn wsL_does (wsV RL 14 RX6 yX6_about wsX6_about) := goodIn_app (goodIn_of _ (by decide +kernel)) ggL_does_X6_about
set_option maxRecDepth 20000 in
theorem ggL_does_L_digits : GoodIn wsL_does wsL_digits := goodIn_r _ [22] (by decide +kernel) (by decide +kernel)
set_option maxRecDepth 20000 in
theorem gL_does_L_digits : GoodIn wsL_does (va_wsS RL 20 yL_digits wsL_digits) := goodIn_app (goodIn_of _ (by decide +kernel)) ggL_does_L_digits
set_option maxRecDepth 20000 in
theorem ggL_does_X6_add : GoodIn wsL_does wsX6_add := goodIn_ca (goodIn_ca (goodIn_r _ [26, 27, 28, 13, 29, 30, 31, 9, 32, 11, 12, 33, 34, 35, 17, 36, 19, 37, 38, 39, 40, 41, 42, 43, 44, 45, 46, 47, 48, 49, 50, 51, 52, 53, 54, 55, 56, 57, 58, 59, 60, 61, 62, 63, 64, 65, 66, 67, 68, 69, 70, 71, 72, 73, 74, 75, 76, 77, 78, 79, 80, 81, 82, 83, 84, 85, 86, 87, 88, 15, 16, 18, 237, 238, 239, 240, 241, 242, 243, 244, 245, 246, 247, 248, 249, 250, 251, 252, 253, 254, 255, 256] (by decide +kernel) (by decide +kernel)) (goodIn_sub (fun _ h => List.mem_cons_of_mem _ (List.mem_append_left _ (List.mem_append_right _ h))) (by decide +kernel))) (goodIn_sub (fun _ h => List.mem_cons_of_mem _ (List.mem_append_left _ (List.mem_append_left _ (List.mem_append_right _ h)))) (by decide +kernel))
set_option maxRecDepth 20000 in
theorem gL_does_X6_add : GoodIn wsL_does (wsV RL 23 RX6 yX6_add wsX6_add) := goodIn_app (goodIn_of _ (by decide +kernel)) ggL_does_X6_add
set_option maxRecDepth 20000 in
theorem ggL_does_X6_remove : GoodIn wsL_does wsX6_remove := goodIn_ca (goodIn_r _ [92, 29, 13, 30, 31, 9, 32, 11, 12, 46, 47, 48, 49, 50, 51, 52, 53, 54, 55, 56, 57, 58, 59, 60, 17, 61, 19, 37, 62, 63, 64, 65, 66, 67, 68, 69, 70, 71, 72, 93, 94, 95, 96, 38, 39, 40, 41, 42, 43, 44, 45, 77, 78, 79, 80, 81, 82, 83, 84, 85, 86, 87, 88, 15, 16, 18, 237, 238, 239, 240, 241, 242, 243, 254, 255, 256, 244, 245, 246, 247, 248, 249, 250, 251, 252, 253] (by decide +kernel) (by decide +kernel)) (goodIn_sub (fun _ h => List.mem_cons_of_mem _ (List.mem_append_left _ (List.mem_append_left _ (List.mem_append_right _ h)))) (by decide +kernel))
set_option maxRecDepth 20000 in
theorem gL_does_X6_remove : GoodIn wsL_does (wsV RL 26 RX6 yX6_remove wsX6_remove) := goodIn_app (goodIn_of _ (by decide +kernel)) ggL_does_X6_remove
set_option maxRecDepth 20000 in
theorem ggL_does_X6_build : GoodIn wsL_does wsX6_build := goodIn_ca (goodIn_ca (goodIn_r _ [100, 27, 28, 13, 29, 101, 102, 9, 103, 104, 105, 106, 107, 108, 17, 109, 62, 46, 47, 48, 49, 50, 51, 52, 53, 54, 55, 56, 57, 58, 59, 60, 61, 19, 37, 63, 64, 65, 66, 67, 68, 69, 70, 71, 72, 110, 111, 112, 113, 88, 15, 16, 18, 237, 238, 239, 240, 241, 242, 243, 244, 245, 246, 247, 248, 249, 250, 251, 252, 253, 254, 255, 256] (by decide +kernel) (by decide +kernel)) (goodIn_sub (fun _ h => List.mem_cons_of_mem _ (List.mem_append_left _ (List.mem_append_right _ h))) (by decide +kernel))) (goodIn_sub (fun _ h => List.mem_cons_of_mem _ (List.mem_append_right _ h)) (by decide +kernel))
set_option maxRecDepth 20000 in
theorem gL_does_X6_build : GoodIn wsL_does (wsV RL 29 RX6 yX6_build wsX6_build) := goodIn_app (goodIn_of _ (by decide +kernel)) ggL_does_X6_build
set_option maxRecDepth 20000 in
theorem ggL_does_X6_drop : GoodIn wsL_does wsX6_drop := goodIn_ca (goodIn_ca (goodIn_r _ [117, 27, 28, 13, 29, 101, 102, 9, 103, 104, 105, 106, 107, 108, 17, 109, 62, 46, 47, 48, 49, 50, 51, 52, 53, 54, 55, 56, 57, 58, 59, 60, 61, 19, 37, 63, 64, 65, 66, 67, 68, 69, 70, 71, 72, 118, 119, 120, 121, 81, 82, 83, 84, 85, 86, 87, 237, 238, 239, 240, 241, 242, 243, 244, 245, 246, 247, 248, 249, 250, 251, 252, 253, 254, 255, 256] (by decide +kernel) (by decide +kernel)) (goodIn_sub (fun _ h => List.mem_cons_of_mem _ (List.mem_append_left _ (List.mem_append_right _ h))) (by decide +kernel))) (goodIn_sub (fun _ h => List.mem_cons_of_mem _ (List.mem_append_right _ h)) (by decide +kernel))
set_option maxRecDepth 20000 in
theorem gL_does_X6_drop : GoodIn wsL_does (wsV RL 32 RX6 yX6_drop wsX6_drop) := goodIn_app (goodIn_of _ (by decide +kernel)) ggL_does_X6_drop
set_option maxRecDepth 20000 in
theorem ggL_does_X6_setWeight : GoodIn wsL_does wsX6_setWeight := goodIn_ca (goodIn_r _ [125, 11, 12, 29, 13, 46, 47, 48, 49, 50, 51, 52, 53, 54, 55, 56, 57, 58, 59, 60, 17, 61, 19, 37, 62, 63, 64, 65, 66, 67, 68, 69, 70, 71, 72, 237, 238, 239, 240, 241, 242, 243, 244, 245, 246, 247, 248, 249, 250, 251, 252, 253, 254, 255, 256] (by decide +kernel) (by decide +kernel)) (goodIn_sub (fun _ h => List.mem_cons_of_mem _ (List.mem_append_left _ (List.mem_append_left _ (List.mem_append_right _ h)))) (by decide +kernel))
set_option maxRecDepth 20000 in
theorem gL_does_X6_setWeight : GoodIn wsL_does (wsV RL 35 RX6 yX6_setWeight wsX6_setWeight) := goodIn_app (goodIn_of _ (by decide +kernel)) ggL_does_X6_setWeight
set_option maxRecDepth 20000 in
theorem ggL_does_X6_tidy : GoodIn wsL_does wsX6_tidy := goodIn_r _ [129, 29, 13, 130, 46, 47, 48, 49, 50, 51, 52, 53, 54, 55, 56, 57, 58, 59, 60, 17, 61, 19, 37, 62, 63, 64, 65, 66, 67, 68, 69, 70, 71, 72, 131, 132, 133, 134, 135, 136, 137, 138, 139, 140, 141, 142, 143, 144, 145, 146, 15, 16, 18, 147, 148, 149, 150, 151, 152, 153, 154, 155, 156, 157, 158, 159, 160, 161, 162, 163, 164, 165, 88, 166, 167, 168, 169, 170, 171, 172, 173, 174, 175, 42, 43, 44, 45, 176, 177, 178, 179, 180, 181, 182, 183, 184, 185, 186, 187, 188, 189, 190, 191, 192, 193, 194, 195, 196, 197, 198, 199, 200, 201, 202, 203, 204, 205, 206, 111, 112, 113, 207, 208, 209, 210, 211, 119, 120, 121, 81, 82, 83, 84, 85, 86, 87, 237, 238, 239, 240, 241, 242, 243, 254, 255, 256, 244, 245, 246, 247, 248, 249, 250, 251, 252, 253, 257, 258, 259, 260, 261, 262] (by decide +kernel) (by decide +kernel)
set_option maxRecDepth 20000 in
theorem gL_does_X6_tidy : GoodIn wsL_does (wsV RL 38 RX6 yX6_tidy wsX6_tidy) := goodIn_app (goodIn_of _ (by decide +kernel)) ggL_does_X6_tidy
set_option maxRecDepth 20000 in
theorem ggL_does_L_question : GoodIn wsL_does wsL_question := goodIn_r _ [214] (by decide +kernel) (by decide +kernel)
set_option maxRecDepth 20000 in
theorem gL_does_L_question : GoodIn wsL_does (va_wsS RL 42 yL_question wsL_question) := goodIn_app (goodIn_of _ (by decide +kernel)) ggL_does_L_question
set_option maxRecDepth 20000 in
theorem ggL_does_X6_ask : GoodIn wsL_does wsX6_ask := goodIn_ca (goodIn_r _ [218, 29, 13, 219, 220, 9, 221, 11, 12, 46, 47, 48, 49, 50, 51, 52, 53, 54, 55, 56, 57, 58, 59, 60, 17, 61, 19, 37, 62, 63, 64, 65, 66, 67, 68, 69, 70, 71, 72, 222, 223, 224, 225, 226, 227, 228, 229, 230, 199, 200, 201, 231, 107, 108, 109, 232, 152, 153, 154, 155, 156, 157, 158, 159, 160, 161, 162, 163, 164, 165, 88, 15, 16, 18, 166, 167, 168, 169, 170, 171, 172, 173, 174, 175, 42, 43, 44, 45, 176, 177, 178, 233, 234, 235, 236, 237, 238, 239, 240, 241, 242, 243, 254, 255, 256, 244, 245, 246, 247, 248, 249, 250, 251, 252, 253] (by decide +kernel) (by decide +kernel)) (goodIn_sub (fun _ h => List.mem_cons_of_mem _ (List.mem_append_left _ (List.mem_append_left _ (List.mem_append_right _ h)))) (by decide +kernel))
set_option maxRecDepth 20000 in
theorem gL_does_X6_ask : GoodIn wsL_does (wsV RL 45 RX6 yX6_ask wsX6_ask) := goodIn_app (goodIn_of _ (by decide +kernel)) ggL_does_X6_ask
theorem dL_does_0 : decode cL_does 0 = .ok (.iload_n 1, 1) := by decide +kernel
theorem dL_does_1 : decode cL_does 1 = .ok (.iconst 4, 1) := by decide +kernel
theorem dL_does_2 : decode cL_does 2 = .ok (.ishr, 1) := by decide +kernel
theorem dL_does_3 : decode cL_does 3 = .ok (.bipush 6, 2) := by decide +kernel
theorem dL_does_5 : decode cL_does 5 = .ok (.invokestatic 8, 3) := by decide +kernel
theorem dL_does_8 : decode cL_does 8 = .ok (.istore_n 2, 1) := by decide +kernel
theorem dL_does_9 : decode cL_does 9 = .ok (.iload_n 1, 1) := by decide +kernel
theorem dL_does_10 : decode cL_does 10 = .ok (.bipush 15, 2) := by decide +kernel
theorem dL_does_12 : decode cL_does 12 = .ok (.iand, 1) := by decide +kernel
theorem dL_does_13 : decode cL_does 13 = .ok (.tableswitch 135 0 9 #[55, 55, 55, 55, 55, 80, 91, 91, 117, 130], 55) := by decide +kernel
theorem dL_does_68 : decode cL_does 68 = .ok (.aload_n 0, 1) := by decide +kernel
theorem dL_does_69 : decode cL_does 69 = .ok (.iconst 0, 1) := by decide +kernel
theorem dL_does_70 : decode cL_does 70 = .ok (.invokevirtual 14, 3) := by decide +kernel
theorem dL_does_73 : decode cL_does 73 = .ok (.bipush 40, 2) := by decide +kernel
theorem dL_does_75 : decode cL_does 75 = .ok (.if_icmp .ge 16, 3) := by decide +kernel
theorem dL_does_78 : decode cL_does 78 = .ok (.aload_n 0, 1) := by decide +kernel
theorem dL_does_79 : decode cL_does 79 = .ok (.iload_n 1, 1) := by decide +kernel
theorem dL_does_80 : decode cL_does 80 = .ok (.iconst 4, 1) := by decide +kernel
theorem dL_does_81 : decode cL_does 81 = .ok (.ishr, 1) := by decide +kernel
theorem dL_does_82 : decode cL_does 82 = .ok (.invokestatic 20, 3) := by decide +kernel
theorem dL_does_85 : decode cL_does 85 = .ok (.invokevirtual 23, 3) := by decide +kernel
theorem dL_does_88 : decode cL_does 88 = .ok (.goto 4, 3) := by decide +kernel
theorem dL_does_91 : decode cL_does 91 = .ok (.iconst 0, 1) := by decide +kernel
theorem dL_does_92 : decode cL_does 92 = .ok (.ireturn, 1) := by decide +kernel
theorem dL_does_93 : decode cL_does 93 = .ok (.aload_n 0, 1) := by decide +kernel
theorem dL_does_94 : decode cL_does 94 = .ok (.iload_n 1, 1) := by decide +kernel
theorem dL_does_95 : decode cL_does 95 = .ok (.iconst 4, 1) := by decide +kernel
theorem dL_does_96 : decode cL_does 96 = .ok (.ishr, 1) := by decide +kernel
theorem dL_does_97 : decode cL_does 97 = .ok (.invokestatic 20, 3) := by decide +kernel
theorem dL_does_100 : decode cL_does 100 = .ok (.invokevirtual 26, 3) := by decide +kernel
theorem dL_does_103 : decode cL_does 103 = .ok (.ireturn, 1) := by decide +kernel
theorem dL_does_104 : decode cL_does 104 = .ok (.aload_n 0, 1) := by decide +kernel
theorem dL_does_105 : decode cL_does 105 = .ok (.iconst 1, 1) := by decide +kernel
theorem dL_does_106 : decode cL_does 106 = .ok (.invokevirtual 14, 3) := by decide +kernel
theorem dL_does_109 : decode cL_does 109 = .ok (.iload_n 2, 1) := by decide +kernel
theorem dL_does_110 : decode cL_does 110 = .ok (.ishr, 1) := by decide +kernel
theorem dL_does_111 : decode cL_does 111 = .ok (.iconst 1, 1) := by decide +kernel
theorem dL_does_112 : decode cL_does 112 = .ok (.iand, 1) := by decide +kernel
theorem dL_does_113 : decode cL_does 113 = .ok (.ifCond .ne 11, 3) := by decide +kernel
theorem dL_does_116 : decode cL_does 116 = .ok (.aload_n 0, 1) := by decide +kernel
theorem dL_does_117 : decode cL_does 117 = .ok (.iload_n 2, 1) := by decide +kernel
theorem dL_does_118 : decode cL_does 118 = .ok (.invokevirtual 29, 3) := by decide +kernel
theorem dL_does_121 : decode cL_does 121 = .ok (.goto 8, 3) := by decide +kernel
theorem dL_does_124 : decode cL_does 124 = .ok (.aload_n 0, 1) := by decide +kernel
theorem dL_does_125 : decode cL_does 125 = .ok (.iload_n 2, 1) := by decide +kernel
theorem dL_does_126 : decode cL_does 126 = .ok (.invokevirtual 32, 3) := by decide +kernel
theorem dL_does_129 : decode cL_does 129 = .ok (.ireturn, 1) := by decide +kernel
theorem dL_does_130 : decode cL_does 130 = .ok (.aload_n 0, 1) := by decide +kernel
theorem dL_does_131 : decode cL_does 131 = .ok (.iload_n 1, 1) := by decide +kernel
theorem dL_does_132 : decode cL_does 132 = .ok (.iconst 4, 1) := by decide +kernel
theorem dL_does_133 : decode cL_does 133 = .ok (.ishr, 1) := by decide +kernel
theorem dL_does_134 : decode cL_does 134 = .ok (.bipush 12, 2) := by decide +kernel
theorem dL_does_136 : decode cL_does 136 = .ok (.invokestatic 8, 3) := by decide +kernel
theorem dL_does_139 : decode cL_does 139 = .ok (.invokevirtual 35, 3) := by decide +kernel
theorem dL_does_142 : decode cL_does 142 = .ok (.ireturn, 1) := by decide +kernel
theorem dL_does_143 : decode cL_does 143 = .ok (.aload_n 0, 1) := by decide +kernel
theorem dL_does_144 : decode cL_does 144 = .ok (.invokevirtual 38, 3) := by decide +kernel
theorem dL_does_147 : decode cL_does 147 = .ok (.ireturn, 1) := by decide +kernel
theorem dL_does_148 : decode cL_does 148 = .ok (.aload_n 0, 1) := by decide +kernel
theorem dL_does_149 : decode cL_does 149 = .ok (.iload_n 1, 1) := by decide +kernel
theorem dL_does_150 : decode cL_does 150 = .ok (.iconst 4, 1) := by decide +kernel
theorem dL_does_151 : decode cL_does 151 = .ok (.ishr, 1) := by decide +kernel
theorem dL_does_152 : decode cL_does 152 = .ok (.invokestatic 42, 3) := by decide +kernel
theorem dL_does_155 : decode cL_does 155 = .ok (.invokevirtual 45, 3) := by decide +kernel
theorem dL_does_158 : decode cL_does 158 = .ok (.ireturn, 1) := by decide +kernel
theorem dL_bits_0 : decode cL_bits 0 = .ok (.iconst 0, 1) := by decide +kernel
theorem dL_bits_1 : decode cL_bits 1 = .ok (.istore_n 1, 1) := by decide +kernel
theorem dL_bits_2 : decode cL_bits 2 = .ok (.iconst 0, 1) := by decide +kernel
theorem dL_bits_3 : decode cL_bits 3 = .ok (.istore_n 2, 1) := by decide +kernel
theorem dL_bits_4 : decode cL_bits 4 = .ok (.iload_n 2, 1) := by decide +kernel
theorem dL_bits_5 : decode cL_bits 5 = .ok (.bipush 6, 2) := by decide +kernel
theorem dL_bits_7 : decode cL_bits 7 = .ok (.if_icmp .ge 17, 3) := by decide +kernel
theorem dL_bits_10 : decode cL_bits 10 = .ok (.iload_n 1, 1) := by decide +kernel
theorem dL_bits_11 : decode cL_bits 11 = .ok (.iload_n 0, 1) := by decide +kernel
theorem dL_bits_12 : decode cL_bits 12 = .ok (.iload_n 2, 1) := by decide +kernel
theorem dL_bits_13 : decode cL_bits 13 = .ok (.ishr, 1) := by decide +kernel
theorem dL_bits_14 : decode cL_bits 14 = .ok (.iconst 1, 1) := by decide +kernel
theorem dL_bits_15 : decode cL_bits 15 = .ok (.iand, 1) := by decide +kernel
theorem dL_bits_16 : decode cL_bits 16 = .ok (.iadd, 1) := by decide +kernel
theorem dL_bits_17 : decode cL_bits 17 = .ok (.istore_n 1, 1) := by decide +kernel
theorem dL_bits_18 : decode cL_bits 18 = .ok (.iinc 2 1, 3) := by decide +kernel
theorem dL_bits_21 : decode cL_bits 21 = .ok (.goto (-17), 3) := by decide +kernel
theorem dL_bits_24 : decode cL_bits 24 = .ok (.iload_n 1, 1) := by decide +kernel
theorem dL_bits_25 : decode cL_bits 25 = .ok (.ireturn, 1) := by decide +kernel
set_option maxRecDepth 20000 in
theorem ggL_isAnsweredSo_X6_about : GoodIn wsL_isAnsweredSo wsX6_about := goodIn_ca (goodIn_r _ [5, 6, 7, 8, 9, 10, 11, 12, 13, 14, 120, 121, 122, 123, 124, 125, 126, 127, 128, 129, 130, 131, 132, 133, 134, 135, 136] (by decide +kernel) (by decide +kernel)) (goodIn_sub (fun _ h => List.mem_cons_of_mem _ (List.mem_append_left _ (List.mem_append_right _ h))) (by decide +kernel))
set_option maxRecDepth 20000 in
theorem gL_isAnsweredSo_X6_about : GoodIn wsL_isAnsweredSo (wsV RL 14 RX6 yX6_about wsX6_about) := goodIn_app (goodIn_of _ (by decide +kernel)) ggL_isAnsweredSo_X6_about
set_option maxRecDepth 20000 in
theorem ggL_isAnsweredSo_X6_cost : GoodIn wsL_isAnsweredSo wsX6_cost := goodIn_ca (goodIn_ca (goodIn_r _ [18, 8, 19, 20, 4, 21, 6, 7, 22, 23, 24, 25, 26, 27, 28, 29, 30, 31, 32, 12, 33, 14, 34, 35, 36, 37, 38, 39, 40, 41, 42, 43, 44, 45, 46, 47, 48, 49, 50, 51, 52, 53, 54, 55, 56, 57, 58, 10, 11, 13, 59, 60, 61, 62, 63, 64, 65, 66, 67, 68, 69, 70, 71, 72, 73, 74, 75, 76, 77, 120, 121, 122, 123, 124, 125, 126, 127, 128, 129, 130, 131, 132, 133, 134, 135, 136] (by decide +kernel) (by decide +kernel)) (goodIn_sub (fun _ h => List.mem_cons_of_mem _ (List.mem_append_left _ (List.mem_append_right _ h))) (by decide +kernel))) (goodIn_sub (fun _ h => List.mem_cons_of_mem _ (List.mem_append_right _ h)) (by decide +kernel))
set_option maxRecDepth 20000 in
theorem gL_isAnsweredSo_X6_cost : GoodIn wsL_isAnsweredSo (wsV RL 48 RX6 yX6_cost wsX6_cost) := goodIn_app (goodIn_of _ (by decide +kernel)) ggL_isAnsweredSo_X6_cost
set_option maxRecDepth 20000 in
theorem ggL_isAnsweredSo_X6_count : GoodIn wsL_isAnsweredSo wsX6_count := goodIn_ca (goodIn_r _ [81, 8, 19, 20, 4, 21, 6, 7, 82, 66, 67, 12, 68, 14, 69, 70, 71, 72, 73, 74, 75, 76, 120, 121, 122, 123, 124, 125, 126, 127, 128, 129, 130, 131, 132, 133, 134, 135, 136] (by decide +kernel) (by decide +kernel)) (goodIn_sub (fun _ h => List.mem_cons_of_mem _ (List.mem_append_left _ (List.mem_append_right _ h))) (by decide +kernel))
set_option maxRecDepth 20000 in
theorem gL_isAnsweredSo_X6_count : GoodIn wsL_isAnsweredSo (wsV RL 51 RX6 yX6_count wsX6_count) := goodIn_app (goodIn_of _ (by decide +kernel)) ggL_isAnsweredSo_X6_count
set_option maxRecDepth 20000 in
theorem ggL_isAnsweredSo_X6_by : GoodIn wsL_isAnsweredSo wsX6_by := goodIn_ca (goodIn_r _ [86, 8, 19, 20, 4, 21, 6, 7, 87, 88, 89, 12, 90, 14, 38, 39, 40, 41, 42, 43, 44, 45, 46, 47, 48, 49, 50, 51, 52, 53, 54, 55, 56, 57, 58, 10, 11, 13, 59, 60, 61, 62, 63, 64, 65, 66, 67, 68, 69, 70, 71, 72, 73, 74, 75, 76, 120, 121, 122, 123, 124, 125, 126, 127, 128, 129, 130, 131, 132, 133, 134, 135, 136] (by decide +kernel) (by decide +kernel)) (goodIn_sub (fun _ h => List.mem_cons_of_mem _ (List.mem_append_left _ (List.mem_append_right _ h))) (by decide +kernel))
set_option maxRecDepth 20000 in
theorem gL_isAnsweredSo_X6_by : GoodIn wsL_isAnsweredSo (wsV RL 54 RX6 yX6_by wsX6_by) := goodIn_app (goodIn_of _ (by decide +kernel)) ggL_isAnsweredSo_X6_by
set_option maxRecDepth 20000 in
theorem ggL_isAnsweredSo_X6_answer : GoodIn wsL_isAnsweredSo wsX6_answer := goodIn_ca (goodIn_r _ [94, 8, 19, 20, 4, 21, 6, 7, 95, 96, 97, 87, 88, 89, 12, 90, 14, 38, 39, 40, 41, 42, 43, 44, 45, 46, 47, 48, 49, 50, 51, 52, 53, 54, 55, 56, 57, 58, 10, 11, 13, 59, 60, 61, 62, 63, 64, 65, 66, 67, 68, 69, 70, 71, 72, 73, 74, 75, 76, 98, 99, 100, 101, 102, 103, 104, 105, 106, 107, 108, 109, 110, 111, 112, 113, 114, 115, 120, 121, 122, 123, 124, 125, 126, 127, 128, 129, 130, 131, 132, 133, 134, 135, 136] (by decide +kernel) (by decide +kernel)) (goodIn_sub (fun _ h => List.mem_cons_of_mem _ (List.mem_append_left _ (List.mem_append_right _ h))) (by decide +kernel))
set_option maxRecDepth 20000 in
theorem gL_isAnsweredSo_X6_answer : GoodIn wsL_isAnsweredSo (wsV RL 57 RX6 yX6_answer wsX6_answer) := goodIn_app (goodIn_of _ (by decide +kernel)) ggL_isAnsweredSo_X6_answer
set_option maxRecDepth 20000 in
theorem ggL_isAnsweredSo_X6_triple : GoodIn wsL_isAnsweredSo wsX6_triple := goodIn_ca (goodIn_ca (goodIn_r _ [119, 8, 22, 23, 4, 24, 25, 26, 27, 28, 29, 95, 96, 97, 6, 7, 98, 99, 100, 12, 101, 14, 69, 70, 71, 72, 73, 74, 75, 76, 102, 103, 104, 105, 106, 107, 108, 109, 110, 111, 49, 112, 51, 52, 53, 54, 113, 114, 115, 120, 121, 122, 123, 124, 125, 126, 127, 128, 129, 130, 131, 132, 133, 134, 135, 136] (by decide +kernel) (by decide +kernel)) (goodIn_sub (fun _ h => List.mem_cons_of_mem _ (List.mem_append_right _ h)) (by decide +kernel))) (goodIn_sub (fun _ h => List.mem_cons_of_mem _ (List.mem_append_left _ (List.mem_append_right _ h))) (by decide +kernel))
set_option maxRecDepth 20000 in
theorem gL_isAnsweredSo_X6_triple : GoodIn wsL_isAnsweredSo (wsV RL 60 RX6 yX6_triple wsX6_triple) := goodIn_app (goodIn_of _ (by decide +kernel)) ggL_isAnsweredSo_X6_triple
theorem dL_isAnsweredSo_0 : decode cL_isAnsweredSo 0 = .ok (.aload_n 0, 1) := by decide +kernel
theorem dL_isAnsweredSo_1 : decode cL_isAnsweredSo 1 = .ok (.iconst 0, 1) := by decide +kernel
theorem dL_isAnsweredSo_2 : decode cL_isAnsweredSo 2 = .ok (.invokevirtual 14, 3) := by decide +kernel
theorem dL_isAnsweredSo_5 : decode cL_isAnsweredSo 5 = .ok (.istore_n 2, 1) := by decide +kernel
theorem dL_isAnsweredSo_6 : decode cL_isAnsweredSo 6 = .ok (.iload_n 2, 1) := by decide +kernel
theorem dL_isAnsweredSo_7 : decode cL_isAnsweredSo 7 = .ok (.istore_n 3, 1) := by decide +kernel
theorem dL_isAnsweredSo_8 : decode cL_isAnsweredSo 8 = .ok (.iconst (-1), 1) := by decide +kernel
theorem dL_isAnsweredSo_9 : decode cL_isAnsweredSo 9 = .ok (.istore 4, 2) := by decide +kernel
theorem dL_isAnsweredSo_11 : decode cL_isAnsweredSo 11 = .ok (.iconst 0, 1) := by decide +kernel
theorem dL_isAnsweredSo_12 : decode cL_isAnsweredSo 12 = .ok (.istore 5, 2) := by decide +kernel
theorem dL_isAnsweredSo_14 : decode cL_isAnsweredSo 14 = .ok (.iload 5, 2) := by decide +kernel
theorem dL_isAnsweredSo_16 : decode cL_isAnsweredSo 16 = .ok (.bipush 6, 2) := by decide +kernel
theorem dL_isAnsweredSo_18 : decode cL_isAnsweredSo 18 = .ok (.if_icmp .ge 71, 3) := by decide +kernel
theorem dL_isAnsweredSo_21 : decode cL_isAnsweredSo 21 = .ok (.aload_n 0, 1) := by decide +kernel
theorem dL_isAnsweredSo_22 : decode cL_isAnsweredSo 22 = .ok (.iload_n 1, 1) := by decide +kernel
theorem dL_isAnsweredSo_23 : decode cL_isAnsweredSo 23 = .ok (.iload 5, 2) := by decide +kernel
theorem dL_isAnsweredSo_25 : decode cL_isAnsweredSo 25 = .ok (.invokevirtual 48, 3) := by decide +kernel
theorem dL_isAnsweredSo_28 : decode cL_isAnsweredSo 28 = .ok (.istore 6, 2) := by decide +kernel
theorem dL_isAnsweredSo_30 : decode cL_isAnsweredSo 30 = .ok (.aload_n 0, 1) := by decide +kernel
theorem dL_isAnsweredSo_31 : decode cL_isAnsweredSo 31 = .ok (.iconst 1, 1) := by decide +kernel
theorem dL_isAnsweredSo_32 : decode cL_isAnsweredSo 32 = .ok (.invokevirtual 14, 3) := by decide +kernel
theorem dL_isAnsweredSo_35 : decode cL_isAnsweredSo 35 = .ok (.iload 5, 2) := by decide +kernel
theorem dL_isAnsweredSo_37 : decode cL_isAnsweredSo 37 = .ok (.ishr, 1) := by decide +kernel
theorem dL_isAnsweredSo_38 : decode cL_isAnsweredSo 38 = .ok (.iconst 1, 1) := by decide +kernel
theorem dL_isAnsweredSo_39 : decode cL_isAnsweredSo 39 = .ok (.iand, 1) := by decide +kernel
theorem dL_isAnsweredSo_40 : decode cL_isAnsweredSo 40 = .ok (.iconst 1, 1) := by decide +kernel
theorem dL_isAnsweredSo_41 : decode cL_isAnsweredSo 41 = .ok (.if_icmp .ne 13, 3) := by decide +kernel
theorem dL_isAnsweredSo_44 : decode cL_isAnsweredSo 44 = .ok (.iload 6, 2) := by decide +kernel
theorem dL_isAnsweredSo_46 : decode cL_isAnsweredSo 46 = .ok (.iload_n 3, 1) := by decide +kernel
theorem dL_isAnsweredSo_47 : decode cL_isAnsweredSo 47 = .ok (.if_icmp .ge 7, 3) := by decide +kernel
theorem dL_isAnsweredSo_50 : decode cL_isAnsweredSo 50 = .ok (.iconst 1, 1) := by decide +kernel
theorem dL_isAnsweredSo_51 : decode cL_isAnsweredSo 51 = .ok (.goto 4, 3) := by decide +kernel
theorem dL_isAnsweredSo_54 : decode cL_isAnsweredSo 54 = .ok (.iconst 0, 1) := by decide +kernel
theorem dL_isAnsweredSo_55 : decode cL_isAnsweredSo 55 = .ok (.istore 7, 2) := by decide +kernel
theorem dL_isAnsweredSo_57 : decode cL_isAnsweredSo 57 = .ok (.iload 7, 2) := by decide +kernel
theorem dL_isAnsweredSo_59 : decode cL_isAnsweredSo 59 = .ok (.ifCond .eq 8, 3) := by decide +kernel
theorem dL_isAnsweredSo_62 : decode cL_isAnsweredSo 62 = .ok (.iload 5, 2) := by decide +kernel
theorem dL_isAnsweredSo_64 : decode cL_isAnsweredSo 64 = .ok (.goto 5, 3) := by decide +kernel
theorem dL_isAnsweredSo_67 : decode cL_isAnsweredSo 67 = .ok (.iload 4, 2) := by decide +kernel
theorem dL_isAnsweredSo_69 : decode cL_isAnsweredSo 69 = .ok (.istore 4, 2) := by decide +kernel
theorem dL_isAnsweredSo_71 : decode cL_isAnsweredSo 71 = .ok (.iload 7, 2) := by decide +kernel
theorem dL_isAnsweredSo_73 : decode cL_isAnsweredSo 73 = .ok (.ifCond .eq 8, 3) := by decide +kernel
theorem dL_isAnsweredSo_76 : decode cL_isAnsweredSo 76 = .ok (.iload 6, 2) := by decide +kernel
theorem dL_isAnsweredSo_78 : decode cL_isAnsweredSo 78 = .ok (.goto 4, 3) := by decide +kernel
theorem dL_isAnsweredSo_81 : decode cL_isAnsweredSo 81 = .ok (.iload_n 3, 1) := by decide +kernel
theorem dL_isAnsweredSo_82 : decode cL_isAnsweredSo 82 = .ok (.istore_n 3, 1) := by decide +kernel
theorem dL_isAnsweredSo_83 : decode cL_isAnsweredSo 83 = .ok (.iinc 5 1, 3) := by decide +kernel
theorem dL_isAnsweredSo_86 : decode cL_isAnsweredSo 86 = .ok (.goto (-72), 3) := by decide +kernel
theorem dL_isAnsweredSo_89 : decode cL_isAnsweredSo 89 = .ok (.aload_n 0, 1) := by decide +kernel
theorem dL_isAnsweredSo_90 : decode cL_isAnsweredSo 90 = .ok (.iload_n 1, 1) := by decide +kernel
theorem dL_isAnsweredSo_91 : decode cL_isAnsweredSo 91 = .ok (.invokevirtual 51, 3) := by decide +kernel
theorem dL_isAnsweredSo_94 : decode cL_isAnsweredSo 94 = .ok (.istore 5, 2) := by decide +kernel
theorem dL_isAnsweredSo_96 : decode cL_isAnsweredSo 96 = .ok (.aload_n 0, 1) := by decide +kernel
theorem dL_isAnsweredSo_97 : decode cL_isAnsweredSo 97 = .ok (.iload_n 1, 1) := by decide +kernel
theorem dL_isAnsweredSo_98 : decode cL_isAnsweredSo 98 = .ok (.iconst (-1), 1) := by decide +kernel
theorem dL_isAnsweredSo_99 : decode cL_isAnsweredSo 99 = .ok (.invokevirtual 48, 3) := by decide +kernel
theorem dL_isAnsweredSo_102 : decode cL_isAnsweredSo 102 = .ok (.iload_n 3, 1) := by decide +kernel
theorem dL_isAnsweredSo_103 : decode cL_isAnsweredSo 103 = .ok (.if_icmp .ne 24, 3) := by decide +kernel
theorem dL_isAnsweredSo_106 : decode cL_isAnsweredSo 106 = .ok (.aload_n 0, 1) := by decide +kernel
theorem dL_isAnsweredSo_107 : decode cL_isAnsweredSo 107 = .ok (.iload_n 1, 1) := by decide +kernel
theorem dL_isAnsweredSo_108 : decode cL_isAnsweredSo 108 = .ok (.invokevirtual 54, 3) := by decide +kernel
theorem dL_isAnsweredSo_111 : decode cL_isAnsweredSo 111 = .ok (.iload 4, 2) := by decide +kernel
theorem dL_isAnsweredSo_113 : decode cL_isAnsweredSo 113 = .ok (.if_icmp .ne 14, 3) := by decide +kernel
theorem dL_isAnsweredSo_116 : decode cL_isAnsweredSo 116 = .ok (.aload_n 0, 1) := by decide +kernel
theorem dL_isAnsweredSo_117 : decode cL_isAnsweredSo 117 = .ok (.iload_n 1, 1) := by decide +kernel
theorem dL_isAnsweredSo_118 : decode cL_isAnsweredSo 118 = .ok (.iload 5, 2) := by decide +kernel
theorem dL_isAnsweredSo_120 : decode cL_isAnsweredSo 120 = .ok (.invokevirtual 57, 3) := by decide +kernel
theorem dL_isAnsweredSo_123 : decode cL_isAnsweredSo 123 = .ok (.iconst (-1), 1) := by decide +kernel
theorem dL_isAnsweredSo_124 : decode cL_isAnsweredSo 124 = .ok (.if_icmp .eq 5, 3) := by decide +kernel
theorem dL_isAnsweredSo_127 : decode cL_isAnsweredSo 127 = .ok (.iconst 0, 1) := by decide +kernel
theorem dL_isAnsweredSo_128 : decode cL_isAnsweredSo 128 = .ok (.ireturn, 1) := by decide +kernel
theorem dL_isAnsweredSo_129 : decode cL_isAnsweredSo 129 = .ok (.iconst 0, 1) := by decide +kernel
theorem dL_isAnsweredSo_130 : decode cL_isAnsweredSo 130 = .ok (.istore 6, 2) := by decide +kernel
theorem dL_isAnsweredSo_132 : decode cL_isAnsweredSo 132 = .ok (.iconst 0, 1) := by decide +kernel
theorem dL_isAnsweredSo_133 : decode cL_isAnsweredSo 133 = .ok (.istore 7, 2) := by decide +kernel
theorem dL_isAnsweredSo_135 : decode cL_isAnsweredSo 135 = .ok (.iload 7, 2) := by decide +kernel
theorem dL_isAnsweredSo_137 : decode cL_isAnsweredSo 137 = .ok (.iload 5, 2) := by decide +kernel
theorem dL_isAnsweredSo_139 : decode cL_isAnsweredSo 139 = .ok (.if_icmp .ge 56, 3) := by decide +kernel
theorem dL_isAnsweredSo_142 : decode cL_isAnsweredSo 142 = .ok (.aload_n 0, 1) := by decide +kernel
theorem dL_isAnsweredSo_143 : decode cL_isAnsweredSo 143 = .ok (.iload_n 1, 1) := by decide +kernel
theorem dL_isAnsweredSo_144 : decode cL_isAnsweredSo 144 = .ok (.iload 7, 2) := by decide +kernel
theorem dL_isAnsweredSo_146 : decode cL_isAnsweredSo 146 = .ok (.invokevirtual 57, 3) := by decide +kernel
theorem dL_isAnsweredSo_149 : decode cL_isAnsweredSo 149 = .ok (.istore 8, 2) := by decide +kernel
theorem dL_isAnsweredSo_151 : decode cL_isAnsweredSo 151 = .ok (.iload 6, 2) := by decide +kernel
theorem dL_isAnsweredSo_153 : decode cL_isAnsweredSo 153 = .ok (.iload_n 2, 1) := by decide +kernel
theorem dL_isAnsweredSo_154 : decode cL_isAnsweredSo 154 = .ok (.if_icmp .ge 22, 3) := by decide +kernel
theorem dL_isAnsweredSo_157 : decode cL_isAnsweredSo 157 = .ok (.aload_n 0, 1) := by decide +kernel
theorem dL_isAnsweredSo_158 : decode cL_isAnsweredSo 158 = .ok (.iload 4, 2) := by decide +kernel
theorem dL_isAnsweredSo_160 : decode cL_isAnsweredSo 160 = .ok (.iload 6, 2) := by decide +kernel
theorem dL_isAnsweredSo_162 : decode cL_isAnsweredSo 162 = .ok (.invokevirtual 60, 3) := by decide +kernel
theorem dL_isAnsweredSo_165 : decode cL_isAnsweredSo 165 = .ok (.iload 8, 2) := by decide +kernel
theorem dL_isAnsweredSo_167 : decode cL_isAnsweredSo 167 = .ok (.if_icmp .eq 9, 3) := by decide +kernel
theorem dL_isAnsweredSo_170 : decode cL_isAnsweredSo 170 = .ok (.iinc 6 1, 3) := by decide +kernel
theorem dL_isAnsweredSo_173 : decode cL_isAnsweredSo 173 = .ok (.goto (-22), 3) := by decide +kernel
theorem dL_isAnsweredSo_176 : decode cL_isAnsweredSo 176 = .ok (.iload 8, 2) := by decide +kernel
theorem dL_isAnsweredSo_178 : decode cL_isAnsweredSo 178 = .ok (.ifCond .lt 9, 3) := by decide +kernel
theorem dL_isAnsweredSo_181 : decode cL_isAnsweredSo 181 = .ok (.iload 6, 2) := by decide +kernel
theorem dL_isAnsweredSo_183 : decode cL_isAnsweredSo 183 = .ok (.iload_n 2, 1) := by decide +kernel
theorem dL_isAnsweredSo_184 : decode cL_isAnsweredSo 184 = .ok (.if_icmp .ne 5, 3) := by decide +kernel
theorem dL_isAnsweredSo_187 : decode cL_isAnsweredSo 187 = .ok (.iconst 0, 1) := by decide +kernel
theorem dL_isAnsweredSo_188 : decode cL_isAnsweredSo 188 = .ok (.ireturn, 1) := by decide +kernel
theorem dL_isAnsweredSo_189 : decode cL_isAnsweredSo 189 = .ok (.iinc 7 1, 3) := by decide +kernel
theorem dL_isAnsweredSo_192 : decode cL_isAnsweredSo 192 = .ok (.goto (-57), 3) := by decide +kernel
theorem dL_isAnsweredSo_195 : decode cL_isAnsweredSo 195 = .ok (.iconst 1, 1) := by decide +kernel
theorem dL_isAnsweredSo_196 : decode cL_isAnsweredSo 196 = .ok (.ireturn, 1) := by decide +kernel
set_option maxRecDepth 20000 in
theorem ggL_isEnough_X6_about : GoodIn wsL_isEnough wsX6_about := goodIn_ca (goodIn_r _ [5, 6, 7, 8, 9, 10, 11, 12, 13, 14, 51, 52, 53, 54, 55, 56, 57, 58, 59, 60, 61, 62, 63, 64, 65, 66, 67] (by decide +kernel) (by decide +kernel)) (goodIn_sub (fun _ h => List.mem_cons_of_mem _ (List.mem_append_left _ (List.mem_append_right _ h))) (by decide +kernel))
set_option maxRecDepth 20000 in
theorem gL_isEnough_X6_about : GoodIn wsL_isEnough (wsV RL 14 RX6 yX6_about wsX6_about) := goodIn_app (goodIn_of _ (by decide +kernel)) ggL_isEnough_X6_about
set_option maxRecDepth 20000 in
theorem ggL_isEnough_X6_remembered : GoodIn wsL_isEnough wsX6_remembered := goodIn_ca (goodIn_r _ [18, 8, 19, 20, 4, 21, 6, 7, 22, 23, 24, 12, 25, 26, 27, 51, 52, 53, 54, 55, 56, 57, 58, 59, 60, 61, 62, 63, 64, 65, 66, 67] (by decide +kernel) (by decide +kernel)) (goodIn_sub (fun _ h => List.mem_cons_of_mem _ (List.mem_append_left _ (List.mem_append_right _ h))) (by decide +kernel))
set_option maxRecDepth 20000 in
theorem gL_isEnough_X6_remembered : GoodIn wsL_isEnough (wsV RL 63 RX6 yX6_remembered wsX6_remembered) := goodIn_app (goodIn_of _ (by decide +kernel)) ggL_isEnough_X6_remembered
set_option maxRecDepth 20000 in
theorem ggL_isEnough_X6_reach : GoodIn wsL_isEnough wsX6_reach := goodIn_ca (goodIn_ca (goodIn_r _ [31, 32, 33, 4, 34, 6, 7, 35, 36, 37, 38, 39, 40, 41, 42, 43, 44, 45, 46, 47, 48, 49, 50] (by decide +kernel) (by decide +kernel)) (goodIn_sub (fun _ h => List.mem_cons_of_mem _ (List.mem_append_left _ (List.mem_append_right _ h))) (by decide +kernel))) (goodIn_sub (fun _ h => List.mem_cons_of_mem _ (List.mem_append_right _ h)) (by decide +kernel))
set_option maxRecDepth 20000 in
theorem gL_isEnough_X6_reach : GoodIn wsL_isEnough (wsV RL 66 RX6 yX6_reach wsX6_reach) := goodIn_app (goodIn_of _ (by decide +kernel)) ggL_isEnough_X6_reach
theorem dL_isEnough_0 : decode cL_isEnough 0 = .ok (.iconst 1, 1) := by decide +kernel
theorem dL_isEnough_1 : decode cL_isEnough 1 = .ok (.istore_n 2, 1) := by decide +kernel
theorem dL_isEnough_2 : decode cL_isEnough 2 = .ok (.iconst 0, 1) := by decide +kernel
theorem dL_isEnough_3 : decode cL_isEnough 3 = .ok (.istore_n 3, 1) := by decide +kernel
theorem dL_isEnough_4 : decode cL_isEnough 4 = .ok (.iload_n 3, 1) := by decide +kernel
theorem dL_isEnough_5 : decode cL_isEnough 5 = .ok (.aload_n 0, 1) := by decide +kernel
theorem dL_isEnough_6 : decode cL_isEnough 6 = .ok (.bipush 6, 2) := by decide +kernel
theorem dL_isEnough_8 : decode cL_isEnough 8 = .ok (.invokevirtual 14, 3) := by decide +kernel
theorem dL_isEnough_11 : decode cL_isEnough 11 = .ok (.if_icmp .ge 137, 3) := by decide +kernel
theorem dL_isEnough_14 : decode cL_isEnough 14 = .ok (.aload_n 0, 1) := by decide +kernel
theorem dL_isEnough_15 : decode cL_isEnough 15 = .ok (.iload_n 3, 1) := by decide +kernel
theorem dL_isEnough_16 : decode cL_isEnough 16 = .ok (.invokevirtual 63, 3) := by decide +kernel
theorem dL_isEnough_19 : decode cL_isEnough 19 = .ok (.istore 4, 2) := by decide +kernel
theorem dL_isEnough_21 : decode cL_isEnough 21 = .ok (.iload 4, 2) := by decide +kernel
theorem dL_isEnough_23 : decode cL_isEnough 23 = .ok (.bipush 121, 2) := by decide +kernel
theorem dL_isEnough_25 : decode cL_isEnough 25 = .ok (.idiv, 1) := by decide +kernel
theorem dL_isEnough_26 : decode cL_isEnough 26 = .ok (.bipush 10, 2) := by decide +kernel
theorem dL_isEnough_28 : decode cL_isEnough 28 = .ok (.if_icmp .ge 7, 3) := by decide +kernel
theorem dL_isEnough_31 : decode cL_isEnough 31 = .ok (.iconst 1, 1) := by decide +kernel
theorem dL_isEnough_32 : decode cL_isEnough 32 = .ok (.goto 4, 3) := by decide +kernel
theorem dL_isEnough_35 : decode cL_isEnough 35 = .ok (.iconst 0, 1) := by decide +kernel
theorem dL_isEnough_36 : decode cL_isEnough 36 = .ok (.iload 4, 2) := by decide +kernel
theorem dL_isEnough_38 : decode cL_isEnough 38 = .ok (.bipush 11, 2) := by decide +kernel
theorem dL_isEnough_40 : decode cL_isEnough 40 = .ok (.idiv, 1) := by decide +kernel
theorem dL_isEnough_41 : decode cL_isEnough 41 = .ok (.bipush 11, 2) := by decide +kernel
theorem dL_isEnough_43 : decode cL_isEnough 43 = .ok (.irem, 1) := by decide +kernel
theorem dL_isEnough_44 : decode cL_isEnough 44 = .ok (.bipush 10, 2) := by decide +kernel
theorem dL_isEnough_46 : decode cL_isEnough 46 = .ok (.if_icmp .ge 7, 3) := by decide +kernel
theorem dL_isEnough_49 : decode cL_isEnough 49 = .ok (.iconst 1, 1) := by decide +kernel
theorem dL_isEnough_50 : decode cL_isEnough 50 = .ok (.goto 4, 3) := by decide +kernel
theorem dL_isEnough_53 : decode cL_isEnough 53 = .ok (.iconst 0, 1) := by decide +kernel
theorem dL_isEnough_54 : decode cL_isEnough 54 = .ok (.iadd, 1) := by decide +kernel
theorem dL_isEnough_55 : decode cL_isEnough 55 = .ok (.iload 4, 2) := by decide +kernel
theorem dL_isEnough_57 : decode cL_isEnough 57 = .ok (.bipush 11, 2) := by decide +kernel
theorem dL_isEnough_59 : decode cL_isEnough 59 = .ok (.irem, 1) := by decide +kernel
theorem dL_isEnough_60 : decode cL_isEnough 60 = .ok (.bipush 10, 2) := by decide +kernel
theorem dL_isEnough_62 : decode cL_isEnough 62 = .ok (.if_icmp .ge 7, 3) := by decide +kernel
theorem dL_isEnough_65 : decode cL_isEnough 65 = .ok (.iconst 1, 1) := by decide +kernel
theorem dL_isEnough_66 : decode cL_isEnough 66 = .ok (.goto 4, 3) := by decide +kernel
theorem dL_isEnough_69 : decode cL_isEnough 69 = .ok (.iconst 0, 1) := by decide +kernel
theorem dL_isEnough_70 : decode cL_isEnough 70 = .ok (.iadd, 1) := by decide +kernel
theorem dL_isEnough_71 : decode cL_isEnough 71 = .ok (.istore 5, 2) := by decide +kernel
theorem dL_isEnough_73 : decode cL_isEnough 73 = .ok (.iconst 0, 1) := by decide +kernel
theorem dL_isEnough_74 : decode cL_isEnough 74 = .ok (.istore 6, 2) := by decide +kernel
theorem dL_isEnough_76 : decode cL_isEnough 76 = .ok (.iconst 0, 1) := by decide +kernel
theorem dL_isEnough_77 : decode cL_isEnough 77 = .ok (.istore 7, 2) := by decide +kernel
theorem dL_isEnough_79 : decode cL_isEnough 79 = .ok (.iload 7, 2) := by decide +kernel
theorem dL_isEnough_81 : decode cL_isEnough 81 = .ok (.bipush 6, 2) := by decide +kernel
theorem dL_isEnough_83 : decode cL_isEnough 83 = .ok (.if_icmp .ge 44, 3) := by decide +kernel
theorem dL_isEnough_86 : decode cL_isEnough 86 = .ok (.iload 6, 2) := by decide +kernel
theorem dL_isEnough_88 : decode cL_isEnough 88 = .ok (.ifCond .ne 26, 3) := by decide +kernel
theorem dL_isEnough_91 : decode cL_isEnough 91 = .ok (.iload_n 1, 1) := by decide +kernel
theorem dL_isEnough_92 : decode cL_isEnough 92 = .ok (.iload 7, 2) := by decide +kernel
theorem dL_isEnough_94 : decode cL_isEnough 94 = .ok (.ishr, 1) := by decide +kernel
theorem dL_isEnough_95 : decode cL_isEnough 95 = .ok (.iconst 1, 1) := by decide +kernel
theorem dL_isEnough_96 : decode cL_isEnough 96 = .ok (.iand, 1) := by decide +kernel
theorem dL_isEnough_97 : decode cL_isEnough 97 = .ok (.iconst 1, 1) := by decide +kernel
theorem dL_isEnough_98 : decode cL_isEnough 98 = .ok (.if_icmp .ne 20, 3) := by decide +kernel
theorem dL_isEnough_101 : decode cL_isEnough 101 = .ok (.aload_n 0, 1) := by decide +kernel
theorem dL_isEnough_102 : decode cL_isEnough 102 = .ok (.iload 4, 2) := by decide +kernel
theorem dL_isEnough_104 : decode cL_isEnough 104 = .ok (.iload 7, 2) := by decide +kernel
theorem dL_isEnough_106 : decode cL_isEnough 106 = .ok (.invokevirtual 66, 3) := by decide +kernel
theorem dL_isEnough_109 : decode cL_isEnough 109 = .ok (.iload 5, 2) := by decide +kernel
theorem dL_isEnough_111 : decode cL_isEnough 111 = .ok (.if_icmp .ne 7, 3) := by decide +kernel
theorem dL_isEnough_114 : decode cL_isEnough 114 = .ok (.iconst 1, 1) := by decide +kernel
theorem dL_isEnough_115 : decode cL_isEnough 115 = .ok (.goto 4, 3) := by decide +kernel
theorem dL_isEnough_118 : decode cL_isEnough 118 = .ok (.iconst 0, 1) := by decide +kernel
theorem dL_isEnough_119 : decode cL_isEnough 119 = .ok (.istore 6, 2) := by decide +kernel
theorem dL_isEnough_121 : decode cL_isEnough 121 = .ok (.iinc 7 1, 3) := by decide +kernel
theorem dL_isEnough_124 : decode cL_isEnough 124 = .ok (.goto (-45), 3) := by decide +kernel
theorem dL_isEnough_127 : decode cL_isEnough 127 = .ok (.iload_n 2, 1) := by decide +kernel
theorem dL_isEnough_128 : decode cL_isEnough 128 = .ok (.ifCond .eq 12, 3) := by decide +kernel
theorem dL_isEnough_131 : decode cL_isEnough 131 = .ok (.iload 6, 2) := by decide +kernel
theorem dL_isEnough_133 : decode cL_isEnough 133 = .ok (.ifCond .eq 7, 3) := by decide +kernel
theorem dL_isEnough_136 : decode cL_isEnough 136 = .ok (.iconst 1, 1) := by decide +kernel
theorem dL_isEnough_137 : decode cL_isEnough 137 = .ok (.goto 4, 3) := by decide +kernel
theorem dL_isEnough_140 : decode cL_isEnough 140 = .ok (.iconst 0, 1) := by decide +kernel
theorem dL_isEnough_141 : decode cL_isEnough 141 = .ok (.istore_n 2, 1) := by decide +kernel
theorem dL_isEnough_142 : decode cL_isEnough 142 = .ok (.iinc 3 1, 3) := by decide +kernel
theorem dL_isEnough_145 : decode cL_isEnough 145 = .ok (.goto (-141), 3) := by decide +kernel
theorem dL_isEnough_148 : decode cL_isEnough 148 = .ok (.iload_n 2, 1) := by decide +kernel
theorem dL_isEnough_149 : decode cL_isEnough 149 = .ok (.ireturn, 1) := by decide +kernel
set_option maxRecDepth 20000 in
theorem ggL_isAdviceSo_X6_about : GoodIn wsL_isAdviceSo wsX6_about := goodIn_ca (goodIn_r _ [5, 6, 7, 8, 9, 10, 11, 12, 13, 14, 176, 177, 178, 179, 180, 181, 182, 183, 184, 185, 186, 187, 188, 189, 190, 191, 192] (by decide +kernel) (by decide +kernel)) (goodIn_sub (fun _ h => List.mem_cons_of_mem _ (List.mem_append_left _ (List.mem_append_right _ h))) (by decide +kernel))
set_option maxRecDepth 20000 in
theorem gL_isAdviceSo_X6_about : GoodIn wsL_isAdviceSo (wsV RL 14 RX6 yX6_about wsX6_about) := goodIn_app (goodIn_of _ (by decide +kernel)) ggL_isAdviceSo_X6_about
set_option maxRecDepth 20000 in
theorem ggL_isAdviceSo_X6_weight : GoodIn wsL_isAdviceSo wsX6_weight := goodIn_r _ [18, 8, 176, 177, 178, 179, 180, 181, 182, 183, 184, 185, 186, 187, 188, 189, 190, 191, 192] (by decide +kernel) (by decide +kernel)
set_option maxRecDepth 20000 in
theorem gL_isAdviceSo_X6_weight : GoodIn wsL_isAdviceSo (wsV RL 69 RX6 yX6_weight wsX6_weight) := goodIn_app (goodIn_of _ (by decide +kernel)) ggL_isAdviceSo_X6_weight
set_option maxRecDepth 20000 in
theorem ggL_isAdviceSo_X6_advised : GoodIn wsL_isAdviceSo wsX6_advised := goodIn_r _ [22, 23, 8, 24, 25, 26, 27, 28, 29, 30, 31, 32, 33, 34, 35, 10, 11, 12, 13, 14, 36, 37, 38, 39, 40, 41, 42, 43, 44, 45, 46, 47, 48, 49, 50, 51, 52, 53, 54, 55, 56, 57, 58, 59, 60, 61, 62, 63, 64, 65, 66, 67, 68, 69, 70, 71, 72, 73, 74, 75, 76, 77, 78, 79, 80, 81, 82, 83, 84, 85, 86, 87, 88, 89, 90, 91, 92, 93, 94, 95, 96, 97, 98, 99, 100, 101, 102, 176, 177, 178, 179, 180, 181, 182, 183, 184, 185, 186, 187, 188, 189, 190, 191, 192, 193, 194, 195, 196, 197, 198] (by decide +kernel) (by decide +kernel)
set_option maxRecDepth 20000 in
theorem gL_isAdviceSo_X6_advised : GoodIn wsL_isAdviceSo (wsV RL 72 RX6 yX6_advised wsX6_advised) := goodIn_app (goodIn_of _ (by decide +kernel)) ggL_isAdviceSo_X6_advised
set_option maxRecDepth 20000 in
theorem ggL_isAdviceSo_X6_spare : GoodIn wsL_isAdviceSo wsX6_spare := goodIn_r _ [106, 23, 8, 24, 25, 26, 27, 28, 29, 30, 31, 32, 33, 34, 35, 10, 11, 12, 13, 14, 36, 37, 38, 39, 40, 41, 42, 43, 44, 45, 46, 47, 48, 49, 50, 51, 52, 53, 54, 55, 56, 57, 58, 59, 60, 61, 62, 63, 64, 65, 66, 67, 68, 69, 70, 71, 72, 73, 74, 75, 76, 77, 78, 79, 80, 81, 82, 107, 108, 109, 110, 87, 88, 89, 90, 91, 92, 93, 94, 95, 96, 97, 98, 99, 100, 101, 102, 176, 177, 178, 179, 180, 181, 182, 183, 184, 185, 186, 187, 188, 189, 190, 191, 192, 193, 194, 195, 196, 197, 198] (by decide +kernel) (by decide +kernel)
set_option maxRecDepth 20000 in
theorem gL_isAdviceSo_X6_spare : GoodIn wsL_isAdviceSo (wsV RL 75 RX6 yX6_spare wsX6_spare) := goodIn_app (goodIn_of _ (by decide +kernel)) ggL_isAdviceSo_X6_spare
set_option maxRecDepth 20000 in
theorem ggL_isAdviceSo_X6_ifKept : GoodIn wsL_isAdviceSo wsX6_ifKept := goodIn_ca (goodIn_r _ [114, 6, 7, 23, 8, 24, 25, 26, 27, 28, 29, 30, 31, 32, 33, 34, 35, 10, 11, 12, 13, 14, 36, 37, 38, 39, 40, 41, 42, 43, 44, 45, 46, 47, 48, 49, 50, 51, 52, 53, 54, 55, 56, 57, 58, 59, 60, 61, 62, 63, 64, 65, 66, 67, 68, 69, 70, 71, 72, 73, 74, 75, 76, 77, 78, 79, 80, 81, 82, 115, 92, 93, 94, 95, 96, 97, 98, 99, 100, 101, 102, 176, 177, 178, 179, 180, 181, 182, 183, 184, 185, 186, 187, 188, 189, 190, 191, 192, 193, 194, 195, 196, 197, 198] (by decide +kernel) (by decide +kernel)) (goodIn_sub (fun _ h => List.mem_cons_of_mem _ (List.mem_append_left _ (List.mem_append_right _ h))) (by decide +kernel))
set_option maxRecDepth 20000 in
theorem gL_isAdviceSo_X6_ifKept : GoodIn wsL_isAdviceSo (wsV RL 78 RX6 yX6_ifKept wsX6_ifKept) := goodIn_app (goodIn_of _ (by decide +kernel)) ggL_isAdviceSo_X6_ifKept
set_option maxRecDepth 20000 in
theorem ggL_isAdviceSo_X6_value : GoodIn wsL_isAdviceSo wsX6_value := goodIn_ca (goodIn_r _ [119, 23, 8, 120, 121, 4, 122, 123, 124, 24, 25, 26, 27, 28, 29, 30, 31, 32, 33, 34, 35, 10, 11, 12, 13, 14, 36, 37, 38, 39, 40, 41, 42, 43, 44, 45, 46, 47, 48, 49, 50, 51, 52, 53, 54, 55, 56, 57, 58, 59, 60, 61, 62, 63, 64, 65, 66, 67, 68, 69, 70, 71, 72, 73, 74, 75, 76, 77, 78, 79, 80, 81, 82, 125, 88, 89, 90, 91, 92, 93, 94, 95, 96, 97, 98, 99, 100, 101, 102, 176, 177, 178, 179, 180, 181, 182, 183, 184, 185, 186, 187, 188, 189, 190, 191, 192, 193, 194, 195, 196, 197, 198] (by decide +kernel) (by decide +kernel)) (goodIn_sub (fun _ h => List.mem_cons_of_mem _ (List.mem_append_right _ h)) (by decide +kernel))
set_option maxRecDepth 20000 in
theorem gL_isAdviceSo_X6_value : GoodIn wsL_isAdviceSo (wsV RL 81 RX6 yX6_value wsX6_value) := goodIn_app (goodIn_of _ (by decide +kernel)) ggL_isAdviceSo_X6_value
set_option maxRecDepth 20000 in
theorem ggL_isAdviceSo_X6_bestSet : GoodIn wsL_isAdviceSo wsX6_bestSet := goodIn_r _ [129, 23, 8, 24, 25, 26, 27, 28, 29, 30, 31, 32, 33, 34, 35, 10, 11, 12, 13, 14, 36, 37, 38, 39, 40, 41, 42, 43, 44, 45, 46, 47, 48, 49, 50, 51, 52, 53, 54, 55, 56, 57, 58, 59, 60, 61, 62, 63, 64, 65, 66, 67, 68, 69, 70, 71, 72, 73, 74, 75, 76, 77, 78, 79, 80, 81, 82, 130, 131, 132, 133, 91, 92, 93, 94, 95, 96, 97, 98, 99, 100, 101, 102, 134, 135, 136, 137, 138, 139, 140, 176, 177, 178, 179, 180, 181, 182, 183, 184, 185, 186, 187, 188, 189, 190, 191, 192, 193, 194, 195, 196, 197, 198] (by decide +kernel) (by decide +kernel)
set_option maxRecDepth 20000 in
theorem gL_isAdviceSo_X6_bestSet : GoodIn wsL_isAdviceSo (wsV RL 84 RX6 yX6_bestSet wsX6_bestSet) := goodIn_app (goodIn_of _ (by decide +kernel)) ggL_isAdviceSo_X6_bestSet
set_option maxRecDepth 20000 in
theorem ggL_isAdviceSo_L_bits : GoodIn wsL_isAdviceSo wsL_bits := goodIn_r _ [144] (by decide +kernel) (by decide +kernel)
set_option maxRecDepth 20000 in
theorem gL_isAdviceSo_L_bits : GoodIn wsL_isAdviceSo (va_wsS RL 87 yL_bits wsL_bits) := goodIn_app (goodIn_of _ (by decide +kernel)) ggL_isAdviceSo_L_bits
set_option maxRecDepth 20000 in
theorem ggL_isAdviceSo_X6_needed : GoodIn wsL_isAdviceSo wsX6_needed := goodIn_r _ [148, 23, 8, 24, 25, 26, 27, 28, 29, 30, 31, 32, 33, 34, 35, 10, 11, 12, 13, 14, 36, 37, 38, 39, 40, 41, 42, 43, 44, 45, 46, 47, 48, 49, 50, 51, 52, 53, 54, 55, 56, 57, 58, 59, 60, 61, 62, 63, 64, 65, 66, 67, 68, 69, 70, 71, 72, 73, 74, 75, 76, 77, 78, 79, 80, 81, 82, 149, 150, 151, 152, 134, 135, 136, 137, 138, 139, 140, 153, 154, 155, 156, 176, 177, 178, 179, 180, 181, 182, 183, 184, 185, 186, 187, 188, 189, 190, 191, 192, 193, 194, 195, 196, 197, 198] (by decide +kernel) (by decide +kernel)
set_option maxRecDepth 20000 in
theorem gL_isAdviceSo_X6_needed : GoodIn wsL_isAdviceSo (wsV RL 90 RX6 yX6_needed wsX6_needed) := goodIn_app (goodIn_of _ (by decide +kernel)) ggL_isAdviceSo_X6_needed
set_option maxRecDepth 20000 in
theorem ggL_isAdviceSo_L_isEnough : GoodIn wsL_isAdviceSo wsL_isEnough := goodIn_ca (goodIn_ca (goodIn_r _ [159, 1, 2, 3, 4, 5, 6, 7, 8, 9, 10, 11, 12, 13, 14, 160, 161, 162, 163, 164, 165, 166, 167, 37, 38, 39, 40, 41, 168, 169, 170, 171, 172, 173, 174, 120, 121, 122, 123, 124, 175, 47, 48, 49, 50, 51, 52, 53, 54, 55, 56, 176, 177, 178, 179, 180, 181, 182, 183, 184, 185, 186, 187, 188, 189, 190, 191, 192] (by decide +kernel) (by decide +kernel)) (goodIn_sub (fun _ h => List.mem_cons_of_mem _ (List.mem_append_left _ (List.mem_append_right _ h))) (by decide +kernel))) (goodIn_sub (fun _ h => List.mem_cons_of_mem _ (List.mem_append_right _ h)) (by decide +kernel))
set_option maxRecDepth 20000 in
theorem gL_isAdviceSo_L_isEnough : GoodIn wsL_isAdviceSo (va_wsS RL 93 yL_isEnough wsL_isEnough) := goodIn_app (goodIn_of _ (by decide +kernel)) ggL_isAdviceSo_L_isEnough
theorem dL_isAdviceSo_0 : decode cL_isAdviceSo 0 = .ok (.aload_n 0, 1) := by decide +kernel
theorem dL_isAdviceSo_1 : decode cL_isAdviceSo 1 = .ok (.iconst 1, 1) := by decide +kernel
theorem dL_isAdviceSo_2 : decode cL_isAdviceSo 2 = .ok (.invokevirtual 14, 3) := by decide +kernel
theorem dL_isAdviceSo_5 : decode cL_isAdviceSo 5 = .ok (.istore_n 2, 1) := by decide +kernel
theorem dL_isAdviceSo_6 : decode cL_isAdviceSo 6 = .ok (.aload_n 0, 1) := by decide +kernel
theorem dL_isAdviceSo_7 : decode cL_isAdviceSo 7 = .ok (.invokevirtual 69, 3) := by decide +kernel
theorem dL_isAdviceSo_10 : decode cL_isAdviceSo 10 = .ok (.aload_n 0, 1) := by decide +kernel
theorem dL_isAdviceSo_11 : decode cL_isAdviceSo 11 = .ok (.bipush 7, 2) := by decide +kernel
theorem dL_isAdviceSo_13 : decode cL_isAdviceSo 13 = .ok (.invokevirtual 14, 3) := by decide +kernel
theorem dL_isAdviceSo_16 : decode cL_isAdviceSo 16 = .ok (.iconst 1, 1) := by decide +kernel
theorem dL_isAdviceSo_17 : decode cL_isAdviceSo 17 = .ok (.iadd, 1) := by decide +kernel
theorem dL_isAdviceSo_18 : decode cL_isAdviceSo 18 = .ok (.imul, 1) := by decide +kernel
theorem dL_isAdviceSo_19 : decode cL_isAdviceSo 19 = .ok (.istore_n 3, 1) := by decide +kernel
theorem dL_isAdviceSo_20 : decode cL_isAdviceSo 20 = .ok (.aload_n 0, 1) := by decide +kernel
theorem dL_isAdviceSo_21 : decode cL_isAdviceSo 21 = .ok (.invokevirtual 72, 3) := by decide +kernel
theorem dL_isAdviceSo_24 : decode cL_isAdviceSo 24 = .ok (.istore 4, 2) := by decide +kernel
theorem dL_isAdviceSo_26 : decode cL_isAdviceSo 26 = .ok (.aload_n 0, 1) := by decide +kernel
theorem dL_isAdviceSo_27 : decode cL_isAdviceSo 27 = .ok (.invokevirtual 75, 3) := by decide +kernel
theorem dL_isAdviceSo_30 : decode cL_isAdviceSo 30 = .ok (.istore 5, 2) := by decide +kernel
theorem dL_isAdviceSo_32 : decode cL_isAdviceSo 32 = .ok (.aload_n 0, 1) := by decide +kernel
