theorem dX6_bestSet_5 : decode cX6_bestSet 5 = .ok (.getfield 19, 3) := by decide +kernel
theorem dX6_bestSet_8 : decode cX6_bestSet 8 = .ok (.invokevirtual 220, 3) := by decide +kernel
theorem dX6_bestSet_11 : decode cX6_bestSet 11 = .ok (.aload_n 0, 1) := by decide +kernel
theorem dX6_bestSet_12 : decode cX6_bestSet 12 = .ok (.getfield 36, 3) := by decide +kernel
theorem dX6_bestSet_15 : decode cX6_bestSet 15 = .ok (.invokevirtual 240, 3) := by decide +kernel
theorem dX6_bestSet_18 : decode cX6_bestSet 18 = .ok (.ireturn, 1) := by decide +kernel
set_option maxRecDepth 20000 in
theorem ggX6_runScript_X6_firstTooLong : GoodIn wsX6_runScript wsX6_firstTooLong := goodIn_r _ [8, 9] (by decide +kernel) (by decide +kernel)
set_option maxRecDepth 20000 in
theorem gX6_runScript_X6_firstTooLong : GoodIn wsX6_runScript (va_wsS RX6 245 yX6_firstTooLong wsX6_firstTooLong) := goodIn_app (goodIn_of _ (by decide +kernel)) ggX6_runScript_X6_firstTooLong
set_option maxRecDepth 20000 in
theorem ggX6_runScript_X4_become : GoodIn wsX6_runScript wsX4_become := goodIn_r _ [14, 15, 16, 17, 18, 19, 20, 21, 22, 23, 24, 25, 26, 13, 27, 196, 197, 198, 199, 200, 201, 202, 203, 204, 205] (by decide +kernel) (by decide +kernel)
set_option maxRecDepth 20000 in
theorem gX6_runScript_X4_become : GoodIn wsX6_runScript (wsV RX6 251 RX4 yX4_become wsX4_become) := goodIn_app (goodIn_of _ (by decide +kernel)) ggX6_runScript_X4_become
set_option maxRecDepth 20000 in
theorem ggX6_runScript_X6_groupOf : GoodIn wsX6_runScript wsX6_groupOf := goodIn_r _ [30, 9] (by decide +kernel) (by decide +kernel)
set_option maxRecDepth 20000 in
theorem gX6_runScript_X6_groupOf : GoodIn wsX6_runScript (va_wsS RX6 254 yX6_groupOf wsX6_groupOf) := goodIn_app (goodIn_of _ (by decide +kernel)) ggX6_runScript_X6_groupOf
set_option maxRecDepth 20000 in
theorem ggX6_runScript_X6_succeeds : GoodIn wsX6_runScript wsX6_succeeds := goodIn_r _ [34, 35, 36, 37, 7, 38, 39, 40, 41, 13, 42, 15, 16, 43, 44, 45, 46, 47, 48, 49, 50, 51, 52, 53, 54, 55, 56, 57, 58, 18, 17, 59, 60, 61, 62, 63, 64, 65, 66, 67, 68, 69, 70, 71, 72, 73, 74, 75, 76, 77, 20, 21, 22, 23, 78, 79, 80, 81, 82, 83, 84, 85, 86, 87, 88, 89, 90, 91, 92, 93, 94, 95, 96, 97, 98, 99, 100, 101, 102, 103, 104, 105, 106, 107, 108, 109, 110, 111, 112, 113, 114, 115, 116, 117, 118, 119, 120, 121, 122, 123, 124, 125, 126, 127, 128, 129, 19, 130, 131, 132, 133, 134, 135, 136, 137, 138, 139, 140, 141, 142, 143, 144, 145, 146, 147, 148, 149, 150, 151, 152, 153, 154, 155, 156, 157, 158, 159, 160, 161, 162, 163, 164, 165, 166, 167, 168, 169, 170, 171, 172, 173, 174, 175, 176, 177, 178, 179, 180, 181, 182, 183, 184, 185, 186, 187, 188, 189, 190, 191, 192, 193, 194, 195, 196, 197, 198, 199, 200, 201, 202, 203, 204, 205, 206, 207, 208, 209, 210, 211] (by decide +kernel) (by decide +kernel)
set_option maxRecDepth 20000 in
theorem gX6_runScript_X6_succeeds : GoodIn wsX6_runScript (wsV RX6 258 RX6 yX6_succeeds wsX6_succeeds) := goodIn_app (goodIn_of _ (by decide +kernel)) ggX6_runScript_X6_succeeds
theorem dX6_runScript_0 : decode cX6_runScript 0 = .ok (.iload_n 1, 1) := by decide +kernel
theorem dX6_runScript_1 : decode cX6_runScript 1 = .ok (.iconst 1, 1) := by decide +kernel
theorem dX6_runScript_2 : decode cX6_runScript 2 = .ok (.if_icmp .lt 8, 3) := by decide +kernel
theorem dX6_runScript_5 : decode cX6_runScript 5 = .ok (.iload_n 1, 1) := by decide +kernel
theorem dX6_runScript_6 : decode cX6_runScript 6 = .ok (.iconst 3, 1) := by decide +kernel
theorem dX6_runScript_7 : decode cX6_runScript 7 = .ok (.if_icmp .le 13, 3) := by decide +kernel
theorem dX6_runScript_10 : decode cX6_runScript 10 = .ok (.new 50, 3) := by decide +kernel
theorem dX6_runScript_13 : decode cX6_runScript 13 = .ok (.dup, 1) := by decide +kernel
theorem dX6_runScript_14 : decode cX6_runScript 14 = .ok (.ldc 243, 2) := by decide +kernel
theorem dX6_runScript_16 : decode cX6_runScript 16 = .ok (.invokespecial 54, 3) := by decide +kernel
theorem dX6_runScript_19 : decode cX6_runScript 19 = .ok (.athrow, 1) := by decide +kernel
theorem dX6_runScript_20 : decode cX6_runScript 20 = .ok (.lload_n 2, 1) := by decide +kernel
theorem dX6_runScript_21 : decode cX6_runScript 21 = .ok (.lconst 0, 1) := by decide +kernel
theorem dX6_runScript_22 : decode cX6_runScript 22 = .ok (.lcmp, 1) := by decide +kernel
theorem dX6_runScript_23 : decode cX6_runScript 23 = .ok (.ifCond .lt 12, 3) := by decide +kernel
theorem dX6_runScript_26 : decode cX6_runScript 26 = .ok (.lload_n 2, 1) := by decide +kernel
theorem dX6_runScript_27 : decode cX6_runScript 27 = .ok (.iload_n 1, 1) := by decide +kernel
theorem dX6_runScript_28 : decode cX6_runScript 28 = .ok (.invokestatic 245, 3) := by decide +kernel
theorem dX6_runScript_31 : decode cX6_runScript 31 = .ok (.lcmp, 1) := by decide +kernel
theorem dX6_runScript_32 : decode cX6_runScript 32 = .ok (.ifCond .lt 13, 3) := by decide +kernel
theorem dX6_runScript_35 : decode cX6_runScript 35 = .ok (.new 50, 3) := by decide +kernel
theorem dX6_runScript_38 : decode cX6_runScript 38 = .ok (.dup, 1) := by decide +kernel
theorem dX6_runScript_39 : decode cX6_runScript 39 = .ok (.ldc 249, 2) := by decide +kernel
theorem dX6_runScript_41 : decode cX6_runScript 41 = .ok (.invokespecial 54, 3) := by decide +kernel
theorem dX6_runScript_44 : decode cX6_runScript 44 = .ok (.athrow, 1) := by decide +kernel
theorem dX6_runScript_45 : decode cX6_runScript 45 = .ok (.aload_n 0, 1) := by decide +kernel
theorem dX6_runScript_46 : decode cX6_runScript 46 = .ok (.getfield 23, 3) := by decide +kernel
theorem dX6_runScript_49 : decode cX6_runScript 49 = .ok (.aload_n 0, 1) := by decide +kernel
theorem dX6_runScript_50 : decode cX6_runScript 50 = .ok (.getfield 19, 3) := by decide +kernel
theorem dX6_runScript_53 : decode cX6_runScript 53 = .ok (.invokevirtual 251, 3) := by decide +kernel
theorem dX6_runScript_56 : decode cX6_runScript 56 = .ok (.iconst 0, 1) := by decide +kernel
theorem dX6_runScript_57 : decode cX6_runScript 57 = .ok (.istore 4, 2) := by decide +kernel
theorem dX6_runScript_59 : decode cX6_runScript 59 = .ok (.iload 4, 2) := by decide +kernel
theorem dX6_runScript_61 : decode cX6_runScript 61 = .ok (.iload_n 1, 1) := by decide +kernel
theorem dX6_runScript_62 : decode cX6_runScript 62 = .ok (.if_icmp .ge 30, 3) := by decide +kernel
theorem dX6_runScript_65 : decode cX6_runScript 65 = .ok (.aload_n 0, 1) := by decide +kernel
theorem dX6_runScript_66 : decode cX6_runScript 66 = .ok (.aload_n 0, 1) := by decide +kernel
theorem dX6_runScript_67 : decode cX6_runScript 67 = .ok (.getfield 23, 3) := by decide +kernel
theorem dX6_runScript_70 : decode cX6_runScript 70 = .ok (.iload_n 1, 1) := by decide +kernel
theorem dX6_runScript_71 : decode cX6_runScript 71 = .ok (.lload_n 2, 1) := by decide +kernel
theorem dX6_runScript_72 : decode cX6_runScript 72 = .ok (.iload 4, 2) := by decide +kernel
theorem dX6_runScript_74 : decode cX6_runScript 74 = .ok (.invokestatic 254, 3) := by decide +kernel
theorem dX6_runScript_77 : decode cX6_runScript 77 = .ok (.invokevirtual 258, 3) := by decide +kernel
theorem dX6_runScript_80 : decode cX6_runScript 80 = .ok (.ifCond .ne 6, 3) := by decide +kernel
theorem dX6_runScript_83 : decode cX6_runScript 83 = .ok (.iload 4, 2) := by decide +kernel
theorem dX6_runScript_85 : decode cX6_runScript 85 = .ok (.ireturn, 1) := by decide +kernel
theorem dX6_runScript_86 : decode cX6_runScript 86 = .ok (.iinc 4 1, 3) := by decide +kernel
theorem dX6_runScript_89 : decode cX6_runScript 89 = .ok (.goto (-30), 3) := by decide +kernel
theorem dX6_runScript_92 : decode cX6_runScript 92 = .ok (.iconst (-1), 1) := by decide +kernel
theorem dX6_runScript_93 : decode cX6_runScript 93 = .ok (.ireturn, 1) := by decide +kernel
set_option maxRecDepth 20000 in
theorem ggX6_simulate_X4_become : GoodIn wsX6_simulate wsX4_become := goodIn_r _ [15, 16, 17, 18, 19, 20, 21, 22, 23, 24, 25, 26, 27, 14, 28, 183, 184, 185, 186, 187, 188, 189, 190, 191, 192] (by decide +kernel) (by decide +kernel)
set_option maxRecDepth 20000 in
theorem gX6_simulate_X4_become : GoodIn wsX6_simulate (wsV RX6 251 RX4 yX4_become wsX4_become) := goodIn_app (goodIn_of _ (by decide +kernel)) ggX6_simulate_X4_become
set_option maxRecDepth 20000 in
theorem ggX6_simulate_X6_takeTurn : GoodIn wsX6_simulate wsX6_takeTurn := goodIn_r _ [33, 7, 8, 9, 10, 34, 35, 36, 37, 14, 38, 16, 17, 39, 40, 41, 42, 43, 44, 45, 46, 47, 48, 49, 50, 51, 52, 53, 54, 19, 18, 55, 56, 57, 58, 59, 60, 61, 62, 63, 64, 65, 66, 67, 68, 69, 70, 71, 72, 73, 74, 75, 76, 77, 21, 22, 23, 24, 78, 79, 80, 81, 82, 83, 84, 85, 86, 87, 88, 89, 90, 91, 92, 93, 94, 95, 96, 97, 98, 99, 100, 101, 102, 103, 104, 105, 106, 107, 108, 109, 110, 111, 112, 113, 114, 115, 116, 117, 118, 119, 120, 121, 122, 123, 124, 125, 126, 127, 128, 129, 130, 131, 132, 133, 134, 135, 136, 137, 138, 139, 140, 141, 142, 143, 144, 145, 146, 147, 148, 149, 150, 151, 152, 153, 154, 155, 156, 157, 158, 159, 160, 161, 162, 163, 164, 165, 166, 20, 167, 168, 169, 170, 171, 172, 173, 174, 176, 177, 178, 179, 180, 181, 182, 183, 184, 185, 186, 187, 188, 189, 190, 191, 192, 193, 194, 195, 196, 197, 198] (by decide +kernel) (by decide +kernel)
set_option maxRecDepth 20000 in
theorem gX6_simulate_X6_takeTurn : GoodIn wsX6_simulate (wsV RX6 268 RX6 yX6_takeTurn wsX6_takeTurn) := goodIn_app (goodIn_of _ (by decide +kernel)) ggX6_simulate_X6_takeTurn
set_option maxRecDepth 20000 in
theorem ggX6_simulate_J6_bitCount_0f7a4 : GoodIn wsX6_simulate wsJ6_bitCount_0f7a4 := goodIn_r _ [58, 59, 60, 61] (by decide +kernel) (by decide +kernel)
set_option maxRecDepth 20000 in
theorem gX6_simulate_J6_bitCount_0f7a4 : GoodIn wsX6_simulate (va_wsS RX6 272 yJ6_bitCount_0f7a4 wsJ6_bitCount_0f7a4) := goodIn_app (goodIn_of _ (by decide +kernel)) ggX6_simulate_J6_bitCount_0f7a4
theorem dX6_simulate_0 : decode cX6_simulate 0 = .ok (.iload_n 3, 1) := by decide +kernel
theorem dX6_simulate_1 : decode cX6_simulate 1 = .ok (.iconst 1, 1) := by decide +kernel
theorem dX6_simulate_2 : decode cX6_simulate 2 = .ok (.if_icmp .lt 9, 3) := by decide +kernel
theorem dX6_simulate_5 : decode cX6_simulate 5 = .ok (.iload_n 3, 1) := by decide +kernel
theorem dX6_simulate_6 : decode cX6_simulate 6 = .ok (.bipush 99, 2) := by decide +kernel
theorem dX6_simulate_8 : decode cX6_simulate 8 = .ok (.if_icmp .le 14, 3) := by decide +kernel
theorem dX6_simulate_11 : decode cX6_simulate 11 = .ok (.new 50, 3) := by decide +kernel
theorem dX6_simulate_14 : decode cX6_simulate 14 = .ok (.dup, 1) := by decide +kernel
theorem dX6_simulate_15 : decode cX6_simulate 15 = .ok (.ldc_w 262, 3) := by decide +kernel
theorem dX6_simulate_18 : decode cX6_simulate 18 = .ok (.invokespecial 54, 3) := by decide +kernel
theorem dX6_simulate_21 : decode cX6_simulate 21 = .ok (.athrow, 1) := by decide +kernel
theorem dX6_simulate_22 : decode cX6_simulate 22 = .ok (.aload_n 0, 1) := by decide +kernel
theorem dX6_simulate_23 : decode cX6_simulate 23 = .ok (.getfield 23, 3) := by decide +kernel
theorem dX6_simulate_26 : decode cX6_simulate 26 = .ok (.aload_n 0, 1) := by decide +kernel
theorem dX6_simulate_27 : decode cX6_simulate 27 = .ok (.getfield 19, 3) := by decide +kernel
theorem dX6_simulate_30 : decode cX6_simulate 30 = .ok (.invokevirtual 251, 3) := by decide +kernel
theorem dX6_simulate_33 : decode cX6_simulate 33 = .ok (.lload_n 1, 1) := by decide +kernel
theorem dX6_simulate_34 : decode cX6_simulate 34 = .ok (.lstore 4, 2) := by decide +kernel
theorem dX6_simulate_36 : decode cX6_simulate 36 = .ok (.iconst 0, 1) := by decide +kernel
theorem dX6_simulate_37 : decode cX6_simulate 37 = .ok (.istore 6, 2) := by decide +kernel
theorem dX6_simulate_39 : decode cX6_simulate 39 = .ok (.iload 6, 2) := by decide +kernel
theorem dX6_simulate_41 : decode cX6_simulate 41 = .ok (.iload_n 3, 1) := by decide +kernel
theorem dX6_simulate_42 : decode cX6_simulate 42 = .ok (.if_icmp .ge 35, 3) := by decide +kernel
theorem dX6_simulate_45 : decode cX6_simulate 45 = .ok (.lload 4, 2) := by decide +kernel
theorem dX6_simulate_47 : decode cX6_simulate 47 = .ok (.ldc2_w 264, 3) := by decide +kernel
theorem dX6_simulate_50 : decode cX6_simulate 50 = .ok (.lmul, 1) := by decide +kernel
theorem dX6_simulate_51 : decode cX6_simulate 51 = .ok (.ldc2_w 266, 3) := by decide +kernel
theorem dX6_simulate_54 : decode cX6_simulate 54 = .ok (.ladd, 1) := by decide +kernel
theorem dX6_simulate_55 : decode cX6_simulate 55 = .ok (.lstore 4, 2) := by decide +kernel
theorem dX6_simulate_57 : decode cX6_simulate 57 = .ok (.aload_n 0, 1) := by decide +kernel
theorem dX6_simulate_58 : decode cX6_simulate 58 = .ok (.aload_n 0, 1) := by decide +kernel
theorem dX6_simulate_59 : decode cX6_simulate 59 = .ok (.getfield 23, 3) := by decide +kernel
theorem dX6_simulate_62 : decode cX6_simulate 62 = .ok (.lload 4, 2) := by decide +kernel
theorem dX6_simulate_64 : decode cX6_simulate 64 = .ok (.bipush 33, 2) := by decide +kernel
theorem dX6_simulate_66 : decode cX6_simulate 66 = .ok (.lushr, 1) := by decide +kernel
theorem dX6_simulate_67 : decode cX6_simulate 67 = .ok (.l2i, 1) := by decide +kernel
theorem dX6_simulate_68 : decode cX6_simulate 68 = .ok (.invokevirtual 268, 3) := by decide +kernel
theorem dX6_simulate_71 : decode cX6_simulate 71 = .ok (.iinc 6 1, 3) := by decide +kernel
theorem dX6_simulate_74 : decode cX6_simulate 74 = .ok (.goto (-35), 3) := by decide +kernel
theorem dX6_simulate_77 : decode cX6_simulate 77 = .ok (.aload_n 0, 1) := by decide +kernel
theorem dX6_simulate_78 : decode cX6_simulate 78 = .ok (.getfield 23, 3) := by decide +kernel
theorem dX6_simulate_81 : decode cX6_simulate 81 = .ok (.getfield 98, 3) := by decide +kernel
theorem dX6_simulate_84 : decode cX6_simulate 84 = .ok (.aload_n 0, 1) := by decide +kernel
theorem dX6_simulate_85 : decode cX6_simulate 85 = .ok (.getfield 19, 3) := by decide +kernel
theorem dX6_simulate_88 : decode cX6_simulate 88 = .ok (.getfield 98, 3) := by decide +kernel
theorem dX6_simulate_91 : decode cX6_simulate 91 = .ok (.isub, 1) := by decide +kernel
theorem dX6_simulate_92 : decode cX6_simulate 92 = .ok (.istore 6, 2) := by decide +kernel
theorem dX6_simulate_94 : decode cX6_simulate 94 = .ok (.sipush 1000, 3) := by decide +kernel
theorem dX6_simulate_97 : decode cX6_simulate 97 = .ok (.aload_n 0, 1) := by decide +kernel
theorem dX6_simulate_98 : decode cX6_simulate 98 = .ok (.getfield 23, 3) := by decide +kernel
theorem dX6_simulate_101 : decode cX6_simulate 101 = .ok (.getfield 89, 3) := by decide +kernel
theorem dX6_simulate_104 : decode cX6_simulate 104 = .ok (.invokestatic 272, 3) := by decide +kernel
theorem dX6_simulate_107 : decode cX6_simulate 107 = .ok (.imul, 1) := by decide +kernel
theorem dX6_simulate_108 : decode cX6_simulate 108 = .ok (.sipush 999, 3) := by decide +kernel
theorem dX6_simulate_111 : decode cX6_simulate 111 = .ok (.iload 6, 2) := by decide +kernel
theorem dX6_simulate_113 : decode cX6_simulate 113 = .ok (.invokestatic 277, 3) := by decide +kernel
theorem dX6_simulate_116 : decode cX6_simulate 116 = .ok (.iadd, 1) := by decide +kernel
theorem dX6_simulate_117 : decode cX6_simulate 117 = .ok (.ireturn, 1) := by decide +kernel
set_option maxRecDepth 20000 in
theorem ggX6_save_X6_needSlot : GoodIn wsX6_save wsX6_needSlot := goodIn_ca (goodIn_r _ [5, 6, 7] (by decide +kernel) (by decide +kernel)) (goodIn_sub (fun _ h => List.mem_cons_of_mem _ (List.mem_append_right _ h)) (by decide +kernel))
set_option maxRecDepth 20000 in
theorem gX6_save_X6_needSlot : GoodIn wsX6_save (va_wsS RX6 282 yX6_needSlot wsX6_needSlot) := goodIn_app (goodIn_of _ (by decide +kernel)) ggX6_save_X6_needSlot
set_option maxRecDepth 20000 in
theorem ggX6_save_X6_slotOf : GoodIn wsX6_save wsX6_slotOf := goodIn_r _ [11, 12, 13, 39, 40, 41, 42, 43, 44, 45] (by decide +kernel) (by decide +kernel)
set_option maxRecDepth 20000 in
theorem gX6_save_X6_slotOf : GoodIn wsX6_save (wsV RX6 285 RX6 yX6_slotOf wsX6_slotOf) := goodIn_app (goodIn_of _ (by decide +kernel)) ggX6_save_X6_slotOf
set_option maxRecDepth 20000 in
theorem ggX6_save_X3_fill : GoodIn wsX6_save wsX3_fill := goodIn_r _ [18, 19, 20, 21, 22, 23, 24, 25, 26, 27, 28, 29, 30, 31, 32, 33, 34, 35, 36, 37, 38, 46, 47, 48, 49, 50, 51, 52, 53, 54, 55, 56, 57] (by decide +kernel) (by decide +kernel)
set_option maxRecDepth 20000 in
theorem gX6_save_X3_fill : GoodIn wsX6_save (wsV RX6 289 RX3 yX3_fill wsX3_fill) := goodIn_app (goodIn_of _ (by decide +kernel)) ggX6_save_X3_fill
theorem dX6_save_0 : decode cX6_save 0 = .ok (.iload_n 1, 1) := by decide +kernel
theorem dX6_save_1 : decode cX6_save 1 = .ok (.invokestatic 282, 3) := by decide +kernel
theorem dX6_save_4 : decode cX6_save 4 = .ok (.aload_n 0, 1) := by decide +kernel
theorem dX6_save_5 : decode cX6_save 5 = .ok (.iload_n 1, 1) := by decide +kernel
theorem dX6_save_6 : decode cX6_save 6 = .ok (.invokevirtual 285, 3) := by decide +kernel
theorem dX6_save_9 : decode cX6_save 9 = .ok (.aload_n 0, 1) := by decide +kernel
theorem dX6_save_10 : decode cX6_save 10 = .ok (.getfield 19, 3) := by decide +kernel
theorem dX6_save_13 : decode cX6_save 13 = .ok (.invokevirtual 289, 3) := by decide +kernel
theorem dX6_save_16 : decode cX6_save 16 = .ok (.ireturn, 1) := by decide +kernel
set_option maxRecDepth 20000 in
theorem ggX6_restore_X6_needSlot : GoodIn wsX6_restore wsX6_needSlot := goodIn_ca (goodIn_r _ [8, 9, 10] (by decide +kernel) (by decide +kernel)) (goodIn_sub (fun _ h => List.mem_cons_of_mem _ (List.mem_append_right _ h)) (by decide +kernel))
set_option maxRecDepth 20000 in
theorem gX6_restore_X6_needSlot : GoodIn wsX6_restore (va_wsS RX6 282 yX6_needSlot wsX6_needSlot) := goodIn_app (goodIn_of _ (by decide +kernel)) ggX6_restore_X6_needSlot
set_option maxRecDepth 20000 in
theorem ggX6_restore_X6_slotOf : GoodIn wsX6_restore wsX6_slotOf := goodIn_r _ [14, 15, 16, 43, 44, 45, 46, 47, 48, 49] (by decide +kernel) (by decide +kernel)
set_option maxRecDepth 20000 in
theorem gX6_restore_X6_slotOf : GoodIn wsX6_restore (wsV RX6 285 RX6 yX6_slotOf wsX6_slotOf) := goodIn_app (goodIn_of _ (by decide +kernel)) ggX6_restore_X6_slotOf
set_option maxRecDepth 20000 in
theorem ggX6_restore_X4_become : GoodIn wsX6_restore wsX4_become := goodIn_r _ [21, 22, 23, 24, 25, 26, 27, 28, 29, 30, 31, 32, 33, 20, 34, 50, 51, 52, 53, 54, 55, 56, 57, 58, 59] (by decide +kernel) (by decide +kernel)
set_option maxRecDepth 20000 in
theorem gX6_restore_X4_become : GoodIn wsX6_restore (wsV RX6 251 RX4 yX4_become wsX4_become) := goodIn_app (goodIn_of _ (by decide +kernel)) ggX6_restore_X4_become
set_option maxRecDepth 20000 in
theorem ggX6_restore_X1_forget : GoodIn wsX6_restore wsX1_forget := goodIn_r _ [39, 40, 60, 61, 62] (by decide +kernel) (by decide +kernel)
set_option maxRecDepth 20000 in
theorem gX6_restore_X1_forget : GoodIn wsX6_restore (wsV RX6 301 RX1 yX1_forget wsX1_forget) := goodIn_app (goodIn_of _ (by decide +kernel)) ggX6_restore_X1_forget
theorem dX6_restore_0 : decode cX6_restore 0 = .ok (.iload_n 1, 1) := by decide +kernel
theorem dX6_restore_1 : decode cX6_restore 1 = .ok (.invokestatic 282, 3) := by decide +kernel
theorem dX6_restore_4 : decode cX6_restore 4 = .ok (.aload_n 0, 1) := by decide +kernel
theorem dX6_restore_5 : decode cX6_restore 5 = .ok (.iload_n 1, 1) := by decide +kernel
theorem dX6_restore_6 : decode cX6_restore 6 = .ok (.invokevirtual 285, 3) := by decide +kernel
theorem dX6_restore_9 : decode cX6_restore 9 = .ok (.astore_n 2, 1) := by decide +kernel
theorem dX6_restore_10 : decode cX6_restore 10 = .ok (.aload_n 2, 1) := by decide +kernel
theorem dX6_restore_11 : decode cX6_restore 11 = .ok (.getfield 292, 3) := by decide +kernel
theorem dX6_restore_14 : decode cX6_restore 14 = .ok (.ifCond .ne 14, 3) := by decide +kernel
theorem dX6_restore_17 : decode cX6_restore 17 = .ok (.new 61, 3) := by decide +kernel
theorem dX6_restore_20 : decode cX6_restore 20 = .ok (.dup, 1) := by decide +kernel
theorem dX6_restore_21 : decode cX6_restore 21 = .ok (.ldc_w 296, 3) := by decide +kernel
theorem dX6_restore_24 : decode cX6_restore 24 = .ok (.invokespecial 65, 3) := by decide +kernel
theorem dX6_restore_27 : decode cX6_restore 27 = .ok (.athrow, 1) := by decide +kernel
theorem dX6_restore_28 : decode cX6_restore 28 = .ok (.aload_n 0, 1) := by decide +kernel
theorem dX6_restore_29 : decode cX6_restore 29 = .ok (.getfield 19, 3) := by decide +kernel
theorem dX6_restore_32 : decode cX6_restore 32 = .ok (.aload_n 2, 1) := by decide +kernel
theorem dX6_restore_33 : decode cX6_restore 33 = .ok (.getfield 298, 3) := by decide +kernel
theorem dX6_restore_36 : decode cX6_restore 36 = .ok (.invokevirtual 251, 3) := by decide +kernel
theorem dX6_restore_39 : decode cX6_restore 39 = .ok (.aload_n 0, 1) := by decide +kernel
theorem dX6_restore_40 : decode cX6_restore 40 = .ok (.getfield 29, 3) := by decide +kernel
theorem dX6_restore_43 : decode cX6_restore 43 = .ok (.invokevirtual 301, 3) := by decide +kernel
theorem dX6_restore_46 : decode cX6_restore 46 = .ok (.aload_n 0, 1) := by decide +kernel
theorem dX6_restore_47 : decode cX6_restore 47 = .ok (.getfield 19, 3) := by decide +kernel
theorem dX6_restore_50 : decode cX6_restore 50 = .ok (.getfield 85, 3) := by decide +kernel
theorem dX6_restore_53 : decode cX6_restore 53 = .ok (.ireturn, 1) := by decide +kernel
theorem dX6_needTriple_0 : decode cX6_needTriple 0 = .ok (.iload_n 0, 1) := by decide +kernel
theorem dX6_needTriple_1 : decode cX6_needTriple 1 = .ok (.ifCond .lt 10, 3) := by decide +kernel
theorem dX6_needTriple_4 : decode cX6_needTriple 4 = .ok (.iload_n 0, 1) := by decide +kernel
theorem dX6_needTriple_5 : decode cX6_needTriple 5 = .ok (.sipush 999, 3) := by decide +kernel
theorem dX6_needTriple_8 : decode cX6_needTriple 8 = .ok (.if_icmp .le 14, 3) := by decide +kernel
theorem dX6_needTriple_11 : decode cX6_needTriple 11 = .ok (.new 50, 3) := by decide +kernel
theorem dX6_needTriple_14 : decode cX6_needTriple 14 = .ok (.dup, 1) := by decide +kernel
theorem dX6_needTriple_15 : decode cX6_needTriple 15 = .ok (.ldc_w 304, 3) := by decide +kernel
theorem dX6_needTriple_18 : decode cX6_needTriple 18 = .ok (.invokespecial 54, 3) := by decide +kernel
theorem dX6_needTriple_21 : decode cX6_needTriple 21 = .ok (.athrow, 1) := by decide +kernel
theorem dX6_needTriple_22 : decode cX6_needTriple 22 = .ok (.return_, 1) := by decide +kernel
theorem dX6_needQuestion_0 : decode cX6_needQuestion 0 = .ok (.iload_n 0, 1) := by decide +kernel
theorem dX6_needQuestion_1 : decode cX6_needQuestion 1 = .ok (.ifCond .lt 10, 3) := by decide +kernel
theorem dX6_needQuestion_4 : decode cX6_needQuestion 4 = .ok (.iload_n 0, 1) := by decide +kernel
theorem dX6_needQuestion_5 : decode cX6_needQuestion 5 = .ok (.sipush 1330, 3) := by decide +kernel
theorem dX6_needQuestion_8 : decode cX6_needQuestion 8 = .ok (.if_icmp .le 14, 3) := by decide +kernel
theorem dX6_needQuestion_11 : decode cX6_needQuestion 11 = .ok (.new 50, 3) := by decide +kernel
theorem dX6_needQuestion_14 : decode cX6_needQuestion 14 = .ok (.dup, 1) := by decide +kernel
theorem dX6_needQuestion_15 : decode cX6_needQuestion 15 = .ok (.ldc_w 306, 3) := by decide +kernel
theorem dX6_needQuestion_18 : decode cX6_needQuestion 18 = .ok (.invokespecial 54, 3) := by decide +kernel
theorem dX6_needQuestion_21 : decode cX6_needQuestion 21 = .ok (.athrow, 1) := by decide +kernel
theorem dX6_needQuestion_22 : decode cX6_needQuestion 22 = .ok (.return_, 1) := by decide +kernel
theorem dX6_needPlace_0 : decode cX6_needPlace 0 = .ok (.iload_n 0, 1) := by decide +kernel
theorem dX6_needPlace_1 : decode cX6_needPlace 1 = .ok (.ifCond .ge 14, 3) := by decide +kernel
theorem dX6_needPlace_4 : decode cX6_needPlace 4 = .ok (.new 50, 3) := by decide +kernel
theorem dX6_needPlace_7 : decode cX6_needPlace 7 = .ok (.dup, 1) := by decide +kernel
theorem dX6_needPlace_8 : decode cX6_needPlace 8 = .ok (.ldc_w 308, 3) := by decide +kernel
theorem dX6_needPlace_11 : decode cX6_needPlace 11 = .ok (.invokespecial 54, 3) := by decide +kernel
theorem dX6_needPlace_14 : decode cX6_needPlace 14 = .ok (.athrow, 1) := by decide +kernel
theorem dX6_needPlace_15 : decode cX6_needPlace 15 = .ok (.return_, 1) := by decide +kernel
theorem dX6_needOrder_0 : decode cX6_needOrder 0 = .ok (.iload_n 0, 1) := by decide +kernel
theorem dX6_needOrder_1 : decode cX6_needOrder 1 = .ok (.ifCond .lt 9, 3) := by decide +kernel
theorem dX6_needOrder_4 : decode cX6_needOrder 4 = .ok (.iload_n 0, 1) := by decide +kernel
theorem dX6_needOrder_5 : decode cX6_needOrder 5 = .ok (.bipush 6, 2) := by decide +kernel
theorem dX6_needOrder_7 : decode cX6_needOrder 7 = .ok (.if_icmp .lt 14, 3) := by decide +kernel
theorem dX6_needOrder_10 : decode cX6_needOrder 10 = .ok (.new 310, 3) := by decide +kernel
theorem dX6_needOrder_13 : decode cX6_needOrder 13 = .ok (.dup, 1) := by decide +kernel
theorem dX6_needOrder_14 : decode cX6_needOrder 14 = .ok (.ldc_w 312, 3) := by decide +kernel
theorem dX6_needOrder_17 : decode cX6_needOrder 17 = .ok (.invokespecial 314, 3) := by decide +kernel
theorem dX6_needOrder_20 : decode cX6_needOrder 20 = .ok (.athrow, 1) := by decide +kernel
theorem dX6_needOrder_21 : decode cX6_needOrder 21 = .ok (.return_, 1) := by decide +kernel
set_option maxRecDepth 20000 in
theorem ggX6_needOrderOrNone_X6_needOrder : GoodIn wsX6_needOrderOrNone wsX6_needOrder := goodIn_ca (goodIn_r _ [4, 5, 6] (by decide +kernel) (by decide +kernel)) (goodIn_sub (fun _ h => List.mem_cons_of_mem _ (List.mem_append_right _ h)) (by decide +kernel))
set_option maxRecDepth 20000 in
theorem gX6_needOrderOrNone_X6_needOrder : GoodIn wsX6_needOrderOrNone (va_wsS RX6 145 yX6_needOrder wsX6_needOrder) := goodIn_app (goodIn_of _ (by decide +kernel)) ggX6_needOrderOrNone_X6_needOrder
theorem dX6_needOrderOrNone_0 : decode cX6_needOrderOrNone 0 = .ok (.iload_n 0, 1) := by decide +kernel
theorem dX6_needOrderOrNone_1 : decode cX6_needOrderOrNone 1 = .ok (.iconst (-1), 1) := by decide +kernel
theorem dX6_needOrderOrNone_2 : decode cX6_needOrderOrNone 2 = .ok (.if_icmp .eq 7, 3) := by decide +kernel
theorem dX6_needOrderOrNone_5 : decode cX6_needOrderOrNone 5 = .ok (.iload_n 0, 1) := by decide +kernel
theorem dX6_needOrderOrNone_6 : decode cX6_needOrderOrNone 6 = .ok (.invokestatic 145, 3) := by decide +kernel
theorem dX6_needOrderOrNone_9 : decode cX6_needOrderOrNone 9 = .ok (.return_, 1) := by decide +kernel
set_option maxRecDepth 20000 in
theorem ggX6_needJoin_X6_needQuestion : GoodIn wsX6_needJoin wsX6_needQuestion := goodIn_ca (goodIn_r _ [4, 5, 6] (by decide +kernel) (by decide +kernel)) (goodIn_sub (fun _ h => List.mem_cons_of_mem _ (List.mem_append_right _ h)) (by decide +kernel))
set_option maxRecDepth 20000 in
theorem gX6_needJoin_X6_needQuestion : GoodIn wsX6_needJoin (va_wsS RX6 129 yX6_needQuestion wsX6_needQuestion) := goodIn_app (goodIn_of _ (by decide +kernel)) ggX6_needJoin_X6_needQuestion
set_option maxRecDepth 20000 in
theorem ggX6_needJoin_X6_needComponent : GoodIn wsX6_needJoin wsX6_needComponent := goodIn_ca (goodIn_r _ [9, 5, 6] (by decide +kernel) (by decide +kernel)) (goodIn_sub (fun _ h => List.mem_cons_of_mem _ (List.mem_append_right _ h)) (by decide +kernel))
set_option maxRecDepth 20000 in
theorem gX6_needJoin_X6_needComponent : GoodIn wsX6_needJoin (va_wsS RX6 315 yX6_needComponent wsX6_needComponent) := goodIn_app (goodIn_of _ (by decide +kernel)) ggX6_needJoin_X6_needComponent
theorem dX6_needJoin_0 : decode cX6_needJoin 0 = .ok (.iload_n 0, 1) := by decide +kernel
theorem dX6_needJoin_1 : decode cX6_needJoin 1 = .ok (.invokestatic 129, 3) := by decide +kernel
theorem dX6_needJoin_4 : decode cX6_needJoin 4 = .ok (.iload_n 1, 1) := by decide +kernel
theorem dX6_needJoin_5 : decode cX6_needJoin 5 = .ok (.invokestatic 129, 3) := by decide +kernel
theorem dX6_needJoin_8 : decode cX6_needJoin 8 = .ok (.iload_n 2, 1) := by decide +kernel
theorem dX6_needJoin_9 : decode cX6_needJoin 9 = .ok (.invokestatic 315, 3) := by decide +kernel
theorem dX6_needJoin_12 : decode cX6_needJoin 12 = .ok (.iload_n 3, 1) := by decide +kernel
theorem dX6_needJoin_13 : decode cX6_needJoin 13 = .ok (.invokestatic 315, 3) := by decide +kernel
theorem dX6_needJoin_16 : decode cX6_needJoin 16 = .ok (.return_, 1) := by decide +kernel
theorem dX6_needComponent_0 : decode cX6_needComponent 0 = .ok (.iload_n 0, 1) := by decide +kernel
theorem dX6_needComponent_1 : decode cX6_needComponent 1 = .ok (.ifCond .lt 8, 3) := by decide +kernel
theorem dX6_needComponent_4 : decode cX6_needComponent 4 = .ok (.iload_n 0, 1) := by decide +kernel
theorem dX6_needComponent_5 : decode cX6_needComponent 5 = .ok (.iconst 3, 1) := by decide +kernel
theorem dX6_needComponent_6 : decode cX6_needComponent 6 = .ok (.if_icmp .lt 14, 3) := by decide +kernel
theorem dX6_needComponent_9 : decode cX6_needComponent 9 = .ok (.new 50, 3) := by decide +kernel
theorem dX6_needComponent_12 : decode cX6_needComponent 12 = .ok (.dup, 1) := by decide +kernel
theorem dX6_needComponent_13 : decode cX6_needComponent 13 = .ok (.ldc_w 318, 3) := by decide +kernel
theorem dX6_needComponent_16 : decode cX6_needComponent 16 = .ok (.invokespecial 54, 3) := by decide +kernel
theorem dX6_needComponent_19 : decode cX6_needComponent 19 = .ok (.athrow, 1) := by decide +kernel
theorem dX6_needComponent_20 : decode cX6_needComponent 20 = .ok (.return_, 1) := by decide +kernel
theorem dX6_needSlot_0 : decode cX6_needSlot 0 = .ok (.iload_n 0, 1) := by decide +kernel
theorem dX6_needSlot_1 : decode cX6_needSlot 1 = .ok (.ifCond .eq 19, 3) := by decide +kernel
theorem dX6_needSlot_4 : decode cX6_needSlot 4 = .ok (.iload_n 0, 1) := by decide +kernel
theorem dX6_needSlot_5 : decode cX6_needSlot 5 = .ok (.iconst 1, 1) := by decide +kernel
theorem dX6_needSlot_6 : decode cX6_needSlot 6 = .ok (.if_icmp .eq 14, 3) := by decide +kernel
theorem dX6_needSlot_9 : decode cX6_needSlot 9 = .ok (.new 310, 3) := by decide +kernel
theorem dX6_needSlot_12 : decode cX6_needSlot 12 = .ok (.dup, 1) := by decide +kernel
theorem dX6_needSlot_13 : decode cX6_needSlot 13 = .ok (.ldc_w 320, 3) := by decide +kernel
theorem dX6_needSlot_16 : decode cX6_needSlot 16 = .ok (.invokespecial 314, 3) := by decide +kernel
theorem dX6_needSlot_19 : decode cX6_needSlot 19 = .ok (.athrow, 1) := by decide +kernel
theorem dX6_needSlot_20 : decode cX6_needSlot 20 = .ok (.return_, 1) := by decide +kernel
set_option maxRecDepth 20000 in
theorem ggX6_lookingUpCost_X4_costNow : GoodIn wsX6_lookingUpCost wsX4_costNow := goodIn_r _ [6, 7, 8, 9, 10, 11, 12, 13, 14, 5, 15, 16, 17, 18, 19, 20, 21, 22, 23, 24, 25, 26, 27, 28, 29, 30, 31, 32, 33, 34, 35, 36, 37, 38, 39, 40, 41, 42, 43, 44, 45, 46, 47, 48, 49, 50, 51, 52, 53, 65, 66, 67, 68, 69, 70, 71, 72, 73, 74] (by decide +kernel) (by decide +kernel)
set_option maxRecDepth 20000 in
theorem gX6_lookingUpCost_X4_costNow : GoodIn wsX6_lookingUpCost (wsV RX6 135 RX4 yX4_costNow wsX4_costNow) := goodIn_app (goodIn_of _ (by decide +kernel)) ggX6_lookingUpCost_X4_costNow
set_option maxRecDepth 20000 in
theorem ggX6_lookingUpCost_X2_boundTo : GoodIn wsX6_lookingUpCost wsX2_boundTo := goodIn_r _ [56, 29, 30, 23, 31, 39, 40, 41] (by decide +kernel) (by decide +kernel)
set_option maxRecDepth 20000 in
theorem gX6_lookingUpCost_X2_boundTo : GoodIn wsX6_lookingUpCost (va_wsS RX6 157 yX2_boundTo wsX2_boundTo) := goodIn_app (goodIn_of _ (by decide +kernel)) ggX6_lookingUpCost_X2_boundTo
set_option maxRecDepth 20000 in
theorem ggX6_lookingUpCost_X4_countAnswers : GoodIn wsX6_lookingUpCost wsX4_countAnswers := goodIn_r _ [45, 7, 46, 47, 48, 5, 49, 50, 51, 52, 53, 65, 66, 67, 68, 69, 70, 71, 72, 73, 74] (by decide +kernel) (by decide +kernel)
set_option maxRecDepth 20000 in
theorem gX6_lookingUpCost_X4_countAnswers : GoodIn wsX6_lookingUpCost (wsV RX6 132 RX4 yX4_countAnswers wsX4_countAnswers) := goodIn_app (goodIn_of _ (by decide +kernel)) ggX6_lookingUpCost_X4_countAnswers
theorem dX6_lookingUpCost_0 : decode cX6_lookingUpCost 0 = .ok (.aload_n 0, 1) := by decide +kernel
theorem dX6_lookingUpCost_1 : decode cX6_lookingUpCost 1 = .ok (.getfield 19, 3) := by decide +kernel
theorem dX6_lookingUpCost_4 : decode cX6_lookingUpCost 4 = .ok (.iload_n 1, 1) := by decide +kernel
theorem dX6_lookingUpCost_5 : decode cX6_lookingUpCost 5 = .ok (.invokevirtual 135, 3) := by decide +kernel
theorem dX6_lookingUpCost_8 : decode cX6_lookingUpCost 8 = .ok (.istore 5, 2) := by decide +kernel
theorem dX6_lookingUpCost_10 : decode cX6_lookingUpCost 10 = .ok (.iconst 0, 1) := by decide +kernel
theorem dX6_lookingUpCost_11 : decode cX6_lookingUpCost 11 = .ok (.istore 6, 2) := by decide +kernel
theorem dX6_lookingUpCost_13 : decode cX6_lookingUpCost 13 = .ok (.iload 6, 2) := by decide +kernel
theorem dX6_lookingUpCost_15 : decode cX6_lookingUpCost 15 = .ok (.bipush 10, 2) := by decide +kernel
theorem dX6_lookingUpCost_17 : decode cX6_lookingUpCost 17 = .ok (.if_icmp .ge 63, 3) := by decide +kernel
theorem dX6_lookingUpCost_20 : decode cX6_lookingUpCost 20 = .ok (.aload_n 0, 1) := by decide +kernel
theorem dX6_lookingUpCost_21 : decode cX6_lookingUpCost 21 = .ok (.getfield 19, 3) := by decide +kernel
theorem dX6_lookingUpCost_24 : decode cX6_lookingUpCost 24 = .ok (.iload_n 1, 1) := by decide +kernel
theorem dX6_lookingUpCost_25 : decode cX6_lookingUpCost 25 = .ok (.iload_n 3, 1) := by decide +kernel
theorem dX6_lookingUpCost_26 : decode cX6_lookingUpCost 26 = .ok (.iload 6, 2) := by decide +kernel
theorem dX6_lookingUpCost_28 : decode cX6_lookingUpCost 28 = .ok (.invokestatic 157, 3) := by decide +kernel
theorem dX6_lookingUpCost_31 : decode cX6_lookingUpCost 31 = .ok (.invokevirtual 132, 3) := by decide +kernel
theorem dX6_lookingUpCost_34 : decode cX6_lookingUpCost 34 = .ok (.istore 7, 2) := by decide +kernel
theorem dX6_lookingUpCost_36 : decode cX6_lookingUpCost 36 = .ok (.iload_n 2, 1) := by decide +kernel
theorem dX6_lookingUpCost_37 : decode cX6_lookingUpCost 37 = .ok (.iload 4, 2) := by decide +kernel
theorem dX6_lookingUpCost_39 : decode cX6_lookingUpCost 39 = .ok (.iload 6, 2) := by decide +kernel
theorem dX6_lookingUpCost_41 : decode cX6_lookingUpCost 41 = .ok (.invokestatic 157, 3) := by decide +kernel
theorem dX6_lookingUpCost_44 : decode cX6_lookingUpCost 44 = .ok (.istore 8, 2) := by decide +kernel
theorem dX6_lookingUpCost_46 : decode cX6_lookingUpCost 46 = .ok (.iload 7, 2) := by decide +kernel
theorem dX6_lookingUpCost_48 : decode cX6_lookingUpCost 48 = .ok (.ifCond .le 26, 3) := by decide +kernel
theorem dX6_lookingUpCost_51 : decode cX6_lookingUpCost 51 = .ok (.iload 8, 2) := by decide +kernel
theorem dX6_lookingUpCost_53 : decode cX6_lookingUpCost 53 = .ok (.iconst (-1), 1) := by decide +kernel
theorem dX6_lookingUpCost_54 : decode cX6_lookingUpCost 54 = .ok (.if_icmp .eq 20, 3) := by decide +kernel
theorem dX6_lookingUpCost_57 : decode cX6_lookingUpCost 57 = .ok (.iload 5, 2) := by decide +kernel
theorem dX6_lookingUpCost_59 : decode cX6_lookingUpCost 59 = .ok (.iload 7, 2) := by decide +kernel
theorem dX6_lookingUpCost_61 : decode cX6_lookingUpCost 61 = .ok (.aload_n 0, 1) := by decide +kernel
theorem dX6_lookingUpCost_62 : decode cX6_lookingUpCost 62 = .ok (.getfield 19, 3) := by decide +kernel
theorem dX6_lookingUpCost_65 : decode cX6_lookingUpCost 65 = .ok (.iload 8, 2) := by decide +kernel
theorem dX6_lookingUpCost_67 : decode cX6_lookingUpCost 67 = .ok (.invokevirtual 135, 3) := by decide +kernel
theorem dX6_lookingUpCost_70 : decode cX6_lookingUpCost 70 = .ok (.imul, 1) := by decide +kernel
theorem dX6_lookingUpCost_71 : decode cX6_lookingUpCost 71 = .ok (.iadd, 1) := by decide +kernel
theorem dX6_lookingUpCost_72 : decode cX6_lookingUpCost 72 = .ok (.istore 5, 2) := by decide +kernel
theorem dX6_lookingUpCost_74 : decode cX6_lookingUpCost 74 = .ok (.iinc 6 1, 3) := by decide +kernel
theorem dX6_lookingUpCost_77 : decode cX6_lookingUpCost 77 = .ok (.goto (-64), 3) := by decide +kernel
theorem dX6_lookingUpCost_80 : decode cX6_lookingUpCost 80 = .ok (.iload 5, 2) := by decide +kernel
theorem dX6_lookingUpCost_82 : decode cX6_lookingUpCost 82 = .ok (.ireturn, 1) := by decide +kernel
set_option maxRecDepth 20000 in
theorem ggX6_mergingCost_X4_costSortedBy : GoodIn wsX6_mergingCost wsX4_costSortedBy := goodIn_r _ [6, 7, 8, 9, 10, 11, 12, 13, 5, 14, 15, 16, 17, 18, 19, 20, 21, 22, 23, 24, 25, 26, 27, 28, 29, 30, 31, 32, 33, 34, 35, 36, 37, 38, 39, 40, 41, 42, 43, 44, 45, 46, 47, 48, 49, 50, 51, 52, 53, 54, 55, 56, 57, 58, 59, 60, 61, 62, 63, 64, 72, 73, 74, 75, 76, 77, 78, 79, 80, 81] (by decide +kernel) (by decide +kernel)
set_option maxRecDepth 20000 in
theorem gX6_mergingCost_X4_costSortedBy : GoodIn wsX6_mergingCost (wsV RX6 322 RX4 yX4_costSortedBy wsX4_costSortedBy) := goodIn_app (goodIn_of _ (by decide +kernel)) ggX6_mergingCost_X4_costSortedBy
theorem dX6_mergingCost_0 : decode cX6_mergingCost 0 = .ok (.aload_n 0, 1) := by decide +kernel
theorem dX6_mergingCost_1 : decode cX6_mergingCost 1 = .ok (.getfield 19, 3) := by decide +kernel
theorem dX6_mergingCost_4 : decode cX6_mergingCost 4 = .ok (.iload_n 1, 1) := by decide +kernel
theorem dX6_mergingCost_5 : decode cX6_mergingCost 5 = .ok (.iload_n 3, 1) := by decide +kernel
theorem dX6_mergingCost_6 : decode cX6_mergingCost 6 = .ok (.invokevirtual 322, 3) := by decide +kernel
theorem dX6_mergingCost_9 : decode cX6_mergingCost 9 = .ok (.istore 5, 2) := by decide +kernel
theorem dX6_mergingCost_11 : decode cX6_mergingCost 11 = .ok (.aload_n 0, 1) := by decide +kernel
theorem dX6_mergingCost_12 : decode cX6_mergingCost 12 = .ok (.getfield 19, 3) := by decide +kernel
theorem dX6_mergingCost_15 : decode cX6_mergingCost 15 = .ok (.iload_n 2, 1) := by decide +kernel
theorem dX6_mergingCost_16 : decode cX6_mergingCost 16 = .ok (.iload 4, 2) := by decide +kernel
theorem dX6_mergingCost_18 : decode cX6_mergingCost 18 = .ok (.invokevirtual 322, 3) := by decide +kernel
theorem dX6_mergingCost_21 : decode cX6_mergingCost 21 = .ok (.istore 6, 2) := by decide +kernel
theorem dX6_mergingCost_23 : decode cX6_mergingCost 23 = .ok (.iload 5, 2) := by decide +kernel
theorem dX6_mergingCost_25 : decode cX6_mergingCost 25 = .ok (.iconst (-1), 1) := by decide +kernel
theorem dX6_mergingCost_26 : decode cX6_mergingCost 26 = .ok (.if_icmp .eq 9, 3) := by decide +kernel
theorem dX6_mergingCost_29 : decode cX6_mergingCost 29 = .ok (.iload 6, 2) := by decide +kernel
theorem dX6_mergingCost_31 : decode cX6_mergingCost 31 = .ok (.iconst (-1), 1) := by decide +kernel
theorem dX6_mergingCost_32 : decode cX6_mergingCost 32 = .ok (.if_icmp .ne 7, 3) := by decide +kernel
theorem dX6_mergingCost_35 : decode cX6_mergingCost 35 = .ok (.iconst (-1), 1) := by decide +kernel
theorem dX6_mergingCost_36 : decode cX6_mergingCost 36 = .ok (.goto 8, 3) := by decide +kernel
theorem dX6_mergingCost_39 : decode cX6_mergingCost 39 = .ok (.iload 5, 2) := by decide +kernel
theorem dX6_mergingCost_41 : decode cX6_mergingCost 41 = .ok (.iload 6, 2) := by decide +kernel
theorem dX6_mergingCost_43 : decode cX6_mergingCost 43 = .ok (.iadd, 1) := by decide +kernel
theorem dX6_mergingCost_44 : decode cX6_mergingCost 44 = .ok (.ireturn, 1) := by decide +kernel
theorem dX6_firstTooLong_0 : decode cX6_firstTooLong 0 = .ok (.lconst 1, 1) := by decide +kernel
theorem dX6_firstTooLong_1 : decode cX6_firstTooLong 1 = .ok (.lstore_n 1, 1) := by decide +kernel
theorem dX6_firstTooLong_2 : decode cX6_firstTooLong 2 = .ok (.iconst 0, 1) := by decide +kernel
theorem dX6_firstTooLong_3 : decode cX6_firstTooLong 3 = .ok (.istore_n 3, 1) := by decide +kernel
theorem dX6_firstTooLong_4 : decode cX6_firstTooLong 4 = .ok (.iload_n 3, 1) := by decide +kernel
theorem dX6_firstTooLong_5 : decode cX6_firstTooLong 5 = .ok (.iload_n 0, 1) := by decide +kernel
theorem dX6_firstTooLong_6 : decode cX6_firstTooLong 6 = .ok (.if_icmp .ge 20, 3) := by decide +kernel
theorem dX6_firstTooLong_9 : decode cX6_firstTooLong 9 = .ok (.iload_n 3, 1) := by decide +kernel
theorem dX6_firstTooLong_10 : decode cX6_firstTooLong 10 = .ok (.iconst 3, 1) := by decide +kernel
theorem dX6_firstTooLong_11 : decode cX6_firstTooLong 11 = .ok (.if_icmp .ge 15, 3) := by decide +kernel
theorem dX6_firstTooLong_14 : decode cX6_firstTooLong 14 = .ok (.lload_n 1, 1) := by decide +kernel
theorem dX6_firstTooLong_15 : decode cX6_firstTooLong 15 = .ok (.ldc2_w 325, 3) := by decide +kernel
theorem dX6_firstTooLong_18 : decode cX6_firstTooLong 18 = .ok (.lmul, 1) := by decide +kernel
theorem dX6_firstTooLong_19 : decode cX6_firstTooLong 19 = .ok (.lstore_n 1, 1) := by decide +kernel
theorem dX6_firstTooLong_20 : decode cX6_firstTooLong 20 = .ok (.iinc 3 1, 3) := by decide +kernel
theorem dX6_firstTooLong_23 : decode cX6_firstTooLong 23 = .ok (.goto (-19), 3) := by decide +kernel
theorem dX6_firstTooLong_26 : decode cX6_firstTooLong 26 = .ok (.lload_n 1, 1) := by decide +kernel
theorem dX6_firstTooLong_27 : decode cX6_firstTooLong 27 = .ok (.lreturn, 1) := by decide +kernel
theorem dX6_groupOf_0 : decode cX6_groupOf 0 = .ok (.lload_n 1, 1) := by decide +kernel
theorem dX6_groupOf_1 : decode cX6_groupOf 1 = .ok (.lstore 4, 2) := by decide +kernel
theorem dX6_groupOf_3 : decode cX6_groupOf 3 = .ok (.iload_n 3, 1) := by decide +kernel
theorem dX6_groupOf_4 : decode cX6_groupOf 4 = .ok (.iconst 1, 1) := by decide +kernel
theorem dX6_groupOf_5 : decode cX6_groupOf 5 = .ok (.iadd, 1) := by decide +kernel
theorem dX6_groupOf_6 : decode cX6_groupOf 6 = .ok (.istore 6, 2) := by decide +kernel
theorem dX6_groupOf_8 : decode cX6_groupOf 8 = .ok (.iload 6, 2) := by decide +kernel
theorem dX6_groupOf_10 : decode cX6_groupOf 10 = .ok (.iload_n 0, 1) := by decide +kernel
theorem dX6_groupOf_11 : decode cX6_groupOf 11 = .ok (.if_icmp .ge 23, 3) := by decide +kernel
theorem dX6_groupOf_14 : decode cX6_groupOf 14 = .ok (.iload 6, 2) := by decide +kernel
theorem dX6_groupOf_16 : decode cX6_groupOf 16 = .ok (.iconst 3, 1) := by decide +kernel
theorem dX6_groupOf_17 : decode cX6_groupOf 17 = .ok (.if_icmp .ge 17, 3) := by decide +kernel
theorem dX6_groupOf_20 : decode cX6_groupOf 20 = .ok (.lload 4, 2) := by decide +kernel
theorem dX6_groupOf_22 : decode cX6_groupOf 22 = .ok (.ldc2_w 325, 3) := by decide +kernel
theorem dX6_groupOf_25 : decode cX6_groupOf 25 = .ok (.ldiv, 1) := by decide +kernel
theorem dX6_groupOf_26 : decode cX6_groupOf 26 = .ok (.lstore 4, 2) := by decide +kernel
theorem dX6_groupOf_28 : decode cX6_groupOf 28 = .ok (.iinc 6 1, 3) := by decide +kernel
theorem dX6_groupOf_31 : decode cX6_groupOf 31 = .ok (.goto (-23), 3) := by decide +kernel
theorem dX6_groupOf_34 : decode cX6_groupOf 34 = .ok (.lload 4, 2) := by decide +kernel
theorem dX6_groupOf_36 : decode cX6_groupOf 36 = .ok (.ldc2_w 325, 3) := by decide +kernel
theorem dX6_groupOf_39 : decode cX6_groupOf 39 = .ok (.lrem, 1) := by decide +kernel
theorem dX6_groupOf_40 : decode cX6_groupOf 40 = .ok (.l2i, 1) := by decide +kernel
theorem dX6_groupOf_41 : decode cX6_groupOf 41 = .ok (.ireturn, 1) := by decide +kernel
set_option maxRecDepth 20000 in
theorem ggX6_succeeds_X6_succeedsToPut : GoodIn wsX6_succeeds wsX6_succeedsToPut := goodIn_r _ [5, 6, 7, 8, 9, 10, 11, 12, 13, 14, 15, 16, 17, 18, 19, 20, 21, 22, 23, 24, 25, 26, 27, 28, 29, 30, 31, 32, 33, 34, 35, 36, 37, 38, 39, 40, 41, 173, 174, 175, 176, 177, 178, 179, 180, 181, 182] (by decide +kernel) (by decide +kernel)
set_option maxRecDepth 20000 in
theorem gX6_succeeds_X6_succeedsToPut : GoodIn wsX6_succeeds (va_wsS RX6 327 yX6_succeedsToPut wsX6_succeedsToPut) := goodIn_app (goodIn_of _ (by decide +kernel)) ggX6_succeeds_X6_succeedsToPut
set_option maxRecDepth 20000 in
theorem ggX6_succeeds_X4_take : GoodIn wsX6_succeeds wsX4_take := goodIn_r _ [45, 11, 12, 13, 14, 15, 9, 16, 17, 18, 19, 20, 25, 26, 27, 28, 29, 30, 31, 32, 33, 34, 35, 36, 37, 38, 39, 40, 41, 173, 174, 175, 176, 177, 178, 179, 180, 181, 182] (by decide +kernel) (by decide +kernel)
set_option maxRecDepth 20000 in
theorem gX6_succeeds_X4_take : GoodIn wsX6_succeeds (wsV RX6 189 RX4 yX4_take wsX4_take) := goodIn_app (goodIn_of _ (by decide +kernel)) ggX6_succeeds_X4_take
set_option maxRecDepth 20000 in
theorem ggX6_succeeds_X4_noteQuestion : GoodIn wsX6_succeeds wsX4_noteQuestion := goodIn_r _ [49, 50, 51, 52, 53, 54, 55, 56, 9, 57, 11, 58, 59, 60, 61, 62, 63, 64, 65, 30, 66, 67, 68, 69, 70, 71, 72, 73, 74, 75, 76, 77, 78, 79, 80, 38, 39, 40, 41, 81, 82, 83, 84, 85, 86, 87, 88, 89, 90, 17, 18, 19, 20, 12, 91, 92, 93, 94, 95, 96, 97, 173, 174, 175, 176, 177, 178, 179, 180, 181, 182] (by decide +kernel) (by decide +kernel)
set_option maxRecDepth 20000 in
theorem gX6_succeeds_X4_noteQuestion : GoodIn wsX6_succeeds (wsV RX6 192 RX4 yX4_noteQuestion wsX4_noteQuestion) := goodIn_app (goodIn_of _ (by decide +kernel)) ggX6_succeeds_X4_noteQuestion
set_option maxRecDepth 20000 in
theorem ggX6_succeeds_X6_succeedsToKeep : GoodIn wsX6_succeeds wsX6_succeedsToKeep := goodIn_r _ [100, 101, 63, 64, 9, 65, 30, 102, 103, 104, 105, 11, 106, 38, 39, 40, 41, 173, 174, 175, 176, 177, 178, 179, 180, 181, 182] (by decide +kernel) (by decide +kernel)
set_option maxRecDepth 20000 in
theorem gX6_succeeds_X6_succeedsToKeep : GoodIn wsX6_succeeds (va_wsS RX6 330 yX6_succeedsToKeep wsX6_succeedsToKeep) := goodIn_app (goodIn_of _ (by decide +kernel)) ggX6_succeeds_X6_succeedsToKeep
set_option maxRecDepth 20000 in
theorem ggX6_succeeds_X6_succeedsToDiscard : GoodIn wsX6_succeeds wsX6_succeedsToDiscard := goodIn_r _ [109, 101, 63, 64, 9, 65, 30, 110, 111, 112, 113, 31, 32, 33, 34, 35, 36, 37, 173, 174, 175, 176, 177, 178, 179, 180, 181, 182] (by decide +kernel) (by decide +kernel)
set_option maxRecDepth 20000 in
theorem gX6_succeeds_X6_succeedsToDiscard : GoodIn wsX6_succeeds (va_wsS RX6 333 yX6_succeedsToDiscard wsX6_succeedsToDiscard) := goodIn_app (goodIn_of _ (by decide +kernel)) ggX6_succeeds_X6_succeedsToDiscard
set_option maxRecDepth 20000 in
theorem ggX6_succeeds_X0_follow : GoodIn wsX6_succeeds wsX0_follow := goodIn_r _ [118, 119, 120, 121, 117, 122, 123, 124, 125, 126, 127, 128, 129, 39, 40, 9, 41, 11, 130, 131, 132, 133, 52, 53, 134, 67, 68, 69, 70, 71, 72, 73, 74, 75, 76, 77, 78, 79, 80, 38, 81, 82, 83, 84, 85, 86, 87, 88, 89, 90, 17, 18, 19, 20, 12, 91, 92, 93, 135, 136, 137, 138, 139, 140, 141, 142, 143, 144, 145, 146, 147, 148, 149, 150, 151, 152, 153, 154, 59, 60, 61, 155, 156, 157, 158, 159, 103, 104, 105, 106, 30, 160, 161, 162, 163, 164, 111, 112, 113, 31, 32, 33, 34, 35, 36, 37, 173, 174, 175, 176, 177, 178, 179, 180, 181, 182, 183, 184, 185, 186, 187, 188] (by decide +kernel) (by decide +kernel)
set_option maxRecDepth 20000 in
theorem gX6_succeeds_X0_follow : GoodIn wsX6_succeeds (wsV RX6 208 RX0 yX0_follow wsX0_follow) := goodIn_app (goodIn_of _ (by decide +kernel)) ggX6_succeeds_X0_follow
set_option maxRecDepth 20000 in
theorem ggX6_succeeds_X4_costNow : GoodIn wsX6_succeeds wsX4_costNow := goodIn_r _ [57, 11, 58, 59, 60, 61, 62, 63, 64, 9, 65, 30, 66, 67, 68, 69, 70, 71, 72, 73, 74, 75, 76, 77, 78, 79, 80, 38, 39, 40, 41, 81, 82, 83, 84, 85, 86, 87, 88, 89, 90, 17, 18, 19, 20, 12, 91, 92, 93, 173, 174, 175, 176, 177, 178, 179, 180, 181, 182] (by decide +kernel) (by decide +kernel)
set_option maxRecDepth 20000 in
theorem gX6_succeeds_X4_costNow : GoodIn wsX6_succeeds (wsV RX6 135 RX4 yX4_costNow wsX4_costNow) := goodIn_app (goodIn_of _ (by decide +kernel)) ggX6_succeeds_X4_costNow
theorem dX6_succeeds_0 : decode cX6_succeeds 0 = .ok (.iload_n 2, 1) := by decide +kernel
theorem dX6_succeeds_1 : decode cX6_succeeds 1 = .ok (.sipush 10000, 3) := by decide +kernel
theorem dX6_succeeds_4 : decode cX6_succeeds 4 = .ok (.irem, 1) := by decide +kernel
theorem dX6_succeeds_5 : decode cX6_succeeds 5 = .ok (.istore_n 3, 1) := by decide +kernel
theorem dX6_succeeds_6 : decode cX6_succeeds 6 = .ok (.iload_n 2, 1) := by decide +kernel
theorem dX6_succeeds_7 : decode cX6_succeeds 7 = .ok (.sipush 10000, 3) := by decide +kernel
theorem dX6_succeeds_10 : decode cX6_succeeds 10 = .ok (.idiv, 1) := by decide +kernel
theorem dX6_succeeds_11 : decode cX6_succeeds 11 = .ok (.tableswitch 199 1 9 #[49, 55, 77, 99, 105, 111, 133, 153, 178], 49) := by decide +kernel
theorem dX6_succeeds_60 : decode cX6_succeeds 60 = .ok (.aload_n 1, 1) := by decide +kernel
theorem dX6_succeeds_61 : decode cX6_succeeds 61 = .ok (.iload_n 3, 1) := by decide +kernel
theorem dX6_succeeds_62 : decode cX6_succeeds 62 = .ok (.invokestatic 327, 3) := by decide +kernel
theorem dX6_succeeds_65 : decode cX6_succeeds 65 = .ok (.ireturn, 1) := by decide +kernel
theorem dX6_succeeds_66 : decode cX6_succeeds 66 = .ok (.iload_n 3, 1) := by decide +kernel
theorem dX6_succeeds_67 : decode cX6_succeeds 67 = .ok (.sipush 999, 3) := by decide +kernel
theorem dX6_succeeds_70 : decode cX6_succeeds 70 = .ok (.if_icmp .gt 16, 3) := by decide +kernel
theorem dX6_succeeds_73 : decode cX6_succeeds 73 = .ok (.aload_n 1, 1) := by decide +kernel
theorem dX6_succeeds_74 : decode cX6_succeeds 74 = .ok (.iload_n 3, 1) := by decide +kernel
theorem dX6_succeeds_75 : decode cX6_succeeds 75 = .ok (.invokevirtual 189, 3) := by decide +kernel
theorem dX6_succeeds_78 : decode cX6_succeeds 78 = .ok (.iconst (-1), 1) := by decide +kernel
theorem dX6_succeeds_79 : decode cX6_succeeds 79 = .ok (.if_icmp .eq 7, 3) := by decide +kernel
theorem dX6_succeeds_82 : decode cX6_succeeds 82 = .ok (.iconst 1, 1) := by decide +kernel
theorem dX6_succeeds_83 : decode cX6_succeeds 83 = .ok (.goto 4, 3) := by decide +kernel
theorem dX6_succeeds_86 : decode cX6_succeeds 86 = .ok (.iconst 0, 1) := by decide +kernel
theorem dX6_succeeds_87 : decode cX6_succeeds 87 = .ok (.ireturn, 1) := by decide +kernel
theorem dX6_succeeds_88 : decode cX6_succeeds 88 = .ok (.iload_n 3, 1) := by decide +kernel
theorem dX6_succeeds_89 : decode cX6_succeeds 89 = .ok (.sipush 1330, 3) := by decide +kernel
theorem dX6_succeeds_92 : decode cX6_succeeds 92 = .ok (.if_icmp .gt 16, 3) := by decide +kernel
theorem dX6_succeeds_95 : decode cX6_succeeds 95 = .ok (.aload_n 1, 1) := by decide +kernel
theorem dX6_succeeds_96 : decode cX6_succeeds 96 = .ok (.iload_n 3, 1) := by decide +kernel
theorem dX6_succeeds_97 : decode cX6_succeeds 97 = .ok (.invokevirtual 192, 3) := by decide +kernel
theorem dX6_succeeds_100 : decode cX6_succeeds 100 = .ok (.iconst (-1), 1) := by decide +kernel
theorem dX6_succeeds_101 : decode cX6_succeeds 101 = .ok (.if_icmp .eq 7, 3) := by decide +kernel
theorem dX6_succeeds_104 : decode cX6_succeeds 104 = .ok (.iconst 1, 1) := by decide +kernel
theorem dX6_succeeds_105 : decode cX6_succeeds 105 = .ok (.goto 4, 3) := by decide +kernel
theorem dX6_succeeds_108 : decode cX6_succeeds 108 = .ok (.iconst 0, 1) := by decide +kernel
theorem dX6_succeeds_109 : decode cX6_succeeds 109 = .ok (.ireturn, 1) := by decide +kernel
theorem dX6_succeeds_110 : decode cX6_succeeds 110 = .ok (.aload_n 1, 1) := by decide +kernel
theorem dX6_succeeds_111 : decode cX6_succeeds 111 = .ok (.iload_n 3, 1) := by decide +kernel
theorem dX6_succeeds_112 : decode cX6_succeeds 112 = .ok (.invokestatic 330, 3) := by decide +kernel
theorem dX6_succeeds_115 : decode cX6_succeeds 115 = .ok (.ireturn, 1) := by decide +kernel
theorem dX6_succeeds_116 : decode cX6_succeeds 116 = .ok (.aload_n 1, 1) := by decide +kernel
theorem dX6_succeeds_117 : decode cX6_succeeds 117 = .ok (.iload_n 3, 1) := by decide +kernel
theorem dX6_succeeds_118 : decode cX6_succeeds 118 = .ok (.invokestatic 333, 3) := by decide +kernel
theorem dX6_succeeds_121 : decode cX6_succeeds 121 = .ok (.ireturn, 1) := by decide +kernel
theorem dX6_succeeds_122 : decode cX6_succeeds 122 = .ok (.iload_n 3, 1) := by decide +kernel
theorem dX6_succeeds_123 : decode cX6_succeeds 123 = .ok (.ifCond .ne 19, 3) := by decide +kernel
theorem dX6_succeeds_126 : decode cX6_succeeds 126 = .ok (.aload_n 0, 1) := by decide +kernel
theorem dX6_succeeds_127 : decode cX6_succeeds 127 = .ok (.getfield 36, 3) := by decide +kernel
theorem dX6_succeeds_130 : decode cX6_succeeds 130 = .ok (.aload_n 1, 1) := by decide +kernel
theorem dX6_succeeds_131 : decode cX6_succeeds 131 = .ok (.invokevirtual 208, 3) := by decide +kernel
theorem dX6_succeeds_134 : decode cX6_succeeds 134 = .ok (.iconst (-1), 1) := by decide +kernel
theorem dX6_succeeds_135 : decode cX6_succeeds 135 = .ok (.if_icmp .eq 7, 3) := by decide +kernel
theorem dX6_succeeds_138 : decode cX6_succeeds 138 = .ok (.iconst 1, 1) := by decide +kernel
theorem dX6_succeeds_139 : decode cX6_succeeds 139 = .ok (.goto 4, 3) := by decide +kernel
theorem dX6_succeeds_142 : decode cX6_succeeds 142 = .ok (.iconst 0, 1) := by decide +kernel
theorem dX6_succeeds_143 : decode cX6_succeeds 143 = .ok (.ireturn, 1) := by decide +kernel
theorem dX6_succeeds_144 : decode cX6_succeeds 144 = .ok (.iload_n 3, 1) := by decide +kernel
theorem dX6_succeeds_145 : decode cX6_succeeds 145 = .ok (.bipush 99, 2) := by decide +kernel
theorem dX6_succeeds_147 : decode cX6_succeeds 147 = .ok (.if_icmp .gt 15, 3) := by decide +kernel
theorem dX6_succeeds_150 : decode cX6_succeeds 150 = .ok (.aload_n 1, 1) := by decide +kernel
theorem dX6_succeeds_151 : decode cX6_succeeds 151 = .ok (.getfield 85, 3) := by decide +kernel
theorem dX6_succeeds_154 : decode cX6_succeeds 154 = .ok (.iload_n 3, 1) := by decide +kernel
theorem dX6_succeeds_155 : decode cX6_succeeds 155 = .ok (.if_icmp .lt 7, 3) := by decide +kernel
theorem dX6_succeeds_158 : decode cX6_succeeds 158 = .ok (.iconst 1, 1) := by decide +kernel
theorem dX6_succeeds_159 : decode cX6_succeeds 159 = .ok (.goto 4, 3) := by decide +kernel
theorem dX6_succeeds_162 : decode cX6_succeeds 162 = .ok (.iconst 0, 1) := by decide +kernel
theorem dX6_succeeds_163 : decode cX6_succeeds 163 = .ok (.ireturn, 1) := by decide +kernel
theorem dX6_succeeds_164 : decode cX6_succeeds 164 = .ok (.iload_n 3, 1) := by decide +kernel
theorem dX6_succeeds_165 : decode cX6_succeeds 165 = .ok (.sipush 1330, 3) := by decide +kernel
theorem dX6_succeeds_168 : decode cX6_succeeds 168 = .ok (.if_icmp .gt 19, 3) := by decide +kernel
theorem dX6_succeeds_171 : decode cX6_succeeds 171 = .ok (.aload_n 1, 1) := by decide +kernel
theorem dX6_succeeds_172 : decode cX6_succeeds 172 = .ok (.iload_n 3, 1) := by decide +kernel
theorem dX6_succeeds_173 : decode cX6_succeeds 173 = .ok (.invokevirtual 135, 3) := by decide +kernel
theorem dX6_succeeds_176 : decode cX6_succeeds 176 = .ok (.aload_n 1, 1) := by decide +kernel
theorem dX6_succeeds_177 : decode cX6_succeeds 177 = .ok (.getfield 85, 3) := by decide +kernel
theorem dX6_succeeds_180 : decode cX6_succeeds 180 = .ok (.if_icmp .ge 7, 3) := by decide +kernel
theorem dX6_succeeds_183 : decode cX6_succeeds 183 = .ok (.iconst 1, 1) := by decide +kernel
theorem dX6_succeeds_184 : decode cX6_succeeds 184 = .ok (.goto 4, 3) := by decide +kernel
theorem dX6_succeeds_187 : decode cX6_succeeds 187 = .ok (.iconst 0, 1) := by decide +kernel
theorem dX6_succeeds_188 : decode cX6_succeeds 188 = .ok (.ireturn, 1) := by decide +kernel
theorem dX6_succeeds_189 : decode cX6_succeeds 189 = .ok (.iload_n 3, 1) := by decide +kernel
theorem dX6_succeeds_190 : decode cX6_succeeds 190 = .ok (.sipush 999, 3) := by decide +kernel
theorem dX6_succeeds_193 : decode cX6_succeeds 193 = .ok (.if_icmp .gt 15, 3) := by decide +kernel
theorem dX6_succeeds_196 : decode cX6_succeeds 196 = .ok (.aload_n 1, 1) := by decide +kernel
theorem dX6_succeeds_197 : decode cX6_succeeds 197 = .ok (.getfield 98, 3) := by decide +kernel
theorem dX6_succeeds_200 : decode cX6_succeeds 200 = .ok (.iload_n 3, 1) := by decide +kernel
theorem dX6_succeeds_201 : decode cX6_succeeds 201 = .ok (.if_icmp .gt 7, 3) := by decide +kernel
theorem dX6_succeeds_204 : decode cX6_succeeds 204 = .ok (.iconst 1, 1) := by decide +kernel
theorem dX6_succeeds_205 : decode cX6_succeeds 205 = .ok (.goto 4, 3) := by decide +kernel
theorem dX6_succeeds_208 : decode cX6_succeeds 208 = .ok (.iconst 0, 1) := by decide +kernel
theorem dX6_succeeds_209 : decode cX6_succeeds 209 = .ok (.ireturn, 1) := by decide +kernel
theorem dX6_succeeds_210 : decode cX6_succeeds 210 = .ok (.iconst 0, 1) := by decide +kernel
theorem dX6_succeeds_211 : decode cX6_succeeds 211 = .ok (.ireturn, 1) := by decide +kernel
set_option maxRecDepth 20000 in
theorem ggX6_succeedsToPut_X4_canPut : GoodIn wsX6_succeedsToPut wsX4_canPut := goodIn_r _ [5, 6, 7, 8, 9, 10, 4, 11, 12, 13, 14, 15, 37, 38, 39, 40, 41, 42, 43, 44, 45, 46] (by decide +kernel) (by decide +kernel)
set_option maxRecDepth 20000 in
theorem gX6_succeedsToPut_X4_canPut : GoodIn wsX6_succeedsToPut (wsV RX6 170 RX4 yX4_canPut wsX4_canPut) := goodIn_app (goodIn_of _ (by decide +kernel)) ggX6_succeedsToPut_X4_canPut
set_option maxRecDepth 20000 in
theorem ggX6_succeedsToPut_X4_put : GoodIn wsX6_succeedsToPut wsX4_put := goodIn_r _ [19, 6, 7, 8, 9, 10, 4, 11, 12, 13, 14, 15, 20, 21, 22, 23, 24, 25, 26, 27, 28, 29, 30, 31, 32, 33, 34, 35, 36, 37, 38, 39, 40, 41, 42, 43, 44, 45, 46] (by decide +kernel) (by decide +kernel)
set_option maxRecDepth 20000 in
theorem gX6_succeedsToPut_X4_put : GoodIn wsX6_succeedsToPut (wsV RX6 180 RX4 yX4_put wsX4_put) := goodIn_app (goodIn_of _ (by decide +kernel)) ggX6_succeedsToPut_X4_put
theorem dX6_succeedsToPut_0 : decode cX6_succeedsToPut 0 = .ok (.iload_n 1, 1) := by decide +kernel
theorem dX6_succeedsToPut_1 : decode cX6_succeedsToPut 1 = .ok (.sipush 999, 3) := by decide +kernel
theorem dX6_succeedsToPut_4 : decode cX6_succeedsToPut 4 = .ok (.if_icmp .gt 11, 3) := by decide +kernel
theorem dX6_succeedsToPut_7 : decode cX6_succeedsToPut 7 = .ok (.aload_n 0, 1) := by decide +kernel
theorem dX6_succeedsToPut_8 : decode cX6_succeedsToPut 8 = .ok (.iload_n 1, 1) := by decide +kernel
theorem dX6_succeedsToPut_9 : decode cX6_succeedsToPut 9 = .ok (.invokevirtual 170, 3) := by decide +kernel
theorem dX6_succeedsToPut_12 : decode cX6_succeedsToPut 12 = .ok (.ifCond .ne 5, 3) := by decide +kernel
theorem dX6_succeedsToPut_15 : decode cX6_succeedsToPut 15 = .ok (.iconst 0, 1) := by decide +kernel
theorem dX6_succeedsToPut_16 : decode cX6_succeedsToPut 16 = .ok (.ireturn, 1) := by decide +kernel
theorem dX6_succeedsToPut_17 : decode cX6_succeedsToPut 17 = .ok (.aload_n 0, 1) := by decide +kernel
theorem dX6_succeedsToPut_18 : decode cX6_succeedsToPut 18 = .ok (.iload_n 1, 1) := by decide +kernel
theorem dX6_succeedsToPut_19 : decode cX6_succeedsToPut 19 = .ok (.invokevirtual 180, 3) := by decide +kernel
theorem dX6_succeedsToPut_22 : decode cX6_succeedsToPut 22 = .ok (.pop, 1) := by decide +kernel
theorem dX6_succeedsToPut_23 : decode cX6_succeedsToPut 23 = .ok (.iconst 1, 1) := by decide +kernel
theorem dX6_succeedsToPut_24 : decode cX6_succeedsToPut 24 = .ok (.ireturn, 1) := by decide +kernel
set_option maxRecDepth 20000 in
theorem ggX6_succeedsToKeep_X4_keeps : GoodIn wsX6_succeedsToKeep wsX4_keeps := goodIn_r _ [5, 6, 17, 18, 19, 20, 21, 22, 23, 24, 25, 26] (by decide +kernel) (by decide +kernel)
set_option maxRecDepth 20000 in
theorem gX6_succeedsToKeep_X4_keeps : GoodIn wsX6_succeedsToKeep (wsV RX6 195 RX4 yX4_keeps wsX4_keeps) := goodIn_app (goodIn_of _ (by decide +kernel)) ggX6_succeedsToKeep_X4_keeps
set_option maxRecDepth 20000 in
theorem ggX6_succeedsToKeep_X4_keep : GoodIn wsX6_succeedsToKeep wsX4_keep := goodIn_r _ [10, 11, 12, 6, 13, 14, 15, 4, 16, 17, 18, 19, 20, 21, 22, 23, 24, 25, 26] (by decide +kernel) (by decide +kernel)
set_option maxRecDepth 20000 in
theorem gX6_succeedsToKeep_X4_keep : GoodIn wsX6_succeedsToKeep (wsV RX6 200 RX4 yX4_keep wsX4_keep) := goodIn_app (goodIn_of _ (by decide +kernel)) ggX6_succeedsToKeep_X4_keep
theorem dX6_succeedsToKeep_0 : decode cX6_succeedsToKeep 0 = .ok (.iload_n 1, 1) := by decide +kernel
theorem dX6_succeedsToKeep_1 : decode cX6_succeedsToKeep 1 = .ok (.sipush 1000, 3) := by decide +kernel
theorem dX6_succeedsToKeep_4 : decode cX6_succeedsToKeep 4 = .ok (.idiv, 1) := by decide +kernel
theorem dX6_succeedsToKeep_5 : decode cX6_succeedsToKeep 5 = .ok (.istore_n 2, 1) := by decide +kernel
theorem dX6_succeedsToKeep_6 : decode cX6_succeedsToKeep 6 = .ok (.iload_n 1, 1) := by decide +kernel
theorem dX6_succeedsToKeep_7 : decode cX6_succeedsToKeep 7 = .ok (.sipush 1000, 3) := by decide +kernel
theorem dX6_succeedsToKeep_10 : decode cX6_succeedsToKeep 10 = .ok (.irem, 1) := by decide +kernel
theorem dX6_succeedsToKeep_11 : decode cX6_succeedsToKeep 11 = .ok (.ifCond .ne 17, 3) := by decide +kernel
theorem dX6_succeedsToKeep_14 : decode cX6_succeedsToKeep 14 = .ok (.iload_n 2, 1) := by decide +kernel
theorem dX6_succeedsToKeep_15 : decode cX6_succeedsToKeep 15 = .ok (.bipush 6, 2) := by decide +kernel
theorem dX6_succeedsToKeep_17 : decode cX6_succeedsToKeep 17 = .ok (.if_icmp .ge 11, 3) := by decide +kernel
theorem dX6_succeedsToKeep_20 : decode cX6_succeedsToKeep 20 = .ok (.aload_n 0, 1) := by decide +kernel
theorem dX6_succeedsToKeep_21 : decode cX6_succeedsToKeep 21 = .ok (.iload_n 2, 1) := by decide +kernel
theorem dX6_succeedsToKeep_22 : decode cX6_succeedsToKeep 22 = .ok (.invokevirtual 195, 3) := by decide +kernel
theorem dX6_succeedsToKeep_25 : decode cX6_succeedsToKeep 25 = .ok (.ifCond .eq 5, 3) := by decide +kernel
theorem dX6_succeedsToKeep_28 : decode cX6_succeedsToKeep 28 = .ok (.iconst 0, 1) := by decide +kernel
theorem dX6_succeedsToKeep_29 : decode cX6_succeedsToKeep 29 = .ok (.ireturn, 1) := by decide +kernel
theorem dX6_succeedsToKeep_30 : decode cX6_succeedsToKeep 30 = .ok (.aload_n 0, 1) := by decide +kernel
theorem dX6_succeedsToKeep_31 : decode cX6_succeedsToKeep 31 = .ok (.iload_n 2, 1) := by decide +kernel
theorem dX6_succeedsToKeep_32 : decode cX6_succeedsToKeep 32 = .ok (.invokevirtual 200, 3) := by decide +kernel
theorem dX6_succeedsToKeep_35 : decode cX6_succeedsToKeep 35 = .ok (.pop, 1) := by decide +kernel
theorem dX6_succeedsToKeep_36 : decode cX6_succeedsToKeep 36 = .ok (.iconst 1, 1) := by decide +kernel
theorem dX6_succeedsToKeep_37 : decode cX6_succeedsToKeep 37 = .ok (.ireturn, 1) := by decide +kernel
set_option maxRecDepth 20000 in
theorem ggX6_succeedsToDiscard_X4_keeps : GoodIn wsX6_succeedsToDiscard wsX4_keeps := goodIn_r _ [5, 6, 18, 19, 20, 21, 22, 23, 24, 25, 26, 27] (by decide +kernel) (by decide +kernel)
set_option maxRecDepth 20000 in
theorem gX6_succeedsToDiscard_X4_keeps : GoodIn wsX6_succeedsToDiscard (wsV RX6 195 RX4 yX4_keeps wsX4_keeps) := goodIn_app (goodIn_of _ (by decide +kernel)) ggX6_succeedsToDiscard_X4_keeps
set_option maxRecDepth 20000 in
theorem ggX6_succeedsToDiscard_X4_discard : GoodIn wsX6_succeedsToDiscard wsX4_discard := goodIn_r _ [10, 6, 11, 12, 13, 14, 15, 16, 17, 18, 19, 20, 21, 22, 23, 24, 25, 26, 27] (by decide +kernel) (by decide +kernel)
set_option maxRecDepth 20000 in
theorem gX6_succeedsToDiscard_X4_discard : GoodIn wsX6_succeedsToDiscard (wsV RX6 205 RX4 yX4_discard wsX4_discard) := goodIn_app (goodIn_of _ (by decide +kernel)) ggX6_succeedsToDiscard_X4_discard
theorem dX6_succeedsToDiscard_0 : decode cX6_succeedsToDiscard 0 = .ok (.iload_n 1, 1) := by decide +kernel
theorem dX6_succeedsToDiscard_1 : decode cX6_succeedsToDiscard 1 = .ok (.sipush 1000, 3) := by decide +kernel
theorem dX6_succeedsToDiscard_4 : decode cX6_succeedsToDiscard 4 = .ok (.idiv, 1) := by decide +kernel
theorem dX6_succeedsToDiscard_5 : decode cX6_succeedsToDiscard 5 = .ok (.istore_n 2, 1) := by decide +kernel
theorem dX6_succeedsToDiscard_6 : decode cX6_succeedsToDiscard 6 = .ok (.iload_n 1, 1) := by decide +kernel
theorem dX6_succeedsToDiscard_7 : decode cX6_succeedsToDiscard 7 = .ok (.sipush 1000, 3) := by decide +kernel
theorem dX6_succeedsToDiscard_10 : decode cX6_succeedsToDiscard 10 = .ok (.irem, 1) := by decide +kernel
theorem dX6_succeedsToDiscard_11 : decode cX6_succeedsToDiscard 11 = .ok (.ifCond .ne 17, 3) := by decide +kernel
theorem dX6_succeedsToDiscard_14 : decode cX6_succeedsToDiscard 14 = .ok (.iload_n 2, 1) := by decide +kernel
theorem dX6_succeedsToDiscard_15 : decode cX6_succeedsToDiscard 15 = .ok (.bipush 6, 2) := by decide +kernel
theorem dX6_succeedsToDiscard_17 : decode cX6_succeedsToDiscard 17 = .ok (.if_icmp .ge 11, 3) := by decide +kernel
theorem dX6_succeedsToDiscard_20 : decode cX6_succeedsToDiscard 20 = .ok (.aload_n 0, 1) := by decide +kernel
theorem dX6_succeedsToDiscard_21 : decode cX6_succeedsToDiscard 21 = .ok (.iload_n 2, 1) := by decide +kernel
theorem dX6_succeedsToDiscard_22 : decode cX6_succeedsToDiscard 22 = .ok (.invokevirtual 195, 3) := by decide +kernel
theorem dX6_succeedsToDiscard_25 : decode cX6_succeedsToDiscard 25 = .ok (.ifCond .ne 5, 3) := by decide +kernel
theorem dX6_succeedsToDiscard_28 : decode cX6_succeedsToDiscard 28 = .ok (.iconst 0, 1) := by decide +kernel
theorem dX6_succeedsToDiscard_29 : decode cX6_succeedsToDiscard 29 = .ok (.ireturn, 1) := by decide +kernel
theorem dX6_succeedsToDiscard_30 : decode cX6_succeedsToDiscard 30 = .ok (.aload_n 0, 1) := by decide +kernel
theorem dX6_succeedsToDiscard_31 : decode cX6_succeedsToDiscard 31 = .ok (.iload_n 2, 1) := by decide +kernel
theorem dX6_succeedsToDiscard_32 : decode cX6_succeedsToDiscard 32 = .ok (.invokevirtual 205, 3) := by decide +kernel
theorem dX6_succeedsToDiscard_35 : decode cX6_succeedsToDiscard 35 = .ok (.pop, 1) := by decide +kernel
theorem dX6_succeedsToDiscard_36 : decode cX6_succeedsToDiscard 36 = .ok (.iconst 1, 1) := by decide +kernel
theorem dX6_succeedsToDiscard_37 : decode cX6_succeedsToDiscard 37 = .ok (.ireturn, 1) := by decide +kernel
set_option maxRecDepth 20000 in
theorem ggX6_takeTurn_X4_canPut : GoodIn wsX6_takeTurn wsX4_canPut := goodIn_r _ [10, 11, 12, 13, 14, 15, 9, 16, 17, 18, 19, 20, 163, 164, 165, 166, 167, 168, 169, 170, 171, 172] (by decide +kernel) (by decide +kernel)
set_option maxRecDepth 20000 in
theorem gX6_takeTurn_X4_canPut : GoodIn wsX6_takeTurn (wsV RX6 170 RX4 yX4_canPut wsX4_canPut) := goodIn_app (goodIn_of _ (by decide +kernel)) ggX6_takeTurn_X4_canPut
set_option maxRecDepth 20000 in
theorem ggX6_takeTurn_X4_put : GoodIn wsX6_takeTurn wsX4_put := goodIn_r _ [24, 11, 12, 13, 14, 15, 9, 16, 17, 18, 19, 20, 25, 26, 27, 28, 29, 30, 31, 32, 33, 34, 35, 36, 37, 38, 39, 40, 41, 163, 164, 165, 166, 167, 168, 169, 170, 171, 172] (by decide +kernel) (by decide +kernel)
set_option maxRecDepth 20000 in
theorem gX6_takeTurn_X4_put : GoodIn wsX6_takeTurn (wsV RX6 180 RX4 yX4_put wsX4_put) := goodIn_app (goodIn_of _ (by decide +kernel)) ggX6_takeTurn_X4_put
set_option maxRecDepth 20000 in
theorem ggX6_takeTurn_X4_take : GoodIn wsX6_takeTurn wsX4_take := goodIn_r _ [45, 11, 12, 13, 14, 15, 9, 16, 17, 18, 19, 20, 25, 26, 27, 28, 29, 30, 31, 32, 33, 34, 35, 36, 37, 38, 39, 40, 41, 163, 164, 165, 166, 167, 168, 169, 170, 171, 172] (by decide +kernel) (by decide +kernel)
set_option maxRecDepth 20000 in
theorem gX6_takeTurn_X4_take : GoodIn wsX6_takeTurn (wsV RX6 189 RX4 yX4_take wsX4_take) := goodIn_app (goodIn_of _ (by decide +kernel)) ggX6_takeTurn_X4_take
set_option maxRecDepth 20000 in
theorem ggX6_takeTurn_X2_questionOf : GoodIn wsX6_takeTurn wsX2_questionOf := goodIn_r _ [49] (by decide +kernel) (by decide +kernel)
set_option maxRecDepth 20000 in
theorem gX6_takeTurn_X2_questionOf : GoodIn wsX6_takeTurn (va_wsS RX6 336 yX2_questionOf wsX2_questionOf) := goodIn_app (goodIn_of _ (by decide +kernel)) ggX6_takeTurn_X2_questionOf
set_option maxRecDepth 20000 in
theorem ggX6_takeTurn_X4_noteQuestion : GoodIn wsX6_takeTurn wsX4_noteQuestion := goodIn_r _ [53, 54, 55, 56, 57, 58, 59, 60, 9, 61, 11, 62, 2, 3, 4, 63, 64, 65, 66, 30, 67, 68, 69, 70, 71, 72, 48, 73, 74, 75, 76, 77, 78, 79, 80, 38, 39, 40, 41, 81, 82, 83, 84, 85, 86, 87, 88, 89, 90, 17, 18, 19, 20, 12, 91, 92, 93, 94, 95, 96, 97, 163, 164, 165, 166, 167, 168, 169, 170, 171, 172] (by decide +kernel) (by decide +kernel)
set_option maxRecDepth 20000 in
theorem gX6_takeTurn_X4_noteQuestion : GoodIn wsX6_takeTurn (wsV RX6 192 RX4 yX4_noteQuestion wsX4_noteQuestion) := goodIn_app (goodIn_of _ (by decide +kernel)) ggX6_takeTurn_X4_noteQuestion
set_option maxRecDepth 20000 in
theorem ggX6_takeTurn_X0_follow : GoodIn wsX6_takeTurn wsX0_follow := goodIn_r _ [102, 103, 104, 105, 101, 106, 107, 108, 109, 110, 111, 112, 113, 39, 40, 9, 41, 11, 114, 115, 116, 117, 56, 57, 118, 68, 69, 70, 71, 72, 48, 73, 74, 75, 76, 77, 78, 79, 80, 38, 81, 82, 83, 84, 85, 86, 87, 88, 89, 90, 17, 18, 19, 20, 12, 91, 92, 93, 119, 120, 121, 122, 123, 124, 125, 126, 127, 128, 129, 130, 131, 132, 133, 134, 135, 136, 137, 138, 2, 3, 4, 139, 140, 141, 142, 143, 144, 145, 146, 147, 30, 148, 149, 150, 151, 152, 153, 154, 155, 31, 32, 33, 34, 35, 36, 37, 163, 164, 165, 166, 167, 168, 169, 170, 171, 172, 173, 174, 175, 176, 177, 178] (by decide +kernel) (by decide +kernel)
set_option maxRecDepth 20000 in
theorem gX6_takeTurn_X0_follow : GoodIn wsX6_takeTurn (wsV RX6 208 RX0 yX0_follow wsX0_follow) := goodIn_app (goodIn_of _ (by decide +kernel)) ggX6_takeTurn_X0_follow
theorem dX6_takeTurn_0 : decode cX6_takeTurn 0 = .ok (.iload_n 2, 1) := by decide +kernel
theorem dX6_takeTurn_1 : decode cX6_takeTurn 1 = .ok (.bipush 16, 2) := by decide +kernel
theorem dX6_takeTurn_3 : decode cX6_takeTurn 3 = .ok (.irem, 1) := by decide +kernel
theorem dX6_takeTurn_4 : decode cX6_takeTurn 4 = .ok (.istore_n 3, 1) := by decide +kernel
theorem dX6_takeTurn_5 : decode cX6_takeTurn 5 = .ok (.bipush 100, 2) := by decide +kernel
theorem dX6_takeTurn_7 : decode cX6_takeTurn 7 = .ok (.iload_n 2, 1) := by decide +kernel
theorem dX6_takeTurn_8 : decode cX6_takeTurn 8 = .ok (.bipush 16, 2) := by decide +kernel
theorem dX6_takeTurn_10 : decode cX6_takeTurn 10 = .ok (.idiv, 1) := by decide +kernel
theorem dX6_takeTurn_11 : decode cX6_takeTurn 11 = .ok (.iconst 4, 1) := by decide +kernel
theorem dX6_takeTurn_12 : decode cX6_takeTurn 12 = .ok (.irem, 1) := by decide +kernel
theorem dX6_takeTurn_13 : decode cX6_takeTurn 13 = .ok (.imul, 1) := by decide +kernel
theorem dX6_takeTurn_14 : decode cX6_takeTurn 14 = .ok (.bipush 10, 2) := by decide +kernel
theorem dX6_takeTurn_16 : decode cX6_takeTurn 16 = .ok (.iload_n 2, 1) := by decide +kernel
theorem dX6_takeTurn_17 : decode cX6_takeTurn 17 = .ok (.bipush 64, 2) := by decide +kernel
theorem dX6_takeTurn_19 : decode cX6_takeTurn 19 = .ok (.idiv, 1) := by decide +kernel
theorem dX6_takeTurn_20 : decode cX6_takeTurn 20 = .ok (.iconst 4, 1) := by decide +kernel
theorem dX6_takeTurn_21 : decode cX6_takeTurn 21 = .ok (.irem, 1) := by decide +kernel
theorem dX6_takeTurn_22 : decode cX6_takeTurn 22 = .ok (.imul, 1) := by decide +kernel
theorem dX6_takeTurn_23 : decode cX6_takeTurn 23 = .ok (.iadd, 1) := by decide +kernel
theorem dX6_takeTurn_24 : decode cX6_takeTurn 24 = .ok (.iload_n 2, 1) := by decide +kernel
theorem dX6_takeTurn_25 : decode cX6_takeTurn 25 = .ok (.sipush 256, 3) := by decide +kernel
theorem dX6_takeTurn_28 : decode cX6_takeTurn 28 = .ok (.idiv, 1) := by decide +kernel
theorem dX6_takeTurn_29 : decode cX6_takeTurn 29 = .ok (.iconst 4, 1) := by decide +kernel
theorem dX6_takeTurn_30 : decode cX6_takeTurn 30 = .ok (.irem, 1) := by decide +kernel
theorem dX6_takeTurn_31 : decode cX6_takeTurn 31 = .ok (.iadd, 1) := by decide +kernel
theorem dX6_takeTurn_32 : decode cX6_takeTurn 32 = .ok (.istore 4, 2) := by decide +kernel
theorem dX6_takeTurn_34 : decode cX6_takeTurn 34 = .ok (.iload_n 3, 1) := by decide +kernel
theorem dX6_takeTurn_35 : decode cX6_takeTurn 35 = .ok (.iconst 5, 1) := by decide +kernel
theorem dX6_takeTurn_36 : decode cX6_takeTurn 36 = .ok (.if_icmp .ge 22, 3) := by decide +kernel
theorem dX6_takeTurn_39 : decode cX6_takeTurn 39 = .ok (.aload_n 1, 1) := by decide +kernel
theorem dX6_takeTurn_40 : decode cX6_takeTurn 40 = .ok (.iload 4, 2) := by decide +kernel
theorem dX6_takeTurn_42 : decode cX6_takeTurn 42 = .ok (.invokevirtual 170, 3) := by decide +kernel
theorem dX6_takeTurn_45 : decode cX6_takeTurn 45 = .ok (.ifCond .eq 104, 3) := by decide +kernel
theorem dX6_takeTurn_48 : decode cX6_takeTurn 48 = .ok (.aload_n 1, 1) := by decide +kernel
theorem dX6_takeTurn_49 : decode cX6_takeTurn 49 = .ok (.iload 4, 2) := by decide +kernel
theorem dX6_takeTurn_51 : decode cX6_takeTurn 51 = .ok (.invokevirtual 180, 3) := by decide +kernel
theorem dX6_takeTurn_54 : decode cX6_takeTurn 54 = .ok (.pop, 1) := by decide +kernel
theorem dX6_takeTurn_55 : decode cX6_takeTurn 55 = .ok (.goto 94, 3) := by decide +kernel
theorem dX6_takeTurn_58 : decode cX6_takeTurn 58 = .ok (.iload_n 3, 1) := by decide +kernel
theorem dX6_takeTurn_59 : decode cX6_takeTurn 59 = .ok (.iconst 5, 1) := by decide +kernel
theorem dX6_takeTurn_60 : decode cX6_takeTurn 60 = .ok (.if_icmp .ne 13, 3) := by decide +kernel
theorem dX6_takeTurn_63 : decode cX6_takeTurn 63 = .ok (.aload_n 1, 1) := by decide +kernel
theorem dX6_takeTurn_64 : decode cX6_takeTurn 64 = .ok (.iload 4, 2) := by decide +kernel
theorem dX6_takeTurn_66 : decode cX6_takeTurn 66 = .ok (.invokevirtual 189, 3) := by decide +kernel
theorem dX6_takeTurn_69 : decode cX6_takeTurn 69 = .ok (.pop, 1) := by decide +kernel
theorem dX6_takeTurn_70 : decode cX6_takeTurn 70 = .ok (.goto 79, 3) := by decide +kernel
theorem dX6_takeTurn_73 : decode cX6_takeTurn 73 = .ok (.iload_n 3, 1) := by decide +kernel
theorem dX6_takeTurn_74 : decode cX6_takeTurn 74 = .ok (.bipush 14, 2) := by decide +kernel
theorem dX6_takeTurn_76 : decode cX6_takeTurn 76 = .ok (.if_icmp .ge 64, 3) := by decide +kernel
theorem dX6_takeTurn_79 : decode cX6_takeTurn 79 = .ok (.bipush 10, 2) := by decide +kernel
theorem dX6_takeTurn_81 : decode cX6_takeTurn 81 = .ok (.iload_n 2, 1) := by decide +kernel
theorem dX6_takeTurn_82 : decode cX6_takeTurn 82 = .ok (.bipush 16, 2) := by decide +kernel
theorem dX6_takeTurn_84 : decode cX6_takeTurn 84 = .ok (.idiv, 1) := by decide +kernel
theorem dX6_takeTurn_85 : decode cX6_takeTurn 85 = .ok (.bipush 16, 2) := by decide +kernel
theorem dX6_takeTurn_87 : decode cX6_takeTurn 87 = .ok (.irem, 1) := by decide +kernel
theorem dX6_takeTurn_88 : decode cX6_takeTurn 88 = .ok (.invokestatic 277, 3) := by decide +kernel
theorem dX6_takeTurn_91 : decode cX6_takeTurn 91 = .ok (.istore 5, 2) := by decide +kernel
theorem dX6_takeTurn_93 : decode cX6_takeTurn 93 = .ok (.bipush 10, 2) := by decide +kernel
theorem dX6_takeTurn_95 : decode cX6_takeTurn 95 = .ok (.iload_n 2, 1) := by decide +kernel
theorem dX6_takeTurn_96 : decode cX6_takeTurn 96 = .ok (.sipush 256, 3) := by decide +kernel
theorem dX6_takeTurn_99 : decode cX6_takeTurn 99 = .ok (.idiv, 1) := by decide +kernel
theorem dX6_takeTurn_100 : decode cX6_takeTurn 100 = .ok (.bipush 16, 2) := by decide +kernel
theorem dX6_takeTurn_102 : decode cX6_takeTurn 102 = .ok (.irem, 1) := by decide +kernel
theorem dX6_takeTurn_103 : decode cX6_takeTurn 103 = .ok (.invokestatic 277, 3) := by decide +kernel
theorem dX6_takeTurn_106 : decode cX6_takeTurn 106 = .ok (.istore 6, 2) := by decide +kernel
theorem dX6_takeTurn_108 : decode cX6_takeTurn 108 = .ok (.bipush 10, 2) := by decide +kernel
theorem dX6_takeTurn_110 : decode cX6_takeTurn 110 = .ok (.iload_n 2, 1) := by decide +kernel
theorem dX6_takeTurn_111 : decode cX6_takeTurn 111 = .ok (.sipush 4096, 3) := by decide +kernel
theorem dX6_takeTurn_114 : decode cX6_takeTurn 114 = .ok (.idiv, 1) := by decide +kernel
theorem dX6_takeTurn_115 : decode cX6_takeTurn 115 = .ok (.bipush 16, 2) := by decide +kernel
theorem dX6_takeTurn_117 : decode cX6_takeTurn 117 = .ok (.irem, 1) := by decide +kernel
theorem dX6_takeTurn_118 : decode cX6_takeTurn 118 = .ok (.invokestatic 277, 3) := by decide +kernel
theorem dX6_takeTurn_121 : decode cX6_takeTurn 121 = .ok (.istore 7, 2) := by decide +kernel
theorem dX6_takeTurn_123 : decode cX6_takeTurn 123 = .ok (.aload_n 1, 1) := by decide +kernel
theorem dX6_takeTurn_124 : decode cX6_takeTurn 124 = .ok (.iload 5, 2) := by decide +kernel
theorem dX6_takeTurn_126 : decode cX6_takeTurn 126 = .ok (.iload 6, 2) := by decide +kernel
theorem dX6_takeTurn_128 : decode cX6_takeTurn 128 = .ok (.iload 7, 2) := by decide +kernel
theorem dX6_takeTurn_130 : decode cX6_takeTurn 130 = .ok (.invokestatic 336, 3) := by decide +kernel
theorem dX6_takeTurn_133 : decode cX6_takeTurn 133 = .ok (.invokevirtual 192, 3) := by decide +kernel
theorem dX6_takeTurn_136 : decode cX6_takeTurn 136 = .ok (.pop, 1) := by decide +kernel
theorem dX6_takeTurn_137 : decode cX6_takeTurn 137 = .ok (.goto 12, 3) := by decide +kernel
theorem dX6_takeTurn_140 : decode cX6_takeTurn 140 = .ok (.aload_n 0, 1) := by decide +kernel
theorem dX6_takeTurn_141 : decode cX6_takeTurn 141 = .ok (.getfield 36, 3) := by decide +kernel
theorem dX6_takeTurn_144 : decode cX6_takeTurn 144 = .ok (.aload_n 1, 1) := by decide +kernel
theorem dX6_takeTurn_145 : decode cX6_takeTurn 145 = .ok (.invokevirtual 208, 3) := by decide +kernel
theorem dX6_takeTurn_148 : decode cX6_takeTurn 148 = .ok (.pop, 1) := by decide +kernel
theorem dX6_takeTurn_149 : decode cX6_takeTurn 149 = .ok (.return_, 1) := by decide +kernel
theorem dX6_slotOf_0 : decode cX6_slotOf 0 = .ok (.iload_n 1, 1) := by decide +kernel
theorem dX6_slotOf_1 : decode cX6_slotOf 1 = .ok (.ifCond .ne 10, 3) := by decide +kernel
theorem dX6_slotOf_4 : decode cX6_slotOf 4 = .ok (.aload_n 0, 1) := by decide +kernel
theorem dX6_slotOf_5 : decode cX6_slotOf 5 = .ok (.getfield 43, 3) := by decide +kernel
theorem dX6_slotOf_8 : decode cX6_slotOf 8 = .ok (.goto 7, 3) := by decide +kernel
theorem dX6_slotOf_11 : decode cX6_slotOf 11 = .ok (.aload_n 0, 1) := by decide +kernel
theorem dX6_slotOf_12 : decode cX6_slotOf 12 = .ok (.getfield 47, 3) := by decide +kernel
theorem dX6_slotOf_15 : decode cX6_slotOf 15 = .ok (.areturn, 1) := by decide +kernel
theorem dX7_init_0 : decode cX7_init 0 = .ok (.aload_n 0, 1) := by decide +kernel
theorem dX7_init_1 : decode cX7_init 1 = .ok (.invokespecial 1, 3) := by decide +kernel
theorem dX7_init_4 : decode cX7_init 4 = .ok (.aload_n 0, 1) := by decide +kernel
theorem dX7_init_5 : decode cX7_init 5 = .ok (.bipush 60, 2) := by decide +kernel
theorem dX7_init_7 : decode cX7_init 7 = .ok (.newarray .int, 2) := by decide +kernel
theorem dX7_init_9 : decode cX7_init 9 = .ok (.putfield 7, 3) := by decide +kernel
theorem dX7_init_12 : decode cX7_init 12 = .ok (.aload_n 0, 1) := by decide +kernel
theorem dX7_init_13 : decode cX7_init 13 = .ok (.bipush 60, 2) := by decide +kernel
theorem dX7_init_15 : decode cX7_init 15 = .ok (.newarray .int, 2) := by decide +kernel
theorem dX7_init_17 : decode cX7_init 17 = .ok (.putfield 13, 3) := by decide +kernel
theorem dX7_init_20 : decode cX7_init 20 = .ok (.aload_n 0, 1) := by decide +kernel
theorem dX7_init_21 : decode cX7_init 21 = .ok (.sipush 840, 3) := by decide +kernel
theorem dX7_init_24 : decode cX7_init 24 = .ok (.newarray .int, 2) := by decide +kernel
theorem dX7_init_26 : decode cX7_init 26 = .ok (.putfield 16, 3) := by decide +kernel
theorem dX7_init_29 : decode cX7_init 29 = .ok (.aload_n 0, 1) := by decide +kernel
theorem dX7_init_30 : decode cX7_init 30 = .ok (.bipush 120, 2) := by decide +kernel
theorem dX7_init_32 : decode cX7_init 32 = .ok (.newarray .int, 2) := by decide +kernel
theorem dX7_init_34 : decode cX7_init 34 = .ok (.putfield 19, 3) := by decide +kernel
theorem dX7_init_37 : decode cX7_init 37 = .ok (.aload_n 0, 1) := by decide +kernel
theorem dX7_init_38 : decode cX7_init 38 = .ok (.iconst 2, 1) := by decide +kernel
theorem dX7_init_39 : decode cX7_init 39 = .ok (.newarray .boolean, 2) := by decide +kernel
theorem dX7_init_41 : decode cX7_init 41 = .ok (.putfield 22, 3) := by decide +kernel
theorem dX7_init_44 : decode cX7_init 44 = .ok (.aload_n 0, 1) := by decide +kernel
theorem dX7_init_45 : decode cX7_init 45 = .ok (.bipush 100, 2) := by decide +kernel
theorem dX7_init_47 : decode cX7_init 47 = .ok (.newarray .byte, 2) := by decide +kernel
theorem dX7_init_49 : decode cX7_init 49 = .ok (.putfield 26, 3) := by decide +kernel
theorem dX7_init_52 : decode cX7_init 52 = .ok (.aload_n 0, 1) := by decide +kernel
theorem dX7_init_53 : decode cX7_init 53 = .ok (.getfield 7, 3) := by decide +kernel
theorem dX7_init_56 : decode cX7_init 56 = .ok (.bipush 41, 2) := by decide +kernel
theorem dX7_init_58 : decode cX7_init 58 = .ok (.iconst 1, 1) := by decide +kernel
theorem dX7_init_59 : decode cX7_init 59 = .ok (.iastore, 1) := by decide +kernel
theorem dX7_init_60 : decode cX7_init 60 = .ok (.aload_n 0, 1) := by decide +kernel
theorem dX7_init_61 : decode cX7_init 61 = .ok (.getfield 7, 3) := by decide +kernel
theorem dX7_init_64 : decode cX7_init 64 = .ok (.bipush 59, 2) := by decide +kernel
theorem dX7_init_66 : decode cX7_init 66 = .ok (.iconst 4, 1) := by decide +kernel
theorem dX7_init_67 : decode cX7_init 67 = .ok (.iastore, 1) := by decide +kernel
theorem dX7_init_68 : decode cX7_init 68 = .ok (.return_, 1) := by decide +kernel
theorem dX7_thrown_0 : decode cX7_thrown 0 = .ok (.aload_n 0, 1) := by decide +kernel
theorem dX7_thrown_1 : decode cX7_thrown 1 = .ok (.getfield 30, 3) := by decide +kernel
theorem dX7_thrown_4 : decode cX7_thrown 4 = .ok (.ireturn, 1) := by decide +kernel
theorem dX7_in_0 : decode cX7_in 0 = .ok (.lload_n 0, 1) := by decide +kernel
theorem dX7_in_1 : decode cX7_in 1 = .ok (.lload_n 2, 1) := by decide +kernel
theorem dX7_in_2 : decode cX7_in 2 = .ok (.lcmp, 1) := by decide +kernel
theorem dX7_in_3 : decode cX7_in 3 = .ok (.ifCond .lt 14, 3) := by decide +kernel
theorem dX7_in_6 : decode cX7_in 6 = .ok (.lload_n 0, 1) := by decide +kernel
theorem dX7_in_7 : decode cX7_in 7 = .ok (.lload 4, 2) := by decide +kernel
theorem dX7_in_9 : decode cX7_in 9 = .ok (.lcmp, 1) := by decide +kernel
theorem dX7_in_10 : decode cX7_in 10 = .ok (.ifCond .gt 7, 3) := by decide +kernel
theorem dX7_in_13 : decode cX7_in 13 = .ok (.iconst 1, 1) := by decide +kernel
theorem dX7_in_14 : decode cX7_in 14 = .ok (.goto 4, 3) := by decide +kernel
theorem dX7_in_17 : decode cX7_in 17 = .ok (.iconst 0, 1) := by decide +kernel
theorem dX7_in_18 : decode cX7_in 18 = .ok (.ireturn, 1) := by decide +kernel
theorem dX7_holds_0 : decode cX7_holds 0 = .ok (.aload_n 0, 1) := by decide +kernel
theorem dX7_holds_1 : decode cX7_holds 1 = .ok (.iload_n 1, 1) := by decide +kernel
theorem dX7_holds_2 : decode cX7_holds 2 = .ok (.putfield 30, 3) := by decide +kernel
theorem dX7_holds_5 : decode cX7_holds 5 = .ok (.iload_n 1, 1) := by decide +kernel
theorem dX7_holds_6 : decode cX7_holds 6 = .ok (.ifCond .ne 7, 3) := by decide +kernel
theorem dX7_holds_9 : decode cX7_holds 9 = .ok (.iconst 1, 1) := by decide +kernel
theorem dX7_holds_10 : decode cX7_holds 10 = .ok (.goto 4, 3) := by decide +kernel
theorem dX7_holds_13 : decode cX7_holds 13 = .ok (.iconst 0, 1) := by decide +kernel
theorem dX7_holds_14 : decode cX7_holds 14 = .ok (.ireturn, 1) := by decide +kernel
theorem dX7_remember_0 : decode cX7_remember 0 = .ok (.aload_n 0, 1) := by decide +kernel
theorem dX7_remember_1 : decode cX7_remember 1 = .ok (.getfield 34, 3) := by decide +kernel
theorem dX7_remember_4 : decode cX7_remember 4 = .ok (.bipush 14, 2) := by decide +kernel
theorem dX7_remember_6 : decode cX7_remember 6 = .ok (.if_icmp .ne 43, 3) := by decide +kernel
theorem dX7_remember_9 : decode cX7_remember 9 = .ok (.iconst 0, 1) := by decide +kernel
theorem dX7_remember_10 : decode cX7_remember 10 = .ok (.istore_n 1, 1) := by decide +kernel
theorem dX7_remember_11 : decode cX7_remember 11 = .ok (.iload_n 1, 1) := by decide +kernel
theorem dX7_remember_12 : decode cX7_remember 12 = .ok (.sipush 780, 3) := by decide +kernel
theorem dX7_remember_15 : decode cX7_remember 15 = .ok (.if_icmp .ge 24, 3) := by decide +kernel
theorem dX7_remember_18 : decode cX7_remember 18 = .ok (.aload_n 0, 1) := by decide +kernel
theorem dX7_remember_19 : decode cX7_remember 19 = .ok (.getfield 16, 3) := by decide +kernel
theorem dX7_remember_22 : decode cX7_remember 22 = .ok (.iload_n 1, 1) := by decide +kernel
theorem dX7_remember_23 : decode cX7_remember 23 = .ok (.aload_n 0, 1) := by decide +kernel
theorem dX7_remember_24 : decode cX7_remember 24 = .ok (.getfield 16, 3) := by decide +kernel
theorem dX7_remember_27 : decode cX7_remember 27 = .ok (.bipush 60, 2) := by decide +kernel
theorem dX7_remember_29 : decode cX7_remember 29 = .ok (.iload_n 1, 1) := by decide +kernel
theorem dX7_remember_30 : decode cX7_remember 30 = .ok (.iadd, 1) := by decide +kernel
theorem dX7_remember_31 : decode cX7_remember 31 = .ok (.iaload, 1) := by decide +kernel
theorem dX7_remember_32 : decode cX7_remember 32 = .ok (.iastore, 1) := by decide +kernel
theorem dX7_remember_33 : decode cX7_remember 33 = .ok (.iinc 1 1, 3) := by decide +kernel
theorem dX7_remember_36 : decode cX7_remember 36 = .ok (.goto (-25), 3) := by decide +kernel
theorem dX7_remember_39 : decode cX7_remember 39 = .ok (.aload_n 0, 1) := by decide +kernel
theorem dX7_remember_40 : decode cX7_remember 40 = .ok (.dup, 1) := by decide +kernel
theorem dX7_remember_41 : decode cX7_remember 41 = .ok (.getfield 34, 3) := by decide +kernel
theorem dX7_remember_44 : decode cX7_remember 44 = .ok (.iconst 1, 1) := by decide +kernel
theorem dX7_remember_45 : decode cX7_remember 45 = .ok (.isub, 1) := by decide +kernel
theorem dX7_remember_46 : decode cX7_remember 46 = .ok (.putfield 34, 3) := by decide +kernel
theorem dX7_remember_49 : decode cX7_remember 49 = .ok (.iconst 0, 1) := by decide +kernel
theorem dX7_remember_50 : decode cX7_remember 50 = .ok (.istore_n 1, 1) := by decide +kernel
theorem dX7_remember_51 : decode cX7_remember 51 = .ok (.iload_n 1, 1) := by decide +kernel
theorem dX7_remember_52 : decode cX7_remember 52 = .ok (.bipush 60, 2) := by decide +kernel
theorem dX7_remember_54 : decode cX7_remember 54 = .ok (.if_icmp .ge 29, 3) := by decide +kernel
theorem dX7_remember_57 : decode cX7_remember 57 = .ok (.aload_n 0, 1) := by decide +kernel
theorem dX7_remember_58 : decode cX7_remember 58 = .ok (.getfield 16, 3) := by decide +kernel
theorem dX7_remember_61 : decode cX7_remember 61 = .ok (.bipush 60, 2) := by decide +kernel
theorem dX7_remember_63 : decode cX7_remember 63 = .ok (.aload_n 0, 1) := by decide +kernel
theorem dX7_remember_64 : decode cX7_remember 64 = .ok (.getfield 34, 3) := by decide +kernel
theorem dX7_remember_67 : decode cX7_remember 67 = .ok (.imul, 1) := by decide +kernel
theorem dX7_remember_68 : decode cX7_remember 68 = .ok (.iload_n 1, 1) := by decide +kernel
theorem dX7_remember_69 : decode cX7_remember 69 = .ok (.iadd, 1) := by decide +kernel
theorem dX7_remember_70 : decode cX7_remember 70 = .ok (.aload_n 0, 1) := by decide +kernel
theorem dX7_remember_71 : decode cX7_remember 71 = .ok (.getfield 7, 3) := by decide +kernel
theorem dX7_remember_74 : decode cX7_remember 74 = .ok (.iload_n 1, 1) := by decide +kernel
theorem dX7_remember_75 : decode cX7_remember 75 = .ok (.iaload, 1) := by decide +kernel
theorem dX7_remember_76 : decode cX7_remember 76 = .ok (.iastore, 1) := by decide +kernel
theorem dX7_remember_77 : decode cX7_remember 77 = .ok (.iinc 1 1, 3) := by decide +kernel
theorem dX7_remember_80 : decode cX7_remember 80 = .ok (.goto (-29), 3) := by decide +kernel
theorem dX7_remember_83 : decode cX7_remember 83 = .ok (.aload_n 0, 1) := by decide +kernel
theorem dX7_remember_84 : decode cX7_remember 84 = .ok (.dup, 1) := by decide +kernel
theorem dX7_remember_85 : decode cX7_remember 85 = .ok (.getfield 34, 3) := by decide +kernel
theorem dX7_remember_88 : decode cX7_remember 88 = .ok (.iconst 1, 1) := by decide +kernel
theorem dX7_remember_89 : decode cX7_remember 89 = .ok (.iadd, 1) := by decide +kernel
theorem dX7_remember_90 : decode cX7_remember 90 = .ok (.putfield 34, 3) := by decide +kernel
theorem dX7_remember_93 : decode cX7_remember 93 = .ok (.return_, 1) := by decide +kernel
theorem dX7_putAside_0 : decode cX7_putAside 0 = .ok (.iconst 0, 1) := by decide +kernel
theorem dX7_putAside_1 : decode cX7_putAside 1 = .ok (.istore_n 1, 1) := by decide +kernel
theorem dX7_putAside_2 : decode cX7_putAside 2 = .ok (.iload_n 1, 1) := by decide +kernel
theorem dX7_putAside_3 : decode cX7_putAside 3 = .ok (.bipush 60, 2) := by decide +kernel
theorem dX7_putAside_5 : decode cX7_putAside 5 = .ok (.if_icmp .ge 21, 3) := by decide +kernel
theorem dX7_putAside_8 : decode cX7_putAside 8 = .ok (.aload_n 0, 1) := by decide +kernel
theorem dX7_putAside_9 : decode cX7_putAside 9 = .ok (.getfield 13, 3) := by decide +kernel
theorem dX7_putAside_12 : decode cX7_putAside 12 = .ok (.iload_n 1, 1) := by decide +kernel
theorem dX7_putAside_13 : decode cX7_putAside 13 = .ok (.aload_n 0, 1) := by decide +kernel
theorem dX7_putAside_14 : decode cX7_putAside 14 = .ok (.getfield 7, 3) := by decide +kernel
theorem dX7_putAside_17 : decode cX7_putAside 17 = .ok (.iload_n 1, 1) := by decide +kernel
theorem dX7_putAside_18 : decode cX7_putAside 18 = .ok (.iaload, 1) := by decide +kernel
theorem dX7_putAside_19 : decode cX7_putAside 19 = .ok (.iastore, 1) := by decide +kernel
theorem dX7_putAside_20 : decode cX7_putAside 20 = .ok (.iinc 1 1, 3) := by decide +kernel
theorem dX7_putAside_23 : decode cX7_putAside 23 = .ok (.goto (-21), 3) := by decide +kernel
theorem dX7_putAside_26 : decode cX7_putAside 26 = .ok (.return_, 1) := by decide +kernel
theorem dX7_putBack_0 : decode cX7_putBack 0 = .ok (.iconst 0, 1) := by decide +kernel
theorem dX7_putBack_1 : decode cX7_putBack 1 = .ok (.istore_n 1, 1) := by decide +kernel
theorem dX7_putBack_2 : decode cX7_putBack 2 = .ok (.iload_n 1, 1) := by decide +kernel
theorem dX7_putBack_3 : decode cX7_putBack 3 = .ok (.bipush 60, 2) := by decide +kernel
theorem dX7_putBack_5 : decode cX7_putBack 5 = .ok (.if_icmp .ge 21, 3) := by decide +kernel
theorem dX7_putBack_8 : decode cX7_putBack 8 = .ok (.aload_n 0, 1) := by decide +kernel
theorem dX7_putBack_9 : decode cX7_putBack 9 = .ok (.getfield 7, 3) := by decide +kernel
theorem dX7_putBack_12 : decode cX7_putBack 12 = .ok (.iload_n 1, 1) := by decide +kernel
theorem dX7_putBack_13 : decode cX7_putBack 13 = .ok (.aload_n 0, 1) := by decide +kernel
theorem dX7_putBack_14 : decode cX7_putBack 14 = .ok (.getfield 13, 3) := by decide +kernel
theorem dX7_putBack_17 : decode cX7_putBack 17 = .ok (.iload_n 1, 1) := by decide +kernel
theorem dX7_putBack_18 : decode cX7_putBack 18 = .ok (.iaload, 1) := by decide +kernel
theorem dX7_putBack_19 : decode cX7_putBack 19 = .ok (.iastore, 1) := by decide +kernel
theorem dX7_putBack_20 : decode cX7_putBack 20 = .ok (.iinc 1 1, 3) := by decide +kernel
theorem dX7_putBack_23 : decode cX7_putBack 23 = .ok (.goto (-21), 3) := by decide +kernel
theorem dX7_putBack_26 : decode cX7_putBack 26 = .ok (.return_, 1) := by decide +kernel
theorem dX7_partOf_0 : decode cX7_partOf 0 = .ok (.iload_n 1, 1) := by decide +kernel
theorem dX7_partOf_1 : decode cX7_partOf 1 = .ok (.ifCond .ne 10, 3) := by decide +kernel
theorem dX7_partOf_4 : decode cX7_partOf 4 = .ok (.iload_n 0, 1) := by decide +kernel
theorem dX7_partOf_5 : decode cX7_partOf 5 = .ok (.bipush 100, 2) := by decide +kernel
theorem dX7_partOf_7 : decode cX7_partOf 7 = .ok (.idiv, 1) := by decide +kernel
theorem dX7_partOf_8 : decode cX7_partOf 8 = .ok (.goto 22, 3) := by decide +kernel
theorem dX7_partOf_11 : decode cX7_partOf 11 = .ok (.iload_n 1, 1) := by decide +kernel
theorem dX7_partOf_12 : decode cX7_partOf 12 = .ok (.iconst 1, 1) := by decide +kernel
theorem dX7_partOf_13 : decode cX7_partOf 13 = .ok (.if_icmp .ne 13, 3) := by decide +kernel
theorem dX7_partOf_16 : decode cX7_partOf 16 = .ok (.iload_n 0, 1) := by decide +kernel
theorem dX7_partOf_17 : decode cX7_partOf 17 = .ok (.bipush 10, 2) := by decide +kernel
