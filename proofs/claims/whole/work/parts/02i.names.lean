theorem dX7_succeeds_248 : decode cX7_succeeds 248 = .ok (.iload 11, 2) := by decide +kernel
theorem dX7_succeeds_250 : decode cX7_succeeds 250 = .ok (.ifCond .eq 11, 3) := by decide +kernel
theorem dX7_succeeds_253 : decode cX7_succeeds 253 = .ok (.aload_n 0, 1) := by decide +kernel
theorem dX7_succeeds_254 : decode cX7_succeeds 254 = .ok (.iload_n 2, 1) := by decide +kernel
theorem dX7_succeeds_255 : decode cX7_succeeds 255 = .ok (.invokevirtual 151, 3) := by decide +kernel
theorem dX7_succeeds_258 : decode cX7_succeeds 258 = .ok (.goto 4, 3) := by decide +kernel
theorem dX7_succeeds_261 : decode cX7_succeeds 261 = .ok (.iconst 0, 1) := by decide +kernel
theorem dX7_succeeds_262 : decode cX7_succeeds 262 = .ok (.istore 12, 2) := by decide +kernel
theorem dX7_succeeds_264 : decode cX7_succeeds 264 = .ok (.iload 11, 2) := by decide +kernel
theorem dX7_succeeds_266 : decode cX7_succeeds 266 = .ok (.ireturn, 1) := by decide +kernel
theorem dX7_succeeds_267 : decode cX7_succeeds 267 = .ok (.iload 4, 2) := by decide +kernel
theorem dX7_succeeds_269 : decode cX7_succeeds 269 = .ok (.ifCond .ne 15, 3) := by decide +kernel
theorem dX7_succeeds_272 : decode cX7_succeeds 272 = .ok (.aload_n 0, 1) := by decide +kernel
theorem dX7_succeeds_273 : decode cX7_succeeds 273 = .ok (.invokevirtual 169, 3) := by decide +kernel
theorem dX7_succeeds_276 : decode cX7_succeeds 276 = .ok (.iconst (-1), 1) := by decide +kernel
theorem dX7_succeeds_277 : decode cX7_succeeds 277 = .ok (.if_icmp .eq 7, 3) := by decide +kernel
theorem dX7_succeeds_280 : decode cX7_succeeds 280 = .ok (.iconst 1, 1) := by decide +kernel
theorem dX7_succeeds_281 : decode cX7_succeeds 281 = .ok (.goto 4, 3) := by decide +kernel
theorem dX7_succeeds_284 : decode cX7_succeeds 284 = .ok (.iconst 0, 1) := by decide +kernel
theorem dX7_succeeds_285 : decode cX7_succeeds 285 = .ok (.ireturn, 1) := by decide +kernel
theorem dX7_succeeds_286 : decode cX7_succeeds 286 = .ok (.iload 4, 2) := by decide +kernel
theorem dX7_succeeds_288 : decode cX7_succeeds 288 = .ok (.bipush 100, 2) := by decide +kernel
theorem dX7_succeeds_290 : decode cX7_succeeds 290 = .ok (.if_icmp .ge 18, 3) := by decide +kernel
theorem dX7_succeeds_293 : decode cX7_succeeds 293 = .ok (.aload_n 0, 1) := by decide +kernel
theorem dX7_succeeds_294 : decode cX7_succeeds 294 = .ok (.getfield 7, 3) := by decide +kernel
theorem dX7_succeeds_297 : decode cX7_succeeds 297 = .ok (.iconst 0, 1) := by decide +kernel
theorem dX7_succeeds_298 : decode cX7_succeeds 298 = .ok (.iaload, 1) := by decide +kernel
theorem dX7_succeeds_299 : decode cX7_succeeds 299 = .ok (.iload 4, 2) := by decide +kernel
theorem dX7_succeeds_301 : decode cX7_succeeds 301 = .ok (.if_icmp .lt 7, 3) := by decide +kernel
theorem dX7_succeeds_304 : decode cX7_succeeds 304 = .ok (.iconst 1, 1) := by decide +kernel
theorem dX7_succeeds_305 : decode cX7_succeeds 305 = .ok (.goto 4, 3) := by decide +kernel
theorem dX7_succeeds_308 : decode cX7_succeeds 308 = .ok (.iconst 0, 1) := by decide +kernel
theorem dX7_succeeds_309 : decode cX7_succeeds 309 = .ok (.ireturn, 1) := by decide +kernel
theorem dX7_succeeds_310 : decode cX7_succeeds 310 = .ok (.iload 4, 2) := by decide +kernel
theorem dX7_succeeds_312 : decode cX7_succeeds 312 = .ok (.invokestatic 113, 3) := by decide +kernel
theorem dX7_succeeds_315 : decode cX7_succeeds 315 = .ok (.ifCond .eq 29, 3) := by decide +kernel
theorem dX7_succeeds_318 : decode cX7_succeeds 318 = .ok (.aload_n 0, 1) := by decide +kernel
theorem dX7_succeeds_319 : decode cX7_succeeds 319 = .ok (.iload 4, 2) := by decide +kernel
theorem dX7_succeeds_321 : decode cX7_succeeds 321 = .ok (.aload_n 0, 1) := by decide +kernel
theorem dX7_succeeds_322 : decode cX7_succeeds 322 = .ok (.getfield 7, 3) := by decide +kernel
theorem dX7_succeeds_325 : decode cX7_succeeds 325 = .ok (.bipush 41, 2) := by decide +kernel
theorem dX7_succeeds_327 : decode cX7_succeeds 327 = .ok (.iaload, 1) := by decide +kernel
theorem dX7_succeeds_328 : decode cX7_succeeds 328 = .ok (.invokevirtual 116, 3) := by decide +kernel
theorem dX7_succeeds_331 : decode cX7_succeeds 331 = .ok (.aload_n 0, 1) := by decide +kernel
theorem dX7_succeeds_332 : decode cX7_succeeds 332 = .ok (.getfield 7, 3) := by decide +kernel
theorem dX7_succeeds_335 : decode cX7_succeeds 335 = .ok (.iconst 0, 1) := by decide +kernel
theorem dX7_succeeds_336 : decode cX7_succeeds 336 = .ok (.iaload, 1) := by decide +kernel
theorem dX7_succeeds_337 : decode cX7_succeeds 337 = .ok (.if_icmp .ge 7, 3) := by decide +kernel
theorem dX7_succeeds_340 : decode cX7_succeeds 340 = .ok (.iconst 1, 1) := by decide +kernel
theorem dX7_succeeds_341 : decode cX7_succeeds 341 = .ok (.goto 4, 3) := by decide +kernel
theorem dX7_succeeds_344 : decode cX7_succeeds 344 = .ok (.iconst 0, 1) := by decide +kernel
theorem dX7_succeeds_345 : decode cX7_succeeds 345 = .ok (.ireturn, 1) := by decide +kernel
theorem dX7_succeeds_346 : decode cX7_succeeds 346 = .ok (.iload_n 2, 1) := by decide +kernel
theorem dX7_succeeds_347 : decode cX7_succeeds 347 = .ok (.ifCond .ne 18, 3) := by decide +kernel
theorem dX7_succeeds_350 : decode cX7_succeeds 350 = .ok (.aload_n 0, 1) := by decide +kernel
theorem dX7_succeeds_351 : decode cX7_succeeds 351 = .ok (.getfield 7, 3) := by decide +kernel
theorem dX7_succeeds_354 : decode cX7_succeeds 354 = .ok (.bipush 44, 2) := by decide +kernel
theorem dX7_succeeds_356 : decode cX7_succeeds 356 = .ok (.iaload, 1) := by decide +kernel
theorem dX7_succeeds_357 : decode cX7_succeeds 357 = .ok (.iload_n 3, 1) := by decide +kernel
theorem dX7_succeeds_358 : decode cX7_succeeds 358 = .ok (.if_icmp .gt 7, 3) := by decide +kernel
theorem dX7_succeeds_361 : decode cX7_succeeds 361 = .ok (.iconst 1, 1) := by decide +kernel
theorem dX7_succeeds_362 : decode cX7_succeeds 362 = .ok (.goto 4, 3) := by decide +kernel
theorem dX7_succeeds_365 : decode cX7_succeeds 365 = .ok (.iconst 0, 1) := by decide +kernel
theorem dX7_succeeds_366 : decode cX7_succeeds 366 = .ok (.ireturn, 1) := by decide +kernel
theorem dX7_succeeds_367 : decode cX7_succeeds 367 = .ok (.iconst 0, 1) := by decide +kernel
theorem dX7_succeeds_368 : decode cX7_succeeds 368 = .ok (.ireturn, 1) := by decide +kernel
set_option maxRecDepth 20000 in
theorem ggX7_runScript_X7_in : GoodIn wsX7_runScript wsX7_in := goodIn_r _ [9] (by decide +kernel) (by decide +kernel)
set_option maxRecDepth 20000 in
theorem gX7_runScript_X7_in : GoodIn wsX7_runScript (va_wsS RX7 53 yX7_in wsX7_in) := goodIn_app (goodIn_of _ (by decide +kernel)) ggX7_runScript_X7_in
set_option maxRecDepth 20000 in
theorem ggX7_runScript_X7_holds : GoodIn wsX7_runScript wsX7_holds := goodIn_r _ [13, 14, 136, 137, 138, 139, 140, 141, 142, 143, 144] (by decide +kernel) (by decide +kernel)
set_option maxRecDepth 20000 in
theorem gX7_runScript_X7_holds : GoodIn wsX7_runScript (wsV RX7 89 RX7 yX7_holds wsX7_holds) := goodIn_app (goodIn_of _ (by decide +kernel)) ggX7_runScript_X7_holds
set_option maxRecDepth 20000 in
theorem ggX7_runScript_X7_putAside : GoodIn wsX7_runScript wsX7_putAside := goodIn_r _ [18, 19, 20, 136, 137, 138, 139, 140, 141, 142, 143, 144] (by decide +kernel) (by decide +kernel)
set_option maxRecDepth 20000 in
theorem gX7_runScript_X7_putAside : GoodIn wsX7_runScript (wsV RX7 197 RX7 yX7_putAside wsX7_putAside) := goodIn_app (goodIn_of _ (by decide +kernel)) ggX7_runScript_X7_putAside
set_option maxRecDepth 20000 in
theorem ggX7_runScript_X7_succeeds : GoodIn wsX7_runScript wsX7_succeeds := goodIn_r _ [24, 20, 25, 26, 27, 8, 28, 29, 6, 7, 9, 30, 31, 32, 33, 34, 35, 36, 37, 38, 39, 40, 41, 42, 43, 44, 45, 46, 47, 48, 49, 50, 51, 52, 53, 54, 55, 56, 57, 58, 59, 60, 61, 62, 63, 64, 65, 66, 67, 68, 69, 70, 71, 72, 73, 74, 75, 76, 77, 78, 79, 80, 81, 82, 83, 84, 85, 86, 87, 88, 89, 90, 91, 92, 93, 94, 95, 96, 97, 98, 99, 100, 101, 102, 103, 104, 105, 106, 107, 108, 109, 110, 111, 112, 113, 114, 115, 116, 117, 118, 119, 120, 121, 122, 123, 124, 125, 126, 127, 128, 129, 130, 131, 136, 137, 138, 139, 140, 141, 142, 143, 144] (by decide +kernel) (by decide +kernel)
set_option maxRecDepth 20000 in
theorem gX7_runScript_X7_succeeds : GoodIn wsX7_runScript (wsV RX7 202 RX7 yX7_succeeds wsX7_succeeds) := goodIn_app (goodIn_of _ (by decide +kernel)) ggX7_runScript_X7_succeeds
set_option maxRecDepth 20000 in
theorem ggX7_runScript_X7_putBack : GoodIn wsX7_runScript wsX7_putBack := goodIn_r _ [135, 20, 19, 136, 137, 138, 139, 140, 141, 142, 143, 144] (by decide +kernel) (by decide +kernel)
set_option maxRecDepth 20000 in
theorem gX7_runScript_X7_putBack : GoodIn wsX7_runScript (wsV RX7 205 RX7 yX7_putBack wsX7_putBack) := goodIn_app (goodIn_of _ (by decide +kernel)) ggX7_runScript_X7_putBack
theorem dX7_runScript_0 : decode cX7_runScript 0 = .ok (.iload_n 1, 1) := by decide +kernel
theorem dX7_runScript_1 : decode cX7_runScript 1 = .ok (.iconst 1, 1) := by decide +kernel
theorem dX7_runScript_2 : decode cX7_runScript 2 = .ok (.if_icmp .ne 9, 3) := by decide +kernel
theorem dX7_runScript_5 : decode cX7_runScript 5 = .ok (.ldc2_w 189, 3) := by decide +kernel
theorem dX7_runScript_8 : decode cX7_runScript 8 = .ok (.goto 17, 3) := by decide +kernel
theorem dX7_runScript_11 : decode cX7_runScript 11 = .ok (.iload_n 1, 1) := by decide +kernel
theorem dX7_runScript_12 : decode cX7_runScript 12 = .ok (.iconst 2, 1) := by decide +kernel
theorem dX7_runScript_13 : decode cX7_runScript 13 = .ok (.if_icmp .ne 9, 3) := by decide +kernel
theorem dX7_runScript_16 : decode cX7_runScript 16 = .ok (.ldc2_w 191, 3) := by decide +kernel
theorem dX7_runScript_19 : decode cX7_runScript 19 = .ok (.goto 6, 3) := by decide +kernel
theorem dX7_runScript_22 : decode cX7_runScript 22 = .ok (.ldc2_w 193, 3) := by decide +kernel
theorem dX7_runScript_25 : decode cX7_runScript 25 = .ok (.lstore 4, 2) := by decide +kernel
theorem dX7_runScript_27 : decode cX7_runScript 27 = .ok (.aload_n 0, 1) := by decide +kernel
theorem dX7_runScript_28 : decode cX7_runScript 28 = .ok (.iload_n 1, 1) := by decide +kernel
theorem dX7_runScript_29 : decode cX7_runScript 29 = .ok (.i2l, 1) := by decide +kernel
theorem dX7_runScript_30 : decode cX7_runScript 30 = .ok (.lconst 1, 1) := by decide +kernel
theorem dX7_runScript_31 : decode cX7_runScript 31 = .ok (.ldc2_w 195, 3) := by decide +kernel
theorem dX7_runScript_34 : decode cX7_runScript 34 = .ok (.invokestatic 53, 3) := by decide +kernel
theorem dX7_runScript_37 : decode cX7_runScript 37 = .ok (.ifCond .eq 17, 3) := by decide +kernel
theorem dX7_runScript_40 : decode cX7_runScript 40 = .ok (.lload_n 2, 1) := by decide +kernel
theorem dX7_runScript_41 : decode cX7_runScript 41 = .ok (.lconst 0, 1) := by decide +kernel
theorem dX7_runScript_42 : decode cX7_runScript 42 = .ok (.lload 4, 2) := by decide +kernel
theorem dX7_runScript_44 : decode cX7_runScript 44 = .ok (.invokestatic 53, 3) := by decide +kernel
theorem dX7_runScript_47 : decode cX7_runScript 47 = .ok (.ifCond .eq 7, 3) := by decide +kernel
theorem dX7_runScript_50 : decode cX7_runScript 50 = .ok (.iconst 0, 1) := by decide +kernel
theorem dX7_runScript_51 : decode cX7_runScript 51 = .ok (.goto 4, 3) := by decide +kernel
theorem dX7_runScript_54 : decode cX7_runScript 54 = .ok (.iconst 1, 1) := by decide +kernel
theorem dX7_runScript_55 : decode cX7_runScript 55 = .ok (.invokevirtual 89, 3) := by decide +kernel
theorem dX7_runScript_58 : decode cX7_runScript 58 = .ok (.ifCond .ne 5, 3) := by decide +kernel
theorem dX7_runScript_61 : decode cX7_runScript 61 = .ok (.iconst 0, 1) := by decide +kernel
theorem dX7_runScript_62 : decode cX7_runScript 62 = .ok (.ireturn, 1) := by decide +kernel
theorem dX7_runScript_63 : decode cX7_runScript 63 = .ok (.aload_n 0, 1) := by decide +kernel
theorem dX7_runScript_64 : decode cX7_runScript 64 = .ok (.invokevirtual 197, 3) := by decide +kernel
theorem dX7_runScript_67 : decode cX7_runScript 67 = .ok (.iconst (-1), 1) := by decide +kernel
theorem dX7_runScript_68 : decode cX7_runScript 68 = .ok (.istore 6, 2) := by decide +kernel
theorem dX7_runScript_70 : decode cX7_runScript 70 = .ok (.iconst 0, 1) := by decide +kernel
theorem dX7_runScript_71 : decode cX7_runScript 71 = .ok (.istore 7, 2) := by decide +kernel
theorem dX7_runScript_73 : decode cX7_runScript 73 = .ok (.iload 7, 2) := by decide +kernel
theorem dX7_runScript_75 : decode cX7_runScript 75 = .ok (.iload_n 1, 1) := by decide +kernel
theorem dX7_runScript_76 : decode cX7_runScript 76 = .ok (.if_icmp .ge 66, 3) := by decide +kernel
theorem dX7_runScript_79 : decode cX7_runScript 79 = .ok (.iload 6, 2) := by decide +kernel
theorem dX7_runScript_81 : decode cX7_runScript 81 = .ok (.iconst (-1), 1) := by decide +kernel
theorem dX7_runScript_82 : decode cX7_runScript 82 = .ok (.if_icmp .ne 60, 3) := by decide +kernel
theorem dX7_runScript_85 : decode cX7_runScript 85 = .ok (.lload_n 2, 1) := by decide +kernel
theorem dX7_runScript_86 : decode cX7_runScript 86 = .ok (.lstore 8, 2) := by decide +kernel
theorem dX7_runScript_88 : decode cX7_runScript 88 = .ok (.iload 7, 2) := by decide +kernel
theorem dX7_runScript_90 : decode cX7_runScript 90 = .ok (.iconst 1, 1) := by decide +kernel
theorem dX7_runScript_91 : decode cX7_runScript 91 = .ok (.iadd, 1) := by decide +kernel
theorem dX7_runScript_92 : decode cX7_runScript 92 = .ok (.istore 10, 2) := by decide +kernel
theorem dX7_runScript_94 : decode cX7_runScript 94 = .ok (.iload 10, 2) := by decide +kernel
theorem dX7_runScript_96 : decode cX7_runScript 96 = .ok (.iload_n 1, 1) := by decide +kernel
theorem dX7_runScript_97 : decode cX7_runScript 97 = .ok (.if_icmp .ge 17, 3) := by decide +kernel
theorem dX7_runScript_100 : decode cX7_runScript 100 = .ok (.lload 8, 2) := by decide +kernel
theorem dX7_runScript_102 : decode cX7_runScript 102 = .ok (.ldc2_w 200, 3) := by decide +kernel
theorem dX7_runScript_105 : decode cX7_runScript 105 = .ok (.ldiv, 1) := by decide +kernel
theorem dX7_runScript_106 : decode cX7_runScript 106 = .ok (.lstore 8, 2) := by decide +kernel
theorem dX7_runScript_108 : decode cX7_runScript 108 = .ok (.iinc 10 1, 3) := by decide +kernel
theorem dX7_runScript_111 : decode cX7_runScript 111 = .ok (.goto (-17), 3) := by decide +kernel
theorem dX7_runScript_114 : decode cX7_runScript 114 = .ok (.aload_n 0, 1) := by decide +kernel
theorem dX7_runScript_115 : decode cX7_runScript 115 = .ok (.lload 8, 2) := by decide +kernel
theorem dX7_runScript_117 : decode cX7_runScript 117 = .ok (.ldc2_w 200, 3) := by decide +kernel
theorem dX7_runScript_120 : decode cX7_runScript 120 = .ok (.lrem, 1) := by decide +kernel
theorem dX7_runScript_121 : decode cX7_runScript 121 = .ok (.l2i, 1) := by decide +kernel
theorem dX7_runScript_122 : decode cX7_runScript 122 = .ok (.invokevirtual 202, 3) := by decide +kernel
theorem dX7_runScript_125 : decode cX7_runScript 125 = .ok (.ifCond .eq 7, 3) := by decide +kernel
theorem dX7_runScript_128 : decode cX7_runScript 128 = .ok (.iconst (-1), 1) := by decide +kernel
theorem dX7_runScript_129 : decode cX7_runScript 129 = .ok (.goto 5, 3) := by decide +kernel
theorem dX7_runScript_132 : decode cX7_runScript 132 = .ok (.iload 7, 2) := by decide +kernel
theorem dX7_runScript_134 : decode cX7_runScript 134 = .ok (.istore 6, 2) := by decide +kernel
theorem dX7_runScript_136 : decode cX7_runScript 136 = .ok (.iinc 7 1, 3) := by decide +kernel
theorem dX7_runScript_139 : decode cX7_runScript 139 = .ok (.goto (-66), 3) := by decide +kernel
theorem dX7_runScript_142 : decode cX7_runScript 142 = .ok (.aload_n 0, 1) := by decide +kernel
theorem dX7_runScript_143 : decode cX7_runScript 143 = .ok (.invokevirtual 205, 3) := by decide +kernel
theorem dX7_runScript_146 : decode cX7_runScript 146 = .ok (.iload 6, 2) := by decide +kernel
theorem dX7_runScript_148 : decode cX7_runScript 148 = .ok (.ireturn, 1) := by decide +kernel
theorem dX7_digit_0 : decode cX7_digit 0 = .ok (.iload_n 0, 1) := by decide +kernel
theorem dX7_digit_1 : decode cX7_digit 1 = .ok (.bipush 10, 2) := by decide +kernel
theorem dX7_digit_3 : decode cX7_digit 3 = .ok (.if_icmp .le 8, 3) := by decide +kernel
theorem dX7_digit_6 : decode cX7_digit 6 = .ok (.bipush 10, 2) := by decide +kernel
theorem dX7_digit_8 : decode cX7_digit 8 = .ok (.goto 4, 3) := by decide +kernel
theorem dX7_digit_11 : decode cX7_digit 11 = .ok (.iload_n 0, 1) := by decide +kernel
theorem dX7_digit_12 : decode cX7_digit 12 = .ok (.ireturn, 1) := by decide +kernel
set_option maxRecDepth 20000 in
theorem ggX7_turn_X7_addFault : GoodIn wsX7_turn wsX7_addFault := goodIn_r _ [5, 6, 7, 8, 9, 4, 10, 11, 12, 13, 14, 108, 109, 110, 111, 112, 113, 114, 115, 116] (by decide +kernel) (by decide +kernel)
set_option maxRecDepth 20000 in
theorem gX7_turn_X7_addFault : GoodIn wsX7_turn (wsV RX7 154 RX7 yX7_addFault wsX7_addFault) := goodIn_app (goodIn_of _ (by decide +kernel)) ggX7_turn_X7_addFault
set_option maxRecDepth 20000 in
theorem ggX7_turn_X7_adds : GoodIn wsX7_turn wsX7_adds := goodIn_r _ [18, 7, 11, 12, 13, 4, 14, 19, 20, 21, 22, 23, 24, 25, 26, 27, 28, 108, 109, 110, 111, 112, 113, 114, 115, 116] (by decide +kernel) (by decide +kernel)
set_option maxRecDepth 20000 in
theorem gX7_turn_X7_adds : GoodIn wsX7_turn (wsV RX7 160 RX7 yX7_adds wsX7_adds) := goodIn_app (goodIn_of _ (by decide +kernel)) ggX7_turn_X7_adds
set_option maxRecDepth 20000 in
theorem ggX7_turn_X7_removes : GoodIn wsX7_turn wsX7_removes := goodIn_r _ [32, 7, 11, 12, 13, 4, 14, 19, 20, 21, 22, 23, 24, 25, 26, 27, 28, 108, 109, 110, 111, 112, 113, 114, 115, 116] (by decide +kernel) (by decide +kernel)
set_option maxRecDepth 20000 in
theorem gX7_turn_X7_removes : GoodIn wsX7_turn (wsV RX7 163 RX7 yX7_removes wsX7_removes) := goodIn_app (goodIn_of _ (by decide +kernel)) ggX7_turn_X7_removes
set_option maxRecDepth 20000 in
theorem ggX7_turn_X7_digit : GoodIn wsX7_turn wsX7_digit := goodIn_r _ [35] (by decide +kernel) (by decide +kernel)
set_option maxRecDepth 20000 in
theorem gX7_turn_X7_digit : GoodIn wsX7_turn (va_wsS RX7 208 yX7_digit wsX7_digit) := goodIn_app (goodIn_of _ (by decide +kernel)) ggX7_turn_X7_digit
set_option maxRecDepth 20000 in
theorem ggX7_turn_X7_asks : GoodIn wsX7_turn wsX7_asks := goodIn_r _ [39, 7, 40, 41, 42, 4, 43, 44, 45, 46, 47, 48, 49, 50, 51, 52, 53, 54, 55, 56, 57, 58, 59, 60, 61, 62, 63, 64, 65, 66, 26, 27, 28, 67, 68, 69, 70, 71, 72, 73, 74, 75, 76, 77, 78, 79, 108, 109, 110, 111, 112, 113, 114, 115, 116] (by decide +kernel) (by decide +kernel)
set_option maxRecDepth 20000 in
theorem gX7_turn_X7_asks : GoodIn wsX7_turn (wsV RX7 166 RX7 yX7_asks wsX7_asks) := goodIn_app (goodIn_of _ (by decide +kernel)) ggX7_turn_X7_asks
set_option maxRecDepth 20000 in
theorem ggX7_turn_X7_tidies : GoodIn wsX7_turn wsX7_tidies := goodIn_r _ [83, 84, 85, 86, 4, 87, 7, 48, 49, 50, 88, 89, 90, 91, 92, 93, 94, 95, 40, 41, 42, 43, 44, 45, 46, 47, 51, 52, 53, 54, 55, 56, 57, 58, 59, 60, 61, 62, 63, 64, 65, 66, 26, 27, 28, 67, 68, 69, 70, 71, 72, 73, 74, 75, 76, 77, 78, 79, 96, 97, 98, 99, 100, 101, 102, 103, 104, 105, 106, 107, 23, 24, 25, 108, 109, 110, 111, 112, 113, 114, 115, 116] (by decide +kernel) (by decide +kernel)
set_option maxRecDepth 20000 in
theorem gX7_turn_X7_tidies : GoodIn wsX7_turn (wsV RX7 169 RX7 yX7_tidies wsX7_tidies) := goodIn_app (goodIn_of _ (by decide +kernel)) ggX7_turn_X7_tidies
theorem dX7_turn_0 : decode cX7_turn 0 = .ok (.bipush 100, 2) := by decide +kernel
theorem dX7_turn_2 : decode cX7_turn 2 = .ok (.iload_n 1, 1) := by decide +kernel
theorem dX7_turn_3 : decode cX7_turn 3 = .ok (.bipush 16, 2) := by decide +kernel
theorem dX7_turn_5 : decode cX7_turn 5 = .ok (.idiv, 1) := by decide +kernel
theorem dX7_turn_6 : decode cX7_turn 6 = .ok (.iconst 4, 1) := by decide +kernel
theorem dX7_turn_7 : decode cX7_turn 7 = .ok (.irem, 1) := by decide +kernel
theorem dX7_turn_8 : decode cX7_turn 8 = .ok (.imul, 1) := by decide +kernel
theorem dX7_turn_9 : decode cX7_turn 9 = .ok (.bipush 10, 2) := by decide +kernel
theorem dX7_turn_11 : decode cX7_turn 11 = .ok (.iload_n 1, 1) := by decide +kernel
theorem dX7_turn_12 : decode cX7_turn 12 = .ok (.bipush 64, 2) := by decide +kernel
theorem dX7_turn_14 : decode cX7_turn 14 = .ok (.idiv, 1) := by decide +kernel
theorem dX7_turn_15 : decode cX7_turn 15 = .ok (.iconst 4, 1) := by decide +kernel
theorem dX7_turn_16 : decode cX7_turn 16 = .ok (.irem, 1) := by decide +kernel
theorem dX7_turn_17 : decode cX7_turn 17 = .ok (.imul, 1) := by decide +kernel
theorem dX7_turn_18 : decode cX7_turn 18 = .ok (.iadd, 1) := by decide +kernel
theorem dX7_turn_19 : decode cX7_turn 19 = .ok (.iload_n 1, 1) := by decide +kernel
theorem dX7_turn_20 : decode cX7_turn 20 = .ok (.sipush 256, 3) := by decide +kernel
theorem dX7_turn_23 : decode cX7_turn 23 = .ok (.idiv, 1) := by decide +kernel
theorem dX7_turn_24 : decode cX7_turn 24 = .ok (.iconst 4, 1) := by decide +kernel
theorem dX7_turn_25 : decode cX7_turn 25 = .ok (.irem, 1) := by decide +kernel
theorem dX7_turn_26 : decode cX7_turn 26 = .ok (.iadd, 1) := by decide +kernel
theorem dX7_turn_27 : decode cX7_turn 27 = .ok (.istore_n 2, 1) := by decide +kernel
theorem dX7_turn_28 : decode cX7_turn 28 = .ok (.iload_n 1, 1) := by decide +kernel
theorem dX7_turn_29 : decode cX7_turn 29 = .ok (.bipush 16, 2) := by decide +kernel
theorem dX7_turn_31 : decode cX7_turn 31 = .ok (.irem, 1) := by decide +kernel
theorem dX7_turn_32 : decode cX7_turn 32 = .ok (.istore_n 3, 1) := by decide +kernel
theorem dX7_turn_33 : decode cX7_turn 33 = .ok (.iload_n 3, 1) := by decide +kernel
theorem dX7_turn_34 : decode cX7_turn 34 = .ok (.iconst 4, 1) := by decide +kernel
theorem dX7_turn_35 : decode cX7_turn 35 = .ok (.if_icmp .gt 25, 3) := by decide +kernel
theorem dX7_turn_38 : decode cX7_turn 38 = .ok (.aload_n 0, 1) := by decide +kernel
theorem dX7_turn_39 : decode cX7_turn 39 = .ok (.iload_n 2, 1) := by decide +kernel
theorem dX7_turn_40 : decode cX7_turn 40 = .ok (.invokevirtual 154, 3) := by decide +kernel
theorem dX7_turn_43 : decode cX7_turn 43 = .ok (.ifCond .ne 11, 3) := by decide +kernel
theorem dX7_turn_46 : decode cX7_turn 46 = .ok (.aload_n 0, 1) := by decide +kernel
theorem dX7_turn_47 : decode cX7_turn 47 = .ok (.iload_n 2, 1) := by decide +kernel
theorem dX7_turn_48 : decode cX7_turn 48 = .ok (.invokevirtual 160, 3) := by decide +kernel
theorem dX7_turn_51 : decode cX7_turn 51 = .ok (.goto 4, 3) := by decide +kernel
theorem dX7_turn_54 : decode cX7_turn 54 = .ok (.iconst 0, 1) := by decide +kernel
theorem dX7_turn_55 : decode cX7_turn 55 = .ok (.istore 4, 2) := by decide +kernel
theorem dX7_turn_57 : decode cX7_turn 57 = .ok (.goto 79, 3) := by decide +kernel
theorem dX7_turn_60 : decode cX7_turn 60 = .ok (.iload_n 3, 1) := by decide +kernel
theorem dX7_turn_61 : decode cX7_turn 61 = .ok (.iconst 5, 1) := by decide +kernel
theorem dX7_turn_62 : decode cX7_turn 62 = .ok (.if_icmp .ne 13, 3) := by decide +kernel
theorem dX7_turn_65 : decode cX7_turn 65 = .ok (.aload_n 0, 1) := by decide +kernel
theorem dX7_turn_66 : decode cX7_turn 66 = .ok (.iload_n 2, 1) := by decide +kernel
theorem dX7_turn_67 : decode cX7_turn 67 = .ok (.invokevirtual 163, 3) := by decide +kernel
theorem dX7_turn_70 : decode cX7_turn 70 = .ok (.istore 4, 2) := by decide +kernel
theorem dX7_turn_72 : decode cX7_turn 72 = .ok (.goto 64, 3) := by decide +kernel
theorem dX7_turn_75 : decode cX7_turn 75 = .ok (.iload_n 3, 1) := by decide +kernel
theorem dX7_turn_76 : decode cX7_turn 76 = .ok (.bipush 13, 2) := by decide +kernel
theorem dX7_turn_78 : decode cX7_turn 78 = .ok (.if_icmp .gt 52, 3) := by decide +kernel
theorem dX7_turn_81 : decode cX7_turn 81 = .ok (.aload_n 0, 1) := by decide +kernel
theorem dX7_turn_82 : decode cX7_turn 82 = .ok (.bipush 121, 2) := by decide +kernel
theorem dX7_turn_84 : decode cX7_turn 84 = .ok (.iload_n 1, 1) := by decide +kernel
theorem dX7_turn_85 : decode cX7_turn 85 = .ok (.bipush 16, 2) := by decide +kernel
theorem dX7_turn_87 : decode cX7_turn 87 = .ok (.idiv, 1) := by decide +kernel
theorem dX7_turn_88 : decode cX7_turn 88 = .ok (.bipush 16, 2) := by decide +kernel
theorem dX7_turn_90 : decode cX7_turn 90 = .ok (.irem, 1) := by decide +kernel
theorem dX7_turn_91 : decode cX7_turn 91 = .ok (.invokestatic 208, 3) := by decide +kernel
theorem dX7_turn_94 : decode cX7_turn 94 = .ok (.imul, 1) := by decide +kernel
theorem dX7_turn_95 : decode cX7_turn 95 = .ok (.bipush 11, 2) := by decide +kernel
theorem dX7_turn_97 : decode cX7_turn 97 = .ok (.iload_n 1, 1) := by decide +kernel
theorem dX7_turn_98 : decode cX7_turn 98 = .ok (.sipush 256, 3) := by decide +kernel
theorem dX7_turn_101 : decode cX7_turn 101 = .ok (.idiv, 1) := by decide +kernel
theorem dX7_turn_102 : decode cX7_turn 102 = .ok (.bipush 16, 2) := by decide +kernel
theorem dX7_turn_104 : decode cX7_turn 104 = .ok (.irem, 1) := by decide +kernel
theorem dX7_turn_105 : decode cX7_turn 105 = .ok (.invokestatic 208, 3) := by decide +kernel
theorem dX7_turn_108 : decode cX7_turn 108 = .ok (.imul, 1) := by decide +kernel
theorem dX7_turn_109 : decode cX7_turn 109 = .ok (.iadd, 1) := by decide +kernel
theorem dX7_turn_110 : decode cX7_turn 110 = .ok (.iload_n 1, 1) := by decide +kernel
theorem dX7_turn_111 : decode cX7_turn 111 = .ok (.sipush 4096, 3) := by decide +kernel
theorem dX7_turn_114 : decode cX7_turn 114 = .ok (.idiv, 1) := by decide +kernel
theorem dX7_turn_115 : decode cX7_turn 115 = .ok (.bipush 16, 2) := by decide +kernel
theorem dX7_turn_117 : decode cX7_turn 117 = .ok (.irem, 1) := by decide +kernel
theorem dX7_turn_118 : decode cX7_turn 118 = .ok (.invokestatic 208, 3) := by decide +kernel
theorem dX7_turn_121 : decode cX7_turn 121 = .ok (.iadd, 1) := by decide +kernel
theorem dX7_turn_122 : decode cX7_turn 122 = .ok (.invokevirtual 166, 3) := by decide +kernel
theorem dX7_turn_125 : decode cX7_turn 125 = .ok (.istore 4, 2) := by decide +kernel
theorem dX7_turn_127 : decode cX7_turn 127 = .ok (.goto 9, 3) := by decide +kernel
theorem dX7_turn_130 : decode cX7_turn 130 = .ok (.aload_n 0, 1) := by decide +kernel
theorem dX7_turn_131 : decode cX7_turn 131 = .ok (.invokevirtual 169, 3) := by decide +kernel
theorem dX7_turn_134 : decode cX7_turn 134 = .ok (.istore 4, 2) := by decide +kernel
theorem dX7_turn_136 : decode cX7_turn 136 = .ok (.return_, 1) := by decide +kernel
set_option maxRecDepth 20000 in
theorem ggX7_simulate_X7_in : GoodIn wsX7_simulate wsX7_in := goodIn_r _ [8] (by decide +kernel) (by decide +kernel)
set_option maxRecDepth 20000 in
theorem gX7_simulate_X7_in : GoodIn wsX7_simulate (va_wsS RX7 53 yX7_in wsX7_in) := goodIn_app (goodIn_of _ (by decide +kernel)) ggX7_simulate_X7_in
set_option maxRecDepth 20000 in
theorem ggX7_simulate_X7_holds : GoodIn wsX7_simulate wsX7_holds := goodIn_r _ [12, 13, 129, 130, 131, 132, 133, 134, 135, 136, 137] (by decide +kernel) (by decide +kernel)
set_option maxRecDepth 20000 in
theorem gX7_simulate_X7_holds : GoodIn wsX7_simulate (wsV RX7 89 RX7 yX7_holds wsX7_holds) := goodIn_app (goodIn_of _ (by decide +kernel)) ggX7_simulate_X7_holds
set_option maxRecDepth 20000 in
theorem ggX7_simulate_X7_putAside : GoodIn wsX7_simulate wsX7_putAside := goodIn_r _ [17, 18, 2, 129, 130, 131, 132, 133, 134, 135, 136, 137] (by decide +kernel) (by decide +kernel)
set_option maxRecDepth 20000 in
theorem gX7_simulate_X7_putAside : GoodIn wsX7_simulate (wsV RX7 197 RX7 yX7_putAside wsX7_putAside) := goodIn_app (goodIn_of _ (by decide +kernel)) ggX7_simulate_X7_putAside
set_option maxRecDepth 20000 in
theorem ggX7_simulate_X7_turn : GoodIn wsX7_simulate wsX7_turn := goodIn_r _ [22, 23, 24, 25, 7, 26, 27, 2, 5, 6, 8, 28, 29, 30, 31, 32, 33, 34, 35, 36, 37, 38, 39, 40, 41, 42, 43, 44, 45, 46, 47, 48, 49, 50, 51, 52, 53, 54, 55, 56, 57, 58, 59, 60, 61, 62, 63, 64, 65, 66, 67, 68, 69, 70, 71, 72, 73, 74, 75, 76, 77, 78, 79, 80, 81, 82, 83, 84, 85, 86, 87, 88, 89, 90, 91, 92, 93, 94, 95, 96, 97, 98, 99, 100, 101, 102, 103, 104, 105, 106, 107, 108, 109, 110, 111, 112, 113, 114, 115, 116, 117, 118, 119, 120, 121, 122, 123, 124, 129, 130, 131, 132, 133, 134, 135, 136, 137] (by decide +kernel) (by decide +kernel)
set_option maxRecDepth 20000 in
theorem gX7_simulate_X7_turn : GoodIn wsX7_simulate (wsV RX7 215 RX7 yX7_turn wsX7_turn) := goodIn_app (goodIn_of _ (by decide +kernel)) ggX7_simulate_X7_turn
set_option maxRecDepth 20000 in
theorem ggX7_simulate_X7_bitsOf : GoodIn wsX7_simulate wsX7_bitsOf := goodIn_r _ [42] (by decide +kernel) (by decide +kernel)
set_option maxRecDepth 20000 in
theorem gX7_simulate_X7_bitsOf : GoodIn wsX7_simulate (va_wsS RX7 134 yX7_bitsOf wsX7_bitsOf) := goodIn_app (goodIn_of _ (by decide +kernel)) ggX7_simulate_X7_bitsOf
set_option maxRecDepth 20000 in
theorem ggX7_simulate_X7_putBack : GoodIn wsX7_simulate wsX7_putBack := goodIn_r _ [128, 2, 18, 129, 130, 131, 132, 133, 134, 135, 136, 137] (by decide +kernel) (by decide +kernel)
set_option maxRecDepth 20000 in
theorem gX7_simulate_X7_putBack : GoodIn wsX7_simulate (wsV RX7 205 RX7 yX7_putBack wsX7_putBack) := goodIn_app (goodIn_of _ (by decide +kernel)) ggX7_simulate_X7_putBack
theorem dX7_simulate_0 : decode cX7_simulate 0 = .ok (.aload_n 0, 1) := by decide +kernel
theorem dX7_simulate_1 : decode cX7_simulate 1 = .ok (.iload_n 3, 1) := by decide +kernel
theorem dX7_simulate_2 : decode cX7_simulate 2 = .ok (.i2l, 1) := by decide +kernel
theorem dX7_simulate_3 : decode cX7_simulate 3 = .ok (.lconst 1, 1) := by decide +kernel
theorem dX7_simulate_4 : decode cX7_simulate 4 = .ok (.ldc2_w 173, 3) := by decide +kernel
theorem dX7_simulate_7 : decode cX7_simulate 7 = .ok (.invokestatic 53, 3) := by decide +kernel
theorem dX7_simulate_10 : decode cX7_simulate 10 = .ok (.ifCond .eq 7, 3) := by decide +kernel
theorem dX7_simulate_13 : decode cX7_simulate 13 = .ok (.iconst 0, 1) := by decide +kernel
theorem dX7_simulate_14 : decode cX7_simulate 14 = .ok (.goto 4, 3) := by decide +kernel
theorem dX7_simulate_17 : decode cX7_simulate 17 = .ok (.iconst 1, 1) := by decide +kernel
theorem dX7_simulate_18 : decode cX7_simulate 18 = .ok (.invokevirtual 89, 3) := by decide +kernel
theorem dX7_simulate_21 : decode cX7_simulate 21 = .ok (.ifCond .ne 5, 3) := by decide +kernel
theorem dX7_simulate_24 : decode cX7_simulate 24 = .ok (.iconst 0, 1) := by decide +kernel
theorem dX7_simulate_25 : decode cX7_simulate 25 = .ok (.ireturn, 1) := by decide +kernel
theorem dX7_simulate_26 : decode cX7_simulate 26 = .ok (.aload_n 0, 1) := by decide +kernel
theorem dX7_simulate_27 : decode cX7_simulate 27 = .ok (.invokevirtual 197, 3) := by decide +kernel
theorem dX7_simulate_30 : decode cX7_simulate 30 = .ok (.lload_n 1, 1) := by decide +kernel
theorem dX7_simulate_31 : decode cX7_simulate 31 = .ok (.lstore 4, 2) := by decide +kernel
theorem dX7_simulate_33 : decode cX7_simulate 33 = .ok (.aload_n 0, 1) := by decide +kernel
theorem dX7_simulate_34 : decode cX7_simulate 34 = .ok (.getfield 7, 3) := by decide +kernel
theorem dX7_simulate_37 : decode cX7_simulate 37 = .ok (.bipush 44, 2) := by decide +kernel
theorem dX7_simulate_39 : decode cX7_simulate 39 = .ok (.iaload, 1) := by decide +kernel
theorem dX7_simulate_40 : decode cX7_simulate 40 = .ok (.istore 6, 2) := by decide +kernel
theorem dX7_simulate_42 : decode cX7_simulate 42 = .ok (.iconst 0, 1) := by decide +kernel
theorem dX7_simulate_43 : decode cX7_simulate 43 = .ok (.istore 7, 2) := by decide +kernel
theorem dX7_simulate_45 : decode cX7_simulate 45 = .ok (.iload 7, 2) := by decide +kernel
theorem dX7_simulate_47 : decode cX7_simulate 47 = .ok (.iload_n 3, 1) := by decide +kernel
theorem dX7_simulate_48 : decode cX7_simulate 48 = .ok (.if_icmp .ge 31, 3) := by decide +kernel
theorem dX7_simulate_51 : decode cX7_simulate 51 = .ok (.lload 4, 2) := by decide +kernel
theorem dX7_simulate_53 : decode cX7_simulate 53 = .ok (.ldc2_w 211, 3) := by decide +kernel
theorem dX7_simulate_56 : decode cX7_simulate 56 = .ok (.lmul, 1) := by decide +kernel
theorem dX7_simulate_57 : decode cX7_simulate 57 = .ok (.ldc2_w 213, 3) := by decide +kernel
theorem dX7_simulate_60 : decode cX7_simulate 60 = .ok (.ladd, 1) := by decide +kernel
theorem dX7_simulate_61 : decode cX7_simulate 61 = .ok (.lstore 4, 2) := by decide +kernel
theorem dX7_simulate_63 : decode cX7_simulate 63 = .ok (.aload_n 0, 1) := by decide +kernel
theorem dX7_simulate_64 : decode cX7_simulate 64 = .ok (.lload 4, 2) := by decide +kernel
theorem dX7_simulate_66 : decode cX7_simulate 66 = .ok (.bipush 33, 2) := by decide +kernel
theorem dX7_simulate_68 : decode cX7_simulate 68 = .ok (.lushr, 1) := by decide +kernel
theorem dX7_simulate_69 : decode cX7_simulate 69 = .ok (.l2i, 1) := by decide +kernel
theorem dX7_simulate_70 : decode cX7_simulate 70 = .ok (.invokevirtual 215, 3) := by decide +kernel
theorem dX7_simulate_73 : decode cX7_simulate 73 = .ok (.iinc 7 1, 3) := by decide +kernel
theorem dX7_simulate_76 : decode cX7_simulate 76 = .ok (.goto (-31), 3) := by decide +kernel
theorem dX7_simulate_79 : decode cX7_simulate 79 = .ok (.aload_n 0, 1) := by decide +kernel
theorem dX7_simulate_80 : decode cX7_simulate 80 = .ok (.getfield 7, 3) := by decide +kernel
theorem dX7_simulate_83 : decode cX7_simulate 83 = .ok (.bipush 44, 2) := by decide +kernel
theorem dX7_simulate_85 : decode cX7_simulate 85 = .ok (.iaload, 1) := by decide +kernel
theorem dX7_simulate_86 : decode cX7_simulate 86 = .ok (.iload 6, 2) := by decide +kernel
theorem dX7_simulate_88 : decode cX7_simulate 88 = .ok (.isub, 1) := by decide +kernel
theorem dX7_simulate_89 : decode cX7_simulate 89 = .ok (.istore 7, 2) := by decide +kernel
theorem dX7_simulate_91 : decode cX7_simulate 91 = .ok (.aload_n 0, 1) := by decide +kernel
theorem dX7_simulate_92 : decode cX7_simulate 92 = .ok (.getfield 7, 3) := by decide +kernel
theorem dX7_simulate_95 : decode cX7_simulate 95 = .ok (.bipush 41, 2) := by decide +kernel
theorem dX7_simulate_97 : decode cX7_simulate 97 = .ok (.iaload, 1) := by decide +kernel
theorem dX7_simulate_98 : decode cX7_simulate 98 = .ok (.invokestatic 134, 3) := by decide +kernel
theorem dX7_simulate_101 : decode cX7_simulate 101 = .ok (.istore 8, 2) := by decide +kernel
theorem dX7_simulate_103 : decode cX7_simulate 103 = .ok (.aload_n 0, 1) := by decide +kernel
theorem dX7_simulate_104 : decode cX7_simulate 104 = .ok (.invokevirtual 205, 3) := by decide +kernel
theorem dX7_simulate_107 : decode cX7_simulate 107 = .ok (.sipush 1000, 3) := by decide +kernel
theorem dX7_simulate_110 : decode cX7_simulate 110 = .ok (.iload 8, 2) := by decide +kernel
theorem dX7_simulate_112 : decode cX7_simulate 112 = .ok (.imul, 1) := by decide +kernel
theorem dX7_simulate_113 : decode cX7_simulate 113 = .ok (.iload 7, 2) := by decide +kernel
theorem dX7_simulate_115 : decode cX7_simulate 115 = .ok (.sipush 999, 3) := by decide +kernel
theorem dX7_simulate_118 : decode cX7_simulate 118 = .ok (.if_icmp .le 9, 3) := by decide +kernel
theorem dX7_simulate_121 : decode cX7_simulate 121 = .ok (.sipush 999, 3) := by decide +kernel
theorem dX7_simulate_124 : decode cX7_simulate 124 = .ok (.goto 5, 3) := by decide +kernel
theorem dX7_simulate_127 : decode cX7_simulate 127 = .ok (.iload 7, 2) := by decide +kernel
theorem dX7_simulate_129 : decode cX7_simulate 129 = .ok (.iadd, 1) := by decide +kernel
theorem dX7_simulate_130 : decode cX7_simulate 130 = .ok (.ireturn, 1) := by decide +kernel
set_option maxRecDepth 20000 in
theorem ggX7_save_X7_in : GoodIn wsX7_save wsX7_in := goodIn_r _ [7] (by decide +kernel) (by decide +kernel)
set_option maxRecDepth 20000 in
theorem gX7_save_X7_in : GoodIn wsX7_save (va_wsS RX7 53 yX7_in wsX7_in) := goodIn_app (goodIn_of _ (by decide +kernel)) ggX7_save_X7_in
set_option maxRecDepth 20000 in
theorem ggX7_save_X7_holds : GoodIn wsX7_save wsX7_holds := goodIn_r _ [11, 12, 13, 14, 15, 16, 17, 18, 19, 20, 21] (by decide +kernel) (by decide +kernel)
set_option maxRecDepth 20000 in
theorem gX7_save_X7_holds : GoodIn wsX7_save (wsV RX7 89 RX7 yX7_holds wsX7_holds) := goodIn_app (goodIn_of _ (by decide +kernel)) ggX7_save_X7_holds
theorem dX7_save_0 : decode cX7_save 0 = .ok (.aload_n 0, 1) := by decide +kernel
theorem dX7_save_1 : decode cX7_save 1 = .ok (.iload_n 1, 1) := by decide +kernel
theorem dX7_save_2 : decode cX7_save 2 = .ok (.i2l, 1) := by decide +kernel
theorem dX7_save_3 : decode cX7_save 3 = .ok (.lconst 0, 1) := by decide +kernel
theorem dX7_save_4 : decode cX7_save 4 = .ok (.lconst 1, 1) := by decide +kernel
theorem dX7_save_5 : decode cX7_save 5 = .ok (.invokestatic 53, 3) := by decide +kernel
theorem dX7_save_8 : decode cX7_save 8 = .ok (.ifCond .eq 7, 3) := by decide +kernel
theorem dX7_save_11 : decode cX7_save 11 = .ok (.iconst 0, 1) := by decide +kernel
theorem dX7_save_12 : decode cX7_save 12 = .ok (.goto 4, 3) := by decide +kernel
theorem dX7_save_15 : decode cX7_save 15 = .ok (.iconst 1, 1) := by decide +kernel
theorem dX7_save_16 : decode cX7_save 16 = .ok (.invokevirtual 89, 3) := by decide +kernel
theorem dX7_save_19 : decode cX7_save 19 = .ok (.ifCond .ne 5, 3) := by decide +kernel
theorem dX7_save_22 : decode cX7_save 22 = .ok (.iconst 0, 1) := by decide +kernel
theorem dX7_save_23 : decode cX7_save 23 = .ok (.ireturn, 1) := by decide +kernel
theorem dX7_save_24 : decode cX7_save 24 = .ok (.iconst 0, 1) := by decide +kernel
theorem dX7_save_25 : decode cX7_save 25 = .ok (.istore_n 2, 1) := by decide +kernel
theorem dX7_save_26 : decode cX7_save 26 = .ok (.iload_n 2, 1) := by decide +kernel
theorem dX7_save_27 : decode cX7_save 27 = .ok (.bipush 60, 2) := by decide +kernel
theorem dX7_save_29 : decode cX7_save 29 = .ok (.if_icmp .ge 26, 3) := by decide +kernel
theorem dX7_save_32 : decode cX7_save 32 = .ok (.aload_n 0, 1) := by decide +kernel
theorem dX7_save_33 : decode cX7_save 33 = .ok (.getfield 19, 3) := by decide +kernel
theorem dX7_save_36 : decode cX7_save 36 = .ok (.bipush 60, 2) := by decide +kernel
theorem dX7_save_38 : decode cX7_save 38 = .ok (.iload_n 1, 1) := by decide +kernel
theorem dX7_save_39 : decode cX7_save 39 = .ok (.imul, 1) := by decide +kernel
theorem dX7_save_40 : decode cX7_save 40 = .ok (.iload_n 2, 1) := by decide +kernel
theorem dX7_save_41 : decode cX7_save 41 = .ok (.iadd, 1) := by decide +kernel
theorem dX7_save_42 : decode cX7_save 42 = .ok (.aload_n 0, 1) := by decide +kernel
theorem dX7_save_43 : decode cX7_save 43 = .ok (.getfield 7, 3) := by decide +kernel
theorem dX7_save_46 : decode cX7_save 46 = .ok (.iload_n 2, 1) := by decide +kernel
theorem dX7_save_47 : decode cX7_save 47 = .ok (.iaload, 1) := by decide +kernel
theorem dX7_save_48 : decode cX7_save 48 = .ok (.iastore, 1) := by decide +kernel
theorem dX7_save_49 : decode cX7_save 49 = .ok (.iinc 2 1, 3) := by decide +kernel
theorem dX7_save_52 : decode cX7_save 52 = .ok (.goto (-26), 3) := by decide +kernel
theorem dX7_save_55 : decode cX7_save 55 = .ok (.aload_n 0, 1) := by decide +kernel
theorem dX7_save_56 : decode cX7_save 56 = .ok (.getfield 22, 3) := by decide +kernel
theorem dX7_save_59 : decode cX7_save 59 = .ok (.iload_n 1, 1) := by decide +kernel
theorem dX7_save_60 : decode cX7_save 60 = .ok (.iconst 1, 1) := by decide +kernel
theorem dX7_save_61 : decode cX7_save 61 = .ok (.bastore, 1) := by decide +kernel
theorem dX7_save_62 : decode cX7_save 62 = .ok (.aload_n 0, 1) := by decide +kernel
theorem dX7_save_63 : decode cX7_save 63 = .ok (.getfield 7, 3) := by decide +kernel
theorem dX7_save_66 : decode cX7_save 66 = .ok (.iconst 0, 1) := by decide +kernel
theorem dX7_save_67 : decode cX7_save 67 = .ok (.iaload, 1) := by decide +kernel
theorem dX7_save_68 : decode cX7_save 68 = .ok (.ireturn, 1) := by decide +kernel
set_option maxRecDepth 20000 in
theorem ggX7_restore_X7_in : GoodIn wsX7_restore wsX7_in := goodIn_r _ [8] (by decide +kernel) (by decide +kernel)
set_option maxRecDepth 20000 in
theorem gX7_restore_X7_in : GoodIn wsX7_restore (va_wsS RX7 53 yX7_in wsX7_in) := goodIn_app (goodIn_of _ (by decide +kernel)) ggX7_restore_X7_in
set_option maxRecDepth 20000 in
theorem ggX7_restore_X7_holds : GoodIn wsX7_restore wsX7_holds := goodIn_r _ [12, 13, 14, 15, 16, 17, 18, 19, 20, 21, 22] (by decide +kernel) (by decide +kernel)
set_option maxRecDepth 20000 in
theorem gX7_restore_X7_holds : GoodIn wsX7_restore (wsV RX7 89 RX7 yX7_holds wsX7_holds) := goodIn_app (goodIn_of _ (by decide +kernel)) ggX7_restore_X7_holds
theorem dX7_restore_0 : decode cX7_restore 0 = .ok (.aload_n 0, 1) := by decide +kernel
theorem dX7_restore_1 : decode cX7_restore 1 = .ok (.iload_n 1, 1) := by decide +kernel
theorem dX7_restore_2 : decode cX7_restore 2 = .ok (.i2l, 1) := by decide +kernel
theorem dX7_restore_3 : decode cX7_restore 3 = .ok (.lconst 0, 1) := by decide +kernel
theorem dX7_restore_4 : decode cX7_restore 4 = .ok (.lconst 1, 1) := by decide +kernel
theorem dX7_restore_5 : decode cX7_restore 5 = .ok (.invokestatic 53, 3) := by decide +kernel
theorem dX7_restore_8 : decode cX7_restore 8 = .ok (.ifCond .ne 7, 3) := by decide +kernel
theorem dX7_restore_11 : decode cX7_restore 11 = .ok (.iconst 1, 1) := by decide +kernel
theorem dX7_restore_12 : decode cX7_restore 12 = .ok (.goto 17, 3) := by decide +kernel
theorem dX7_restore_15 : decode cX7_restore 15 = .ok (.aload_n 0, 1) := by decide +kernel
theorem dX7_restore_16 : decode cX7_restore 16 = .ok (.getfield 22, 3) := by decide +kernel
theorem dX7_restore_19 : decode cX7_restore 19 = .ok (.iload_n 1, 1) := by decide +kernel
theorem dX7_restore_20 : decode cX7_restore 20 = .ok (.baload, 1) := by decide +kernel
theorem dX7_restore_21 : decode cX7_restore 21 = .ok (.ifCond .ne 7, 3) := by decide +kernel
theorem dX7_restore_24 : decode cX7_restore 24 = .ok (.iconst 2, 1) := by decide +kernel
theorem dX7_restore_25 : decode cX7_restore 25 = .ok (.goto 4, 3) := by decide +kernel
theorem dX7_restore_28 : decode cX7_restore 28 = .ok (.iconst 0, 1) := by decide +kernel
theorem dX7_restore_29 : decode cX7_restore 29 = .ok (.invokevirtual 89, 3) := by decide +kernel
theorem dX7_restore_32 : decode cX7_restore 32 = .ok (.ifCond .ne 5, 3) := by decide +kernel
theorem dX7_restore_35 : decode cX7_restore 35 = .ok (.iconst 0, 1) := by decide +kernel
theorem dX7_restore_36 : decode cX7_restore 36 = .ok (.ireturn, 1) := by decide +kernel
theorem dX7_restore_37 : decode cX7_restore 37 = .ok (.iconst 0, 1) := by decide +kernel
theorem dX7_restore_38 : decode cX7_restore 38 = .ok (.istore_n 2, 1) := by decide +kernel
theorem dX7_restore_39 : decode cX7_restore 39 = .ok (.iload_n 2, 1) := by decide +kernel
theorem dX7_restore_40 : decode cX7_restore 40 = .ok (.bipush 60, 2) := by decide +kernel
theorem dX7_restore_42 : decode cX7_restore 42 = .ok (.if_icmp .ge 26, 3) := by decide +kernel
theorem dX7_restore_45 : decode cX7_restore 45 = .ok (.aload_n 0, 1) := by decide +kernel
theorem dX7_restore_46 : decode cX7_restore 46 = .ok (.getfield 7, 3) := by decide +kernel
theorem dX7_restore_49 : decode cX7_restore 49 = .ok (.iload_n 2, 1) := by decide +kernel
theorem dX7_restore_50 : decode cX7_restore 50 = .ok (.aload_n 0, 1) := by decide +kernel
theorem dX7_restore_51 : decode cX7_restore 51 = .ok (.getfield 19, 3) := by decide +kernel
theorem dX7_restore_54 : decode cX7_restore 54 = .ok (.bipush 60, 2) := by decide +kernel
theorem dX7_restore_56 : decode cX7_restore 56 = .ok (.iload_n 1, 1) := by decide +kernel
theorem dX7_restore_57 : decode cX7_restore 57 = .ok (.imul, 1) := by decide +kernel
theorem dX7_restore_58 : decode cX7_restore 58 = .ok (.iload_n 2, 1) := by decide +kernel
theorem dX7_restore_59 : decode cX7_restore 59 = .ok (.iadd, 1) := by decide +kernel
theorem dX7_restore_60 : decode cX7_restore 60 = .ok (.iaload, 1) := by decide +kernel
theorem dX7_restore_61 : decode cX7_restore 61 = .ok (.iastore, 1) := by decide +kernel
theorem dX7_restore_62 : decode cX7_restore 62 = .ok (.iinc 2 1, 3) := by decide +kernel
theorem dX7_restore_65 : decode cX7_restore 65 = .ok (.goto (-26), 3) := by decide +kernel
theorem dX7_restore_68 : decode cX7_restore 68 = .ok (.aload_n 0, 1) := by decide +kernel
theorem dX7_restore_69 : decode cX7_restore 69 = .ok (.iconst 0, 1) := by decide +kernel
theorem dX7_restore_70 : decode cX7_restore 70 = .ok (.putfield 34, 3) := by decide +kernel
theorem dX7_restore_73 : decode cX7_restore 73 = .ok (.aload_n 0, 1) := by decide +kernel
theorem dX7_restore_74 : decode cX7_restore 74 = .ok (.getfield 7, 3) := by decide +kernel
theorem dX7_restore_77 : decode cX7_restore 77 = .ok (.iconst 0, 1) := by decide +kernel
theorem dX7_restore_78 : decode cX7_restore 78 = .ok (.iaload, 1) := by decide +kernel
theorem dX7_restore_79 : decode cX7_restore 79 = .ok (.ireturn, 1) := by decide +kernel
theorem dJ6_bitCount_0f7a4_0 : decode cJ6_bitCount_0f7a4 0 = .ok (.iload_n 0, 1) := by decide +kernel
theorem dJ6_bitCount_0f7a4_1 : decode cJ6_bitCount_0f7a4 1 = .ok (.iload_n 0, 1) := by decide +kernel
theorem dJ6_bitCount_0f7a4_2 : decode cJ6_bitCount_0f7a4 2 = .ok (.iconst 1, 1) := by decide +kernel
theorem dJ6_bitCount_0f7a4_3 : decode cJ6_bitCount_0f7a4 3 = .ok (.iushr, 1) := by decide +kernel
theorem dJ6_bitCount_0f7a4_4 : decode cJ6_bitCount_0f7a4 4 = .ok (.ldc_w 265, 3) := by decide +kernel
theorem dJ6_bitCount_0f7a4_7 : decode cJ6_bitCount_0f7a4 7 = .ok (.iand, 1) := by decide +kernel
theorem dJ6_bitCount_0f7a4_8 : decode cJ6_bitCount_0f7a4 8 = .ok (.isub, 1) := by decide +kernel
theorem dJ6_bitCount_0f7a4_9 : decode cJ6_bitCount_0f7a4 9 = .ok (.istore_n 0, 1) := by decide +kernel
theorem dJ6_bitCount_0f7a4_10 : decode cJ6_bitCount_0f7a4 10 = .ok (.iload_n 0, 1) := by decide +kernel
theorem dJ6_bitCount_0f7a4_11 : decode cJ6_bitCount_0f7a4 11 = .ok (.ldc_w 266, 3) := by decide +kernel
theorem dJ6_bitCount_0f7a4_14 : decode cJ6_bitCount_0f7a4 14 = .ok (.iand, 1) := by decide +kernel
theorem dJ6_bitCount_0f7a4_15 : decode cJ6_bitCount_0f7a4 15 = .ok (.iload_n 0, 1) := by decide +kernel
theorem dJ6_bitCount_0f7a4_16 : decode cJ6_bitCount_0f7a4 16 = .ok (.iconst 2, 1) := by decide +kernel
theorem dJ6_bitCount_0f7a4_17 : decode cJ6_bitCount_0f7a4 17 = .ok (.iushr, 1) := by decide +kernel
theorem dJ6_bitCount_0f7a4_18 : decode cJ6_bitCount_0f7a4 18 = .ok (.ldc_w 266, 3) := by decide +kernel
theorem dJ6_bitCount_0f7a4_21 : decode cJ6_bitCount_0f7a4 21 = .ok (.iand, 1) := by decide +kernel
theorem dJ6_bitCount_0f7a4_22 : decode cJ6_bitCount_0f7a4 22 = .ok (.iadd, 1) := by decide +kernel
theorem dJ6_bitCount_0f7a4_23 : decode cJ6_bitCount_0f7a4 23 = .ok (.istore_n 0, 1) := by decide +kernel
theorem dJ6_bitCount_0f7a4_24 : decode cJ6_bitCount_0f7a4 24 = .ok (.iload_n 0, 1) := by decide +kernel
theorem dJ6_bitCount_0f7a4_25 : decode cJ6_bitCount_0f7a4 25 = .ok (.iload_n 0, 1) := by decide +kernel
theorem dJ6_bitCount_0f7a4_26 : decode cJ6_bitCount_0f7a4 26 = .ok (.iconst 4, 1) := by decide +kernel
theorem dJ6_bitCount_0f7a4_27 : decode cJ6_bitCount_0f7a4 27 = .ok (.iushr, 1) := by decide +kernel
theorem dJ6_bitCount_0f7a4_28 : decode cJ6_bitCount_0f7a4 28 = .ok (.iadd, 1) := by decide +kernel
theorem dJ6_bitCount_0f7a4_29 : decode cJ6_bitCount_0f7a4 29 = .ok (.ldc_w 267, 3) := by decide +kernel
theorem dJ6_bitCount_0f7a4_32 : decode cJ6_bitCount_0f7a4 32 = .ok (.iand, 1) := by decide +kernel
theorem dJ6_bitCount_0f7a4_33 : decode cJ6_bitCount_0f7a4 33 = .ok (.istore_n 0, 1) := by decide +kernel
theorem dJ6_bitCount_0f7a4_34 : decode cJ6_bitCount_0f7a4 34 = .ok (.iload_n 0, 1) := by decide +kernel
theorem dJ6_bitCount_0f7a4_35 : decode cJ6_bitCount_0f7a4 35 = .ok (.iload_n 0, 1) := by decide +kernel
theorem dJ6_bitCount_0f7a4_36 : decode cJ6_bitCount_0f7a4 36 = .ok (.bipush 8, 2) := by decide +kernel
theorem dJ6_bitCount_0f7a4_38 : decode cJ6_bitCount_0f7a4 38 = .ok (.iushr, 1) := by decide +kernel
theorem dJ6_bitCount_0f7a4_39 : decode cJ6_bitCount_0f7a4 39 = .ok (.iadd, 1) := by decide +kernel
theorem dJ6_bitCount_0f7a4_40 : decode cJ6_bitCount_0f7a4 40 = .ok (.istore_n 0, 1) := by decide +kernel
theorem dJ6_bitCount_0f7a4_41 : decode cJ6_bitCount_0f7a4 41 = .ok (.iload_n 0, 1) := by decide +kernel
theorem dJ6_bitCount_0f7a4_42 : decode cJ6_bitCount_0f7a4 42 = .ok (.iload_n 0, 1) := by decide +kernel
theorem dJ6_bitCount_0f7a4_43 : decode cJ6_bitCount_0f7a4 43 = .ok (.bipush 16, 2) := by decide +kernel
theorem dJ6_bitCount_0f7a4_45 : decode cJ6_bitCount_0f7a4 45 = .ok (.iushr, 1) := by decide +kernel
theorem dJ6_bitCount_0f7a4_46 : decode cJ6_bitCount_0f7a4 46 = .ok (.iadd, 1) := by decide +kernel
theorem dJ6_bitCount_0f7a4_47 : decode cJ6_bitCount_0f7a4 47 = .ok (.istore_n 0, 1) := by decide +kernel
theorem dJ6_bitCount_0f7a4_48 : decode cJ6_bitCount_0f7a4 48 = .ok (.iload_n 0, 1) := by decide +kernel
theorem dJ6_bitCount_0f7a4_49 : decode cJ6_bitCount_0f7a4 49 = .ok (.bipush 63, 2) := by decide +kernel
theorem dJ6_bitCount_0f7a4_51 : decode cJ6_bitCount_0f7a4 51 = .ok (.iand, 1) := by decide +kernel
theorem dJ6_bitCount_0f7a4_52 : decode cJ6_bitCount_0f7a4 52 = .ok (.ireturn, 1) := by decide +kernel
theorem dJ9_min_7cf53_0 : decode cJ9_min_7cf53 0 = .ok (.iload_n 0, 1) := by decide +kernel
theorem dJ9_min_7cf53_1 : decode cJ9_min_7cf53 1 = .ok (.iload_n 1, 1) := by decide +kernel
theorem dJ9_min_7cf53_2 : decode cJ9_min_7cf53 2 = .ok (.if_icmp .gt 7, 3) := by decide +kernel
theorem dJ9_min_7cf53_5 : decode cJ9_min_7cf53 5 = .ok (.iload_n 0, 1) := by decide +kernel
theorem dJ9_min_7cf53_6 : decode cJ9_min_7cf53 6 = .ok (.goto 4, 3) := by decide +kernel
theorem dJ9_min_7cf53_9 : decode cJ9_min_7cf53 9 = .ok (.iload_n 1, 1) := by decide +kernel
theorem dJ9_min_7cf53_10 : decode cJ9_min_7cf53 10 = .ok (.ireturn, 1) := by decide +kernel
set_option maxRecDepth 20000 in
theorem ggL_append_X6_append : GoodIn wsL_append wsX6_append := goodIn_ca (goodIn_ca (goodIn_r _ [7, 8, 9, 10, 11, 12, 13, 14, 15, 16, 17, 18, 19, 20, 21, 22, 23, 24, 25, 26, 27, 28, 29, 30, 31, 32] (by decide +kernel) (by decide +kernel)) (goodIn_sub (fun _ h => List.mem_cons_of_mem _ (List.mem_append_left _ (List.mem_append_right _ h))) (by decide +kernel))) (goodIn_sub (fun _ h => List.mem_cons_of_mem _ (List.mem_append_right _ h)) (by decide +kernel))
set_option maxRecDepth 20000 in
theorem gL_append_X6_append : GoodIn wsL_append (wsV RL 7 RX6 yX6_append wsX6_append) := goodIn_app (goodIn_of _ (by decide +kernel)) ggL_append_X6_append
theorem dL_append_0 : decode cL_append 0 = .ok (.aload_n 2, 1) := by decide +kernel
theorem dL_append_1 : decode cL_append 1 = .ok (.iconst 0, 1) := by decide +kernel
theorem dL_append_2 : decode cL_append 2 = .ok (.aload_n 0, 1) := by decide +kernel
theorem dL_append_3 : decode cL_append 3 = .ok (.iload_n 1, 1) := by decide +kernel
theorem dL_append_4 : decode cL_append 4 = .ok (.invokevirtual 7, 3) := by decide +kernel
theorem dL_append_7 : decode cL_append 7 = .ok (.i2l, 1) := by decide +kernel
theorem dL_append_8 : decode cL_append 8 = .ok (.lastore, 1) := by decide +kernel
theorem dL_append_9 : decode cL_append 9 = .ok (.goto 9, 3) := by decide +kernel
theorem dL_append_12 : decode cL_append 12 = .ok (.astore_n 3, 1) := by decide +kernel
theorem dL_append_13 : decode cL_append 13 = .ok (.iconst 1, 1) := by decide +kernel
theorem dL_append_14 : decode cL_append 14 = .ok (.ireturn, 1) := by decide +kernel
theorem dL_append_15 : decode cL_append 15 = .ok (.astore_n 3, 1) := by decide +kernel
theorem dL_append_16 : decode cL_append 16 = .ok (.iconst 2, 1) := by decide +kernel
theorem dL_append_17 : decode cL_append 17 = .ok (.ireturn, 1) := by decide +kernel
theorem dL_append_18 : decode cL_append 18 = .ok (.iconst 0, 1) := by decide +kernel
theorem dL_append_19 : decode cL_append 19 = .ok (.ireturn, 1) := by decide +kernel
set_option maxRecDepth 20000 in
theorem ggL_question_X6_question : GoodIn wsL_question wsX6_question := goodIn_ca (goodIn_r _ [6, 7, 8, 9, 10, 11, 12, 13, 14, 15, 16, 17, 18, 19, 20, 21, 22, 23, 24, 25, 26, 27, 28, 29, 30, 31, 32, 33, 34, 35, 36, 37, 38, 39, 40, 41, 42, 43, 44, 45] (by decide +kernel) (by decide +kernel)) (goodIn_sub (fun _ h => List.mem_cons_of_mem _ (List.mem_append_right _ h)) (by decide +kernel))
set_option maxRecDepth 20000 in
theorem gL_question_X6_question : GoodIn wsL_question (wsV RL 17 RX6 yX6_question wsX6_question) := goodIn_app (goodIn_of _ (by decide +kernel)) ggL_question_X6_question
theorem dL_question_0 : decode cL_question 0 = .ok (.aload_n 1, 1) := by decide +kernel
theorem dL_question_1 : decode cL_question 1 = .ok (.iconst 0, 1) := by decide +kernel
theorem dL_question_2 : decode cL_question 2 = .ok (.aload_n 0, 1) := by decide +kernel
theorem dL_question_3 : decode cL_question 3 = .ok (.invokevirtual 17, 3) := by decide +kernel
theorem dL_question_6 : decode cL_question 6 = .ok (.i2l, 1) := by decide +kernel
theorem dL_question_7 : decode cL_question 7 = .ok (.lastore, 1) := by decide +kernel
theorem dL_question_8 : decode cL_question 8 = .ok (.goto 6, 3) := by decide +kernel
theorem dL_question_11 : decode cL_question 11 = .ok (.astore_n 2, 1) := by decide +kernel
theorem dL_question_12 : decode cL_question 12 = .ok (.iconst 1, 1) := by decide +kernel
theorem dL_question_13 : decode cL_question 13 = .ok (.ireturn, 1) := by decide +kernel
theorem dL_question_14 : decode cL_question 14 = .ok (.iconst 0, 1) := by decide +kernel
theorem dL_question_15 : decode cL_question 15 = .ok (.ireturn, 1) := by decide +kernel
set_option maxRecDepth 20000 in
theorem ggL_about_X6_about : GoodIn wsL_about wsX6_about := goodIn_ca (goodIn_r _ [6, 7, 8, 9, 10, 11, 12, 13, 14, 15, 16, 17, 18, 19, 20, 21, 22, 23, 24, 25, 26, 27, 28, 29, 30, 31, 32] (by decide +kernel) (by decide +kernel)) (goodIn_sub (fun _ h => List.mem_cons_of_mem _ (List.mem_append_right _ h)) (by decide +kernel))
set_option maxRecDepth 20000 in
theorem gL_about_X6_about : GoodIn wsL_about (wsV RL 21 RX6 yX6_about wsX6_about) := goodIn_app (goodIn_of _ (by decide +kernel)) ggL_about_X6_about
theorem dL_about_0 : decode cL_about 0 = .ok (.aload_n 2, 1) := by decide +kernel
theorem dL_about_1 : decode cL_about 1 = .ok (.iconst 0, 1) := by decide +kernel
theorem dL_about_2 : decode cL_about 2 = .ok (.aload_n 0, 1) := by decide +kernel
theorem dL_about_3 : decode cL_about 3 = .ok (.iload_n 1, 1) := by decide +kernel
theorem dL_about_4 : decode cL_about 4 = .ok (.invokevirtual 21, 3) := by decide +kernel
theorem dL_about_7 : decode cL_about 7 = .ok (.i2l, 1) := by decide +kernel
theorem dL_about_8 : decode cL_about 8 = .ok (.lastore, 1) := by decide +kernel
theorem dL_about_9 : decode cL_about 9 = .ok (.goto 6, 3) := by decide +kernel
theorem dL_about_12 : decode cL_about 12 = .ok (.astore_n 3, 1) := by decide +kernel
theorem dL_about_13 : decode cL_about 13 = .ok (.iconst 1, 1) := by decide +kernel
theorem dL_about_14 : decode cL_about 14 = .ok (.ireturn, 1) := by decide +kernel
theorem dL_about_15 : decode cL_about 15 = .ok (.iconst 0, 1) := by decide +kernel
theorem dL_about_16 : decode cL_about 16 = .ok (.ireturn, 1) := by decide +kernel
set_option maxRecDepth 20000 in
theorem ggL_triple_X6_triple : GoodIn wsL_triple wsX6_triple := goodIn_ca (goodIn_ca (goodIn_r _ [7, 8, 9, 10, 6, 11, 12, 13, 14, 15, 16, 17, 18, 19, 20, 21, 22, 23, 24, 25, 26, 27, 28, 29, 30, 31, 32, 33, 34, 35, 36, 37, 38, 39, 40, 41, 42, 43, 44, 45, 46, 47, 48, 49, 50, 51, 52, 53, 54, 55, 56, 57, 58, 59, 60, 61, 62, 63, 64, 65, 66, 67, 68, 69, 70, 71] (by decide +kernel) (by decide +kernel)) (goodIn_sub (fun _ h => List.mem_cons_of_mem _ (List.mem_append_left _ (List.mem_append_right _ h))) (by decide +kernel))) (goodIn_sub (fun _ h => List.mem_cons_of_mem _ (List.mem_append_right _ h)) (by decide +kernel))
set_option maxRecDepth 20000 in
theorem gL_triple_X6_triple : GoodIn wsL_triple (wsV RL 24 RX6 yX6_triple wsX6_triple) := goodIn_app (goodIn_of _ (by decide +kernel)) ggL_triple_X6_triple
theorem dL_triple_0 : decode cL_triple 0 = .ok (.aload_n 3, 1) := by decide +kernel
theorem dL_triple_1 : decode cL_triple 1 = .ok (.iconst 0, 1) := by decide +kernel
theorem dL_triple_2 : decode cL_triple 2 = .ok (.aload_n 0, 1) := by decide +kernel
theorem dL_triple_3 : decode cL_triple 3 = .ok (.iload_n 1, 1) := by decide +kernel
theorem dL_triple_4 : decode cL_triple 4 = .ok (.iload_n 2, 1) := by decide +kernel
theorem dL_triple_5 : decode cL_triple 5 = .ok (.invokevirtual 24, 3) := by decide +kernel
theorem dL_triple_8 : decode cL_triple 8 = .ok (.i2l, 1) := by decide +kernel
theorem dL_triple_9 : decode cL_triple 9 = .ok (.lastore, 1) := by decide +kernel
theorem dL_triple_10 : decode cL_triple 10 = .ok (.goto 11, 3) := by decide +kernel
theorem dL_triple_13 : decode cL_triple 13 = .ok (.astore 4, 2) := by decide +kernel
theorem dL_triple_15 : decode cL_triple 15 = .ok (.iconst 1, 1) := by decide +kernel
theorem dL_triple_16 : decode cL_triple 16 = .ok (.ireturn, 1) := by decide +kernel
theorem dL_triple_17 : decode cL_triple 17 = .ok (.astore 4, 2) := by decide +kernel
theorem dL_triple_19 : decode cL_triple 19 = .ok (.iconst 2, 1) := by decide +kernel
theorem dL_triple_20 : decode cL_triple 20 = .ok (.ireturn, 1) := by decide +kernel
theorem dL_triple_21 : decode cL_triple 21 = .ok (.iconst 0, 1) := by decide +kernel
theorem dL_triple_22 : decode cL_triple 22 = .ok (.ireturn, 1) := by decide +kernel
set_option maxRecDepth 20000 in
theorem ggL_remembered_X6_remembered : GoodIn wsL_remembered wsX6_remembered := goodIn_ca (goodIn_r _ [6, 7, 8, 9, 5, 10, 11, 12, 13, 14, 15, 16, 17, 18, 19, 20, 21, 22, 23, 24, 25, 26, 27, 28, 29, 30, 31, 32, 33, 34, 35, 36] (by decide +kernel) (by decide +kernel)) (goodIn_sub (fun _ h => List.mem_cons_of_mem _ (List.mem_append_right _ h)) (by decide +kernel))
set_option maxRecDepth 20000 in
theorem gL_remembered_X6_remembered : GoodIn wsL_remembered (wsV RL 30 RX6 yX6_remembered wsX6_remembered) := goodIn_app (goodIn_of _ (by decide +kernel)) ggL_remembered_X6_remembered
theorem dL_remembered_0 : decode cL_remembered 0 = .ok (.aload_n 2, 1) := by decide +kernel
theorem dL_remembered_1 : decode cL_remembered 1 = .ok (.iconst 0, 1) := by decide +kernel
theorem dL_remembered_2 : decode cL_remembered 2 = .ok (.aload_n 0, 1) := by decide +kernel
theorem dL_remembered_3 : decode cL_remembered 3 = .ok (.iload_n 1, 1) := by decide +kernel
theorem dL_remembered_4 : decode cL_remembered 4 = .ok (.invokevirtual 30, 3) := by decide +kernel
theorem dL_remembered_7 : decode cL_remembered 7 = .ok (.i2l, 1) := by decide +kernel
theorem dL_remembered_8 : decode cL_remembered 8 = .ok (.lastore, 1) := by decide +kernel
theorem dL_remembered_9 : decode cL_remembered 9 = .ok (.goto 6, 3) := by decide +kernel
theorem dL_remembered_12 : decode cL_remembered 12 = .ok (.astore_n 3, 1) := by decide +kernel
theorem dL_remembered_13 : decode cL_remembered 13 = .ok (.iconst 1, 1) := by decide +kernel
theorem dL_remembered_14 : decode cL_remembered 14 = .ok (.ireturn, 1) := by decide +kernel
theorem dL_remembered_15 : decode cL_remembered 15 = .ok (.iconst 0, 1) := by decide +kernel
theorem dL_remembered_16 : decode cL_remembered 16 = .ok (.ireturn, 1) := by decide +kernel
set_option maxRecDepth 20000 in
theorem ggL_count_X6_count : GoodIn wsL_count wsX6_count := goodIn_ca (goodIn_r _ [6, 7, 8, 9, 5, 10, 11, 12, 13, 14, 15, 16, 17, 18, 19, 20, 21, 22, 23, 24, 25, 26, 27, 28, 29, 30, 31, 32, 33, 34, 35, 36, 37, 38, 39, 40, 41, 42, 43] (by decide +kernel) (by decide +kernel)) (goodIn_sub (fun _ h => List.mem_cons_of_mem _ (List.mem_append_right _ h)) (by decide +kernel))
set_option maxRecDepth 20000 in
theorem gL_count_X6_count : GoodIn wsL_count (wsV RL 33 RX6 yX6_count wsX6_count) := goodIn_app (goodIn_of _ (by decide +kernel)) ggL_count_X6_count
theorem dL_count_0 : decode cL_count 0 = .ok (.aload_n 2, 1) := by decide +kernel
theorem dL_count_1 : decode cL_count 1 = .ok (.iconst 0, 1) := by decide +kernel
theorem dL_count_2 : decode cL_count 2 = .ok (.aload_n 0, 1) := by decide +kernel
theorem dL_count_3 : decode cL_count 3 = .ok (.iload_n 1, 1) := by decide +kernel
theorem dL_count_4 : decode cL_count 4 = .ok (.invokevirtual 33, 3) := by decide +kernel
theorem dL_count_7 : decode cL_count 7 = .ok (.i2l, 1) := by decide +kernel
theorem dL_count_8 : decode cL_count 8 = .ok (.lastore, 1) := by decide +kernel
theorem dL_count_9 : decode cL_count 9 = .ok (.goto 6, 3) := by decide +kernel
theorem dL_count_12 : decode cL_count 12 = .ok (.astore_n 3, 1) := by decide +kernel
theorem dL_count_13 : decode cL_count 13 = .ok (.iconst 1, 1) := by decide +kernel
theorem dL_count_14 : decode cL_count 14 = .ok (.ireturn, 1) := by decide +kernel
theorem dL_count_15 : decode cL_count 15 = .ok (.iconst 0, 1) := by decide +kernel
theorem dL_count_16 : decode cL_count 16 = .ok (.ireturn, 1) := by decide +kernel
set_option maxRecDepth 20000 in
theorem ggL_cost_X6_cost : GoodIn wsL_cost wsX6_cost := goodIn_ca (goodIn_ca (goodIn_r _ [7, 8, 9, 10, 6, 11, 12, 13, 14, 15, 16, 17, 18, 19, 20, 21, 22, 23, 24, 25, 26, 27, 28, 29, 30, 31, 32, 33, 34, 35, 36, 37, 38, 39, 40, 41, 42, 43, 44, 45, 46, 47, 48, 49, 50, 51, 52, 53, 54, 55, 56, 57, 58, 59, 60, 61, 62, 63, 64, 65, 66, 67, 68, 69, 70, 71, 72, 73, 74, 75, 76, 77, 78, 79, 80, 81, 82, 83, 84, 85, 86, 87, 88, 89, 90, 91] (by decide +kernel) (by decide +kernel)) (goodIn_sub (fun _ h => List.mem_cons_of_mem _ (List.mem_append_left _ (List.mem_append_right _ h))) (by decide +kernel))) (goodIn_sub (fun _ h => List.mem_cons_of_mem _ (List.mem_append_right _ h)) (by decide +kernel))
set_option maxRecDepth 20000 in
theorem gL_cost_X6_cost : GoodIn wsL_cost (wsV RL 36 RX6 yX6_cost wsX6_cost) := goodIn_app (goodIn_of _ (by decide +kernel)) ggL_cost_X6_cost
theorem dL_cost_0 : decode cL_cost 0 = .ok (.aload_n 3, 1) := by decide +kernel
theorem dL_cost_1 : decode cL_cost 1 = .ok (.iconst 0, 1) := by decide +kernel
theorem dL_cost_2 : decode cL_cost 2 = .ok (.aload_n 0, 1) := by decide +kernel
theorem dL_cost_3 : decode cL_cost 3 = .ok (.iload_n 1, 1) := by decide +kernel
theorem dL_cost_4 : decode cL_cost 4 = .ok (.iload_n 2, 1) := by decide +kernel
theorem dL_cost_5 : decode cL_cost 5 = .ok (.invokevirtual 36, 3) := by decide +kernel
theorem dL_cost_8 : decode cL_cost 8 = .ok (.i2l, 1) := by decide +kernel
theorem dL_cost_9 : decode cL_cost 9 = .ok (.lastore, 1) := by decide +kernel
theorem dL_cost_10 : decode cL_cost 10 = .ok (.goto 11, 3) := by decide +kernel
theorem dL_cost_13 : decode cL_cost 13 = .ok (.astore 4, 2) := by decide +kernel
theorem dL_cost_15 : decode cL_cost 15 = .ok (.iconst 1, 1) := by decide +kernel
theorem dL_cost_16 : decode cL_cost 16 = .ok (.ireturn, 1) := by decide +kernel
theorem dL_cost_17 : decode cL_cost 17 = .ok (.astore 4, 2) := by decide +kernel
theorem dL_cost_19 : decode cL_cost 19 = .ok (.iconst 2, 1) := by decide +kernel
theorem dL_cost_20 : decode cL_cost 20 = .ok (.ireturn, 1) := by decide +kernel
theorem dL_cost_21 : decode cL_cost 21 = .ok (.iconst 0, 1) := by decide +kernel
theorem dL_cost_22 : decode cL_cost 22 = .ok (.ireturn, 1) := by decide +kernel
set_option maxRecDepth 20000 in
theorem ggL_by_X6_by : GoodIn wsL_by wsX6_by := goodIn_ca (goodIn_r _ [6, 7, 8, 9, 5, 10, 11, 12, 13, 14, 15, 16, 17, 18, 19, 20, 21, 22, 23, 24, 25, 26, 27, 28, 29, 30, 31, 32, 33, 34, 35, 36, 37, 38, 39, 40, 41, 42, 43, 44, 45, 46, 47, 48, 49, 50, 51, 52, 53, 54, 55, 56, 57, 58, 59, 60, 61, 62, 63, 64, 65, 66, 67, 68, 69, 70, 71, 72, 73, 74, 75, 76, 77] (by decide +kernel) (by decide +kernel)) (goodIn_sub (fun _ h => List.mem_cons_of_mem _ (List.mem_append_right _ h)) (by decide +kernel))
set_option maxRecDepth 20000 in
theorem gL_by_X6_by : GoodIn wsL_by (wsV RL 39 RX6 yX6_by wsX6_by) := goodIn_app (goodIn_of _ (by decide +kernel)) ggL_by_X6_by
theorem dL_by_0 : decode cL_by 0 = .ok (.aload_n 2, 1) := by decide +kernel
theorem dL_by_1 : decode cL_by 1 = .ok (.iconst 0, 1) := by decide +kernel
theorem dL_by_2 : decode cL_by 2 = .ok (.aload_n 0, 1) := by decide +kernel
theorem dL_by_3 : decode cL_by 3 = .ok (.iload_n 1, 1) := by decide +kernel
theorem dL_by_4 : decode cL_by 4 = .ok (.invokevirtual 39, 3) := by decide +kernel
theorem dL_by_7 : decode cL_by 7 = .ok (.i2l, 1) := by decide +kernel
theorem dL_by_8 : decode cL_by 8 = .ok (.lastore, 1) := by decide +kernel
theorem dL_by_9 : decode cL_by 9 = .ok (.goto 6, 3) := by decide +kernel
theorem dL_by_12 : decode cL_by 12 = .ok (.astore_n 3, 1) := by decide +kernel
theorem dL_by_13 : decode cL_by 13 = .ok (.iconst 1, 1) := by decide +kernel
theorem dL_by_14 : decode cL_by 14 = .ok (.ireturn, 1) := by decide +kernel
theorem dL_by_15 : decode cL_by 15 = .ok (.iconst 0, 1) := by decide +kernel
theorem dL_by_16 : decode cL_by 16 = .ok (.ireturn, 1) := by decide +kernel
set_option maxRecDepth 20000 in
theorem ggL_reach_X6_reach : GoodIn wsL_reach wsX6_reach := goodIn_ca (goodIn_ca (goodIn_r _ [7, 8, 9, 6, 10, 11, 12, 13, 14, 15, 16, 17, 18, 19, 20, 21, 22, 23, 24, 25, 26, 27, 28] (by decide +kernel) (by decide +kernel)) (goodIn_sub (fun _ h => List.mem_cons_of_mem _ (List.mem_append_left _ (List.mem_append_right _ h))) (by decide +kernel))) (goodIn_sub (fun _ h => List.mem_cons_of_mem _ (List.mem_append_right _ h)) (by decide +kernel))
set_option maxRecDepth 20000 in
theorem gL_reach_X6_reach : GoodIn wsL_reach (wsV RL 42 RX6 yX6_reach wsX6_reach) := goodIn_app (goodIn_of _ (by decide +kernel)) ggL_reach_X6_reach
theorem dL_reach_0 : decode cL_reach 0 = .ok (.aload_n 3, 1) := by decide +kernel
theorem dL_reach_1 : decode cL_reach 1 = .ok (.iconst 0, 1) := by decide +kernel
theorem dL_reach_2 : decode cL_reach 2 = .ok (.aload_n 0, 1) := by decide +kernel
theorem dL_reach_3 : decode cL_reach 3 = .ok (.iload_n 1, 1) := by decide +kernel
theorem dL_reach_4 : decode cL_reach 4 = .ok (.iload_n 2, 1) := by decide +kernel
theorem dL_reach_5 : decode cL_reach 5 = .ok (.invokevirtual 42, 3) := by decide +kernel
theorem dL_reach_8 : decode cL_reach 8 = .ok (.i2l, 1) := by decide +kernel
theorem dL_reach_9 : decode cL_reach 9 = .ok (.lastore, 1) := by decide +kernel
theorem dL_reach_10 : decode cL_reach 10 = .ok (.goto 11, 3) := by decide +kernel
theorem dL_reach_13 : decode cL_reach 13 = .ok (.astore 4, 2) := by decide +kernel
theorem dL_reach_15 : decode cL_reach 15 = .ok (.iconst 1, 1) := by decide +kernel
theorem dL_reach_16 : decode cL_reach 16 = .ok (.ireturn, 1) := by decide +kernel
theorem dL_reach_17 : decode cL_reach 17 = .ok (.astore 4, 2) := by decide +kernel
theorem dL_reach_19 : decode cL_reach 19 = .ok (.iconst 2, 1) := by decide +kernel
theorem dL_reach_20 : decode cL_reach 20 = .ok (.ireturn, 1) := by decide +kernel
theorem dL_reach_21 : decode cL_reach 21 = .ok (.iconst 0, 1) := by decide +kernel
theorem dL_reach_22 : decode cL_reach 22 = .ok (.ireturn, 1) := by decide +kernel
set_option maxRecDepth 20000 in
theorem ggL_answer_X6_answer : GoodIn wsL_answer wsX6_answer := goodIn_ca (goodIn_r _ [6, 7, 8, 9, 5, 10, 11, 12, 13, 14, 15, 16, 17, 18, 19, 20, 21, 22, 23, 24, 25, 26, 27, 28, 29, 30, 31, 32, 33, 34, 35, 36, 37, 38, 39, 40, 41, 42, 43, 44, 45, 46, 47, 48, 49, 50, 51, 52, 53, 54, 55, 56, 57, 58, 59, 60, 61, 62, 63, 64, 65, 66, 67, 68, 69, 70, 71, 72, 73, 74, 75, 76, 77, 78, 79, 80, 81, 82, 83, 84, 85, 86, 87, 88, 89, 90, 91, 92, 93, 94, 95, 96, 97, 98] (by decide +kernel) (by decide +kernel)) (goodIn_sub (fun _ h => List.mem_cons_of_mem _ (List.mem_append_right _ h)) (by decide +kernel))
set_option maxRecDepth 20000 in
theorem gL_answer_X6_answer : GoodIn wsL_answer (wsV RL 45 RX6 yX6_answer wsX6_answer) := goodIn_app (goodIn_of _ (by decide +kernel)) ggL_answer_X6_answer
theorem dL_answer_0 : decode cL_answer 0 = .ok (.aload_n 3, 1) := by decide +kernel
theorem dL_answer_1 : decode cL_answer 1 = .ok (.iconst 0, 1) := by decide +kernel
theorem dL_answer_2 : decode cL_answer 2 = .ok (.aload_n 0, 1) := by decide +kernel
theorem dL_answer_3 : decode cL_answer 3 = .ok (.iload_n 1, 1) := by decide +kernel
theorem dL_answer_4 : decode cL_answer 4 = .ok (.iload_n 2, 1) := by decide +kernel
theorem dL_answer_5 : decode cL_answer 5 = .ok (.invokevirtual 45, 3) := by decide +kernel
theorem dL_answer_8 : decode cL_answer 8 = .ok (.i2l, 1) := by decide +kernel
theorem dL_answer_9 : decode cL_answer 9 = .ok (.lastore, 1) := by decide +kernel
theorem dL_answer_10 : decode cL_answer 10 = .ok (.goto 7, 3) := by decide +kernel
theorem dL_answer_13 : decode cL_answer 13 = .ok (.astore 4, 2) := by decide +kernel
theorem dL_answer_15 : decode cL_answer 15 = .ok (.iconst 1, 1) := by decide +kernel
theorem dL_answer_16 : decode cL_answer 16 = .ok (.ireturn, 1) := by decide +kernel
theorem dL_answer_17 : decode cL_answer 17 = .ok (.iconst 0, 1) := by decide +kernel
theorem dL_answer_18 : decode cL_answer 18 = .ok (.ireturn, 1) := by decide +kernel
set_option maxRecDepth 20000 in
theorem ggL_pairs_X6_pairs : GoodIn wsL_pairs wsX6_pairs := goodIn_ca (goodIn_r _ [6, 7, 8, 9, 5, 10, 11, 12, 13, 14, 15, 16, 17, 18, 19, 20, 21, 22, 23, 24, 25, 26, 27, 28, 29, 30, 31, 32, 33, 34, 35, 36, 37, 38, 39, 40, 41, 42, 43, 44, 45, 46, 47, 48, 49, 50, 51, 52, 53, 54, 55, 56, 57, 58, 59] (by decide +kernel) (by decide +kernel)) (goodIn_sub (fun _ h => List.mem_cons_of_mem _ (List.mem_append_right _ h)) (by decide +kernel))
set_option maxRecDepth 20000 in
theorem gL_pairs_X6_pairs : GoodIn wsL_pairs (wsV RL 48 RX6 yX6_pairs wsX6_pairs) := goodIn_app (goodIn_of _ (by decide +kernel)) ggL_pairs_X6_pairs
theorem dL_pairs_0 : decode cL_pairs 0 = .ok (.aload 5, 2) := by decide +kernel
theorem dL_pairs_2 : decode cL_pairs 2 = .ok (.iconst 0, 1) := by decide +kernel
theorem dL_pairs_3 : decode cL_pairs 3 = .ok (.aload_n 0, 1) := by decide +kernel
theorem dL_pairs_4 : decode cL_pairs 4 = .ok (.iload_n 1, 1) := by decide +kernel
theorem dL_pairs_5 : decode cL_pairs 5 = .ok (.iload_n 2, 1) := by decide +kernel
theorem dL_pairs_6 : decode cL_pairs 6 = .ok (.iload_n 3, 1) := by decide +kernel
theorem dL_pairs_7 : decode cL_pairs 7 = .ok (.iload 4, 2) := by decide +kernel
theorem dL_pairs_9 : decode cL_pairs 9 = .ok (.invokevirtual 48, 3) := by decide +kernel
theorem dL_pairs_12 : decode cL_pairs 12 = .ok (.i2l, 1) := by decide +kernel
theorem dL_pairs_13 : decode cL_pairs 13 = .ok (.lastore, 1) := by decide +kernel
theorem dL_pairs_14 : decode cL_pairs 14 = .ok (.goto 7, 3) := by decide +kernel
theorem dL_pairs_17 : decode cL_pairs 17 = .ok (.astore 6, 2) := by decide +kernel
theorem dL_pairs_19 : decode cL_pairs 19 = .ok (.iconst 1, 1) := by decide +kernel
theorem dL_pairs_20 : decode cL_pairs 20 = .ok (.ireturn, 1) := by decide +kernel
theorem dL_pairs_21 : decode cL_pairs 21 = .ok (.iconst 0, 1) := by decide +kernel
theorem dL_pairs_22 : decode cL_pairs 22 = .ok (.ireturn, 1) := by decide +kernel
set_option maxRecDepth 20000 in
theorem ggL_joinCost_X6_joinCost : GoodIn wsL_joinCost wsX6_joinCost := goodIn_ca (goodIn_r _ [6, 7, 8, 5, 9, 10, 11, 12, 13, 14, 15, 16, 17, 18, 19, 20, 21, 22, 23, 24, 25, 26, 27, 28, 29, 30, 31, 32, 33, 34, 35, 36, 37, 38, 39, 40, 41, 42, 43, 44, 45, 46, 47, 48, 49, 50, 51, 52, 53, 54, 55, 56, 57, 58, 59, 60, 61, 62, 63, 64, 65, 66, 67, 68, 69, 70, 71, 72, 73, 74, 75, 76, 77, 78, 79, 80, 81, 82, 83, 84, 85, 86, 87, 88, 89, 90, 91, 92, 93, 94, 95, 96, 97, 98, 99, 100, 101, 102, 103, 104, 105, 106, 107, 108, 109, 110, 111, 112, 113, 114] (by decide +kernel) (by decide +kernel)) (goodIn_sub (fun _ h => List.mem_cons_of_mem _ (List.mem_append_right _ h)) (by decide +kernel))
set_option maxRecDepth 20000 in
theorem gL_joinCost_X6_joinCost : GoodIn wsL_joinCost (wsV RL 52 RX6 yX6_joinCost wsX6_joinCost) := goodIn_app (goodIn_of _ (by decide +kernel)) ggL_joinCost_X6_joinCost
theorem dL_joinCost_0 : decode cL_joinCost 0 = .ok (.aload 6, 2) := by decide +kernel
theorem dL_joinCost_2 : decode cL_joinCost 2 = .ok (.iconst 0, 1) := by decide +kernel
theorem dL_joinCost_3 : decode cL_joinCost 3 = .ok (.aload_n 0, 1) := by decide +kernel
theorem dL_joinCost_4 : decode cL_joinCost 4 = .ok (.iload_n 1, 1) := by decide +kernel
theorem dL_joinCost_5 : decode cL_joinCost 5 = .ok (.iload_n 2, 1) := by decide +kernel
theorem dL_joinCost_6 : decode cL_joinCost 6 = .ok (.iload_n 3, 1) := by decide +kernel
theorem dL_joinCost_7 : decode cL_joinCost 7 = .ok (.iload 4, 2) := by decide +kernel
theorem dL_joinCost_9 : decode cL_joinCost 9 = .ok (.iload 5, 2) := by decide +kernel
theorem dL_joinCost_11 : decode cL_joinCost 11 = .ok (.invokevirtual 52, 3) := by decide +kernel
theorem dL_joinCost_14 : decode cL_joinCost 14 = .ok (.i2l, 1) := by decide +kernel
theorem dL_joinCost_15 : decode cL_joinCost 15 = .ok (.lastore, 1) := by decide +kernel
theorem dL_joinCost_16 : decode cL_joinCost 16 = .ok (.goto 7, 3) := by decide +kernel
theorem dL_joinCost_19 : decode cL_joinCost 19 = .ok (.astore 7, 2) := by decide +kernel
theorem dL_joinCost_21 : decode cL_joinCost 21 = .ok (.iconst 1, 1) := by decide +kernel
theorem dL_joinCost_22 : decode cL_joinCost 22 = .ok (.ireturn, 1) := by decide +kernel
theorem dL_joinCost_23 : decode cL_joinCost 23 = .ok (.iconst 0, 1) := by decide +kernel
theorem dL_joinCost_24 : decode cL_joinCost 24 = .ok (.ireturn, 1) := by decide +kernel
set_option maxRecDepth 20000 in
theorem ggL_add_X6_add : GoodIn wsL_add wsX6_add := goodIn_ca (goodIn_ca (goodIn_r _ [7, 8, 9, 10, 11, 12, 13, 6, 14, 15, 16, 17, 18, 19, 20, 21, 22, 23, 24, 25, 26, 27, 28, 29, 30, 31, 32, 33, 34, 35, 36, 37, 38, 39, 40, 41, 42, 43, 44, 45, 46, 47, 48, 49, 50, 51, 52, 53, 54, 55, 56, 57, 58, 59, 60, 61, 62, 63, 64, 65, 66, 67, 68, 69, 70, 71, 72, 73, 74, 75, 76, 77, 78, 79, 80, 81, 82, 83, 84, 85, 86, 87, 88, 89, 90, 91, 92, 93, 94, 95, 96, 97] (by decide +kernel) (by decide +kernel)) (goodIn_sub (fun _ h => List.mem_cons_of_mem _ (List.mem_append_left _ (List.mem_append_right _ h))) (by decide +kernel))) (goodIn_sub (fun _ h => List.mem_cons_of_mem _ (List.mem_append_right _ h)) (by decide +kernel))
set_option maxRecDepth 20000 in
theorem gL_add_X6_add : GoodIn wsL_add (wsV RL 56 RX6 yX6_add wsX6_add) := goodIn_app (goodIn_of _ (by decide +kernel)) ggL_add_X6_add
theorem dL_add_0 : decode cL_add 0 = .ok (.aload_n 2, 1) := by decide +kernel
theorem dL_add_1 : decode cL_add 1 = .ok (.iconst 0, 1) := by decide +kernel
theorem dL_add_2 : decode cL_add 2 = .ok (.aload_n 0, 1) := by decide +kernel
theorem dL_add_3 : decode cL_add 3 = .ok (.iload_n 1, 1) := by decide +kernel
theorem dL_add_4 : decode cL_add 4 = .ok (.invokevirtual 56, 3) := by decide +kernel
theorem dL_add_7 : decode cL_add 7 = .ok (.i2l, 1) := by decide +kernel
theorem dL_add_8 : decode cL_add 8 = .ok (.lastore, 1) := by decide +kernel
theorem dL_add_9 : decode cL_add 9 = .ok (.goto 9, 3) := by decide +kernel
theorem dL_add_12 : decode cL_add 12 = .ok (.astore_n 3, 1) := by decide +kernel
theorem dL_add_13 : decode cL_add 13 = .ok (.iconst 1, 1) := by decide +kernel
theorem dL_add_14 : decode cL_add 14 = .ok (.ireturn, 1) := by decide +kernel
theorem dL_add_15 : decode cL_add 15 = .ok (.astore_n 3, 1) := by decide +kernel
theorem dL_add_16 : decode cL_add 16 = .ok (.iconst 2, 1) := by decide +kernel
theorem dL_add_17 : decode cL_add 17 = .ok (.ireturn, 1) := by decide +kernel
theorem dL_add_18 : decode cL_add 18 = .ok (.iconst 0, 1) := by decide +kernel
theorem dL_add_19 : decode cL_add 19 = .ok (.ireturn, 1) := by decide +kernel
set_option maxRecDepth 20000 in
theorem ggL_addAll_X6_addAll : GoodIn wsL_addAll wsX6_addAll := goodIn_ca (goodIn_r _ [6, 7, 8, 9, 10, 11, 12, 13, 14, 15, 16, 17, 18, 19, 20, 21, 22, 23, 24, 25, 26, 27, 28, 29, 30, 31, 32, 33, 34, 35, 36, 37, 38, 39, 40, 41, 42, 43, 44, 45, 46, 47, 48, 49, 50, 51, 52, 53, 54, 55, 56, 57, 58, 59, 60, 61, 62, 63, 64, 65, 66, 67, 68, 69, 70, 71, 72, 73, 74, 75, 76, 77, 78, 79, 80, 81, 82, 83, 84, 85, 86, 87, 88, 89, 90, 91, 92, 93, 94, 95, 96, 97, 98, 99, 100, 101, 102, 103, 104, 105, 106, 107, 108, 109, 110, 111, 112, 113, 114, 115, 116, 117] (by decide +kernel) (by decide +kernel)) (goodIn_sub (fun _ h => List.mem_cons_of_mem _ (List.mem_append_right _ h)) (by decide +kernel))
set_option maxRecDepth 20000 in
theorem gL_addAll_X6_addAll : GoodIn wsL_addAll (wsV RL 59 RX6 yX6_addAll wsX6_addAll) := goodIn_app (goodIn_of _ (by decide +kernel)) ggL_addAll_X6_addAll
theorem dL_addAll_0 : decode cL_addAll 0 = .ok (.aload_n 1, 1) := by decide +kernel
theorem dL_addAll_1 : decode cL_addAll 1 = .ok (.iconst 0, 1) := by decide +kernel
theorem dL_addAll_2 : decode cL_addAll 2 = .ok (.aload_n 0, 1) := by decide +kernel
theorem dL_addAll_3 : decode cL_addAll 3 = .ok (.invokevirtual 59, 3) := by decide +kernel
theorem dL_addAll_6 : decode cL_addAll 6 = .ok (.i2l, 1) := by decide +kernel
theorem dL_addAll_7 : decode cL_addAll 7 = .ok (.lastore, 1) := by decide +kernel
theorem dL_addAll_8 : decode cL_addAll 8 = .ok (.goto 6, 3) := by decide +kernel
theorem dL_addAll_11 : decode cL_addAll 11 = .ok (.astore_n 2, 1) := by decide +kernel
theorem dL_addAll_12 : decode cL_addAll 12 = .ok (.iconst 1, 1) := by decide +kernel
theorem dL_addAll_13 : decode cL_addAll 13 = .ok (.ireturn, 1) := by decide +kernel
theorem dL_addAll_14 : decode cL_addAll 14 = .ok (.iconst 0, 1) := by decide +kernel
theorem dL_addAll_15 : decode cL_addAll 15 = .ok (.ireturn, 1) := by decide +kernel
set_option maxRecDepth 20000 in
theorem ggL_remove_X6_remove : GoodIn wsL_remove wsX6_remove := goodIn_ca (goodIn_r _ [6, 7, 8, 9, 10, 5, 11, 12, 13, 14, 15, 16, 17, 18, 19, 20, 21, 22, 23, 24, 25, 26, 27, 28, 29, 30, 31, 32, 33, 34, 35, 36, 37, 38, 39, 40, 41, 42, 43, 44, 45, 46, 47, 48, 49, 50, 51, 52, 53, 54, 55, 56, 57, 58, 59, 60, 61, 62, 63, 64, 65, 66, 67, 68, 69, 70, 71, 72, 73, 74, 75, 76, 77, 78, 79, 80, 81, 82, 83, 84, 85, 86, 87, 88, 89, 90] (by decide +kernel) (by decide +kernel)) (goodIn_sub (fun _ h => List.mem_cons_of_mem _ (List.mem_append_right _ h)) (by decide +kernel))
set_option maxRecDepth 20000 in
theorem gL_remove_X6_remove : GoodIn wsL_remove (wsV RL 62 RX6 yX6_remove wsX6_remove) := goodIn_app (goodIn_of _ (by decide +kernel)) ggL_remove_X6_remove
theorem dL_remove_0 : decode cL_remove 0 = .ok (.aload_n 2, 1) := by decide +kernel
theorem dL_remove_1 : decode cL_remove 1 = .ok (.iconst 0, 1) := by decide +kernel
theorem dL_remove_2 : decode cL_remove 2 = .ok (.aload_n 0, 1) := by decide +kernel
theorem dL_remove_3 : decode cL_remove 3 = .ok (.iload_n 1, 1) := by decide +kernel
theorem dL_remove_4 : decode cL_remove 4 = .ok (.invokevirtual 62, 3) := by decide +kernel
theorem dL_remove_7 : decode cL_remove 7 = .ok (.i2l, 1) := by decide +kernel
theorem dL_remove_8 : decode cL_remove 8 = .ok (.lastore, 1) := by decide +kernel
theorem dL_remove_9 : decode cL_remove 9 = .ok (.goto 6, 3) := by decide +kernel
theorem dL_remove_12 : decode cL_remove 12 = .ok (.astore_n 3, 1) := by decide +kernel
theorem dL_remove_13 : decode cL_remove 13 = .ok (.iconst 1, 1) := by decide +kernel
theorem dL_remove_14 : decode cL_remove 14 = .ok (.ireturn, 1) := by decide +kernel
theorem dL_remove_15 : decode cL_remove 15 = .ok (.iconst 0, 1) := by decide +kernel
theorem dL_remove_16 : decode cL_remove 16 = .ok (.ireturn, 1) := by decide +kernel
set_option maxRecDepth 20000 in
theorem ggL_ask_X6_ask : GoodIn wsL_ask wsX6_ask := goodIn_ca (goodIn_r _ [6, 7, 8, 9, 10, 5, 11, 12, 13, 14, 15, 16, 17, 18, 19, 20, 21, 22, 23, 24, 25, 26, 27, 28, 29, 30, 31, 32, 33, 34, 35, 36, 37, 38, 39, 40, 41, 42, 43, 44, 45, 46, 47, 48, 49, 50, 51, 52, 53, 54, 55, 56, 57, 58, 59, 60, 61, 62, 63, 64, 65, 66, 67, 68, 69, 70, 71, 72, 73, 74, 75, 76, 77, 78, 79, 80, 81, 82, 83, 84, 85, 86, 87, 88, 89, 90, 91, 92, 93, 94, 95, 96, 97, 98, 99, 100, 101, 102, 103, 104, 105, 106, 107, 108, 109, 110, 111, 112, 113, 114, 115, 116, 117, 118, 119] (by decide +kernel) (by decide +kernel)) (goodIn_sub (fun _ h => List.mem_cons_of_mem _ (List.mem_append_right _ h)) (by decide +kernel))
set_option maxRecDepth 20000 in
theorem gL_ask_X6_ask : GoodIn wsL_ask (wsV RL 65 RX6 yX6_ask wsX6_ask) := goodIn_app (goodIn_of _ (by decide +kernel)) ggL_ask_X6_ask
theorem dL_ask_0 : decode cL_ask 0 = .ok (.aload_n 2, 1) := by decide +kernel
theorem dL_ask_1 : decode cL_ask 1 = .ok (.iconst 0, 1) := by decide +kernel
theorem dL_ask_2 : decode cL_ask 2 = .ok (.aload_n 0, 1) := by decide +kernel
theorem dL_ask_3 : decode cL_ask 3 = .ok (.iload_n 1, 1) := by decide +kernel
theorem dL_ask_4 : decode cL_ask 4 = .ok (.invokevirtual 65, 3) := by decide +kernel
theorem dL_ask_7 : decode cL_ask 7 = .ok (.i2l, 1) := by decide +kernel
theorem dL_ask_8 : decode cL_ask 8 = .ok (.lastore, 1) := by decide +kernel
theorem dL_ask_9 : decode cL_ask 9 = .ok (.goto 6, 3) := by decide +kernel
theorem dL_ask_12 : decode cL_ask 12 = .ok (.astore_n 3, 1) := by decide +kernel
theorem dL_ask_13 : decode cL_ask 13 = .ok (.iconst 1, 1) := by decide +kernel
theorem dL_ask_14 : decode cL_ask 14 = .ok (.ireturn, 1) := by decide +kernel
theorem dL_ask_15 : decode cL_ask 15 = .ok (.iconst 0, 1) := by decide +kernel
theorem dL_ask_16 : decode cL_ask 16 = .ok (.ireturn, 1) := by decide +kernel
set_option maxRecDepth 20000 in
theorem ggL_build_X6_build : GoodIn wsL_build wsX6_build := goodIn_ca (goodIn_ca (goodIn_r _ [7, 8, 9, 10, 11, 12, 13, 6, 14, 15, 16, 17, 18, 19, 20, 21, 22, 23, 24, 25, 26, 27, 28, 29, 30, 31, 32, 33, 34, 35, 36, 37, 38, 39, 40, 41, 42, 43, 44, 45, 46, 47, 48, 49, 50, 51, 52, 53, 54, 55, 56, 57, 58, 59, 60, 61, 62, 63, 64, 65, 66, 67, 68, 69, 70, 71, 72, 73, 74, 75, 76, 77, 78] (by decide +kernel) (by decide +kernel)) (goodIn_sub (fun _ h => List.mem_cons_of_mem _ (List.mem_append_left _ (List.mem_append_right _ h))) (by decide +kernel))) (goodIn_sub (fun _ h => List.mem_cons_of_mem _ (List.mem_append_right _ h)) (by decide +kernel))
set_option maxRecDepth 20000 in
theorem gL_build_X6_build : GoodIn wsL_build (wsV RL 68 RX6 yX6_build wsX6_build) := goodIn_app (goodIn_of _ (by decide +kernel)) ggL_build_X6_build
theorem dL_build_0 : decode cL_build 0 = .ok (.aload_n 2, 1) := by decide +kernel
theorem dL_build_1 : decode cL_build 1 = .ok (.iconst 0, 1) := by decide +kernel
theorem dL_build_2 : decode cL_build 2 = .ok (.aload_n 0, 1) := by decide +kernel
theorem dL_build_3 : decode cL_build 3 = .ok (.iload_n 1, 1) := by decide +kernel
theorem dL_build_4 : decode cL_build 4 = .ok (.invokevirtual 68, 3) := by decide +kernel
theorem dL_build_7 : decode cL_build 7 = .ok (.i2l, 1) := by decide +kernel
theorem dL_build_8 : decode cL_build 8 = .ok (.lastore, 1) := by decide +kernel
theorem dL_build_9 : decode cL_build 9 = .ok (.goto 9, 3) := by decide +kernel
theorem dL_build_12 : decode cL_build 12 = .ok (.astore_n 3, 1) := by decide +kernel
theorem dL_build_13 : decode cL_build 13 = .ok (.iconst 1, 1) := by decide +kernel
theorem dL_build_14 : decode cL_build 14 = .ok (.ireturn, 1) := by decide +kernel
theorem dL_build_15 : decode cL_build 15 = .ok (.astore_n 3, 1) := by decide +kernel
theorem dL_build_16 : decode cL_build 16 = .ok (.iconst 2, 1) := by decide +kernel
theorem dL_build_17 : decode cL_build 17 = .ok (.ireturn, 1) := by decide +kernel
theorem dL_build_18 : decode cL_build 18 = .ok (.iconst 0, 1) := by decide +kernel
theorem dL_build_19 : decode cL_build 19 = .ok (.ireturn, 1) := by decide +kernel
set_option maxRecDepth 20000 in
theorem ggL_drop_X6_drop : GoodIn wsL_drop wsX6_drop := goodIn_ca (goodIn_ca (goodIn_r _ [7, 8, 9, 10, 11, 12, 13, 6, 14, 15, 16, 17, 18, 19, 20, 21, 22, 23, 24, 25, 26, 27, 28, 29, 30, 31, 32, 33, 34, 35, 36, 37, 38, 39, 40, 41, 42, 43, 44, 45, 46, 47, 48, 49, 50, 51, 52, 53, 54, 55, 56, 57, 58, 59, 60, 61, 62, 63, 64, 65, 66, 67, 68, 69, 70, 71, 72, 73, 74, 75, 76, 77, 78, 79, 80, 81] (by decide +kernel) (by decide +kernel)) (goodIn_sub (fun _ h => List.mem_cons_of_mem _ (List.mem_append_left _ (List.mem_append_right _ h))) (by decide +kernel))) (goodIn_sub (fun _ h => List.mem_cons_of_mem _ (List.mem_append_right _ h)) (by decide +kernel))
set_option maxRecDepth 20000 in
theorem gL_drop_X6_drop : GoodIn wsL_drop (wsV RL 71 RX6 yX6_drop wsX6_drop) := goodIn_app (goodIn_of _ (by decide +kernel)) ggL_drop_X6_drop
theorem dL_drop_0 : decode cL_drop 0 = .ok (.aload_n 2, 1) := by decide +kernel
theorem dL_drop_1 : decode cL_drop 1 = .ok (.iconst 0, 1) := by decide +kernel
theorem dL_drop_2 : decode cL_drop 2 = .ok (.aload_n 0, 1) := by decide +kernel
theorem dL_drop_3 : decode cL_drop 3 = .ok (.iload_n 1, 1) := by decide +kernel
theorem dL_drop_4 : decode cL_drop 4 = .ok (.invokevirtual 71, 3) := by decide +kernel
theorem dL_drop_7 : decode cL_drop 7 = .ok (.i2l, 1) := by decide +kernel
theorem dL_drop_8 : decode cL_drop 8 = .ok (.lastore, 1) := by decide +kernel
theorem dL_drop_9 : decode cL_drop 9 = .ok (.goto 9, 3) := by decide +kernel
theorem dL_drop_12 : decode cL_drop 12 = .ok (.astore_n 3, 1) := by decide +kernel
theorem dL_drop_13 : decode cL_drop 13 = .ok (.iconst 1, 1) := by decide +kernel
theorem dL_drop_14 : decode cL_drop 14 = .ok (.ireturn, 1) := by decide +kernel
theorem dL_drop_15 : decode cL_drop 15 = .ok (.astore_n 3, 1) := by decide +kernel
theorem dL_drop_16 : decode cL_drop 16 = .ok (.iconst 2, 1) := by decide +kernel
theorem dL_drop_17 : decode cL_drop 17 = .ok (.ireturn, 1) := by decide +kernel
theorem dL_drop_18 : decode cL_drop 18 = .ok (.iconst 0, 1) := by decide +kernel
theorem dL_drop_19 : decode cL_drop 19 = .ok (.ireturn, 1) := by decide +kernel
set_option maxRecDepth 20000 in
theorem ggL_setWeight_X6_setWeight : GoodIn wsL_setWeight wsX6_setWeight := goodIn_ca (goodIn_r _ [6, 7, 8, 9, 10, 11, 12, 13, 14, 15, 16, 17, 18, 19, 20, 21, 22, 23, 24, 25, 26, 27, 28, 29, 30, 31, 32, 33, 34, 35, 36, 37, 38, 39, 40, 41, 42, 43, 44, 45, 46, 47, 48, 49, 50, 51, 52, 53, 54, 55, 56, 57, 58, 59, 60] (by decide +kernel) (by decide +kernel)) (goodIn_sub (fun _ h => List.mem_cons_of_mem _ (List.mem_append_right _ h)) (by decide +kernel))
set_option maxRecDepth 20000 in
theorem gL_setWeight_X6_setWeight : GoodIn wsL_setWeight (wsV RL 74 RX6 yX6_setWeight wsX6_setWeight) := goodIn_app (goodIn_of _ (by decide +kernel)) ggL_setWeight_X6_setWeight
theorem dL_setWeight_0 : decode cL_setWeight 0 = .ok (.aload_n 2, 1) := by decide +kernel
theorem dL_setWeight_1 : decode cL_setWeight 1 = .ok (.iconst 0, 1) := by decide +kernel
theorem dL_setWeight_2 : decode cL_setWeight 2 = .ok (.aload_n 0, 1) := by decide +kernel
theorem dL_setWeight_3 : decode cL_setWeight 3 = .ok (.iload_n 1, 1) := by decide +kernel
theorem dL_setWeight_4 : decode cL_setWeight 4 = .ok (.invokevirtual 74, 3) := by decide +kernel
theorem dL_setWeight_7 : decode cL_setWeight 7 = .ok (.i2l, 1) := by decide +kernel
theorem dL_setWeight_8 : decode cL_setWeight 8 = .ok (.lastore, 1) := by decide +kernel
theorem dL_setWeight_9 : decode cL_setWeight 9 = .ok (.goto 6, 3) := by decide +kernel
theorem dL_setWeight_12 : decode cL_setWeight 12 = .ok (.astore_n 3, 1) := by decide +kernel
theorem dL_setWeight_13 : decode cL_setWeight 13 = .ok (.iconst 1, 1) := by decide +kernel
theorem dL_setWeight_14 : decode cL_setWeight 14 = .ok (.ireturn, 1) := by decide +kernel
theorem dL_setWeight_15 : decode cL_setWeight 15 = .ok (.iconst 0, 1) := by decide +kernel
theorem dL_setWeight_16 : decode cL_setWeight 16 = .ok (.ireturn, 1) := by decide +kernel
set_option maxRecDepth 20000 in
theorem ggL_undo_X6_undo : GoodIn wsL_undo wsX6_undo := goodIn_ca (goodIn_r _ [6, 7, 8, 9, 10, 11, 12, 13, 14, 15, 16, 17, 18, 19, 20, 21, 22, 23, 24, 25, 26, 27, 28, 29, 30, 31, 32, 33, 34, 35, 36, 37, 38, 39, 40, 41, 42, 43, 44, 45, 46, 47, 48, 49, 50, 51, 52, 53, 54, 55, 56, 57, 58, 59, 60] (by decide +kernel) (by decide +kernel)) (goodIn_sub (fun _ h => List.mem_cons_of_mem _ (List.mem_append_right _ h)) (by decide +kernel))
set_option maxRecDepth 20000 in
theorem gL_undo_X6_undo : GoodIn wsL_undo (wsV RL 77 RX6 yX6_undo wsX6_undo) := goodIn_app (goodIn_of _ (by decide +kernel)) ggL_undo_X6_undo
theorem dL_undo_0 : decode cL_undo 0 = .ok (.aload_n 1, 1) := by decide +kernel
theorem dL_undo_1 : decode cL_undo 1 = .ok (.iconst 0, 1) := by decide +kernel
theorem dL_undo_2 : decode cL_undo 2 = .ok (.aload_n 0, 1) := by decide +kernel
theorem dL_undo_3 : decode cL_undo 3 = .ok (.invokevirtual 77, 3) := by decide +kernel
theorem dL_undo_6 : decode cL_undo 6 = .ok (.i2l, 1) := by decide +kernel
theorem dL_undo_7 : decode cL_undo 7 = .ok (.lastore, 1) := by decide +kernel
theorem dL_undo_8 : decode cL_undo 8 = .ok (.goto 6, 3) := by decide +kernel
theorem dL_undo_11 : decode cL_undo 11 = .ok (.astore_n 2, 1) := by decide +kernel
theorem dL_undo_12 : decode cL_undo 12 = .ok (.iconst 1, 1) := by decide +kernel
theorem dL_undo_13 : decode cL_undo 13 = .ok (.ireturn, 1) := by decide +kernel
theorem dL_undo_14 : decode cL_undo 14 = .ok (.iconst 0, 1) := by decide +kernel
theorem dL_undo_15 : decode cL_undo 15 = .ok (.ireturn, 1) := by decide +kernel
set_option maxRecDepth 20000 in
theorem ggL_value_X6_value : GoodIn wsL_value wsX6_value := goodIn_ca (goodIn_r _ [6, 7, 8, 9, 10, 5, 11, 12, 13, 14, 15, 16, 17, 18, 19, 20, 21, 22, 23, 24, 25, 26, 27, 28, 29, 30, 31, 32, 33, 34, 35, 36, 37, 38, 39, 40, 41, 42, 43, 44, 45, 46, 47, 48, 49, 50, 51, 52, 53, 54, 55, 56, 57, 58, 59, 60, 61, 62, 63, 64, 65, 66, 67, 68, 69, 70, 71, 72, 73, 74, 75, 76, 77, 78, 79, 80, 81, 82, 83, 84, 85, 86, 87, 88, 89, 90, 91, 92, 93, 94, 95, 96, 97, 98, 99, 100, 101, 102, 103, 104, 105, 106, 107, 108, 109, 110, 111, 112, 113, 114, 115, 116] (by decide +kernel) (by decide +kernel)) (goodIn_sub (fun _ h => List.mem_cons_of_mem _ (List.mem_append_right _ h)) (by decide +kernel))
set_option maxRecDepth 20000 in
theorem gL_value_X6_value : GoodIn wsL_value (wsV RL 80 RX6 yX6_value wsX6_value) := goodIn_app (goodIn_of _ (by decide +kernel)) ggL_value_X6_value
theorem dL_value_0 : decode cL_value 0 = .ok (.aload_n 2, 1) := by decide +kernel
theorem dL_value_1 : decode cL_value 1 = .ok (.iconst 0, 1) := by decide +kernel
theorem dL_value_2 : decode cL_value 2 = .ok (.aload_n 0, 1) := by decide +kernel
theorem dL_value_3 : decode cL_value 3 = .ok (.iload_n 1, 1) := by decide +kernel
