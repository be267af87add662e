theorem dL_isAdviceSo_33 : decode cL_isAdviceSo 33 = .ok (.iload_n 2, 1) := by decide +kernel
theorem dL_isAdviceSo_34 : decode cL_isAdviceSo 34 = .ok (.invokevirtual 78, 3) := by decide +kernel
theorem dL_isAdviceSo_37 : decode cL_isAdviceSo 37 = .ok (.istore 6, 2) := by decide +kernel
theorem dL_isAdviceSo_39 : decode cL_isAdviceSo 39 = .ok (.iload 4, 2) := by decide +kernel
theorem dL_isAdviceSo_41 : decode cL_isAdviceSo 41 = .ok (.iconst (-1), 1) := by decide +kernel
theorem dL_isAdviceSo_42 : decode cL_isAdviceSo 42 = .ok (.if_icmp .eq 21, 3) := by decide +kernel
theorem dL_isAdviceSo_45 : decode cL_isAdviceSo 45 = .ok (.iload_n 2, 1) := by decide +kernel
theorem dL_isAdviceSo_46 : decode cL_isAdviceSo 46 = .ok (.iload 4, 2) := by decide +kernel
theorem dL_isAdviceSo_48 : decode cL_isAdviceSo 48 = .ok (.ishr, 1) := by decide +kernel
theorem dL_isAdviceSo_49 : decode cL_isAdviceSo 49 = .ok (.iconst 1, 1) := by decide +kernel
theorem dL_isAdviceSo_50 : decode cL_isAdviceSo 50 = .ok (.iand, 1) := by decide +kernel
theorem dL_isAdviceSo_51 : decode cL_isAdviceSo 51 = .ok (.ifCond .ne 16, 3) := by decide +kernel
theorem dL_isAdviceSo_54 : decode cL_isAdviceSo 54 = .ok (.aload_n 0, 1) := by decide +kernel
theorem dL_isAdviceSo_55 : decode cL_isAdviceSo 55 = .ok (.iload 4, 2) := by decide +kernel
theorem dL_isAdviceSo_57 : decode cL_isAdviceSo 57 = .ok (.invokevirtual 81, 3) := by decide +kernel
theorem dL_isAdviceSo_60 : decode cL_isAdviceSo 60 = .ok (.ifCond .le 7, 3) := by decide +kernel
theorem dL_isAdviceSo_63 : decode cL_isAdviceSo 63 = .ok (.iconst 1, 1) := by decide +kernel
theorem dL_isAdviceSo_64 : decode cL_isAdviceSo 64 = .ok (.goto 4, 3) := by decide +kernel
theorem dL_isAdviceSo_67 : decode cL_isAdviceSo 67 = .ok (.iconst 0, 1) := by decide +kernel
theorem dL_isAdviceSo_68 : decode cL_isAdviceSo 68 = .ok (.istore 7, 2) := by decide +kernel
theorem dL_isAdviceSo_70 : decode cL_isAdviceSo 70 = .ok (.iload 7, 2) := by decide +kernel
theorem dL_isAdviceSo_72 : decode cL_isAdviceSo 72 = .ok (.ifCond .eq 32, 3) := by decide +kernel
theorem dL_isAdviceSo_75 : decode cL_isAdviceSo 75 = .ok (.iload 5, 2) := by decide +kernel
theorem dL_isAdviceSo_77 : decode cL_isAdviceSo 77 = .ok (.iconst (-1), 1) := by decide +kernel
theorem dL_isAdviceSo_78 : decode cL_isAdviceSo 78 = .ok (.if_icmp .eq 22, 3) := by decide +kernel
theorem dL_isAdviceSo_81 : decode cL_isAdviceSo 81 = .ok (.iload_n 2, 1) := by decide +kernel
theorem dL_isAdviceSo_82 : decode cL_isAdviceSo 82 = .ok (.iload 5, 2) := by decide +kernel
theorem dL_isAdviceSo_84 : decode cL_isAdviceSo 84 = .ok (.ishr, 1) := by decide +kernel
theorem dL_isAdviceSo_85 : decode cL_isAdviceSo 85 = .ok (.iconst 1, 1) := by decide +kernel
theorem dL_isAdviceSo_86 : decode cL_isAdviceSo 86 = .ok (.iand, 1) := by decide +kernel
theorem dL_isAdviceSo_87 : decode cL_isAdviceSo 87 = .ok (.iconst 1, 1) := by decide +kernel
theorem dL_isAdviceSo_88 : decode cL_isAdviceSo 88 = .ok (.if_icmp .ne 16, 3) := by decide +kernel
theorem dL_isAdviceSo_91 : decode cL_isAdviceSo 91 = .ok (.aload_n 0, 1) := by decide +kernel
theorem dL_isAdviceSo_92 : decode cL_isAdviceSo 92 = .ok (.iload 5, 2) := by decide +kernel
theorem dL_isAdviceSo_94 : decode cL_isAdviceSo 94 = .ok (.invokevirtual 81, 3) := by decide +kernel
theorem dL_isAdviceSo_97 : decode cL_isAdviceSo 97 = .ok (.ifCond .ge 7, 3) := by decide +kernel
theorem dL_isAdviceSo_100 : decode cL_isAdviceSo 100 = .ok (.iconst 1, 1) := by decide +kernel
theorem dL_isAdviceSo_101 : decode cL_isAdviceSo 101 = .ok (.goto 4, 3) := by decide +kernel
theorem dL_isAdviceSo_104 : decode cL_isAdviceSo 104 = .ok (.iconst 0, 1) := by decide +kernel
theorem dL_isAdviceSo_105 : decode cL_isAdviceSo 105 = .ok (.istore 7, 2) := by decide +kernel
theorem dL_isAdviceSo_107 : decode cL_isAdviceSo 107 = .ok (.iconst 0, 1) := by decide +kernel
theorem dL_isAdviceSo_108 : decode cL_isAdviceSo 108 = .ok (.istore 8, 2) := by decide +kernel
theorem dL_isAdviceSo_110 : decode cL_isAdviceSo 110 = .ok (.iload 8, 2) := by decide +kernel
theorem dL_isAdviceSo_112 : decode cL_isAdviceSo 112 = .ok (.bipush 6, 2) := by decide +kernel
theorem dL_isAdviceSo_114 : decode cL_isAdviceSo 114 = .ok (.if_icmp .ge 163, 3) := by decide +kernel
theorem dL_isAdviceSo_117 : decode cL_isAdviceSo 117 = .ok (.iload_n 2, 1) := by decide +kernel
theorem dL_isAdviceSo_118 : decode cL_isAdviceSo 118 = .ok (.iload 8, 2) := by decide +kernel
theorem dL_isAdviceSo_120 : decode cL_isAdviceSo 120 = .ok (.ishr, 1) := by decide +kernel
theorem dL_isAdviceSo_121 : decode cL_isAdviceSo 121 = .ok (.iconst 1, 1) := by decide +kernel
theorem dL_isAdviceSo_122 : decode cL_isAdviceSo 122 = .ok (.iand, 1) := by decide +kernel
theorem dL_isAdviceSo_123 : decode cL_isAdviceSo 123 = .ok (.iconst 1, 1) := by decide +kernel
theorem dL_isAdviceSo_124 : decode cL_isAdviceSo 124 = .ok (.if_icmp .ne 7, 3) := by decide +kernel
theorem dL_isAdviceSo_127 : decode cL_isAdviceSo 127 = .ok (.iconst 1, 1) := by decide +kernel
theorem dL_isAdviceSo_128 : decode cL_isAdviceSo 128 = .ok (.goto 4, 3) := by decide +kernel
theorem dL_isAdviceSo_131 : decode cL_isAdviceSo 131 = .ok (.iconst 0, 1) := by decide +kernel
theorem dL_isAdviceSo_132 : decode cL_isAdviceSo 132 = .ok (.istore 9, 2) := by decide +kernel
theorem dL_isAdviceSo_134 : decode cL_isAdviceSo 134 = .ok (.aload_n 0, 1) := by decide +kernel
theorem dL_isAdviceSo_135 : decode cL_isAdviceSo 135 = .ok (.iload 8, 2) := by decide +kernel
theorem dL_isAdviceSo_137 : decode cL_isAdviceSo 137 = .ok (.invokevirtual 81, 3) := by decide +kernel
theorem dL_isAdviceSo_140 : decode cL_isAdviceSo 140 = .ok (.istore 10, 2) := by decide +kernel
theorem dL_isAdviceSo_142 : decode cL_isAdviceSo 142 = .ok (.aload_n 0, 1) := by decide +kernel
theorem dL_isAdviceSo_143 : decode cL_isAdviceSo 143 = .ok (.iload 9, 2) := by decide +kernel
theorem dL_isAdviceSo_145 : decode cL_isAdviceSo 145 = .ok (.ifCond .eq 14, 3) := by decide +kernel
theorem dL_isAdviceSo_148 : decode cL_isAdviceSo 148 = .ok (.iload_n 2, 1) := by decide +kernel
theorem dL_isAdviceSo_149 : decode cL_isAdviceSo 149 = .ok (.iconst 1, 1) := by decide +kernel
theorem dL_isAdviceSo_150 : decode cL_isAdviceSo 150 = .ok (.iload 8, 2) := by decide +kernel
theorem dL_isAdviceSo_152 : decode cL_isAdviceSo 152 = .ok (.ishl, 1) := by decide +kernel
theorem dL_isAdviceSo_153 : decode cL_isAdviceSo 153 = .ok (.iconst (-1), 1) := by decide +kernel
theorem dL_isAdviceSo_154 : decode cL_isAdviceSo 154 = .ok (.ixor, 1) := by decide +kernel
theorem dL_isAdviceSo_155 : decode cL_isAdviceSo 155 = .ok (.iand, 1) := by decide +kernel
theorem dL_isAdviceSo_156 : decode cL_isAdviceSo 156 = .ok (.goto 9, 3) := by decide +kernel
theorem dL_isAdviceSo_159 : decode cL_isAdviceSo 159 = .ok (.iload_n 2, 1) := by decide +kernel
theorem dL_isAdviceSo_160 : decode cL_isAdviceSo 160 = .ok (.iconst 1, 1) := by decide +kernel
theorem dL_isAdviceSo_161 : decode cL_isAdviceSo 161 = .ok (.iload 8, 2) := by decide +kernel
theorem dL_isAdviceSo_163 : decode cL_isAdviceSo 163 = .ok (.ishl, 1) := by decide +kernel
theorem dL_isAdviceSo_164 : decode cL_isAdviceSo 164 = .ok (.ior, 1) := by decide +kernel
theorem dL_isAdviceSo_165 : decode cL_isAdviceSo 165 = .ok (.invokevirtual 78, 3) := by decide +kernel
theorem dL_isAdviceSo_168 : decode cL_isAdviceSo 168 = .ok (.istore 11, 2) := by decide +kernel
theorem dL_isAdviceSo_170 : decode cL_isAdviceSo 170 = .ok (.iload 7, 2) := by decide +kernel
theorem dL_isAdviceSo_172 : decode cL_isAdviceSo 172 = .ok (.ifCond .eq 32, 3) := by decide +kernel
theorem dL_isAdviceSo_175 : decode cL_isAdviceSo 175 = .ok (.iload 10, 2) := by decide +kernel
theorem dL_isAdviceSo_177 : decode cL_isAdviceSo 177 = .ok (.iload 9, 2) := by decide +kernel
theorem dL_isAdviceSo_179 : decode cL_isAdviceSo 179 = .ok (.ifCond .eq 11, 3) := by decide +kernel
theorem dL_isAdviceSo_182 : decode cL_isAdviceSo 182 = .ok (.iload 11, 2) := by decide +kernel
theorem dL_isAdviceSo_184 : decode cL_isAdviceSo 184 = .ok (.iload 6, 2) := by decide +kernel
theorem dL_isAdviceSo_186 : decode cL_isAdviceSo 186 = .ok (.isub, 1) := by decide +kernel
theorem dL_isAdviceSo_187 : decode cL_isAdviceSo 187 = .ok (.goto 8, 3) := by decide +kernel
theorem dL_isAdviceSo_190 : decode cL_isAdviceSo 190 = .ok (.iload 6, 2) := by decide +kernel
theorem dL_isAdviceSo_192 : decode cL_isAdviceSo 192 = .ok (.iload 11, 2) := by decide +kernel
theorem dL_isAdviceSo_194 : decode cL_isAdviceSo 194 = .ok (.isub, 1) := by decide +kernel
theorem dL_isAdviceSo_195 : decode cL_isAdviceSo 195 = .ok (.iload_n 3, 1) := by decide +kernel
theorem dL_isAdviceSo_196 : decode cL_isAdviceSo 196 = .ok (.isub, 1) := by decide +kernel
theorem dL_isAdviceSo_197 : decode cL_isAdviceSo 197 = .ok (.if_icmp .ne 7, 3) := by decide +kernel
theorem dL_isAdviceSo_200 : decode cL_isAdviceSo 200 = .ok (.iconst 1, 1) := by decide +kernel
theorem dL_isAdviceSo_201 : decode cL_isAdviceSo 201 = .ok (.goto 4, 3) := by decide +kernel
theorem dL_isAdviceSo_204 : decode cL_isAdviceSo 204 = .ok (.iconst 0, 1) := by decide +kernel
theorem dL_isAdviceSo_205 : decode cL_isAdviceSo 205 = .ok (.istore 7, 2) := by decide +kernel
theorem dL_isAdviceSo_207 : decode cL_isAdviceSo 207 = .ok (.iload 7, 2) := by decide +kernel
theorem dL_isAdviceSo_209 : decode cL_isAdviceSo 209 = .ok (.ifCond .eq 59, 3) := by decide +kernel
theorem dL_isAdviceSo_212 : decode cL_isAdviceSo 212 = .ok (.iload 9, 2) := by decide +kernel
theorem dL_isAdviceSo_214 : decode cL_isAdviceSo 214 = .ok (.ifCond .eq 28, 3) := by decide +kernel
theorem dL_isAdviceSo_217 : decode cL_isAdviceSo 217 = .ok (.iload 10, 2) := by decide +kernel
theorem dL_isAdviceSo_219 : decode cL_isAdviceSo 219 = .ok (.ifCond .ge 45, 3) := by decide +kernel
theorem dL_isAdviceSo_222 : decode cL_isAdviceSo 222 = .ok (.iload 5, 2) := by decide +kernel
theorem dL_isAdviceSo_224 : decode cL_isAdviceSo 224 = .ok (.iconst (-1), 1) := by decide +kernel
theorem dL_isAdviceSo_225 : decode cL_isAdviceSo 225 = .ok (.if_icmp .eq 43, 3) := by decide +kernel
theorem dL_isAdviceSo_228 : decode cL_isAdviceSo 228 = .ok (.aload_n 0, 1) := by decide +kernel
theorem dL_isAdviceSo_229 : decode cL_isAdviceSo 229 = .ok (.iload 5, 2) := by decide +kernel
theorem dL_isAdviceSo_231 : decode cL_isAdviceSo 231 = .ok (.invokevirtual 81, 3) := by decide +kernel
theorem dL_isAdviceSo_234 : decode cL_isAdviceSo 234 = .ok (.iload 10, 2) := by decide +kernel
theorem dL_isAdviceSo_236 : decode cL_isAdviceSo 236 = .ok (.if_icmp .gt 32, 3) := by decide +kernel
theorem dL_isAdviceSo_239 : decode cL_isAdviceSo 239 = .ok (.goto 25, 3) := by decide +kernel
theorem dL_isAdviceSo_242 : decode cL_isAdviceSo 242 = .ok (.iload 10, 2) := by decide +kernel
theorem dL_isAdviceSo_244 : decode cL_isAdviceSo 244 = .ok (.ifCond .le 20, 3) := by decide +kernel
theorem dL_isAdviceSo_247 : decode cL_isAdviceSo 247 = .ok (.iload 4, 2) := by decide +kernel
theorem dL_isAdviceSo_249 : decode cL_isAdviceSo 249 = .ok (.iconst (-1), 1) := by decide +kernel
theorem dL_isAdviceSo_250 : decode cL_isAdviceSo 250 = .ok (.if_icmp .eq 18, 3) := by decide +kernel
theorem dL_isAdviceSo_253 : decode cL_isAdviceSo 253 = .ok (.aload_n 0, 1) := by decide +kernel
theorem dL_isAdviceSo_254 : decode cL_isAdviceSo 254 = .ok (.iload 4, 2) := by decide +kernel
theorem dL_isAdviceSo_256 : decode cL_isAdviceSo 256 = .ok (.invokevirtual 81, 3) := by decide +kernel
theorem dL_isAdviceSo_259 : decode cL_isAdviceSo 259 = .ok (.iload 10, 2) := by decide +kernel
theorem dL_isAdviceSo_261 : decode cL_isAdviceSo 261 = .ok (.if_icmp .lt 7, 3) := by decide +kernel
theorem dL_isAdviceSo_264 : decode cL_isAdviceSo 264 = .ok (.iconst 1, 1) := by decide +kernel
theorem dL_isAdviceSo_265 : decode cL_isAdviceSo 265 = .ok (.goto 4, 3) := by decide +kernel
theorem dL_isAdviceSo_268 : decode cL_isAdviceSo 268 = .ok (.iconst 0, 1) := by decide +kernel
theorem dL_isAdviceSo_269 : decode cL_isAdviceSo 269 = .ok (.istore 7, 2) := by decide +kernel
theorem dL_isAdviceSo_271 : decode cL_isAdviceSo 271 = .ok (.iinc 8 1, 3) := by decide +kernel
theorem dL_isAdviceSo_274 : decode cL_isAdviceSo 274 = .ok (.goto (-164), 3) := by decide +kernel
theorem dL_isAdviceSo_277 : decode cL_isAdviceSo 277 = .ok (.aload_n 0, 1) := by decide +kernel
theorem dL_isAdviceSo_278 : decode cL_isAdviceSo 278 = .ok (.invokevirtual 84, 3) := by decide +kernel
theorem dL_isAdviceSo_281 : decode cL_isAdviceSo 281 = .ok (.istore 8, 2) := by decide +kernel
theorem dL_isAdviceSo_283 : decode cL_isAdviceSo 283 = .ok (.iload 7, 2) := by decide +kernel
theorem dL_isAdviceSo_285 : decode cL_isAdviceSo 285 = .ok (.ifCond .eq 50, 3) := by decide +kernel
theorem dL_isAdviceSo_288 : decode cL_isAdviceSo 288 = .ok (.aload_n 0, 1) := by decide +kernel
theorem dL_isAdviceSo_289 : decode cL_isAdviceSo 289 = .ok (.iload 8, 2) := by decide +kernel
theorem dL_isAdviceSo_291 : decode cL_isAdviceSo 291 = .ok (.invokevirtual 78, 3) := by decide +kernel
theorem dL_isAdviceSo_294 : decode cL_isAdviceSo 294 = .ok (.iload_n 3, 1) := by decide +kernel
theorem dL_isAdviceSo_295 : decode cL_isAdviceSo 295 = .ok (.iload 8, 2) := by decide +kernel
theorem dL_isAdviceSo_297 : decode cL_isAdviceSo 297 = .ok (.invokestatic 87, 3) := by decide +kernel
theorem dL_isAdviceSo_300 : decode cL_isAdviceSo 300 = .ok (.imul, 1) := by decide +kernel
theorem dL_isAdviceSo_301 : decode cL_isAdviceSo 301 = .ok (.iadd, 1) := by decide +kernel
theorem dL_isAdviceSo_302 : decode cL_isAdviceSo 302 = .ok (.aload_n 0, 1) := by decide +kernel
theorem dL_isAdviceSo_303 : decode cL_isAdviceSo 303 = .ok (.iload_n 1, 1) := by decide +kernel
theorem dL_isAdviceSo_304 : decode cL_isAdviceSo 304 = .ok (.invokevirtual 78, 3) := by decide +kernel
theorem dL_isAdviceSo_307 : decode cL_isAdviceSo 307 = .ok (.iload_n 3, 1) := by decide +kernel
theorem dL_isAdviceSo_308 : decode cL_isAdviceSo 308 = .ok (.iload_n 1, 1) := by decide +kernel
theorem dL_isAdviceSo_309 : decode cL_isAdviceSo 309 = .ok (.invokestatic 87, 3) := by decide +kernel
theorem dL_isAdviceSo_312 : decode cL_isAdviceSo 312 = .ok (.imul, 1) := by decide +kernel
theorem dL_isAdviceSo_313 : decode cL_isAdviceSo 313 = .ok (.iadd, 1) := by decide +kernel
theorem dL_isAdviceSo_314 : decode cL_isAdviceSo 314 = .ok (.if_icmp .gt 21, 3) := by decide +kernel
theorem dL_isAdviceSo_317 : decode cL_isAdviceSo 317 = .ok (.aload_n 0, 1) := by decide +kernel
theorem dL_isAdviceSo_318 : decode cL_isAdviceSo 318 = .ok (.bipush 63, 2) := by decide +kernel
theorem dL_isAdviceSo_320 : decode cL_isAdviceSo 320 = .ok (.invokevirtual 78, 3) := by decide +kernel
theorem dL_isAdviceSo_323 : decode cL_isAdviceSo 323 = .ok (.aload_n 0, 1) := by decide +kernel
theorem dL_isAdviceSo_324 : decode cL_isAdviceSo 324 = .ok (.iload_n 1, 1) := by decide +kernel
theorem dL_isAdviceSo_325 : decode cL_isAdviceSo 325 = .ok (.invokevirtual 78, 3) := by decide +kernel
theorem dL_isAdviceSo_328 : decode cL_isAdviceSo 328 = .ok (.if_icmp .gt 7, 3) := by decide +kernel
theorem dL_isAdviceSo_331 : decode cL_isAdviceSo 331 = .ok (.iconst 1, 1) := by decide +kernel
theorem dL_isAdviceSo_332 : decode cL_isAdviceSo 332 = .ok (.goto 4, 3) := by decide +kernel
theorem dL_isAdviceSo_335 : decode cL_isAdviceSo 335 = .ok (.iconst 0, 1) := by decide +kernel
theorem dL_isAdviceSo_336 : decode cL_isAdviceSo 336 = .ok (.istore 7, 2) := by decide +kernel
theorem dL_isAdviceSo_338 : decode cL_isAdviceSo 338 = .ok (.aload_n 0, 1) := by decide +kernel
theorem dL_isAdviceSo_339 : decode cL_isAdviceSo 339 = .ok (.invokevirtual 90, 3) := by decide +kernel
theorem dL_isAdviceSo_342 : decode cL_isAdviceSo 342 = .ok (.istore 9, 2) := by decide +kernel
theorem dL_isAdviceSo_344 : decode cL_isAdviceSo 344 = .ok (.iload 7, 2) := by decide +kernel
theorem dL_isAdviceSo_346 : decode cL_isAdviceSo 346 = .ok (.ifCond .eq 54, 3) := by decide +kernel
theorem dL_isAdviceSo_349 : decode cL_isAdviceSo 349 = .ok (.aload_n 0, 1) := by decide +kernel
theorem dL_isAdviceSo_350 : decode cL_isAdviceSo 350 = .ok (.iload 9, 2) := by decide +kernel
theorem dL_isAdviceSo_352 : decode cL_isAdviceSo 352 = .ok (.invokestatic 93, 3) := by decide +kernel
theorem dL_isAdviceSo_355 : decode cL_isAdviceSo 355 = .ok (.ifCond .eq 45, 3) := by decide +kernel
theorem dL_isAdviceSo_358 : decode cL_isAdviceSo 358 = .ok (.aload_n 0, 1) := by decide +kernel
theorem dL_isAdviceSo_359 : decode cL_isAdviceSo 359 = .ok (.iload_n 1, 1) := by decide +kernel
theorem dL_isAdviceSo_360 : decode cL_isAdviceSo 360 = .ok (.invokestatic 93, 3) := by decide +kernel
theorem dL_isAdviceSo_363 : decode cL_isAdviceSo 363 = .ok (.ifCond .eq 33, 3) := by decide +kernel
theorem dL_isAdviceSo_366 : decode cL_isAdviceSo 366 = .ok (.iload 9, 2) := by decide +kernel
theorem dL_isAdviceSo_368 : decode cL_isAdviceSo 368 = .ok (.invokestatic 87, 3) := by decide +kernel
theorem dL_isAdviceSo_371 : decode cL_isAdviceSo 371 = .ok (.iload_n 1, 1) := by decide +kernel
theorem dL_isAdviceSo_372 : decode cL_isAdviceSo 372 = .ok (.invokestatic 87, 3) := by decide +kernel
theorem dL_isAdviceSo_375 : decode cL_isAdviceSo 375 = .ok (.if_icmp .lt 21, 3) := by decide +kernel
theorem dL_isAdviceSo_378 : decode cL_isAdviceSo 378 = .ok (.iload 9, 2) := by decide +kernel
theorem dL_isAdviceSo_380 : decode cL_isAdviceSo 380 = .ok (.invokestatic 87, 3) := by decide +kernel
theorem dL_isAdviceSo_383 : decode cL_isAdviceSo 383 = .ok (.iload_n 1, 1) := by decide +kernel
theorem dL_isAdviceSo_384 : decode cL_isAdviceSo 384 = .ok (.invokestatic 87, 3) := by decide +kernel
theorem dL_isAdviceSo_387 : decode cL_isAdviceSo 387 = .ok (.if_icmp .ne 13, 3) := by decide +kernel
theorem dL_isAdviceSo_390 : decode cL_isAdviceSo 390 = .ok (.iload 9, 2) := by decide +kernel
theorem dL_isAdviceSo_392 : decode cL_isAdviceSo 392 = .ok (.iload_n 1, 1) := by decide +kernel
theorem dL_isAdviceSo_393 : decode cL_isAdviceSo 393 = .ok (.if_icmp .gt 7, 3) := by decide +kernel
theorem dL_isAdviceSo_396 : decode cL_isAdviceSo 396 = .ok (.iconst 1, 1) := by decide +kernel
theorem dL_isAdviceSo_397 : decode cL_isAdviceSo 397 = .ok (.goto 4, 3) := by decide +kernel
theorem dL_isAdviceSo_400 : decode cL_isAdviceSo 400 = .ok (.iconst 0, 1) := by decide +kernel
theorem dL_isAdviceSo_401 : decode cL_isAdviceSo 401 = .ok (.ireturn, 1) := by decide +kernel
set_option maxRecDepth 20000 in
theorem ggL_law_X6_init : GoodIn wsL_law wsX6_init := goodIn_r _ [5, 6, 7, 8, 9, 10, 11, 12, 13, 14, 15, 16, 17, 18, 19, 20, 21, 22, 23, 24, 25, 26, 27, 28, 29, 30, 31, 32, 33, 34, 35, 36, 37, 38, 39, 40, 41, 42, 43, 44, 45, 46, 47, 48, 49, 50, 51, 52, 53, 54, 55, 56, 57, 58, 59, 422, 423, 415, 416, 417, 418, 419, 420, 421, 424, 425, 426, 427, 428, 429, 430, 431, 432, 433, 434, 435, 436, 437, 438, 439, 440, 441, 442, 443, 444] (by decide +kernel) (by decide +kernel)
set_option maxRecDepth 20000 in
theorem gL_law_X6_init : GoodIn wsL_law (wsX6_init) := ggL_law_X6_init
set_option maxRecDepth 20000 in
theorem ggL_law_L_cell : GoodIn wsL_law wsL_cell := goodIn_r _ [63] (by decide +kernel) (by decide +kernel)
set_option maxRecDepth 20000 in
theorem gL_law_L_cell : GoodIn wsL_law (va_wsS RL 98 yL_cell wsL_cell) := goodIn_app (goodIn_of _ (by decide +kernel)) ggL_law_L_cell
set_option maxRecDepth 20000 in
theorem ggL_law_L_does : GoodIn wsL_law wsL_does := goodIn_ca (goodIn_ca (goodIn_ca (goodIn_r _ [66, 67, 68, 62, 69, 70, 71, 72, 73, 2, 74, 75, 76, 16, 77, 78, 79, 15, 80, 81, 82, 83, 84, 85, 86, 87, 88, 89, 90, 21, 91, 92, 93, 94, 95, 96, 97, 40, 98, 99, 100, 101, 102, 103, 104, 105, 106, 107, 108, 20, 109, 110, 111, 112, 113, 114, 115, 49, 116, 117, 118, 119, 41, 120, 121, 122, 123, 124, 42, 43, 125, 126, 127, 128, 129, 130, 131, 132, 133, 134, 135, 136, 137, 138, 139, 140, 141, 142, 143, 144, 145, 146, 147, 148, 149, 150, 151, 152, 153, 154, 155, 156, 157, 158, 159, 160, 161, 162, 163, 164, 165, 166, 167, 168, 169, 170, 171, 172, 173, 174, 175, 176, 177, 178, 179, 180, 181, 182, 183, 184, 25, 185, 186, 187, 24, 188, 189, 190, 191, 192, 193, 194, 195, 196, 54, 53, 197, 198, 199, 200, 201, 202, 203, 204, 205, 206, 207, 208, 209, 210, 211, 212, 213, 214, 215, 216, 217, 218, 219, 220, 221, 222, 223, 224, 225, 226, 227, 228, 229, 230, 231, 232, 233, 234, 235, 236, 237, 238, 239, 240, 241, 242, 243, 244, 245, 246, 247, 248, 249, 250, 251, 252, 253, 254, 255, 256, 257, 258, 259, 260, 261, 262, 263, 264, 265, 266, 267, 268, 269, 270, 271, 272, 273, 274, 275, 276, 277, 278, 279, 280, 281, 282, 283, 284, 285, 286, 287, 415, 416, 417, 418, 419, 420, 421, 424, 425, 426, 427, 428, 429, 430, 431, 432, 433, 434, 435, 436, 437, 438, 439, 440, 441, 442] (by decide +kernel) (by decide +kernel)) (goodIn_sub (fun _ h => List.mem_append_left _ (List.mem_append_left _ (List.mem_append_right _ h))) (by decide +kernel))) (goodIn_sub (fun _ h => List.mem_append_left _ (List.mem_append_right _ h)) (by decide +kernel))) (goodIn_sub (fun _ h => List.mem_append_right _ h) (by decide +kernel))
set_option maxRecDepth 20000 in
theorem gL_law_L_does : GoodIn wsL_law (va_wsS RL 102 yL_does wsL_does) := goodIn_app (goodIn_of _ (by decide +kernel)) ggL_law_L_does
set_option maxRecDepth 20000 in
theorem ggL_law_L_question : GoodIn wsL_law wsL_question := goodIn_r _ [265] (by decide +kernel) (by decide +kernel)
set_option maxRecDepth 20000 in
theorem gL_law_L_question : GoodIn wsL_law (va_wsS RL 42 yL_question wsL_question) := goodIn_app (goodIn_of _ (by decide +kernel)) ggL_law_L_question
set_option maxRecDepth 20000 in
theorem ggL_law_X6_about : GoodIn wsL_law wsX6_about := goodIn_ca (goodIn_r _ [74, 75, 76, 16, 77, 78, 79, 15, 80, 81, 415, 416, 417, 418, 419, 420, 421, 424, 425, 426, 427, 428, 429, 430, 431, 432, 433] (by decide +kernel) (by decide +kernel)) (goodIn_sub (fun _ h => List.mem_append_left _ (List.mem_append_left _ (List.mem_append_right _ h))) (by decide +kernel))
set_option maxRecDepth 20000 in
theorem gL_law_X6_about : GoodIn wsL_law (wsV RL 14 RX6 yX6_about wsX6_about) := goodIn_app (goodIn_of _ (by decide +kernel)) ggL_law_X6_about
set_option maxRecDepth 20000 in
theorem ggL_law_X6_cost : GoodIn wsL_law wsX6_cost := goodIn_ca (goodIn_ca (goodIn_r _ [291, 16, 270, 271, 2, 272, 75, 76, 292, 293, 294, 156, 157, 158, 159, 160, 295, 278, 279, 15, 280, 81, 281, 250, 251, 252, 282, 162, 163, 164, 41, 283, 203, 204, 205, 206, 207, 208, 209, 210, 211, 212, 213, 214, 215, 216, 143, 78, 79, 80, 217, 218, 219, 220, 221, 222, 223, 224, 225, 226, 102, 103, 104, 105, 40, 227, 228, 229, 296, 415, 416, 417, 418, 419, 420, 421, 424, 425, 426, 427, 428, 429, 430, 431, 432, 433] (by decide +kernel) (by decide +kernel)) (goodIn_sub (fun _ h => List.mem_append_left _ (List.mem_append_left _ (List.mem_append_right _ h))) (by decide +kernel))) (goodIn_sub (fun _ h => List.mem_append_right _ h) (by decide +kernel))
set_option maxRecDepth 20000 in
theorem gL_law_X6_cost : GoodIn wsL_law (wsV RL 48 RX6 yX6_cost wsX6_cost) := goodIn_app (goodIn_of _ (by decide +kernel)) ggL_law_X6_cost
set_option maxRecDepth 20000 in
theorem ggL_law_X6_remembered : GoodIn wsL_law wsX6_remembered := goodIn_ca (goodIn_r _ [300, 16, 301, 302, 2, 303, 75, 76, 304, 199, 200, 15, 201, 124, 42, 415, 416, 417, 418, 419, 420, 421, 424, 425, 426, 427, 428, 429, 430, 431, 432, 433] (by decide +kernel) (by decide +kernel)) (goodIn_sub (fun _ h => List.mem_append_left _ (List.mem_append_left _ (List.mem_append_right _ h))) (by decide +kernel))
set_option maxRecDepth 20000 in
theorem gL_law_X6_remembered : GoodIn wsL_law (wsV RL 63 RX6 yX6_remembered wsX6_remembered) := goodIn_app (goodIn_of _ (by decide +kernel)) ggL_law_X6_remembered
set_option maxRecDepth 20000 in
theorem ggL_law_X6_ask : GoodIn wsL_law wsX6_ask := goodIn_ca (goodIn_r _ [269, 21, 16, 270, 271, 2, 272, 75, 76, 106, 107, 108, 20, 109, 110, 111, 112, 113, 114, 115, 49, 116, 117, 118, 15, 119, 81, 40, 41, 120, 121, 122, 123, 124, 42, 43, 125, 126, 127, 273, 274, 275, 276, 277, 278, 279, 280, 281, 250, 251, 252, 282, 162, 163, 164, 283, 203, 204, 205, 206, 207, 208, 209, 210, 211, 212, 213, 214, 215, 216, 143, 78, 79, 80, 217, 218, 219, 220, 221, 222, 223, 224, 225, 226, 102, 103, 104, 105, 227, 228, 229, 284, 285, 286, 287, 415, 416, 417, 418, 419, 420, 421, 434, 435, 436, 424, 425, 426, 427, 428, 429, 430, 431, 432, 433] (by decide +kernel) (by decide +kernel)) (goodIn_sub (fun _ h => List.mem_append_left _ (List.mem_append_left _ (List.mem_append_right _ h))) (by decide +kernel))
set_option maxRecDepth 20000 in
theorem gL_law_X6_ask : GoodIn wsL_law (wsV RL 45 RX6 yX6_ask wsX6_ask) := goodIn_app (goodIn_of _ (by decide +kernel)) ggL_law_X6_ask
set_option maxRecDepth 20000 in
theorem ggL_law_X6_count : GoodIn wsL_law wsX6_count := goodIn_ca (goodIn_r _ [308, 16, 270, 271, 2, 272, 75, 76, 309, 224, 225, 15, 226, 81, 102, 103, 104, 105, 40, 227, 228, 229, 415, 416, 417, 418, 419, 420, 421, 424, 425, 426, 427, 428, 429, 430, 431, 432, 433] (by decide +kernel) (by decide +kernel)) (goodIn_sub (fun _ h => List.mem_append_left _ (List.mem_append_left _ (List.mem_append_right _ h))) (by decide +kernel))
set_option maxRecDepth 20000 in
theorem gL_law_X6_count : GoodIn wsL_law (wsV RL 51 RX6 yX6_count wsX6_count) := goodIn_app (goodIn_of _ (by decide +kernel)) ggL_law_X6_count
set_option maxRecDepth 20000 in
theorem ggL_law_X6_undo : GoodIn wsL_law wsX6_undo := goodIn_ca (goodIn_r _ [313, 89, 90, 21, 16, 314, 315, 316, 20, 317, 110, 112, 113, 114, 115, 111, 49, 116, 117, 118, 15, 119, 81, 40, 41, 120, 121, 122, 123, 124, 42, 43, 125, 126, 127, 415, 416, 417, 418, 419, 420, 421, 434, 435, 436, 424, 425, 426, 427, 428, 429, 430, 431, 432, 433] (by decide +kernel) (by decide +kernel)) (goodIn_sub (fun _ h => List.mem_append_left _ (List.mem_append_right _ h)) (by decide +kernel))
set_option maxRecDepth 20000 in
theorem gL_law_X6_undo : GoodIn wsL_law (wsV RL 106 RX6 yX6_undo wsX6_undo) := goodIn_app (goodIn_of _ (by decide +kernel)) ggL_law_X6_undo
set_option maxRecDepth 20000 in
theorem ggL_law_L_isAnsweredSo : GoodIn wsL_law wsL_isAnsweredSo := goodIn_ca (goodIn_ca (goodIn_r _ [320, 71, 72, 73, 2, 74, 75, 76, 16, 77, 78, 79, 15, 80, 81, 288, 289, 290, 291, 270, 271, 272, 292, 293, 294, 156, 157, 158, 159, 160, 295, 278, 279, 280, 281, 250, 251, 252, 282, 162, 163, 164, 41, 283, 203, 204, 205, 206, 207, 208, 209, 210, 211, 212, 213, 214, 215, 216, 143, 217, 218, 219, 220, 221, 222, 223, 224, 225, 226, 102, 103, 104, 105, 40, 227, 228, 229, 296, 305, 306, 307, 308, 309, 321, 322, 323, 324, 325, 326, 327, 328, 329, 330, 331, 332, 301, 302, 303, 333, 334, 335, 336, 337, 338, 339, 340, 341, 342, 343, 344, 345, 346, 347, 348, 349, 350, 351, 352, 353, 354, 415, 416, 417, 418, 419, 420, 421, 424, 425, 426, 427, 428, 429, 430, 431, 432, 433] (by decide +kernel) (by decide +kernel)) (goodIn_sub (fun _ h => List.mem_append_left _ (List.mem_append_left _ (List.mem_append_right _ h))) (by decide +kernel))) (goodIn_sub (fun _ h => List.mem_append_right _ h) (by decide +kernel))
set_option maxRecDepth 20000 in
theorem gL_law_L_isAnsweredSo : GoodIn wsL_law (va_wsS RL 109 yL_isAnsweredSo wsL_isAnsweredSo) := goodIn_app (goodIn_of _ (by decide +kernel)) ggL_law_L_isAnsweredSo
set_option maxRecDepth 20000 in
theorem ggL_law_L_isAdviceSo : GoodIn wsL_law wsL_isAdviceSo := goodIn_ca (goodIn_ca (goodIn_r _ [357, 71, 72, 73, 2, 74, 75, 76, 16, 77, 78, 79, 15, 80, 81, 358, 359, 360, 361, 362, 363, 364, 365, 25, 366, 190, 191, 24, 192, 193, 194, 195, 196, 54, 53, 197, 198, 199, 200, 201, 124, 42, 202, 203, 204, 205, 206, 207, 208, 209, 210, 211, 212, 213, 214, 215, 216, 143, 217, 218, 219, 220, 221, 222, 223, 224, 225, 226, 102, 103, 104, 105, 40, 227, 228, 229, 230, 231, 232, 233, 234, 235, 236, 367, 238, 239, 240, 241, 242, 243, 244, 245, 246, 247, 248, 249, 250, 251, 252, 253, 254, 255, 256, 368, 369, 370, 371, 372, 259, 260, 261, 373, 374, 375, 376, 377, 378, 379, 380, 381, 156, 157, 158, 159, 160, 382, 383, 384, 385, 386, 387, 388, 389, 390, 391, 137, 138, 139, 140, 141, 142, 392, 393, 62, 394, 395, 396, 397, 398, 399, 400, 401, 402, 403, 404, 405, 406, 407, 408, 409, 297, 298, 299, 300, 301, 302, 303, 304, 410, 411, 412, 413, 270, 271, 272, 414, 415, 416, 417, 418, 419, 420, 421, 424, 425, 426, 427, 428, 429, 430, 431, 432, 433, 437, 438, 439, 440, 441, 442] (by decide +kernel) (by decide +kernel)) (goodIn_sub (fun _ h => List.mem_append_left _ (List.mem_append_left _ (List.mem_append_right _ h))) (by decide +kernel))) (goodIn_sub (fun _ h => List.mem_append_right _ h) (by decide +kernel))
set_option maxRecDepth 20000 in
theorem gL_law_L_isAdviceSo : GoodIn wsL_law (va_wsS RL 112 yL_isAdviceSo wsL_isAdviceSo) := goodIn_app (goodIn_of _ (by decide +kernel)) ggL_law_L_isAdviceSo
theorem dL_law_0 : decode cL_law 0 = .ok (.new 15, 3) := by decide +kernel
theorem dL_law_3 : decode cL_law 3 = .ok (.dup, 1) := by decide +kernel
theorem dL_law_4 : decode cL_law 4 = .ok (.invokespecial 97, 3) := by decide +kernel
theorem dL_law_7 : decode cL_law 7 = .ok (.astore_n 1, 1) := by decide +kernel
theorem dL_law_8 : decode cL_law 8 = .ok (.iconst 0, 1) := by decide +kernel
theorem dL_law_9 : decode cL_law 9 = .ok (.istore_n 2, 1) := by decide +kernel
theorem dL_law_10 : decode cL_law 10 = .ok (.iload_n 2, 1) := by decide +kernel
theorem dL_law_11 : decode cL_law 11 = .ok (.bipush 40, 2) := by decide +kernel
theorem dL_law_13 : decode cL_law 13 = .ok (.if_icmp .ge 231, 3) := by decide +kernel
theorem dL_law_16 : decode cL_law 16 = .ok (.aload_n 0, 1) := by decide +kernel
theorem dL_law_17 : decode cL_law 17 = .ok (.iload_n 2, 1) := by decide +kernel
theorem dL_law_18 : decode cL_law 18 = .ok (.invokestatic 98, 3) := by decide +kernel
theorem dL_law_21 : decode cL_law 21 = .ok (.istore_n 3, 1) := by decide +kernel
theorem dL_law_22 : decode cL_law 22 = .ok (.aload_n 1, 1) := by decide +kernel
theorem dL_law_23 : decode cL_law 23 = .ok (.iload_n 3, 1) := by decide +kernel
theorem dL_law_24 : decode cL_law 24 = .ok (.invokestatic 102, 3) := by decide +kernel
theorem dL_law_27 : decode cL_law 27 = .ok (.istore 4, 2) := by decide +kernel
theorem dL_law_29 : decode cL_law 29 = .ok (.iload_n 3, 1) := by decide +kernel
theorem dL_law_30 : decode cL_law 30 = .ok (.bipush 9, 2) := by decide +kernel
theorem dL_law_32 : decode cL_law 32 = .ok (.ishr, 1) := by decide +kernel
theorem dL_law_33 : decode cL_law 33 = .ok (.invokestatic 42, 3) := by decide +kernel
theorem dL_law_36 : decode cL_law 36 = .ok (.istore 5, 2) := by decide +kernel
theorem dL_law_38 : decode cL_law 38 = .ok (.aload_n 1, 1) := by decide +kernel
theorem dL_law_39 : decode cL_law 39 = .ok (.iconst 4, 1) := by decide +kernel
theorem dL_law_40 : decode cL_law 40 = .ok (.invokevirtual 14, 3) := by decide +kernel
theorem dL_law_43 : decode cL_law 43 = .ok (.istore 6, 2) := by decide +kernel
theorem dL_law_45 : decode cL_law 45 = .ok (.aload_n 1, 1) := by decide +kernel
theorem dL_law_46 : decode cL_law 46 = .ok (.iload 5, 2) := by decide +kernel
theorem dL_law_48 : decode cL_law 48 = .ok (.iconst (-1), 1) := by decide +kernel
theorem dL_law_49 : decode cL_law 49 = .ok (.invokevirtual 48, 3) := by decide +kernel
theorem dL_law_52 : decode cL_law 52 = .ok (.istore 7, 2) := by decide +kernel
theorem dL_law_54 : decode cL_law 54 = .ok (.aload_n 1, 1) := by decide +kernel
theorem dL_law_55 : decode cL_law 55 = .ok (.iconst 5, 1) := by decide +kernel
theorem dL_law_56 : decode cL_law 56 = .ok (.invokevirtual 14, 3) := by decide +kernel
theorem dL_law_59 : decode cL_law 59 = .ok (.istore 8, 2) := by decide +kernel
theorem dL_law_61 : decode cL_law 61 = .ok (.aload_n 1, 1) := by decide +kernel
theorem dL_law_62 : decode cL_law 62 = .ok (.iconst 0, 1) := by decide +kernel
theorem dL_law_63 : decode cL_law 63 = .ok (.invokevirtual 63, 3) := by decide +kernel
theorem dL_law_66 : decode cL_law 66 = .ok (.istore 9, 2) := by decide +kernel
theorem dL_law_68 : decode cL_law 68 = .ok (.aload_n 1, 1) := by decide +kernel
theorem dL_law_69 : decode cL_law 69 = .ok (.bipush 6, 2) := by decide +kernel
theorem dL_law_71 : decode cL_law 71 = .ok (.invokevirtual 14, 3) := by decide +kernel
theorem dL_law_74 : decode cL_law 74 = .ok (.istore 10, 2) := by decide +kernel
theorem dL_law_76 : decode cL_law 76 = .ok (.aload_n 1, 1) := by decide +kernel
theorem dL_law_77 : decode cL_law 77 = .ok (.iload 5, 2) := by decide +kernel
theorem dL_law_79 : decode cL_law 79 = .ok (.invokevirtual 45, 3) := by decide +kernel
theorem dL_law_82 : decode cL_law 82 = .ok (.aload_n 1, 1) := by decide +kernel
theorem dL_law_83 : decode cL_law 83 = .ok (.iload 5, 2) := by decide +kernel
theorem dL_law_85 : decode cL_law 85 = .ok (.invokevirtual 51, 3) := by decide +kernel
theorem dL_law_88 : decode cL_law 88 = .ok (.if_icmp .ne 42, 3) := by decide +kernel
theorem dL_law_91 : decode cL_law 91 = .ok (.aload_n 1, 1) := by decide +kernel
theorem dL_law_92 : decode cL_law 92 = .ok (.iconst 4, 1) := by decide +kernel
theorem dL_law_93 : decode cL_law 93 = .ok (.invokevirtual 14, 3) := by decide +kernel
theorem dL_law_96 : decode cL_law 96 = .ok (.iload 6, 2) := by decide +kernel
theorem dL_law_98 : decode cL_law 98 = .ok (.iload 7, 2) := by decide +kernel
theorem dL_law_100 : decode cL_law 100 = .ok (.iadd, 1) := by decide +kernel
theorem dL_law_101 : decode cL_law 101 = .ok (.if_icmp .ne 29, 3) := by decide +kernel
theorem dL_law_104 : decode cL_law 104 = .ok (.aload_n 1, 1) := by decide +kernel
theorem dL_law_105 : decode cL_law 105 = .ok (.iconst 5, 1) := by decide +kernel
theorem dL_law_106 : decode cL_law 106 = .ok (.invokevirtual 14, 3) := by decide +kernel
theorem dL_law_109 : decode cL_law 109 = .ok (.iload 8, 2) := by decide +kernel
theorem dL_law_111 : decode cL_law 111 = .ok (.iconst 1, 1) := by decide +kernel
theorem dL_law_112 : decode cL_law 112 = .ok (.iadd, 1) := by decide +kernel
theorem dL_law_113 : decode cL_law 113 = .ok (.if_icmp .ne 17, 3) := by decide +kernel
theorem dL_law_116 : decode cL_law 116 = .ok (.aload_n 1, 1) := by decide +kernel
theorem dL_law_117 : decode cL_law 117 = .ok (.iconst 0, 1) := by decide +kernel
theorem dL_law_118 : decode cL_law 118 = .ok (.invokevirtual 63, 3) := by decide +kernel
theorem dL_law_121 : decode cL_law 121 = .ok (.iload 5, 2) := by decide +kernel
theorem dL_law_123 : decode cL_law 123 = .ok (.if_icmp .ne 7, 3) := by decide +kernel
theorem dL_law_126 : decode cL_law 126 = .ok (.iconst 1, 1) := by decide +kernel
theorem dL_law_127 : decode cL_law 127 = .ok (.goto 4, 3) := by decide +kernel
theorem dL_law_130 : decode cL_law 130 = .ok (.iconst 0, 1) := by decide +kernel
theorem dL_law_131 : decode cL_law 131 = .ok (.istore 11, 2) := by decide +kernel
theorem dL_law_133 : decode cL_law 133 = .ok (.aload_n 1, 1) := by decide +kernel
theorem dL_law_134 : decode cL_law 134 = .ok (.invokevirtual 106, 3) := by decide +kernel
theorem dL_law_137 : decode cL_law 137 = .ok (.pop, 1) := by decide +kernel
theorem dL_law_138 : decode cL_law 138 = .ok (.iload 11, 2) := by decide +kernel
theorem dL_law_140 : decode cL_law 140 = .ok (.ifCond .eq 54, 3) := by decide +kernel
theorem dL_law_143 : decode cL_law 143 = .ok (.iload 4, 2) := by decide +kernel
theorem dL_law_145 : decode cL_law 145 = .ok (.iconst (-1), 1) := by decide +kernel
theorem dL_law_146 : decode cL_law 146 = .ok (.if_icmp .lt 48, 3) := by decide +kernel
theorem dL_law_149 : decode cL_law 149 = .ok (.aload_n 1, 1) := by decide +kernel
theorem dL_law_150 : decode cL_law 150 = .ok (.iconst 4, 1) := by decide +kernel
theorem dL_law_151 : decode cL_law 151 = .ok (.invokevirtual 14, 3) := by decide +kernel
theorem dL_law_154 : decode cL_law 154 = .ok (.iload 6, 2) := by decide +kernel
theorem dL_law_156 : decode cL_law 156 = .ok (.if_icmp .ne 38, 3) := by decide +kernel
theorem dL_law_159 : decode cL_law 159 = .ok (.aload_n 1, 1) := by decide +kernel
theorem dL_law_160 : decode cL_law 160 = .ok (.iconst 5, 1) := by decide +kernel
theorem dL_law_161 : decode cL_law 161 = .ok (.invokevirtual 14, 3) := by decide +kernel
theorem dL_law_164 : decode cL_law 164 = .ok (.iload 8, 2) := by decide +kernel
theorem dL_law_166 : decode cL_law 166 = .ok (.if_icmp .ne 28, 3) := by decide +kernel
theorem dL_law_169 : decode cL_law 169 = .ok (.aload_n 1, 1) := by decide +kernel
theorem dL_law_170 : decode cL_law 170 = .ok (.iconst 0, 1) := by decide +kernel
theorem dL_law_171 : decode cL_law 171 = .ok (.invokevirtual 63, 3) := by decide +kernel
theorem dL_law_174 : decode cL_law 174 = .ok (.iload 9, 2) := by decide +kernel
theorem dL_law_176 : decode cL_law 176 = .ok (.if_icmp .ne 18, 3) := by decide +kernel
theorem dL_law_179 : decode cL_law 179 = .ok (.aload_n 1, 1) := by decide +kernel
theorem dL_law_180 : decode cL_law 180 = .ok (.bipush 6, 2) := by decide +kernel
theorem dL_law_182 : decode cL_law 182 = .ok (.invokevirtual 14, 3) := by decide +kernel
theorem dL_law_185 : decode cL_law 185 = .ok (.iload 10, 2) := by decide +kernel
theorem dL_law_187 : decode cL_law 187 = .ok (.if_icmp .ne 7, 3) := by decide +kernel
theorem dL_law_190 : decode cL_law 190 = .ok (.iconst 1, 1) := by decide +kernel
theorem dL_law_191 : decode cL_law 191 = .ok (.goto 4, 3) := by decide +kernel
theorem dL_law_194 : decode cL_law 194 = .ok (.iconst 0, 1) := by decide +kernel
theorem dL_law_195 : decode cL_law 195 = .ok (.istore 11, 2) := by decide +kernel
theorem dL_law_197 : decode cL_law 197 = .ok (.iload 11, 2) := by decide +kernel
theorem dL_law_199 : decode cL_law 199 = .ok (.ifCond .eq 12, 3) := by decide +kernel
theorem dL_law_202 : decode cL_law 202 = .ok (.aload_n 1, 1) := by decide +kernel
theorem dL_law_203 : decode cL_law 203 = .ok (.iload 5, 2) := by decide +kernel
theorem dL_law_205 : decode cL_law 205 = .ok (.invokestatic 109, 3) := by decide +kernel
theorem dL_law_208 : decode cL_law 208 = .ok (.ifCond .ne 5, 3) := by decide +kernel
theorem dL_law_211 : decode cL_law 211 = .ok (.iconst 0, 1) := by decide +kernel
theorem dL_law_212 : decode cL_law 212 = .ok (.ireturn, 1) := by decide +kernel
theorem dL_law_213 : decode cL_law 213 = .ok (.iload_n 2, 1) := by decide +kernel
theorem dL_law_214 : decode cL_law 214 = .ok (.bipush 8, 2) := by decide +kernel
theorem dL_law_216 : decode cL_law 216 = .ok (.irem, 1) := by decide +kernel
theorem dL_law_217 : decode cL_law 217 = .ok (.bipush 7, 2) := by decide +kernel
theorem dL_law_219 : decode cL_law 219 = .ok (.if_icmp .ne 19, 3) := by decide +kernel
theorem dL_law_222 : decode cL_law 222 = .ok (.aload_n 1, 1) := by decide +kernel
theorem dL_law_223 : decode cL_law 223 = .ok (.iload_n 3, 1) := by decide +kernel
theorem dL_law_224 : decode cL_law 224 = .ok (.bipush 7, 2) := by decide +kernel
theorem dL_law_226 : decode cL_law 226 = .ok (.ishr, 1) := by decide +kernel
theorem dL_law_227 : decode cL_law 227 = .ok (.bipush 63, 2) := by decide +kernel
theorem dL_law_229 : decode cL_law 229 = .ok (.iand, 1) := by decide +kernel
theorem dL_law_230 : decode cL_law 230 = .ok (.invokestatic 112, 3) := by decide +kernel
theorem dL_law_233 : decode cL_law 233 = .ok (.ifCond .ne 5, 3) := by decide +kernel
theorem dL_law_236 : decode cL_law 236 = .ok (.iconst 0, 1) := by decide +kernel
theorem dL_law_237 : decode cL_law 237 = .ok (.ireturn, 1) := by decide +kernel
theorem dL_law_238 : decode cL_law 238 = .ok (.iinc 2 1, 3) := by decide +kernel
theorem dL_law_241 : decode cL_law 241 = .ok (.goto (-231), 3) := by decide +kernel
theorem dL_law_244 : decode cL_law 244 = .ok (.iconst 1, 1) := by decide +kernel
theorem dL_law_245 : decode cL_law 245 = .ok (.ireturn, 1) := by decide +kernel
abbrev vwCl : List vw_C := [(RX0, TX0, 6), (RX1, TX1, 3), (RX3, TX3, 2), (RX4, TX4, 10), (RX5, TX5, 2), (RX6, TX6, 7)]
