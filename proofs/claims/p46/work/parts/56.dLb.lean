theorem dL_refused_318 : decode cL_refused 318 = .ok (.if_icmp .ne 54, 3) := by decide +kernel
theorem dL_refused_321 : decode cL_refused 321 = .ok (.aload_n 0, 1) := by decide +kernel
theorem dL_refused_322 : decode cL_refused 322 = .ok (.iload_n 2, 1) := by decide +kernel
theorem dL_refused_323 : decode cL_refused 323 = .ok (.iconst 0, 1) := by decide +kernel
theorem dL_refused_324 : decode cL_refused 324 = .ok (.invokevirtual 108, 3) := by decide +kernel
theorem dL_refused_327 : decode cL_refused 327 = .ok (.iconst (-1), 1) := by decide +kernel
theorem dL_refused_328 : decode cL_refused 328 = .ok (.if_icmp .ne 44, 3) := by decide +kernel
theorem dL_refused_331 : decode cL_refused 331 = .ok (.aload_n 0, 1) := by decide +kernel
theorem dL_refused_332 : decode cL_refused 332 = .ok (.iload_n 2, 1) := by decide +kernel
theorem dL_refused_333 : decode cL_refused 333 = .ok (.invokevirtual 111, 3) := by decide +kernel
theorem dL_refused_336 : decode cL_refused 336 = .ok (.iconst (-1), 1) := by decide +kernel
theorem dL_refused_337 : decode cL_refused 337 = .ok (.if_icmp .ne 35, 3) := by decide +kernel
theorem dL_refused_340 : decode cL_refused 340 = .ok (.aload_n 0, 1) := by decide +kernel
theorem dL_refused_341 : decode cL_refused 341 = .ok (.iload_n 2, 1) := by decide +kernel
theorem dL_refused_342 : decode cL_refused 342 = .ok (.iconst 1, 1) := by decide +kernel
theorem dL_refused_343 : decode cL_refused 343 = .ok (.invokevirtual 114, 3) := by decide +kernel
theorem dL_refused_346 : decode cL_refused 346 = .ok (.iconst (-1), 1) := by decide +kernel
theorem dL_refused_347 : decode cL_refused 347 = .ok (.if_icmp .ne 25, 3) := by decide +kernel
theorem dL_refused_350 : decode cL_refused 350 = .ok (.aload_n 0, 1) := by decide +kernel
theorem dL_refused_351 : decode cL_refused 351 = .ok (.iload_n 2, 1) := by decide +kernel
theorem dL_refused_352 : decode cL_refused 352 = .ok (.invokevirtual 117, 3) := by decide +kernel
theorem dL_refused_355 : decode cL_refused 355 = .ok (.iconst (-1), 1) := by decide +kernel
theorem dL_refused_356 : decode cL_refused 356 = .ok (.if_icmp .ne 16, 3) := by decide +kernel
theorem dL_refused_359 : decode cL_refused 359 = .ok (.aload_n 0, 1) := by decide +kernel
theorem dL_refused_360 : decode cL_refused 360 = .ok (.iload_n 2, 1) := by decide +kernel
theorem dL_refused_361 : decode cL_refused 361 = .ok (.invokevirtual 120, 3) := by decide +kernel
theorem dL_refused_364 : decode cL_refused 364 = .ok (.iconst (-1), 1) := by decide +kernel
theorem dL_refused_365 : decode cL_refused 365 = .ok (.if_icmp .ne 7, 3) := by decide +kernel
theorem dL_refused_368 : decode cL_refused 368 = .ok (.iconst 1, 1) := by decide +kernel
theorem dL_refused_369 : decode cL_refused 369 = .ok (.goto 4, 3) := by decide +kernel
theorem dL_refused_372 : decode cL_refused 372 = .ok (.iconst 0, 1) := by decide +kernel
theorem dL_refused_373 : decode cL_refused 373 = .ok (.ireturn, 1) := by decide +kernel
set_option maxRecDepth 20000 in
theorem ggL_delta_X5_text : GoodIn wsL_delta wsX5_text := goodIn_r _ [5, 6, 7, 8, 9, 4, 10, 11, 12, 13, 14, 15, 16, 17, 18, 19, 20, 21, 22, 23, 24, 25, 26, 27, 28, 29, 30, 31, 32, 33, 34, 35, 36, 37, 38, 39, 40, 41, 42, 169, 170, 171, 172, 173, 174, 175, 176, 177, 178, 179, 180, 181, 182] (by decide +kernel) (by decide +kernel)
set_option maxRecDepth 20000 in
theorem gL_delta_X5_text : GoodIn wsL_delta (wsV RL 33 RX5 yX5_text wsX5_text) := goodIn_app (goodIn_of _ (by decide +kernel)) ggL_delta_X5_text
set_option maxRecDepth 20000 in
theorem ggL_delta_X5_put : GoodIn wsL_delta wsX5_put := goodIn_r _ [46, 6, 47, 48, 49, 4, 50, 51, 52, 53, 54, 11, 12, 13, 14, 15, 16, 17, 55, 56, 57, 58, 59, 60, 61, 62, 38, 18, 19, 20, 21, 22, 23, 24, 25, 26, 27, 28, 29, 63, 64, 65, 66, 67, 68, 69, 70, 71, 34, 35, 36, 37, 72, 73, 74, 75, 169, 170, 171, 172, 173, 174, 175, 176, 177, 178, 179, 180, 181, 182] (by decide +kernel) (by decide +kernel)
set_option maxRecDepth 20000 in
theorem gL_delta_X5_put : GoodIn wsL_delta (wsV RL 36 RX5 yX5_put wsX5_put) := goodIn_app (goodIn_of _ (by decide +kernel)) ggL_delta_X5_put
set_option maxRecDepth 20000 in
theorem ggL_delta_X5_delta : GoodIn wsL_delta wsX5_delta := goodIn_r _ [79, 6, 80, 81, 82, 51, 52, 53, 4, 54, 11, 12, 13, 14, 15, 16, 17, 55, 56, 57, 58, 59, 60, 61, 62, 38, 18, 19, 20, 21, 22, 23, 24, 25, 26, 27, 28, 29, 83, 84, 85, 86, 87, 35, 36, 37, 88, 89, 90, 91, 92, 93, 94, 95, 96, 97, 98, 99, 100, 101, 102, 103, 104, 105, 106, 107, 108, 40, 41, 42, 109, 110, 111, 112, 113, 114, 115, 116, 117, 118, 119, 120, 121, 122, 123, 124, 125, 126, 127, 128, 129, 130, 131, 132, 133, 134, 135, 136, 137, 138, 139, 140, 141, 142, 143, 144, 145, 146, 147, 148, 149, 150, 151, 152, 153, 154, 155, 156, 157, 158, 159, 160, 161, 162, 163, 164, 165, 166, 167, 168, 169, 170, 171, 172, 173, 174, 175, 176, 177, 178, 179, 180, 183, 184, 185, 186, 187, 188, 189, 190, 191, 192, 193, 194, 195, 196, 197, 198, 199, 200, 201, 181, 182] (by decide +kernel) (by decide +kernel)
set_option maxRecDepth 20000 in
theorem gL_delta_X5_delta : GoodIn wsL_delta (wsV RL 42 RX5 yX5_delta wsX5_delta) := goodIn_app (goodIn_of _ (by decide +kernel)) ggL_delta_X5_delta
theorem dL_delta_0 : decode cL_delta 0 = .ok (.aload_n 0, 1) := by decide +kernel
theorem dL_delta_1 : decode cL_delta 1 = .ok (.iconst 0, 1) := by decide +kernel
theorem dL_delta_2 : decode cL_delta 2 = .ok (.bipush 32, 2) := by decide +kernel
theorem dL_delta_4 : decode cL_delta 4 = .ok (.invokevirtual 33, 3) := by decide +kernel
theorem dL_delta_7 : decode cL_delta 7 = .ok (.bipush 32, 2) := by decide +kernel
theorem dL_delta_9 : decode cL_delta 9 = .ok (.if_icmp .ne 490, 3) := by decide +kernel
theorem dL_delta_12 : decode cL_delta 12 = .ok (.aload_n 0, 1) := by decide +kernel
theorem dL_delta_13 : decode cL_delta 13 = .ok (.iconst 0, 1) := by decide +kernel
theorem dL_delta_14 : decode cL_delta 14 = .ok (.iconst 0, 1) := by decide +kernel
theorem dL_delta_15 : decode cL_delta 15 = .ok (.bipush 100, 2) := by decide +kernel
theorem dL_delta_17 : decode cL_delta 17 = .ok (.invokevirtual 36, 3) := by decide +kernel
theorem dL_delta_20 : decode cL_delta 20 = .ok (.sipush 1032, 3) := by decide +kernel
theorem dL_delta_23 : decode cL_delta 23 = .ok (.if_icmp .ne 476, 3) := by decide +kernel
theorem dL_delta_26 : decode cL_delta 26 = .ok (.aload_n 0, 1) := by decide +kernel
theorem dL_delta_27 : decode cL_delta 27 = .ok (.iconst 0, 1) := by decide +kernel
theorem dL_delta_28 : decode cL_delta 28 = .ok (.iconst 1, 1) := by decide +kernel
theorem dL_delta_29 : decode cL_delta 29 = .ok (.bipush 51, 2) := by decide +kernel
theorem dL_delta_31 : decode cL_delta 31 = .ok (.invokevirtual 36, 3) := by decide +kernel
theorem dL_delta_34 : decode cL_delta 34 = .ok (.sipush 1032, 3) := by decide +kernel
theorem dL_delta_37 : decode cL_delta 37 = .ok (.if_icmp .ne 462, 3) := by decide +kernel
theorem dL_delta_40 : decode cL_delta 40 = .ok (.aload_n 0, 1) := by decide +kernel
theorem dL_delta_41 : decode cL_delta 41 = .ok (.iconst 0, 1) := by decide +kernel
theorem dL_delta_42 : decode cL_delta 42 = .ok (.iconst 2, 1) := by decide +kernel
theorem dL_delta_43 : decode cL_delta 43 = .ok (.bipush 52, 2) := by decide +kernel
theorem dL_delta_45 : decode cL_delta 45 = .ok (.invokevirtual 36, 3) := by decide +kernel
theorem dL_delta_48 : decode cL_delta 48 = .ok (.sipush 1032, 3) := by decide +kernel
theorem dL_delta_51 : decode cL_delta 51 = .ok (.if_icmp .ne 448, 3) := by decide +kernel
theorem dL_delta_54 : decode cL_delta 54 = .ok (.aload_n 0, 1) := by decide +kernel
theorem dL_delta_55 : decode cL_delta 55 = .ok (.iconst 0, 1) := by decide +kernel
theorem dL_delta_56 : decode cL_delta 56 = .ok (.iconst 3, 1) := by decide +kernel
theorem dL_delta_57 : decode cL_delta 57 = .ok (.bipush 53, 2) := by decide +kernel
theorem dL_delta_59 : decode cL_delta 59 = .ok (.invokevirtual 36, 3) := by decide +kernel
theorem dL_delta_62 : decode cL_delta 62 = .ok (.sipush 1032, 3) := by decide +kernel
theorem dL_delta_65 : decode cL_delta 65 = .ok (.if_icmp .ne 434, 3) := by decide +kernel
theorem dL_delta_68 : decode cL_delta 68 = .ok (.aload_n 0, 1) := by decide +kernel
theorem dL_delta_69 : decode cL_delta 69 = .ok (.iconst 0, 1) := by decide +kernel
theorem dL_delta_70 : decode cL_delta 70 = .ok (.iconst 4, 1) := by decide +kernel
theorem dL_delta_71 : decode cL_delta 71 = .ok (.bipush 48, 2) := by decide +kernel
theorem dL_delta_73 : decode cL_delta 73 = .ok (.invokevirtual 36, 3) := by decide +kernel
theorem dL_delta_76 : decode cL_delta 76 = .ok (.sipush 1032, 3) := by decide +kernel
theorem dL_delta_79 : decode cL_delta 79 = .ok (.if_icmp .ne 420, 3) := by decide +kernel
theorem dL_delta_82 : decode cL_delta 82 = .ok (.aload_n 0, 1) := by decide +kernel
theorem dL_delta_83 : decode cL_delta 83 = .ok (.iconst 0, 1) := by decide +kernel
theorem dL_delta_84 : decode cL_delta 84 = .ok (.iconst 5, 1) := by decide +kernel
theorem dL_delta_85 : decode cL_delta 85 = .ok (.bipush 48, 2) := by decide +kernel
theorem dL_delta_87 : decode cL_delta 87 = .ok (.invokevirtual 36, 3) := by decide +kernel
theorem dL_delta_90 : decode cL_delta 90 = .ok (.sipush 1032, 3) := by decide +kernel
theorem dL_delta_93 : decode cL_delta 93 = .ok (.if_icmp .ne 406, 3) := by decide +kernel
theorem dL_delta_96 : decode cL_delta 96 = .ok (.aload_n 0, 1) := by decide +kernel
theorem dL_delta_97 : decode cL_delta 97 = .ok (.iconst 0, 1) := by decide +kernel
theorem dL_delta_98 : decode cL_delta 98 = .ok (.bipush 6, 2) := by decide +kernel
theorem dL_delta_100 : decode cL_delta 100 = .ok (.bipush 48, 2) := by decide +kernel
theorem dL_delta_102 : decode cL_delta 102 = .ok (.invokevirtual 36, 3) := by decide +kernel
theorem dL_delta_105 : decode cL_delta 105 = .ok (.sipush 1032, 3) := by decide +kernel
theorem dL_delta_108 : decode cL_delta 108 = .ok (.if_icmp .ne 391, 3) := by decide +kernel
theorem dL_delta_111 : decode cL_delta 111 = .ok (.aload_n 0, 1) := by decide +kernel
theorem dL_delta_112 : decode cL_delta 112 = .ok (.iconst 0, 1) := by decide +kernel
theorem dL_delta_113 : decode cL_delta 113 = .ok (.bipush 7, 2) := by decide +kernel
theorem dL_delta_115 : decode cL_delta 115 = .ok (.bipush 50, 2) := by decide +kernel
theorem dL_delta_117 : decode cL_delta 117 = .ok (.invokevirtual 36, 3) := by decide +kernel
theorem dL_delta_120 : decode cL_delta 120 = .ok (.sipush 1032, 3) := by decide +kernel
theorem dL_delta_123 : decode cL_delta 123 = .ok (.if_icmp .ne 376, 3) := by decide +kernel
theorem dL_delta_126 : decode cL_delta 126 = .ok (.aload_n 0, 1) := by decide +kernel
theorem dL_delta_127 : decode cL_delta 127 = .ok (.iconst 0, 1) := by decide +kernel
theorem dL_delta_128 : decode cL_delta 128 = .ok (.bipush 8, 2) := by decide +kernel
theorem dL_delta_130 : decode cL_delta 130 = .ok (.bipush 32, 2) := by decide +kernel
theorem dL_delta_132 : decode cL_delta 132 = .ok (.invokevirtual 36, 3) := by decide +kernel
theorem dL_delta_135 : decode cL_delta 135 = .ok (.sipush 1032, 3) := by decide +kernel
theorem dL_delta_138 : decode cL_delta 138 = .ok (.if_icmp .ne 361, 3) := by decide +kernel
theorem dL_delta_141 : decode cL_delta 141 = .ok (.aload_n 0, 1) := by decide +kernel
theorem dL_delta_142 : decode cL_delta 142 = .ok (.iconst 0, 1) := by decide +kernel
theorem dL_delta_143 : decode cL_delta 143 = .ok (.bipush 9, 2) := by decide +kernel
theorem dL_delta_145 : decode cL_delta 145 = .ok (.bipush 98, 2) := by decide +kernel
theorem dL_delta_147 : decode cL_delta 147 = .ok (.invokevirtual 36, 3) := by decide +kernel
theorem dL_delta_150 : decode cL_delta 150 = .ok (.sipush 1032, 3) := by decide +kernel
theorem dL_delta_153 : decode cL_delta 153 = .ok (.if_icmp .ne 346, 3) := by decide +kernel
theorem dL_delta_156 : decode cL_delta 156 = .ok (.aload_n 0, 1) := by decide +kernel
theorem dL_delta_157 : decode cL_delta 157 = .ok (.iconst 0, 1) := by decide +kernel
theorem dL_delta_158 : decode cL_delta 158 = .ok (.bipush 10, 2) := by decide +kernel
theorem dL_delta_160 : decode cL_delta 160 = .ok (.bipush 48, 2) := by decide +kernel
theorem dL_delta_162 : decode cL_delta 162 = .ok (.invokevirtual 36, 3) := by decide +kernel
theorem dL_delta_165 : decode cL_delta 165 = .ok (.sipush 1032, 3) := by decide +kernel
theorem dL_delta_168 : decode cL_delta 168 = .ok (.if_icmp .ne 331, 3) := by decide +kernel
theorem dL_delta_171 : decode cL_delta 171 = .ok (.aload_n 0, 1) := by decide +kernel
theorem dL_delta_172 : decode cL_delta 172 = .ok (.iconst 0, 1) := by decide +kernel
theorem dL_delta_173 : decode cL_delta 173 = .ok (.bipush 11, 2) := by decide +kernel
theorem dL_delta_175 : decode cL_delta 175 = .ok (.bipush 53, 2) := by decide +kernel
theorem dL_delta_177 : decode cL_delta 177 = .ok (.invokevirtual 36, 3) := by decide +kernel
theorem dL_delta_180 : decode cL_delta 180 = .ok (.sipush 1032, 3) := by decide +kernel
theorem dL_delta_183 : decode cL_delta 183 = .ok (.if_icmp .ne 316, 3) := by decide +kernel
theorem dL_delta_186 : decode cL_delta 186 = .ok (.aload_n 0, 1) := by decide +kernel
theorem dL_delta_187 : decode cL_delta 187 = .ok (.iconst 0, 1) := by decide +kernel
theorem dL_delta_188 : decode cL_delta 188 = .ok (.bipush 12, 2) := by decide +kernel
theorem dL_delta_190 : decode cL_delta 190 = .ok (.bipush 49, 2) := by decide +kernel
theorem dL_delta_192 : decode cL_delta 192 = .ok (.invokevirtual 36, 3) := by decide +kernel
theorem dL_delta_195 : decode cL_delta 195 = .ok (.sipush 1032, 3) := by decide +kernel
theorem dL_delta_198 : decode cL_delta 198 = .ok (.if_icmp .ne 301, 3) := by decide +kernel
theorem dL_delta_201 : decode cL_delta 201 = .ok (.aload_n 0, 1) := by decide +kernel
theorem dL_delta_202 : decode cL_delta 202 = .ok (.iconst 0, 1) := by decide +kernel
theorem dL_delta_203 : decode cL_delta 203 = .ok (.bipush 13, 2) := by decide +kernel
theorem dL_delta_205 : decode cL_delta 205 = .ok (.bipush 32, 2) := by decide +kernel
theorem dL_delta_207 : decode cL_delta 207 = .ok (.invokevirtual 36, 3) := by decide +kernel
theorem dL_delta_210 : decode cL_delta 210 = .ok (.sipush 1032, 3) := by decide +kernel
theorem dL_delta_213 : decode cL_delta 213 = .ok (.if_icmp .ne 286, 3) := by decide +kernel
theorem dL_delta_216 : decode cL_delta 216 = .ok (.aload_n 0, 1) := by decide +kernel
theorem dL_delta_217 : decode cL_delta 217 = .ok (.iconst 0, 1) := by decide +kernel
theorem dL_delta_218 : decode cL_delta 218 = .ok (.bipush 14, 2) := by decide +kernel
theorem dL_delta_220 : decode cL_delta 220 = .ok (.bipush 108, 2) := by decide +kernel
theorem dL_delta_222 : decode cL_delta 222 = .ok (.invokevirtual 36, 3) := by decide +kernel
theorem dL_delta_225 : decode cL_delta 225 = .ok (.sipush 1032, 3) := by decide +kernel
theorem dL_delta_228 : decode cL_delta 228 = .ok (.if_icmp .ne 271, 3) := by decide +kernel
theorem dL_delta_231 : decode cL_delta 231 = .ok (.aload_n 0, 1) := by decide +kernel
theorem dL_delta_232 : decode cL_delta 232 = .ok (.iconst 0, 1) := by decide +kernel
theorem dL_delta_233 : decode cL_delta 233 = .ok (.bipush 15, 2) := by decide +kernel
theorem dL_delta_235 : decode cL_delta 235 = .ok (.bipush 49, 2) := by decide +kernel
theorem dL_delta_237 : decode cL_delta 237 = .ok (.invokevirtual 36, 3) := by decide +kernel
theorem dL_delta_240 : decode cL_delta 240 = .ok (.sipush 1032, 3) := by decide +kernel
theorem dL_delta_243 : decode cL_delta 243 = .ok (.if_icmp .ne 256, 3) := by decide +kernel
theorem dL_delta_246 : decode cL_delta 246 = .ok (.aload_n 0, 1) := by decide +kernel
theorem dL_delta_247 : decode cL_delta 247 = .ok (.iconst 0, 1) := by decide +kernel
theorem dL_delta_248 : decode cL_delta 248 = .ok (.bipush 16, 2) := by decide +kernel
theorem dL_delta_250 : decode cL_delta 250 = .ok (.bipush 57, 2) := by decide +kernel
theorem dL_delta_252 : decode cL_delta 252 = .ok (.invokevirtual 36, 3) := by decide +kernel
theorem dL_delta_255 : decode cL_delta 255 = .ok (.sipush 1032, 3) := by decide +kernel
theorem dL_delta_258 : decode cL_delta 258 = .ok (.if_icmp .ne 241, 3) := by decide +kernel
theorem dL_delta_261 : decode cL_delta 261 = .ok (.aload_n 0, 1) := by decide +kernel
theorem dL_delta_262 : decode cL_delta 262 = .ok (.iconst 0, 1) := by decide +kernel
theorem dL_delta_263 : decode cL_delta 263 = .ok (.bipush 17, 2) := by decide +kernel
theorem dL_delta_265 : decode cL_delta 265 = .ok (.bipush 50, 2) := by decide +kernel
theorem dL_delta_267 : decode cL_delta 267 = .ok (.invokevirtual 36, 3) := by decide +kernel
theorem dL_delta_270 : decode cL_delta 270 = .ok (.sipush 1032, 3) := by decide +kernel
theorem dL_delta_273 : decode cL_delta 273 = .ok (.if_icmp .ne 226, 3) := by decide +kernel
theorem dL_delta_276 : decode cL_delta 276 = .ok (.aload_n 0, 1) := by decide +kernel
theorem dL_delta_277 : decode cL_delta 277 = .ok (.iconst 0, 1) := by decide +kernel
theorem dL_delta_278 : decode cL_delta 278 = .ok (.bipush 18, 2) := by decide +kernel
theorem dL_delta_280 : decode cL_delta 280 = .ok (.bipush 32, 2) := by decide +kernel
theorem dL_delta_282 : decode cL_delta 282 = .ok (.invokevirtual 36, 3) := by decide +kernel
theorem dL_delta_285 : decode cL_delta 285 = .ok (.sipush 1032, 3) := by decide +kernel
theorem dL_delta_288 : decode cL_delta 288 = .ok (.if_icmp .ne 211, 3) := by decide +kernel
theorem dL_delta_291 : decode cL_delta 291 = .ok (.aload_n 0, 1) := by decide +kernel
theorem dL_delta_292 : decode cL_delta 292 = .ok (.iconst 0, 1) := by decide +kernel
theorem dL_delta_293 : decode cL_delta 293 = .ok (.bipush 19, 2) := by decide +kernel
theorem dL_delta_295 : decode cL_delta 295 = .ok (.bipush 103, 2) := by decide +kernel
theorem dL_delta_297 : decode cL_delta 297 = .ok (.invokevirtual 36, 3) := by decide +kernel
theorem dL_delta_300 : decode cL_delta 300 = .ok (.sipush 1032, 3) := by decide +kernel
theorem dL_delta_303 : decode cL_delta 303 = .ok (.if_icmp .ne 196, 3) := by decide +kernel
theorem dL_delta_306 : decode cL_delta 306 = .ok (.aload_n 0, 1) := by decide +kernel
theorem dL_delta_307 : decode cL_delta 307 = .ok (.iconst 0, 1) := by decide +kernel
theorem dL_delta_308 : decode cL_delta 308 = .ok (.bipush 20, 2) := by decide +kernel
theorem dL_delta_310 : decode cL_delta 310 = .ok (.bipush 51, 2) := by decide +kernel
theorem dL_delta_312 : decode cL_delta 312 = .ok (.invokevirtual 36, 3) := by decide +kernel
theorem dL_delta_315 : decode cL_delta 315 = .ok (.sipush 1032, 3) := by decide +kernel
theorem dL_delta_318 : decode cL_delta 318 = .ok (.if_icmp .ne 181, 3) := by decide +kernel
theorem dL_delta_321 : decode cL_delta 321 = .ok (.aload_n 0, 1) := by decide +kernel
theorem dL_delta_322 : decode cL_delta 322 = .ok (.iconst 0, 1) := by decide +kernel
theorem dL_delta_323 : decode cL_delta 323 = .ok (.bipush 21, 2) := by decide +kernel
theorem dL_delta_325 : decode cL_delta 325 = .ok (.bipush 51, 2) := by decide +kernel
theorem dL_delta_327 : decode cL_delta 327 = .ok (.invokevirtual 36, 3) := by decide +kernel
theorem dL_delta_330 : decode cL_delta 330 = .ok (.sipush 1032, 3) := by decide +kernel
theorem dL_delta_333 : decode cL_delta 333 = .ok (.if_icmp .ne 166, 3) := by decide +kernel
theorem dL_delta_336 : decode cL_delta 336 = .ok (.aload_n 0, 1) := by decide +kernel
theorem dL_delta_337 : decode cL_delta 337 = .ok (.iconst 0, 1) := by decide +kernel
theorem dL_delta_338 : decode cL_delta 338 = .ok (.bipush 22, 2) := by decide +kernel
theorem dL_delta_340 : decode cL_delta 340 = .ok (.bipush 48, 2) := by decide +kernel
theorem dL_delta_342 : decode cL_delta 342 = .ok (.invokevirtual 36, 3) := by decide +kernel
theorem dL_delta_345 : decode cL_delta 345 = .ok (.sipush 1032, 3) := by decide +kernel
theorem dL_delta_348 : decode cL_delta 348 = .ok (.if_icmp .ne 151, 3) := by decide +kernel
theorem dL_delta_351 : decode cL_delta 351 = .ok (.aload_n 0, 1) := by decide +kernel
theorem dL_delta_352 : decode cL_delta 352 = .ok (.iconst 0, 1) := by decide +kernel
theorem dL_delta_353 : decode cL_delta 353 = .ok (.bipush 23, 2) := by decide +kernel
theorem dL_delta_355 : decode cL_delta 355 = .ok (.bipush 118, 2) := by decide +kernel
theorem dL_delta_357 : decode cL_delta 357 = .ok (.invokevirtual 36, 3) := by decide +kernel
theorem dL_delta_360 : decode cL_delta 360 = .ok (.sipush 1032, 3) := by decide +kernel
theorem dL_delta_363 : decode cL_delta 363 = .ok (.if_icmp .ne 136, 3) := by decide +kernel
theorem dL_delta_366 : decode cL_delta 366 = .ok (.aload_n 0, 1) := by decide +kernel
theorem dL_delta_367 : decode cL_delta 367 = .ok (.iconst 0, 1) := by decide +kernel
theorem dL_delta_368 : decode cL_delta 368 = .ok (.bipush 24, 2) := by decide +kernel
theorem dL_delta_370 : decode cL_delta 370 = .ok (.bipush 51, 2) := by decide +kernel
theorem dL_delta_372 : decode cL_delta 372 = .ok (.invokevirtual 36, 3) := by decide +kernel
theorem dL_delta_375 : decode cL_delta 375 = .ok (.sipush 1032, 3) := by decide +kernel
theorem dL_delta_378 : decode cL_delta 378 = .ok (.if_icmp .ne 121, 3) := by decide +kernel
theorem dL_delta_381 : decode cL_delta 381 = .ok (.aload_n 0, 1) := by decide +kernel
theorem dL_delta_382 : decode cL_delta 382 = .ok (.iconst 0, 1) := by decide +kernel
theorem dL_delta_383 : decode cL_delta 383 = .ok (.bipush 25, 2) := by decide +kernel
theorem dL_delta_385 : decode cL_delta 385 = .ok (.bipush 56, 2) := by decide +kernel
theorem dL_delta_387 : decode cL_delta 387 = .ok (.invokevirtual 36, 3) := by decide +kernel
theorem dL_delta_390 : decode cL_delta 390 = .ok (.sipush 1032, 3) := by decide +kernel
theorem dL_delta_393 : decode cL_delta 393 = .ok (.if_icmp .ne 106, 3) := by decide +kernel
theorem dL_delta_396 : decode cL_delta 396 = .ok (.aload_n 0, 1) := by decide +kernel
theorem dL_delta_397 : decode cL_delta 397 = .ok (.iconst 0, 1) := by decide +kernel
theorem dL_delta_398 : decode cL_delta 398 = .ok (.bipush 26, 2) := by decide +kernel
theorem dL_delta_400 : decode cL_delta 400 = .ok (.bipush 48, 2) := by decide +kernel
theorem dL_delta_402 : decode cL_delta 402 = .ok (.invokevirtual 36, 3) := by decide +kernel
theorem dL_delta_405 : decode cL_delta 405 = .ok (.sipush 1032, 3) := by decide +kernel
theorem dL_delta_408 : decode cL_delta 408 = .ok (.if_icmp .ne 91, 3) := by decide +kernel
theorem dL_delta_411 : decode cL_delta 411 = .ok (.aload_n 0, 1) := by decide +kernel
theorem dL_delta_412 : decode cL_delta 412 = .ok (.iconst 0, 1) := by decide +kernel
theorem dL_delta_413 : decode cL_delta 413 = .ok (.bipush 27, 2) := by decide +kernel
theorem dL_delta_415 : decode cL_delta 415 = .ok (.bipush 32, 2) := by decide +kernel
theorem dL_delta_417 : decode cL_delta 417 = .ok (.invokevirtual 36, 3) := by decide +kernel
theorem dL_delta_420 : decode cL_delta 420 = .ok (.sipush 1032, 3) := by decide +kernel
theorem dL_delta_423 : decode cL_delta 423 = .ok (.if_icmp .ne 76, 3) := by decide +kernel
theorem dL_delta_426 : decode cL_delta 426 = .ok (.aload_n 0, 1) := by decide +kernel
theorem dL_delta_427 : decode cL_delta 427 = .ok (.iconst 0, 1) := by decide +kernel
theorem dL_delta_428 : decode cL_delta 428 = .ok (.bipush 28, 2) := by decide +kernel
theorem dL_delta_430 : decode cL_delta 430 = .ok (.bipush 97, 2) := by decide +kernel
theorem dL_delta_432 : decode cL_delta 432 = .ok (.invokevirtual 36, 3) := by decide +kernel
theorem dL_delta_435 : decode cL_delta 435 = .ok (.sipush 1032, 3) := by decide +kernel
theorem dL_delta_438 : decode cL_delta 438 = .ok (.if_icmp .ne 61, 3) := by decide +kernel
theorem dL_delta_441 : decode cL_delta 441 = .ok (.aload_n 0, 1) := by decide +kernel
theorem dL_delta_442 : decode cL_delta 442 = .ok (.iconst 0, 1) := by decide +kernel
theorem dL_delta_443 : decode cL_delta 443 = .ok (.bipush 29, 2) := by decide +kernel
theorem dL_delta_445 : decode cL_delta 445 = .ok (.bipush 49, 2) := by decide +kernel
theorem dL_delta_447 : decode cL_delta 447 = .ok (.invokevirtual 36, 3) := by decide +kernel
theorem dL_delta_450 : decode cL_delta 450 = .ok (.sipush 1032, 3) := by decide +kernel
theorem dL_delta_453 : decode cL_delta 453 = .ok (.if_icmp .ne 46, 3) := by decide +kernel
theorem dL_delta_456 : decode cL_delta 456 = .ok (.aload_n 0, 1) := by decide +kernel
theorem dL_delta_457 : decode cL_delta 457 = .ok (.iconst 0, 1) := by decide +kernel
theorem dL_delta_458 : decode cL_delta 458 = .ok (.bipush 30, 2) := by decide +kernel
theorem dL_delta_460 : decode cL_delta 460 = .ok (.bipush 53, 2) := by decide +kernel
theorem dL_delta_462 : decode cL_delta 462 = .ok (.invokevirtual 36, 3) := by decide +kernel
theorem dL_delta_465 : decode cL_delta 465 = .ok (.sipush 1032, 3) := by decide +kernel
theorem dL_delta_468 : decode cL_delta 468 = .ok (.if_icmp .ne 31, 3) := by decide +kernel
theorem dL_delta_471 : decode cL_delta 471 = .ok (.aload_n 0, 1) := by decide +kernel
theorem dL_delta_472 : decode cL_delta 472 = .ok (.iconst 0, 1) := by decide +kernel
theorem dL_delta_473 : decode cL_delta 473 = .ok (.bipush 31, 2) := by decide +kernel
theorem dL_delta_475 : decode cL_delta 475 = .ok (.bipush 51, 2) := by decide +kernel
theorem dL_delta_477 : decode cL_delta 477 = .ok (.invokevirtual 36, 3) := by decide +kernel
theorem dL_delta_480 : decode cL_delta 480 = .ok (.sipush 1032, 3) := by decide +kernel
theorem dL_delta_483 : decode cL_delta 483 = .ok (.if_icmp .ne 16, 3) := by decide +kernel
theorem dL_delta_486 : decode cL_delta 486 = .ok (.aload_n 0, 1) := by decide +kernel
theorem dL_delta_487 : decode cL_delta 487 = .ok (.iconst 0, 1) := by decide +kernel
theorem dL_delta_488 : decode cL_delta 488 = .ok (.invokevirtual 42, 3) := by decide +kernel
theorem dL_delta_491 : decode cL_delta 491 = .ok (.iconst 5, 1) := by decide +kernel
theorem dL_delta_492 : decode cL_delta 492 = .ok (.if_icmp .ne 7, 3) := by decide +kernel
theorem dL_delta_495 : decode cL_delta 495 = .ok (.iconst 1, 1) := by decide +kernel
theorem dL_delta_496 : decode cL_delta 496 = .ok (.goto 4, 3) := by decide +kernel
theorem dL_delta_499 : decode cL_delta 499 = .ok (.iconst 0, 1) := by decide +kernel
theorem dL_delta_500 : decode cL_delta 500 = .ok (.ireturn, 1) := by decide +kernel
set_option maxRecDepth 20000 in
theorem ggL_turn_L_low : GoodIn wsL_turn wsL_low := goodIn_r _ [4, 5] (by decide +kernel) (by decide +kernel)
set_option maxRecDepth 20000 in
theorem gL_turn_L_low : GoodIn wsL_turn (va_wsS RL 123 yL_low wsL_low) := goodIn_app (goodIn_of _ (by decide +kernel)) ggL_turn_L_low
set_option maxRecDepth 20000 in
theorem ggL_turn_X5_flood : GoodIn wsL_turn wsX5_flood := goodIn_r _ [10, 11, 12, 13, 9, 14, 15, 16, 17, 18, 19, 20, 21, 22, 23, 24, 25, 26, 27, 28, 29, 30, 31, 32, 33, 34, 35, 36, 37, 38, 39, 40, 41, 42, 43, 44, 45, 46, 47, 48, 49, 50, 51, 52, 53, 54, 55, 479, 480, 481, 482, 483, 484, 485, 486, 487, 488, 489, 490, 491, 492, 493, 494, 495, 496, 497, 498, 499, 500, 501, 502, 503, 504, 505] (by decide +kernel) (by decide +kernel)
set_option maxRecDepth 20000 in
theorem gL_turn_X5_flood : GoodIn wsL_turn (wsV RL 57 RX5 yX5_flood wsX5_flood) := goodIn_app (goodIn_of _ (by decide +kernel)) ggL_turn_X5_flood
