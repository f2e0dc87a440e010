theorem dL_arePupils_224 : decode cL_arePupils 224 = .ok (.iconst 0, 1) := by decide +kernel
theorem dL_arePupils_225 : decode cL_arePupils 225 = .ok (.iaload, 1) := by decide +kernel
theorem dL_arePupils_226 : decode cL_arePupils 226 = .ok (.iload 12, 2) := by decide +kernel
theorem dL_arePupils_228 : decode cL_arePupils 228 = .ok (.iadd, 1) := by decide +kernel
theorem dL_arePupils_229 : decode cL_arePupils 229 = .ok (.istore 10, 2) := by decide +kernel
theorem dL_arePupils_231 : decode cL_arePupils 231 = .ok (.iload 13, 2) := by decide +kernel
theorem dL_arePupils_233 : decode cL_arePupils 233 = .ok (.istore 11, 2) := by decide +kernel
theorem dL_arePupils_235 : decode cL_arePupils 235 = .ok (.iinc 13 1, 3) := by decide +kernel
theorem dL_arePupils_238 : decode cL_arePupils 238 = .ok (.goto (-60), 3) := by decide +kernel
theorem dL_arePupils_241 : decode cL_arePupils 241 = .ok (.iinc 12 1, 3) := by decide +kernel
theorem dL_arePupils_244 : decode cL_arePupils 244 = .ok (.goto (-81), 3) := by decide +kernel
theorem dL_arePupils_247 : decode cL_arePupils 247 = .ok (.iload 5, 2) := by decide +kernel
theorem dL_arePupils_249 : decode cL_arePupils 249 = .ok (.iconst 0, 1) := by decide +kernel
theorem dL_arePupils_250 : decode cL_arePupils 250 = .ok (.aload_n 3, 1) := by decide +kernel
theorem dL_arePupils_251 : decode cL_arePupils 251 = .ok (.invokestatic 43, 3) := by decide +kernel
theorem dL_arePupils_254 : decode cL_arePupils 254 = .ok (.istore 12, 2) := by decide +kernel
theorem dL_arePupils_256 : decode cL_arePupils 256 = .ok (.aload_n 0, 1) := by decide +kernel
theorem dL_arePupils_257 : decode cL_arePupils 257 = .ok (.iload 5, 2) := by decide +kernel
theorem dL_arePupils_259 : decode cL_arePupils 259 = .ok (.iconst 0, 1) := by decide +kernel
theorem dL_arePupils_260 : decode cL_arePupils 260 = .ok (.invokevirtual 96, 3) := by decide +kernel
theorem dL_arePupils_263 : decode cL_arePupils 263 = .ok (.iload 12, 2) := by decide +kernel
theorem dL_arePupils_265 : decode cL_arePupils 265 = .ok (.ifCond .ge 8, 3) := by decide +kernel
theorem dL_arePupils_268 : decode cL_arePupils 268 = .ok (.bipush (-6), 2) := by decide +kernel
theorem dL_arePupils_270 : decode cL_arePupils 270 = .ok (.goto 5, 3) := by decide +kernel
theorem dL_arePupils_273 : decode cL_arePupils 273 = .ok (.iload 12, 2) := by decide +kernel
theorem dL_arePupils_275 : decode cL_arePupils 275 = .ok (.if_icmp .ne 94, 3) := by decide +kernel
theorem dL_arePupils_278 : decode cL_arePupils 278 = .ok (.aload_n 0, 1) := by decide +kernel
theorem dL_arePupils_279 : decode cL_arePupils 279 = .ok (.iload 5, 2) := by decide +kernel
theorem dL_arePupils_281 : decode cL_arePupils 281 = .ok (.iconst 1, 1) := by decide +kernel
theorem dL_arePupils_282 : decode cL_arePupils 282 = .ok (.invokevirtual 96, 3) := by decide +kernel
theorem dL_arePupils_285 : decode cL_arePupils 285 = .ok (.iload 6, 2) := by decide +kernel
theorem dL_arePupils_287 : decode cL_arePupils 287 = .ok (.if_icmp .ne 82, 3) := by decide +kernel
theorem dL_arePupils_290 : decode cL_arePupils 290 = .ok (.aload_n 0, 1) := by decide +kernel
theorem dL_arePupils_291 : decode cL_arePupils 291 = .ok (.iload 5, 2) := by decide +kernel
theorem dL_arePupils_293 : decode cL_arePupils 293 = .ok (.iconst 2, 1) := by decide +kernel
theorem dL_arePupils_294 : decode cL_arePupils 294 = .ok (.invokevirtual 96, 3) := by decide +kernel
theorem dL_arePupils_297 : decode cL_arePupils 297 = .ok (.iload 7, 2) := by decide +kernel
theorem dL_arePupils_299 : decode cL_arePupils 299 = .ok (.if_icmp .ne 70, 3) := by decide +kernel
theorem dL_arePupils_302 : decode cL_arePupils 302 = .ok (.aload_n 0, 1) := by decide +kernel
theorem dL_arePupils_303 : decode cL_arePupils 303 = .ok (.iload 5, 2) := by decide +kernel
theorem dL_arePupils_305 : decode cL_arePupils 305 = .ok (.iconst 3, 1) := by decide +kernel
theorem dL_arePupils_306 : decode cL_arePupils 306 = .ok (.invokevirtual 96, 3) := by decide +kernel
theorem dL_arePupils_309 : decode cL_arePupils 309 = .ok (.iload 8, 2) := by decide +kernel
theorem dL_arePupils_311 : decode cL_arePupils 311 = .ok (.if_icmp .ne 58, 3) := by decide +kernel
theorem dL_arePupils_314 : decode cL_arePupils 314 = .ok (.aload_n 0, 1) := by decide +kernel
theorem dL_arePupils_315 : decode cL_arePupils 315 = .ok (.iload 5, 2) := by decide +kernel
theorem dL_arePupils_317 : decode cL_arePupils 317 = .ok (.iconst 4, 1) := by decide +kernel
theorem dL_arePupils_318 : decode cL_arePupils 318 = .ok (.invokevirtual 96, 3) := by decide +kernel
theorem dL_arePupils_321 : decode cL_arePupils 321 = .ok (.aload 4, 2) := by decide +kernel
theorem dL_arePupils_323 : decode cL_arePupils 323 = .ok (.iconst 2, 1) := by decide +kernel
theorem dL_arePupils_324 : decode cL_arePupils 324 = .ok (.iload 5, 2) := by decide +kernel
theorem dL_arePupils_326 : decode cL_arePupils 326 = .ok (.imul, 1) := by decide +kernel
theorem dL_arePupils_327 : decode cL_arePupils 327 = .ok (.iconst 1, 1) := by decide +kernel
theorem dL_arePupils_328 : decode cL_arePupils 328 = .ok (.iadd, 1) := by decide +kernel
theorem dL_arePupils_329 : decode cL_arePupils 329 = .ok (.iaload, 1) := by decide +kernel
theorem dL_arePupils_330 : decode cL_arePupils 330 = .ok (.if_icmp .ne 39, 3) := by decide +kernel
theorem dL_arePupils_333 : decode cL_arePupils 333 = .ok (.aload_n 0, 1) := by decide +kernel
theorem dL_arePupils_334 : decode cL_arePupils 334 = .ok (.iload 5, 2) := by decide +kernel
theorem dL_arePupils_336 : decode cL_arePupils 336 = .ok (.iconst 5, 1) := by decide +kernel
theorem dL_arePupils_337 : decode cL_arePupils 337 = .ok (.invokevirtual 96, 3) := by decide +kernel
theorem dL_arePupils_340 : decode cL_arePupils 340 = .ok (.iload 9, 2) := by decide +kernel
theorem dL_arePupils_342 : decode cL_arePupils 342 = .ok (.if_icmp .ne 27, 3) := by decide +kernel
theorem dL_arePupils_345 : decode cL_arePupils 345 = .ok (.aload_n 0, 1) := by decide +kernel
theorem dL_arePupils_346 : decode cL_arePupils 346 = .ok (.iload 5, 2) := by decide +kernel
theorem dL_arePupils_348 : decode cL_arePupils 348 = .ok (.iconst 0, 1) := by decide +kernel
theorem dL_arePupils_349 : decode cL_arePupils 349 = .ok (.invokevirtual 99, 3) := by decide +kernel
theorem dL_arePupils_352 : decode cL_arePupils 352 = .ok (.iload 10, 2) := by decide +kernel
theorem dL_arePupils_354 : decode cL_arePupils 354 = .ok (.if_icmp .ne 15, 3) := by decide +kernel
theorem dL_arePupils_357 : decode cL_arePupils 357 = .ok (.aload_n 0, 1) := by decide +kernel
theorem dL_arePupils_358 : decode cL_arePupils 358 = .ok (.iload 5, 2) := by decide +kernel
theorem dL_arePupils_360 : decode cL_arePupils 360 = .ok (.iconst 1, 1) := by decide +kernel
theorem dL_arePupils_361 : decode cL_arePupils 361 = .ok (.invokevirtual 99, 3) := by decide +kernel
theorem dL_arePupils_364 : decode cL_arePupils 364 = .ok (.iload 11, 2) := by decide +kernel
theorem dL_arePupils_366 : decode cL_arePupils 366 = .ok (.if_icmp .eq 5, 3) := by decide +kernel
theorem dL_arePupils_369 : decode cL_arePupils 369 = .ok (.iconst 0, 1) := by decide +kernel
theorem dL_arePupils_370 : decode cL_arePupils 370 = .ok (.ireturn, 1) := by decide +kernel
theorem dL_arePupils_371 : decode cL_arePupils 371 = .ok (.iinc 5 1, 3) := by decide +kernel
theorem dL_arePupils_374 : decode cL_arePupils 374 = .ok (.goto (-371), 3) := by decide +kernel
theorem dL_arePupils_377 : decode cL_arePupils 377 = .ok (.iconst 1, 1) := by decide +kernel
theorem dL_arePupils_378 : decode cL_arePupils 378 = .ok (.ireturn, 1) := by decide +kernel
set_option maxRecDepth 20000 in
theorem ggL_isSo_L_isPot : GoodIn wsL_isSo wsL_isPot := goodIn_r _ [4, 5, 6, 3, 7, 8, 9, 10, 11, 12, 13, 14, 15, 16, 17, 18, 19, 20, 21, 22, 23, 24, 25, 26, 27, 28, 29, 30, 31, 32, 33, 34, 35, 36, 37, 38, 39, 40, 41, 42, 43, 44, 45, 46, 47, 48, 49, 50, 51, 52, 53, 54, 55, 56, 57, 58, 59, 60, 61, 62, 63, 64, 65, 66, 67, 68, 69, 70, 71, 72, 73, 74, 75, 76, 77, 78, 79, 80, 81, 82, 83, 84, 85, 86, 87, 88, 89, 90, 91, 92, 93, 94, 95, 96, 97, 98, 99, 100, 101, 102, 103, 104, 236, 237, 238, 239, 240, 241, 242, 243, 244, 245, 246, 247, 248, 249, 250, 251, 252, 253, 254, 255, 256, 257] (by decide +kernel) (by decide +kernel)
set_option maxRecDepth 20000 in
theorem gL_isSo_L_isPot : GoodIn wsL_isSo (va_wsS RL 102 yL_isPot wsL_isPot) := goodIn_app (goodIn_of _ (by decide +kernel)) ggL_isSo_L_isPot
set_option maxRecDepth 20000 in
theorem ggL_isSo_L_part : GoodIn wsL_isSo wsL_part := goodIn_r _ [7, 8] (by decide +kernel) (by decide +kernel)
set_option maxRecDepth 20000 in
theorem gL_isSo_L_part : GoodIn wsL_isSo (va_wsS RL 13 yL_part wsL_part) := goodIn_app (goodIn_of _ (by decide +kernel)) ggL_isSo_L_part
set_option maxRecDepth 20000 in
theorem ggL_isSo_L_why : GoodIn wsL_isSo wsL_why := goodIn_r _ [89, 5, 6, 3, 7, 8, 90, 91, 92] (by decide +kernel) (by decide +kernel)
set_option maxRecDepth 20000 in
theorem gL_isSo_L_why : GoodIn wsL_isSo (va_wsS RL 71 yL_why wsL_why) := goodIn_app (goodIn_of _ (by decide +kernel)) ggL_isSo_L_why
set_option maxRecDepth 20000 in
theorem ggL_isSo_X6_booked : GoodIn wsL_isSo wsX6_booked := goodIn_r _ [108, 14, 109, 110, 111, 18, 112, 113, 114, 12, 115, 116, 117, 118, 119, 120, 121, 122, 123, 124, 125, 126, 127, 128, 129, 130, 131, 132, 33, 34, 35, 36, 37, 236, 237, 238, 239, 240, 241, 242, 243, 244, 245, 246, 247, 258, 259, 260, 257] (by decide +kernel) (by decide +kernel)
set_option maxRecDepth 20000 in
theorem gL_isSo_X6_booked : GoodIn wsL_isSo (wsV RL 106 RX6 yX6_booked wsX6_booked) := goodIn_app (goodIn_of _ (by decide +kernel)) ggL_isSo_X6_booked
set_option maxRecDepth 20000 in
theorem ggL_isSo_X6_count : GoodIn wsL_isSo wsX6_count := goodIn_r _ [136, 137, 138, 14, 139, 140, 141, 142, 143, 144, 145, 146, 147, 148, 149, 150, 151, 152, 153, 18, 154, 155, 56, 113, 156, 20, 157, 158, 117, 12, 118, 43, 33, 34, 35, 36, 37, 159, 160, 161, 24, 162, 26, 163, 28, 29, 30, 31, 32, 164, 70, 71, 72, 73, 74, 75, 76, 81, 82, 83, 84, 85, 86, 45, 46, 47, 165, 166, 167, 168, 169, 170, 171, 172, 173, 174, 175, 176, 177, 178, 179, 180, 181, 182, 183, 184, 53, 54, 55, 21, 22, 23, 25, 27, 38, 39, 40, 41, 42, 57, 58, 59, 60, 61, 62, 63, 64, 65, 66, 67, 68, 69, 77, 78, 79, 80, 185, 186, 187, 188, 189, 190, 236, 237, 238, 239, 261, 262, 263, 264, 265, 266, 267, 268, 269, 270, 240, 241, 242, 243, 244, 245, 246, 247, 258, 259, 260, 248, 249, 250, 251, 252, 253, 254, 255, 256, 257] (by decide +kernel) (by decide +kernel)
set_option maxRecDepth 20000 in
theorem gL_isSo_X6_count : GoodIn wsL_isSo (wsV RL 109 RX6 yX6_count wsX6_count) := goodIn_app (goodIn_of _ (by decide +kernel)) ggL_isSo_X6_count
set_option maxRecDepth 20000 in
theorem ggL_isSo_L_arePupils : GoodIn wsL_isSo wsL_arePupils := goodIn_r _ [193, 5, 6, 3, 7, 8, 194, 195, 196, 197, 198, 199, 12, 200, 14, 201, 202, 203, 18, 204, 113, 20, 158, 205, 206, 207, 208, 156, 209, 210, 211, 124, 212, 213, 122, 123, 125, 126, 127, 128, 129, 130, 131, 132, 33, 34, 35, 36, 37, 214, 215, 216, 24, 217, 218, 26, 73, 74, 75, 76, 185, 78, 79, 80, 42, 43, 219, 220, 221, 222, 223, 224, 225, 226, 227, 228, 229, 230, 231, 232, 233, 234, 235, 236, 237, 238, 239, 240, 241, 242, 243, 244, 245, 246, 247, 258, 259, 260, 257, 248, 249, 250, 251, 252, 253, 254, 255, 256] (by decide +kernel) (by decide +kernel)
set_option maxRecDepth 20000 in
theorem gL_isSo_L_arePupils : GoodIn wsL_isSo (va_wsS RL 112 yL_arePupils wsL_arePupils) := goodIn_app (goodIn_of _ (by decide +kernel)) ggL_isSo_L_arePupils
set_option maxRecDepth 20000 in
theorem ggL_isSo_L_inKiln : GoodIn wsL_isSo wsL_inKiln := goodIn_r _ [92, 5, 6, 3, 7, 8] (by decide +kernel) (by decide +kernel)
set_option maxRecDepth 20000 in
theorem gL_isSo_L_inKiln : GoodIn wsL_isSo (va_wsS RL 19 yL_inKiln wsL_inKiln) := goodIn_app (goodIn_of _ (by decide +kernel)) ggL_isSo_L_inKiln
theorem dL_isSo_0 : decode cL_isSo 0 = .ok (.iconst 0, 1) := by decide +kernel
theorem dL_isSo_1 : decode cL_isSo 1 = .ok (.istore 5, 2) := by decide +kernel
theorem dL_isSo_3 : decode cL_isSo 3 = .ok (.iconst 0, 1) := by decide +kernel
theorem dL_isSo_4 : decode cL_isSo 4 = .ok (.istore 6, 2) := by decide +kernel
theorem dL_isSo_6 : decode cL_isSo 6 = .ok (.iconst 0, 1) := by decide +kernel
theorem dL_isSo_7 : decode cL_isSo 7 = .ok (.istore 7, 2) := by decide +kernel
theorem dL_isSo_9 : decode cL_isSo 9 = .ok (.iconst 0, 1) := by decide +kernel
theorem dL_isSo_10 : decode cL_isSo 10 = .ok (.istore 8, 2) := by decide +kernel
theorem dL_isSo_12 : decode cL_isSo 12 = .ok (.iconst 0, 1) := by decide +kernel
theorem dL_isSo_13 : decode cL_isSo 13 = .ok (.istore 9, 2) := by decide +kernel
theorem dL_isSo_15 : decode cL_isSo 15 = .ok (.iload 9, 2) := by decide +kernel
theorem dL_isSo_17 : decode cL_isSo 17 = .ok (.aload_n 1, 1) := by decide +kernel
theorem dL_isSo_18 : decode cL_isSo 18 = .ok (.bipush 7, 2) := by decide +kernel
theorem dL_isSo_20 : decode cL_isSo 20 = .ok (.iaload, 1) := by decide +kernel
theorem dL_isSo_21 : decode cL_isSo 21 = .ok (.if_icmp .ge 120, 3) := by decide +kernel
theorem dL_isSo_24 : decode cL_isSo 24 = .ok (.aload_n 0, 1) := by decide +kernel
theorem dL_isSo_25 : decode cL_isSo 25 = .ok (.iload 9, 2) := by decide +kernel
theorem dL_isSo_27 : decode cL_isSo 27 = .ok (.aload_n 1, 1) := by decide +kernel
theorem dL_isSo_28 : decode cL_isSo 28 = .ok (.aload_n 2, 1) := by decide +kernel
theorem dL_isSo_29 : decode cL_isSo 29 = .ok (.invokestatic 102, 3) := by decide +kernel
theorem dL_isSo_32 : decode cL_isSo 32 = .ok (.ifCond .ne 5, 3) := by decide +kernel
theorem dL_isSo_35 : decode cL_isSo 35 = .ok (.iconst 0, 1) := by decide +kernel
theorem dL_isSo_36 : decode cL_isSo 36 = .ok (.ireturn, 1) := by decide +kernel
theorem dL_isSo_37 : decode cL_isSo 37 = .ok (.iload 5, 2) := by decide +kernel
theorem dL_isSo_39 : decode cL_isSo 39 = .ok (.aload_n 2, 1) := by decide +kernel
theorem dL_isSo_40 : decode cL_isSo 40 = .ok (.iload 9, 2) := by decide +kernel
theorem dL_isSo_42 : decode cL_isSo 42 = .ok (.laload, 1) := by decide +kernel
theorem dL_isSo_43 : decode cL_isSo 43 = .ok (.iconst 4, 1) := by decide +kernel
theorem dL_isSo_44 : decode cL_isSo 44 = .ok (.invokestatic 13, 3) := by decide +kernel
theorem dL_isSo_47 : decode cL_isSo 47 = .ok (.bipush 24, 2) := by decide +kernel
theorem dL_isSo_49 : decode cL_isSo 49 = .ok (.if_icmp .ge 10, 3) := by decide +kernel
theorem dL_isSo_52 : decode cL_isSo 52 = .ok (.iconst 1, 1) := by decide +kernel
theorem dL_isSo_53 : decode cL_isSo 53 = .ok (.iload 9, 2) := by decide +kernel
theorem dL_isSo_55 : decode cL_isSo 55 = .ok (.ishl, 1) := by decide +kernel
theorem dL_isSo_56 : decode cL_isSo 56 = .ok (.goto 4, 3) := by decide +kernel
theorem dL_isSo_59 : decode cL_isSo 59 = .ok (.iconst 0, 1) := by decide +kernel
theorem dL_isSo_60 : decode cL_isSo 60 = .ok (.ior, 1) := by decide +kernel
theorem dL_isSo_61 : decode cL_isSo 61 = .ok (.istore 5, 2) := by decide +kernel
theorem dL_isSo_63 : decode cL_isSo 63 = .ok (.iload 6, 2) := by decide +kernel
theorem dL_isSo_65 : decode cL_isSo 65 = .ok (.aload_n 2, 1) := by decide +kernel
theorem dL_isSo_66 : decode cL_isSo 66 = .ok (.iload 9, 2) := by decide +kernel
theorem dL_isSo_68 : decode cL_isSo 68 = .ok (.laload, 1) := by decide +kernel
theorem dL_isSo_69 : decode cL_isSo 69 = .ok (.iconst 4, 1) := by decide +kernel
theorem dL_isSo_70 : decode cL_isSo 70 = .ok (.invokestatic 13, 3) := by decide +kernel
theorem dL_isSo_73 : decode cL_isSo 73 = .ok (.bipush 24, 2) := by decide +kernel
theorem dL_isSo_75 : decode cL_isSo 75 = .ok (.if_icmp .ne 10, 3) := by decide +kernel
theorem dL_isSo_78 : decode cL_isSo 78 = .ok (.iconst 1, 1) := by decide +kernel
theorem dL_isSo_79 : decode cL_isSo 79 = .ok (.iload 9, 2) := by decide +kernel
theorem dL_isSo_81 : decode cL_isSo 81 = .ok (.ishl, 1) := by decide +kernel
theorem dL_isSo_82 : decode cL_isSo 82 = .ok (.goto 4, 3) := by decide +kernel
theorem dL_isSo_85 : decode cL_isSo 85 = .ok (.iconst 0, 1) := by decide +kernel
theorem dL_isSo_86 : decode cL_isSo 86 = .ok (.ior, 1) := by decide +kernel
theorem dL_isSo_87 : decode cL_isSo 87 = .ok (.istore 6, 2) := by decide +kernel
theorem dL_isSo_89 : decode cL_isSo 89 = .ok (.iload 7, 2) := by decide +kernel
theorem dL_isSo_91 : decode cL_isSo 91 = .ok (.iload 9, 2) := by decide +kernel
theorem dL_isSo_93 : decode cL_isSo 93 = .ok (.aload_n 1, 1) := by decide +kernel
theorem dL_isSo_94 : decode cL_isSo 94 = .ok (.aload_n 2, 1) := by decide +kernel
theorem dL_isSo_95 : decode cL_isSo 95 = .ok (.invokestatic 71, 3) := by decide +kernel
theorem dL_isSo_98 : decode cL_isSo 98 = .ok (.ifCond .ne 10, 3) := by decide +kernel
theorem dL_isSo_101 : decode cL_isSo 101 = .ok (.iconst 1, 1) := by decide +kernel
theorem dL_isSo_102 : decode cL_isSo 102 = .ok (.iload 9, 2) := by decide +kernel
theorem dL_isSo_104 : decode cL_isSo 104 = .ok (.ishl, 1) := by decide +kernel
theorem dL_isSo_105 : decode cL_isSo 105 = .ok (.goto 4, 3) := by decide +kernel
theorem dL_isSo_108 : decode cL_isSo 108 = .ok (.iconst 0, 1) := by decide +kernel
theorem dL_isSo_109 : decode cL_isSo 109 = .ok (.ior, 1) := by decide +kernel
theorem dL_isSo_110 : decode cL_isSo 110 = .ok (.istore 7, 2) := by decide +kernel
theorem dL_isSo_112 : decode cL_isSo 112 = .ok (.iload 8, 2) := by decide +kernel
theorem dL_isSo_114 : decode cL_isSo 114 = .ok (.aload_n 2, 1) := by decide +kernel
theorem dL_isSo_115 : decode cL_isSo 115 = .ok (.iload 9, 2) := by decide +kernel
theorem dL_isSo_117 : decode cL_isSo 117 = .ok (.laload, 1) := by decide +kernel
theorem dL_isSo_118 : decode cL_isSo 118 = .ok (.iconst 4, 1) := by decide +kernel
theorem dL_isSo_119 : decode cL_isSo 119 = .ok (.invokestatic 13, 3) := by decide +kernel
theorem dL_isSo_122 : decode cL_isSo 122 = .ok (.bipush 24, 2) := by decide +kernel
theorem dL_isSo_124 : decode cL_isSo 124 = .ok (.if_icmp .ge 7, 3) := by decide +kernel
theorem dL_isSo_127 : decode cL_isSo 127 = .ok (.iconst 1, 1) := by decide +kernel
theorem dL_isSo_128 : decode cL_isSo 128 = .ok (.goto 4, 3) := by decide +kernel
theorem dL_isSo_131 : decode cL_isSo 131 = .ok (.iconst 0, 1) := by decide +kernel
theorem dL_isSo_132 : decode cL_isSo 132 = .ok (.iadd, 1) := by decide +kernel
theorem dL_isSo_133 : decode cL_isSo 133 = .ok (.istore 8, 2) := by decide +kernel
theorem dL_isSo_135 : decode cL_isSo 135 = .ok (.iinc 9 1, 3) := by decide +kernel
theorem dL_isSo_138 : decode cL_isSo 138 = .ok (.goto (-123), 3) := by decide +kernel
theorem dL_isSo_141 : decode cL_isSo 141 = .ok (.iconst 0, 1) := by decide +kernel
theorem dL_isSo_142 : decode cL_isSo 142 = .ok (.istore 9, 2) := by decide +kernel
theorem dL_isSo_144 : decode cL_isSo 144 = .ok (.iload 9, 2) := by decide +kernel
theorem dL_isSo_146 : decode cL_isSo 146 = .ok (.bipush 30, 2) := by decide +kernel
theorem dL_isSo_148 : decode cL_isSo 148 = .ok (.if_icmp .ge 46, 3) := by decide +kernel
theorem dL_isSo_151 : decode cL_isSo 151 = .ok (.aload_n 0, 1) := by decide +kernel
theorem dL_isSo_152 : decode cL_isSo 152 = .ok (.iload 9, 2) := by decide +kernel
theorem dL_isSo_154 : decode cL_isSo 154 = .ok (.bipush 6, 2) := by decide +kernel
theorem dL_isSo_156 : decode cL_isSo 156 = .ok (.idiv, 1) := by decide +kernel
theorem dL_isSo_157 : decode cL_isSo 157 = .ok (.iload 9, 2) := by decide +kernel
theorem dL_isSo_159 : decode cL_isSo 159 = .ok (.bipush 6, 2) := by decide +kernel
theorem dL_isSo_161 : decode cL_isSo 161 = .ok (.irem, 1) := by decide +kernel
theorem dL_isSo_162 : decode cL_isSo 162 = .ok (.invokevirtual 106, 3) := by decide +kernel
theorem dL_isSo_165 : decode cL_isSo 165 = .ok (.aload_n 3, 1) := by decide +kernel
theorem dL_isSo_166 : decode cL_isSo 166 = .ok (.iload 9, 2) := by decide +kernel
theorem dL_isSo_168 : decode cL_isSo 168 = .ok (.iaload, 1) := by decide +kernel
theorem dL_isSo_169 : decode cL_isSo 169 = .ok (.ifCond .ne 8, 3) := by decide +kernel
theorem dL_isSo_172 : decode cL_isSo 172 = .ok (.bipush (-6), 2) := by decide +kernel
theorem dL_isSo_174 : decode cL_isSo 174 = .ok (.goto 9, 3) := by decide +kernel
theorem dL_isSo_177 : decode cL_isSo 177 = .ok (.aload_n 3, 1) := by decide +kernel
theorem dL_isSo_178 : decode cL_isSo 178 = .ok (.iload 9, 2) := by decide +kernel
theorem dL_isSo_180 : decode cL_isSo 180 = .ok (.iaload, 1) := by decide +kernel
theorem dL_isSo_181 : decode cL_isSo 181 = .ok (.iconst 1, 1) := by decide +kernel
theorem dL_isSo_182 : decode cL_isSo 182 = .ok (.isub, 1) := by decide +kernel
theorem dL_isSo_183 : decode cL_isSo 183 = .ok (.if_icmp .eq 5, 3) := by decide +kernel
theorem dL_isSo_186 : decode cL_isSo 186 = .ok (.iconst 0, 1) := by decide +kernel
theorem dL_isSo_187 : decode cL_isSo 187 = .ok (.ireturn, 1) := by decide +kernel
theorem dL_isSo_188 : decode cL_isSo 188 = .ok (.iinc 9 1, 3) := by decide +kernel
theorem dL_isSo_191 : decode cL_isSo 191 = .ok (.goto (-47), 3) := by decide +kernel
theorem dL_isSo_194 : decode cL_isSo 194 = .ok (.iconst 0, 1) := by decide +kernel
theorem dL_isSo_195 : decode cL_isSo 195 = .ok (.istore 9, 2) := by decide +kernel
theorem dL_isSo_197 : decode cL_isSo 197 = .ok (.iload 9, 2) := by decide +kernel
theorem dL_isSo_199 : decode cL_isSo 199 = .ok (.iconst 4, 1) := by decide +kernel
theorem dL_isSo_200 : decode cL_isSo 200 = .ok (.if_icmp .ge 48, 3) := by decide +kernel
theorem dL_isSo_203 : decode cL_isSo 203 = .ok (.aload_n 0, 1) := by decide +kernel
theorem dL_isSo_204 : decode cL_isSo 204 = .ok (.bipush 11, 2) := by decide +kernel
theorem dL_isSo_206 : decode cL_isSo 206 = .ok (.iload 9, 2) := by decide +kernel
theorem dL_isSo_208 : decode cL_isSo 208 = .ok (.iadd, 1) := by decide +kernel
theorem dL_isSo_209 : decode cL_isSo 209 = .ok (.invokevirtual 109, 3) := by decide +kernel
theorem dL_isSo_212 : decode cL_isSo 212 = .ok (.aload_n 1, 1) := by decide +kernel
theorem dL_isSo_213 : decode cL_isSo 213 = .ok (.bipush 11, 2) := by decide +kernel
theorem dL_isSo_215 : decode cL_isSo 215 = .ok (.iload 9, 2) := by decide +kernel
theorem dL_isSo_217 : decode cL_isSo 217 = .ok (.iadd, 1) := by decide +kernel
theorem dL_isSo_218 : decode cL_isSo 218 = .ok (.iaload, 1) := by decide +kernel
theorem dL_isSo_219 : decode cL_isSo 219 = .ok (.if_icmp .ne 21, 3) := by decide +kernel
theorem dL_isSo_222 : decode cL_isSo 222 = .ok (.aload_n 0, 1) := by decide +kernel
theorem dL_isSo_223 : decode cL_isSo 223 = .ok (.bipush 15, 2) := by decide +kernel
theorem dL_isSo_225 : decode cL_isSo 225 = .ok (.iload 9, 2) := by decide +kernel
theorem dL_isSo_227 : decode cL_isSo 227 = .ok (.iadd, 1) := by decide +kernel
theorem dL_isSo_228 : decode cL_isSo 228 = .ok (.invokevirtual 109, 3) := by decide +kernel
theorem dL_isSo_231 : decode cL_isSo 231 = .ok (.aload_n 1, 1) := by decide +kernel
theorem dL_isSo_232 : decode cL_isSo 232 = .ok (.iconst 2, 1) := by decide +kernel
theorem dL_isSo_233 : decode cL_isSo 233 = .ok (.iload 9, 2) := by decide +kernel
theorem dL_isSo_235 : decode cL_isSo 235 = .ok (.iadd, 1) := by decide +kernel
theorem dL_isSo_236 : decode cL_isSo 236 = .ok (.iaload, 1) := by decide +kernel
theorem dL_isSo_237 : decode cL_isSo 237 = .ok (.if_icmp .eq 5, 3) := by decide +kernel
theorem dL_isSo_240 : decode cL_isSo 240 = .ok (.iconst 0, 1) := by decide +kernel
theorem dL_isSo_241 : decode cL_isSo 241 = .ok (.ireturn, 1) := by decide +kernel
theorem dL_isSo_242 : decode cL_isSo 242 = .ok (.iinc 9 1, 3) := by decide +kernel
theorem dL_isSo_245 : decode cL_isSo 245 = .ok (.goto (-48), 3) := by decide +kernel
theorem dL_isSo_248 : decode cL_isSo 248 = .ok (.aload_n 0, 1) := by decide +kernel
theorem dL_isSo_249 : decode cL_isSo 249 = .ok (.aload_n 1, 1) := by decide +kernel
theorem dL_isSo_250 : decode cL_isSo 250 = .ok (.aload_n 2, 1) := by decide +kernel
theorem dL_isSo_251 : decode cL_isSo 251 = .ok (.aload_n 3, 1) := by decide +kernel
theorem dL_isSo_252 : decode cL_isSo 252 = .ok (.aload 4, 2) := by decide +kernel
theorem dL_isSo_254 : decode cL_isSo 254 = .ok (.invokestatic 112, 3) := by decide +kernel
theorem dL_isSo_257 : decode cL_isSo 257 = .ok (.ifCond .eq 139, 3) := by decide +kernel
theorem dL_isSo_260 : decode cL_isSo 260 = .ok (.aload_n 0, 1) := by decide +kernel
theorem dL_isSo_261 : decode cL_isSo 261 = .ok (.iconst 0, 1) := by decide +kernel
theorem dL_isSo_262 : decode cL_isSo 262 = .ok (.invokevirtual 109, 3) := by decide +kernel
theorem dL_isSo_265 : decode cL_isSo 265 = .ok (.aload_n 1, 1) := by decide +kernel
theorem dL_isSo_266 : decode cL_isSo 266 = .ok (.iconst 0, 1) := by decide +kernel
theorem dL_isSo_267 : decode cL_isSo 267 = .ok (.iaload, 1) := by decide +kernel
theorem dL_isSo_268 : decode cL_isSo 268 = .ok (.if_icmp .ne 128, 3) := by decide +kernel
theorem dL_isSo_271 : decode cL_isSo 271 = .ok (.aload_n 0, 1) := by decide +kernel
theorem dL_isSo_272 : decode cL_isSo 272 = .ok (.iconst 1, 1) := by decide +kernel
theorem dL_isSo_273 : decode cL_isSo 273 = .ok (.invokevirtual 109, 3) := by decide +kernel
theorem dL_isSo_276 : decode cL_isSo 276 = .ok (.aload_n 1, 1) := by decide +kernel
theorem dL_isSo_277 : decode cL_isSo 277 = .ok (.bipush 6, 2) := by decide +kernel
theorem dL_isSo_279 : decode cL_isSo 279 = .ok (.iaload, 1) := by decide +kernel
theorem dL_isSo_280 : decode cL_isSo 280 = .ok (.if_icmp .ne 116, 3) := by decide +kernel
theorem dL_isSo_283 : decode cL_isSo 283 = .ok (.aload_n 0, 1) := by decide +kernel
theorem dL_isSo_284 : decode cL_isSo 284 = .ok (.iconst 2, 1) := by decide +kernel
theorem dL_isSo_285 : decode cL_isSo 285 = .ok (.invokevirtual 109, 3) := by decide +kernel
theorem dL_isSo_288 : decode cL_isSo 288 = .ok (.aload_n 1, 1) := by decide +kernel
theorem dL_isSo_289 : decode cL_isSo 289 = .ok (.bipush 7, 2) := by decide +kernel
theorem dL_isSo_291 : decode cL_isSo 291 = .ok (.iaload, 1) := by decide +kernel
theorem dL_isSo_292 : decode cL_isSo 292 = .ok (.if_icmp .ne 104, 3) := by decide +kernel
theorem dL_isSo_295 : decode cL_isSo 295 = .ok (.aload_n 0, 1) := by decide +kernel
theorem dL_isSo_296 : decode cL_isSo 296 = .ok (.iconst 3, 1) := by decide +kernel
theorem dL_isSo_297 : decode cL_isSo 297 = .ok (.invokevirtual 109, 3) := by decide +kernel
theorem dL_isSo_300 : decode cL_isSo 300 = .ok (.iload 5, 2) := by decide +kernel
theorem dL_isSo_302 : decode cL_isSo 302 = .ok (.if_icmp .ne 94, 3) := by decide +kernel
theorem dL_isSo_305 : decode cL_isSo 305 = .ok (.aload_n 0, 1) := by decide +kernel
theorem dL_isSo_306 : decode cL_isSo 306 = .ok (.iconst 4, 1) := by decide +kernel
theorem dL_isSo_307 : decode cL_isSo 307 = .ok (.invokevirtual 109, 3) := by decide +kernel
theorem dL_isSo_310 : decode cL_isSo 310 = .ok (.iload 6, 2) := by decide +kernel
theorem dL_isSo_312 : decode cL_isSo 312 = .ok (.if_icmp .ne 84, 3) := by decide +kernel
theorem dL_isSo_315 : decode cL_isSo 315 = .ok (.aload_n 0, 1) := by decide +kernel
theorem dL_isSo_316 : decode cL_isSo 316 = .ok (.iconst 5, 1) := by decide +kernel
theorem dL_isSo_317 : decode cL_isSo 317 = .ok (.invokevirtual 109, 3) := by decide +kernel
theorem dL_isSo_320 : decode cL_isSo 320 = .ok (.aload_n 1, 1) := by decide +kernel
theorem dL_isSo_321 : decode cL_isSo 321 = .ok (.aload_n 2, 1) := by decide +kernel
theorem dL_isSo_322 : decode cL_isSo 322 = .ok (.invokestatic 19, 3) := by decide +kernel
theorem dL_isSo_325 : decode cL_isSo 325 = .ok (.if_icmp .ne 71, 3) := by decide +kernel
theorem dL_isSo_328 : decode cL_isSo 328 = .ok (.aload_n 0, 1) := by decide +kernel
theorem dL_isSo_329 : decode cL_isSo 329 = .ok (.bipush 6, 2) := by decide +kernel
theorem dL_isSo_331 : decode cL_isSo 331 = .ok (.invokevirtual 109, 3) := by decide +kernel
theorem dL_isSo_334 : decode cL_isSo 334 = .ok (.bipush 24, 2) := by decide +kernel
theorem dL_isSo_336 : decode cL_isSo 336 = .ok (.iload 8, 2) := by decide +kernel
theorem dL_isSo_338 : decode cL_isSo 338 = .ok (.isub, 1) := by decide +kernel
theorem dL_isSo_339 : decode cL_isSo 339 = .ok (.if_icmp .ne 57, 3) := by decide +kernel
theorem dL_isSo_342 : decode cL_isSo 342 = .ok (.aload_n 0, 1) := by decide +kernel
theorem dL_isSo_343 : decode cL_isSo 343 = .ok (.bipush 7, 2) := by decide +kernel
theorem dL_isSo_345 : decode cL_isSo 345 = .ok (.invokevirtual 109, 3) := by decide +kernel
theorem dL_isSo_348 : decode cL_isSo 348 = .ok (.iload 7, 2) := by decide +kernel
theorem dL_isSo_350 : decode cL_isSo 350 = .ok (.if_icmp .ne 46, 3) := by decide +kernel
theorem dL_isSo_353 : decode cL_isSo 353 = .ok (.aload_n 0, 1) := by decide +kernel
theorem dL_isSo_354 : decode cL_isSo 354 = .ok (.bipush 8, 2) := by decide +kernel
theorem dL_isSo_356 : decode cL_isSo 356 = .ok (.invokevirtual 109, 3) := by decide +kernel
theorem dL_isSo_359 : decode cL_isSo 359 = .ok (.aload_n 1, 1) := by decide +kernel
theorem dL_isSo_360 : decode cL_isSo 360 = .ok (.bipush 8, 2) := by decide +kernel
theorem dL_isSo_362 : decode cL_isSo 362 = .ok (.iaload, 1) := by decide +kernel
theorem dL_isSo_363 : decode cL_isSo 363 = .ok (.if_icmp .ne 33, 3) := by decide +kernel
theorem dL_isSo_366 : decode cL_isSo 366 = .ok (.aload_n 0, 1) := by decide +kernel
theorem dL_isSo_367 : decode cL_isSo 367 = .ok (.bipush 9, 2) := by decide +kernel
theorem dL_isSo_369 : decode cL_isSo 369 = .ok (.invokevirtual 109, 3) := by decide +kernel
theorem dL_isSo_372 : decode cL_isSo 372 = .ok (.aload_n 1, 1) := by decide +kernel
theorem dL_isSo_373 : decode cL_isSo 373 = .ok (.bipush 9, 2) := by decide +kernel
theorem dL_isSo_375 : decode cL_isSo 375 = .ok (.iaload, 1) := by decide +kernel
theorem dL_isSo_376 : decode cL_isSo 376 = .ok (.if_icmp .ne 20, 3) := by decide +kernel
theorem dL_isSo_379 : decode cL_isSo 379 = .ok (.aload_n 0, 1) := by decide +kernel
theorem dL_isSo_380 : decode cL_isSo 380 = .ok (.bipush 10, 2) := by decide +kernel
theorem dL_isSo_382 : decode cL_isSo 382 = .ok (.invokevirtual 109, 3) := by decide +kernel
theorem dL_isSo_385 : decode cL_isSo 385 = .ok (.aload_n 1, 1) := by decide +kernel
theorem dL_isSo_386 : decode cL_isSo 386 = .ok (.bipush 10, 2) := by decide +kernel
theorem dL_isSo_388 : decode cL_isSo 388 = .ok (.iaload, 1) := by decide +kernel
theorem dL_isSo_389 : decode cL_isSo 389 = .ok (.if_icmp .ne 7, 3) := by decide +kernel
theorem dL_isSo_392 : decode cL_isSo 392 = .ok (.iconst 1, 1) := by decide +kernel
theorem dL_isSo_393 : decode cL_isSo 393 = .ok (.goto 4, 3) := by decide +kernel
theorem dL_isSo_396 : decode cL_isSo 396 = .ok (.iconst 0, 1) := by decide +kernel
theorem dL_isSo_397 : decode cL_isSo 397 = .ok (.ireturn, 1) := by decide +kernel
set_option maxRecDepth 20000 in
theorem ggL_areFirings_L_part : GoodIn wsL_areFirings wsL_part := goodIn_r _ [5, 6] (by decide +kernel) (by decide +kernel)
set_option maxRecDepth 20000 in
theorem gL_areFirings_L_part : GoodIn wsL_areFirings (va_wsS RL 13 yL_part wsL_part) := goodIn_app (goodIn_of _ (by decide +kernel)) ggL_areFirings_L_part
set_option maxRecDepth 20000 in
theorem ggL_areFirings_L_then : GoodIn wsL_areFirings wsL_then := goodIn_r _ [9, 2, 3, 4, 5, 6] (by decide +kernel) (by decide +kernel)
set_option maxRecDepth 20000 in
theorem gL_areFirings_L_then : GoodIn wsL_areFirings (va_wsS RL 77 yL_then wsL_then) := goodIn_app (goodIn_of _ (by decide +kernel)) ggL_areFirings_L_then
set_option maxRecDepth 20000 in
theorem ggL_areFirings_X6_ifFired : GoodIn wsL_areFirings wsX6_ifFired := goodIn_r _ [14, 15, 16, 17, 18, 19, 20, 21, 13, 22, 23, 24, 25, 26, 27, 28, 29, 30, 31, 32, 33, 34, 35, 36, 37, 38, 39, 40, 41, 42, 43, 44, 45, 46, 47, 48, 49, 50, 51, 52, 53, 54, 55, 56, 57, 58, 59, 84, 85, 86, 87, 88, 89, 90, 91, 92, 93, 94, 95, 96, 97, 98, 99, 100, 101, 102, 103, 104, 105] (by decide +kernel) (by decide +kernel)
set_option maxRecDepth 20000 in
theorem gL_areFirings_X6_ifFired : GoodIn wsL_areFirings (wsV RL 116 RX6 yX6_ifFired wsX6_ifFired) := goodIn_app (goodIn_of _ (by decide +kernel)) ggL_areFirings_X6_ifFired
set_option maxRecDepth 20000 in
theorem ggL_areFirings_L_inKiln : GoodIn wsL_areFirings wsL_inKiln := goodIn_r _ [62, 2, 3, 4, 5, 6] (by decide +kernel) (by decide +kernel)
set_option maxRecDepth 20000 in
theorem gL_areFirings_L_inKiln : GoodIn wsL_areFirings (va_wsS RL 19 yL_inKiln wsL_inKiln) := goodIn_app (goodIn_of _ (by decide +kernel)) ggL_areFirings_L_inKiln
set_option maxRecDepth 20000 in
theorem ggL_areFirings_X6_bestHeat : GoodIn wsL_areFirings wsX6_bestHeat := goodIn_r _ [66, 15, 67, 68, 69, 19, 70, 30, 71, 72, 73, 35, 74, 37, 75, 76, 77, 78, 41, 79, 43, 80, 81, 82, 83, 31, 32, 33, 34, 36, 38, 39, 40, 42, 44, 45, 46, 47, 48, 49, 50, 51, 52, 53, 54, 55, 56, 57, 58, 59, 84, 85, 86, 87, 88, 89, 90, 91, 92, 93, 94, 95, 96, 97, 98, 99, 100, 101, 102, 103, 104, 105] (by decide +kernel) (by decide +kernel)
set_option maxRecDepth 20000 in
theorem gL_areFirings_X6_bestHeat : GoodIn wsL_areFirings (wsV RL 119 RX6 yX6_bestHeat wsX6_bestHeat) := goodIn_app (goodIn_of _ (by decide +kernel)) ggL_areFirings_X6_bestHeat
theorem dL_areFirings_0 : decode cL_areFirings 0 = .ok (.bipush (-6), 2) := by decide +kernel
theorem dL_areFirings_2 : decode cL_areFirings 2 = .ok (.istore_n 3, 1) := by decide +kernel
theorem dL_areFirings_3 : decode cL_areFirings 3 = .ok (.iconst 0, 1) := by decide +kernel
theorem dL_areFirings_4 : decode cL_areFirings 4 = .ok (.istore 4, 2) := by decide +kernel
theorem dL_areFirings_6 : decode cL_areFirings 6 = .ok (.iconst 0, 1) := by decide +kernel
theorem dL_areFirings_7 : decode cL_areFirings 7 = .ok (.istore 5, 2) := by decide +kernel
theorem dL_areFirings_9 : decode cL_areFirings 9 = .ok (.bipush 80, 2) := by decide +kernel
theorem dL_areFirings_11 : decode cL_areFirings 11 = .ok (.istore 6, 2) := by decide +kernel
theorem dL_areFirings_13 : decode cL_areFirings 13 = .ok (.iload 6, 2) := by decide +kernel
theorem dL_areFirings_15 : decode cL_areFirings 15 = .ok (.sipush 141, 3) := by decide +kernel
theorem dL_areFirings_18 : decode cL_areFirings 18 = .ok (.if_icmp .ge 230, 3) := by decide +kernel
theorem dL_areFirings_21 : decode cL_areFirings 21 = .ok (.iconst 4, 1) := by decide +kernel
theorem dL_areFirings_22 : decode cL_areFirings 22 = .ok (.newarray .int, 2) := by decide +kernel
theorem dL_areFirings_24 : decode cL_areFirings 24 = .ok (.astore 7, 2) := by decide +kernel
theorem dL_areFirings_26 : decode cL_areFirings 26 = .ok (.iconst 0, 1) := by decide +kernel
theorem dL_areFirings_27 : decode cL_areFirings 27 = .ok (.istore 8, 2) := by decide +kernel
theorem dL_areFirings_29 : decode cL_areFirings 29 = .ok (.iconst 0, 1) := by decide +kernel
theorem dL_areFirings_30 : decode cL_areFirings 30 = .ok (.istore 9, 2) := by decide +kernel
theorem dL_areFirings_32 : decode cL_areFirings 32 = .ok (.iconst 0, 1) := by decide +kernel
theorem dL_areFirings_33 : decode cL_areFirings 33 = .ok (.istore 10, 2) := by decide +kernel
theorem dL_areFirings_35 : decode cL_areFirings 35 = .ok (.iload 10, 2) := by decide +kernel
theorem dL_areFirings_37 : decode cL_areFirings 37 = .ok (.aload_n 1, 1) := by decide +kernel
theorem dL_areFirings_38 : decode cL_areFirings 38 = .ok (.bipush 7, 2) := by decide +kernel
theorem dL_areFirings_40 : decode cL_areFirings 40 = .ok (.iaload, 1) := by decide +kernel
theorem dL_areFirings_41 : decode cL_areFirings 41 = .ok (.if_icmp .ge 124, 3) := by decide +kernel
theorem dL_areFirings_44 : decode cL_areFirings 44 = .ok (.aload_n 2, 1) := by decide +kernel
theorem dL_areFirings_45 : decode cL_areFirings 45 = .ok (.iload 10, 2) := by decide +kernel
theorem dL_areFirings_47 : decode cL_areFirings 47 = .ok (.laload, 1) := by decide +kernel
theorem dL_areFirings_48 : decode cL_areFirings 48 = .ok (.iconst 4, 1) := by decide +kernel
theorem dL_areFirings_49 : decode cL_areFirings 49 = .ok (.invokestatic 13, 3) := by decide +kernel
theorem dL_areFirings_52 : decode cL_areFirings 52 = .ok (.bipush 24, 2) := by decide +kernel
theorem dL_areFirings_54 : decode cL_areFirings 54 = .ok (.if_icmp .eq 6, 3) := by decide +kernel
theorem dL_areFirings_57 : decode cL_areFirings 57 = .ok (.goto 102, 3) := by decide +kernel
theorem dL_areFirings_60 : decode cL_areFirings 60 = .ok (.aload_n 2, 1) := by decide +kernel
theorem dL_areFirings_61 : decode cL_areFirings 61 = .ok (.iload 10, 2) := by decide +kernel
theorem dL_areFirings_63 : decode cL_areFirings 63 = .ok (.laload, 1) := by decide +kernel
theorem dL_areFirings_64 : decode cL_areFirings 64 = .ok (.iload 6, 2) := by decide +kernel
theorem dL_areFirings_66 : decode cL_areFirings 66 = .ok (.aload_n 1, 1) := by decide +kernel
theorem dL_areFirings_67 : decode cL_areFirings 67 = .ok (.invokestatic 77, 3) := by decide +kernel
theorem dL_areFirings_70 : decode cL_areFirings 70 = .ok (.istore 11, 2) := by decide +kernel
theorem dL_areFirings_72 : decode cL_areFirings 72 = .ok (.aload_n 2, 1) := by decide +kernel
theorem dL_areFirings_73 : decode cL_areFirings 73 = .ok (.iload 10, 2) := by decide +kernel
theorem dL_areFirings_75 : decode cL_areFirings 75 = .ok (.laload, 1) := by decide +kernel
theorem dL_areFirings_76 : decode cL_areFirings 76 = .ok (.iconst 3, 1) := by decide +kernel
theorem dL_areFirings_77 : decode cL_areFirings 77 = .ok (.invokestatic 13, 3) := by decide +kernel
theorem dL_areFirings_80 : decode cL_areFirings 80 = .ok (.istore 12, 2) := by decide +kernel
theorem dL_areFirings_82 : decode cL_areFirings 82 = .ok (.aload 7, 2) := by decide +kernel
theorem dL_areFirings_84 : decode cL_areFirings 84 = .ok (.iload 11, 2) := by decide +kernel
theorem dL_areFirings_86 : decode cL_areFirings 86 = .ok (.iconst 4, 1) := by decide +kernel
theorem dL_areFirings_87 : decode cL_areFirings 87 = .ok (.if_icmp .ne 7, 3) := by decide +kernel
theorem dL_areFirings_90 : decode cL_areFirings 90 = .ok (.iconst 0, 1) := by decide +kernel
theorem dL_areFirings_91 : decode cL_areFirings 91 = .ok (.goto 25, 3) := by decide +kernel
theorem dL_areFirings_94 : decode cL_areFirings 94 = .ok (.iload 11, 2) := by decide +kernel
theorem dL_areFirings_96 : decode cL_areFirings 96 = .ok (.iload 12, 2) := by decide +kernel
theorem dL_areFirings_98 : decode cL_areFirings 98 = .ok (.if_icmp .ne 7, 3) := by decide +kernel
theorem dL_areFirings_101 : decode cL_areFirings 101 = .ok (.iconst 3, 1) := by decide +kernel
theorem dL_areFirings_102 : decode cL_areFirings 102 = .ok (.goto 14, 3) := by decide +kernel
theorem dL_areFirings_105 : decode cL_areFirings 105 = .ok (.iload 11, 2) := by decide +kernel
theorem dL_areFirings_107 : decode cL_areFirings 107 = .ok (.iconst 3, 1) := by decide +kernel
theorem dL_areFirings_108 : decode cL_areFirings 108 = .ok (.if_icmp .ne 7, 3) := by decide +kernel
theorem dL_areFirings_111 : decode cL_areFirings 111 = .ok (.iconst 2, 1) := by decide +kernel
theorem dL_areFirings_112 : decode cL_areFirings 112 = .ok (.goto 4, 3) := by decide +kernel
theorem dL_areFirings_115 : decode cL_areFirings 115 = .ok (.iconst 1, 1) := by decide +kernel
theorem dL_areFirings_116 : decode cL_areFirings 116 = .ok (.dup2, 1) := by decide +kernel
theorem dL_areFirings_117 : decode cL_areFirings 117 = .ok (.iaload, 1) := by decide +kernel
theorem dL_areFirings_118 : decode cL_areFirings 118 = .ok (.iconst 1, 1) := by decide +kernel
theorem dL_areFirings_119 : decode cL_areFirings 119 = .ok (.iload 10, 2) := by decide +kernel
theorem dL_areFirings_121 : decode cL_areFirings 121 = .ok (.ishl, 1) := by decide +kernel
theorem dL_areFirings_122 : decode cL_areFirings 122 = .ok (.ior, 1) := by decide +kernel
theorem dL_areFirings_123 : decode cL_areFirings 123 = .ok (.iastore, 1) := by decide +kernel
theorem dL_areFirings_124 : decode cL_areFirings 124 = .ok (.iload 8, 2) := by decide +kernel
theorem dL_areFirings_126 : decode cL_areFirings 126 = .ok (.iload 11, 2) := by decide +kernel
theorem dL_areFirings_128 : decode cL_areFirings 128 = .ok (.iload 12, 2) := by decide +kernel
theorem dL_areFirings_130 : decode cL_areFirings 130 = .ok (.iconst 1, 1) := by decide +kernel
theorem dL_areFirings_131 : decode cL_areFirings 131 = .ok (.iadd, 1) := by decide +kernel
theorem dL_areFirings_132 : decode cL_areFirings 132 = .ok (.if_icmp .ne 7, 3) := by decide +kernel
theorem dL_areFirings_135 : decode cL_areFirings 135 = .ok (.iconst 1, 1) := by decide +kernel
theorem dL_areFirings_136 : decode cL_areFirings 136 = .ok (.goto 4, 3) := by decide +kernel
theorem dL_areFirings_139 : decode cL_areFirings 139 = .ok (.iconst 0, 1) := by decide +kernel
theorem dL_areFirings_140 : decode cL_areFirings 140 = .ok (.iadd, 1) := by decide +kernel
theorem dL_areFirings_141 : decode cL_areFirings 141 = .ok (.istore 8, 2) := by decide +kernel
theorem dL_areFirings_143 : decode cL_areFirings 143 = .ok (.iload 9, 2) := by decide +kernel
theorem dL_areFirings_145 : decode cL_areFirings 145 = .ok (.iload 11, 2) := by decide +kernel
theorem dL_areFirings_147 : decode cL_areFirings 147 = .ok (.iconst 4, 1) := by decide +kernel
theorem dL_areFirings_148 : decode cL_areFirings 148 = .ok (.if_icmp .ne 7, 3) := by decide +kernel
theorem dL_areFirings_151 : decode cL_areFirings 151 = .ok (.iconst 1, 1) := by decide +kernel
theorem dL_areFirings_152 : decode cL_areFirings 152 = .ok (.goto 4, 3) := by decide +kernel
theorem dL_areFirings_155 : decode cL_areFirings 155 = .ok (.iconst 0, 1) := by decide +kernel
theorem dL_areFirings_156 : decode cL_areFirings 156 = .ok (.iadd, 1) := by decide +kernel
theorem dL_areFirings_157 : decode cL_areFirings 157 = .ok (.istore 9, 2) := by decide +kernel
theorem dL_areFirings_159 : decode cL_areFirings 159 = .ok (.iinc 10 1, 3) := by decide +kernel
theorem dL_areFirings_162 : decode cL_areFirings 162 = .ok (.goto (-127), 3) := by decide +kernel
theorem dL_areFirings_165 : decode cL_areFirings 165 = .ok (.iconst 0, 1) := by decide +kernel
theorem dL_areFirings_166 : decode cL_areFirings 166 = .ok (.istore 10, 2) := by decide +kernel
theorem dL_areFirings_168 : decode cL_areFirings 168 = .ok (.iload 10, 2) := by decide +kernel
theorem dL_areFirings_170 : decode cL_areFirings 170 = .ok (.iconst 4, 1) := by decide +kernel
theorem dL_areFirings_171 : decode cL_areFirings 171 = .ok (.if_icmp .ge 27, 3) := by decide +kernel
theorem dL_areFirings_174 : decode cL_areFirings 174 = .ok (.aload_n 0, 1) := by decide +kernel
theorem dL_areFirings_175 : decode cL_areFirings 175 = .ok (.iload 6, 2) := by decide +kernel
theorem dL_areFirings_177 : decode cL_areFirings 177 = .ok (.iload 10, 2) := by decide +kernel
theorem dL_areFirings_179 : decode cL_areFirings 179 = .ok (.invokevirtual 116, 3) := by decide +kernel
theorem dL_areFirings_182 : decode cL_areFirings 182 = .ok (.aload 7, 2) := by decide +kernel
theorem dL_areFirings_184 : decode cL_areFirings 184 = .ok (.iload 10, 2) := by decide +kernel
theorem dL_areFirings_186 : decode cL_areFirings 186 = .ok (.iaload, 1) := by decide +kernel
theorem dL_areFirings_187 : decode cL_areFirings 187 = .ok (.if_icmp .eq 5, 3) := by decide +kernel
theorem dL_areFirings_190 : decode cL_areFirings 190 = .ok (.iconst 0, 1) := by decide +kernel
theorem dL_areFirings_191 : decode cL_areFirings 191 = .ok (.ireturn, 1) := by decide +kernel
theorem dL_areFirings_192 : decode cL_areFirings 192 = .ok (.iinc 10 1, 3) := by decide +kernel
theorem dL_areFirings_195 : decode cL_areFirings 195 = .ok (.goto (-27), 3) := by decide +kernel
theorem dL_areFirings_198 : decode cL_areFirings 198 = .ok (.aload_n 1, 1) := by decide +kernel
theorem dL_areFirings_199 : decode cL_areFirings 199 = .ok (.aload_n 2, 1) := by decide +kernel
theorem dL_areFirings_200 : decode cL_areFirings 200 = .ok (.invokestatic 19, 3) := by decide +kernel
theorem dL_areFirings_203 : decode cL_areFirings 203 = .ok (.ifCond .le 39, 3) := by decide +kernel
theorem dL_areFirings_206 : decode cL_areFirings 206 = .ok (.iload_n 3, 1) := by decide +kernel
theorem dL_areFirings_207 : decode cL_areFirings 207 = .ok (.ifCond .lt 24, 3) := by decide +kernel
theorem dL_areFirings_210 : decode cL_areFirings 210 = .ok (.iload 8, 2) := by decide +kernel
theorem dL_areFirings_212 : decode cL_areFirings 212 = .ok (.iload 4, 2) := by decide +kernel
theorem dL_areFirings_214 : decode cL_areFirings 214 = .ok (.if_icmp .gt 17, 3) := by decide +kernel
theorem dL_areFirings_217 : decode cL_areFirings 217 = .ok (.iload 8, 2) := by decide +kernel
theorem dL_areFirings_219 : decode cL_areFirings 219 = .ok (.iload 4, 2) := by decide +kernel
theorem dL_areFirings_221 : decode cL_areFirings 221 = .ok (.if_icmp .ne 21, 3) := by decide +kernel
theorem dL_areFirings_224 : decode cL_areFirings 224 = .ok (.iload 9, 2) := by decide +kernel
theorem dL_areFirings_226 : decode cL_areFirings 226 = .ok (.iload 5, 2) := by decide +kernel
theorem dL_areFirings_228 : decode cL_areFirings 228 = .ok (.if_icmp .ge 14, 3) := by decide +kernel
theorem dL_areFirings_231 : decode cL_areFirings 231 = .ok (.iload 6, 2) := by decide +kernel
theorem dL_areFirings_233 : decode cL_areFirings 233 = .ok (.istore_n 3, 1) := by decide +kernel
theorem dL_areFirings_234 : decode cL_areFirings 234 = .ok (.iload 8, 2) := by decide +kernel
theorem dL_areFirings_236 : decode cL_areFirings 236 = .ok (.istore 4, 2) := by decide +kernel
theorem dL_areFirings_238 : decode cL_areFirings 238 = .ok (.iload 9, 2) := by decide +kernel
theorem dL_areFirings_240 : decode cL_areFirings 240 = .ok (.istore 5, 2) := by decide +kernel
theorem dL_areFirings_242 : decode cL_areFirings 242 = .ok (.iinc 6 1, 3) := by decide +kernel
theorem dL_areFirings_245 : decode cL_areFirings 245 = .ok (.goto (-232), 3) := by decide +kernel
theorem dL_areFirings_248 : decode cL_areFirings 248 = .ok (.aload_n 0, 1) := by decide +kernel
theorem dL_areFirings_249 : decode cL_areFirings 249 = .ok (.invokevirtual 119, 3) := by decide +kernel
theorem dL_areFirings_252 : decode cL_areFirings 252 = .ok (.iload_n 3, 1) := by decide +kernel
theorem dL_areFirings_253 : decode cL_areFirings 253 = .ok (.if_icmp .ne 7, 3) := by decide +kernel
theorem dL_areFirings_256 : decode cL_areFirings 256 = .ok (.iconst 1, 1) := by decide +kernel
theorem dL_areFirings_257 : decode cL_areFirings 257 = .ok (.goto 4, 3) := by decide +kernel
theorem dL_areFirings_260 : decode cL_areFirings 260 = .ok (.iconst 0, 1) := by decide +kernel
theorem dL_areFirings_261 : decode cL_areFirings 261 = .ok (.ireturn, 1) := by decide +kernel
