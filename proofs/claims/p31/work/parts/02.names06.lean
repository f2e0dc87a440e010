theorem dL_arePupils_224 : decode cL_arePupils 224 = .ok (.iconst 0, 1) := by decide +kernel
theorem dL_arePupils_225 : decode cL_arePupils 225 = .ok (.iaload, 1) := by decide +kernel
theorem dL_arePupils_226 : decode cL_arePupils 226 = .ok (.iload 12, 2) := by decide +kernel
theorem dL_arePupils_228 : decode cL_arePupils 228 = .ok (.iadd, 1) := by decide +kernel
theorem dL_arePupils_229 : decode cL_arePupils 229 = .ok (.istore 10, 2) := by decide +kernel
theorem dL_arePupils_231 : decode cL_arePupils 231 = .ok (.iload 13, 2) := by decide +kernel
theorem dL_arePupils_233 : decode cL_arePupils 233 = .ok (.istore 11, 2) := by decide +kernel
theorem dL_arePupils_235 : decode cL_arePupils 235 = .ok (.iinc 13 1, 3) := by decide +kernel
theorem dL_arePupils_238 : decode cL_arePupils 238 = .ok (.goto (-60), 3) := by decide +kernel
theorem dL_arePupils_241 : decode cL_arePupils 241 = .ok (.iinc 12 1, 3) := by decide +kernel
theorem dL_arePupils_244 : decode cL_arePupils 244 = .ok (.goto (-81), 3) := by decide +kernel
theorem dL_arePupils_247 : decode cL_arePupils 247 = .ok (.iload 5, 2) := by decide +kernel
theorem dL_arePupils_249 : decode cL_arePupils 249 = .ok (.iconst 0, 1) := by decide +kernel
theorem dL_arePupils_250 : decode cL_arePupils 250 = .ok (.aload_n 3, 1) := by decide +kernel
theorem dL_arePupils_251 : decode cL_arePupils 251 = .ok (.invokestatic 43, 3) := by decide +kernel
theorem dL_arePupils_254 : decode cL_arePupils 254 = .ok (.istore 12, 2) := by decide +kernel
theorem dL_arePupils_256 : decode cL_arePupils 256 = .ok (.aload_n 0, 1) := by decide +kernel
theorem dL_arePupils_257 : decode cL_arePupils 257 = .ok (.iload 5, 2) := by decide +kernel
theorem dL_arePupils_259 : decode cL_arePupils 259 = .ok (.iconst 0, 1) := by decide +kernel
theorem dL_arePupils_260 : decode cL_arePupils 260 = .ok (.invokevirtual 96, 3) := by decide +kernel
theorem dL_arePupils_263 : decode cL_arePupils 263 = .ok (.iload 12, 2) := by decide +kernel
theorem dL_arePupils_265 : decode cL_arePupils 265 = .ok (.ifCond .ge 8, 3) := by decide +kernel
theorem dL_arePupils_268 : decode cL_arePupils 268 = .ok (.bipush (-6), 2) := by decide +kernel
theorem dL_arePupils_270 : decode cL_arePupils 270 = .ok (.goto 5, 3) := by decide +kernel
theorem dL_arePupils_273 : decode cL_arePupils 273 = .ok (.iload 12, 2) := by decide +kernel
theorem dL_arePupils_275 : decode cL_arePupils 275 = .ok (.if_icmp .ne 94, 3) := by decide +kernel
theorem dL_arePupils_278 : decode cL_arePupils 278 = .ok (.aload_n 0, 1) := by decide +kernel
theorem dL_arePupils_279 : decode cL_arePupils 279 = .ok (.iload 5, 2) := by decide +kernel
theorem dL_arePupils_281 : decode cL_arePupils 281 = .ok (.iconst 1, 1) := by decide +kernel
theorem dL_arePupils_282 : decode cL_arePupils 282 = .ok (.invokevirtual 96, 3) := by decide +kernel
theorem dL_arePupils_285 : decode cL_arePupils 285 = .ok (.iload 6, 2) := by decide +kernel
theorem dL_arePupils_287 : decode cL_arePupils 287 = .ok (.if_icmp .ne 82, 3) := by decide +kernel
theorem dL_arePupils_290 : decode cL_arePupils 290 = .ok (.aload_n 0, 1) := by decide +kernel
theorem dL_arePupils_291 : decode cL_arePupils 291 = .ok (.iload 5, 2) := by decide +kernel
theorem dL_arePupils_293 : decode cL_arePupils 293 = .ok (.iconst 2, 1) := by decide +kernel
theorem dL_arePupils_294 : decode cL_arePupils 294 = .ok (.invokevirtual 96, 3) := by decide +kernel
theorem dL_arePupils_297 : decode cL_arePupils 297 = .ok (.iload 7, 2) := by decide +kernel
theorem dL_arePupils_299 : decode cL_arePupils 299 = .ok (.if_icmp .ne 70, 3) := by decide +kernel
theorem dL_arePupils_302 : decode cL_arePupils 302 = .ok (.aload_n 0, 1) := by decide +kernel
theorem dL_arePupils_303 : decode cL_arePupils 303 = .ok (.iload 5, 2) := by decide +kernel
theorem dL_arePupils_305 : decode cL_arePupils 305 = .ok (.iconst 3, 1) := by decide +kernel
theorem dL_arePupils_306 : decode cL_arePupils 306 = .ok (.invokevirtual 96, 3) := by decide +kernel
theorem dL_arePupils_309 : decode cL_arePupils 309 = .ok (.iload 8, 2) := by decide +kernel
theorem dL_arePupils_311 : decode cL_arePupils 311 = .ok (.if_icmp .ne 58, 3) := by decide +kernel
theorem dL_arePupils_314 : decode cL_arePupils 314 = .ok (.aload_n 0, 1) := by decide +kernel
theorem dL_arePupils_315 : decode cL_arePupils 315 = .ok (.iload 5, 2) := by decide +kernel
theorem dL_arePupils_317 : decode cL_arePupils 317 = .ok (.iconst 4, 1) := by decide +kernel
theorem dL_arePupils_318 : decode cL_arePupils 318 = .ok (.invokevirtual 96, 3) := by decide +kernel
theorem dL_arePupils_321 : decode cL_arePupils 321 = .ok (.aload 4, 2) := by decide +kernel
theorem dL_arePupils_323 : decode cL_arePupils 323 = .ok (.iconst 2, 1) := by decide +kernel
theorem dL_arePupils_324 : decode cL_arePupils 324 = .ok (.iload 5, 2) := by decide +kernel
theorem dL_arePupils_326 : decode cL_arePupils 326 = .ok (.imul, 1) := by decide +kernel
theorem dL_arePupils_327 : decode cL_arePupils 327 = .ok (.iconst 1, 1) := by decide +kernel
theorem dL_arePupils_328 : decode cL_arePupils 328 = .ok (.iadd, 1) := by decide +kernel
theorem dL_arePupils_329 : decode cL_arePupils 329 = .ok (.iaload, 1) := by decide +kernel
theorem dL_arePupils_330 : decode cL_arePupils 330 = .ok (.if_icmp .ne 39, 3) := by decide +kernel
theorem dL_arePupils_333 : decode cL_arePupils 333 = .ok (.aload_n 0, 1) := by decide +kernel
theorem dL_arePupils_334 : decode cL_arePupils 334 = .ok (.iload 5, 2) := by decide +kernel
theorem dL_arePupils_336 : decode cL_arePupils 336 = .ok (.iconst 5, 1) := by decide +kernel
theorem dL_arePupils_337 : decode cL_arePupils 337 = .ok (.invokevirtual 96, 3) := by decide +kernel
theorem dL_arePupils_340 : decode cL_arePupils 340 = .ok (.iload 9, 2) := by decide +kernel
theorem dL_arePupils_342 : decode cL_arePupils 342 = .ok (.if_icmp .ne 27, 3) := by decide +kernel
theorem dL_arePupils_345 : decode cL_arePupils 345 = .ok (.aload_n 0, 1) := by decide +kernel
theorem dL_arePupils_346 : decode cL_arePupils 346 = .ok (.iload 5, 2) := by decide +kernel
theorem dL_arePupils_348 : decode cL_arePupils 348 = .ok (.iconst 0, 1) := by decide +kernel
theorem dL_arePupils_349 : decode cL_arePupils 349 = .ok (.invokevirtual 99, 3) := by decide +kernel
theorem dL_arePupils_352 : decode cL_arePupils 352 = .ok (.iload 10, 2) := by decide +kernel
theorem dL_arePupils_354 : decode cL_arePupils 354 = .ok (.if_icmp .ne 15, 3) := by decide +kernel
theorem dL_arePupils_357 : decode cL_arePupils 357 = .ok (.aload_n 0, 1) := by decide +kernel
theorem dL_arePupils_358 : decode cL_arePupils 358 = .ok (.iload 5, 2) := by decide +kernel
theorem dL_arePupils_360 : decode cL_arePupils 360 = .ok (.iconst 1, 1) := by decide +kernel
theorem dL_arePupils_361 : decode cL_arePupils 361 = .ok (.invokevirtual 99, 3) := by decide +kernel
theorem dL_arePupils_364 : decode cL_arePupils 364 = .ok (.iload 11, 2) := by decide +kernel
theorem dL_arePupils_366 : decode cL_arePupils 366 = .ok (.if_icmp .eq 5, 3) := by decide +kernel
theorem dL_arePupils_369 : decode cL_arePupils 369 = .ok (.iconst 0, 1) := by decide +kernel
theorem dL_arePupils_370 : decode cL_arePupils 370 = .ok (.ireturn, 1) := by decide +kernel
theorem dL_arePupils_371 : decode cL_arePupils 371 = .ok (.iinc 5 1, 3) := by decide +kernel
theorem dL_arePupils_374 : decode cL_arePupils 374 = .ok (.goto (-371), 3) := by decide +kernel
theorem dL_arePupils_377 : decode cL_arePupils 377 = .ok (.iconst 1, 1) := by decide +kernel
theorem dL_arePupils_378 : decode cL_arePupils 378 = .ok (.ireturn, 1) := by decide +kernel
set_option maxRecDepth 20000 in
theorem ggL_isSo_L_isPot : GoodIn wsL_isSo wsL_isPot := goodIn_r _ [4, 5, 6, 3, 7, 8, 9, 10, 11, 12, 13, 14, 15, 16, 17, 18, 19, 20, 21, 22, 23, 24, 25, 26, 27, 28, 29, 30, 31, 32, 33, 34, 35, 36, 37, 38, 39, 40, 41, 42, 43, 44, 45, 46, 47, 48, 49, 50, 51, 52, 53, 54, 55, 56, 57, 58, 59, 60, 61, 62, 63, 64, 65, 66, 67, 68, 69, 70, 71, 72, 73, 74, 75, 76, 77, 78, 79, 80, 81, 82, 83, 84, 85, 86, 87, 88, 89, 90, 91, 92, 93, 94, 95, 96, 97, 98, 99, 100, 101, 102, 103, 104, 236, 237, 238, 239, 240, 241, 242, 243, 244, 245, 246, 247, 248, 249, 250, 251, 252, 253, 254, 255, 256, 257] (by decide +kernel) (by decide +kernel)
set_option maxRecDepth 20000 in
theorem gL_isSo_L_isPot : GoodIn wsL_isSo (va_wsS RL 102 yL_isPot wsL_isPot) := goodIn_app (goodIn_of _ (by decide +kernel)) ggL_isSo_L_isPot
set_option maxRecDepth 20000 in
theorem ggL_isSo_L_part : GoodIn wsL_isSo wsL_part := goodIn_r _ [7, 8] (by decide +kernel) (by decide +kernel)
set_option maxRecDepth 20000 in
theorem gL_isSo_L_part : GoodIn wsL_isSo (va_wsS RL 13 yL_part wsL_part) := goodIn_app (goodIn_of _ (by decide +kernel)) ggL_isSo_L_part
set_option maxRecDepth 20000 in
theorem ggL_isSo_L_why : GoodIn wsL_isSo wsL_why := goodIn_r _ [89, 5, 6, 3, 7, 8, 90, 91, 92] (by decide +kernel) (by decide +kernel)
set_option maxRecDepth 20000 in
theorem gL_isSo_L_why : GoodIn wsL_isSo (va_wsS RL 71 yL_why wsL_why) := goodIn_app (goodIn_of _ (by decide +kernel)) ggL_isSo_L_why
set_option maxRecDepth 20000 in
theorem ggL_isSo_X6_booked : GoodIn wsL_isSo wsX6_booked := goodIn_r _ [108, 14, 109, 110, 111, 18, 112, 113, 114, 12, 115, 116, 117, 118, 119, 120, 121, 122, 123, 124, 125, 126, 127, 128, 129, 130, 131, 132, 33, 34, 35, 36, 37, 236, 237, 238, 239, 240, 241, 242, 243, 244, 245, 246, 247, 258, 259, 260, 257] (by decide +kernel) (by decide +kernel)
set_option maxRecDepth 20000 in
theorem gL_isSo_X6_booked : GoodIn wsL_isSo (wsV RL 106 RX6 yX6_booked wsX6_booked) := goodIn_app (goodIn_of _ (by decide +kernel)) ggL_isSo_X6_booked
set_option maxRecDepth 20000 in
theorem ggL_isSo_X6_count : GoodIn wsL_isSo wsX6_count := goodIn_r _ [136, 137, 138, 14, 139, 140, 141, 142, 143, 144, 145, 146, 147, 148, 149, 150, 151, 152, 153, 18, 154, 155, 56, 113, 156, 20, 157, 158, 117, 12, 118, 43, 33, 34, 35, 36, 37, 159, 160, 161, 24, 162, 26, 163, 28, 29, 30, 31, 32, 164, 70, 71, 72, 73, 74, 75, 76, 81, 82, 83, 84, 85, 86, 45, 46, 47, 165, 166, 167, 168, 169, 170, 171, 172, 173, 174, 175, 176, 177, 178, 179, 180, 181, 182, 183, 184, 53, 54, 55, 21, 22, 23, 25, 27, 38, 39, 40, 41, 42, 57, 58, 59, 60, 61, 62, 63, 64, 65, 66, 67, 68, 69, 77, 78, 79, 80, 185, 186, 187, 188, 189, 190, 236, 237, 238, 239, 261, 262, 263, 264, 265, 266, 267, 268, 269, 270, 240, 241, 242, 243, 244, 245, 246, 247, 258, 259, 260, 248, 249, 250, 251, 252, 253, 254, 255, 256, 257] (by decide +kernel) (by decide +kernel)
set_option maxRecDepth 20000 in
theorem gL_isSo_X6_count : GoodIn wsL_isSo (wsV RL 109 RX6 yX6_count wsX6_count) := goodIn_app (goodIn_of _ (by decide +kernel)) ggL_isSo_X6_count
set_option maxRecDepth 20000 in
theorem ggL_isSo_L_arePupils : GoodIn wsL_isSo wsL_arePupils := goodIn_r _ [193, 5, 6, 3, 7, 8, 194, 195, 196, 197, 198, 199, 12, 200, 14, 201, 202, 203, 18, 204, 113, 20, 158, 205, 206, 207, 208, 156, 209, 210, 211, 124, 212, 213, 122, 123, 125, 126, 127, 128, 129, 130, 131, 132, 33, 34, 35, 36, 37, 214, 215, 216, 24, 217, 218, 26, 73, 74, 75, 76, 185, 78, 79, 80, 42, 43, 219, 220, 221, 222, 223, 224, 225, 226, 227, 228, 229, 230, 231, 232, 233, 234, 235, 236, 237, 238, 239, 240, 241, 242, 243, 244, 245, 246, 247, 258, 259, 260, 257, 248, 249, 250, 251, 252, 253, 254, 255, 256] (by decide +kernel) (by decide +kernel)
set_option maxRecDepth 20000 in
theorem gL_isSo_L_arePupils : GoodIn wsL_isSo (va_wsS RL 112 yL_arePupils wsL_arePupils) := goodIn_app (goodIn_of _ (by decide +kernel)) ggL_isSo_L_arePupils
set_option maxRecDepth 20000 in
theorem ggL_isSo_L_inKiln : GoodIn wsL_isSo wsL_inKiln := goodIn_r _ [92, 5, 6, 3, 7, 8] (by decide +kernel) (by decide +kernel)
set_option maxRecDepth 20000 in
theorem gL_isSo_L_inKiln : GoodIn wsL_isSo (va_wsS RL 19 yL_inKiln wsL_inKiln) := goodIn_app (goodIn_of _ (by decide +kernel)) ggL_isSo_L_inKiln
theorem dL_isSo_0 : decode cL_isSo 0 = .ok (.iconst 0, 1) := by decide +kernel
theorem dL_isSo_1 : decode cL_isSo 1 = .ok (.istore 5, 2) := by decide +kernel
theorem dL_isSo_3 : decode cL_isSo 3 = .ok (.iconst 0, 1) := by decide +kernel
theorem dL_isSo_4 : decode cL_isSo 4 = .ok (.istore 6, 2) := by decide +kernel
theorem dL_isSo_6 : decode cL_isSo 6 = .ok (.iconst 0, 1) := by decide +kernel
theorem dL_isSo_7 : decode cL_isSo 7 = .ok (.istore 7, 2) := by decide +kernel
theorem dL_isSo_9 : decode cL_isSo 9 = .ok (.iconst 0, 1) := by decide +kernel
theorem dL_isSo_10 : decode cL_isSo 10 = .ok (.istore 8, 2) := by decide +kernel
theorem dL_isSo_12 : decode cL_isSo 12 = .ok (.iconst 0, 1) := by decide +kernel
theorem dL_isSo_13 : decode cL_isSo 13 = .ok (.istore 9, 2) := by decide +kernel
theorem dL_isSo_15 : decode cL_isSo 15 = .ok (.iload 9, 2) := by decide +kernel
theorem dL_isSo_17 : decode cL_isSo 17 = .ok (.aload_n 1, 1) := by decide +kernel
theorem dL_isSo_18 : decode cL_isSo 18 = .ok (.bipush 7, 2) := by decide +kernel
theorem dL_isSo_20 : decode cL_isSo 20 = .ok (.iaload, 1) := by decide +kernel
theorem dL_isSo_21 : decode cL_isSo 21 = .ok (.if_icmp .ge 120, 3) := by decide +kernel
theorem dL_isSo_24 : decode cL_isSo 24 = .ok (.aload_n 0, 1) := by decide +kernel
theorem dL_isSo_25 : decode cL_isSo 25 = .ok (.iload 9, 2) := by decide +kernel
theorem dL_isSo_27 : decode cL_isSo 27 = .ok (.aload_n 1, 1) := by decide +kernel
theorem dL_isSo_28 : decode cL_isSo 28 = .ok (.aload_n 2, 1) := by decide +kernel
theorem dL_isSo_29 : decode cL_isSo 29 = .ok (.invokestatic 102, 3) := by decide +kernel
theorem dL_isSo_32 : decode cL_isSo 32 = .ok (.ifCond .ne 5, 3) := by decide +kernel
theorem dL_isSo_35 : decode cL_isSo 35 = .ok (.iconst 0, 1) := by decide +kernel
theorem dL_isSo_36 : decode cL_isSo 36 = .ok (.ireturn, 1) := by decide +kernel
theorem dL_isSo_37 : decode cL_isSo 37 = .ok (.iload 5, 2) := by decide +kernel
theorem dL_isSo_39 : decode cL_isSo 39 = .ok (.aload_n 2, 1) := by decide +kernel
theorem dL_isSo_40 : decode cL_isSo 40 = .ok (.iload 9, 2) := by decide +kernel
theorem dL_isSo_42 : decode cL_isSo 42 = .ok (.laload, 1) := by decide +kernel
theorem dL_isSo_43 : decode cL_isSo 43 = .ok (.iconst 4, 1) := by decide +kernel
theorem dL_isSo_44 : decode cL_isSo 44 = .ok (.invokestatic 13, 3) := by decide +kernel
theorem dL_isSo_47 : decode cL_isSo 47 = .ok (.bipush 24, 2) := by decide +kernel
theorem dL_isSo_49 : decode cL_isSo 49 = .ok (.if_icmp .ge 10, 3) := by decide +kernel
theorem dL_isSo_52 : decode cL_isSo 52 = .ok (.iconst 1, 1) := by decide +kernel
theorem dL_isSo_53 : decode cL_isSo 53 = .ok (.iload 9, 2) := by decide +kernel
theorem dL_isSo_55 : decode cL_isSo 55 = .ok (.ishl, 1) := by decide +kernel
theorem dL_isSo_56 : decode cL_isSo 56 = .ok (.goto 4, 3) := by decide +kernel
theorem dL_isSo_59 : decode cL_isSo 59 = .ok (.iconst 0, 1) := by decide +kernel
theorem dL_isSo_60 : decode cL_isSo 60 = .ok (.ior, 1) := by decide +kernel
theorem dL_isSo_61 : decode cL_isSo 61 = .ok (.istore 5, 2) := by decide +kernel
theorem dL_isSo_63 : decode cL_isSo 63 = .ok (.iload 6, 2) := by decide +kernel
theorem dL_isSo_65 : decode cL_isSo 65 = .ok (.aload_n 2, 1) := by decide +kernel
theorem dL_isSo_66 : decode cL_isSo 66 = .ok (.iload 9, 2) := by decide +kernel
theorem dL_isSo_68 : decode cL_isSo 68 = .ok (.laload, 1) := by decide +kernel
theorem dL_isSo_69 : decode cL_isSo 69 = .ok (.iconst 4, 1) := by decide +kernel
theorem dL_isSo_70 : decode cL_isSo 70 = .ok (.invokestatic 13, 3) := by decide +kernel
theorem dL_isSo_73 : decode cL_isSo 73 = .ok (.bipush 24, 2) := by decide +kernel
theorem dL_isSo_75 : decode cL_isSo 75 = .ok (.if_icmp .ne 10, 3) := by decide +kernel
theorem dL_isSo_78 : decode cL_isSo 78 = .ok (.iconst 1, 1) := by decide +kernel
theorem dL_isSo_79 : decode cL_isSo 79 = .ok (.iload 9, 2) := by decide +kernel
theorem dL_isSo_81 : decode cL_isSo 81 = .ok (.ishl, 1) := by decide +kernel
theorem dL_isSo_82 : decode cL_isSo 82 = .ok (.goto 4, 3) := by decide +kernel
theorem dL_isSo_85 : decode cL_isSo 85 = .ok (.iconst 0, 1) := by decide +kernel
theorem dL_isSo_86 : decode cL_isSo 86 = .ok (.ior, 1) := by decide +kernel
theorem dL_isSo_87 : decode cL_isSo 87 = .ok (.istore 6, 2) := by decide +kernel
theorem dL_isSo_89 : decode cL_isSo 89 = .ok (.iload 7, 2) := by decide +kernel
theorem dL_isSo_91 : decode cL_isSo 91 = .ok (.iload 9, 2) := by decide +kernel
theorem dL_isSo_93 : decode cL_isSo 93 = .ok (.aload_n 1, 1) := by decide +kernel
theorem dL_isSo_94 : decode cL_isSo 94 = .ok (.aload_n 2, 1) := by decide +kernel
theorem dL_isSo_95 : decode cL_isSo 95 = .ok (.invokestatic 71, 3) := by decide +kernel
theorem dL_isSo_98 : decode cL_isSo 98 = .ok (.ifCond .ne 10, 3) := by decide +kernel
theorem dL_isSo_101 : decode cL_isSo 101 = .ok (.iconst 1, 1) := by decide +kernel
theorem dL_isSo_102 : decode cL_isSo 102 = .ok (.iload 9, 2) := by decide +kernel
theorem dL_isSo_104 : decode cL_isSo 104 = .ok (.ishl, 1) := by decide +kernel
theorem dL_isSo_105 : decode cL_isSo 105 = .ok (.goto 4, 3) := by decide +kernel
theorem dL_isSo_108 : decode cL_isSo 108 = .ok (.iconst 0, 1) := by decide +kernel
theorem dL_isSo_109 : decode cL_isSo 109 = .ok (.ior, 1) := by decide +kernel
theorem dL_isSo_110 : decode cL_isSo 110 = .ok (.istore 7, 2) := by decide +kernel
theorem dL_isSo_112 : decode cL_isSo 112 = .ok (.iload 8, 2) := by decide +kernel
theorem dL_isSo_114 : decode cL_isSo 114 = .ok (.aload_n 2, 1) := by decide +kernel
theorem dL_isSo_115 : decode cL_isSo 115 = .ok (.iload 9, 2) := by decide +kernel
theorem dL_isSo_117 : decode cL_isSo 117 = .ok (.laload, 1) := by decide +kernel
theorem dL_isSo_118 : decode cL_isSo 118 = .ok (.iconst 4, 1) := by decide +kernel
theorem dL_isSo_119 : decode cL_isSo 119 = .ok (.invokestatic 13, 3) := by decide +kernel
theorem dL_isSo_122 : decode cL_isSo 122 = .ok (.bipush 24, 2) := by decide +kernel
theorem dL_isSo_124 : decode cL_isSo 124 = .ok (.if_icmp .ge 7, 3) := by decide +kernel
theorem dL_isSo_127 : decode cL_isSo 127 = .ok (.iconst 1, 1) := by decide +kernel
theorem dL_isSo_128 : decode cL_isSo 128 = .ok (.goto 4, 3) := by decide +kernel
theorem dL_isSo_131 : decode cL_isSo 131 = .ok (.iconst 0, 1) := by decide +kernel
theorem dL_isSo_132 : decode cL_isSo 132 = .ok (.iadd, 1) := by decide +kernel
theorem dL_isSo_133 : decode cL_isSo 133 = .ok (.istore 8, 2) := by decide +kernel
theorem dL_isSo_135 : decode cL_isSo 135 = .ok (.iinc 9 1, 3) := by decide +kernel
theorem dL_isSo_138 : decode cL_isSo 138 = .ok (.goto (-123), 3) := by decide +kernel
theorem dL_isSo_141 : decode cL_isSo 141 = .ok (.iconst 0, 1) := by decide +kernel
theorem dL_isSo_142 : decode cL_isSo 142 = .ok (.istore 9, 2) := by decide +kernel
theorem dL_isSo_144 : decode cL_isSo 144 = .ok (.iload 9, 2) := by decide +kernel
theorem dL_isSo_146 : decode cL_isSo 146 = .ok (.bipush 30, 2) := by decide +kernel
theorem dL_isSo_148 : decode cL_isSo 148 = .ok (.if_icmp .ge 46, 3) := by decide +kernel
theorem dL_isSo_151 : decode cL_isSo 151 = .ok (.aload_n 0, 1) := by decide +kernel
theorem dL_isSo_152 : decode cL_isSo 152 = .ok (.iload 9, 2) := by decide +kernel
theorem dL_isSo_154 : decode cL_isSo 154 = .ok (.bipush 6, 2) := by decide +kernel
theorem dL_isSo_156 : decode cL_isSo 156 = .ok (.idiv, 1) := by decide +kernel
theorem dL_isSo_157 : decode cL_isSo 157 = .ok (.iload 9, 2) := by decide +kernel
theorem dL_isSo_159 : decode cL_isSo 159 = .ok (.bipush 6, 2) := by decide +kernel
theorem dL_isSo_161 : decode cL_isSo 161 = .ok (.irem, 1) := by decide +kernel
theorem dL_isSo_162 : decode cL_isSo 162 = .ok (.invokevirtual 106, 3) := by decide +kernel
theorem dL_isSo_165 : decode cL_isSo 165 = .ok (.aload_n 3, 1) := by decide +kernel
theorem dL_isSo_166 : decode cL_isSo 166 = .ok (.iload 9, 2) := by decide +kernel
theorem dL_isSo_168 : decode cL_isSo 168 = .ok (.iaload, 1) := by decide +kernel
theorem dL_isSo_169 : decode cL_isSo 169 = .ok (.ifCond .ne 8, 3) := by decide +kernel
theorem dL_isSo_172 : decode cL_isSo 172 = .ok (.bipush (-6), 2) := by decide +kernel
theorem dL_isSo_174 : decode cL_isSo 174 = .ok (.goto 9, 3) := by decide +kernel
theorem dL_isSo_177 : decode cL_isSo 177 = .ok (.aload_n 3, 1) := by decide +kernel
theorem dL_isSo_178 : decode cL_isSo 178 = .ok (.iload 9, 2) := by decide +kernel
theorem dL_isSo_180 : decode cL_isSo 180 = .ok (.iaload, 1) := by decide +kernel
theorem dL_isSo_181 : decode cL_isSo 181 = .ok (.iconst 1, 1) := by decide +kernel
theorem dL_isSo_182 : decode cL_isSo 182 = .ok (.isub, 1) := by decide +kernel
theorem dL_isSo_183 : decode cL_isSo 183 = .ok (.if_icmp .eq 5, 3) := by decide +kernel
theorem dL_isSo_186 : decode cL_isSo 186 = .ok (.iconst 0, 1) := by decide +kernel
theorem dL_isSo_187 : decode cL_isSo 187 = .ok (.ireturn, 1) := by decide +kernel
theorem dL_isSo_188 : decode cL_isSo 188 = .ok (.iinc 9 1, 3) := by decide +kernel
theorem dL_isSo_191 : decode cL_isSo 191 = .ok (.goto (-47), 3) := by decide +kernel
theorem dL_isSo_194 : decode cL_isSo 194 = .ok (.iconst 0, 1) := by decide +kernel
theorem dL_isSo_195 : decode cL_isSo 195 = .ok (.istore 9, 2) := by decide +kernel
theorem dL_isSo_197 : decode cL_isSo 197 = .ok (.iload 9, 2) := by decide +kernel
theorem dL_isSo_199 : decode cL_isSo 199 = .ok (.iconst 4, 1) := by decide +kernel
theorem dL_isSo_200 : decode cL_isSo 200 = .ok (.if_icmp .ge 48, 3) := by decide +kernel
theorem dL_isSo_203 : decode cL_isSo 203 = .ok (.aload_n 0, 1) := by decide +kernel
theorem dL_isSo_204 : decode cL_isSo 204 = .ok (.bipush 11, 2) := by decide +kernel
theorem dL_isSo_206 : decode cL_isSo 206 = .ok (.iload 9, 2) := by decide +kernel
theorem dL_isSo_208 : decode cL_isSo 208 = .ok (.iadd, 1) := by decide +kernel
theorem dL_isSo_209 : decode cL_isSo 209 = .ok (.invokevirtual 109, 3) := by decide +kernel
theorem dL_isSo_212 : decode cL_isSo 212 = .ok (.aload_n 1, 1) := by decide +kernel
theorem dL_isSo_213 : decode cL_isSo 213 = .ok (.bipush 11, 2) := by decide +kernel
theorem dL_isSo_215 : decode cL_isSo 215 = .ok (.iload 9, 2) := by decide +kernel
theorem dL_isSo_217 : decode cL_isSo 217 = .ok (.iadd, 1) := by decide +kernel
theorem dL_isSo_218 : decode cL_isSo 218 = .ok (.iaload, 1) := by decide +kernel
theorem dL_isSo_219 : decode cL_isSo 219 = .ok (.if_icmp .ne 21, 3) := by decide +kernel
theorem dL_isSo_222 : decode cL_isSo 222 = .ok (.aload_n 0, 1) := by decide +kernel
theorem dL_isSo_223 : decode cL_isSo 223 = .ok (.bipush 15, 2) := by decide +kernel
theorem dL_isSo_225 : decode cL_isSo 225 = .ok (.iload 9, 2) := by decide +kernel
theorem dL_isSo_227 : decode cL_isSo 227 = .ok (.iadd, 1) := by decide +kernel
theorem dL_isSo_228 : decode cL_isSo 228 = .ok (.invokevirtual 109, 3) := by decide +kernel
theorem dL_isSo_231 : decode cL_isSo 231 = .ok (.aload_n 1, 1) := by decide +kernel
theorem dL_isSo_232 : decode cL_isSo 232 = .ok (.iconst 2, 1) := by decide +kernel
theorem dL_isSo_233 : decode cL_isSo 233 = .ok (.iload 9, 2) := by decide +kernel
theorem dL_isSo_235 : decode cL_isSo 235 = .ok (.iadd, 1) := by decide +kernel
theorem dL_isSo_236 : decode cL_isSo 236 = .ok (.iaload, 1) := by decide +kernel
theorem dL_isSo_237 : decode cL_isSo 237 = .ok (.if_icmp .eq 5, 3) := by decide +kernel
theorem dL_isSo_240 : decode cL_isSo 240 = .ok (.iconst 0, 1) := by decide +kernel
theorem dL_isSo_241 : decode cL_isSo 241 = .ok (.ireturn, 1) := by decide +kernel
theorem dL_isSo_242 : decode cL_isSo 242 = .ok (.iinc 9 1, 3) := by decide +kernel
theorem dL_isSo_245 : decode cL_isSo 245 = .ok (.goto (-48), 3) := by decide +kernel
theorem dL_isSo_248 : decode cL_isSo 248 = .ok (.aload_n 0, 1) := by decide +kernel
theorem dL_isSo_249 : decode cL_isSo 249 = .ok (.aload_n 1, 1) := by decide +kernel
theorem dL_isSo_250 : decode cL_isSo 250 = .ok (.aload_n 2, 1) := by decide +kernel
theorem dL_isSo_251 : decode cL_isSo 251 = .ok (.aload_n 3, 1) := by decide +kernel
theorem dL_isSo_252 : decode cL_isSo 252 = .ok (.aload 4, 2) := by decide +kernel
theorem dL_isSo_254 : decode cL_isSo 254 = .ok (.invokestatic 112, 3) := by decide +kernel
theorem dL_isSo_257 : decode cL_isSo 257 = .ok (.ifCond .eq 139, 3) := by decide +kernel
theorem dL_isSo_260 : decode cL_isSo 260 = .ok (.aload_n 0, 1) := by decide +kernel
theorem dL_isSo_261 : decode cL_isSo 261 = .ok (.iconst 0, 1) := by decide +kernel
theorem dL_isSo_262 : decode cL_isSo 262 = .ok (.invokevirtual 109, 3) := by decide +kernel
theorem dL_isSo_265 : decode cL_isSo 265 = .ok (.aload_n 1, 1) := by decide +kernel
theorem dL_isSo_266 : decode cL_isSo 266 = .ok (.iconst 0, 1) := by decide +kernel
theorem dL_isSo_267 : decode cL_isSo 267 = .ok (.iaload, 1) := by decide +kernel
theorem dL_isSo_268 : decode cL_isSo 268 = .ok (.if_icmp .ne 128, 3) := by decide +kernel
theorem dL_isSo_271 : decode cL_isSo 271 = .ok (.aload_n 0, 1) := by decide +kernel
theorem dL_isSo_272 : decode cL_isSo 272 = .ok (.iconst 1, 1) := by decide +kernel
theorem dL_isSo_273 : decode cL_isSo 273 = .ok (.invokevirtual 109, 3) := by decide +kernel
theorem dL_isSo_276 : decode cL_isSo 276 = .ok (.aload_n 1, 1) := by decide +kernel
theorem dL_isSo_277 : decode cL_isSo 277 = .ok (.bipush 6, 2) := by decide +kernel
theorem dL_isSo_279 : decode cL_isSo 279 = .ok (.iaload, 1) := by decide +kernel
theorem dL_isSo_280 : decode cL_isSo 280 = .ok (.if_icmp .ne 116, 3) := by decide +kernel
theorem dL_isSo_283 : decode cL_isSo 283 = .ok (.aload_n 0, 1) := by decide +kernel
theorem dL_isSo_284 : decode cL_isSo 284 = .ok (.iconst 2, 1) := by decide +kernel
theorem dL_isSo_285 : decode cL_isSo 285 = .ok (.invokevirtual 109, 3) := by decide +kernel
theorem dL_isSo_288 : decode cL_isSo 288 = .ok (.aload_n 1, 1) := by decide +kernel
theorem dL_isSo_289 : decode cL_isSo 289 = .ok (.bipush 7, 2) := by decide +kernel
theorem dL_isSo_291 : decode cL_isSo 291 = .ok (.iaload, 1) := by decide +kernel
theorem dL_isSo_292 : decode cL_isSo 292 = .ok (.if_icmp .ne 104, 3) := by decide +kernel
theorem dL_isSo_295 : decode cL_isSo 295 = .ok (.aload_n 0, 1) := by decide +kernel
theorem dL_isSo_296 : decode cL_isSo 296 = .ok (.iconst 3, 1) := by decide +kernel
theorem dL_isSo_297 : decode cL_isSo 297 = .ok (.invokevirtual 109, 3) := by decide +kernel
theorem dL_isSo_300 : decode cL_isSo 300 = .ok (.iload 5, 2) := by decide +kernel
theorem dL_isSo_302 : decode cL_isSo 302 = .ok (.if_icmp .ne 94, 3) := by decide +kernel
theorem dL_isSo_305 : decode cL_isSo 305 = .ok (.aload_n 0, 1) := by decide +kernel
theorem dL_isSo_306 : decode cL_isSo 306 = .ok (.iconst 4, 1) := by decide +kernel
theorem dL_isSo_307 : decode cL_isSo 307 = .ok (.invokevirtual 109, 3) := by decide +kernel
theorem dL_isSo_310 : decode cL_isSo 310 = .ok (.iload 6, 2) := by decide +kernel
theorem dL_isSo_312 : decode cL_isSo 312 = .ok (.if_icmp .ne 84, 3) := by decide +kernel
theorem dL_isSo_315 : decode cL_isSo 315 = .ok (.aload_n 0, 1) := by decide +kernel
theorem dL_isSo_316 : decode cL_isSo 316 = .ok (.iconst 5, 1) := by decide +kernel
theorem dL_isSo_317 : decode cL_isSo 317 = .ok (.invokevirtual 109, 3) := by decide +kernel
theorem dL_isSo_320 : decode cL_isSo 320 = .ok (.aload_n 1, 1) := by decide +kernel
theorem dL_isSo_321 : decode cL_isSo 321 = .ok (.aload_n 2, 1) := by decide +kernel
theorem dL_isSo_322 : decode cL_isSo 322 = .ok (.invokestatic 19, 3) := by decide +kernel
theorem dL_isSo_325 : decode cL_isSo 325 = .ok (.if_icmp .ne 71, 3) := by decide +kernel
theorem dL_isSo_328 : decode cL_isSo 328 = .ok (.aload_n 0, 1) := by decide +kernel
theorem dL_isSo_329 : decode cL_isSo 329 = .ok (.bipush 6, 2) := by decide +kernel
theorem dL_isSo_331 : decode cL_isSo 331 = .ok (.invokevirtual 109, 3) := by decide +kernel
theorem dL_isSo_334 : decode cL_isSo 334 = .ok (.bipush 24, 2) := by decide +kernel
theorem dL_isSo_336 : decode cL_isSo 336 = .ok (.iload 8, 2) := by decide +kernel
theorem dL_isSo_338 : decode cL_isSo 338 = .ok (.isub, 1) := by decide +kernel
theorem dL_isSo_339 : decode cL_isSo 339 = .ok (.if_icmp .ne 57, 3) := by decide +kernel
theorem dL_isSo_342 : decode cL_isSo 342 = .ok (.aload_n 0, 1) := by decide +kernel
theorem dL_isSo_343 : decode cL_isSo 343 = .ok (.bipush 7, 2) := by decide +kernel
theorem dL_isSo_345 : decode cL_isSo 345 = .ok (.invokevirtual 109, 3) := by decide +kernel
theorem dL_isSo_348 : decode cL_isSo 348 = .ok (.iload 7, 2) := by decide +kernel
theorem dL_isSo_350 : decode cL_isSo 350 = .ok (.if_icmp .ne 46, 3) := by decide +kernel
theorem dL_isSo_353 : decode cL_isSo 353 = .ok (.aload_n 0, 1) := by decide +kernel
theorem dL_isSo_354 : decode cL_isSo 354 = .ok (.bipush 8, 2) := by decide +kernel
theorem dL_isSo_356 : decode cL_isSo 356 = .ok (.invokevirtual 109, 3) := by decide +kernel
theorem dL_isSo_359 : decode cL_isSo 359 = .ok (.aload_n 1, 1) := by decide +kernel
theorem dL_isSo_360 : decode cL_isSo 360 = .ok (.bipush 8, 2) := by decide +kernel
theorem dL_isSo_362 : decode cL_isSo 362 = .ok (.iaload, 1) := by decide +kernel
theorem dL_isSo_363 : decode cL_isSo 363 = .ok (.if_icmp .ne 33, 3) := by decide +kernel
theorem dL_isSo_366 : decode cL_isSo 366 = .ok (.aload_n 0, 1) := by decide +kernel
theorem dL_isSo_367 : decode cL_isSo 367 = .ok (.bipush 9, 2) := by decide +kernel
theorem dL_isSo_369 : decode cL_isSo 369 = .ok (.invokevirtual 109, 3) := by decide +kernel
theorem dL_isSo_372 : decode cL_isSo 372 = .ok (.aload_n 1, 1) := by decide +kernel
theorem dL_isSo_373 : decode cL_isSo 373 = .ok (.bipush 9, 2) := by decide +kernel
theorem dL_isSo_375 : decode cL_isSo 375 = .ok (.iaload, 1) := by decide +kernel
theorem dL_isSo_376 : decode cL_isSo 376 = .ok (.if_icmp .ne 20, 3) := by decide +kernel
theorem dL_isSo_379 : decode cL_isSo 379 = .ok (.aload_n 0, 1) := by decide +kernel
theorem dL_isSo_380 : decode cL_isSo 380 = .ok (.bipush 10, 2) := by decide +kernel
theorem dL_isSo_382 : decode cL_isSo 382 = .ok (.invokevirtual 109, 3) := by decide +kernel
theorem dL_isSo_385 : decode cL_isSo 385 = .ok (.aload_n 1, 1) := by decide +kernel
theorem dL_isSo_386 : decode cL_isSo 386 = .ok (.bipush 10, 2) := by decide +kernel
theorem dL_isSo_388 : decode cL_isSo 388 = .ok (.iaload, 1) := by decide +kernel
theorem dL_isSo_389 : decode cL_isSo 389 = .ok (.if_icmp .ne 7, 3) := by decide +kernel
theorem dL_isSo_392 : decode cL_isSo 392 = .ok (.iconst 1, 1) := by decide +kernel
theorem dL_isSo_393 : decode cL_isSo 393 = .ok (.goto 4, 3) := by decide +kernel
theorem dL_isSo_396 : decode cL_isSo 396 = .ok (.iconst 0, 1) := by decide +kernel
theorem dL_isSo_397 : decode cL_isSo 397 = .ok (.ireturn, 1) := by decide +kernel
set_option maxRecDepth 20000 in
theorem ggL_areFirings_L_part : GoodIn wsL_areFirings wsL_part := goodIn_r _ [5, 6] (by decide +kernel) (by decide +kernel)
set_option maxRecDepth 20000 in
theorem gL_areFirings_L_part : GoodIn wsL_areFirings (va_wsS RL 13 yL_part wsL_part) := goodIn_app (goodIn_of _ (by decide +kernel)) ggL_areFirings_L_part
set_option maxRecDepth 20000 in
theorem ggL_areFirings_L_then : GoodIn wsL_areFirings wsL_then := goodIn_r _ [9, 2, 3, 4, 5, 6] (by decide +kernel) (by decide +kernel)
set_option maxRecDepth 20000 in
theorem gL_areFirings_L_then : GoodIn wsL_areFirings (va_wsS RL 77 yL_then wsL_then) := goodIn_app (goodIn_of _ (by decide +kernel)) ggL_areFirings_L_then
set_option maxRecDepth 20000 in
theorem ggL_areFirings_X6_ifFired : GoodIn wsL_areFirings wsX6_ifFired := goodIn_r _ [14, 15, 16, 17, 18, 19, 20, 21, 13, 22, 23, 24, 25, 26, 27, 28, 29, 30, 31, 32, 33, 34, 35, 36, 37, 38, 39, 40, 41, 42, 43, 44, 45, 46, 47, 48, 49, 50, 51, 52, 53, 54, 55, 56, 57, 58, 59, 84, 85, 86, 87, 88, 89, 90, 91, 92, 93, 94, 95, 96, 97, 98, 99, 100, 101, 102, 103, 104, 105] (by decide +kernel) (by decide +kernel)
set_option maxRecDepth 20000 in
theorem gL_areFirings_X6_ifFired : GoodIn wsL_areFirings (wsV RL 116 RX6 yX6_ifFired wsX6_ifFired) := goodIn_app (goodIn_of _ (by decide +kernel)) ggL_areFirings_X6_ifFired
set_option maxRecDepth 20000 in
theorem ggL_areFirings_L_inKiln : GoodIn wsL_areFirings wsL_inKiln := goodIn_r _ [62, 2, 3, 4, 5, 6] (by decide +kernel) (by decide +kernel)
set_option maxRecDepth 20000 in
theorem gL_areFirings_L_inKiln : GoodIn wsL_areFirings (va_wsS RL 19 yL_inKiln wsL_inKiln) := goodIn_app (goodIn_of _ (by decide +kernel)) ggL_areFirings_L_inKiln
set_option maxRecDepth 20000 in
theorem ggL_areFirings_X6_bestHeat : GoodIn wsL_areFirings wsX6_bestHeat := goodIn_r _ [66, 15, 67, 68, 69, 19, 70, 30, 71, 72, 73, 35, 74, 37, 75, 76, 77, 78, 41, 79, 43, 80, 81, 82, 83, 31, 32, 33, 34, 36, 38, 39, 40, 42, 44, 45, 46, 47, 48, 49, 50, 51, 52, 53, 54, 55, 56, 57, 58, 59, 84, 85, 86, 87, 88, 89, 90, 91, 92, 93, 94, 95, 96, 97, 98, 99, 100, 101, 102, 103, 104, 105] (by decide +kernel) (by decide +kernel)
set_option maxRecDepth 20000 in
theorem gL_areFirings_X6_bestHeat : GoodIn wsL_areFirings (wsV RL 119 RX6 yX6_bestHeat wsX6_bestHeat) := goodIn_app (goodIn_of _ (by decide +kernel)) ggL_areFirings_X6_bestHeat
theorem dL_areFirings_0 : decode cL_areFirings 0 = .ok (.bipush (-6), 2) := by decide +kernel
theorem dL_areFirings_2 : decode cL_areFirings 2 = .ok (.istore_n 3, 1) := by decide +kernel
theorem dL_areFirings_3 : decode cL_areFirings 3 = .ok (.iconst 0, 1) := by decide +kernel
theorem dL_areFirings_4 : decode cL_areFirings 4 = .ok (.istore 4, 2) := by decide +kernel
theorem dL_areFirings_6 : decode cL_areFirings 6 = .ok (.iconst 0, 1) := by decide +kernel
theorem dL_areFirings_7 : decode cL_areFirings 7 = .ok (.istore 5, 2) := by decide +kernel
theorem dL_areFirings_9 : decode cL_areFirings 9 = .ok (.bipush 80, 2) := by decide +kernel
theorem dL_areFirings_11 : decode cL_areFirings 11 = .ok (.istore 6, 2) := by decide +kernel
theorem dL_areFirings_13 : decode cL_areFirings 13 = .ok (.iload 6, 2) := by decide +kernel
theorem dL_areFirings_15 : decode cL_areFirings 15 = .ok (.sipush 141, 3) := by decide +kernel
theorem dL_areFirings_18 : decode cL_areFirings 18 = .ok (.if_icmp .ge 230, 3) := by decide +kernel
theorem dL_areFirings_21 : decode cL_areFirings 21 = .ok (.iconst 4, 1) := by decide +kernel
theorem dL_areFirings_22 : decode cL_areFirings 22 = .ok (.newarray .int, 2) := by decide +kernel
theorem dL_areFirings_24 : decode cL_areFirings 24 = .ok (.astore 7, 2) := by decide +kernel
theorem dL_areFirings_26 : decode cL_areFirings 26 = .ok (.iconst 0, 1) := by decide +kernel
theorem dL_areFirings_27 : decode cL_areFirings 27 = .ok (.istore 8, 2) := by decide +kernel
theorem dL_areFirings_29 : decode cL_areFirings 29 = .ok (.iconst 0, 1) := by decide +kernel
theorem dL_areFirings_30 : decode cL_areFirings 30 = .ok (.istore 9, 2) := by decide +kernel
theorem dL_areFirings_32 : decode cL_areFirings 32 = .ok (.iconst 0, 1) := by decide +kernel
theorem dL_areFirings_33 : decode cL_areFirings 33 = .ok (.istore 10, 2) := by decide +kernel
theorem dL_areFirings_35 : decode cL_areFirings 35 = .ok (.iload 10, 2) := by decide +kernel
theorem dL_areFirings_37 : decode cL_areFirings 37 = .ok (.aload_n 1, 1) := by decide +kernel
theorem dL_areFirings_38 : decode cL_areFirings 38 = .ok (.bipush 7, 2) := by decide +kernel
theorem dL_areFirings_40 : decode cL_areFirings 40 = .ok (.iaload, 1) := by decide +kernel
theorem dL_areFirings_41 : decode cL_areFirings 41 = .ok (.if_icmp .ge 124, 3) := by decide +kernel
theorem dL_areFirings_44 : decode cL_areFirings 44 = .ok (.aload_n 2, 1) := by decide +kernel
theorem dL_areFirings_45 : decode cL_areFirings 45 = .ok (.iload 10, 2) := by decide +kernel
theorem dL_areFirings_47 : decode cL_areFirings 47 = .ok (.laload, 1) := by decide +kernel
theorem dL_areFirings_48 : decode cL_areFirings 48 = .ok (.iconst 4, 1) := by decide +kernel
theorem dL_areFirings_49 : decode cL_areFirings 49 = .ok (.invokestatic 13, 3) := by decide +kernel
theorem dL_areFirings_52 : decode cL_areFirings 52 = .ok (.bipush 24, 2) := by decide +kernel
theorem dL_areFirings_54 : decode cL_areFirings 54 = .ok (.if_icmp .eq 6, 3) := by decide +kernel
theorem dL_areFirings_57 : decode cL_areFirings 57 = .ok (.goto 102, 3) := by decide +kernel
theorem dL_areFirings_60 : decode cL_areFirings 60 = .ok (.aload_n 2, 1) := by decide +kernel
theorem dL_areFirings_61 : decode cL_areFirings 61 = .ok (.iload 10, 2) := by decide +kernel
theorem dL_areFirings_63 : decode cL_areFirings 63 = .ok (.laload, 1) := by decide +kernel
theorem dL_areFirings_64 : decode cL_areFirings 64 = .ok (.iload 6, 2) := by decide +kernel
theorem dL_areFirings_66 : decode cL_areFirings 66 = .ok (.aload_n 1, 1) := by decide +kernel
theorem dL_areFirings_67 : decode cL_areFirings 67 = .ok (.invokestatic 77, 3) := by decide +kernel
theorem dL_areFirings_70 : decode cL_areFirings 70 = .ok (.istore 11, 2) := by decide +kernel
theorem dL_areFirings_72 : decode cL_areFirings 72 = .ok (.aload_n 2, 1) := by decide +kernel
theorem dL_areFirings_73 : decode cL_areFirings 73 = .ok (.iload 10, 2) := by decide +kernel
theorem dL_areFirings_75 : decode cL_areFirings 75 = .ok (.laload, 1) := by decide +kernel
theorem dL_areFirings_76 : decode cL_areFirings 76 = .ok (.iconst 3, 1) := by decide +kernel
theorem dL_areFirings_77 : decode cL_areFirings 77 = .ok (.invokestatic 13, 3) := by decide +kernel
theorem dL_areFirings_80 : decode cL_areFirings 80 = .ok (.istore 12, 2) := by decide +kernel
theorem dL_areFirings_82 : decode cL_areFirings 82 = .ok (.aload 7, 2) := by decide +kernel
theorem dL_areFirings_84 : decode cL_areFirings 84 = .ok (.iload 11, 2) := by decide +kernel
theorem dL_areFirings_86 : decode cL_areFirings 86 = .ok (.iconst 4, 1) := by decide +kernel
theorem dL_areFirings_87 : decode cL_areFirings 87 = .ok (.if_icmp .ne 7, 3) := by decide +kernel
theorem dL_areFirings_90 : decode cL_areFirings 90 = .ok (.iconst 0, 1) := by decide +kernel
theorem dL_areFirings_91 : decode cL_areFirings 91 = .ok (.goto 25, 3) := by decide +kernel
theorem dL_areFirings_94 : decode cL_areFirings 94 = .ok (.iload 11, 2) := by decide +kernel
theorem dL_areFirings_96 : decode cL_areFirings 96 = .ok (.iload 12, 2) := by decide +kernel
theorem dL_areFirings_98 : decode cL_areFirings 98 = .ok (.if_icmp .ne 7, 3) := by decide +kernel
theorem dL_areFirings_101 : decode cL_areFirings 101 = .ok (.iconst 3, 1) := by decide +kernel
theorem dL_areFirings_102 : decode cL_areFirings 102 = .ok (.goto 14, 3) := by decide +kernel
theorem dL_areFirings_105 : decode cL_areFirings 105 = .ok (.iload 11, 2) := by decide +kernel
theorem dL_areFirings_107 : decode cL_areFirings 107 = .ok (.iconst 3, 1) := by decide +kernel
theorem dL_areFirings_108 : decode cL_areFirings 108 = .ok (.if_icmp .ne 7, 3) := by decide +kernel
theorem dL_areFirings_111 : decode cL_areFirings 111 = .ok (.iconst 2, 1) := by decide +kernel
theorem dL_areFirings_112 : decode cL_areFirings 112 = .ok (.goto 4, 3) := by decide +kernel
theorem dL_areFirings_115 : decode cL_areFirings 115 = .ok (.iconst 1, 1) := by decide +kernel
theorem dL_areFirings_116 : decode cL_areFirings 116 = .ok (.dup2, 1) := by decide +kernel
theorem dL_areFirings_117 : decode cL_areFirings 117 = .ok (.iaload, 1) := by decide +kernel
theorem dL_areFirings_118 : decode cL_areFirings 118 = .ok (.iconst 1, 1) := by decide +kernel
theorem dL_areFirings_119 : decode cL_areFirings 119 = .ok (.iload 10, 2) := by decide +kernel
theorem dL_areFirings_121 : decode cL_areFirings 121 = .ok (.ishl, 1) := by decide +kernel
theorem dL_areFirings_122 : decode cL_areFirings 122 = .ok (.ior, 1) := by decide +kernel
theorem dL_areFirings_123 : decode cL_areFirings 123 = .ok (.iastore, 1) := by decide +kernel
theorem dL_areFirings_124 : decode cL_areFirings 124 = .ok (.iload 8, 2) := by decide +kernel
theorem dL_areFirings_126 : decode cL_areFirings 126 = .ok (.iload 11, 2) := by decide +kernel
theorem dL_areFirings_128 : decode cL_areFirings 128 = .ok (.iload 12, 2) := by decide +kernel
theorem dL_areFirings_130 : decode cL_areFirings 130 = .ok (.iconst 1, 1) := by decide +kernel
theorem dL_areFirings_131 : decode cL_areFirings 131 = .ok (.iadd, 1) := by decide +kernel
theorem dL_areFirings_132 : decode cL_areFirings 132 = .ok (.if_icmp .ne 7, 3) := by decide +kernel
theorem dL_areFirings_135 : decode cL_areFirings 135 = .ok (.iconst 1, 1) := by decide +kernel
theorem dL_areFirings_136 : decode cL_areFirings 136 = .ok (.goto 4, 3) := by decide +kernel
theorem dL_areFirings_139 : decode cL_areFirings 139 = .ok (.iconst 0, 1) := by decide +kernel
theorem dL_areFirings_140 : decode cL_areFirings 140 = .ok (.iadd, 1) := by decide +kernel
theorem dL_areFirings_141 : decode cL_areFirings 141 = .ok (.istore 8, 2) := by decide +kernel
theorem dL_areFirings_143 : decode cL_areFirings 143 = .ok (.iload 9, 2) := by decide +kernel
theorem dL_areFirings_145 : decode cL_areFirings 145 = .ok (.iload 11, 2) := by decide +kernel
theorem dL_areFirings_147 : decode cL_areFirings 147 = .ok (.iconst 4, 1) := by decide +kernel
theorem dL_areFirings_148 : decode cL_areFirings 148 = .ok (.if_icmp .ne 7, 3) := by decide +kernel
theorem dL_areFirings_151 : decode cL_areFirings 151 = .ok (.iconst 1, 1) := by decide +kernel
theorem dL_areFirings_152 : decode cL_areFirings 152 = .ok (.goto 4, 3) := by decide +kernel
theorem dL_areFirings_155 : decode cL_areFirings 155 = .ok (.iconst 0, 1) := by decide +kernel
theorem dL_areFirings_156 : decode cL_areFirings 156 = .ok (.iadd, 1) := by decide +kernel
theorem dL_areFirings_157 : decode cL_areFirings 157 = .ok (.istore 9, 2) := by decide +kernel
theorem dL_areFirings_159 : decode cL_areFirings 159 = .ok (.iinc 10 1, 3) := by decide +kernel
theorem dL_areFirings_162 : decode cL_areFirings 162 = .ok (.goto (-127), 3) := by decide +kernel
theorem dL_areFirings_165 : decode cL_areFirings 165 = .ok (.iconst 0, 1) := by decide +kernel
theorem dL_areFirings_166 : decode cL_areFirings 166 = .ok (.istore 10, 2) := by decide +kernel
theorem dL_areFirings_168 : decode cL_areFirings 168 = .ok (.iload 10, 2) := by decide +kernel
theorem dL_areFirings_170 : decode cL_areFirings 170 = .ok (.iconst 4, 1) := by decide +kernel
theorem dL_areFirings_171 : decode cL_areFirings 171 = .ok (.if_icmp .ge 27, 3) := by decide +kernel
theorem dL_areFirings_174 : decode cL_areFirings 174 = .ok (.aload_n 0, 1) := by decide +kernel
theorem dL_areFirings_175 : decode cL_areFirings 175 = .ok (.iload 6, 2) := by decide +kernel
theorem dL_areFirings_177 : decode cL_areFirings 177 = .ok (.iload 10, 2) := by decide +kernel
theorem dL_areFirings_179 : decode cL_areFirings 179 = .ok (.invokevirtual 116, 3) := by decide +kernel
theorem dL_areFirings_182 : decode cL_areFirings 182 = .ok (.aload 7, 2) := by decide +kernel
theorem dL_areFirings_184 : decode cL_areFirings 184 = .ok (.iload 10, 2) := by decide +kernel
theorem dL_areFirings_186 : decode cL_areFirings 186 = .ok (.iaload, 1) := by decide +kernel
theorem dL_areFirings_187 : decode cL_areFirings 187 = .ok (.if_icmp .eq 5, 3) := by decide +kernel
theorem dL_areFirings_190 : decode cL_areFirings 190 = .ok (.iconst 0, 1) := by decide +kernel
theorem dL_areFirings_191 : decode cL_areFirings 191 = .ok (.ireturn, 1) := by decide +kernel
theorem dL_areFirings_192 : decode cL_areFirings 192 = .ok (.iinc 10 1, 3) := by decide +kernel
theorem dL_areFirings_195 : decode cL_areFirings 195 = .ok (.goto (-27), 3) := by decide +kernel
theorem dL_areFirings_198 : decode cL_areFirings 198 = .ok (.aload_n 1, 1) := by decide +kernel
theorem dL_areFirings_199 : decode cL_areFirings 199 = .ok (.aload_n 2, 1) := by decide +kernel
theorem dL_areFirings_200 : decode cL_areFirings 200 = .ok (.invokestatic 19, 3) := by decide +kernel
theorem dL_areFirings_203 : decode cL_areFirings 203 = .ok (.ifCond .le 39, 3) := by decide +kernel
theorem dL_areFirings_206 : decode cL_areFirings 206 = .ok (.iload_n 3, 1) := by decide +kernel
theorem dL_areFirings_207 : decode cL_areFirings 207 = .ok (.ifCond .lt 24, 3) := by decide +kernel
theorem dL_areFirings_210 : decode cL_areFirings 210 = .ok (.iload 8, 2) := by decide +kernel
theorem dL_areFirings_212 : decode cL_areFirings 212 = .ok (.iload 4, 2) := by decide +kernel
theorem dL_areFirings_214 : decode cL_areFirings 214 = .ok (.if_icmp .gt 17, 3) := by decide +kernel
theorem dL_areFirings_217 : decode cL_areFirings 217 = .ok (.iload 8, 2) := by decide +kernel
theorem dL_areFirings_219 : decode cL_areFirings 219 = .ok (.iload 4, 2) := by decide +kernel
theorem dL_areFirings_221 : decode cL_areFirings 221 = .ok (.if_icmp .ne 21, 3) := by decide +kernel
theorem dL_areFirings_224 : decode cL_areFirings 224 = .ok (.iload 9, 2) := by decide +kernel
theorem dL_areFirings_226 : decode cL_areFirings 226 = .ok (.iload 5, 2) := by decide +kernel
theorem dL_areFirings_228 : decode cL_areFirings 228 = .ok (.if_icmp .ge 14, 3) := by decide +kernel
theorem dL_areFirings_231 : decode cL_areFirings 231 = .ok (.iload 6, 2) := by decide +kernel
theorem dL_areFirings_233 : decode cL_areFirings 233 = .ok (.istore_n 3, 1) := by decide +kernel
theorem dL_areFirings_234 : decode cL_areFirings 234 = .ok (.iload 8, 2) := by decide +kernel
theorem dL_areFirings_236 : decode cL_areFirings 236 = .ok (.istore 4, 2) := by decide +kernel
theorem dL_areFirings_238 : decode cL_areFirings 238 = .ok (.iload 9, 2) := by decide +kernel
theorem dL_areFirings_240 : decode cL_areFirings 240 = .ok (.istore 5, 2) := by decide +kernel
theorem dL_areFirings_242 : decode cL_areFirings 242 = .ok (.iinc 6 1, 3) := by decide +kernel
theorem dL_areFirings_245 : decode cL_areFirings 245 = .ok (.goto (-232), 3) := by decide +kernel
theorem dL_areFirings_248 : decode cL_areFirings 248 = .ok (.aload_n 0, 1) := by decide +kernel
theorem dL_areFirings_249 : decode cL_areFirings 249 = .ok (.invokevirtual 119, 3) := by decide +kernel
theorem dL_areFirings_252 : decode cL_areFirings 252 = .ok (.iload_n 3, 1) := by decide +kernel
theorem dL_areFirings_253 : decode cL_areFirings 253 = .ok (.if_icmp .ne 7, 3) := by decide +kernel
theorem dL_areFirings_256 : decode cL_areFirings 256 = .ok (.iconst 1, 1) := by decide +kernel
theorem dL_areFirings_257 : decode cL_areFirings 257 = .ok (.goto 4, 3) := by decide +kernel
theorem dL_areFirings_260 : decode cL_areFirings 260 = .ok (.iconst 0, 1) := by decide +kernel
theorem dL_areFirings_261 : decode cL_areFirings 261 = .ok (.ireturn, 1) := by decide +kernel
set_option maxRecDepth 20000 in
theorem ggL_law_X6_init : GoodIn wsL_law wsX6_init := goodIn_r _ [7, 8, 9, 10, 11, 12, 13, 14, 15, 16, 17, 18, 19, 20, 21, 22, 23, 24, 25, 26, 27, 28, 29, 30, 31, 32, 33, 34, 35, 36, 37, 38, 39, 40, 41, 42, 43, 44, 45, 46, 47, 48, 49, 50, 3, 51, 52, 53, 54, 55, 56, 57, 58, 59, 60, 61, 62, 63, 64, 65, 66, 67, 68, 69, 70, 71, 72, 73, 74, 75, 76, 77, 78, 79, 80, 81, 82, 83, 84, 85, 565, 566, 567, 568, 569, 570, 571, 572, 561, 562, 563, 564, 573, 574, 575, 576, 577, 578, 579, 580, 581, 582, 583, 584, 585, 586, 587, 588, 589, 590, 591, 592, 593, 594, 595] (by decide +kernel) (by decide +kernel)
set_option maxRecDepth 20000 in
theorem gL_law_X6_init : GoodIn wsL_law (wsX6_init) := ggL_law_X6_init
set_option maxRecDepth 20000 in
theorem ggL_law_L_isSo : GoodIn wsL_law wsL_isSo := goodIn_r _ [89, 90, 91, 88, 92, 93, 94, 95, 96, 97, 98, 99, 2, 100, 14, 101, 102, 103, 13, 104, 39, 105, 106, 107, 38, 108, 109, 110, 111, 112, 113, 66, 114, 115, 116, 30, 117, 51, 118, 119, 120, 121, 65, 122, 123, 124, 125, 126, 127, 128, 129, 130, 131, 132, 133, 134, 31, 135, 136, 137, 138, 139, 48, 49, 50, 140, 141, 142, 143, 144, 145, 146, 147, 148, 149, 150, 151, 152, 153, 154, 155, 156, 157, 158, 159, 63, 160, 161, 162, 163, 164, 165, 166, 167, 168, 169, 170, 171, 172, 173, 174, 175, 176, 177, 178, 179, 180, 181, 182, 183, 184, 185, 186, 35, 187, 188, 189, 190, 191, 192, 193, 194, 195, 196, 34, 197, 56, 198, 199, 200, 201, 202, 203, 204, 205, 206, 207, 23, 18, 208, 209, 210, 22, 211, 212, 213, 214, 215, 17, 216, 217, 218, 219, 220, 221, 40, 222, 223, 41, 224, 225, 226, 227, 228, 229, 230, 231, 232, 233, 234, 235, 236, 237, 238, 239, 240, 241, 242, 243, 244, 245, 246, 247, 248, 249, 250, 251, 252, 253, 254, 255, 256, 257, 258, 259, 260, 261, 262, 263, 264, 265, 266, 267, 268, 269, 270, 271, 272, 273, 274, 275, 276, 277, 278, 279, 280, 281, 282, 62, 283, 284, 285, 286, 287, 288, 289, 290, 291, 292, 293, 294, 295, 296, 297, 298, 299, 561, 562, 563, 564, 565, 566, 567, 568, 569, 570, 571, 572, 587, 588, 589, 590, 591, 592, 593, 594, 595, 583, 584, 585, 586, 576, 577, 578, 579, 580, 581, 582, 573, 574, 575] (by decide +kernel) (by decide +kernel)
set_option maxRecDepth 20000 in
theorem gL_law_L_isSo : GoodIn wsL_law (va_wsS RL 123 yL_isSo wsL_isSo) := goodIn_app (goodIn_of _ (by decide +kernel)) ggL_law_L_isSo
set_option maxRecDepth 20000 in
theorem ggL_law_L_areFirings : GoodIn wsL_law wsL_areFirings := goodIn_r _ [302, 3, 93, 94, 88, 95, 96, 303, 304, 305, 306, 307, 308, 2, 309, 14, 310, 311, 312, 13, 313, 314, 315, 189, 190, 191, 316, 317, 318, 319, 39, 31, 123, 124, 125, 38, 126, 66, 114, 115, 116, 30, 117, 51, 122, 320, 321, 322, 323, 64, 324, 119, 120, 121, 65, 325, 326, 327, 328, 68, 164, 165, 166, 329, 330, 331, 332, 333, 334, 335, 336, 229, 145, 146, 147, 109, 148, 149, 150, 151, 337, 338, 339, 340, 561, 562, 563, 564, 565, 566, 567, 568, 569, 570, 571, 572, 587, 588, 589, 590, 591, 592, 593, 594, 595, 583] (by decide +kernel) (by decide +kernel)
set_option maxRecDepth 20000 in
theorem gL_law_L_areFirings : GoodIn wsL_law (va_wsS RL 126 yL_areFirings wsL_areFirings) := goodIn_app (goodIn_of _ (by decide +kernel)) ggL_law_L_areFirings
set_option maxRecDepth 20000 in
theorem ggL_law_L_cell : GoodIn wsL_law wsL_cell := goodIn_r _ [343, 344] (by decide +kernel) (by decide +kernel)
set_option maxRecDepth 20000 in
theorem gL_law_L_cell : GoodIn wsL_law (va_wsS RL 130 yL_cell wsL_cell) := goodIn_app (goodIn_of _ (by decide +kernel)) ggL_law_L_cell
set_option maxRecDepth 20000 in
theorem ggL_law_L_low : GoodIn wsL_law wsL_low := goodIn_r _ [347, 348] (by decide +kernel) (by decide +kernel)
set_option maxRecDepth 20000 in
theorem gL_law_L_low : GoodIn wsL_law (va_wsS RL 23 yL_low wsL_low) := goodIn_app (goodIn_of _ (by decide +kernel)) ggL_law_L_low
set_option maxRecDepth 20000 in
theorem ggL_law_L_class1 : GoodIn wsL_law wsL_class1 := goodIn_r _ [351, 352, 345, 346, 88, 347, 348, 353, 354, 355, 2, 356, 18, 14, 357, 358, 359, 17, 360, 361, 362, 363, 364, 365, 80, 366, 367, 368, 13, 369, 31, 35, 39, 40, 41, 222, 42, 223, 370, 371, 372, 30, 373, 51, 374, 375, 49, 376, 377, 378, 379, 380, 381, 382, 383, 34, 384, 56, 202, 385, 386, 387, 388, 389, 38, 390, 62, 63, 64, 65, 66, 67, 68, 69, 109, 391, 392, 393, 394, 395, 396, 397, 398, 399, 217, 400, 401, 402, 403, 404, 405, 406, 407, 408, 270, 271, 272, 273, 187, 188, 189, 190, 191, 192, 193, 194, 195, 196, 197, 198, 199, 200, 201, 203, 115, 116, 117, 274, 275, 276, 277, 278, 409, 410, 411, 412, 413, 72, 73, 74, 414, 415, 416, 417, 418, 419, 420, 421, 422, 423, 424, 425, 230, 231, 232, 233, 234, 235, 236, 237, 114, 238, 239, 240, 241, 242, 243, 244, 426, 427, 428, 429, 430, 431, 432, 433, 434, 435, 436, 437, 438, 439, 440, 441, 442, 443, 444, 445, 446, 447, 448, 449, 450, 451, 452, 453, 454, 455, 259, 260, 261, 456, 457, 458, 93, 94, 95, 96, 459, 460, 461, 462, 561, 562, 563, 564, 573, 574, 575, 565, 566, 567, 568, 569, 570, 571, 572, 583, 584, 585, 586, 587, 588, 589, 590, 591, 592, 593, 594, 595] (by decide +kernel) (by decide +kernel)
set_option maxRecDepth 20000 in
theorem gL_law_L_class1 : GoodIn wsL_law (va_wsS RL 134 yL_class1 wsL_class1) := goodIn_app (goodIn_of _ (by decide +kernel)) ggL_law_L_class1
set_option maxRecDepth 20000 in
theorem ggL_law_L_pots : GoodIn wsL_law wsL_pots := goodIn_r _ [465, 345, 346, 88, 347, 348, 466, 467, 468, 2, 469, 18, 14, 357, 358, 359, 17, 360, 361, 362, 363, 364, 365, 80, 366, 367, 368, 13, 369, 31, 35, 39, 40, 41, 222, 42, 223, 370, 371, 372, 30, 373, 51, 374, 375, 49, 376, 377, 378, 379, 380, 381, 382, 383, 34, 384, 56, 202, 385, 386, 387, 388, 389, 38, 390, 62, 63, 64, 65, 66, 67, 68, 69, 109, 391, 470, 471, 472, 473, 249, 132, 133, 134, 105, 106, 107, 108, 110, 111, 112, 113, 114, 115, 116, 117, 118, 119, 120, 121, 135, 136, 137, 138, 139, 48, 50, 122, 140, 141, 142, 143, 144, 145, 146, 147, 148, 149, 150, 151, 152, 153, 154, 155, 156, 157, 158, 159, 160, 124, 125, 126, 71, 72, 73, 74, 396, 397, 398, 399, 217, 400, 474, 475, 476, 477, 478, 479, 480, 481, 123, 230, 231, 232, 233, 234, 235, 236, 237, 238, 239, 240, 241, 242, 243, 244, 482, 441, 442, 443, 439, 483, 484, 485, 486, 487, 488, 489, 490, 491, 492, 189, 190, 191, 493, 494, 495, 496, 497, 498, 499, 500, 501, 502, 503, 504, 505, 506, 507, 508, 509, 510, 511, 512, 513, 514, 314, 315, 229, 316, 317, 318, 319, 320, 321, 322, 323, 324, 325, 326, 327, 328, 251, 515, 516, 517, 518, 161, 162, 163, 93, 94, 95, 96, 164, 165, 166, 127, 128, 129, 130, 131, 459, 460, 461, 462, 456, 457, 458, 303, 304, 305, 519, 520, 521, 522, 523, 524, 525, 526, 527, 561, 562, 563, 564, 573, 574, 575, 565, 566, 567, 568, 569, 570, 571, 572, 583, 584, 585, 586, 587, 588, 589, 590, 591, 592, 593, 594, 595] (by decide +kernel) (by decide +kernel)
set_option maxRecDepth 20000 in
theorem gL_law_L_pots : GoodIn wsL_law (va_wsS RL 138 yL_pots wsL_pots) := goodIn_app (goodIn_of _ (by decide +kernel)) ggL_law_L_pots
set_option maxRecDepth 20000 in
theorem ggL_law_L_others : GoodIn wsL_law wsL_others := goodIn_r _ [530, 345, 346, 88, 347, 348, 531, 532, 533, 2, 534, 18, 14, 357, 358, 359, 17, 360, 361, 362, 363, 364, 365, 80, 366, 367, 368, 13, 369, 31, 35, 39, 40, 41, 222, 42, 223, 370, 371, 372, 30, 373, 51, 374, 375, 49, 376, 377, 378, 379, 380, 381, 382, 383, 34, 384, 56, 202, 385, 386, 387, 388, 389, 38, 390, 62, 63, 64, 65, 66, 67, 68, 69, 109, 391, 535, 536, 537, 538, 539, 540, 541, 190, 191, 122, 115, 116, 117, 71, 72, 73, 74, 396, 397, 398, 399, 217, 400, 93, 94, 95, 96, 459, 460, 461, 462, 542, 543, 544, 545, 546, 547, 548, 549, 550, 551, 552, 553, 228, 111, 112, 113, 114, 324, 119, 120, 121, 554, 176, 177, 178, 555, 494, 495, 496, 497, 498, 556, 557, 558, 559, 560, 453, 454, 455, 198, 199, 200, 201, 413, 561, 562, 563, 564, 573, 574, 575, 565, 566, 567, 568, 569, 570, 571, 572, 583, 584, 585, 586, 587, 588, 589, 590, 591, 592, 593, 594, 595] (by decide +kernel) (by decide +kernel)
set_option maxRecDepth 20000 in
theorem gL_law_L_others : GoodIn wsL_law (va_wsS RL 142 yL_others wsL_others) := goodIn_app (goodIn_of _ (by decide +kernel)) ggL_law_L_others
theorem dL_law_0 : decode cL_law 0 = .ok (.new 28, 3) := by decide +kernel
theorem dL_law_3 : decode cL_law 3 = .ok (.dup, 1) := by decide +kernel
theorem dL_law_4 : decode cL_law 4 = .ok (.invokespecial 122, 3) := by decide +kernel
theorem dL_law_7 : decode cL_law 7 = .ok (.astore_n 1, 1) := by decide +kernel
theorem dL_law_8 : decode cL_law 8 = .ok (.bipush 15, 2) := by decide +kernel
theorem dL_law_10 : decode cL_law 10 = .ok (.newarray .int, 2) := by decide +kernel
theorem dL_law_12 : decode cL_law 12 = .ok (.astore_n 2, 1) := by decide +kernel
theorem dL_law_13 : decode cL_law 13 = .ok (.bipush 20, 2) := by decide +kernel
theorem dL_law_15 : decode cL_law 15 = .ok (.newarray .long, 2) := by decide +kernel
theorem dL_law_17 : decode cL_law 17 = .ok (.astore_n 3, 1) := by decide +kernel
theorem dL_law_18 : decode cL_law 18 = .ok (.bipush 31, 2) := by decide +kernel
theorem dL_law_20 : decode cL_law 20 = .ok (.newarray .int, 2) := by decide +kernel
theorem dL_law_22 : decode cL_law 22 = .ok (.astore 4, 2) := by decide +kernel
theorem dL_law_24 : decode cL_law 24 = .ok (.bipush 20, 2) := by decide +kernel
theorem dL_law_26 : decode cL_law 26 = .ok (.newarray .int, 2) := by decide +kernel
theorem dL_law_28 : decode cL_law 28 = .ok (.astore 5, 2) := by decide +kernel
theorem dL_law_30 : decode cL_law 30 = .ok (.aload_n 2, 1) := by decide +kernel
theorem dL_law_31 : decode cL_law 31 = .ok (.iconst 1, 1) := by decide +kernel
theorem dL_law_32 : decode cL_law 32 = .ok (.iconst 1, 1) := by decide +kernel
theorem dL_law_33 : decode cL_law 33 = .ok (.iastore, 1) := by decide +kernel
theorem dL_law_34 : decode cL_law 34 = .ok (.aload_n 2, 1) := by decide +kernel
theorem dL_law_35 : decode cL_law 35 = .ok (.iconst 2, 1) := by decide +kernel
theorem dL_law_36 : decode cL_law 36 = .ok (.iconst 2, 1) := by decide +kernel
theorem dL_law_37 : decode cL_law 37 = .ok (.iastore, 1) := by decide +kernel
theorem dL_law_38 : decode cL_law 38 = .ok (.aload_n 2, 1) := by decide +kernel
theorem dL_law_39 : decode cL_law 39 = .ok (.iconst 3, 1) := by decide +kernel
theorem dL_law_40 : decode cL_law 40 = .ok (.bipush 8, 2) := by decide +kernel
theorem dL_law_42 : decode cL_law 42 = .ok (.iastore, 1) := by decide +kernel
theorem dL_law_43 : decode cL_law 43 = .ok (.aload_n 2, 1) := by decide +kernel
theorem dL_law_44 : decode cL_law 44 = .ok (.iconst 4, 1) := by decide +kernel
theorem dL_law_45 : decode cL_law 45 = .ok (.bipush 120, 2) := by decide +kernel
theorem dL_law_47 : decode cL_law 47 = .ok (.iastore, 1) := by decide +kernel
theorem dL_law_48 : decode cL_law 48 = .ok (.aload_n 2, 1) := by decide +kernel
theorem dL_law_49 : decode cL_law 49 = .ok (.iconst 5, 1) := by decide +kernel
theorem dL_law_50 : decode cL_law 50 = .ok (.iconst 3, 1) := by decide +kernel
theorem dL_law_51 : decode cL_law 51 = .ok (.iastore, 1) := by decide +kernel
theorem dL_law_52 : decode cL_law 52 = .ok (.bipush 11, 2) := by decide +kernel
theorem dL_law_54 : decode cL_law 54 = .ok (.istore 6, 2) := by decide +kernel
theorem dL_law_56 : decode cL_law 56 = .ok (.iload 6, 2) := by decide +kernel
theorem dL_law_58 : decode cL_law 58 = .ok (.bipush 15, 2) := by decide +kernel
theorem dL_law_60 : decode cL_law 60 = .ok (.if_icmp .ge 15, 3) := by decide +kernel
theorem dL_law_63 : decode cL_law 63 = .ok (.aload_n 2, 1) := by decide +kernel
theorem dL_law_64 : decode cL_law 64 = .ok (.iload 6, 2) := by decide +kernel
theorem dL_law_66 : decode cL_law 66 = .ok (.bipush 20, 2) := by decide +kernel
theorem dL_law_68 : decode cL_law 68 = .ok (.iastore, 1) := by decide +kernel
theorem dL_law_69 : decode cL_law 69 = .ok (.iinc 6 1, 3) := by decide +kernel
theorem dL_law_72 : decode cL_law 72 = .ok (.goto (-16), 3) := by decide +kernel
theorem dL_law_75 : decode cL_law 75 = .ok (.aload_n 1, 1) := by decide +kernel
theorem dL_law_76 : decode cL_law 76 = .ok (.aload_n 2, 1) := by decide +kernel
theorem dL_law_77 : decode cL_law 77 = .ok (.aload_n 3, 1) := by decide +kernel
theorem dL_law_78 : decode cL_law 78 = .ok (.aload 4, 2) := by decide +kernel
theorem dL_law_80 : decode cL_law 80 = .ok (.aload 5, 2) := by decide +kernel
theorem dL_law_82 : decode cL_law 82 = .ok (.invokestatic 123, 3) := by decide +kernel
theorem dL_law_85 : decode cL_law 85 = .ok (.ifCond .eq 12, 3) := by decide +kernel
theorem dL_law_88 : decode cL_law 88 = .ok (.aload_n 1, 1) := by decide +kernel
theorem dL_law_89 : decode cL_law 89 = .ok (.aload_n 2, 1) := by decide +kernel
theorem dL_law_90 : decode cL_law 90 = .ok (.aload_n 3, 1) := by decide +kernel
theorem dL_law_91 : decode cL_law 91 = .ok (.invokestatic 126, 3) := by decide +kernel
theorem dL_law_94 : decode cL_law 94 = .ok (.ifCond .ne 5, 3) := by decide +kernel
theorem dL_law_97 : decode cL_law 97 = .ok (.iconst 0, 1) := by decide +kernel
theorem dL_law_98 : decode cL_law 98 = .ok (.ireturn, 1) := by decide +kernel
theorem dL_law_99 : decode cL_law 99 = .ok (.iconst 0, 1) := by decide +kernel
theorem dL_law_100 : decode cL_law 100 = .ok (.istore 6, 2) := by decide +kernel
theorem dL_law_102 : decode cL_law 102 = .ok (.iload 6, 2) := by decide +kernel
theorem dL_law_104 : decode cL_law 104 = .ok (.bipush 56, 2) := by decide +kernel
theorem dL_law_106 : decode cL_law 106 = .ok (.if_icmp .ge 160, 3) := by decide +kernel
theorem dL_law_109 : decode cL_law 109 = .ok (.aload_n 0, 1) := by decide +kernel
theorem dL_law_110 : decode cL_law 110 = .ok (.iconst 2, 1) := by decide +kernel
theorem dL_law_111 : decode cL_law 111 = .ok (.iload 6, 2) := by decide +kernel
theorem dL_law_113 : decode cL_law 113 = .ok (.imul, 1) := by decide +kernel
theorem dL_law_114 : decode cL_law 114 = .ok (.invokestatic 130, 3) := by decide +kernel
theorem dL_law_117 : decode cL_law 117 = .ok (.istore 7, 2) := by decide +kernel
theorem dL_law_119 : decode cL_law 119 = .ok (.aload_n 0, 1) := by decide +kernel
theorem dL_law_120 : decode cL_law 120 = .ok (.iconst 2, 1) := by decide +kernel
theorem dL_law_121 : decode cL_law 121 = .ok (.iload 6, 2) := by decide +kernel
theorem dL_law_123 : decode cL_law 123 = .ok (.imul, 1) := by decide +kernel
theorem dL_law_124 : decode cL_law 124 = .ok (.iconst 1, 1) := by decide +kernel
theorem dL_law_125 : decode cL_law 125 = .ok (.iadd, 1) := by decide +kernel
theorem dL_law_126 : decode cL_law 126 = .ok (.invokestatic 130, 3) := by decide +kernel
theorem dL_law_129 : decode cL_law 129 = .ok (.istore 8, 2) := by decide +kernel
theorem dL_law_131 : decode cL_law 131 = .ok (.iload 6, 2) := by decide +kernel
theorem dL_law_133 : decode cL_law 133 = .ok (.iconst 3, 1) := by decide +kernel
theorem dL_law_134 : decode cL_law 134 = .ok (.if_icmp .ge 7, 3) := by decide +kernel
theorem dL_law_137 : decode cL_law 137 = .ok (.iconst 0, 1) := by decide +kernel
theorem dL_law_138 : decode cL_law 138 = .ok (.goto 12, 3) := by decide +kernel
theorem dL_law_141 : decode cL_law 141 = .ok (.iload 7, 2) := by decide +kernel
theorem dL_law_143 : decode cL_law 143 = .ok (.bipush 7, 2) := by decide +kernel
theorem dL_law_145 : decode cL_law 145 = .ok (.ishr, 1) := by decide +kernel
theorem dL_law_146 : decode cL_law 146 = .ok (.iconst 5, 1) := by decide +kernel
theorem dL_law_147 : decode cL_law 147 = .ok (.invokestatic 23, 3) := by decide +kernel
theorem dL_law_150 : decode cL_law 150 = .ok (.istore 9, 2) := by decide +kernel
theorem dL_law_152 : decode cL_law 152 = .ok (.iload 9, 2) := by decide +kernel
theorem dL_law_154 : decode cL_law 154 = .ok (.iconst 2, 1) := by decide +kernel
theorem dL_law_155 : decode cL_law 155 = .ok (.if_icmp .ge 30, 3) := by decide +kernel
theorem dL_law_158 : decode cL_law 158 = .ok (.aload_n 1, 1) := by decide +kernel
theorem dL_law_159 : decode cL_law 159 = .ok (.iload 6, 2) := by decide +kernel
theorem dL_law_161 : decode cL_law 161 = .ok (.iconst 3, 1) := by decide +kernel
theorem dL_law_162 : decode cL_law 162 = .ok (.if_icmp .ge 7, 3) := by decide +kernel
theorem dL_law_165 : decode cL_law 165 = .ok (.iconst 0, 1) := by decide +kernel
theorem dL_law_166 : decode cL_law 166 = .ok (.goto 5, 3) := by decide +kernel
theorem dL_law_169 : decode cL_law 169 = .ok (.iload 7, 2) := by decide +kernel
theorem dL_law_171 : decode cL_law 171 = .ok (.iload 8, 2) := by decide +kernel
theorem dL_law_173 : decode cL_law 173 = .ok (.aload_n 2, 1) := by decide +kernel
theorem dL_law_174 : decode cL_law 174 = .ok (.aload_n 3, 1) := by decide +kernel
theorem dL_law_175 : decode cL_law 175 = .ok (.aload 4, 2) := by decide +kernel
theorem dL_law_177 : decode cL_law 177 = .ok (.aload 5, 2) := by decide +kernel
theorem dL_law_179 : decode cL_law 179 = .ok (.invokestatic 134, 3) := by decide +kernel
theorem dL_law_182 : decode cL_law 182 = .ok (.goto 38, 3) := by decide +kernel
theorem dL_law_185 : decode cL_law 185 = .ok (.iload 9, 2) := by decide +kernel
theorem dL_law_187 : decode cL_law 187 = .ok (.iconst 4, 1) := by decide +kernel
theorem dL_law_188 : decode cL_law 188 = .ok (.if_icmp .ge 18, 3) := by decide +kernel
theorem dL_law_191 : decode cL_law 191 = .ok (.aload_n 1, 1) := by decide +kernel
theorem dL_law_192 : decode cL_law 192 = .ok (.iload 7, 2) := by decide +kernel
theorem dL_law_194 : decode cL_law 194 = .ok (.iload 8, 2) := by decide +kernel
theorem dL_law_196 : decode cL_law 196 = .ok (.aload_n 2, 1) := by decide +kernel
theorem dL_law_197 : decode cL_law 197 = .ok (.aload_n 3, 1) := by decide +kernel
theorem dL_law_198 : decode cL_law 198 = .ok (.aload 5, 2) := by decide +kernel
theorem dL_law_200 : decode cL_law 200 = .ok (.invokestatic 138, 3) := by decide +kernel
theorem dL_law_203 : decode cL_law 203 = .ok (.goto 17, 3) := by decide +kernel
theorem dL_law_206 : decode cL_law 206 = .ok (.aload_n 1, 1) := by decide +kernel
theorem dL_law_207 : decode cL_law 207 = .ok (.iload 7, 2) := by decide +kernel
theorem dL_law_209 : decode cL_law 209 = .ok (.iload 8, 2) := by decide +kernel
theorem dL_law_211 : decode cL_law 211 = .ok (.aload_n 2, 1) := by decide +kernel
theorem dL_law_212 : decode cL_law 212 = .ok (.aload_n 3, 1) := by decide +kernel
theorem dL_law_213 : decode cL_law 213 = .ok (.aload 4, 2) := by decide +kernel
theorem dL_law_215 : decode cL_law 215 = .ok (.aload 5, 2) := by decide +kernel
theorem dL_law_217 : decode cL_law 217 = .ok (.invokestatic 142, 3) := by decide +kernel
theorem dL_law_220 : decode cL_law 220 = .ok (.istore 10, 2) := by decide +kernel
theorem dL_law_222 : decode cL_law 222 = .ok (.iload 10, 2) := by decide +kernel
theorem dL_law_224 : decode cL_law 224 = .ok (.ifCond .eq 34, 3) := by decide +kernel
theorem dL_law_227 : decode cL_law 227 = .ok (.aload_n 1, 1) := by decide +kernel
theorem dL_law_228 : decode cL_law 228 = .ok (.aload_n 2, 1) := by decide +kernel
theorem dL_law_229 : decode cL_law 229 = .ok (.aload_n 3, 1) := by decide +kernel
theorem dL_law_230 : decode cL_law 230 = .ok (.aload 4, 2) := by decide +kernel
theorem dL_law_232 : decode cL_law 232 = .ok (.aload 5, 2) := by decide +kernel
theorem dL_law_234 : decode cL_law 234 = .ok (.invokestatic 123, 3) := by decide +kernel
theorem dL_law_237 : decode cL_law 237 = .ok (.ifCond .eq 21, 3) := by decide +kernel
theorem dL_law_240 : decode cL_law 240 = .ok (.iload 6, 2) := by decide +kernel
theorem dL_law_242 : decode cL_law 242 = .ok (.bipush 6, 2) := by decide +kernel
theorem dL_law_244 : decode cL_law 244 = .ok (.irem, 1) := by decide +kernel
theorem dL_law_245 : decode cL_law 245 = .ok (.iconst 5, 1) := by decide +kernel
theorem dL_law_246 : decode cL_law 246 = .ok (.if_icmp .ne 14, 3) := by decide +kernel
theorem dL_law_249 : decode cL_law 249 = .ok (.aload_n 1, 1) := by decide +kernel
theorem dL_law_250 : decode cL_law 250 = .ok (.aload_n 2, 1) := by decide +kernel
theorem dL_law_251 : decode cL_law 251 = .ok (.aload_n 3, 1) := by decide +kernel
theorem dL_law_252 : decode cL_law 252 = .ok (.invokestatic 126, 3) := by decide +kernel
theorem dL_law_255 : decode cL_law 255 = .ok (.ifCond .ne 5, 3) := by decide +kernel
theorem dL_law_258 : decode cL_law 258 = .ok (.iconst 0, 1) := by decide +kernel
theorem dL_law_259 : decode cL_law 259 = .ok (.ireturn, 1) := by decide +kernel
theorem dL_law_260 : decode cL_law 260 = .ok (.iinc 6 1, 3) := by decide +kernel
theorem dL_law_263 : decode cL_law 263 = .ok (.goto (-161), 3) := by decide +kernel
theorem dL_law_266 : decode cL_law 266 = .ok (.aload_n 1, 1) := by decide +kernel
theorem dL_law_267 : decode cL_law 267 = .ok (.aload_n 2, 1) := by decide +kernel
theorem dL_law_268 : decode cL_law 268 = .ok (.aload_n 3, 1) := by decide +kernel
theorem dL_law_269 : decode cL_law 269 = .ok (.invokestatic 126, 3) := by decide +kernel
theorem dL_law_272 : decode cL_law 272 = .ok (.ireturn, 1) := by decide +kernel
