set_option maxRecDepth 20000 in
theorem gL_law_L_class1 : GoodIn wsL_law (va_wsS RL 134 yL_class1 wsL_class1) := goodIn_app (goodIn_of _ (by decide +kernel)) ggL_law_L_class1
set_option maxRecDepth 20000 in
theorem gc_L_pots : GoodIn wsL_law [Cond.code yL_pots cL_pots 14 (some .boolean)] := goodIn_1 (List.mem_append_left _ (List.mem_append_left _ (List.mem_append_left _ (List.mem_append_left _ (List.mem_append_left _ (List.mem_append_left _ (List.mem_append_left _ (List.mem_append_left _ (List.mem_append_right _ (List.mem_append_right _ (List.mem_append_right _ (List.mem_append_right _ (List.mem_append_right _ (List.mem_append_right _ (List.mem_append_right _ (List.mem_append_right _ (List.mem_append_right _ (List.mem_append_right _ (List.mem_append_right _ (List.mem_append_right _ (List.mem_append_right _ (List.mem_append_right _ (List.mem_append_right _ (List.mem_append_right _ (List.mem_append_right _ (List.mem_append_right _ (List.mem_append_right _ (List.mem_append_left _ (List.mem_of_getElem? (i := 9) rfl))))))))))))))))))))))))))))) (by decide +kernel)
set_option maxRecDepth 20000 in
theorem g1_L_pots : GoodIn wsL_law wsL_pots_r1 := goodIn_r _ [345, 346, 88, 347, 348, 466, 467, 468, 2, 469, 18, 14, 357, 358, 359, 17, 360, 361, 362, 363, 364, 365, 80, 366] (by decide +kernel) (by decide +kernel)
set_option maxRecDepth 20000 in
theorem g2_L_pots : GoodIn wsL_law wsL_pots_r2 := goodIn_r _ [367, 368, 13, 369, 31, 35, 39, 40, 41, 222, 42, 223, 370, 371, 372, 30, 373, 51, 374, 375, 49, 376, 377, 378] (by decide +kernel) (by decide +kernel)
set_option maxRecDepth 20000 in
theorem g3_L_pots : GoodIn wsL_law wsL_pots_r3 := goodIn_r _ [379, 380, 381, 382, 383, 34, 384, 56, 202, 385, 386, 387, 388, 389, 38, 390, 62, 63, 64, 65, 66, 67, 68, 69] (by decide +kernel) (by decide +kernel)
set_option maxRecDepth 20000 in
theorem g4_L_pots : GoodIn wsL_law wsL_pots_r4 := goodIn_r _ [109, 391, 470, 471, 472, 473, 249, 132, 133, 134, 105, 106, 107, 108, 110, 111, 112, 113, 114, 115, 116, 117, 118, 119] (by decide +kernel) (by decide +kernel)
set_option maxRecDepth 20000 in
theorem g5_L_pots : GoodIn wsL_law wsL_pots_r5 := goodIn_r _ [120, 121, 135, 136, 137, 138, 139, 48, 50, 122, 140, 141, 142, 143, 144, 145, 146, 147, 148, 149, 150, 151, 152, 153] (by decide +kernel) (by decide +kernel)
set_option maxRecDepth 20000 in
theorem g6_L_pots : GoodIn wsL_law wsL_pots_r6 := goodIn_r _ [154, 155, 156, 157, 158, 159, 160, 124, 125, 126, 71, 72, 73, 74, 396, 397, 398, 399, 217, 400, 474, 475, 476, 477] (by decide +kernel) (by decide +kernel)
set_option maxRecDepth 20000 in
theorem g7_L_pots : GoodIn wsL_law wsL_pots_r7 := goodIn_r _ [478, 479, 480, 481, 123, 230, 231, 232, 233, 234, 235, 236, 237, 238, 239, 240, 241, 242, 243, 244, 482, 441, 442, 443] (by decide +kernel) (by decide +kernel)
set_option maxRecDepth 20000 in
theorem g8_L_pots : GoodIn wsL_law wsL_pots_r8 := goodIn_r _ [439, 483, 484, 485, 486, 487, 488, 489, 490, 491, 492, 189, 190, 191, 493, 494, 495, 496, 497, 498, 499, 500, 501, 502] (by decide +kernel) (by decide +kernel)
set_option maxRecDepth 20000 in
theorem g9_L_pots : GoodIn wsL_law wsL_pots_r9 := goodIn_r _ [503, 504, 505, 506, 507, 508, 509, 510, 511, 512, 513, 514, 314, 315, 229, 316, 317, 318, 319, 320, 321, 322, 323, 324] (by decide +kernel) (by decide +kernel)
set_option maxRecDepth 20000 in
theorem g10_L_pots : GoodIn wsL_law wsL_pots_r10 := goodIn_r _ [325, 326, 327, 328, 251, 515, 516, 517, 518, 161, 162, 163, 93, 94, 95, 96, 164, 165, 166, 127, 128, 129, 130, 131] (by decide +kernel) (by decide +kernel)
set_option maxRecDepth 20000 in
theorem g11_L_pots : GoodIn wsL_law wsL_pots_r11 := goodIn_r _ [459, 460, 461, 462, 456, 457, 458, 303, 304, 305, 519, 520, 521, 522, 523, 524, 525, 526, 527] (by decide +kernel) (by decide +kernel)
set_option maxRecDepth 20000 in
theorem gt6_L_pots : GoodIn wsL_law wsX60 := goodIn_r _ [561, 562, 563, 564] (by decide +kernel) (by decide +kernel)
set_option maxRecDepth 20000 in
theorem gt1_L_pots : GoodIn wsL_law wsX10 := goodIn_r _ [573, 574, 575] (by decide +kernel) (by decide +kernel)
set_option maxRecDepth 20000 in
theorem gt5_L_pots : GoodIn wsL_law wsX50 := goodIn_r _ [565, 566, 567, 568, 569, 570, 571, 572] (by decide +kernel) (by decide +kernel)
set_option maxRecDepth 20000 in
theorem gt4_L_pots : GoodIn wsL_law wsX40 := goodIn_r _ [583] (by decide +kernel) (by decide +kernel)
set_option maxRecDepth 20000 in
theorem gt0_L_pots : GoodIn wsL_law wsX00 := goodIn_r _ [584, 585, 586] (by decide +kernel) (by decide +kernel)
set_option maxRecDepth 20000 in
theorem gt3_L_pots : GoodIn wsL_law wsX30 := goodIn_r _ [587, 588, 589, 590, 591, 592, 593, 594, 595] (by decide +kernel) (by decide +kernel)
set_option maxRecDepth 20000 in
theorem ggL_law_L_pots : GoodIn wsL_law wsL_pots := goodIn_app gc_L_pots (goodIn_app (goodIn_app (goodIn_app (goodIn_app (goodIn_app (goodIn_app (goodIn_app g1_L_pots (goodIn_app g2_L_pots (goodIn_app g3_L_pots (goodIn_app g4_L_pots (goodIn_app g5_L_pots (goodIn_app g6_L_pots (goodIn_app g7_L_pots (goodIn_app g8_L_pots (goodIn_app g9_L_pots (goodIn_app g10_L_pots (g11_L_pots))))))))))) gt6_L_pots) gt1_L_pots) gt5_L_pots) gt4_L_pots) gt0_L_pots) gt3_L_pots)
