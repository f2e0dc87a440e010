set_option maxRecDepth 20000 in
theorem gL_law_L_isSo : GoodIn wsL_law (va_wsS RL 123 yL_isSo wsL_isSo) := goodIn_app (goodIn_of _ (by decide +kernel)) ggL_law_L_isSo
set_option maxRecDepth 20000 in
theorem ggL_law_L_areFirings : GoodIn wsL_law wsL_areFirings := goodIn_r _ [302, 3, 93, 94, 88, 95, 96, 303, 304, 305, 306, 307, 308, 2, 309, 14, 310, 311, 312, 13, 313, 314, 315, 189, 190, 191, 316, 317, 318, 319, 39, 31, 123, 124, 125, 38, 126, 66, 114, 115, 116, 30, 117, 51, 122, 320, 321, 322, 323, 64, 324, 119, 120, 121, 65, 325, 326, 327, 328, 68, 164, 165, 166, 329, 330, 331, 332, 333, 334, 335, 336, 229, 145, 146, 147, 109, 148, 149, 150, 151, 337, 338, 339, 340, 561, 562, 563, 564, 565, 566, 567, 568, 569, 570, 571, 572, 587, 588, 589, 590, 591, 592, 593, 594, 595, 583] (by decide +kernel) (by decide +kernel)
set_option maxRecDepth 20000 in
theorem gL_law_L_areFirings : GoodIn wsL_law (va_wsS RL 126 yL_areFirings wsL_areFirings) := goodIn_app (goodIn_of _ (by decide +kernel)) ggL_law_L_areFirings
set_option maxRecDepth 20000 in
theorem ggL_law_L_cell : GoodIn wsL_law wsL_cell := goodIn_r _ [343, 344] (by decide +kernel) (by decide +kernel)
set_option maxRecDepth 20000 in
theorem gL_law_L_cell : GoodIn wsL_law (va_wsS RL 130 yL_cell wsL_cell) := goodIn_app (goodIn_of _ (by decide +kernel)) ggL_law_L_cell
set_option maxRecDepth 20000 in
theorem ggL_law_L_low : GoodIn wsL_law wsL_low := goodIn_r _ [347, 348] (by decide +kernel) (by decide +kernel)
set_option maxRecDepth 20000 in
theorem gL_law_L_low : GoodIn wsL_law (va_wsS RL 23 yL_low wsL_low) := goodIn_app (goodIn_of _ (by decide +kernel)) ggL_law_L_low
set_option maxRecDepth 20000 in
theorem gc_L_class1 : GoodIn wsL_law [Cond.code yL_class1 cL_class1 12 (some .boolean)] := goodIn_1 (List.mem_append_left _ (List.mem_append_left _ (List.mem_append_left _ (List.mem_append_left _ (List.mem_append_left _ (List.mem_append_left _ (List.mem_append_left _ (List.mem_append_left _ (List.mem_append_right _ (List.mem_append_right _ (List.mem_append_right _ (List.mem_append_right _ (List.mem_append_right _ (List.mem_append_right _ (List.mem_append_right _ (List.mem_append_right _ (List.mem_append_right _ (List.mem_append_right _ (List.mem_append_right _ (List.mem_append_right _ (List.mem_append_right _ (List.mem_append_right _ (List.mem_append_left _ (List.mem_of_getElem? (i := 15) rfl)))))))))))))))))))))))) (by decide +kernel)
set_option maxRecDepth 20000 in
theorem g1_L_class1 : GoodIn wsL_law wsL_class1_r1 := goodIn_r _ [352, 345, 346, 88, 347, 348, 353, 354, 355, 2, 356, 18, 14, 357, 358, 359, 17, 360, 361, 362, 363, 364, 365, 80] (by decide +kernel) (by decide +kernel)
set_option maxRecDepth 20000 in
theorem g2_L_class1 : GoodIn wsL_law wsL_class1_r2 := goodIn_r _ [366, 367, 368, 13, 369, 31, 35, 39, 40, 41, 222, 42, 223, 370, 371, 372, 30, 373, 51, 374, 375, 49, 376, 377] (by decide +kernel) (by decide +kernel)
set_option maxRecDepth 20000 in
theorem g3_L_class1 : GoodIn wsL_law wsL_class1_r3 := goodIn_r _ [378, 379, 380, 381, 382, 383, 34, 384, 56, 202, 385, 386, 387, 388, 389, 38, 390, 62, 63, 64, 65, 66, 67, 68] (by decide +kernel) (by decide +kernel)
set_option maxRecDepth 20000 in
theorem g4_L_class1 : GoodIn wsL_law wsL_class1_r4 := goodIn_r _ [69, 109, 391, 392, 393, 394, 395, 396, 397, 398, 399, 217, 400, 401, 402, 403, 404, 405, 406, 407, 408, 270, 271, 272] (by decide +kernel) (by decide +kernel)
set_option maxRecDepth 20000 in
theorem g5_L_class1 : GoodIn wsL_law wsL_class1_r5 := goodIn_r _ [273, 187, 188, 189, 190, 191, 192, 193, 194, 195, 196, 197, 198, 199, 200, 201, 203, 115, 116, 117, 274, 275, 276, 277] (by decide +kernel) (by decide +kernel)
set_option maxRecDepth 20000 in
theorem g6_L_class1 : GoodIn wsL_law wsL_class1_r6 := goodIn_r _ [278, 409, 410, 411, 412, 413, 72, 73, 74, 414, 415, 416, 417, 418, 419, 420, 421, 422, 423, 424, 425, 230, 231, 232] (by decide +kernel) (by decide +kernel)
set_option maxRecDepth 20000 in
theorem g7_L_class1 : GoodIn wsL_law wsL_class1_r7 := goodIn_r _ [233, 234, 235, 236, 237, 114, 238, 239, 240, 241, 242, 243, 244, 426, 427, 428, 429, 430, 431, 432, 433, 434, 435, 436] (by decide +kernel) (by decide +kernel)
set_option maxRecDepth 20000 in
theorem g8_L_class1 : GoodIn wsL_law wsL_class1_r8 := goodIn_r _ [437, 438, 439, 440, 441, 442, 443, 444, 445, 446, 447, 448, 449, 450, 451, 452, 453, 454, 455, 259, 260, 261, 456, 457] (by decide +kernel) (by decide +kernel)
set_option maxRecDepth 20000 in
theorem g9_L_class1 : GoodIn wsL_law wsL_class1_r9 := goodIn_r _ [458, 93, 94, 95, 96, 459, 460, 461, 462] (by decide +kernel) (by decide +kernel)
set_option maxRecDepth 20000 in
theorem gt6_L_class1 : GoodIn wsL_law wsX60 := goodIn_r _ [561, 562, 563, 564] (by decide +kernel) (by decide +kernel)
set_option maxRecDepth 20000 in
theorem gt1_L_class1 : GoodIn wsL_law wsX10 := goodIn_r _ [573, 574, 575] (by decide +kernel) (by decide +kernel)
set_option maxRecDepth 20000 in
theorem gt5_L_class1 : GoodIn wsL_law wsX50 := goodIn_r _ [565, 566, 567, 568, 569, 570, 571, 572] (by decide +kernel) (by decide +kernel)
set_option maxRecDepth 20000 in
theorem gt4_L_class1 : GoodIn wsL_law wsX40 := goodIn_r _ [583] (by decide +kernel) (by decide +kernel)
set_option maxRecDepth 20000 in
theorem gt0_L_class1 : GoodIn wsL_law wsX00 := goodIn_r _ [584, 585, 586] (by decide +kernel) (by decide +kernel)
set_option maxRecDepth 20000 in
theorem gt3_L_class1 : GoodIn wsL_law wsX30 := goodIn_r _ [587, 588, 589, 590, 591, 592, 593, 594, 595] (by decide +kernel) (by decide +kernel)
set_option maxRecDepth 20000 in
theorem ggL_law_L_class1 : GoodIn wsL_law wsL_class1 := goodIn_app gc_L_class1 (goodIn_app (goodIn_app (goodIn_app (goodIn_app (goodIn_app (goodIn_app (goodIn_app g1_L_class1 (goodIn_app g2_L_class1 (goodIn_app g3_L_class1 (goodIn_app g4_L_class1 (goodIn_app g5_L_class1 (goodIn_app g6_L_class1 (goodIn_app g7_L_class1 (goodIn_app g8_L_class1 (g9_L_class1))))))))) gt6_L_class1) gt1_L_class1) gt5_L_class1) gt4_L_class1) gt0_L_class1) gt3_L_class1)
