theorem goodIn_1 {big : List Cond} {w : Cond} (hm : w ∈ big) (hg : goodWord w = true) : GoodIn big [w] := fun v h => by
  rw [List.mem_singleton.mp h]
  exact ⟨hm, good_of_word hg⟩
set_option maxRecDepth 20000 in
theorem ggL_law_X6_init : GoodIn wsL_law wsX6_init := goodIn_r _ [7, 8, 9, 10, 11, 12, 13, 14, 15, 16, 17, 18, 19, 20, 21, 22, 23, 24, 25, 26, 27, 28, 29, 30, 31, 32, 33, 34, 35, 36, 37, 38, 39, 40, 41, 42, 43, 44, 45, 46, 47, 48, 49, 50, 3, 51, 52, 53, 54, 55, 56, 57, 58, 59, 60, 61, 62, 63, 64, 65, 66, 67, 68, 69, 70, 71, 72, 73, 74, 75, 76, 77, 78, 79, 80, 81, 82, 83, 84, 85, 565, 566, 567, 568, 569, 570, 571, 572, 561, 562, 563, 564, 573, 574, 575, 576, 577, 578, 579, 580, 581, 582, 583, 584, 585, 586, 587, 588, 589, 590, 591, 592, 593, 594, 595] (by decide +kernel) (by decide +kernel)
set_option maxRecDepth 20000 in
theorem gL_law_X6_init : GoodIn wsL_law (wsX6_init) := ggL_law_X6_init
set_option maxRecDepth 20000 in
theorem gc_L_isSo : GoodIn wsL_law [Cond.code yL_isSo cL_isSo 10 (some .boolean)] := goodIn_1 (List.mem_append_left _ (List.mem_append_left _ (List.mem_append_left _ (List.mem_append_left _ (List.mem_append_left _ (List.mem_append_left _ (List.mem_append_left _ (List.mem_append_left _ (List.mem_append_right _ (List.mem_append_right _ (List.mem_append_right _ (List.mem_append_left _ (List.mem_of_getElem? (i := 17) rfl))))))))))))) (by decide +kernel)
set_option maxRecDepth 20000 in
theorem g1_L_isSo : GoodIn wsL_law wsL_isSo_r1 := goodIn_r _ [90, 91, 88, 92, 93, 94, 95, 96, 97, 98, 99, 2, 100, 14, 101, 102, 103, 13, 104, 39, 105, 106, 107, 38] (by decide +kernel) (by decide +kernel)
set_option maxRecDepth 20000 in
theorem g2_L_isSo : GoodIn wsL_law wsL_isSo_r2 := goodIn_r _ [108, 109, 110, 111, 112, 113, 66, 114, 115, 116, 30, 117, 51, 118, 119, 120, 121, 65, 122, 123, 124, 125, 126, 127] (by decide +kernel) (by decide +kernel)
set_option maxRecDepth 20000 in
theorem g3_L_isSo : GoodIn wsL_law wsL_isSo_r3 := goodIn_r _ [128, 129, 130, 131, 132, 133, 134, 31, 135, 136, 137, 138, 139, 48, 49, 50, 140, 141, 142, 143, 144, 145, 146, 147] (by decide +kernel) (by decide +kernel)
set_option maxRecDepth 20000 in
theorem g4_L_isSo : GoodIn wsL_law wsL_isSo_r4 := goodIn_r _ [148, 149, 150, 151, 152, 153, 154, 155, 156, 157, 158, 159, 63, 160, 161, 162, 163, 164, 165, 166, 167, 168, 169, 170] (by decide +kernel) (by decide +kernel)
set_option maxRecDepth 20000 in
theorem g5_L_isSo : GoodIn wsL_law wsL_isSo_r5 := goodIn_r _ [171, 172, 173, 174, 175, 176, 177, 178, 179, 180, 181, 182, 183, 184, 185, 186, 35, 187, 188, 189, 190, 191, 192, 193] (by decide +kernel) (by decide +kernel)
set_option maxRecDepth 20000 in
theorem g6_L_isSo : GoodIn wsL_law wsL_isSo_r6 := goodIn_r _ [194, 195, 196, 34, 197, 56, 198, 199, 200, 201, 202, 203, 204, 205, 206, 207, 23, 18, 208, 209, 210, 22, 211, 212] (by decide +kernel) (by decide +kernel)
set_option maxRecDepth 20000 in
theorem g7_L_isSo : GoodIn wsL_law wsL_isSo_r7 := goodIn_r _ [213, 214, 215, 17, 216, 217, 218, 219, 220, 221, 40, 222, 223, 41, 224, 225, 226, 227, 228, 229, 230, 231, 232, 233] (by decide +kernel) (by decide +kernel)
set_option maxRecDepth 20000 in
theorem g8_L_isSo : GoodIn wsL_law wsL_isSo_r8 := goodIn_r _ [234, 235, 236, 237, 238, 239, 240, 241, 242, 243, 244, 245, 246, 247, 248, 249, 250, 251, 252, 253, 254, 255, 256, 257] (by decide +kernel) (by decide +kernel)
set_option maxRecDepth 20000 in
theorem g9_L_isSo : GoodIn wsL_law wsL_isSo_r9 := goodIn_r _ [258, 259, 260, 261, 262, 263, 264, 265, 266, 267, 268, 269, 270, 271, 272, 273, 274, 275, 276, 277, 278, 279, 280, 281] (by decide +kernel) (by decide +kernel)
set_option maxRecDepth 20000 in
theorem g10_L_isSo : GoodIn wsL_law wsL_isSo_r10 := goodIn_r _ [282, 62, 283, 284, 285, 286, 287, 288, 289, 290, 291, 292, 293, 294, 295, 296, 297, 298, 299] (by decide +kernel) (by decide +kernel)
set_option maxRecDepth 20000 in
theorem gt6_L_isSo : GoodIn wsL_law wsX60 := goodIn_r _ [561, 562, 563, 564] (by decide +kernel) (by decide +kernel)
set_option maxRecDepth 20000 in
theorem gt5_L_isSo : GoodIn wsL_law wsX50 := goodIn_r _ [565, 566, 567, 568, 569, 570, 571, 572] (by decide +kernel) (by decide +kernel)
set_option maxRecDepth 20000 in
theorem gt3_L_isSo : GoodIn wsL_law wsX30 := goodIn_r _ [587, 588, 589, 590, 591, 592, 593, 594, 595] (by decide +kernel) (by decide +kernel)
set_option maxRecDepth 20000 in
theorem gt4_L_isSo : GoodIn wsL_law wsX40 := goodIn_r _ [583] (by decide +kernel) (by decide +kernel)
set_option maxRecDepth 20000 in
theorem gt0_L_isSo : GoodIn wsL_law wsX00 := goodIn_r _ [584, 585, 586] (by decide +kernel) (by decide +kernel)
set_option maxRecDepth 20000 in
theorem gt2_L_isSo : GoodIn wsL_law wsX20 := goodIn_r _ [576, 577, 578, 579, 580, 581, 582] (by decide +kernel) (by decide +kernel)
set_option maxRecDepth 20000 in
theorem gt1_L_isSo : GoodIn wsL_law wsX10 := goodIn_r _ [573, 574, 575] (by decide +kernel) (by decide +kernel)
set_option maxRecDepth 20000 in
theorem ggL_law_L_isSo : GoodIn wsL_law wsL_isSo := goodIn_app gc_L_isSo (goodIn_app (goodIn_app (goodIn_app (goodIn_app (goodIn_app (goodIn_app (goodIn_app (goodIn_app g1_L_isSo (goodIn_app g2_L_isSo (goodIn_app g3_L_isSo (goodIn_app g4_L_isSo (goodIn_app g5_L_isSo (goodIn_app g6_L_isSo (goodIn_app g7_L_isSo (goodIn_app g8_L_isSo (goodIn_app g9_L_isSo (g10_L_isSo)))))))))) gt6_L_isSo) gt5_L_isSo) gt3_L_isSo) gt4_L_isSo) gt0_L_isSo) gt2_L_isSo) gt1_L_isSo)
