set_option maxRecDepth 20000 in
theorem ggL_law_X6_init : GoodIn wsL_law wsX6_init := goodIn_r _ [9, 10, 11, 12, 13, 14, 15, 16, 17, 18, 19, 20, 21, 22, 23, 24, 25, 26, 27, 28, 29, 30, 31, 32, 33, 34, 35, 36, 37, 38, 39, 40, 41, 42, 43, 44, 45, 46, 47, 48, 49, 50, 51, 52, 53, 54, 55, 56, 57, 58, 59, 60, 61, 62, 63, 64, 65, 66, 67, 68, 69, 70, 71, 72, 73, 74, 75, 76, 77, 78, 79, 80, 81, 82, 83, 84, 85, 86, 87, 88, 991, 992, 993, 994, 995, 996, 997, 998, 974, 975, 976, 977, 999, 1000, 1001, 1002, 1003, 1004, 1005, 1006, 1007, 1008, 1009, 1010, 1011, 1012, 1013, 1014, 1015, 1016, 1017, 1018, 1019, 1020, 1021] (by decide +kernel) (by decide +kernel)
set_option maxRecDepth 20000 in
theorem gL_law_X6_init : GoodIn wsL_law (wsX6_init) := ggL_law_X6_init
set_option maxRecDepth 20000 in
theorem ggL_law_X7_init : GoodIn wsL_law wsX7_init := goodIn_r _ [91, 92, 11, 12, 53, 93, 94, 95, 96, 97, 98, 978, 979, 980, 981, 982, 983, 984, 985, 986, 987, 988, 989, 990] (by decide +kernel) (by decide +kernel)
set_option maxRecDepth 20000 in
theorem gL_law_X7_init : GoodIn wsL_law (wsX7_init) := ggL_law_X7_init
set_option maxRecDepth 20000 in
theorem ggL_law_X6_set : GoodIn wsL_law wsX6_set := goodIn_r _ [102, 20, 16, 103, 104, 105, 19, 106, 107, 108, 109, 110, 111, 83, 112, 113, 114, 15, 115, 33, 37, 41, 42, 43, 116, 44, 117, 118, 119, 120, 32, 121, 54, 122, 123, 51, 124, 125, 126, 127, 128, 129, 130, 131, 36, 132, 59, 133, 134, 135, 136, 137, 138, 40, 139, 65, 66, 67, 68, 69, 70, 71, 72, 140, 141, 142, 143, 144, 145, 146, 147, 148, 149, 2, 150, 151, 152, 153, 154, 74, 75, 76, 77, 155, 156, 157, 158, 159, 160, 974, 975, 976, 977, 999, 1000, 1001, 991, 992, 993, 994, 995, 996, 997, 998, 1009, 1010, 1011, 1012, 1013, 1014, 1015, 1016, 1017, 1018, 1019, 1020, 1021] (by decide +kernel) (by decide +kernel)
set_option maxRecDepth 20000 in
theorem gL_law_X6_set : GoodIn wsL_law (wsV RL 13 RX6 yX6_set wsX6_set) := goodIn_app (goodIn_of _ (by decide +kernel)) ggL_law_X6_set
set_option maxRecDepth 20000 in
theorem ggL_law_X7_set : GoodIn wsL_law wsX7_set := goodIn_r _ [164, 93, 165, 166, 5, 167, 168, 169, 170, 171, 172, 173, 174, 175, 176, 177, 178, 94, 978, 979, 980, 981, 982, 983, 984, 985, 986, 987, 988, 989, 990] (by decide +kernel) (by decide +kernel)
set_option maxRecDepth 20000 in
theorem gL_law_X7_set : GoodIn wsL_law (wsV RL 17 RX7 yX7_set wsX7_set) := goodIn_app (goodIn_of _ (by decide +kernel)) ggL_law_X7_set
set_option maxRecDepth 20000 in
theorem ggL_law_X6_pupil : GoodIn wsL_law wsX6_pupil := goodIn_r _ [182, 20, 16, 103, 104, 105, 19, 106, 107, 108, 109, 110, 111, 83, 112, 113, 114, 15, 115, 33, 37, 41, 42, 43, 116, 44, 117, 118, 119, 120, 32, 121, 54, 122, 123, 51, 124, 125, 126, 127, 128, 129, 130, 131, 36, 132, 59, 133, 134, 135, 136, 137, 138, 40, 139, 65, 66, 67, 68, 69, 70, 71, 72, 140, 141, 183, 184, 185, 186, 155, 156, 157, 158, 159, 160, 974, 975, 976, 977, 999, 1000, 1001, 991, 992, 993, 994, 995, 996, 997, 998, 1009, 1010, 1011, 1012, 1013, 1014, 1015, 1016, 1017, 1018, 1019, 1020, 1021] (by decide +kernel) (by decide +kernel)
set_option maxRecDepth 20000 in
theorem gL_law_X6_pupil : GoodIn wsL_law (wsV RL 18 RX6 yX6_pupil wsX6_pupil) := goodIn_app (goodIn_of _ (by decide +kernel)) ggL_law_X6_pupil
set_option maxRecDepth 20000 in
theorem ggL_law_X7_pupil : GoodIn wsL_law wsX7_pupil := goodIn_r _ [190, 191, 192, 193, 5, 194, 93, 174, 175, 176, 177, 178, 94, 195, 196, 197, 198, 978, 979, 980, 981, 982, 983, 984, 985, 986, 987, 988, 989, 990] (by decide +kernel) (by decide +kernel)
set_option maxRecDepth 20000 in
theorem gL_law_X7_pupil : GoodIn wsL_law (wsV RL 22 RX7 yX7_pupil wsX7_pupil) := goodIn_app (goodIn_of _ (by decide +kernel)) ggL_law_X7_pupil
set_option maxRecDepth 20000 in
theorem ggL_law_X6_book : GoodIn wsL_law wsX6_book := goodIn_r _ [202, 20, 16, 103, 104, 105, 19, 106, 107, 108, 109, 110, 111, 83, 112, 113, 114, 15, 115, 33, 37, 41, 42, 43, 116, 44, 117, 118, 119, 120, 32, 121, 54, 122, 123, 51, 124, 125, 126, 127, 128, 129, 130, 131, 36, 132, 59, 133, 134, 135, 136, 137, 138, 40, 139, 65, 66, 67, 68, 69, 70, 71, 72, 140, 141, 203, 204, 205, 206, 207, 208, 209, 210, 211, 2, 212, 213, 149, 150, 214, 215, 216, 217, 218, 219, 220, 221, 222, 223, 224, 152, 153, 154, 225, 226, 227, 228, 229, 230, 231, 232, 233, 234, 75, 76, 77, 155, 156, 157, 158, 159, 160, 974, 975, 976, 977, 999, 1000, 1001, 991, 992, 993, 994, 995, 996, 997, 998, 1009, 1010, 1011, 1012, 1013, 1014, 1015, 1016, 1017, 1018, 1019, 1020, 1021] (by decide +kernel) (by decide +kernel)
set_option maxRecDepth 20000 in
theorem gL_law_X6_book : GoodIn wsL_law (wsV RL 23 RX6 yX6_book wsX6_book) := goodIn_app (goodIn_of _ (by decide +kernel)) ggL_law_X6_book
set_option maxRecDepth 20000 in
theorem ggL_law_X7_book : GoodIn wsL_law wsX7_book := goodIn_r _ [238, 239, 240, 241, 5, 242, 243, 244, 245, 246, 93, 165, 166, 167, 247, 248, 249, 250, 251, 252, 253, 254, 255, 256, 257, 258, 259, 260, 174, 175, 176, 177, 178, 94, 261, 262, 263, 264, 978, 979, 980, 981, 982, 983, 984, 985, 986, 987, 988, 989, 990] (by decide +kernel) (by decide +kernel)
set_option maxRecDepth 20000 in
theorem gL_law_X7_book : GoodIn wsL_law (wsV RL 27 RX7 yX7_book wsX7_book) := goodIn_app (goodIn_of _ (by decide +kernel)) ggL_law_X7_book
set_option maxRecDepth 20000 in
theorem ggL_law_X6_giveBack : GoodIn wsL_law wsX6_giveBack := goodIn_r _ [268, 20, 16, 103, 104, 105, 19, 106, 107, 108, 109, 110, 111, 83, 112, 113, 114, 15, 115, 33, 37, 41, 42, 43, 116, 44, 117, 118, 119, 120, 32, 121, 54, 122, 123, 51, 124, 125, 126, 127, 128, 129, 130, 131, 36, 132, 59, 133, 134, 135, 136, 137, 138, 40, 139, 65, 66, 67, 68, 69, 70, 71, 72, 140, 141, 269, 270, 271, 272, 207, 208, 209, 210, 214, 2, 215, 213, 149, 150, 225, 226, 227, 228, 229, 217, 218, 219, 220, 221, 222, 223, 224, 152, 153, 154, 273, 274, 275, 276, 277, 278, 279, 280, 234, 75, 76, 77, 155, 156, 157, 158, 159, 160, 974, 975, 976, 977, 999, 1000, 1001, 991, 992, 993, 994, 995, 996, 997, 998, 1009, 1010, 1011, 1012, 1013, 1014, 1015, 1016, 1017, 1018, 1019, 1020, 1021] (by decide +kernel) (by decide +kernel)
set_option maxRecDepth 20000 in
theorem gL_law_X6_giveBack : GoodIn wsL_law (wsV RL 28 RX6 yX6_giveBack wsX6_giveBack) := goodIn_app (goodIn_of _ (by decide +kernel)) ggL_law_X6_giveBack
set_option maxRecDepth 20000 in
theorem ggL_law_X7_giveBack : GoodIn wsL_law wsX7_giveBack := goodIn_r _ [284, 93, 243, 244, 245, 5, 246, 165, 166, 167, 250, 251, 252, 257, 258, 259, 260, 253, 254, 255, 256, 174, 175, 176, 177, 178, 94, 978, 979, 980, 981, 982, 983, 984, 985, 986, 987, 988, 989, 990] (by decide +kernel) (by decide +kernel)
set_option maxRecDepth 20000 in
theorem gL_law_X7_giveBack : GoodIn wsL_law (wsV RL 31 RX7 yX7_giveBack wsX7_giveBack) := goodIn_app (goodIn_of _ (by decide +kernel)) ggL_law_X7_giveBack
set_option maxRecDepth 20000 in
theorem ggL_law_X6_throwPot : GoodIn wsL_law wsX6_throwPot := goodIn_r _ [288, 20, 16, 103, 104, 105, 19, 106, 107, 108, 109, 110, 111, 83, 112, 113, 114, 15, 115, 33, 37, 41, 42, 43, 116, 44, 117, 118, 119, 120, 32, 121, 54, 122, 123, 51, 124, 125, 126, 127, 128, 129, 130, 131, 36, 132, 59, 133, 134, 135, 136, 137, 138, 40, 139, 65, 66, 67, 68, 69, 70, 71, 72, 140, 141, 289, 290, 291, 292, 207, 208, 209, 210, 149, 2, 150, 225, 226, 227, 228, 229, 217, 218, 219, 220, 221, 222, 223, 224, 152, 153, 154, 273, 274, 275, 276, 293, 294, 295, 296, 297, 298, 299, 300, 301, 302, 303, 304, 305, 306, 307, 308, 309, 310, 311, 312, 313, 314, 315, 316, 317, 318, 319, 320, 321, 322, 75, 76, 77, 323, 324, 325, 326, 155, 156, 157, 158, 159, 160, 974, 975, 976, 977, 999, 1000, 1001, 991, 992, 993, 994, 995, 996, 997, 998, 1009, 1010, 1011, 1012, 1013, 1014, 1015, 1016, 1017, 1018, 1019, 1020, 1021] (by decide +kernel) (by decide +kernel)
set_option maxRecDepth 20000 in
theorem gL_law_X6_throwPot : GoodIn wsL_law (wsV RL 32 RX6 yX6_throwPot wsX6_throwPot) := goodIn_app (goodIn_of _ (by decide +kernel)) ggL_law_X6_throwPot
set_option maxRecDepth 20000 in
theorem ggL_law_X7_throwPot : GoodIn wsL_law wsX7_throwPot := goodIn_r _ [330, 331, 332, 333, 5, 334, 93, 243, 244, 245, 246, 165, 166, 167, 257, 258, 259, 260, 253, 254, 255, 256, 335, 336, 337, 338, 339, 340, 341, 342, 343, 344, 345, 346, 347, 348, 349, 174, 175, 176, 177, 178, 94, 350, 351, 352, 353, 354, 355, 356, 357, 358, 359, 360, 361, 362, 363, 364, 365, 366, 978, 979, 980, 981, 982, 983, 984, 985, 986, 987, 988, 989, 990] (by decide +kernel) (by decide +kernel)
set_option maxRecDepth 20000 in
theorem gL_law_X7_throwPot : GoodIn wsL_law (wsV RL 35 RX7 yX7_throwPot wsX7_throwPot) := goodIn_app (goodIn_of _ (by decide +kernel)) ggL_law_X7_throwPot
set_option maxRecDepth 20000 in
theorem ggL_law_X6_load : GoodIn wsL_law wsX6_load := goodIn_r _ [370, 20, 16, 103, 104, 105, 19, 106, 107, 108, 109, 110, 111, 83, 112, 113, 114, 15, 115, 33, 37, 41, 42, 43, 116, 44, 117, 118, 119, 120, 32, 121, 54, 122, 123, 51, 124, 125, 126, 127, 128, 129, 130, 131, 36, 132, 59, 133, 134, 135, 136, 137, 138, 40, 139, 65, 66, 67, 68, 69, 70, 71, 72, 140, 141, 371, 372, 373, 374, 375, 376, 377, 378, 379, 380, 381, 382, 383, 384, 385, 386, 301, 152, 153, 154, 387, 388, 389, 390, 391, 392, 393, 394, 395, 50, 52, 151, 396, 397, 398, 399, 400, 401, 402, 403, 404, 405, 406, 407, 408, 409, 410, 411, 412, 413, 414, 415, 416, 417, 418, 419, 74, 75, 76, 77, 155, 156, 157, 158, 159, 160, 974, 975, 976, 977, 999, 1000, 1001, 991, 992, 993, 994, 995, 996, 997, 998, 1009, 1010, 1011, 1012, 1013, 1014, 1015, 1016, 1017, 1018, 1019, 1020, 1021] (by decide +kernel) (by decide +kernel)
set_option maxRecDepth 20000 in
theorem gL_law_X6_load : GoodIn wsL_law (wsV RL 36 RX6 yX6_load wsX6_load) := goodIn_app (goodIn_of _ (by decide +kernel)) ggL_law_X6_load
set_option maxRecDepth 20000 in
theorem ggL_law_X7_load : GoodIn wsL_law wsX7_load := goodIn_r _ [423, 424, 425, 426, 5, 427, 428, 429, 430, 431, 93, 165, 166, 167, 432, 433, 434, 435, 343, 344, 345, 346, 436, 437, 438, 439, 440, 441, 442, 443, 444, 445, 446, 447, 174, 175, 176, 177, 178, 94, 448, 449, 450, 451, 355, 356, 357, 358, 978, 979, 980, 981, 982, 983, 984, 985, 986, 987, 988, 989, 990] (by decide +kernel) (by decide +kernel)
set_option maxRecDepth 20000 in
theorem gL_law_X7_load : GoodIn wsL_law (wsV RL 40 RX7 yX7_load wsX7_load) := goodIn_app (goodIn_of _ (by decide +kernel)) ggL_law_X7_load
set_option maxRecDepth 20000 in
theorem ggL_law_X6_unload : GoodIn wsL_law wsX6_unload := goodIn_r _ [455, 20, 16, 103, 104, 105, 19, 106, 107, 108, 109, 110, 111, 83, 112, 113, 114, 15, 115, 33, 37, 41, 42, 43, 116, 44, 117, 118, 119, 120, 32, 121, 54, 122, 123, 51, 124, 125, 126, 127, 128, 129, 130, 131, 36, 132, 59, 133, 134, 135, 136, 137, 138, 40, 139, 65, 66, 67, 68, 69, 70, 71, 72, 140, 141, 456, 457, 458, 459, 379, 380, 381, 382, 460, 417, 418, 419, 301, 152, 153, 154, 293, 294, 295, 296, 297, 298, 299, 300, 302, 303, 304, 305, 306, 307, 308, 461, 324, 325, 326, 322, 75, 76, 77, 151, 155, 156, 157, 158, 159, 160, 974, 975, 976, 977, 999, 1000, 1001, 991, 992, 993, 994, 995, 996, 997, 998, 1009, 1010, 1011, 1012, 1013, 1014, 1015, 1016, 1017, 1018, 1019, 1020, 1021] (by decide +kernel) (by decide +kernel)
set_option maxRecDepth 20000 in
theorem gL_law_X6_unload : GoodIn wsL_law (wsV RL 41 RX6 yX6_unload wsX6_unload) := goodIn_app (goodIn_of _ (by decide +kernel)) ggL_law_X6_unload
set_option maxRecDepth 20000 in
theorem ggL_law_X7_unload : GoodIn wsL_law wsX7_unload := goodIn_r _ [465, 428, 429, 430, 5, 431, 93, 165, 166, 167, 343, 344, 345, 346, 335, 336, 337, 338, 339, 340, 341, 342, 347, 348, 349, 174, 175, 176, 177, 178, 94, 359, 360, 361, 362, 363, 364, 365, 366, 355, 356, 357, 358, 978, 979, 980, 981, 982, 983, 984, 985, 986, 987, 988, 989, 990] (by decide +kernel) (by decide +kernel)
set_option maxRecDepth 20000 in
theorem gL_law_X7_unload : GoodIn wsL_law (wsV RL 44 RX7 yX7_unload wsX7_unload) := goodIn_app (goodIn_of _ (by decide +kernel)) ggL_law_X7_unload
set_option maxRecDepth 20000 in
theorem ggL_law_X6_fire : GoodIn wsL_law wsX6_fire := goodIn_r _ [469, 20, 16, 103, 104, 105, 19, 106, 107, 108, 109, 110, 111, 83, 112, 113, 114, 15, 115, 33, 37, 41, 42, 43, 116, 44, 117, 118, 119, 120, 32, 121, 54, 122, 123, 51, 124, 125, 126, 127, 128, 129, 130, 131, 36, 132, 59, 133, 134, 135, 136, 137, 138, 40, 139, 65, 66, 67, 68, 69, 70, 71, 72, 140, 141, 470, 471, 472, 473, 474, 2, 475, 213, 149, 150, 476, 401, 402, 403, 404, 405, 406, 407, 477, 478, 479, 480, 460, 417, 418, 419, 301, 152, 153, 154, 151, 481, 482, 483, 484, 485, 388, 389, 390, 486, 487, 488, 489, 490, 303, 304, 305, 306, 307, 308, 293, 294, 295, 296, 297, 298, 299, 300, 302, 491, 492, 493, 494, 74, 75, 76, 77, 495, 496, 497, 498, 499, 500, 387, 461, 324, 325, 326, 322, 155, 156, 157, 158, 159, 160, 974, 975, 976, 977, 999, 1000, 1001, 991, 992, 993, 994, 995, 996, 997, 998, 1009, 1010, 1011, 1012, 1013, 1014, 1015, 1016, 1017, 1018, 1019, 1020, 1021] (by decide +kernel) (by decide +kernel)
set_option maxRecDepth 20000 in
theorem gL_law_X6_fire : GoodIn wsL_law (wsV RL 45 RX6 yX6_fire wsX6_fire) := goodIn_app (goodIn_of _ (by decide +kernel)) ggL_law_X6_fire
set_option maxRecDepth 20000 in
theorem ggL_law_X7_fire : GoodIn wsL_law wsX7_fire := goodIn_r _ [504, 505, 506, 507, 5, 508, 165, 166, 167, 339, 340, 341, 342, 93, 343, 344, 345, 346, 347, 348, 349, 509, 510, 511, 512, 513, 514, 515, 516, 517, 518, 519, 335, 336, 337, 338, 174, 175, 176, 177, 178, 94, 520, 521, 522, 523, 355, 356, 357, 358, 359, 360, 361, 362, 363, 364, 365, 366, 978, 979, 980, 981, 982, 983, 984, 985, 986, 987, 988, 989, 990] (by decide +kernel) (by decide +kernel)
set_option maxRecDepth 20000 in
theorem gL_law_X7_fire : GoodIn wsL_law (wsV RL 48 RX7 yX7_fire wsX7_fire) := goodIn_app (goodIn_of _ (by decide +kernel)) ggL_law_X7_fire
set_option maxRecDepth 20000 in
theorem ggL_law_X6_glaze : GoodIn wsL_law wsX6_glaze := goodIn_r _ [527, 20, 16, 103, 104, 105, 19, 106, 107, 108, 109, 110, 111, 83, 112, 113, 114, 15, 115, 33, 37, 41, 42, 43, 116, 44, 117, 118, 119, 120, 32, 121, 54, 122, 123, 51, 124, 125, 126, 127, 128, 129, 130, 131, 36, 132, 59, 133, 134, 135, 136, 137, 138, 40, 139, 65, 66, 67, 68, 69, 70, 71, 72, 140, 141, 528, 529, 530, 531, 379, 380, 381, 382, 532, 2, 533, 213, 149, 150, 151, 152, 153, 154, 387, 388, 389, 390, 301, 383, 384, 385, 386, 495, 496, 497, 498, 499, 500, 75, 76, 77, 74, 155, 156, 157, 158, 159, 160, 974, 975, 976, 977, 999, 1000, 1001, 991, 992, 993, 994, 995, 996, 997, 998, 1009, 1010, 1011, 1012, 1013, 1014, 1015, 1016, 1017, 1018, 1019, 1020, 1021] (by decide +kernel) (by decide +kernel)
set_option maxRecDepth 20000 in
theorem gL_law_X6_glaze : GoodIn wsL_law (wsV RL 49 RX6 yX6_glaze wsX6_glaze) := goodIn_app (goodIn_of _ (by decide +kernel)) ggL_law_X6_glaze
set_option maxRecDepth 20000 in
theorem ggL_law_X7_glaze : GoodIn wsL_law wsX7_glaze := goodIn_r _ [537, 538, 539, 540, 5, 541, 93, 428, 429, 430, 431, 165, 166, 167, 542, 543, 544, 343, 344, 345, 346, 174, 175, 176, 177, 178, 94, 545, 546, 547, 548, 355, 356, 357, 358, 978, 979, 980, 981, 982, 983, 984, 985, 986, 987, 988, 989, 990] (by decide +kernel) (by decide +kernel)
set_option maxRecDepth 20000 in
theorem gL_law_X7_glaze : GoodIn wsL_law (wsV RL 52 RX7 yX7_glaze wsX7_glaze) := goodIn_app (goodIn_of _ (by decide +kernel)) ggL_law_X7_glaze
