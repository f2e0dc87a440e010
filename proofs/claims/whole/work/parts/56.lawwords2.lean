set_option maxRecDepth 20000 in
theorem ggL_law_X6_bestHeat : GoodIn wsL_law wsX6_bestHeat := goodIn_r _ [750, 16, 751, 752, 753, 15, 754, 41, 476, 401, 402, 40, 403, 69, 140, 404, 405, 406, 32, 407, 54, 755, 756, 757, 758, 33, 460, 417, 418, 419, 301, 152, 153, 154, 151, 481, 482, 483, 484, 67, 485, 388, 389, 390, 68, 486, 487, 488, 489, 71, 974, 975, 976, 977, 991, 992, 993, 994, 995, 996, 997, 998, 1013, 1014, 1015, 1016, 1017, 1018, 1019, 1020, 1021, 1009] (by decide +kernel) (by decide +kernel)
set_option maxRecDepth 20000 in
theorem gL_law_X6_bestHeat : GoodIn wsL_law (wsV RL 93 RX6 yX6_bestHeat wsX6_bestHeat) := goodIn_app (goodIn_of _ (by decide +kernel)) ggL_law_X6_bestHeat
set_option maxRecDepth 20000 in
theorem ggL_law_X7_bestHeat : GoodIn wsL_law wsX7_bestHeat := goodIn_r _ [762, 339, 340, 341, 5, 342, 93, 343, 344, 345, 346, 763, 764, 765, 766, 513, 514, 515, 516, 517, 518, 519, 509, 510, 511, 512, 347, 348, 349, 978, 979, 980, 981, 982, 983, 984, 985, 986, 987, 988, 989, 990] (by decide +kernel) (by decide +kernel)
set_option maxRecDepth 20000 in
theorem gL_law_X7_bestHeat : GoodIn wsL_law (wsV RL 96 RX7 yX7_bestHeat wsX7_bestHeat) := goodIn_app (goodIn_of _ (by decide +kernel)) ggL_law_X7_bestHeat
set_option maxRecDepth 20000 in
theorem ggL_law_X6_firstFree : GoodIn wsL_law wsX6_firstFree := goodIn_r _ [770, 16, 771, 772, 773, 15, 774, 37, 207, 208, 209, 210, 116, 775, 776, 777, 36, 778, 229, 217, 218, 219, 59, 220, 221, 222, 223, 133, 224, 152, 153, 32, 154, 54, 225, 226, 227, 228, 974, 975, 976, 977, 991, 992, 993, 994, 995, 996, 997, 998, 1010, 1011, 1012, 1009] (by decide +kernel) (by decide +kernel)
set_option maxRecDepth 20000 in
theorem gL_law_X6_firstFree : GoodIn wsL_law (wsV RL 97 RX6 yX6_firstFree wsX6_firstFree) := goodIn_app (goodIn_of _ (by decide +kernel)) ggL_law_X6_firstFree
set_option maxRecDepth 20000 in
theorem ggL_law_X7_firstFree : GoodIn wsL_law wsX7_firstFree := goodIn_r _ [782, 93, 243, 244, 245, 5, 246, 165, 166, 167, 253, 254, 255, 256, 257, 258, 259, 260, 978, 979, 980, 981, 982, 983, 984, 985, 986, 987, 988, 989, 990] (by decide +kernel) (by decide +kernel)
set_option maxRecDepth 20000 in
theorem gL_law_X7_firstFree : GoodIn wsL_law (wsV RL 100 RX7 yX7_firstFree wsX7_firstFree) := goodIn_app (goodIn_of _ (by decide +kernel)) ggL_law_X7_firstFree
set_option maxRecDepth 20000 in
theorem ggL_law_X6_put : GoodIn wsL_law wsX6_put := goodIn_r _ [786, 25, 787, 788, 789, 24, 790, 683, 88, 791, 792, 793, 794, 795, 796, 797, 149, 2, 150, 974, 975, 976, 977, 1002, 1003, 1004, 1005, 1006, 1007, 1008] (by decide +kernel) (by decide +kernel)
set_option maxRecDepth 20000 in
theorem gL_law_X6_put : GoodIn wsL_law (wsV RL 103 RX6 yX6_put wsX6_put) := goodIn_app (goodIn_of _ (by decide +kernel)) ggL_law_X6_put
set_option maxRecDepth 20000 in
theorem ggL_law_X7_put_ : GoodIn wsL_law wsX7_put_ := goodIn_r _ [801, 802, 708, 98, 165, 166, 5, 167, 978, 979, 980, 981, 982, 983, 984, 985, 986, 987, 988, 989, 990] (by decide +kernel) (by decide +kernel)
set_option maxRecDepth 20000 in
theorem gL_law_X7_put_ : GoodIn wsL_law (wsV RL 107 RX7 yX7_put_ wsX7_put_) := goodIn_app (goodIn_of _ (by decide +kernel)) ggL_law_X7_put_
set_option maxRecDepth 20000 in
theorem ggL_law_X6_wipe : GoodIn wsL_law wsX6_wipe := goodIn_r _ [806, 25, 807, 808, 809, 24, 810, 683, 974, 975, 976, 977, 1002, 1003, 1004, 1005, 1006, 1007, 1008] (by decide +kernel) (by decide +kernel)
set_option maxRecDepth 20000 in
theorem gL_law_X6_wipe : GoodIn wsL_law (wsV RL 108 RX6 yX6_wipe wsX6_wipe) := goodIn_app (goodIn_of _ (by decide +kernel)) ggL_law_X6_wipe
set_option maxRecDepth 20000 in
theorem ggL_law_X7_wipe : GoodIn wsL_law wsX7_wipe := goodIn_r _ [814, 708, 978, 979, 980, 981, 982, 983, 984, 985, 986, 987, 988, 989, 990] (by decide +kernel) (by decide +kernel)
set_option maxRecDepth 20000 in
theorem gL_law_X7_wipe : GoodIn wsL_law (wsV RL 111 RX7 yX7_wipe wsX7_wipe) := goodIn_app (goodIn_of _ (by decide +kernel)) ggL_law_X7_wipe
set_option maxRecDepth 20000 in
theorem ggL_law_X6_fault : GoodIn wsL_law wsX6_fault := goodIn_r _ [818, 25, 819, 820, 821, 24, 822, 823, 683, 824, 825, 826, 827, 828, 829, 830, 831, 832, 833, 834, 835, 836, 837, 838, 839, 88, 840, 841, 842, 843, 844, 845, 846, 847, 848, 849, 850, 851, 149, 2, 150, 852, 853, 854, 855, 856, 857, 858, 859, 860, 861, 862, 863, 864, 865, 866, 867, 974, 975, 976, 977, 1002, 1003, 1004, 1005, 1006, 1007, 1008] (by decide +kernel) (by decide +kernel)
set_option maxRecDepth 20000 in
theorem gL_law_X6_fault : GoodIn wsL_law (wsV RL 112 RX6 yX6_fault wsX6_fault) := goodIn_app (goodIn_of _ (by decide +kernel)) ggL_law_X6_fault
set_option maxRecDepth 20000 in
theorem ggL_law_X7_fault : GoodIn wsL_law wsX7_fault := goodIn_r _ [871, 872, 873, 874, 5, 875, 876, 877, 708, 878, 879, 880, 881, 882, 883, 884, 885, 886, 887, 888, 889, 98, 890, 891, 892, 893, 894, 895, 896, 897, 165, 166, 167, 898, 899, 900, 901, 978, 979, 980, 981, 982, 983, 984, 985, 986, 987, 988, 989, 990] (by decide +kernel) (by decide +kernel)
set_option maxRecDepth 20000 in
theorem gL_law_X7_fault : GoodIn wsL_law (wsV RL 115 RX7 yX7_fault wsX7_fault) := goodIn_app (goodIn_of _ (by decide +kernel)) ggL_law_X7_fault
set_option maxRecDepth 20000 in
theorem gc_X6_carryOut : GoodIn wsL_law [Cond.code yX6_carryOut cX6_carryOut 2 (some .int)] := goodIn_r _ [905] (by decide +kernel) (by decide +kernel)
set_option maxRecDepth 20000 in
theorem g1_X6_carryOut : GoodIn wsL_law wsX6_carryOut_r1 := goodIn_r _ [25, 20, 16, 819, 820, 821, 24, 822, 823, 683, 824, 825, 826, 827, 828, 829, 830, 831, 832, 833, 834, 835, 836, 837] (by decide +kernel) (by decide +kernel)
set_option maxRecDepth 20000 in
theorem g2_X6_carryOut : GoodIn wsL_law wsX6_carryOut_r2 := goodIn_r _ [838, 839, 88, 840, 841, 842, 843, 844, 845, 846, 847, 848, 849, 850, 851, 149, 2, 150, 852, 853, 854, 855, 856, 857] (by decide +kernel) (by decide +kernel)
set_option maxRecDepth 20000 in
theorem g3_X6_carryOut : GoodIn wsL_law wsX6_carryOut_r3 := goodIn_r _ [858, 859, 860, 861, 862, 863, 864, 865, 866, 867, 103, 104, 105, 19, 106, 107, 108, 109, 110, 111, 83, 112, 113, 114] (by decide +kernel) (by decide +kernel)
set_option maxRecDepth 20000 in
theorem g4_X6_carryOut : GoodIn wsL_law wsX6_carryOut_r4 := goodIn_r _ [15, 115, 33, 37, 41, 42, 43, 116, 44, 117, 118, 119, 120, 32, 121, 54, 122, 123, 51, 124, 125, 126, 127, 128] (by decide +kernel) (by decide +kernel)
set_option maxRecDepth 20000 in
theorem g5_X6_carryOut : GoodIn wsL_law wsX6_carryOut_r5 := goodIn_r _ [129, 130, 131, 36, 132, 59, 133, 134, 135, 136, 137, 138, 40, 139, 65, 66, 67, 68, 69, 70, 71, 72, 140, 141] (by decide +kernel) (by decide +kernel)
set_option maxRecDepth 20000 in
theorem g6_X6_carryOut : GoodIn wsL_law wsX6_carryOut_r6 := goodIn_r _ [906, 907, 908, 909, 910, 911, 912, 913, 914, 915, 183, 184, 185, 186, 916, 917, 918, 919, 920, 921, 922, 923, 924, 925] (by decide +kernel) (by decide +kernel)
set_option maxRecDepth 20000 in
theorem g7_X6_carryOut : GoodIn wsL_law wsX6_carryOut_r7 := goodIn_r _ [926, 927, 203, 204, 205, 206, 207, 208, 209, 210, 211, 212, 213, 214, 215, 216, 217, 218, 219, 220, 221, 222, 223, 224] (by decide +kernel) (by decide +kernel)
set_option maxRecDepth 20000 in
theorem g8_X6_carryOut : GoodIn wsL_law wsX6_carryOut_r8 := goodIn_r _ [152, 153, 154, 225, 226, 227, 228, 229, 230, 231, 232, 233, 234, 75, 76, 77, 289, 290, 291, 292, 273, 274, 275, 276] (by decide +kernel) (by decide +kernel)
set_option maxRecDepth 20000 in
theorem g9_X6_carryOut : GoodIn wsL_law wsX6_carryOut_r9 := goodIn_r _ [293, 294, 295, 296, 297, 298, 299, 300, 301, 302, 303, 304, 305, 306, 307, 308, 309, 310, 311, 312, 313, 314, 315, 316] (by decide +kernel) (by decide +kernel)
set_option maxRecDepth 20000 in
theorem g10_X6_carryOut : GoodIn wsL_law wsX6_carryOut_r10 := goodIn_r _ [317, 318, 319, 320, 321, 322, 323, 324, 325, 326, 371, 372, 373, 374, 375, 376, 377, 378, 379, 380, 381, 382, 383, 384] (by decide +kernel) (by decide +kernel)
set_option maxRecDepth 20000 in
theorem g11_X6_carryOut : GoodIn wsL_law wsX6_carryOut_r11 := goodIn_r _ [385, 386, 387, 388, 389, 390, 391, 392, 393, 394, 395, 50, 52, 151, 396, 397, 398, 399, 400, 401, 402, 403, 404, 405] (by decide +kernel) (by decide +kernel)
set_option maxRecDepth 20000 in
theorem g12_X6_carryOut : GoodIn wsL_law wsX6_carryOut_r12 := goodIn_r _ [406, 407, 408, 409, 410, 411, 412, 413, 414, 415, 416, 417, 418, 419, 74, 470, 471, 472, 473, 474, 475, 476, 477, 478] (by decide +kernel) (by decide +kernel)
set_option maxRecDepth 20000 in
theorem g13_X6_carryOut : GoodIn wsL_law wsX6_carryOut_r13 := goodIn_r _ [479, 480, 460, 481, 482, 483, 484, 485, 486, 487, 488, 489, 490, 491, 492, 493, 494, 495, 496, 497, 498, 499, 500, 461] (by decide +kernel) (by decide +kernel)
set_option maxRecDepth 20000 in
theorem g14_X6_carryOut : GoodIn wsL_law wsX6_carryOut_r14 := goodIn_r _ [528, 529, 530, 531, 532, 533, 586, 587, 588, 589, 590, 591, 592, 593, 594, 595, 596, 597, 598, 599, 600, 601, 602, 603] (by decide +kernel) (by decide +kernel)
set_option maxRecDepth 20000 in
theorem g15_X6_carryOut : GoodIn wsL_law wsX6_carryOut_r15 := goodIn_r _ [604, 278, 279, 280, 566, 567, 568, 569, 928, 807, 808, 809, 810, 155, 156, 157, 158, 159, 160] (by decide +kernel) (by decide +kernel)
set_option maxRecDepth 20000 in
theorem gt6_X6_carryOut : GoodIn wsL_law wsX60 := goodIn_r _ [974, 975, 976, 977] (by decide +kernel) (by decide +kernel)
set_option maxRecDepth 20000 in
theorem gt2_X6_carryOut : GoodIn wsL_law wsX20 := goodIn_r _ [1002, 1003, 1004, 1005, 1006, 1007, 1008] (by decide +kernel) (by decide +kernel)
set_option maxRecDepth 20000 in
theorem gt1_X6_carryOut : GoodIn wsL_law wsX10 := goodIn_r _ [999, 1000, 1001] (by decide +kernel) (by decide +kernel)
set_option maxRecDepth 20000 in
theorem gt5_X6_carryOut : GoodIn wsL_law wsX50 := goodIn_r _ [991, 992, 993, 994, 995, 996, 997, 998] (by decide +kernel) (by decide +kernel)
set_option maxRecDepth 20000 in
theorem gt4_X6_carryOut : GoodIn wsL_law wsX40 := goodIn_r _ [1009] (by decide +kernel) (by decide +kernel)
set_option maxRecDepth 20000 in
theorem gt0_X6_carryOut : GoodIn wsL_law wsX00 := goodIn_r _ [1010, 1011, 1012] (by decide +kernel) (by decide +kernel)
set_option maxRecDepth 20000 in
theorem gt3_X6_carryOut : GoodIn wsL_law wsX30 := goodIn_r _ [1013, 1014, 1015, 1016, 1017, 1018, 1019, 1020, 1021] (by decide +kernel) (by decide +kernel)
set_option maxRecDepth 20000 in
theorem ggL_law_X6_carryOut : GoodIn wsL_law wsX6_carryOut := goodIn_app gc_X6_carryOut (goodIn_app (goodIn_app (goodIn_app (goodIn_app (goodIn_app (goodIn_app (goodIn_app (goodIn_app g1_X6_carryOut (goodIn_app g2_X6_carryOut (goodIn_app g3_X6_carryOut (goodIn_app g4_X6_carryOut (goodIn_app g5_X6_carryOut (goodIn_app g6_X6_carryOut (goodIn_app g7_X6_carryOut (goodIn_app g8_X6_carryOut (goodIn_app g9_X6_carryOut (goodIn_app g10_X6_carryOut (goodIn_app g11_X6_carryOut (goodIn_app g12_X6_carryOut (goodIn_app g13_X6_carryOut (goodIn_app g14_X6_carryOut (g15_X6_carryOut))))))))))))))) gt6_X6_carryOut) gt2_X6_carryOut) gt1_X6_carryOut) gt5_X6_carryOut) gt4_X6_carryOut) gt0_X6_carryOut) gt3_X6_carryOut)
set_option maxRecDepth 20000 in
theorem gL_law_X6_carryOut : GoodIn wsL_law (wsV RL 116 RX6 yX6_carryOut wsX6_carryOut) := goodIn_app (goodIn_of _ (by decide +kernel)) ggL_law_X6_carryOut
set_option maxRecDepth 20000 in
theorem gc_X7_carryOut : GoodIn wsL_law [Cond.code yX7_carryOut cX7_carryOut 3 (some .int)] := goodIn_r _ [932] (by decide +kernel) (by decide +kernel)
set_option maxRecDepth 20000 in
theorem g1_X7_carryOut : GoodIn wsL_law wsX7_carryOut_r1 := goodIn_r _ [876, 708, 872, 873, 874, 5, 875, 877, 878, 879, 880, 881, 882, 883, 884, 885, 886, 887, 888, 889, 98, 890, 891, 892] (by decide +kernel) (by decide +kernel)
set_option maxRecDepth 20000 in
theorem g2_X7_carryOut : GoodIn wsL_law wsX7_carryOut_r2 := goodIn_r _ [893, 894, 895, 896, 897, 165, 166, 167, 898, 899, 900, 901, 174, 175, 176, 177, 178, 94, 93, 933, 934, 935, 936, 191] (by decide +kernel) (by decide +kernel)
set_option maxRecDepth 20000 in
theorem g3_X7_carryOut : GoodIn wsL_law wsX7_carryOut_r3 := goodIn_r _ [192, 193, 194, 239, 240, 241, 242, 243, 244, 245, 246, 247, 248, 249, 250, 251, 252, 253, 254, 255, 256, 257, 258, 259] (by decide +kernel) (by decide +kernel)
set_option maxRecDepth 20000 in
theorem g4_X7_carryOut : GoodIn wsL_law wsX7_carryOut_r4 := goodIn_r _ [260, 331, 332, 333, 334, 335, 336, 337, 338, 339, 340, 341, 342, 343, 344, 345, 346, 347, 348, 349, 424, 425, 426, 427] (by decide +kernel) (by decide +kernel)
set_option maxRecDepth 20000 in
theorem g5_X7_carryOut : GoodIn wsL_law wsX7_carryOut_r5 := goodIn_r _ [428, 429, 430, 431, 432, 433, 434, 435, 436, 437, 438, 439, 440, 441, 442, 443, 444, 445, 446, 447, 505, 506, 507, 508] (by decide +kernel) (by decide +kernel)
set_option maxRecDepth 20000 in
theorem g6_X7_carryOut : GoodIn wsL_law wsX7_carryOut_r6 := goodIn_r _ [509, 510, 511, 512, 513, 514, 515, 516, 517, 518, 519, 538, 539, 540, 541, 542, 543, 544, 609, 610, 611, 612, 574, 575] (by decide +kernel) (by decide +kernel)
set_option maxRecDepth 20000 in
theorem g7_X7_carryOut : GoodIn wsL_law wsX7_carryOut_r7 := goodIn_r _ [576, 577, 937, 938, 939, 940, 195, 196, 197, 198, 261, 262, 263, 264, 350, 351, 352, 353, 354, 355, 356, 357, 358, 359] (by decide +kernel) (by decide +kernel)
set_option maxRecDepth 20000 in
theorem g8_X7_carryOut : GoodIn wsL_law wsX7_carryOut_r8 := goodIn_r _ [360, 361, 362, 363, 364, 365, 366, 448, 449, 450, 451, 520, 521, 522, 523, 545, 546, 547, 548, 613, 614, 615, 616, 617] (by decide +kernel) (by decide +kernel)
set_option maxRecDepth 20000 in
theorem g9_X7_carryOut : GoodIn wsL_law wsX7_carryOut_r9 := goodIn_r _ [618, 619, 620, 578, 579, 580, 581] (by decide +kernel) (by decide +kernel)
set_option maxRecDepth 20000 in
theorem gt7_X7_carryOut : GoodIn wsL_law wsX70 := goodIn_r _ [978, 979, 980, 981, 982, 983, 984, 985, 986, 987, 988, 989, 990] (by decide +kernel) (by decide +kernel)
set_option maxRecDepth 20000 in
theorem ggL_law_X7_carryOut : GoodIn wsL_law wsX7_carryOut := goodIn_app gc_X7_carryOut (goodIn_app (goodIn_app g1_X7_carryOut (goodIn_app g2_X7_carryOut (goodIn_app g3_X7_carryOut (goodIn_app g4_X7_carryOut (goodIn_app g5_X7_carryOut (goodIn_app g6_X7_carryOut (goodIn_app g7_X7_carryOut (goodIn_app g8_X7_carryOut (g9_X7_carryOut))))))))) gt7_X7_carryOut)
set_option maxRecDepth 20000 in
theorem gL_law_X7_carryOut : GoodIn wsL_law (wsV RL 119 RX7 yX7_carryOut wsX7_carryOut) := goodIn_app (goodIn_of _ (by decide +kernel)) ggL_law_X7_carryOut
set_option maxRecDepth 20000 in
theorem ggL_law_X6_undo : GoodIn wsL_law wsX6_undo := goodIn_r _ [944, 20, 16, 945, 946, 947, 19, 948, 159, 107, 108, 109, 110, 111, 83, 112, 113, 114, 15, 115, 33, 37, 41, 42, 43, 116, 44, 117, 118, 119, 120, 32, 121, 54, 122, 123, 51, 124, 125, 126, 127, 128, 129, 130, 131, 36, 132, 59, 133, 134, 135, 136, 137, 138, 40, 139, 65, 66, 67, 68, 69, 70, 71, 72, 140, 141, 974, 975, 976, 977, 999, 1000, 1001, 991, 992, 993, 994, 995, 996, 997, 998, 1009, 1010, 1011, 1012, 1013, 1014, 1015, 1016, 1017, 1018, 1019, 1020, 1021] (by decide +kernel) (by decide +kernel)
set_option maxRecDepth 20000 in
theorem gL_law_X6_undo : GoodIn wsL_law (wsV RL 120 RX6 yX6_undo wsX6_undo) := goodIn_app (goodIn_of _ (by decide +kernel)) ggL_law_X6_undo
set_option maxRecDepth 20000 in
theorem ggL_law_X7_undo : GoodIn wsL_law wsX7_undo := goodIn_r _ [952, 178, 93, 94, 978, 979, 980, 981, 982, 983, 984, 985, 986, 987, 988, 989, 990] (by decide +kernel) (by decide +kernel)
set_option maxRecDepth 20000 in
theorem gL_law_X7_undo : GoodIn wsL_law (wsV RL 123 RX7 yX7_undo wsX7_undo) := goodIn_app (goodIn_of _ (by decide +kernel)) ggL_law_X7_undo
set_option maxRecDepth 20000 in
theorem ggL_law_X6_save : GoodIn wsL_law wsX6_save := goodIn_r _ [956, 21, 13, 14, 15, 16, 26, 27, 28, 29, 11, 12, 30, 31, 32, 33, 34, 35, 36, 37, 38, 39, 40, 41, 42, 43, 44, 45, 46, 47, 48, 49, 50, 51, 52, 53, 54, 55, 56, 57, 58, 59, 60, 61, 62, 63, 64, 65, 66, 67, 68, 69, 70, 71, 72, 73, 74, 75, 76, 77, 957, 113, 114, 115, 116, 117, 118, 119, 120, 121, 122, 123, 124, 125, 126, 127, 128, 129, 130, 131, 132, 133, 134, 135, 136, 137, 138, 139, 140, 141, 958, 959, 960, 961, 974, 975, 976, 977, 991, 992, 993, 994, 995, 996, 997, 998, 1009, 1010, 1011, 1012, 1013, 1014, 1015, 1016, 1017, 1018, 1019, 1020, 1021] (by decide +kernel) (by decide +kernel)
set_option maxRecDepth 20000 in
theorem gL_law_X6_save : GoodIn wsL_law (wsV RL 124 RX6 yX6_save wsX6_save) := goodIn_app (goodIn_of _ (by decide +kernel)) ggL_law_X6_save
set_option maxRecDepth 20000 in
theorem ggL_law_X7_save : GoodIn wsL_law wsX7_save := goodIn_r _ [965, 95, 93, 97, 165, 166, 5, 167, 978, 979, 980, 981, 982, 983, 984, 985, 986, 987, 988, 989, 990] (by decide +kernel) (by decide +kernel)
set_option maxRecDepth 20000 in
theorem gL_law_X7_save : GoodIn wsL_law (wsV RL 127 RX7 yX7_save wsX7_save) := goodIn_app (goodIn_of _ (by decide +kernel)) ggL_law_X7_save
set_option maxRecDepth 20000 in
theorem ggL_law_X6_restore : GoodIn wsL_law wsX6_restore := goodIn_r _ [969, 21, 20, 16, 103, 104, 105, 19, 106, 107, 108, 109, 110, 111, 83, 112, 113, 114, 15, 115, 33, 37, 41, 42, 43, 116, 44, 117, 118, 119, 120, 32, 121, 54, 122, 123, 51, 124, 125, 126, 127, 128, 129, 130, 131, 36, 132, 59, 133, 134, 135, 136, 137, 138, 40, 139, 65, 66, 67, 68, 69, 70, 71, 72, 140, 141, 957, 958, 959, 960, 961, 155, 156, 157, 158, 159, 160, 974, 975, 976, 977, 999, 1000, 1001, 991, 992, 993, 994, 995, 996, 997, 998, 1009, 1010, 1011, 1012, 1013, 1014, 1015, 1016, 1017, 1018, 1019, 1020, 1021] (by decide +kernel) (by decide +kernel)
set_option maxRecDepth 20000 in
theorem gL_law_X6_restore : GoodIn wsL_law (wsV RL 128 RX6 yX6_restore wsX6_restore) := goodIn_app (goodIn_of _ (by decide +kernel)) ggL_law_X6_restore
set_option maxRecDepth 20000 in
theorem ggL_law_X7_restore : GoodIn wsL_law wsX7_restore := goodIn_r _ [973, 97, 93, 95, 165, 166, 5, 167, 174, 175, 176, 177, 178, 94, 978, 979, 980, 981, 982, 983, 984, 985, 986, 987, 988, 989, 990] (by decide +kernel) (by decide +kernel)
set_option maxRecDepth 20000 in
theorem gL_law_X7_restore : GoodIn wsL_law (wsV RL 131 RX7 yX7_restore wsX7_restore) := goodIn_app (goodIn_of _ (by decide +kernel)) ggL_law_X7_restore
