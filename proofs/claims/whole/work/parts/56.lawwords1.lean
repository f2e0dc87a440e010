set_option maxRecDepth 20000 in
theorem ggL_law_X6_fill : GoodIn wsL_law wsX6_fill := goodIn_r _ [552, 20, 16, 103, 104, 105, 19, 106, 107, 108, 109, 110, 111, 83, 112, 113, 114, 15, 115, 33, 37, 41, 42, 43, 116, 44, 117, 118, 119, 120, 32, 121, 54, 122, 123, 51, 124, 125, 126, 127, 128, 129, 130, 131, 36, 132, 59, 133, 134, 135, 136, 137, 138, 40, 139, 65, 66, 67, 68, 69, 70, 71, 72, 140, 141, 553, 554, 555, 556, 557, 532, 2, 533, 213, 149, 150, 151, 152, 153, 154, 74, 75, 76, 77, 155, 156, 157, 158, 159, 160, 974, 975, 976, 977, 999, 1000, 1001, 991, 992, 993, 994, 995, 996, 997, 998, 1009, 1010, 1011, 1012, 1013, 1014, 1015, 1016, 1017, 1018, 1019, 1020, 1021] (by decide +kernel) (by decide +kernel)
set_option maxRecDepth 20000 in
theorem gL_law_X6_fill : GoodIn wsL_law (wsV RL 53 RX6 yX6_fill wsX6_fill) := goodIn_app (goodIn_of _ (by decide +kernel)) ggL_law_X6_fill
set_option maxRecDepth 20000 in
theorem ggL_law_X7_fill : GoodIn wsL_law wsX7_fill := goodIn_r _ [561, 93, 542, 543, 5, 544, 165, 166, 167, 174, 175, 176, 177, 178, 94, 978, 979, 980, 981, 982, 983, 984, 985, 986, 987, 988, 989, 990] (by decide +kernel) (by decide +kernel)
set_option maxRecDepth 20000 in
theorem gL_law_X7_fill : GoodIn wsL_law (wsV RL 56 RX7 yX7_fill wsX7_fill) := goodIn_app (goodIn_of _ (by decide +kernel)) ggL_law_X7_fill
set_option maxRecDepth 20000 in
theorem ggL_law_X6_takeHome : GoodIn wsL_law wsX6_takeHome := goodIn_r _ [565, 20, 16, 103, 104, 105, 19, 106, 107, 108, 109, 110, 111, 83, 112, 113, 114, 15, 115, 33, 37, 41, 42, 43, 116, 44, 117, 118, 119, 120, 32, 121, 54, 122, 123, 51, 124, 125, 126, 127, 128, 129, 130, 131, 36, 132, 59, 133, 134, 135, 136, 137, 138, 40, 139, 65, 66, 67, 68, 69, 70, 71, 72, 140, 141, 566, 567, 568, 569, 379, 380, 381, 382, 387, 388, 389, 390, 301, 152, 153, 154, 383, 384, 385, 386, 151, 495, 496, 497, 498, 499, 500, 75, 76, 77, 74, 155, 156, 157, 158, 159, 160, 974, 975, 976, 977, 999, 1000, 1001, 991, 992, 993, 994, 995, 996, 997, 998, 1009, 1010, 1011, 1012, 1013, 1014, 1015, 1016, 1017, 1018, 1019, 1020, 1021] (by decide +kernel) (by decide +kernel)
set_option maxRecDepth 20000 in
theorem gL_law_X6_takeHome : GoodIn wsL_law (wsV RL 57 RX6 yX6_takeHome wsX6_takeHome) := goodIn_app (goodIn_of _ (by decide +kernel)) ggL_law_X6_takeHome
set_option maxRecDepth 20000 in
theorem ggL_law_X7_takeHome : GoodIn wsL_law wsX7_takeHome := goodIn_r _ [573, 574, 575, 576, 5, 577, 428, 429, 430, 431, 93, 165, 166, 167, 343, 344, 345, 346, 174, 175, 176, 177, 178, 94, 578, 579, 580, 581, 355, 356, 357, 358, 978, 979, 980, 981, 982, 983, 984, 985, 986, 987, 988, 989, 990] (by decide +kernel) (by decide +kernel)
set_option maxRecDepth 20000 in
theorem gL_law_X7_takeHome : GoodIn wsL_law (wsV RL 60 RX7 yX7_takeHome wsX7_takeHome) := goodIn_app (goodIn_of _ (by decide +kernel)) ggL_law_X7_takeHome
set_option maxRecDepth 20000 in
theorem ggL_law_X6_pass : GoodIn wsL_law wsX6_pass := goodIn_r _ [585, 20, 16, 103, 104, 105, 19, 106, 107, 108, 109, 110, 111, 83, 112, 113, 114, 15, 115, 33, 37, 41, 42, 43, 116, 44, 117, 118, 119, 120, 32, 121, 54, 122, 123, 51, 124, 125, 126, 127, 128, 129, 130, 131, 36, 132, 59, 133, 134, 135, 136, 137, 138, 40, 139, 65, 66, 67, 68, 69, 70, 71, 72, 140, 141, 586, 587, 588, 589, 149, 2, 150, 590, 591, 592, 593, 594, 384, 385, 386, 301, 152, 153, 154, 485, 388, 389, 390, 595, 596, 597, 598, 599, 496, 497, 498, 499, 500, 75, 76, 77, 600, 601, 602, 603, 604, 278, 279, 280, 220, 221, 222, 223, 234, 155, 156, 157, 158, 159, 160, 974, 975, 976, 977, 999, 1000, 1001, 991, 992, 993, 994, 995, 996, 997, 998, 1009, 1010, 1011, 1012, 1013, 1014, 1015, 1016, 1017, 1018, 1019, 1020, 1021] (by decide +kernel) (by decide +kernel)
set_option maxRecDepth 20000 in
theorem gL_law_X6_pass : GoodIn wsL_law (wsV RL 61 RX6 yX6_pass wsX6_pass) := goodIn_app (goodIn_of _ (by decide +kernel)) ggL_law_X6_pass
set_option maxRecDepth 20000 in
theorem ggL_law_X7_pass : GoodIn wsL_law wsX7_pass := goodIn_r _ [608, 609, 610, 611, 5, 612, 93, 165, 166, 167, 174, 175, 176, 177, 178, 94, 613, 614, 615, 616, 617, 618, 619, 620, 343, 344, 345, 346, 355, 356, 357, 358, 253, 254, 255, 256, 978, 979, 980, 981, 982, 983, 984, 985, 986, 987, 988, 989, 990] (by decide +kernel) (by decide +kernel)
set_option maxRecDepth 20000 in
theorem gL_law_X7_pass : GoodIn wsL_law (wsV RL 64 RX7 yX7_pass wsX7_pass) := goodIn_app (goodIn_of _ (by decide +kernel)) ggL_law_X7_pass
set_option maxRecDepth 20000 in
theorem ggL_law_X6_of : GoodIn wsL_law wsX6_of := goodIn_r _ [624, 16, 625, 626, 627, 15, 628, 41, 379, 380, 381, 40, 382, 140, 383, 384, 385, 386, 69, 301, 152, 153, 32, 154, 54, 387, 388, 389, 390, 68, 151, 460, 417, 418, 419, 974, 975, 976, 977, 991, 992, 993, 994, 995, 996, 997, 998, 1013, 1014, 1015, 1016, 1017, 1018, 1019, 1020, 1021, 1009] (by decide +kernel) (by decide +kernel)
set_option maxRecDepth 20000 in
theorem gL_law_X6_of : GoodIn wsL_law (wsV RL 65 RX6 yX6_of wsX6_of) := goodIn_app (goodIn_of _ (by decide +kernel)) ggL_law_X6_of
set_option maxRecDepth 20000 in
theorem ggL_law_X7_of : GoodIn wsL_law wsX7_of := goodIn_r _ [632, 428, 429, 430, 5, 431, 93, 165, 166, 167, 343, 344, 345, 346, 978, 979, 980, 981, 982, 983, 984, 985, 986, 987, 988, 989, 990] (by decide +kernel) (by decide +kernel)
set_option maxRecDepth 20000 in
theorem gL_law_X7_of : GoodIn wsL_law (wsV RL 68 RX7 yX7_of wsX7_of) := goodIn_app (goodIn_of _ (by decide +kernel)) ggL_law_X7_of
set_option maxRecDepth 20000 in
theorem ggL_law_X6_ofPupil : GoodIn wsL_law wsX6_ofPupil := goodIn_r _ [636, 16, 637, 638, 639, 15, 640, 37, 41, 43, 207, 208, 209, 210, 116, 225, 226, 227, 36, 228, 229, 217, 218, 219, 59, 220, 221, 222, 223, 133, 224, 152, 153, 32, 154, 54, 641, 642, 643, 40, 644, 65, 140, 404, 405, 406, 407, 645, 409, 410, 411, 68, 151, 646, 647, 648, 649, 650, 974, 975, 976, 977, 991, 992, 993, 994, 995, 996, 997, 998, 1010, 1011, 1012, 1009, 1013, 1014, 1015, 1016, 1017, 1018, 1019, 1020, 1021] (by decide +kernel) (by decide +kernel)
set_option maxRecDepth 20000 in
theorem gL_law_X6_ofPupil : GoodIn wsL_law (wsV RL 69 RX6 yX6_ofPupil wsX6_ofPupil) := goodIn_app (goodIn_of _ (by decide +kernel)) ggL_law_X6_ofPupil
set_option maxRecDepth 20000 in
theorem ggL_law_X7_ofPupil : GoodIn wsL_law wsX7_ofPupil := goodIn_r _ [654, 93, 243, 244, 245, 5, 246, 165, 166, 167, 257, 258, 259, 260, 253, 254, 255, 256, 655, 656, 657, 658, 343, 344, 345, 346, 659, 660, 661, 662, 978, 979, 980, 981, 982, 983, 984, 985, 986, 987, 988, 989, 990] (by decide +kernel) (by decide +kernel)
set_option maxRecDepth 20000 in
theorem gL_law_X7_ofPupil : GoodIn wsL_law (wsV RL 72 RX7 yX7_ofPupil wsX7_ofPupil) := goodIn_app (goodIn_of _ (by decide +kernel)) ggL_law_X7_ofPupil
set_option maxRecDepth 20000 in
theorem ggL_law_X6_booked : GoodIn wsL_law wsX6_booked := goodIn_r _ [666, 16, 667, 668, 669, 15, 670, 37, 211, 2, 212, 213, 149, 150, 214, 215, 216, 217, 218, 36, 219, 59, 220, 221, 222, 223, 133, 224, 152, 153, 32, 154, 54, 974, 975, 976, 977, 991, 992, 993, 994, 995, 996, 997, 998, 1010, 1011, 1012, 1009] (by decide +kernel) (by decide +kernel)
set_option maxRecDepth 20000 in
theorem gL_law_X6_booked : GoodIn wsL_law (wsV RL 73 RX6 yX6_booked wsX6_booked) := goodIn_app (goodIn_of _ (by decide +kernel)) ggL_law_X6_booked
set_option maxRecDepth 20000 in
theorem ggL_law_X7_booked : GoodIn wsL_law wsX7_booked := goodIn_r _ [674, 247, 248, 5, 249, 165, 166, 167, 250, 251, 252, 253, 254, 255, 256, 93, 978, 979, 980, 981, 982, 983, 984, 985, 986, 987, 988, 989, 990] (by decide +kernel) (by decide +kernel)
set_option maxRecDepth 20000 in
theorem gL_law_X7_booked : GoodIn wsL_law (wsV RL 76 RX7 yX7_booked wsX7_booked) := goodIn_app (goodIn_of _ (by decide +kernel)) ggL_law_X7_booked
set_option maxRecDepth 20000 in
theorem ggL_law_X6_count : GoodIn wsL_law wsX6_count := goodIn_r _ [678, 25, 20, 16, 679, 680, 681, 24, 682, 683, 684, 685, 686, 19, 687, 159, 688, 689, 690, 15, 691, 42, 33, 37, 116, 41, 117, 43, 149, 2, 150, 151, 152, 153, 32, 154, 54, 692, 693, 694, 40, 695, 140, 594, 384, 385, 386, 69, 301, 476, 401, 402, 403, 404, 405, 406, 407, 412, 413, 414, 415, 66, 416, 417, 418, 419, 293, 294, 295, 296, 297, 298, 299, 300, 302, 303, 304, 305, 306, 307, 308, 696, 697, 698, 699, 375, 376, 377, 378, 379, 380, 381, 382, 383, 387, 388, 389, 390, 68, 391, 392, 393, 394, 395, 50, 51, 52, 396, 397, 398, 399, 400, 408, 409, 410, 411, 645, 490, 700, 701, 702, 703, 974, 975, 976, 977, 1002, 1003, 1004, 1005, 1006, 1007, 1008, 999, 1000, 1001, 991, 992, 993, 994, 995, 996, 997, 998, 1010, 1011, 1012, 1013, 1014, 1015, 1016, 1017, 1018, 1019, 1020, 1021, 1009] (by decide +kernel) (by decide +kernel)
set_option maxRecDepth 20000 in
theorem gL_law_X6_count : GoodIn wsL_law (wsV RL 77 RX6 yX6_count wsX6_count) := goodIn_app (goodIn_of _ (by decide +kernel)) ggL_law_X6_count
set_option maxRecDepth 20000 in
theorem ggL_law_X7_count : GoodIn wsL_law wsX7_count := goodIn_r _ [707, 93, 708, 178, 165, 166, 5, 167, 339, 340, 341, 342, 343, 344, 345, 346, 444, 445, 446, 447, 335, 336, 337, 338, 347, 348, 349, 709, 710, 711, 712, 432, 433, 434, 435, 436, 437, 438, 439, 440, 441, 442, 443, 978, 979, 980, 981, 982, 983, 984, 985, 986, 987, 988, 989, 990] (by decide +kernel) (by decide +kernel)
set_option maxRecDepth 20000 in
theorem gL_law_X7_count : GoodIn wsL_law (wsV RL 80 RX7 yX7_count wsX7_count) := goodIn_app (goodIn_of _ (by decide +kernel)) ggL_law_X7_count
set_option maxRecDepth 20000 in
theorem ggL_law_X6_why : GoodIn wsL_law wsX6_why := goodIn_r _ [716, 16, 717, 376, 377, 15, 378, 41, 33, 379, 380, 381, 40, 382, 140, 383, 384, 385, 386, 69, 301, 152, 153, 32, 154, 54, 387, 388, 389, 390, 68, 391, 392, 393, 394, 395, 50, 51, 52, 151, 396, 397, 398, 399, 400, 401, 402, 403, 404, 405, 406, 407, 408, 409, 410, 411, 412, 413, 414, 415, 66, 416, 417, 418, 419, 974, 975, 976, 977, 991, 992, 993, 994, 995, 996, 997, 998, 1013, 1014, 1015, 1016, 1017, 1018, 1019, 1020, 1021, 1009] (by decide +kernel) (by decide +kernel)
set_option maxRecDepth 20000 in
theorem gL_law_X6_why : GoodIn wsL_law (wsV RL 81 RX6 yX6_why wsX6_why) := goodIn_app (goodIn_of _ (by decide +kernel)) ggL_law_X6_why
set_option maxRecDepth 20000 in
theorem ggL_law_X7_why : GoodIn wsL_law wsX7_why := goodIn_r _ [721, 428, 429, 430, 5, 431, 93, 165, 166, 167, 432, 433, 434, 435, 343, 344, 345, 346, 436, 437, 438, 439, 440, 441, 442, 443, 444, 445, 446, 447, 978, 979, 980, 981, 982, 983, 984, 985, 986, 987, 988, 989, 990] (by decide +kernel) (by decide +kernel)
set_option maxRecDepth 20000 in
theorem gL_law_X7_why : GoodIn wsL_law (wsV RL 84 RX7 yX7_why wsX7_why) := goodIn_app (goodIn_of _ (by decide +kernel)) ggL_law_X7_why
set_option maxRecDepth 20000 in
theorem ggL_law_X6_dryIn : GoodIn wsL_law wsX6_dryIn := goodIn_r _ [725, 16, 726, 727, 728, 15, 729, 41, 379, 380, 381, 40, 382, 140, 387, 388, 389, 390, 68, 301, 152, 153, 32, 154, 54, 460, 417, 418, 419, 69, 391, 392, 393, 394, 33, 395, 50, 51, 52, 151, 730, 596, 597, 598, 974, 975, 976, 977, 991, 992, 993, 994, 995, 996, 997, 998, 1013, 1014, 1015, 1016, 1017, 1018, 1019, 1020, 1021, 1009] (by decide +kernel) (by decide +kernel)
set_option maxRecDepth 20000 in
theorem gL_law_X6_dryIn : GoodIn wsL_law (wsV RL 85 RX6 yX6_dryIn wsX6_dryIn) := goodIn_app (goodIn_of _ (by decide +kernel)) ggL_law_X6_dryIn
set_option maxRecDepth 20000 in
theorem ggL_law_X7_dryIn : GoodIn wsL_law wsX7_dryIn := goodIn_r _ [734, 428, 429, 430, 5, 431, 93, 165, 166, 167, 343, 344, 345, 346, 436, 437, 438, 439, 978, 979, 980, 981, 982, 983, 984, 985, 986, 987, 988, 989, 990] (by decide +kernel) (by decide +kernel)
set_option maxRecDepth 20000 in
theorem gL_law_X7_dryIn : GoodIn wsL_law (wsV RL 88 RX7 yX7_dryIn wsX7_dryIn) := goodIn_app (goodIn_of _ (by decide +kernel)) ggL_law_X7_dryIn
set_option maxRecDepth 20000 in
theorem ggL_law_X6_ifFired : GoodIn wsL_law wsX6_ifFired := goodIn_r _ [738, 16, 739, 740, 741, 15, 742, 474, 2, 475, 213, 149, 150, 477, 478, 479, 480, 41, 33, 460, 417, 418, 40, 419, 69, 301, 152, 153, 32, 154, 54, 151, 481, 482, 483, 484, 67, 485, 388, 389, 390, 68, 486, 487, 488, 489, 71, 974, 975, 976, 977, 991, 992, 993, 994, 995, 996, 997, 998, 1013, 1014, 1015, 1016, 1017, 1018, 1019, 1020, 1021, 1009] (by decide +kernel) (by decide +kernel)
set_option maxRecDepth 20000 in
theorem gL_law_X6_ifFired : GoodIn wsL_law (wsV RL 89 RX6 yX6_ifFired wsX6_ifFired) := goodIn_app (goodIn_of _ (by decide +kernel)) ggL_law_X6_ifFired
set_option maxRecDepth 20000 in
theorem ggL_law_X7_ifFired : GoodIn wsL_law wsX7_ifFired := goodIn_r _ [746, 165, 166, 5, 167, 509, 510, 511, 512, 93, 343, 344, 345, 346, 513, 514, 515, 516, 517, 518, 519, 339, 340, 341, 342, 978, 979, 980, 981, 982, 983, 984, 985, 986, 987, 988, 989, 990] (by decide +kernel) (by decide +kernel)
set_option maxRecDepth 20000 in
theorem gL_law_X7_ifFired : GoodIn wsL_law (wsV RL 92 RX7 yX7_ifFired wsX7_ifFired) := goodIn_app (goodIn_of _ (by decide +kernel)) ggL_law_X7_ifFired
