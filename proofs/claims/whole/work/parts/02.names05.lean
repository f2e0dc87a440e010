set_option maxRecDepth 20000 in
theorem gX6_isAhead_X6_isWithin : GoodIn wsX6_isAhead (va_wsS RX6 160 yX6_isWithin wsX6_isWithin) := goodIn_app (goodIn_of _ (by decide +kernel)) ggX6_isAhead_X6_isWithin
theorem dX6_isAhead_0 : decode cX6_isAhead 0 = .ok (.iload_n 0, 1) := by decide +kernel
theorem dX6_isAhead_1 : decode cX6_isAhead 1 = .ok (.iconst 0, 1) := by decide +kernel
theorem dX6_isAhead_2 : decode cX6_isAhead 2 = .ok (.bipush 20, 2) := by decide +kernel
theorem dX6_isAhead_4 : decode cX6_isAhead 4 = .ok (.invokestatic 160, 3) := by decide +kernel
theorem dX6_isAhead_7 : decode cX6_isAhead 7 = .ok (.ireturn, 1) := by decide +kernel
set_option maxRecDepth 20000 in
theorem ggX6_isHeat_X6_isWithin : GoodIn wsX6_isHeat wsX6_isWithin := goodIn_r _ [4] (by decide +kernel) (by decide +kernel)
set_option maxRecDepth 20000 in
theorem gX6_isHeat_X6_isWithin : GoodIn wsX6_isHeat (va_wsS RX6 160 yX6_isWithin wsX6_isWithin) := goodIn_app (goodIn_of _ (by decide +kernel)) ggX6_isHeat_X6_isWithin
theorem dX6_isHeat_0 : decode cX6_isHeat 0 = .ok (.iload_n 0, 1) := by decide +kernel
theorem dX6_isHeat_1 : decode cX6_isHeat 1 = .ok (.bipush 80, 2) := by decide +kernel
theorem dX6_isHeat_3 : decode cX6_isHeat 3 = .ok (.sipush 140, 3) := by decide +kernel
theorem dX6_isHeat_6 : decode cX6_isHeat 6 = .ok (.invokestatic 160, 3) := by decide +kernel
theorem dX6_isHeat_9 : decode cX6_isHeat 9 = .ok (.ireturn, 1) := by decide +kernel
set_option maxRecDepth 20000 in
theorem ggX6_isWheel_X6_isWithin : GoodIn wsX6_isWheel wsX6_isWithin := goodIn_r _ [4] (by decide +kernel) (by decide +kernel)
set_option maxRecDepth 20000 in
theorem gX6_isWheel_X6_isWithin : GoodIn wsX6_isWheel (va_wsS RX6 160 yX6_isWithin wsX6_isWithin) := goodIn_app (goodIn_of _ (by decide +kernel)) ggX6_isWheel_X6_isWithin
theorem dX6_isWheel_0 : decode cX6_isWheel 0 = .ok (.iload_n 0, 1) := by decide +kernel
theorem dX6_isWheel_1 : decode cX6_isWheel 1 = .ok (.iconst 0, 1) := by decide +kernel
theorem dX6_isWheel_2 : decode cX6_isWheel 2 = .ok (.iconst 4, 1) := by decide +kernel
theorem dX6_isWheel_3 : decode cX6_isWheel 3 = .ok (.invokestatic 160, 3) := by decide +kernel
theorem dX6_isWheel_6 : decode cX6_isWheel 6 = .ok (.ireturn, 1) := by decide +kernel
set_option maxRecDepth 20000 in
theorem ggX6_isGlaze_X6_isWithin : GoodIn wsX6_isGlaze wsX6_isWithin := goodIn_r _ [4] (by decide +kernel) (by decide +kernel)
set_option maxRecDepth 20000 in
theorem gX6_isGlaze_X6_isWithin : GoodIn wsX6_isGlaze (va_wsS RX6 160 yX6_isWithin wsX6_isWithin) := goodIn_app (goodIn_of _ (by decide +kernel)) ggX6_isGlaze_X6_isWithin
theorem dX6_isGlaze_0 : decode cX6_isGlaze 0 = .ok (.iload_n 0, 1) := by decide +kernel
theorem dX6_isGlaze_1 : decode cX6_isGlaze 1 = .ok (.iconst 0, 1) := by decide +kernel
theorem dX6_isGlaze_2 : decode cX6_isGlaze 2 = .ok (.iconst 3, 1) := by decide +kernel
theorem dX6_isGlaze_3 : decode cX6_isGlaze 3 = .ok (.invokestatic 160, 3) := by decide +kernel
theorem dX6_isGlaze_6 : decode cX6_isGlaze 6 = .ok (.ireturn, 1) := by decide +kernel
theorem dX7_init_0 : decode cX7_init 0 = .ok (.aload_n 0, 1) := by decide +kernel
theorem dX7_init_1 : decode cX7_init 1 = .ok (.invokespecial 1, 3) := by decide +kernel
theorem dX7_init_4 : decode cX7_init 4 = .ok (.aload_n 0, 1) := by decide +kernel
theorem dX7_init_5 : decode cX7_init 5 = .ok (.sipush 320, 3) := by decide +kernel
theorem dX7_init_8 : decode cX7_init 8 = .ok (.newarray .int, 2) := by decide +kernel
theorem dX7_init_10 : decode cX7_init 10 = .ok (.putfield 7, 3) := by decide +kernel
theorem dX7_init_13 : decode cX7_init 13 = .ok (.aload_n 0, 1) := by decide +kernel
theorem dX7_init_14 : decode cX7_init 14 = .ok (.sipush 1920, 3) := by decide +kernel
theorem dX7_init_17 : decode cX7_init 17 = .ok (.newarray .int, 2) := by decide +kernel
theorem dX7_init_19 : decode cX7_init 19 = .ok (.putfield 13, 3) := by decide +kernel
theorem dX7_init_22 : decode cX7_init 22 = .ok (.aload_n 0, 1) := by decide +kernel
theorem dX7_init_23 : decode cX7_init 23 = .ok (.sipush 640, 3) := by decide +kernel
theorem dX7_init_26 : decode cX7_init 26 = .ok (.newarray .int, 2) := by decide +kernel
theorem dX7_init_28 : decode cX7_init 28 = .ok (.putfield 16, 3) := by decide +kernel
theorem dX7_init_31 : decode cX7_init 31 = .ok (.aload_n 0, 1) := by decide +kernel
theorem dX7_init_32 : decode cX7_init 32 = .ok (.iconst 2, 1) := by decide +kernel
theorem dX7_init_33 : decode cX7_init 33 = .ok (.newarray .boolean, 2) := by decide +kernel
theorem dX7_init_35 : decode cX7_init 35 = .ok (.putfield 19, 3) := by decide +kernel
theorem dX7_init_38 : decode cX7_init 38 = .ok (.aload_n 0, 1) := by decide +kernel
theorem dX7_init_39 : decode cX7_init 39 = .ok (.bipush 80, 2) := by decide +kernel
theorem dX7_init_41 : decode cX7_init 41 = .ok (.newarray .int, 2) := by decide +kernel
theorem dX7_init_43 : decode cX7_init 43 = .ok (.putfield 23, 3) := by decide +kernel
theorem dX7_init_46 : decode cX7_init 46 = .ok (.aload_n 0, 1) := by decide +kernel
theorem dX7_init_47 : decode cX7_init 47 = .ok (.getfield 7, 3) := by decide +kernel
theorem dX7_init_50 : decode cX7_init 50 = .ok (.iconst 1, 1) := by decide +kernel
theorem dX7_init_51 : decode cX7_init 51 = .ok (.iconst 1, 1) := by decide +kernel
theorem dX7_init_52 : decode cX7_init 52 = .ok (.iastore, 1) := by decide +kernel
theorem dX7_init_53 : decode cX7_init 53 = .ok (.aload_n 0, 1) := by decide +kernel
theorem dX7_init_54 : decode cX7_init 54 = .ok (.getfield 7, 3) := by decide +kernel
theorem dX7_init_57 : decode cX7_init 57 = .ok (.iconst 2, 1) := by decide +kernel
theorem dX7_init_58 : decode cX7_init 58 = .ok (.iconst 2, 1) := by decide +kernel
theorem dX7_init_59 : decode cX7_init 59 = .ok (.iastore, 1) := by decide +kernel
theorem dX7_init_60 : decode cX7_init 60 = .ok (.aload_n 0, 1) := by decide +kernel
theorem dX7_init_61 : decode cX7_init 61 = .ok (.getfield 7, 3) := by decide +kernel
theorem dX7_init_64 : decode cX7_init 64 = .ok (.iconst 3, 1) := by decide +kernel
theorem dX7_init_65 : decode cX7_init 65 = .ok (.bipush 8, 2) := by decide +kernel
theorem dX7_init_67 : decode cX7_init 67 = .ok (.iastore, 1) := by decide +kernel
theorem dX7_init_68 : decode cX7_init 68 = .ok (.aload_n 0, 1) := by decide +kernel
theorem dX7_init_69 : decode cX7_init 69 = .ok (.getfield 7, 3) := by decide +kernel
theorem dX7_init_72 : decode cX7_init 72 = .ok (.iconst 4, 1) := by decide +kernel
theorem dX7_init_73 : decode cX7_init 73 = .ok (.bipush 120, 2) := by decide +kernel
theorem dX7_init_75 : decode cX7_init 75 = .ok (.iastore, 1) := by decide +kernel
theorem dX7_init_76 : decode cX7_init 76 = .ok (.aload_n 0, 1) := by decide +kernel
theorem dX7_init_77 : decode cX7_init 77 = .ok (.getfield 7, 3) := by decide +kernel
theorem dX7_init_80 : decode cX7_init 80 = .ok (.iconst 5, 1) := by decide +kernel
theorem dX7_init_81 : decode cX7_init 81 = .ok (.iconst 3, 1) := by decide +kernel
theorem dX7_init_82 : decode cX7_init 82 = .ok (.iastore, 1) := by decide +kernel
theorem dX7_init_83 : decode cX7_init 83 = .ok (.iconst 0, 1) := by decide +kernel
theorem dX7_init_84 : decode cX7_init 84 = .ok (.istore_n 1, 1) := by decide +kernel
theorem dX7_init_85 : decode cX7_init 85 = .ok (.iload_n 1, 1) := by decide +kernel
theorem dX7_init_86 : decode cX7_init 86 = .ok (.iconst 4, 1) := by decide +kernel
theorem dX7_init_87 : decode cX7_init 87 = .ok (.if_icmp .ge 20, 3) := by decide +kernel
theorem dX7_init_90 : decode cX7_init 90 = .ok (.aload_n 0, 1) := by decide +kernel
theorem dX7_init_91 : decode cX7_init 91 = .ok (.getfield 7, 3) := by decide +kernel
theorem dX7_init_94 : decode cX7_init 94 = .ok (.bipush 11, 2) := by decide +kernel
theorem dX7_init_96 : decode cX7_init 96 = .ok (.iload_n 1, 1) := by decide +kernel
theorem dX7_init_97 : decode cX7_init 97 = .ok (.iadd, 1) := by decide +kernel
theorem dX7_init_98 : decode cX7_init 98 = .ok (.bipush 20, 2) := by decide +kernel
theorem dX7_init_100 : decode cX7_init 100 = .ok (.iastore, 1) := by decide +kernel
theorem dX7_init_101 : decode cX7_init 101 = .ok (.iinc 1 1, 3) := by decide +kernel
theorem dX7_init_104 : decode cX7_init 104 = .ok (.goto (-19), 3) := by decide +kernel
theorem dX7_init_107 : decode cX7_init 107 = .ok (.iconst 0, 1) := by decide +kernel
theorem dX7_init_108 : decode cX7_init 108 = .ok (.istore_n 1, 1) := by decide +kernel
theorem dX7_init_109 : decode cX7_init 109 = .ok (.iload_n 1, 1) := by decide +kernel
theorem dX7_init_110 : decode cX7_init 110 = .ok (.bipush 105, 2) := by decide +kernel
theorem dX7_init_112 : decode cX7_init 112 = .ok (.if_icmp .ge 21, 3) := by decide +kernel
theorem dX7_init_115 : decode cX7_init 115 = .ok (.aload_n 0, 1) := by decide +kernel
theorem dX7_init_116 : decode cX7_init 116 = .ok (.getfield 7, 3) := by decide +kernel
theorem dX7_init_119 : decode cX7_init 119 = .ok (.sipush 215, 3) := by decide +kernel
theorem dX7_init_122 : decode cX7_init 122 = .ok (.iload_n 1, 1) := by decide +kernel
theorem dX7_init_123 : decode cX7_init 123 = .ok (.iadd, 1) := by decide +kernel
theorem dX7_init_124 : decode cX7_init 124 = .ok (.bipush (-6), 2) := by decide +kernel
theorem dX7_init_126 : decode cX7_init 126 = .ok (.iastore, 1) := by decide +kernel
theorem dX7_init_127 : decode cX7_init 127 = .ok (.iinc 1 1, 3) := by decide +kernel
theorem dX7_init_130 : decode cX7_init 130 = .ok (.goto (-21), 3) := by decide +kernel
theorem dX7_init_133 : decode cX7_init 133 = .ok (.return_, 1) := by decide +kernel
theorem dX7_in_0 : decode cX7_in 0 = .ok (.iload_n 0, 1) := by decide +kernel
theorem dX7_in_1 : decode cX7_in 1 = .ok (.iload_n 1, 1) := by decide +kernel
theorem dX7_in_2 : decode cX7_in 2 = .ok (.if_icmp .lt 12, 3) := by decide +kernel
theorem dX7_in_5 : decode cX7_in 5 = .ok (.iload_n 0, 1) := by decide +kernel
theorem dX7_in_6 : decode cX7_in 6 = .ok (.iload_n 2, 1) := by decide +kernel
theorem dX7_in_7 : decode cX7_in 7 = .ok (.if_icmp .gt 7, 3) := by decide +kernel
theorem dX7_in_10 : decode cX7_in 10 = .ok (.iconst 1, 1) := by decide +kernel
theorem dX7_in_11 : decode cX7_in 11 = .ok (.goto 4, 3) := by decide +kernel
theorem dX7_in_14 : decode cX7_in 14 = .ok (.iconst 0, 1) := by decide +kernel
theorem dX7_in_15 : decode cX7_in 15 = .ok (.ireturn, 1) := by decide +kernel
theorem dX7_pot_0 : decode cX7_pot 0 = .ok (.aload_n 0, 1) := by decide +kernel
theorem dX7_pot_1 : decode cX7_pot 1 = .ok (.getfield 7, 3) := by decide +kernel
theorem dX7_pot_4 : decode cX7_pot 4 = .ok (.bipush 35, 2) := by decide +kernel
theorem dX7_pot_6 : decode cX7_pot 6 = .ok (.bipush 9, 2) := by decide +kernel
theorem dX7_pot_8 : decode cX7_pot 8 = .ok (.iload_n 1, 1) := by decide +kernel
theorem dX7_pot_9 : decode cX7_pot 9 = .ok (.imul, 1) := by decide +kernel
theorem dX7_pot_10 : decode cX7_pot 10 = .ok (.iadd, 1) := by decide +kernel
theorem dX7_pot_11 : decode cX7_pot 11 = .ok (.iload_n 2, 1) := by decide +kernel
theorem dX7_pot_12 : decode cX7_pot 12 = .ok (.iadd, 1) := by decide +kernel
theorem dX7_pot_13 : decode cX7_pot 13 = .ok (.iaload, 1) := by decide +kernel
theorem dX7_pot_14 : decode cX7_pot 14 = .ok (.ireturn, 1) := by decide +kernel
theorem dX7_put_0 : decode cX7_put 0 = .ok (.aload_n 0, 1) := by decide +kernel
theorem dX7_put_1 : decode cX7_put 1 = .ok (.getfield 7, 3) := by decide +kernel
theorem dX7_put_4 : decode cX7_put 4 = .ok (.bipush 35, 2) := by decide +kernel
theorem dX7_put_6 : decode cX7_put 6 = .ok (.bipush 9, 2) := by decide +kernel
theorem dX7_put_8 : decode cX7_put 8 = .ok (.iload_n 1, 1) := by decide +kernel
theorem dX7_put_9 : decode cX7_put 9 = .ok (.imul, 1) := by decide +kernel
theorem dX7_put_10 : decode cX7_put 10 = .ok (.iadd, 1) := by decide +kernel
theorem dX7_put_11 : decode cX7_put 11 = .ok (.iload_n 2, 1) := by decide +kernel
theorem dX7_put_12 : decode cX7_put 12 = .ok (.iadd, 1) := by decide +kernel
theorem dX7_put_13 : decode cX7_put 13 = .ok (.iload_n 3, 1) := by decide +kernel
theorem dX7_put_14 : decode cX7_put 14 = .ok (.iastore, 1) := by decide +kernel
theorem dX7_put_15 : decode cX7_put 15 = .ok (.return_, 1) := by decide +kernel
set_option maxRecDepth 20000 in
theorem ggX7_isPupil_X7_in : GoodIn wsX7_isPupil wsX7_in := goodIn_r _ [5] (by decide +kernel) (by decide +kernel)
set_option maxRecDepth 20000 in
theorem gX7_isPupil_X7_in : GoodIn wsX7_isPupil (va_wsS RX7 26 yX7_in wsX7_in) := goodIn_app (goodIn_of _ (by decide +kernel)) ggX7_isPupil_X7_in
theorem dX7_isPupil_0 : decode cX7_isPupil 0 = .ok (.iload_n 1, 1) := by decide +kernel
theorem dX7_isPupil_1 : decode cX7_isPupil 1 = .ok (.iconst 0, 1) := by decide +kernel
theorem dX7_isPupil_2 : decode cX7_isPupil 2 = .ok (.aload_n 0, 1) := by decide +kernel
theorem dX7_isPupil_3 : decode cX7_isPupil 3 = .ok (.getfield 7, 3) := by decide +kernel
theorem dX7_isPupil_6 : decode cX7_isPupil 6 = .ok (.bipush 6, 2) := by decide +kernel
theorem dX7_isPupil_8 : decode cX7_isPupil 8 = .ok (.iaload, 1) := by decide +kernel
theorem dX7_isPupil_9 : decode cX7_isPupil 9 = .ok (.iconst 1, 1) := by decide +kernel
theorem dX7_isPupil_10 : decode cX7_isPupil 10 = .ok (.isub, 1) := by decide +kernel
theorem dX7_isPupil_11 : decode cX7_isPupil 11 = .ok (.invokestatic 26, 3) := by decide +kernel
theorem dX7_isPupil_14 : decode cX7_isPupil 14 = .ok (.ireturn, 1) := by decide +kernel
set_option maxRecDepth 20000 in
theorem ggX7_isWheel_X7_in : GoodIn wsX7_isWheel wsX7_in := goodIn_r _ [4] (by decide +kernel) (by decide +kernel)
set_option maxRecDepth 20000 in
theorem gX7_isWheel_X7_in : GoodIn wsX7_isWheel (va_wsS RX7 26 yX7_in wsX7_in) := goodIn_app (goodIn_of _ (by decide +kernel)) ggX7_isWheel_X7_in
theorem dX7_isWheel_0 : decode cX7_isWheel 0 = .ok (.iload_n 0, 1) := by decide +kernel
theorem dX7_isWheel_1 : decode cX7_isWheel 1 = .ok (.iconst 0, 1) := by decide +kernel
theorem dX7_isWheel_2 : decode cX7_isWheel 2 = .ok (.iconst 4, 1) := by decide +kernel
theorem dX7_isWheel_3 : decode cX7_isWheel 3 = .ok (.invokestatic 26, 3) := by decide +kernel
theorem dX7_isWheel_6 : decode cX7_isWheel 6 = .ok (.ireturn, 1) := by decide +kernel
set_option maxRecDepth 20000 in
theorem ggX7_isAhead_X7_in : GoodIn wsX7_isAhead wsX7_in := goodIn_r _ [4] (by decide +kernel) (by decide +kernel)
set_option maxRecDepth 20000 in
theorem gX7_isAhead_X7_in : GoodIn wsX7_isAhead (va_wsS RX7 26 yX7_in wsX7_in) := goodIn_app (goodIn_of _ (by decide +kernel)) ggX7_isAhead_X7_in
theorem dX7_isAhead_0 : decode cX7_isAhead 0 = .ok (.iload_n 0, 1) := by decide +kernel
theorem dX7_isAhead_1 : decode cX7_isAhead 1 = .ok (.iconst 0, 1) := by decide +kernel
theorem dX7_isAhead_2 : decode cX7_isAhead 2 = .ok (.bipush 20, 2) := by decide +kernel
theorem dX7_isAhead_4 : decode cX7_isAhead 4 = .ok (.invokestatic 26, 3) := by decide +kernel
theorem dX7_isAhead_7 : decode cX7_isAhead 7 = .ok (.ireturn, 1) := by decide +kernel
set_option maxRecDepth 20000 in
theorem ggX7_isPot_X7_in : GoodIn wsX7_isPot wsX7_in := goodIn_r _ [5] (by decide +kernel) (by decide +kernel)
set_option maxRecDepth 20000 in
theorem gX7_isPot_X7_in : GoodIn wsX7_isPot (va_wsS RX7 26 yX7_in wsX7_in) := goodIn_app (goodIn_of _ (by decide +kernel)) ggX7_isPot_X7_in
theorem dX7_isPot_0 : decode cX7_isPot 0 = .ok (.iload_n 1, 1) := by decide +kernel
theorem dX7_isPot_1 : decode cX7_isPot 1 = .ok (.iconst 0, 1) := by decide +kernel
theorem dX7_isPot_2 : decode cX7_isPot 2 = .ok (.aload_n 0, 1) := by decide +kernel
theorem dX7_isPot_3 : decode cX7_isPot 3 = .ok (.getfield 7, 3) := by decide +kernel
theorem dX7_isPot_6 : decode cX7_isPot 6 = .ok (.bipush 7, 2) := by decide +kernel
theorem dX7_isPot_8 : decode cX7_isPot 8 = .ok (.iaload, 1) := by decide +kernel
theorem dX7_isPot_9 : decode cX7_isPot 9 = .ok (.iconst 1, 1) := by decide +kernel
theorem dX7_isPot_10 : decode cX7_isPot 10 = .ok (.isub, 1) := by decide +kernel
theorem dX7_isPot_11 : decode cX7_isPot 11 = .ok (.invokestatic 26, 3) := by decide +kernel
theorem dX7_isPot_14 : decode cX7_isPot 14 = .ok (.ireturn, 1) := by decide +kernel
set_option maxRecDepth 20000 in
theorem ggX7_isGlaze_X7_in : GoodIn wsX7_isGlaze wsX7_in := goodIn_r _ [4] (by decide +kernel) (by decide +kernel)
set_option maxRecDepth 20000 in
theorem gX7_isGlaze_X7_in : GoodIn wsX7_isGlaze (va_wsS RX7 26 yX7_in wsX7_in) := goodIn_app (goodIn_of _ (by decide +kernel)) ggX7_isGlaze_X7_in
theorem dX7_isGlaze_0 : decode cX7_isGlaze 0 = .ok (.iload_n 0, 1) := by decide +kernel
theorem dX7_isGlaze_1 : decode cX7_isGlaze 1 = .ok (.iconst 0, 1) := by decide +kernel
theorem dX7_isGlaze_2 : decode cX7_isGlaze 2 = .ok (.iconst 3, 1) := by decide +kernel
theorem dX7_isGlaze_3 : decode cX7_isGlaze 3 = .ok (.invokestatic 26, 3) := by decide +kernel
theorem dX7_isGlaze_6 : decode cX7_isGlaze 6 = .ok (.ireturn, 1) := by decide +kernel
theorem dX7_record_0 : decode cX7_record 0 = .ok (.aload_n 0, 1) := by decide +kernel
theorem dX7_record_1 : decode cX7_record 1 = .ok (.getfield 30, 3) := by decide +kernel
theorem dX7_record_4 : decode cX7_record 4 = .ok (.bipush 6, 2) := by decide +kernel
theorem dX7_record_6 : decode cX7_record 6 = .ok (.if_icmp .ne 44, 3) := by decide +kernel
theorem dX7_record_9 : decode cX7_record 9 = .ok (.iconst 0, 1) := by decide +kernel
theorem dX7_record_10 : decode cX7_record 10 = .ok (.istore_n 1, 1) := by decide +kernel
theorem dX7_record_11 : decode cX7_record 11 = .ok (.iload_n 1, 1) := by decide +kernel
theorem dX7_record_12 : decode cX7_record 12 = .ok (.sipush 1600, 3) := by decide +kernel
theorem dX7_record_15 : decode cX7_record 15 = .ok (.if_icmp .ge 25, 3) := by decide +kernel
theorem dX7_record_18 : decode cX7_record 18 = .ok (.aload_n 0, 1) := by decide +kernel
theorem dX7_record_19 : decode cX7_record 19 = .ok (.getfield 13, 3) := by decide +kernel
theorem dX7_record_22 : decode cX7_record 22 = .ok (.iload_n 1, 1) := by decide +kernel
theorem dX7_record_23 : decode cX7_record 23 = .ok (.aload_n 0, 1) := by decide +kernel
theorem dX7_record_24 : decode cX7_record 24 = .ok (.getfield 13, 3) := by decide +kernel
theorem dX7_record_27 : decode cX7_record 27 = .ok (.sipush 320, 3) := by decide +kernel
theorem dX7_record_30 : decode cX7_record 30 = .ok (.iload_n 1, 1) := by decide +kernel
theorem dX7_record_31 : decode cX7_record 31 = .ok (.iadd, 1) := by decide +kernel
theorem dX7_record_32 : decode cX7_record 32 = .ok (.iaload, 1) := by decide +kernel
theorem dX7_record_33 : decode cX7_record 33 = .ok (.iastore, 1) := by decide +kernel
theorem dX7_record_34 : decode cX7_record 34 = .ok (.iinc 1 1, 3) := by decide +kernel
theorem dX7_record_37 : decode cX7_record 37 = .ok (.goto (-26), 3) := by decide +kernel
theorem dX7_record_40 : decode cX7_record 40 = .ok (.aload_n 0, 1) := by decide +kernel
theorem dX7_record_41 : decode cX7_record 41 = .ok (.dup, 1) := by decide +kernel
theorem dX7_record_42 : decode cX7_record 42 = .ok (.getfield 30, 3) := by decide +kernel
theorem dX7_record_45 : decode cX7_record 45 = .ok (.iconst 1, 1) := by decide +kernel
theorem dX7_record_46 : decode cX7_record 46 = .ok (.isub, 1) := by decide +kernel
theorem dX7_record_47 : decode cX7_record 47 = .ok (.putfield 30, 3) := by decide +kernel
theorem dX7_record_50 : decode cX7_record 50 = .ok (.iconst 0, 1) := by decide +kernel
theorem dX7_record_51 : decode cX7_record 51 = .ok (.istore_n 1, 1) := by decide +kernel
theorem dX7_record_52 : decode cX7_record 52 = .ok (.iload_n 1, 1) := by decide +kernel
theorem dX7_record_53 : decode cX7_record 53 = .ok (.sipush 320, 3) := by decide +kernel
theorem dX7_record_56 : decode cX7_record 56 = .ok (.if_icmp .ge 30, 3) := by decide +kernel
theorem dX7_record_59 : decode cX7_record 59 = .ok (.aload_n 0, 1) := by decide +kernel
theorem dX7_record_60 : decode cX7_record 60 = .ok (.getfield 13, 3) := by decide +kernel
theorem dX7_record_63 : decode cX7_record 63 = .ok (.sipush 320, 3) := by decide +kernel
theorem dX7_record_66 : decode cX7_record 66 = .ok (.aload_n 0, 1) := by decide +kernel
theorem dX7_record_67 : decode cX7_record 67 = .ok (.getfield 30, 3) := by decide +kernel
theorem dX7_record_70 : decode cX7_record 70 = .ok (.imul, 1) := by decide +kernel
theorem dX7_record_71 : decode cX7_record 71 = .ok (.iload_n 1, 1) := by decide +kernel
theorem dX7_record_72 : decode cX7_record 72 = .ok (.iadd, 1) := by decide +kernel
theorem dX7_record_73 : decode cX7_record 73 = .ok (.aload_n 0, 1) := by decide +kernel
theorem dX7_record_74 : decode cX7_record 74 = .ok (.getfield 7, 3) := by decide +kernel
theorem dX7_record_77 : decode cX7_record 77 = .ok (.iload_n 1, 1) := by decide +kernel
theorem dX7_record_78 : decode cX7_record 78 = .ok (.iaload, 1) := by decide +kernel
theorem dX7_record_79 : decode cX7_record 79 = .ok (.iastore, 1) := by decide +kernel
theorem dX7_record_80 : decode cX7_record 80 = .ok (.iinc 1 1, 3) := by decide +kernel
theorem dX7_record_83 : decode cX7_record 83 = .ok (.goto (-31), 3) := by decide +kernel
theorem dX7_record_86 : decode cX7_record 86 = .ok (.aload_n 0, 1) := by decide +kernel
theorem dX7_record_87 : decode cX7_record 87 = .ok (.dup, 1) := by decide +kernel
theorem dX7_record_88 : decode cX7_record 88 = .ok (.getfield 30, 3) := by decide +kernel
theorem dX7_record_91 : decode cX7_record 91 = .ok (.iconst 1, 1) := by decide +kernel
theorem dX7_record_92 : decode cX7_record 92 = .ok (.iadd, 1) := by decide +kernel
theorem dX7_record_93 : decode cX7_record 93 = .ok (.putfield 30, 3) := by decide +kernel
theorem dX7_record_96 : decode cX7_record 96 = .ok (.return_, 1) := by decide +kernel
theorem dX7_undo_0 : decode cX7_undo 0 = .ok (.aload_n 0, 1) := by decide +kernel
theorem dX7_undo_1 : decode cX7_undo 1 = .ok (.getfield 30, 3) := by decide +kernel
theorem dX7_undo_4 : decode cX7_undo 4 = .ok (.ifCond .ne 6, 3) := by decide +kernel
theorem dX7_undo_7 : decode cX7_undo 7 = .ok (.bipush (-5), 2) := by decide +kernel
theorem dX7_undo_9 : decode cX7_undo 9 = .ok (.ireturn, 1) := by decide +kernel
theorem dX7_undo_10 : decode cX7_undo 10 = .ok (.aload_n 0, 1) := by decide +kernel
theorem dX7_undo_11 : decode cX7_undo 11 = .ok (.dup, 1) := by decide +kernel
theorem dX7_undo_12 : decode cX7_undo 12 = .ok (.getfield 30, 3) := by decide +kernel
theorem dX7_undo_15 : decode cX7_undo 15 = .ok (.iconst 1, 1) := by decide +kernel
theorem dX7_undo_16 : decode cX7_undo 16 = .ok (.isub, 1) := by decide +kernel
theorem dX7_undo_17 : decode cX7_undo 17 = .ok (.putfield 30, 3) := by decide +kernel
theorem dX7_undo_20 : decode cX7_undo 20 = .ok (.iconst 0, 1) := by decide +kernel
theorem dX7_undo_21 : decode cX7_undo 21 = .ok (.istore_n 1, 1) := by decide +kernel
theorem dX7_undo_22 : decode cX7_undo 22 = .ok (.iload_n 1, 1) := by decide +kernel
theorem dX7_undo_23 : decode cX7_undo 23 = .ok (.sipush 320, 3) := by decide +kernel
theorem dX7_undo_26 : decode cX7_undo 26 = .ok (.if_icmp .ge 30, 3) := by decide +kernel
theorem dX7_undo_29 : decode cX7_undo 29 = .ok (.aload_n 0, 1) := by decide +kernel
theorem dX7_undo_30 : decode cX7_undo 30 = .ok (.getfield 7, 3) := by decide +kernel
theorem dX7_undo_33 : decode cX7_undo 33 = .ok (.iload_n 1, 1) := by decide +kernel
theorem dX7_undo_34 : decode cX7_undo 34 = .ok (.aload_n 0, 1) := by decide +kernel
theorem dX7_undo_35 : decode cX7_undo 35 = .ok (.getfield 13, 3) := by decide +kernel
theorem dX7_undo_38 : decode cX7_undo 38 = .ok (.sipush 320, 3) := by decide +kernel
theorem dX7_undo_41 : decode cX7_undo 41 = .ok (.aload_n 0, 1) := by decide +kernel
theorem dX7_undo_42 : decode cX7_undo 42 = .ok (.getfield 30, 3) := by decide +kernel
theorem dX7_undo_45 : decode cX7_undo 45 = .ok (.imul, 1) := by decide +kernel
theorem dX7_undo_46 : decode cX7_undo 46 = .ok (.iload_n 1, 1) := by decide +kernel
theorem dX7_undo_47 : decode cX7_undo 47 = .ok (.iadd, 1) := by decide +kernel
theorem dX7_undo_48 : decode cX7_undo 48 = .ok (.iaload, 1) := by decide +kernel
theorem dX7_undo_49 : decode cX7_undo 49 = .ok (.iastore, 1) := by decide +kernel
theorem dX7_undo_50 : decode cX7_undo 50 = .ok (.iinc 1 1, 3) := by decide +kernel
theorem dX7_undo_53 : decode cX7_undo 53 = .ok (.goto (-31), 3) := by decide +kernel
theorem dX7_undo_56 : decode cX7_undo 56 = .ok (.aload_n 0, 1) := by decide +kernel
theorem dX7_undo_57 : decode cX7_undo 57 = .ok (.getfield 30, 3) := by decide +kernel
theorem dX7_undo_60 : decode cX7_undo 60 = .ok (.ireturn, 1) := by decide +kernel
set_option maxRecDepth 20000 in
theorem ggX7_save_X7_in : GoodIn wsX7_save wsX7_in := goodIn_r _ [7] (by decide +kernel) (by decide +kernel)
set_option maxRecDepth 20000 in
theorem gX7_save_X7_in : GoodIn wsX7_save (va_wsS RX7 26 yX7_in wsX7_in) := goodIn_app (goodIn_of _ (by decide +kernel)) ggX7_save_X7_in
theorem dX7_save_0 : decode cX7_save 0 = .ok (.iload_n 1, 1) := by decide +kernel
theorem dX7_save_1 : decode cX7_save 1 = .ok (.iconst 0, 1) := by decide +kernel
theorem dX7_save_2 : decode cX7_save 2 = .ok (.iconst 1, 1) := by decide +kernel
theorem dX7_save_3 : decode cX7_save 3 = .ok (.invokestatic 26, 3) := by decide +kernel
theorem dX7_save_6 : decode cX7_save 6 = .ok (.ifCond .ne 6, 3) := by decide +kernel
theorem dX7_save_9 : decode cX7_save 9 = .ok (.bipush (-2), 2) := by decide +kernel
theorem dX7_save_11 : decode cX7_save 11 = .ok (.ireturn, 1) := by decide +kernel
theorem dX7_save_12 : decode cX7_save 12 = .ok (.iconst 0, 1) := by decide +kernel
theorem dX7_save_13 : decode cX7_save 13 = .ok (.istore_n 2, 1) := by decide +kernel
theorem dX7_save_14 : decode cX7_save 14 = .ok (.iload_n 2, 1) := by decide +kernel
theorem dX7_save_15 : decode cX7_save 15 = .ok (.sipush 320, 3) := by decide +kernel
theorem dX7_save_18 : decode cX7_save 18 = .ok (.if_icmp .ge 27, 3) := by decide +kernel
theorem dX7_save_21 : decode cX7_save 21 = .ok (.aload_n 0, 1) := by decide +kernel
theorem dX7_save_22 : decode cX7_save 22 = .ok (.getfield 16, 3) := by decide +kernel
theorem dX7_save_25 : decode cX7_save 25 = .ok (.sipush 320, 3) := by decide +kernel
theorem dX7_save_28 : decode cX7_save 28 = .ok (.iload_n 1, 1) := by decide +kernel
theorem dX7_save_29 : decode cX7_save 29 = .ok (.imul, 1) := by decide +kernel
theorem dX7_save_30 : decode cX7_save 30 = .ok (.iload_n 2, 1) := by decide +kernel
theorem dX7_save_31 : decode cX7_save 31 = .ok (.iadd, 1) := by decide +kernel
theorem dX7_save_32 : decode cX7_save 32 = .ok (.aload_n 0, 1) := by decide +kernel
theorem dX7_save_33 : decode cX7_save 33 = .ok (.getfield 7, 3) := by decide +kernel
theorem dX7_save_36 : decode cX7_save 36 = .ok (.iload_n 2, 1) := by decide +kernel
theorem dX7_save_37 : decode cX7_save 37 = .ok (.iaload, 1) := by decide +kernel
theorem dX7_save_38 : decode cX7_save 38 = .ok (.iastore, 1) := by decide +kernel
theorem dX7_save_39 : decode cX7_save 39 = .ok (.iinc 2 1, 3) := by decide +kernel
theorem dX7_save_42 : decode cX7_save 42 = .ok (.goto (-28), 3) := by decide +kernel
theorem dX7_save_45 : decode cX7_save 45 = .ok (.aload_n 0, 1) := by decide +kernel
theorem dX7_save_46 : decode cX7_save 46 = .ok (.getfield 19, 3) := by decide +kernel
theorem dX7_save_49 : decode cX7_save 49 = .ok (.iload_n 1, 1) := by decide +kernel
theorem dX7_save_50 : decode cX7_save 50 = .ok (.iconst 1, 1) := by decide +kernel
theorem dX7_save_51 : decode cX7_save 51 = .ok (.bastore, 1) := by decide +kernel
theorem dX7_save_52 : decode cX7_save 52 = .ok (.aload_n 0, 1) := by decide +kernel
theorem dX7_save_53 : decode cX7_save 53 = .ok (.getfield 7, 3) := by decide +kernel
theorem dX7_save_56 : decode cX7_save 56 = .ok (.bipush 7, 2) := by decide +kernel
theorem dX7_save_58 : decode cX7_save 58 = .ok (.iaload, 1) := by decide +kernel
theorem dX7_save_59 : decode cX7_save 59 = .ok (.ireturn, 1) := by decide +kernel
set_option maxRecDepth 20000 in
theorem ggX7_restore_X7_in : GoodIn wsX7_restore wsX7_in := goodIn_r _ [7] (by decide +kernel) (by decide +kernel)
set_option maxRecDepth 20000 in
theorem gX7_restore_X7_in : GoodIn wsX7_restore (va_wsS RX7 26 yX7_in wsX7_in) := goodIn_app (goodIn_of _ (by decide +kernel)) ggX7_restore_X7_in
set_option maxRecDepth 20000 in
theorem ggX7_restore_X7_record : GoodIn wsX7_restore wsX7_record := goodIn_r _ [11, 12, 13, 2, 14, 15, 16, 17, 18, 19, 20, 21, 22, 23, 24, 25, 26] (by decide +kernel) (by decide +kernel)
set_option maxRecDepth 20000 in
theorem gX7_restore_X7_record : GoodIn wsX7_restore (wsV RX7 34 RX7 yX7_record wsX7_record) := goodIn_app (goodIn_of _ (by decide +kernel)) ggX7_restore_X7_record
theorem dX7_restore_0 : decode cX7_restore 0 = .ok (.iload_n 1, 1) := by decide +kernel
theorem dX7_restore_1 : decode cX7_restore 1 = .ok (.iconst 0, 1) := by decide +kernel
theorem dX7_restore_2 : decode cX7_restore 2 = .ok (.iconst 1, 1) := by decide +kernel
theorem dX7_restore_3 : decode cX7_restore 3 = .ok (.invokestatic 26, 3) := by decide +kernel
theorem dX7_restore_6 : decode cX7_restore 6 = .ok (.ifCond .ne 6, 3) := by decide +kernel
theorem dX7_restore_9 : decode cX7_restore 9 = .ok (.bipush (-2), 2) := by decide +kernel
theorem dX7_restore_11 : decode cX7_restore 11 = .ok (.ireturn, 1) := by decide +kernel
theorem dX7_restore_12 : decode cX7_restore 12 = .ok (.aload_n 0, 1) := by decide +kernel
theorem dX7_restore_13 : decode cX7_restore 13 = .ok (.getfield 19, 3) := by decide +kernel
theorem dX7_restore_16 : decode cX7_restore 16 = .ok (.iload_n 1, 1) := by decide +kernel
theorem dX7_restore_17 : decode cX7_restore 17 = .ok (.baload, 1) := by decide +kernel
theorem dX7_restore_18 : decode cX7_restore 18 = .ok (.ifCond .ne 6, 3) := by decide +kernel
theorem dX7_restore_21 : decode cX7_restore 21 = .ok (.bipush (-5), 2) := by decide +kernel
theorem dX7_restore_23 : decode cX7_restore 23 = .ok (.ireturn, 1) := by decide +kernel
theorem dX7_restore_24 : decode cX7_restore 24 = .ok (.aload_n 0, 1) := by decide +kernel
theorem dX7_restore_25 : decode cX7_restore 25 = .ok (.invokevirtual 34, 3) := by decide +kernel
theorem dX7_restore_28 : decode cX7_restore 28 = .ok (.iconst 0, 1) := by decide +kernel
theorem dX7_restore_29 : decode cX7_restore 29 = .ok (.istore_n 2, 1) := by decide +kernel
theorem dX7_restore_30 : decode cX7_restore 30 = .ok (.iload_n 2, 1) := by decide +kernel
theorem dX7_restore_31 : decode cX7_restore 31 = .ok (.sipush 320, 3) := by decide +kernel
theorem dX7_restore_34 : decode cX7_restore 34 = .ok (.if_icmp .ge 27, 3) := by decide +kernel
theorem dX7_restore_37 : decode cX7_restore 37 = .ok (.aload_n 0, 1) := by decide +kernel
theorem dX7_restore_38 : decode cX7_restore 38 = .ok (.getfield 7, 3) := by decide +kernel
theorem dX7_restore_41 : decode cX7_restore 41 = .ok (.iload_n 2, 1) := by decide +kernel
theorem dX7_restore_42 : decode cX7_restore 42 = .ok (.aload_n 0, 1) := by decide +kernel
theorem dX7_restore_43 : decode cX7_restore 43 = .ok (.getfield 16, 3) := by decide +kernel
theorem dX7_restore_46 : decode cX7_restore 46 = .ok (.sipush 320, 3) := by decide +kernel
theorem dX7_restore_49 : decode cX7_restore 49 = .ok (.iload_n 1, 1) := by decide +kernel
theorem dX7_restore_50 : decode cX7_restore 50 = .ok (.imul, 1) := by decide +kernel
theorem dX7_restore_51 : decode cX7_restore 51 = .ok (.iload_n 2, 1) := by decide +kernel
theorem dX7_restore_52 : decode cX7_restore 52 = .ok (.iadd, 1) := by decide +kernel
theorem dX7_restore_53 : decode cX7_restore 53 = .ok (.iaload, 1) := by decide +kernel
theorem dX7_restore_54 : decode cX7_restore 54 = .ok (.iastore, 1) := by decide +kernel
theorem dX7_restore_55 : decode cX7_restore 55 = .ok (.iinc 2 1, 3) := by decide +kernel
theorem dX7_restore_58 : decode cX7_restore 58 = .ok (.goto (-28), 3) := by decide +kernel
theorem dX7_restore_61 : decode cX7_restore 61 = .ok (.aload_n 0, 1) := by decide +kernel
theorem dX7_restore_62 : decode cX7_restore 62 = .ok (.getfield 7, 3) := by decide +kernel
theorem dX7_restore_65 : decode cX7_restore 65 = .ok (.bipush 7, 2) := by decide +kernel
theorem dX7_restore_67 : decode cX7_restore 67 = .ok (.iaload, 1) := by decide +kernel
theorem dX7_restore_68 : decode cX7_restore 68 = .ok (.ireturn, 1) := by decide +kernel
theorem dX7_bookedBy_0 : decode cX7_bookedBy 0 = .ok (.aload_n 0, 1) := by decide +kernel
theorem dX7_bookedBy_1 : decode cX7_bookedBy 1 = .ok (.getfield 7, 3) := by decide +kernel
theorem dX7_bookedBy_4 : decode cX7_bookedBy 4 = .ok (.sipush 215, 3) := by decide +kernel
theorem dX7_bookedBy_7 : decode cX7_bookedBy 7 = .ok (.bipush 21, 2) := by decide +kernel
theorem dX7_bookedBy_9 : decode cX7_bookedBy 9 = .ok (.iload_n 1, 1) := by decide +kernel
theorem dX7_bookedBy_10 : decode cX7_bookedBy 10 = .ok (.imul, 1) := by decide +kernel
theorem dX7_bookedBy_11 : decode cX7_bookedBy 11 = .ok (.iadd, 1) := by decide +kernel
theorem dX7_bookedBy_12 : decode cX7_bookedBy 12 = .ok (.iload_n 2, 1) := by decide +kernel
theorem dX7_bookedBy_13 : decode cX7_bookedBy 13 = .ok (.iadd, 1) := by decide +kernel
theorem dX7_bookedBy_14 : decode cX7_bookedBy 14 = .ok (.iaload, 1) := by decide +kernel
theorem dX7_bookedBy_15 : decode cX7_bookedBy 15 = .ok (.ireturn, 1) := by decide +kernel
set_option maxRecDepth 20000 in
theorem ggX7_wheelOf_X7_bookedBy : GoodIn wsX7_wheelOf wsX7_bookedBy := goodIn_r _ [5, 6, 7, 8, 9, 10, 11, 12, 13, 14, 15, 16, 17, 18, 19] (by decide +kernel) (by decide +kernel)
set_option maxRecDepth 20000 in
theorem gX7_wheelOf_X7_bookedBy : GoodIn wsX7_wheelOf (wsV RX7 37 RX7 yX7_bookedBy wsX7_bookedBy) := goodIn_app (goodIn_of _ (by decide +kernel)) ggX7_wheelOf_X7_bookedBy
theorem dX7_wheelOf_0 : decode cX7_wheelOf 0 = .ok (.bipush (-6), 2) := by decide +kernel
theorem dX7_wheelOf_2 : decode cX7_wheelOf 2 = .ok (.istore_n 3, 1) := by decide +kernel
theorem dX7_wheelOf_3 : decode cX7_wheelOf 3 = .ok (.iconst 0, 1) := by decide +kernel
theorem dX7_wheelOf_4 : decode cX7_wheelOf 4 = .ok (.istore 4, 2) := by decide +kernel
theorem dX7_wheelOf_6 : decode cX7_wheelOf 6 = .ok (.iload 4, 2) := by decide +kernel
theorem dX7_wheelOf_8 : decode cX7_wheelOf 8 = .ok (.iconst 5, 1) := by decide +kernel
theorem dX7_wheelOf_9 : decode cX7_wheelOf 9 = .ok (.if_icmp .ge 27, 3) := by decide +kernel
theorem dX7_wheelOf_12 : decode cX7_wheelOf 12 = .ok (.aload_n 0, 1) := by decide +kernel
theorem dX7_wheelOf_13 : decode cX7_wheelOf 13 = .ok (.iload 4, 2) := by decide +kernel
theorem dX7_wheelOf_15 : decode cX7_wheelOf 15 = .ok (.iload_n 2, 1) := by decide +kernel
theorem dX7_wheelOf_16 : decode cX7_wheelOf 16 = .ok (.invokevirtual 37, 3) := by decide +kernel
theorem dX7_wheelOf_19 : decode cX7_wheelOf 19 = .ok (.iload_n 1, 1) := by decide +kernel
theorem dX7_wheelOf_20 : decode cX7_wheelOf 20 = .ok (.if_icmp .ne 8, 3) := by decide +kernel
theorem dX7_wheelOf_23 : decode cX7_wheelOf 23 = .ok (.iload 4, 2) := by decide +kernel
theorem dX7_wheelOf_25 : decode cX7_wheelOf 25 = .ok (.goto 4, 3) := by decide +kernel
theorem dX7_wheelOf_28 : decode cX7_wheelOf 28 = .ok (.iload_n 3, 1) := by decide +kernel
theorem dX7_wheelOf_29 : decode cX7_wheelOf 29 = .ok (.istore_n 3, 1) := by decide +kernel
theorem dX7_wheelOf_30 : decode cX7_wheelOf 30 = .ok (.iinc 4 1, 3) := by decide +kernel
theorem dX7_wheelOf_33 : decode cX7_wheelOf 33 = .ok (.goto (-27), 3) := by decide +kernel
theorem dX7_wheelOf_36 : decode cX7_wheelOf 36 = .ok (.iload_n 3, 1) := by decide +kernel
theorem dX7_wheelOf_37 : decode cX7_wheelOf 37 = .ok (.ireturn, 1) := by decide +kernel
set_option maxRecDepth 20000 in
theorem ggX7_potsAt_X7_pot : GoodIn wsX7_potsAt wsX7_pot := goodIn_r _ [6, 1, 7, 8, 9, 10, 11, 12, 13, 14, 15, 16, 17, 18, 19] (by decide +kernel) (by decide +kernel)
set_option maxRecDepth 20000 in
theorem gX7_potsAt_X7_pot : GoodIn wsX7_potsAt (wsV RX7 41 RX7 yX7_pot wsX7_pot) := goodIn_app (goodIn_of _ (by decide +kernel)) ggX7_potsAt_X7_pot
theorem dX7_potsAt_0 : decode cX7_potsAt 0 = .ok (.iconst 0, 1) := by decide +kernel
theorem dX7_potsAt_1 : decode cX7_potsAt 1 = .ok (.istore_n 2, 1) := by decide +kernel
theorem dX7_potsAt_2 : decode cX7_potsAt 2 = .ok (.iconst 0, 1) := by decide +kernel
theorem dX7_potsAt_3 : decode cX7_potsAt 3 = .ok (.istore_n 3, 1) := by decide +kernel
theorem dX7_potsAt_4 : decode cX7_potsAt 4 = .ok (.iload_n 3, 1) := by decide +kernel
theorem dX7_potsAt_5 : decode cX7_potsAt 5 = .ok (.aload_n 0, 1) := by decide +kernel
theorem dX7_potsAt_6 : decode cX7_potsAt 6 = .ok (.getfield 7, 3) := by decide +kernel
theorem dX7_potsAt_9 : decode cX7_potsAt 9 = .ok (.bipush 7, 2) := by decide +kernel
theorem dX7_potsAt_11 : decode cX7_potsAt 11 = .ok (.iaload, 1) := by decide +kernel
theorem dX7_potsAt_12 : decode cX7_potsAt 12 = .ok (.if_icmp .ge 29, 3) := by decide +kernel
theorem dX7_potsAt_15 : decode cX7_potsAt 15 = .ok (.iload_n 2, 1) := by decide +kernel
theorem dX7_potsAt_16 : decode cX7_potsAt 16 = .ok (.aload_n 0, 1) := by decide +kernel
theorem dX7_potsAt_17 : decode cX7_potsAt 17 = .ok (.iload_n 3, 1) := by decide +kernel
theorem dX7_potsAt_18 : decode cX7_potsAt 18 = .ok (.iconst 4, 1) := by decide +kernel
theorem dX7_potsAt_19 : decode cX7_potsAt 19 = .ok (.invokevirtual 41, 3) := by decide +kernel
theorem dX7_potsAt_22 : decode cX7_potsAt 22 = .ok (.iload_n 1, 1) := by decide +kernel
theorem dX7_potsAt_23 : decode cX7_potsAt 23 = .ok (.if_icmp .ne 9, 3) := by decide +kernel
theorem dX7_potsAt_26 : decode cX7_potsAt 26 = .ok (.iconst 1, 1) := by decide +kernel
theorem dX7_potsAt_27 : decode cX7_potsAt 27 = .ok (.iload_n 3, 1) := by decide +kernel
theorem dX7_potsAt_28 : decode cX7_potsAt 28 = .ok (.ishl, 1) := by decide +kernel
theorem dX7_potsAt_29 : decode cX7_potsAt 29 = .ok (.goto 4, 3) := by decide +kernel
theorem dX7_potsAt_32 : decode cX7_potsAt 32 = .ok (.iconst 0, 1) := by decide +kernel
theorem dX7_potsAt_33 : decode cX7_potsAt 33 = .ok (.ior, 1) := by decide +kernel
theorem dX7_potsAt_34 : decode cX7_potsAt 34 = .ok (.istore_n 2, 1) := by decide +kernel
theorem dX7_potsAt_35 : decode cX7_potsAt 35 = .ok (.iinc 3 1, 3) := by decide +kernel
theorem dX7_potsAt_38 : decode cX7_potsAt 38 = .ok (.goto (-34), 3) := by decide +kernel
theorem dX7_potsAt_41 : decode cX7_potsAt 41 = .ok (.iload_n 2, 1) := by decide +kernel
theorem dX7_potsAt_42 : decode cX7_potsAt 42 = .ok (.ireturn, 1) := by decide +kernel
theorem dX7_ones_0 : decode cX7_ones 0 = .ok (.iconst 0, 1) := by decide +kernel
theorem dX7_ones_1 : decode cX7_ones 1 = .ok (.istore_n 1, 1) := by decide +kernel
theorem dX7_ones_2 : decode cX7_ones 2 = .ok (.iconst 0, 1) := by decide +kernel
theorem dX7_ones_3 : decode cX7_ones 3 = .ok (.istore_n 2, 1) := by decide +kernel
theorem dX7_ones_4 : decode cX7_ones 4 = .ok (.iload_n 2, 1) := by decide +kernel
theorem dX7_ones_5 : decode cX7_ones 5 = .ok (.bipush 20, 2) := by decide +kernel
theorem dX7_ones_7 : decode cX7_ones 7 = .ok (.if_icmp .ge 17, 3) := by decide +kernel
theorem dX7_ones_10 : decode cX7_ones 10 = .ok (.iload_n 1, 1) := by decide +kernel
theorem dX7_ones_11 : decode cX7_ones 11 = .ok (.iload_n 0, 1) := by decide +kernel
theorem dX7_ones_12 : decode cX7_ones 12 = .ok (.iload_n 2, 1) := by decide +kernel
theorem dX7_ones_13 : decode cX7_ones 13 = .ok (.ishr, 1) := by decide +kernel
theorem dX7_ones_14 : decode cX7_ones 14 = .ok (.iconst 1, 1) := by decide +kernel
theorem dX7_ones_15 : decode cX7_ones 15 = .ok (.iand, 1) := by decide +kernel
theorem dX7_ones_16 : decode cX7_ones 16 = .ok (.iadd, 1) := by decide +kernel
theorem dX7_ones_17 : decode cX7_ones 17 = .ok (.istore_n 1, 1) := by decide +kernel
theorem dX7_ones_18 : decode cX7_ones 18 = .ok (.iinc 2 1, 3) := by decide +kernel
theorem dX7_ones_21 : decode cX7_ones 21 = .ok (.goto (-17), 3) := by decide +kernel
theorem dX7_ones_24 : decode cX7_ones 24 = .ok (.iload_n 1, 1) := by decide +kernel
theorem dX7_ones_25 : decode cX7_ones 25 = .ok (.ireturn, 1) := by decide +kernel
set_option maxRecDepth 20000 in
theorem ggX7_freePlaces_X7_potsAt : GoodIn wsX7_freePlaces wsX7_potsAt := goodIn_r _ [5, 6, 7, 8, 9, 4, 10, 14, 15, 16, 17, 18, 19, 20, 21, 22, 23, 24, 25, 26] (by decide +kernel) (by decide +kernel)
set_option maxRecDepth 20000 in
theorem gX7_freePlaces_X7_potsAt : GoodIn wsX7_freePlaces (wsV RX7 44 RX7 yX7_potsAt wsX7_potsAt) := goodIn_app (goodIn_of _ (by decide +kernel)) ggX7_freePlaces_X7_potsAt
set_option maxRecDepth 20000 in
theorem ggX7_freePlaces_X7_ones : GoodIn wsX7_freePlaces wsX7_ones := goodIn_r _ [13] (by decide +kernel) (by decide +kernel)
set_option maxRecDepth 20000 in
theorem gX7_freePlaces_X7_ones : GoodIn wsX7_freePlaces (va_wsS RX7 48 yX7_ones wsX7_ones) := goodIn_app (goodIn_of _ (by decide +kernel)) ggX7_freePlaces_X7_ones
theorem dX7_freePlaces_0 : decode cX7_freePlaces 0 = .ok (.bipush 24, 2) := by decide +kernel
theorem dX7_freePlaces_2 : decode cX7_freePlaces 2 = .ok (.aload_n 0, 1) := by decide +kernel
theorem dX7_freePlaces_3 : decode cX7_freePlaces 3 = .ok (.iconst 0, 1) := by decide +kernel
theorem dX7_freePlaces_4 : decode cX7_freePlaces 4 = .ok (.invokevirtual 44, 3) := by decide +kernel
theorem dX7_freePlaces_7 : decode cX7_freePlaces 7 = .ok (.invokestatic 48, 3) := by decide +kernel
theorem dX7_freePlaces_10 : decode cX7_freePlaces 10 = .ok (.isub, 1) := by decide +kernel
theorem dX7_freePlaces_11 : decode cX7_freePlaces 11 = .ok (.ireturn, 1) := by decide +kernel
set_option maxRecDepth 20000 in
theorem ggX7_isTaken_X7_pot : GoodIn wsX7_isTaken wsX7_pot := goodIn_r _ [6, 1, 7, 8, 9, 10, 11, 12, 13, 14, 15, 16, 17, 18, 19] (by decide +kernel) (by decide +kernel)
set_option maxRecDepth 20000 in
theorem gX7_isTaken_X7_pot : GoodIn wsX7_isTaken (wsV RX7 41 RX7 yX7_pot wsX7_pot) := goodIn_app (goodIn_of _ (by decide +kernel)) ggX7_isTaken_X7_pot
theorem dX7_isTaken_0 : decode cX7_isTaken 0 = .ok (.iconst 0, 1) := by decide +kernel
theorem dX7_isTaken_1 : decode cX7_isTaken 1 = .ok (.istore_n 2, 1) := by decide +kernel
theorem dX7_isTaken_2 : decode cX7_isTaken 2 = .ok (.iconst 0, 1) := by decide +kernel
theorem dX7_isTaken_3 : decode cX7_isTaken 3 = .ok (.istore_n 3, 1) := by decide +kernel
theorem dX7_isTaken_4 : decode cX7_isTaken 4 = .ok (.iload_n 3, 1) := by decide +kernel
theorem dX7_isTaken_5 : decode cX7_isTaken 5 = .ok (.aload_n 0, 1) := by decide +kernel
theorem dX7_isTaken_6 : decode cX7_isTaken 6 = .ok (.getfield 7, 3) := by decide +kernel
theorem dX7_isTaken_9 : decode cX7_isTaken 9 = .ok (.bipush 7, 2) := by decide +kernel
theorem dX7_isTaken_11 : decode cX7_isTaken 11 = .ok (.iaload, 1) := by decide +kernel
theorem dX7_isTaken_12 : decode cX7_isTaken 12 = .ok (.if_icmp .ge 38, 3) := by decide +kernel
theorem dX7_isTaken_15 : decode cX7_isTaken 15 = .ok (.iload_n 2, 1) := by decide +kernel
theorem dX7_isTaken_16 : decode cX7_isTaken 16 = .ok (.ifCond .ne 22, 3) := by decide +kernel
theorem dX7_isTaken_19 : decode cX7_isTaken 19 = .ok (.aload_n 0, 1) := by decide +kernel
theorem dX7_isTaken_20 : decode cX7_isTaken 20 = .ok (.iload_n 3, 1) := by decide +kernel
theorem dX7_isTaken_21 : decode cX7_isTaken 21 = .ok (.iconst 4, 1) := by decide +kernel
theorem dX7_isTaken_22 : decode cX7_isTaken 22 = .ok (.invokevirtual 41, 3) := by decide +kernel
theorem dX7_isTaken_25 : decode cX7_isTaken 25 = .ok (.ifCond .ne 17, 3) := by decide +kernel
theorem dX7_isTaken_28 : decode cX7_isTaken 28 = .ok (.aload_n 0, 1) := by decide +kernel
theorem dX7_isTaken_29 : decode cX7_isTaken 29 = .ok (.iload_n 3, 1) := by decide +kernel
theorem dX7_isTaken_30 : decode cX7_isTaken 30 = .ok (.iconst 5, 1) := by decide +kernel
theorem dX7_isTaken_31 : decode cX7_isTaken 31 = .ok (.invokevirtual 41, 3) := by decide +kernel
theorem dX7_isTaken_34 : decode cX7_isTaken 34 = .ok (.iload_n 1, 1) := by decide +kernel
theorem dX7_isTaken_35 : decode cX7_isTaken 35 = .ok (.if_icmp .ne 7, 3) := by decide +kernel
theorem dX7_isTaken_38 : decode cX7_isTaken 38 = .ok (.iconst 1, 1) := by decide +kernel
theorem dX7_isTaken_39 : decode cX7_isTaken 39 = .ok (.goto 4, 3) := by decide +kernel
theorem dX7_isTaken_42 : decode cX7_isTaken 42 = .ok (.iconst 0, 1) := by decide +kernel
theorem dX7_isTaken_43 : decode cX7_isTaken 43 = .ok (.istore_n 2, 1) := by decide +kernel
theorem dX7_isTaken_44 : decode cX7_isTaken 44 = .ok (.iinc 3 1, 3) := by decide +kernel
theorem dX7_isTaken_47 : decode cX7_isTaken 47 = .ok (.goto (-43), 3) := by decide +kernel
theorem dX7_isTaken_50 : decode cX7_isTaken 50 = .ok (.iload_n 2, 1) := by decide +kernel
theorem dX7_isTaken_51 : decode cX7_isTaken 51 = .ok (.ireturn, 1) := by decide +kernel
set_option maxRecDepth 20000 in
theorem ggX7_putOnRack_X7_isTaken : GoodIn wsX7_putOnRack wsX7_isTaken := goodIn_r _ [5, 6, 7, 8, 9, 4, 10, 15, 16, 17, 18, 19, 20, 21, 22, 23, 24, 25, 26, 27] (by decide +kernel) (by decide +kernel)
set_option maxRecDepth 20000 in
theorem gX7_putOnRack_X7_isTaken : GoodIn wsX7_putOnRack (wsV RX7 51 RX7 yX7_isTaken wsX7_isTaken) := goodIn_app (goodIn_of _ (by decide +kernel)) ggX7_putOnRack_X7_isTaken
set_option maxRecDepth 20000 in
theorem ggX7_putOnRack_X7_put : GoodIn wsX7_putOnRack wsX7_put := goodIn_r _ [14, 6, 15, 16, 17, 18, 19, 20, 21, 22, 23, 24, 25, 26, 27] (by decide +kernel) (by decide +kernel)
set_option maxRecDepth 20000 in
theorem gX7_putOnRack_X7_put : GoodIn wsX7_putOnRack (wsV RX7 55 RX7 yX7_put wsX7_put) := goodIn_app (goodIn_of _ (by decide +kernel)) ggX7_putOnRack_X7_put
theorem dX7_putOnRack_0 : decode cX7_putOnRack 0 = .ok (.iconst 0, 1) := by decide +kernel
theorem dX7_putOnRack_1 : decode cX7_putOnRack 1 = .ok (.istore_n 2, 1) := by decide +kernel
theorem dX7_putOnRack_2 : decode cX7_putOnRack 2 = .ok (.aload_n 0, 1) := by decide +kernel
theorem dX7_putOnRack_3 : decode cX7_putOnRack 3 = .ok (.iload_n 2, 1) := by decide +kernel
theorem dX7_putOnRack_4 : decode cX7_putOnRack 4 = .ok (.invokevirtual 51, 3) := by decide +kernel
theorem dX7_putOnRack_7 : decode cX7_putOnRack 7 = .ok (.ifCond .eq 9, 3) := by decide +kernel
theorem dX7_putOnRack_10 : decode cX7_putOnRack 10 = .ok (.iinc 2 1, 3) := by decide +kernel
theorem dX7_putOnRack_13 : decode cX7_putOnRack 13 = .ok (.goto (-11), 3) := by decide +kernel
theorem dX7_putOnRack_16 : decode cX7_putOnRack 16 = .ok (.aload_n 0, 1) := by decide +kernel
theorem dX7_putOnRack_17 : decode cX7_putOnRack 17 = .ok (.iload_n 1, 1) := by decide +kernel
theorem dX7_putOnRack_18 : decode cX7_putOnRack 18 = .ok (.iconst 4, 1) := by decide +kernel
theorem dX7_putOnRack_19 : decode cX7_putOnRack 19 = .ok (.iconst 0, 1) := by decide +kernel
theorem dX7_putOnRack_20 : decode cX7_putOnRack 20 = .ok (.invokevirtual 55, 3) := by decide +kernel
theorem dX7_putOnRack_23 : decode cX7_putOnRack 23 = .ok (.aload_n 0, 1) := by decide +kernel
theorem dX7_putOnRack_24 : decode cX7_putOnRack 24 = .ok (.iload_n 1, 1) := by decide +kernel
theorem dX7_putOnRack_25 : decode cX7_putOnRack 25 = .ok (.iconst 5, 1) := by decide +kernel
theorem dX7_putOnRack_26 : decode cX7_putOnRack 26 = .ok (.iload_n 2, 1) := by decide +kernel
theorem dX7_putOnRack_27 : decode cX7_putOnRack 27 = .ok (.invokevirtual 55, 3) := by decide +kernel
theorem dX7_putOnRack_30 : decode cX7_putOnRack 30 = .ok (.return_, 1) := by decide +kernel
set_option maxRecDepth 20000 in
theorem ggX7_sizesInKiln_X7_pot : GoodIn wsX7_sizesInKiln wsX7_pot := goodIn_r _ [6, 1, 7, 8, 9, 10, 11, 12, 13, 14, 15, 16, 17, 18, 19] (by decide +kernel) (by decide +kernel)
set_option maxRecDepth 20000 in
theorem gX7_sizesInKiln_X7_pot : GoodIn wsX7_sizesInKiln (wsV RX7 41 RX7 yX7_pot wsX7_pot) := goodIn_app (goodIn_of _ (by decide +kernel)) ggX7_sizesInKiln_X7_pot
theorem dX7_sizesInKiln_0 : decode cX7_sizesInKiln 0 = .ok (.iconst 0, 1) := by decide +kernel
theorem dX7_sizesInKiln_1 : decode cX7_sizesInKiln 1 = .ok (.istore_n 1, 1) := by decide +kernel
theorem dX7_sizesInKiln_2 : decode cX7_sizesInKiln 2 = .ok (.iconst 0, 1) := by decide +kernel
theorem dX7_sizesInKiln_3 : decode cX7_sizesInKiln 3 = .ok (.istore_n 2, 1) := by decide +kernel
theorem dX7_sizesInKiln_4 : decode cX7_sizesInKiln 4 = .ok (.iload_n 2, 1) := by decide +kernel
theorem dX7_sizesInKiln_5 : decode cX7_sizesInKiln 5 = .ok (.aload_n 0, 1) := by decide +kernel
theorem dX7_sizesInKiln_6 : decode cX7_sizesInKiln 6 = .ok (.getfield 7, 3) := by decide +kernel
theorem dX7_sizesInKiln_9 : decode cX7_sizesInKiln 9 = .ok (.bipush 7, 2) := by decide +kernel
theorem dX7_sizesInKiln_11 : decode cX7_sizesInKiln 11 = .ok (.iaload, 1) := by decide +kernel
theorem dX7_sizesInKiln_12 : decode cX7_sizesInKiln 12 = .ok (.if_icmp .ge 32, 3) := by decide +kernel
theorem dX7_sizesInKiln_15 : decode cX7_sizesInKiln 15 = .ok (.iload_n 1, 1) := by decide +kernel
theorem dX7_sizesInKiln_16 : decode cX7_sizesInKiln 16 = .ok (.aload_n 0, 1) := by decide +kernel
theorem dX7_sizesInKiln_17 : decode cX7_sizesInKiln 17 = .ok (.iload_n 2, 1) := by decide +kernel
theorem dX7_sizesInKiln_18 : decode cX7_sizesInKiln 18 = .ok (.iconst 4, 1) := by decide +kernel
theorem dX7_sizesInKiln_19 : decode cX7_sizesInKiln 19 = .ok (.invokevirtual 41, 3) := by decide +kernel
theorem dX7_sizesInKiln_22 : decode cX7_sizesInKiln 22 = .ok (.iconst 1, 1) := by decide +kernel
theorem dX7_sizesInKiln_23 : decode cX7_sizesInKiln 23 = .ok (.if_icmp .ne 12, 3) := by decide +kernel
theorem dX7_sizesInKiln_26 : decode cX7_sizesInKiln 26 = .ok (.aload_n 0, 1) := by decide +kernel
theorem dX7_sizesInKiln_27 : decode cX7_sizesInKiln 27 = .ok (.iload_n 2, 1) := by decide +kernel
theorem dX7_sizesInKiln_28 : decode cX7_sizesInKiln 28 = .ok (.iconst 1, 1) := by decide +kernel
theorem dX7_sizesInKiln_29 : decode cX7_sizesInKiln 29 = .ok (.invokevirtual 41, 3) := by decide +kernel
theorem dX7_sizesInKiln_32 : decode cX7_sizesInKiln 32 = .ok (.goto 4, 3) := by decide +kernel
theorem dX7_sizesInKiln_35 : decode cX7_sizesInKiln 35 = .ok (.iconst 0, 1) := by decide +kernel
theorem dX7_sizesInKiln_36 : decode cX7_sizesInKiln 36 = .ok (.iadd, 1) := by decide +kernel
theorem dX7_sizesInKiln_37 : decode cX7_sizesInKiln 37 = .ok (.istore_n 1, 1) := by decide +kernel
theorem dX7_sizesInKiln_38 : decode cX7_sizesInKiln 38 = .ok (.iinc 2 1, 3) := by decide +kernel
theorem dX7_sizesInKiln_41 : decode cX7_sizesInKiln 41 = .ok (.goto (-37), 3) := by decide +kernel
theorem dX7_sizesInKiln_44 : decode cX7_sizesInKiln 44 = .ok (.iload_n 1, 1) := by decide +kernel
theorem dX7_sizesInKiln_45 : decode cX7_sizesInKiln 45 = .ok (.ireturn, 1) := by decide +kernel
set_option maxRecDepth 20000 in
theorem ggX7_isOtherFiring_X7_pot : GoodIn wsX7_isOtherFiring wsX7_pot := goodIn_r _ [6, 1, 7, 8, 9, 10, 11, 12, 13, 14, 15, 16, 17, 18, 19] (by decide +kernel) (by decide +kernel)
set_option maxRecDepth 20000 in
theorem gX7_isOtherFiring_X7_pot : GoodIn wsX7_isOtherFiring (wsV RX7 41 RX7 yX7_pot wsX7_pot) := goodIn_app (goodIn_of _ (by decide +kernel)) ggX7_isOtherFiring_X7_pot
theorem dX7_isOtherFiring_0 : decode cX7_isOtherFiring 0 = .ok (.iconst 0, 1) := by decide +kernel
theorem dX7_isOtherFiring_1 : decode cX7_isOtherFiring 1 = .ok (.istore_n 2, 1) := by decide +kernel
theorem dX7_isOtherFiring_2 : decode cX7_isOtherFiring 2 = .ok (.iconst 0, 1) := by decide +kernel
theorem dX7_isOtherFiring_3 : decode cX7_isOtherFiring 3 = .ok (.istore_n 3, 1) := by decide +kernel
theorem dX7_isOtherFiring_4 : decode cX7_isOtherFiring 4 = .ok (.iload_n 3, 1) := by decide +kernel
theorem dX7_isOtherFiring_5 : decode cX7_isOtherFiring 5 = .ok (.aload_n 0, 1) := by decide +kernel
theorem dX7_isOtherFiring_6 : decode cX7_isOtherFiring 6 = .ok (.getfield 7, 3) := by decide +kernel
theorem dX7_isOtherFiring_9 : decode cX7_isOtherFiring 9 = .ok (.bipush 7, 2) := by decide +kernel
theorem dX7_isOtherFiring_11 : decode cX7_isOtherFiring 11 = .ok (.iaload, 1) := by decide +kernel
theorem dX7_isOtherFiring_12 : decode cX7_isOtherFiring 12 = .ok (.if_icmp .ge 44, 3) := by decide +kernel
theorem dX7_isOtherFiring_15 : decode cX7_isOtherFiring 15 = .ok (.iload_n 2, 1) := by decide +kernel
theorem dX7_isOtherFiring_16 : decode cX7_isOtherFiring 16 = .ok (.ifCond .ne 28, 3) := by decide +kernel
theorem dX7_isOtherFiring_19 : decode cX7_isOtherFiring 19 = .ok (.aload_n 0, 1) := by decide +kernel
theorem dX7_isOtherFiring_20 : decode cX7_isOtherFiring 20 = .ok (.iload_n 3, 1) := by decide +kernel
theorem dX7_isOtherFiring_21 : decode cX7_isOtherFiring 21 = .ok (.iconst 4, 1) := by decide +kernel
theorem dX7_isOtherFiring_22 : decode cX7_isOtherFiring 22 = .ok (.invokevirtual 41, 3) := by decide +kernel
theorem dX7_isOtherFiring_25 : decode cX7_isOtherFiring 25 = .ok (.iconst 1, 1) := by decide +kernel
theorem dX7_isOtherFiring_26 : decode cX7_isOtherFiring 26 = .ok (.if_icmp .ne 22, 3) := by decide +kernel
theorem dX7_isOtherFiring_29 : decode cX7_isOtherFiring 29 = .ok (.aload_n 0, 1) := by decide +kernel
theorem dX7_isOtherFiring_30 : decode cX7_isOtherFiring 30 = .ok (.iload_n 3, 1) := by decide +kernel
theorem dX7_isOtherFiring_31 : decode cX7_isOtherFiring 31 = .ok (.iconst 3, 1) := by decide +kernel
theorem dX7_isOtherFiring_32 : decode cX7_isOtherFiring 32 = .ok (.invokevirtual 41, 3) := by decide +kernel
theorem dX7_isOtherFiring_35 : decode cX7_isOtherFiring 35 = .ok (.aload_n 0, 1) := by decide +kernel
theorem dX7_isOtherFiring_36 : decode cX7_isOtherFiring 36 = .ok (.iload_n 1, 1) := by decide +kernel
theorem dX7_isOtherFiring_37 : decode cX7_isOtherFiring 37 = .ok (.iconst 3, 1) := by decide +kernel
theorem dX7_isOtherFiring_38 : decode cX7_isOtherFiring 38 = .ok (.invokevirtual 41, 3) := by decide +kernel
theorem dX7_isOtherFiring_41 : decode cX7_isOtherFiring 41 = .ok (.if_icmp .eq 7, 3) := by decide +kernel
theorem dX7_isOtherFiring_44 : decode cX7_isOtherFiring 44 = .ok (.iconst 1, 1) := by decide +kernel
theorem dX7_isOtherFiring_45 : decode cX7_isOtherFiring 45 = .ok (.goto 4, 3) := by decide +kernel
theorem dX7_isOtherFiring_48 : decode cX7_isOtherFiring 48 = .ok (.iconst 0, 1) := by decide +kernel
theorem dX7_isOtherFiring_49 : decode cX7_isOtherFiring 49 = .ok (.istore_n 2, 1) := by decide +kernel
theorem dX7_isOtherFiring_50 : decode cX7_isOtherFiring 50 = .ok (.iinc 3 1, 3) := by decide +kernel
theorem dX7_isOtherFiring_53 : decode cX7_isOtherFiring 53 = .ok (.goto (-49), 3) := by decide +kernel
theorem dX7_isOtherFiring_56 : decode cX7_isOtherFiring 56 = .ok (.iload_n 2, 1) := by decide +kernel
theorem dX7_isOtherFiring_57 : decode cX7_isOtherFiring 57 = .ok (.ireturn, 1) := by decide +kernel
set_option maxRecDepth 20000 in
theorem ggX7_toDry_X7_pot : GoodIn wsX7_toDry wsX7_pot := goodIn_r _ [6, 1, 7, 8, 9, 10, 11, 12, 13, 14, 15, 16, 17, 18, 19] (by decide +kernel) (by decide +kernel)
set_option maxRecDepth 20000 in
theorem gX7_toDry_X7_pot : GoodIn wsX7_toDry (wsV RX7 41 RX7 yX7_pot wsX7_pot) := goodIn_app (goodIn_of _ (by decide +kernel)) ggX7_toDry_X7_pot
theorem dX7_toDry_0 : decode cX7_toDry 0 = .ok (.aload_n 0, 1) := by decide +kernel
theorem dX7_toDry_1 : decode cX7_toDry 1 = .ok (.getfield 7, 3) := by decide +kernel
theorem dX7_toDry_4 : decode cX7_toDry 4 = .ok (.iconst 2, 1) := by decide +kernel
theorem dX7_toDry_5 : decode cX7_toDry 5 = .ok (.iaload, 1) := by decide +kernel
theorem dX7_toDry_6 : decode cX7_toDry 6 = .ok (.aload_n 0, 1) := by decide +kernel
theorem dX7_toDry_7 : decode cX7_toDry 7 = .ok (.iload_n 1, 1) := by decide +kernel
theorem dX7_toDry_8 : decode cX7_toDry 8 = .ok (.iconst 1, 1) := by decide +kernel
theorem dX7_toDry_9 : decode cX7_toDry 9 = .ok (.invokevirtual 41, 3) := by decide +kernel
theorem dX7_toDry_12 : decode cX7_toDry 12 = .ok (.imul, 1) := by decide +kernel
theorem dX7_toDry_13 : decode cX7_toDry 13 = .ok (.aload_n 0, 1) := by decide +kernel
theorem dX7_toDry_14 : decode cX7_toDry 14 = .ok (.iload_n 1, 1) := by decide +kernel
theorem dX7_toDry_15 : decode cX7_toDry 15 = .ok (.bipush 6, 2) := by decide +kernel
theorem dX7_toDry_17 : decode cX7_toDry 17 = .ok (.invokevirtual 41, 3) := by decide +kernel
theorem dX7_toDry_20 : decode cX7_toDry 20 = .ok (.isub, 1) := by decide +kernel
theorem dX7_toDry_21 : decode cX7_toDry 21 = .ok (.ireturn, 1) := by decide +kernel
set_option maxRecDepth 20000 in
theorem ggX7_whyNot_X7_pot : GoodIn wsX7_whyNot wsX7_pot := goodIn_r _ [6, 1, 19, 20, 21, 22, 23, 24, 25, 26, 27, 28, 29, 30, 31] (by decide +kernel) (by decide +kernel)
set_option maxRecDepth 20000 in
theorem gX7_whyNot_X7_pot : GoodIn wsX7_whyNot (wsV RX7 41 RX7 yX7_pot wsX7_pot) := goodIn_app (goodIn_of _ (by decide +kernel)) ggX7_whyNot_X7_pot
set_option maxRecDepth 20000 in
theorem ggX7_whyNot_X7_toDry : GoodIn wsX7_whyNot wsX7_toDry := goodIn_r _ [10, 1, 2, 3, 4, 5, 6, 19, 20, 21, 22, 23, 24, 25, 26, 27, 28, 29, 30, 31] (by decide +kernel) (by decide +kernel)
set_option maxRecDepth 20000 in
theorem gX7_whyNot_X7_toDry : GoodIn wsX7_whyNot (wsV RX7 59 RX7 yX7_toDry wsX7_toDry) := goodIn_app (goodIn_of _ (by decide +kernel)) ggX7_whyNot_X7_toDry
set_option maxRecDepth 20000 in
theorem ggX7_whyNot_X7_isOtherFiring : GoodIn wsX7_whyNot wsX7_isOtherFiring := goodIn_r _ [14, 1, 2, 3, 4, 5, 6, 19, 20, 21, 22, 23, 24, 25, 26, 27, 28, 29, 30, 31] (by decide +kernel) (by decide +kernel)
set_option maxRecDepth 20000 in
theorem gX7_whyNot_X7_isOtherFiring : GoodIn wsX7_whyNot (wsV RX7 62 RX7 yX7_isOtherFiring wsX7_isOtherFiring) := goodIn_app (goodIn_of _ (by decide +kernel)) ggX7_whyNot_X7_isOtherFiring
set_option maxRecDepth 20000 in
theorem ggX7_whyNot_X7_sizesInKiln : GoodIn wsX7_whyNot wsX7_sizesInKiln := goodIn_r _ [18, 1, 2, 3, 4, 5, 6, 19, 20, 21, 22, 23, 24, 25, 26, 27, 28, 29, 30, 31] (by decide +kernel) (by decide +kernel)
set_option maxRecDepth 20000 in
theorem gX7_whyNot_X7_sizesInKiln : GoodIn wsX7_whyNot (wsV RX7 65 RX7 yX7_sizesInKiln wsX7_sizesInKiln) := goodIn_app (goodIn_of _ (by decide +kernel)) ggX7_whyNot_X7_sizesInKiln
theorem dX7_whyNot_0 : decode cX7_whyNot 0 = .ok (.aload_n 0, 1) := by decide +kernel
theorem dX7_whyNot_1 : decode cX7_whyNot 1 = .ok (.iload_n 1, 1) := by decide +kernel
theorem dX7_whyNot_2 : decode cX7_whyNot 2 = .ok (.iconst 3, 1) := by decide +kernel
theorem dX7_whyNot_3 : decode cX7_whyNot 3 = .ok (.invokevirtual 41, 3) := by decide +kernel
theorem dX7_whyNot_6 : decode cX7_whyNot 6 = .ok (.istore_n 2, 1) := by decide +kernel
theorem dX7_whyNot_7 : decode cX7_whyNot 7 = .ok (.aload_n 0, 1) := by decide +kernel
theorem dX7_whyNot_8 : decode cX7_whyNot 8 = .ok (.iload_n 1, 1) := by decide +kernel
theorem dX7_whyNot_9 : decode cX7_whyNot 9 = .ok (.iconst 4, 1) := by decide +kernel
theorem dX7_whyNot_10 : decode cX7_whyNot 10 = .ok (.invokevirtual 41, 3) := by decide +kernel
theorem dX7_whyNot_13 : decode cX7_whyNot 13 = .ok (.ifCond .eq 5, 3) := by decide +kernel
theorem dX7_whyNot_16 : decode cX7_whyNot 16 = .ok (.iconst 1, 1) := by decide +kernel
theorem dX7_whyNot_17 : decode cX7_whyNot 17 = .ok (.ireturn, 1) := by decide +kernel
theorem dX7_whyNot_18 : decode cX7_whyNot 18 = .ok (.iload_n 2, 1) := by decide +kernel
theorem dX7_whyNot_19 : decode cX7_whyNot 19 = .ok (.ifCond .eq 10, 3) := by decide +kernel
theorem dX7_whyNot_22 : decode cX7_whyNot 22 = .ok (.iload_n 2, 1) := by decide +kernel
theorem dX7_whyNot_23 : decode cX7_whyNot 23 = .ok (.iconst 2, 1) := by decide +kernel
theorem dX7_whyNot_24 : decode cX7_whyNot 24 = .ok (.if_icmp .eq 5, 3) := by decide +kernel
theorem dX7_whyNot_27 : decode cX7_whyNot 27 = .ok (.iconst 2, 1) := by decide +kernel
theorem dX7_whyNot_28 : decode cX7_whyNot 28 = .ok (.ireturn, 1) := by decide +kernel
theorem dX7_whyNot_29 : decode cX7_whyNot 29 = .ok (.iload_n 2, 1) := by decide +kernel
theorem dX7_whyNot_30 : decode cX7_whyNot 30 = .ok (.ifCond .ne 13, 3) := by decide +kernel
theorem dX7_whyNot_33 : decode cX7_whyNot 33 = .ok (.aload_n 0, 1) := by decide +kernel
theorem dX7_whyNot_34 : decode cX7_whyNot 34 = .ok (.iload_n 1, 1) := by decide +kernel
theorem dX7_whyNot_35 : decode cX7_whyNot 35 = .ok (.invokevirtual 59, 3) := by decide +kernel
theorem dX7_whyNot_38 : decode cX7_whyNot 38 = .ok (.ifCond .le 5, 3) := by decide +kernel
theorem dX7_whyNot_41 : decode cX7_whyNot 41 = .ok (.iconst 3, 1) := by decide +kernel
theorem dX7_whyNot_42 : decode cX7_whyNot 42 = .ok (.ireturn, 1) := by decide +kernel
theorem dX7_whyNot_43 : decode cX7_whyNot 43 = .ok (.aload_n 0, 1) := by decide +kernel
theorem dX7_whyNot_44 : decode cX7_whyNot 44 = .ok (.iload_n 1, 1) := by decide +kernel
theorem dX7_whyNot_45 : decode cX7_whyNot 45 = .ok (.invokevirtual 62, 3) := by decide +kernel
theorem dX7_whyNot_48 : decode cX7_whyNot 48 = .ok (.ifCond .eq 5, 3) := by decide +kernel
theorem dX7_whyNot_51 : decode cX7_whyNot 51 = .ok (.iconst 4, 1) := by decide +kernel
theorem dX7_whyNot_52 : decode cX7_whyNot 52 = .ok (.ireturn, 1) := by decide +kernel
theorem dX7_whyNot_53 : decode cX7_whyNot 53 = .ok (.aload_n 0, 1) := by decide +kernel
theorem dX7_whyNot_54 : decode cX7_whyNot 54 = .ok (.invokevirtual 65, 3) := by decide +kernel
theorem dX7_whyNot_57 : decode cX7_whyNot 57 = .ok (.aload_n 0, 1) := by decide +kernel
theorem dX7_whyNot_58 : decode cX7_whyNot 58 = .ok (.iload_n 1, 1) := by decide +kernel
theorem dX7_whyNot_59 : decode cX7_whyNot 59 = .ok (.iconst 1, 1) := by decide +kernel
theorem dX7_whyNot_60 : decode cX7_whyNot 60 = .ok (.invokevirtual 41, 3) := by decide +kernel
theorem dX7_whyNot_63 : decode cX7_whyNot 63 = .ok (.iadd, 1) := by decide +kernel
theorem dX7_whyNot_64 : decode cX7_whyNot 64 = .ok (.aload_n 0, 1) := by decide +kernel
theorem dX7_whyNot_65 : decode cX7_whyNot 65 = .ok (.getfield 7, 3) := by decide +kernel
theorem dX7_whyNot_68 : decode cX7_whyNot 68 = .ok (.iconst 3, 1) := by decide +kernel
theorem dX7_whyNot_69 : decode cX7_whyNot 69 = .ok (.iaload, 1) := by decide +kernel
theorem dX7_whyNot_70 : decode cX7_whyNot 70 = .ok (.if_icmp .le 7, 3) := by decide +kernel
theorem dX7_whyNot_73 : decode cX7_whyNot 73 = .ok (.iconst 5, 1) := by decide +kernel
theorem dX7_whyNot_74 : decode cX7_whyNot 74 = .ok (.goto 4, 3) := by decide +kernel
theorem dX7_whyNot_77 : decode cX7_whyNot 77 = .ok (.iconst 0, 1) := by decide +kernel
theorem dX7_whyNot_78 : decode cX7_whyNot 78 = .ok (.ireturn, 1) := by decide +kernel
theorem dX7_heatOf_0 : decode cX7_heatOf 0 = .ok (.bipush 100, 2) := by decide +kernel
theorem dX7_heatOf_2 : decode cX7_heatOf 2 = .ok (.iconst 5, 1) := by decide +kernel
theorem dX7_heatOf_3 : decode cX7_heatOf 3 = .ok (.iload_n 0, 1) := by decide +kernel
theorem dX7_heatOf_4 : decode cX7_heatOf 4 = .ok (.imul, 1) := by decide +kernel
theorem dX7_heatOf_5 : decode cX7_heatOf 5 = .ok (.iadd, 1) := by decide +kernel
theorem dX7_heatOf_6 : decode cX7_heatOf 6 = .ok (.ireturn, 1) := by decide +kernel
set_option maxRecDepth 20000 in
theorem ggX7_fired_X7_pot : GoodIn wsX7_fired wsX7_pot := goodIn_r _ [6, 1, 10, 11, 12, 13, 14, 15, 16, 17, 18, 19, 20, 21, 22] (by decide +kernel) (by decide +kernel)
set_option maxRecDepth 20000 in
theorem gX7_fired_X7_pot : GoodIn wsX7_fired (wsV RX7 41 RX7 yX7_pot wsX7_pot) := goodIn_app (goodIn_of _ (by decide +kernel)) ggX7_fired_X7_pot
set_option maxRecDepth 20000 in
theorem ggX7_fired_X7_heatOf : GoodIn wsX7_fired wsX7_heatOf := goodIn_r _ [9] (by decide +kernel) (by decide +kernel)
set_option maxRecDepth 20000 in
theorem gX7_fired_X7_heatOf : GoodIn wsX7_fired (va_wsS RX7 69 yX7_heatOf wsX7_heatOf) := goodIn_app (goodIn_of _ (by decide +kernel)) ggX7_fired_X7_heatOf
theorem dX7_fired_0 : decode cX7_fired 0 = .ok (.iload_n 2, 1) := by decide +kernel
theorem dX7_fired_1 : decode cX7_fired 1 = .ok (.aload_n 0, 1) := by decide +kernel
theorem dX7_fired_2 : decode cX7_fired 2 = .ok (.iload_n 1, 1) := by decide +kernel
theorem dX7_fired_3 : decode cX7_fired 3 = .ok (.iconst 2, 1) := by decide +kernel
theorem dX7_fired_4 : decode cX7_fired 4 = .ok (.invokevirtual 41, 3) := by decide +kernel
theorem dX7_fired_7 : decode cX7_fired 7 = .ok (.iadd, 1) := by decide +kernel
theorem dX7_fired_8 : decode cX7_fired 8 = .ok (.aload_n 0, 1) := by decide +kernel
theorem dX7_fired_9 : decode cX7_fired 9 = .ok (.getfield 7, 3) := by decide +kernel
theorem dX7_fired_12 : decode cX7_fired 12 = .ok (.iconst 4, 1) := by decide +kernel
theorem dX7_fired_13 : decode cX7_fired 13 = .ok (.iaload, 1) := by decide +kernel
theorem dX7_fired_14 : decode cX7_fired 14 = .ok (.if_icmp .le 5, 3) := by decide +kernel
theorem dX7_fired_17 : decode cX7_fired 17 = .ok (.iconst 4, 1) := by decide +kernel
theorem dX7_fired_18 : decode cX7_fired 18 = .ok (.ireturn, 1) := by decide +kernel
theorem dX7_fired_19 : decode cX7_fired 19 = .ok (.aload_n 0, 1) := by decide +kernel
theorem dX7_fired_20 : decode cX7_fired 20 = .ok (.iload_n 1, 1) := by decide +kernel
theorem dX7_fired_21 : decode cX7_fired 21 = .ok (.iconst 3, 1) := by decide +kernel
theorem dX7_fired_22 : decode cX7_fired 22 = .ok (.invokevirtual 41, 3) := by decide +kernel
theorem dX7_fired_25 : decode cX7_fired 25 = .ok (.ifCond .ne 15, 3) := by decide +kernel
theorem dX7_fired_28 : decode cX7_fired 28 = .ok (.iload_n 2, 1) := by decide +kernel
theorem dX7_fired_29 : decode cX7_fired 29 = .ok (.bipush 95, 2) := by decide +kernel
theorem dX7_fired_31 : decode cX7_fired 31 = .ok (.if_icmp .lt 7, 3) := by decide +kernel
theorem dX7_fired_34 : decode cX7_fired 34 = .ok (.iconst 1, 1) := by decide +kernel
theorem dX7_fired_35 : decode cX7_fired 35 = .ok (.goto 4, 3) := by decide +kernel
theorem dX7_fired_38 : decode cX7_fired 38 = .ok (.iconst 0, 1) := by decide +kernel
theorem dX7_fired_39 : decode cX7_fired 39 = .ok (.ireturn, 1) := by decide +kernel
theorem dX7_fired_40 : decode cX7_fired 40 = .ok (.iload_n 2, 1) := by decide +kernel
theorem dX7_fired_41 : decode cX7_fired 41 = .ok (.aload_n 0, 1) := by decide +kernel
theorem dX7_fired_42 : decode cX7_fired 42 = .ok (.iload_n 1, 1) := by decide +kernel
theorem dX7_fired_43 : decode cX7_fired 43 = .ok (.bipush 7, 2) := by decide +kernel
theorem dX7_fired_45 : decode cX7_fired 45 = .ok (.invokevirtual 41, 3) := by decide +kernel
theorem dX7_fired_48 : decode cX7_fired 48 = .ok (.invokestatic 69, 3) := by decide +kernel
theorem dX7_fired_51 : decode cX7_fired 51 = .ok (.isub, 1) := by decide +kernel
theorem dX7_fired_52 : decode cX7_fired 52 = .ok (.istore_n 3, 1) := by decide +kernel
theorem dX7_fired_53 : decode cX7_fired 53 = .ok (.iload_n 3, 1) := by decide +kernel
theorem dX7_fired_54 : decode cX7_fired 54 = .ok (.ifCond .ge 7, 3) := by decide +kernel
theorem dX7_fired_57 : decode cX7_fired 57 = .ok (.iconst 2, 1) := by decide +kernel
theorem dX7_fired_58 : decode cX7_fired 58 = .ok (.goto 14, 3) := by decide +kernel
theorem dX7_fired_61 : decode cX7_fired 61 = .ok (.iload_n 3, 1) := by decide +kernel
theorem dX7_fired_62 : decode cX7_fired 62 = .ok (.bipush 10, 2) := by decide +kernel
theorem dX7_fired_64 : decode cX7_fired 64 = .ok (.if_icmp .gt 7, 3) := by decide +kernel
theorem dX7_fired_67 : decode cX7_fired 67 = .ok (.iconst 3, 1) := by decide +kernel
theorem dX7_fired_68 : decode cX7_fired 68 = .ok (.goto 4, 3) := by decide +kernel
theorem dX7_fired_71 : decode cX7_fired 71 = .ok (.iconst 1, 1) := by decide +kernel
theorem dX7_fired_72 : decode cX7_fired 72 = .ok (.ireturn, 1) := by decide +kernel
set_option maxRecDepth 20000 in
theorem ggX7_firedTo_X7_pot : GoodIn wsX7_firedTo wsX7_pot := goodIn_r _ [6, 1, 14, 15, 16, 17, 18, 19, 20, 21, 22, 23, 24, 25, 26] (by decide +kernel) (by decide +kernel)
set_option maxRecDepth 20000 in
theorem gX7_firedTo_X7_pot : GoodIn wsX7_firedTo (wsV RX7 41 RX7 yX7_pot wsX7_pot) := goodIn_app (goodIn_of _ (by decide +kernel)) ggX7_firedTo_X7_pot
set_option maxRecDepth 20000 in
theorem ggX7_firedTo_X7_fired : GoodIn wsX7_firedTo wsX7_fired := goodIn_r _ [10, 1, 2, 3, 4, 5, 6, 11, 12, 13, 14, 15, 16, 17, 18, 19, 20, 21, 22, 23, 24, 25, 26] (by decide +kernel) (by decide +kernel)
set_option maxRecDepth 20000 in
theorem gX7_firedTo_X7_fired : GoodIn wsX7_firedTo (wsV RX7 72 RX7 yX7_fired wsX7_fired) := goodIn_app (goodIn_of _ (by decide +kernel)) ggX7_firedTo_X7_fired
theorem dX7_firedTo_0 : decode cX7_firedTo 0 = .ok (.iconst 0, 1) := by decide +kernel
theorem dX7_firedTo_1 : decode cX7_firedTo 1 = .ok (.istore 4, 2) := by decide +kernel
theorem dX7_firedTo_3 : decode cX7_firedTo 3 = .ok (.iconst 0, 1) := by decide +kernel
theorem dX7_firedTo_4 : decode cX7_firedTo 4 = .ok (.istore 5, 2) := by decide +kernel
theorem dX7_firedTo_6 : decode cX7_firedTo 6 = .ok (.iload 5, 2) := by decide +kernel
theorem dX7_firedTo_8 : decode cX7_firedTo 8 = .ok (.aload_n 0, 1) := by decide +kernel
theorem dX7_firedTo_9 : decode cX7_firedTo 9 = .ok (.getfield 7, 3) := by decide +kernel
theorem dX7_firedTo_12 : decode cX7_firedTo 12 = .ok (.bipush 7, 2) := by decide +kernel
theorem dX7_firedTo_14 : decode cX7_firedTo 14 = .ok (.iaload, 1) := by decide +kernel
theorem dX7_firedTo_15 : decode cX7_firedTo 15 = .ok (.if_icmp .ge 71, 3) := by decide +kernel
theorem dX7_firedTo_18 : decode cX7_firedTo 18 = .ok (.aload_n 0, 1) := by decide +kernel
theorem dX7_firedTo_19 : decode cX7_firedTo 19 = .ok (.iload 5, 2) := by decide +kernel
theorem dX7_firedTo_21 : decode cX7_firedTo 21 = .ok (.iconst 4, 1) := by decide +kernel
theorem dX7_firedTo_22 : decode cX7_firedTo 22 = .ok (.invokevirtual 41, 3) := by decide +kernel
theorem dX7_firedTo_25 : decode cX7_firedTo 25 = .ok (.iconst 1, 1) := by decide +kernel
theorem dX7_firedTo_26 : decode cX7_firedTo 26 = .ok (.if_icmp .ne 33, 3) := by decide +kernel
theorem dX7_firedTo_29 : decode cX7_firedTo 29 = .ok (.aload_n 0, 1) := by decide +kernel
theorem dX7_firedTo_30 : decode cX7_firedTo 30 = .ok (.iload 5, 2) := by decide +kernel
theorem dX7_firedTo_32 : decode cX7_firedTo 32 = .ok (.iload_n 1, 1) := by decide +kernel
theorem dX7_firedTo_33 : decode cX7_firedTo 33 = .ok (.invokevirtual 72, 3) := by decide +kernel
theorem dX7_firedTo_36 : decode cX7_firedTo 36 = .ok (.iload_n 2, 1) := by decide +kernel
theorem dX7_firedTo_37 : decode cX7_firedTo 37 = .ok (.if_icmp .ne 22, 3) := by decide +kernel
theorem dX7_firedTo_40 : decode cX7_firedTo 40 = .ok (.iload_n 3, 1) := by decide +kernel
theorem dX7_firedTo_41 : decode cX7_firedTo 41 = .ok (.ifCond .ne 14, 3) := by decide +kernel
theorem dX7_firedTo_44 : decode cX7_firedTo 44 = .ok (.aload_n 0, 1) := by decide +kernel
theorem dX7_firedTo_45 : decode cX7_firedTo 45 = .ok (.iload 5, 2) := by decide +kernel
theorem dX7_firedTo_47 : decode cX7_firedTo 47 = .ok (.iconst 3, 1) := by decide +kernel
theorem dX7_firedTo_48 : decode cX7_firedTo 48 = .ok (.invokevirtual 41, 3) := by decide +kernel
theorem dX7_firedTo_51 : decode cX7_firedTo 51 = .ok (.iload_n 2, 1) := by decide +kernel
theorem dX7_firedTo_52 : decode cX7_firedTo 52 = .ok (.if_icmp .eq 7, 3) := by decide +kernel
theorem dX7_firedTo_55 : decode cX7_firedTo 55 = .ok (.iconst 1, 1) := by decide +kernel
theorem dX7_firedTo_56 : decode cX7_firedTo 56 = .ok (.goto 4, 3) := by decide +kernel
theorem dX7_firedTo_59 : decode cX7_firedTo 59 = .ok (.iconst 0, 1) := by decide +kernel
theorem dX7_firedTo_60 : decode cX7_firedTo 60 = .ok (.istore 6, 2) := by decide +kernel
theorem dX7_firedTo_62 : decode cX7_firedTo 62 = .ok (.iload 4, 2) := by decide +kernel
theorem dX7_firedTo_64 : decode cX7_firedTo 64 = .ok (.iload 6, 2) := by decide +kernel
theorem dX7_firedTo_66 : decode cX7_firedTo 66 = .ok (.ifCond .eq 10, 3) := by decide +kernel
theorem dX7_firedTo_69 : decode cX7_firedTo 69 = .ok (.iconst 1, 1) := by decide +kernel
theorem dX7_firedTo_70 : decode cX7_firedTo 70 = .ok (.iload 5, 2) := by decide +kernel
theorem dX7_firedTo_72 : decode cX7_firedTo 72 = .ok (.ishl, 1) := by decide +kernel
theorem dX7_firedTo_73 : decode cX7_firedTo 73 = .ok (.goto 4, 3) := by decide +kernel
theorem dX7_firedTo_76 : decode cX7_firedTo 76 = .ok (.iconst 0, 1) := by decide +kernel
theorem dX7_firedTo_77 : decode cX7_firedTo 77 = .ok (.ior, 1) := by decide +kernel
theorem dX7_firedTo_78 : decode cX7_firedTo 78 = .ok (.istore 4, 2) := by decide +kernel
theorem dX7_firedTo_80 : decode cX7_firedTo 80 = .ok (.iinc 5 1, 3) := by decide +kernel
theorem dX7_firedTo_83 : decode cX7_firedTo 83 = .ok (.goto (-77), 3) := by decide +kernel
theorem dX7_firedTo_86 : decode cX7_firedTo 86 = .ok (.iload 4, 2) := by decide +kernel
theorem dX7_firedTo_88 : decode cX7_firedTo 88 = .ok (.ireturn, 1) := by decide +kernel
theorem dX7_least_0 : decode cX7_least 0 = .ok (.iload_n 0, 1) := by decide +kernel
theorem dX7_least_1 : decode cX7_least 1 = .ok (.ifCond .ne 7, 3) := by decide +kernel
theorem dX7_least_4 : decode cX7_least 4 = .ok (.iconst 1, 1) := by decide +kernel
theorem dX7_least_5 : decode cX7_least 5 = .ok (.goto 23, 3) := by decide +kernel
theorem dX7_least_8 : decode cX7_least 8 = .ok (.iload_n 0, 1) := by decide +kernel
theorem dX7_least_9 : decode cX7_least 9 = .ok (.iconst 1, 1) := by decide +kernel
theorem dX7_least_10 : decode cX7_least 10 = .ok (.if_icmp .ne 7, 3) := by decide +kernel
theorem dX7_least_13 : decode cX7_least 13 = .ok (.iconst 3, 1) := by decide +kernel
theorem dX7_least_14 : decode cX7_least 14 = .ok (.goto 14, 3) := by decide +kernel
theorem dX7_least_17 : decode cX7_least 17 = .ok (.iload_n 0, 1) := by decide +kernel
theorem dX7_least_18 : decode cX7_least 18 = .ok (.iconst 2, 1) := by decide +kernel
theorem dX7_least_19 : decode cX7_least 19 = .ok (.if_icmp .ne 8, 3) := by decide +kernel
theorem dX7_least_22 : decode cX7_least 22 = .ok (.bipush 100, 2) := by decide +kernel
theorem dX7_least_24 : decode cX7_least 24 = .ok (.goto 4, 3) := by decide +kernel
theorem dX7_least_27 : decode cX7_least 27 = .ok (.iconst 0, 1) := by decide +kernel
theorem dX7_least_28 : decode cX7_least 28 = .ok (.ireturn, 1) := by decide +kernel
theorem dX7_most_0 : decode cX7_most 0 = .ok (.iload_n 0, 1) := by decide +kernel
theorem dX7_most_1 : decode cX7_most 1 = .ok (.ifCond .ne 8, 3) := by decide +kernel
theorem dX7_most_4 : decode cX7_most 4 = .ok (.bipush 9, 2) := by decide +kernel
theorem dX7_most_6 : decode cX7_most 6 = .ok (.goto 26, 3) := by decide +kernel
theorem dX7_most_9 : decode cX7_most 9 = .ok (.iload_n 0, 1) := by decide +kernel
theorem dX7_most_10 : decode cX7_most 10 = .ok (.iconst 1, 1) := by decide +kernel
theorem dX7_most_11 : decode cX7_most 11 = .ok (.if_icmp .ne 8, 3) := by decide +kernel
theorem dX7_most_14 : decode cX7_most 14 = .ok (.bipush 24, 2) := by decide +kernel
theorem dX7_most_16 : decode cX7_most 16 = .ok (.goto 16, 3) := by decide +kernel
theorem dX7_most_19 : decode cX7_most 19 = .ok (.iload_n 0, 1) := by decide +kernel
theorem dX7_most_20 : decode cX7_most 20 = .ok (.iconst 2, 1) := by decide +kernel
theorem dX7_most_21 : decode cX7_most 21 = .ok (.if_icmp .ne 9, 3) := by decide +kernel
theorem dX7_most_24 : decode cX7_most 24 = .ok (.sipush 140, 3) := by decide +kernel
theorem dX7_most_27 : decode cX7_most 27 = .ok (.goto 5, 3) := by decide +kernel
theorem dX7_most_30 : decode cX7_most 30 = .ok (.bipush 20, 2) := by decide +kernel
theorem dX7_most_32 : decode cX7_most 32 = .ok (.ireturn, 1) := by decide +kernel
set_option maxRecDepth 20000 in
theorem ggX7_set_X7_in : GoodIn wsX7_set wsX7_in := goodIn_r _ [5] (by decide +kernel) (by decide +kernel)
set_option maxRecDepth 20000 in
theorem gX7_set_X7_in : GoodIn wsX7_set (va_wsS RX7 26 yX7_in wsX7_in) := goodIn_app (goodIn_of _ (by decide +kernel)) ggX7_set_X7_in
set_option maxRecDepth 20000 in
theorem ggX7_set_X7_least : GoodIn wsX7_set wsX7_least := goodIn_r _ [8] (by decide +kernel) (by decide +kernel)
set_option maxRecDepth 20000 in
theorem gX7_set_X7_least : GoodIn wsX7_set (va_wsS RX7 75 yX7_least wsX7_least) := goodIn_app (goodIn_of _ (by decide +kernel)) ggX7_set_X7_least
set_option maxRecDepth 20000 in
theorem ggX7_set_X7_most : GoodIn wsX7_set wsX7_most := goodIn_r _ [11] (by decide +kernel) (by decide +kernel)
set_option maxRecDepth 20000 in
theorem gX7_set_X7_most : GoodIn wsX7_set (va_wsS RX7 78 yX7_most wsX7_most) := goodIn_app (goodIn_of _ (by decide +kernel)) ggX7_set_X7_most
set_option maxRecDepth 20000 in
theorem ggX7_set_X7_record : GoodIn wsX7_set wsX7_record := goodIn_r _ [15, 16, 17, 1, 18, 19, 20, 21, 22, 23, 24, 25, 26, 27, 28, 29, 30] (by decide +kernel) (by decide +kernel)
set_option maxRecDepth 20000 in
theorem gX7_set_X7_record : GoodIn wsX7_set (wsV RX7 34 RX7 yX7_record wsX7_record) := goodIn_app (goodIn_of _ (by decide +kernel)) ggX7_set_X7_record
theorem dX7_set_0 : decode cX7_set 0 = .ok (.iload_n 1, 1) := by decide +kernel
theorem dX7_set_1 : decode cX7_set 1 = .ok (.iconst 0, 1) := by decide +kernel
theorem dX7_set_2 : decode cX7_set 2 = .ok (.iconst 3, 1) := by decide +kernel
theorem dX7_set_3 : decode cX7_set 3 = .ok (.invokestatic 26, 3) := by decide +kernel
theorem dX7_set_6 : decode cX7_set 6 = .ok (.ifCond .eq 18, 3) := by decide +kernel
theorem dX7_set_9 : decode cX7_set 9 = .ok (.iload_n 2, 1) := by decide +kernel
theorem dX7_set_10 : decode cX7_set 10 = .ok (.iload_n 1, 1) := by decide +kernel
theorem dX7_set_11 : decode cX7_set 11 = .ok (.invokestatic 75, 3) := by decide +kernel
theorem dX7_set_14 : decode cX7_set 14 = .ok (.iload_n 1, 1) := by decide +kernel
theorem dX7_set_15 : decode cX7_set 15 = .ok (.invokestatic 78, 3) := by decide +kernel
theorem dX7_set_18 : decode cX7_set 18 = .ok (.invokestatic 26, 3) := by decide +kernel
theorem dX7_set_21 : decode cX7_set 21 = .ok (.ifCond .ne 6, 3) := by decide +kernel
theorem dX7_set_24 : decode cX7_set 24 = .ok (.bipush (-2), 2) := by decide +kernel
theorem dX7_set_26 : decode cX7_set 26 = .ok (.ireturn, 1) := by decide +kernel
theorem dX7_set_27 : decode cX7_set 27 = .ok (.aload_n 0, 1) := by decide +kernel
theorem dX7_set_28 : decode cX7_set 28 = .ok (.invokevirtual 34, 3) := by decide +kernel
theorem dX7_set_31 : decode cX7_set 31 = .ok (.aload_n 0, 1) := by decide +kernel
theorem dX7_set_32 : decode cX7_set 32 = .ok (.getfield 7, 3) := by decide +kernel
theorem dX7_set_35 : decode cX7_set 35 = .ok (.iconst 2, 1) := by decide +kernel
theorem dX7_set_36 : decode cX7_set 36 = .ok (.iload_n 1, 1) := by decide +kernel
theorem dX7_set_37 : decode cX7_set 37 = .ok (.iadd, 1) := by decide +kernel
theorem dX7_set_38 : decode cX7_set 38 = .ok (.iaload, 1) := by decide +kernel
theorem dX7_set_39 : decode cX7_set 39 = .ok (.istore_n 3, 1) := by decide +kernel
theorem dX7_set_40 : decode cX7_set 40 = .ok (.aload_n 0, 1) := by decide +kernel
theorem dX7_set_41 : decode cX7_set 41 = .ok (.getfield 7, 3) := by decide +kernel
theorem dX7_set_44 : decode cX7_set 44 = .ok (.iconst 2, 1) := by decide +kernel
theorem dX7_set_45 : decode cX7_set 45 = .ok (.iload_n 1, 1) := by decide +kernel
theorem dX7_set_46 : decode cX7_set 46 = .ok (.iadd, 1) := by decide +kernel
theorem dX7_set_47 : decode cX7_set 47 = .ok (.iload_n 2, 1) := by decide +kernel
theorem dX7_set_48 : decode cX7_set 48 = .ok (.iastore, 1) := by decide +kernel
theorem dX7_set_49 : decode cX7_set 49 = .ok (.iload_n 3, 1) := by decide +kernel
theorem dX7_set_50 : decode cX7_set 50 = .ok (.ireturn, 1) := by decide +kernel
theorem dX7_noPupil_0 : decode cX7_noPupil 0 = .ok (.aload_n 0, 1) := by decide +kernel
theorem dX7_noPupil_1 : decode cX7_noPupil 1 = .ok (.getfield 7, 3) := by decide +kernel
theorem dX7_noPupil_4 : decode cX7_noPupil 4 = .ok (.bipush 6, 2) := by decide +kernel
theorem dX7_noPupil_6 : decode cX7_noPupil 6 = .ok (.iaload, 1) := by decide +kernel
theorem dX7_noPupil_7 : decode cX7_noPupil 7 = .ok (.bipush 10, 2) := by decide +kernel
theorem dX7_noPupil_9 : decode cX7_noPupil 9 = .ok (.if_icmp .ne 8, 3) := by decide +kernel
theorem dX7_noPupil_12 : decode cX7_noPupil 12 = .ok (.bipush (-4), 2) := by decide +kernel
theorem dX7_noPupil_14 : decode cX7_noPupil 14 = .ok (.goto 4, 3) := by decide +kernel
theorem dX7_noPupil_17 : decode cX7_noPupil 17 = .ok (.iconst 0, 1) := by decide +kernel
theorem dX7_noPupil_18 : decode cX7_noPupil 18 = .ok (.ireturn, 1) := by decide +kernel
theorem dX7_doPupil_0 : decode cX7_doPupil 0 = .ok (.aload_n 0, 1) := by decide +kernel
theorem dX7_doPupil_1 : decode cX7_doPupil 1 = .ok (.getfield 7, 3) := by decide +kernel
theorem dX7_doPupil_4 : decode cX7_doPupil 4 = .ok (.bipush 6, 2) := by decide +kernel
theorem dX7_doPupil_6 : decode cX7_doPupil 6 = .ok (.dup2, 1) := by decide +kernel
theorem dX7_doPupil_7 : decode cX7_doPupil 7 = .ok (.iaload, 1) := by decide +kernel
theorem dX7_doPupil_8 : decode cX7_doPupil 8 = .ok (.iconst 1, 1) := by decide +kernel
theorem dX7_doPupil_9 : decode cX7_doPupil 9 = .ok (.iadd, 1) := by decide +kernel
theorem dX7_doPupil_10 : decode cX7_doPupil 10 = .ok (.iastore, 1) := by decide +kernel
theorem dX7_doPupil_11 : decode cX7_doPupil 11 = .ok (.aload_n 0, 1) := by decide +kernel
theorem dX7_doPupil_12 : decode cX7_doPupil 12 = .ok (.getfield 7, 3) := by decide +kernel
theorem dX7_doPupil_15 : decode cX7_doPupil 15 = .ok (.bipush 6, 2) := by decide +kernel
theorem dX7_doPupil_17 : decode cX7_doPupil 17 = .ok (.iaload, 1) := by decide +kernel
theorem dX7_doPupil_18 : decode cX7_doPupil 18 = .ok (.iconst 1, 1) := by decide +kernel
theorem dX7_doPupil_19 : decode cX7_doPupil 19 = .ok (.isub, 1) := by decide +kernel
theorem dX7_doPupil_20 : decode cX7_doPupil 20 = .ok (.ireturn, 1) := by decide +kernel
set_option maxRecDepth 20000 in
theorem ggX7_pupil_X7_noPupil : GoodIn wsX7_pupil wsX7_noPupil := goodIn_r _ [5, 6, 17, 18, 19, 20, 21, 22, 23, 24, 25, 26, 27, 28, 29] (by decide +kernel) (by decide +kernel)
set_option maxRecDepth 20000 in
theorem gX7_pupil_X7_noPupil : GoodIn wsX7_pupil (wsV RX7 81 RX7 yX7_noPupil wsX7_noPupil) := goodIn_app (goodIn_of _ (by decide +kernel)) ggX7_pupil_X7_noPupil
set_option maxRecDepth 20000 in
theorem ggX7_pupil_X7_record : GoodIn wsX7_pupil wsX7_record := goodIn_r _ [10, 11, 12, 6, 17, 18, 19, 20, 21, 22, 23, 24, 25, 26, 27, 28, 29] (by decide +kernel) (by decide +kernel)
set_option maxRecDepth 20000 in
theorem gX7_pupil_X7_record : GoodIn wsX7_pupil (wsV RX7 34 RX7 yX7_record wsX7_record) := goodIn_app (goodIn_of _ (by decide +kernel)) ggX7_pupil_X7_record
set_option maxRecDepth 20000 in
theorem ggX7_pupil_X7_doPupil : GoodIn wsX7_pupil wsX7_doPupil := goodIn_r _ [16, 6, 17, 18, 19, 20, 21, 22, 23, 24, 25, 26, 27, 28, 29] (by decide +kernel) (by decide +kernel)
set_option maxRecDepth 20000 in
theorem gX7_pupil_X7_doPupil : GoodIn wsX7_pupil (wsV RX7 84 RX7 yX7_doPupil wsX7_doPupil) := goodIn_app (goodIn_of _ (by decide +kernel)) ggX7_pupil_X7_doPupil
theorem dX7_pupil_0 : decode cX7_pupil 0 = .ok (.aload_n 0, 1) := by decide +kernel
theorem dX7_pupil_1 : decode cX7_pupil 1 = .ok (.invokevirtual 81, 3) := by decide +kernel
theorem dX7_pupil_4 : decode cX7_pupil 4 = .ok (.istore_n 1, 1) := by decide +kernel
theorem dX7_pupil_5 : decode cX7_pupil 5 = .ok (.iload_n 1, 1) := by decide +kernel
theorem dX7_pupil_6 : decode cX7_pupil 6 = .ok (.ifCond .ge 5, 3) := by decide +kernel
theorem dX7_pupil_9 : decode cX7_pupil 9 = .ok (.iload_n 1, 1) := by decide +kernel
theorem dX7_pupil_10 : decode cX7_pupil 10 = .ok (.ireturn, 1) := by decide +kernel
theorem dX7_pupil_11 : decode cX7_pupil 11 = .ok (.aload_n 0, 1) := by decide +kernel
theorem dX7_pupil_12 : decode cX7_pupil 12 = .ok (.invokevirtual 34, 3) := by decide +kernel
theorem dX7_pupil_15 : decode cX7_pupil 15 = .ok (.aload_n 0, 1) := by decide +kernel
theorem dX7_pupil_16 : decode cX7_pupil 16 = .ok (.invokevirtual 84, 3) := by decide +kernel
theorem dX7_pupil_19 : decode cX7_pupil 19 = .ok (.ireturn, 1) := by decide +kernel
set_option maxRecDepth 20000 in
theorem ggX7_noBook_X7_isPupil : GoodIn wsX7_noBook wsX7_isPupil := goodIn_r _ [5, 6, 7, 8, 4, 9, 24, 25, 26, 27, 28, 29, 30, 31, 32, 33, 34, 35, 36] (by decide +kernel) (by decide +kernel)
set_option maxRecDepth 20000 in
theorem gX7_noBook_X7_isPupil : GoodIn wsX7_noBook (wsV RX7 87 RX7 yX7_isPupil wsX7_isPupil) := goodIn_app (goodIn_of _ (by decide +kernel)) ggX7_noBook_X7_isPupil
set_option maxRecDepth 20000 in
theorem ggX7_noBook_X7_isWheel : GoodIn wsX7_noBook wsX7_isWheel := goodIn_r _ [12, 7, 8, 4, 9] (by decide +kernel) (by decide +kernel)
set_option maxRecDepth 20000 in
theorem gX7_noBook_X7_isWheel : GoodIn wsX7_noBook (va_wsS RX7 90 yX7_isWheel wsX7_isWheel) := goodIn_app (goodIn_of _ (by decide +kernel)) ggX7_noBook_X7_isWheel
set_option maxRecDepth 20000 in
theorem ggX7_noBook_X7_isAhead : GoodIn wsX7_noBook wsX7_isAhead := goodIn_r _ [15, 7, 8, 4, 9] (by decide +kernel) (by decide +kernel)
set_option maxRecDepth 20000 in
theorem gX7_noBook_X7_isAhead : GoodIn wsX7_noBook (va_wsS RX7 93 yX7_isAhead wsX7_isAhead) := goodIn_app (goodIn_of _ (by decide +kernel)) ggX7_noBook_X7_isAhead
set_option maxRecDepth 20000 in
theorem ggX7_noBook_X7_bookedBy : GoodIn wsX7_noBook wsX7_bookedBy := goodIn_r _ [19, 6, 24, 25, 26, 27, 28, 29, 30, 31, 32, 33, 34, 35, 36] (by decide +kernel) (by decide +kernel)
set_option maxRecDepth 20000 in
theorem gX7_noBook_X7_bookedBy : GoodIn wsX7_noBook (wsV RX7 37 RX7 yX7_bookedBy wsX7_bookedBy) := goodIn_app (goodIn_of _ (by decide +kernel)) ggX7_noBook_X7_bookedBy
set_option maxRecDepth 20000 in
theorem ggX7_noBook_X7_wheelOf : GoodIn wsX7_noBook wsX7_wheelOf := goodIn_r _ [23, 16, 17, 18, 4, 19, 6, 24, 25, 26, 27, 28, 29, 30, 31, 32, 33, 34, 35, 36] (by decide +kernel) (by decide +kernel)
set_option maxRecDepth 20000 in
theorem gX7_noBook_X7_wheelOf : GoodIn wsX7_noBook (wsV RX7 96 RX7 yX7_wheelOf wsX7_wheelOf) := goodIn_app (goodIn_of _ (by decide +kernel)) ggX7_noBook_X7_wheelOf
theorem dX7_noBook_0 : decode cX7_noBook 0 = .ok (.aload_n 0, 1) := by decide +kernel
theorem dX7_noBook_1 : decode cX7_noBook 1 = .ok (.iload_n 1, 1) := by decide +kernel
theorem dX7_noBook_2 : decode cX7_noBook 2 = .ok (.invokevirtual 87, 3) := by decide +kernel
theorem dX7_noBook_5 : decode cX7_noBook 5 = .ok (.ifCond .eq 10, 3) := by decide +kernel
theorem dX7_noBook_8 : decode cX7_noBook 8 = .ok (.iload_n 2, 1) := by decide +kernel
theorem dX7_noBook_9 : decode cX7_noBook 9 = .ok (.invokestatic 90, 3) := by decide +kernel
theorem dX7_noBook_12 : decode cX7_noBook 12 = .ok (.ifCond .ne 5, 3) := by decide +kernel
theorem dX7_noBook_15 : decode cX7_noBook 15 = .ok (.iconst (-1), 1) := by decide +kernel
theorem dX7_noBook_16 : decode cX7_noBook 16 = .ok (.ireturn, 1) := by decide +kernel
theorem dX7_noBook_17 : decode cX7_noBook 17 = .ok (.iload_n 3, 1) := by decide +kernel
theorem dX7_noBook_18 : decode cX7_noBook 18 = .ok (.invokestatic 93, 3) := by decide +kernel
theorem dX7_noBook_21 : decode cX7_noBook 21 = .ok (.ifCond .ne 6, 3) := by decide +kernel
theorem dX7_noBook_24 : decode cX7_noBook 24 = .ok (.bipush (-2), 2) := by decide +kernel
theorem dX7_noBook_26 : decode cX7_noBook 26 = .ok (.ireturn, 1) := by decide +kernel
theorem dX7_noBook_27 : decode cX7_noBook 27 = .ok (.aload_n 0, 1) := by decide +kernel
theorem dX7_noBook_28 : decode cX7_noBook 28 = .ok (.iload_n 2, 1) := by decide +kernel
theorem dX7_noBook_29 : decode cX7_noBook 29 = .ok (.iload_n 3, 1) := by decide +kernel
theorem dX7_noBook_30 : decode cX7_noBook 30 = .ok (.invokevirtual 37, 3) := by decide +kernel
theorem dX7_noBook_33 : decode cX7_noBook 33 = .ok (.ifCond .ge 12, 3) := by decide +kernel
theorem dX7_noBook_36 : decode cX7_noBook 36 = .ok (.aload_n 0, 1) := by decide +kernel
theorem dX7_noBook_37 : decode cX7_noBook 37 = .ok (.iload_n 1, 1) := by decide +kernel
theorem dX7_noBook_38 : decode cX7_noBook 38 = .ok (.iload_n 3, 1) := by decide +kernel
theorem dX7_noBook_39 : decode cX7_noBook 39 = .ok (.invokevirtual 96, 3) := by decide +kernel
theorem dX7_noBook_42 : decode cX7_noBook 42 = .ok (.ifCond .lt 8, 3) := by decide +kernel
theorem dX7_noBook_45 : decode cX7_noBook 45 = .ok (.bipush (-5), 2) := by decide +kernel
theorem dX7_noBook_47 : decode cX7_noBook 47 = .ok (.goto 4, 3) := by decide +kernel
theorem dX7_noBook_50 : decode cX7_noBook 50 = .ok (.iconst 0, 1) := by decide +kernel
theorem dX7_noBook_51 : decode cX7_noBook 51 = .ok (.ireturn, 1) := by decide +kernel
theorem dX7_doBook_0 : decode cX7_doBook 0 = .ok (.aload_n 0, 1) := by decide +kernel
theorem dX7_doBook_1 : decode cX7_doBook 1 = .ok (.getfield 7, 3) := by decide +kernel
theorem dX7_doBook_4 : decode cX7_doBook 4 = .ok (.sipush 215, 3) := by decide +kernel
theorem dX7_doBook_7 : decode cX7_doBook 7 = .ok (.bipush 21, 2) := by decide +kernel
theorem dX7_doBook_9 : decode cX7_doBook 9 = .ok (.iload_n 2, 1) := by decide +kernel
theorem dX7_doBook_10 : decode cX7_doBook 10 = .ok (.imul, 1) := by decide +kernel
theorem dX7_doBook_11 : decode cX7_doBook 11 = .ok (.iadd, 1) := by decide +kernel
theorem dX7_doBook_12 : decode cX7_doBook 12 = .ok (.iload_n 3, 1) := by decide +kernel
theorem dX7_doBook_13 : decode cX7_doBook 13 = .ok (.iadd, 1) := by decide +kernel
theorem dX7_doBook_14 : decode cX7_doBook 14 = .ok (.iload_n 1, 1) := by decide +kernel
theorem dX7_doBook_15 : decode cX7_doBook 15 = .ok (.iastore, 1) := by decide +kernel
theorem dX7_doBook_16 : decode cX7_doBook 16 = .ok (.aload_n 0, 1) := by decide +kernel
theorem dX7_doBook_17 : decode cX7_doBook 17 = .ok (.getfield 7, 3) := by decide +kernel
theorem dX7_doBook_20 : decode cX7_doBook 20 = .ok (.iconst 0, 1) := by decide +kernel
theorem dX7_doBook_21 : decode cX7_doBook 21 = .ok (.iaload, 1) := by decide +kernel
