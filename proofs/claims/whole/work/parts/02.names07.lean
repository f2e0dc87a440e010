theorem dX7_doPass_23 : decode cX7_doPass 23 = .ok (.ireturn, 1) := by decide +kernel
set_option maxRecDepth 20000 in
theorem ggX7_pass_X7_noPass : GoodIn wsX7_pass wsX7_noPass := goodIn_r _ [5, 6, 7, 8, 4, 9, 36, 37, 38, 39, 40, 41, 42, 43, 44, 45, 46, 47, 48] (by decide +kernel) (by decide +kernel)
set_option maxRecDepth 20000 in
theorem gX7_pass_X7_noPass : GoodIn wsX7_pass (wsV RX7 160 RX7 yX7_noPass wsX7_noPass) := goodIn_app (goodIn_of _ (by decide +kernel)) ggX7_pass_X7_noPass
set_option maxRecDepth 20000 in
theorem ggX7_pass_X7_record : GoodIn wsX7_pass wsX7_record := goodIn_r _ [13, 14, 15, 6, 36, 37, 38, 39, 40, 41, 42, 43, 44, 45, 46, 47, 48] (by decide +kernel) (by decide +kernel)
set_option maxRecDepth 20000 in
theorem gX7_pass_X7_record : GoodIn wsX7_pass (wsV RX7 34 RX7 yX7_record wsX7_record) := goodIn_app (goodIn_of _ (by decide +kernel)) ggX7_pass_X7_record
set_option maxRecDepth 20000 in
theorem ggX7_pass_X7_doPass : GoodIn wsX7_pass wsX7_doPass := goodIn_r _ [19, 6, 20, 21, 22, 4, 23, 24, 25, 26, 27, 28, 29, 30, 31, 32, 33, 34, 35, 36, 37, 38, 39, 40, 41, 42, 43, 44, 45, 46, 47, 48] (by decide +kernel) (by decide +kernel)
set_option maxRecDepth 20000 in
theorem gX7_pass_X7_doPass : GoodIn wsX7_pass (wsV RX7 163 RX7 yX7_doPass wsX7_doPass) := goodIn_app (goodIn_of _ (by decide +kernel)) ggX7_pass_X7_doPass
theorem dX7_pass_0 : decode cX7_pass 0 = .ok (.aload_n 0, 1) := by decide +kernel
theorem dX7_pass_1 : decode cX7_pass 1 = .ok (.iload_n 1, 1) := by decide +kernel
theorem dX7_pass_2 : decode cX7_pass 2 = .ok (.invokevirtual 160, 3) := by decide +kernel
theorem dX7_pass_5 : decode cX7_pass 5 = .ok (.istore_n 2, 1) := by decide +kernel
theorem dX7_pass_6 : decode cX7_pass 6 = .ok (.iload_n 2, 1) := by decide +kernel
theorem dX7_pass_7 : decode cX7_pass 7 = .ok (.ifCond .ge 5, 3) := by decide +kernel
theorem dX7_pass_10 : decode cX7_pass 10 = .ok (.iload_n 2, 1) := by decide +kernel
theorem dX7_pass_11 : decode cX7_pass 11 = .ok (.ireturn, 1) := by decide +kernel
theorem dX7_pass_12 : decode cX7_pass 12 = .ok (.aload_n 0, 1) := by decide +kernel
theorem dX7_pass_13 : decode cX7_pass 13 = .ok (.invokevirtual 34, 3) := by decide +kernel
theorem dX7_pass_16 : decode cX7_pass 16 = .ok (.aload_n 0, 1) := by decide +kernel
theorem dX7_pass_17 : decode cX7_pass 17 = .ok (.iload_n 1, 1) := by decide +kernel
theorem dX7_pass_18 : decode cX7_pass 18 = .ok (.invokevirtual 163, 3) := by decide +kernel
theorem dX7_pass_21 : decode cX7_pass 21 = .ok (.ireturn, 1) := by decide +kernel
set_option maxRecDepth 20000 in
theorem ggX7_of_X7_isPot : GoodIn wsX7_of wsX7_isPot := goodIn_r _ [5, 6, 7, 8, 4, 9, 14, 15, 16, 17, 18, 19, 20, 21, 22, 23, 24, 25, 26] (by decide +kernel) (by decide +kernel)
set_option maxRecDepth 20000 in
theorem gX7_of_X7_isPot : GoodIn wsX7_of (wsV RX7 120 RX7 yX7_isPot wsX7_isPot) := goodIn_app (goodIn_of _ (by decide +kernel)) ggX7_of_X7_isPot
set_option maxRecDepth 20000 in
theorem ggX7_of_X7_pot : GoodIn wsX7_of wsX7_pot := goodIn_r _ [13, 6, 14, 15, 16, 17, 18, 19, 20, 21, 22, 23, 24, 25, 26] (by decide +kernel) (by decide +kernel)
set_option maxRecDepth 20000 in
theorem gX7_of_X7_pot : GoodIn wsX7_of (wsV RX7 41 RX7 yX7_pot wsX7_pot) := goodIn_app (goodIn_of _ (by decide +kernel)) ggX7_of_X7_pot
theorem dX7_of_0 : decode cX7_of 0 = .ok (.aload_n 0, 1) := by decide +kernel
theorem dX7_of_1 : decode cX7_of 1 = .ok (.iload_n 1, 1) := by decide +kernel
theorem dX7_of_2 : decode cX7_of 2 = .ok (.invokevirtual 120, 3) := by decide +kernel
theorem dX7_of_5 : decode cX7_of 5 = .ok (.ifCond .ne 5, 3) := by decide +kernel
theorem dX7_of_8 : decode cX7_of 8 = .ok (.iconst (-1), 1) := by decide +kernel
theorem dX7_of_9 : decode cX7_of 9 = .ok (.ireturn, 1) := by decide +kernel
theorem dX7_of_10 : decode cX7_of 10 = .ok (.iload_n 2, 1) := by decide +kernel
theorem dX7_of_11 : decode cX7_of 11 = .ok (.tableswitch 144 0 8 #[49, 56, 63, 70, 77, 98, 106, 128, 136], 49) := by decide +kernel
theorem dX7_of_60 : decode cX7_of 60 = .ok (.aload_n 0, 1) := by decide +kernel
theorem dX7_of_61 : decode cX7_of 61 = .ok (.iload_n 1, 1) := by decide +kernel
theorem dX7_of_62 : decode cX7_of 62 = .ok (.iconst 0, 1) := by decide +kernel
theorem dX7_of_63 : decode cX7_of 63 = .ok (.invokevirtual 41, 3) := by decide +kernel
theorem dX7_of_66 : decode cX7_of 66 = .ok (.ireturn, 1) := by decide +kernel
theorem dX7_of_67 : decode cX7_of 67 = .ok (.aload_n 0, 1) := by decide +kernel
theorem dX7_of_68 : decode cX7_of 68 = .ok (.iload_n 1, 1) := by decide +kernel
theorem dX7_of_69 : decode cX7_of 69 = .ok (.iconst 1, 1) := by decide +kernel
theorem dX7_of_70 : decode cX7_of 70 = .ok (.invokevirtual 41, 3) := by decide +kernel
theorem dX7_of_73 : decode cX7_of 73 = .ok (.ireturn, 1) := by decide +kernel
theorem dX7_of_74 : decode cX7_of 74 = .ok (.aload_n 0, 1) := by decide +kernel
theorem dX7_of_75 : decode cX7_of 75 = .ok (.iload_n 1, 1) := by decide +kernel
theorem dX7_of_76 : decode cX7_of 76 = .ok (.iconst 3, 1) := by decide +kernel
theorem dX7_of_77 : decode cX7_of 77 = .ok (.invokevirtual 41, 3) := by decide +kernel
theorem dX7_of_80 : decode cX7_of 80 = .ok (.ireturn, 1) := by decide +kernel
theorem dX7_of_81 : decode cX7_of 81 = .ok (.aload_n 0, 1) := by decide +kernel
theorem dX7_of_82 : decode cX7_of 82 = .ok (.iload_n 1, 1) := by decide +kernel
theorem dX7_of_83 : decode cX7_of 83 = .ok (.iconst 4, 1) := by decide +kernel
theorem dX7_of_84 : decode cX7_of 84 = .ok (.invokevirtual 41, 3) := by decide +kernel
theorem dX7_of_87 : decode cX7_of 87 = .ok (.ireturn, 1) := by decide +kernel
theorem dX7_of_88 : decode cX7_of 88 = .ok (.aload_n 0, 1) := by decide +kernel
theorem dX7_of_89 : decode cX7_of 89 = .ok (.iload_n 1, 1) := by decide +kernel
theorem dX7_of_90 : decode cX7_of 90 = .ok (.iconst 4, 1) := by decide +kernel
theorem dX7_of_91 : decode cX7_of 91 = .ok (.invokevirtual 41, 3) := by decide +kernel
theorem dX7_of_94 : decode cX7_of 94 = .ok (.ifCond .ne 12, 3) := by decide +kernel
theorem dX7_of_97 : decode cX7_of 97 = .ok (.aload_n 0, 1) := by decide +kernel
theorem dX7_of_98 : decode cX7_of 98 = .ok (.iload_n 1, 1) := by decide +kernel
theorem dX7_of_99 : decode cX7_of 99 = .ok (.iconst 5, 1) := by decide +kernel
theorem dX7_of_100 : decode cX7_of 100 = .ok (.invokevirtual 41, 3) := by decide +kernel
theorem dX7_of_103 : decode cX7_of 103 = .ok (.goto 5, 3) := by decide +kernel
theorem dX7_of_106 : decode cX7_of 106 = .ok (.bipush (-6), 2) := by decide +kernel
theorem dX7_of_108 : decode cX7_of 108 = .ok (.ireturn, 1) := by decide +kernel
theorem dX7_of_109 : decode cX7_of 109 = .ok (.aload_n 0, 1) := by decide +kernel
theorem dX7_of_110 : decode cX7_of 110 = .ok (.iload_n 1, 1) := by decide +kernel
theorem dX7_of_111 : decode cX7_of 111 = .ok (.bipush 6, 2) := by decide +kernel
theorem dX7_of_113 : decode cX7_of 113 = .ok (.invokevirtual 41, 3) := by decide +kernel
theorem dX7_of_116 : decode cX7_of 116 = .ok (.ireturn, 1) := by decide +kernel
theorem dX7_of_117 : decode cX7_of 117 = .ok (.aload_n 0, 1) := by decide +kernel
theorem dX7_of_118 : decode cX7_of 118 = .ok (.iload_n 1, 1) := by decide +kernel
theorem dX7_of_119 : decode cX7_of 119 = .ok (.bipush 8, 2) := by decide +kernel
theorem dX7_of_121 : decode cX7_of 121 = .ok (.invokevirtual 41, 3) := by decide +kernel
theorem dX7_of_124 : decode cX7_of 124 = .ok (.ifCond .le 12, 3) := by decide +kernel
theorem dX7_of_127 : decode cX7_of 127 = .ok (.aload_n 0, 1) := by decide +kernel
theorem dX7_of_128 : decode cX7_of 128 = .ok (.iload_n 1, 1) := by decide +kernel
theorem dX7_of_129 : decode cX7_of 129 = .ok (.iconst 2, 1) := by decide +kernel
theorem dX7_of_130 : decode cX7_of 130 = .ok (.invokevirtual 41, 3) := by decide +kernel
theorem dX7_of_133 : decode cX7_of 133 = .ok (.goto 5, 3) := by decide +kernel
theorem dX7_of_136 : decode cX7_of 136 = .ok (.bipush (-6), 2) := by decide +kernel
theorem dX7_of_138 : decode cX7_of 138 = .ok (.ireturn, 1) := by decide +kernel
theorem dX7_of_139 : decode cX7_of 139 = .ok (.aload_n 0, 1) := by decide +kernel
theorem dX7_of_140 : decode cX7_of 140 = .ok (.iload_n 1, 1) := by decide +kernel
theorem dX7_of_141 : decode cX7_of 141 = .ok (.bipush 7, 2) := by decide +kernel
theorem dX7_of_143 : decode cX7_of 143 = .ok (.invokevirtual 41, 3) := by decide +kernel
theorem dX7_of_146 : decode cX7_of 146 = .ok (.ireturn, 1) := by decide +kernel
theorem dX7_of_147 : decode cX7_of 147 = .ok (.aload_n 0, 1) := by decide +kernel
theorem dX7_of_148 : decode cX7_of 148 = .ok (.iload_n 1, 1) := by decide +kernel
theorem dX7_of_149 : decode cX7_of 149 = .ok (.bipush 8, 2) := by decide +kernel
theorem dX7_of_151 : decode cX7_of 151 = .ok (.invokevirtual 41, 3) := by decide +kernel
theorem dX7_of_154 : decode cX7_of 154 = .ok (.ireturn, 1) := by decide +kernel
theorem dX7_of_155 : decode cX7_of 155 = .ok (.bipush (-2), 2) := by decide +kernel
theorem dX7_of_157 : decode cX7_of 157 = .ok (.ireturn, 1) := by decide +kernel
set_option maxRecDepth 20000 in
theorem ggX7_potsOf_X7_pot : GoodIn wsX7_potsOf wsX7_pot := goodIn_r _ [6, 1, 7, 8, 9, 10, 11, 12, 13, 14, 15, 16, 17, 18, 19] (by decide +kernel) (by decide +kernel)
set_option maxRecDepth 20000 in
theorem gX7_potsOf_X7_pot : GoodIn wsX7_potsOf (wsV RX7 41 RX7 yX7_pot wsX7_pot) := goodIn_app (goodIn_of _ (by decide +kernel)) ggX7_potsOf_X7_pot
theorem dX7_potsOf_0 : decode cX7_potsOf 0 = .ok (.iconst 0, 1) := by decide +kernel
theorem dX7_potsOf_1 : decode cX7_potsOf 1 = .ok (.istore_n 3, 1) := by decide +kernel
theorem dX7_potsOf_2 : decode cX7_potsOf 2 = .ok (.iconst 0, 1) := by decide +kernel
theorem dX7_potsOf_3 : decode cX7_potsOf 3 = .ok (.istore 4, 2) := by decide +kernel
theorem dX7_potsOf_5 : decode cX7_potsOf 5 = .ok (.iload 4, 2) := by decide +kernel
theorem dX7_potsOf_7 : decode cX7_potsOf 7 = .ok (.aload_n 0, 1) := by decide +kernel
theorem dX7_potsOf_8 : decode cX7_potsOf 8 = .ok (.getfield 7, 3) := by decide +kernel
theorem dX7_potsOf_11 : decode cX7_potsOf 11 = .ok (.bipush 7, 2) := by decide +kernel
theorem dX7_potsOf_13 : decode cX7_potsOf 13 = .ok (.iaload, 1) := by decide +kernel
theorem dX7_potsOf_14 : decode cX7_potsOf 14 = .ok (.if_icmp .ge 46, 3) := by decide +kernel
theorem dX7_potsOf_17 : decode cX7_potsOf 17 = .ok (.iload_n 3, 1) := by decide +kernel
theorem dX7_potsOf_18 : decode cX7_potsOf 18 = .ok (.aload_n 0, 1) := by decide +kernel
theorem dX7_potsOf_19 : decode cX7_potsOf 19 = .ok (.iload 4, 2) := by decide +kernel
theorem dX7_potsOf_21 : decode cX7_potsOf 21 = .ok (.iconst 0, 1) := by decide +kernel
theorem dX7_potsOf_22 : decode cX7_potsOf 22 = .ok (.invokevirtual 41, 3) := by decide +kernel
theorem dX7_potsOf_25 : decode cX7_potsOf 25 = .ok (.iload_n 1, 1) := by decide +kernel
theorem dX7_potsOf_26 : decode cX7_potsOf 26 = .ok (.if_icmp .ne 25, 3) := by decide +kernel
theorem dX7_potsOf_29 : decode cX7_potsOf 29 = .ok (.iload_n 2, 1) := by decide +kernel
theorem dX7_potsOf_30 : decode cX7_potsOf 30 = .ok (.ifCond .lt 14, 3) := by decide +kernel
theorem dX7_potsOf_33 : decode cX7_potsOf 33 = .ok (.aload_n 0, 1) := by decide +kernel
theorem dX7_potsOf_34 : decode cX7_potsOf 34 = .ok (.iload 4, 2) := by decide +kernel
theorem dX7_potsOf_36 : decode cX7_potsOf 36 = .ok (.iconst 3, 1) := by decide +kernel
theorem dX7_potsOf_37 : decode cX7_potsOf 37 = .ok (.invokevirtual 41, 3) := by decide +kernel
theorem dX7_potsOf_40 : decode cX7_potsOf 40 = .ok (.iload_n 2, 1) := by decide +kernel
theorem dX7_potsOf_41 : decode cX7_potsOf 41 = .ok (.if_icmp .ne 10, 3) := by decide +kernel
theorem dX7_potsOf_44 : decode cX7_potsOf 44 = .ok (.iconst 1, 1) := by decide +kernel
theorem dX7_potsOf_45 : decode cX7_potsOf 45 = .ok (.iload 4, 2) := by decide +kernel
theorem dX7_potsOf_47 : decode cX7_potsOf 47 = .ok (.ishl, 1) := by decide +kernel
theorem dX7_potsOf_48 : decode cX7_potsOf 48 = .ok (.goto 4, 3) := by decide +kernel
theorem dX7_potsOf_51 : decode cX7_potsOf 51 = .ok (.iconst 0, 1) := by decide +kernel
theorem dX7_potsOf_52 : decode cX7_potsOf 52 = .ok (.ior, 1) := by decide +kernel
theorem dX7_potsOf_53 : decode cX7_potsOf 53 = .ok (.istore_n 3, 1) := by decide +kernel
theorem dX7_potsOf_54 : decode cX7_potsOf 54 = .ok (.iinc 4 1, 3) := by decide +kernel
theorem dX7_potsOf_57 : decode cX7_potsOf 57 = .ok (.goto (-52), 3) := by decide +kernel
theorem dX7_potsOf_60 : decode cX7_potsOf 60 = .ok (.iload_n 3, 1) := by decide +kernel
theorem dX7_potsOf_61 : decode cX7_potsOf 61 = .ok (.ireturn, 1) := by decide +kernel
theorem dX7_bookings_0 : decode cX7_bookings 0 = .ok (.iconst 0, 1) := by decide +kernel
theorem dX7_bookings_1 : decode cX7_bookings 1 = .ok (.istore_n 2, 1) := by decide +kernel
theorem dX7_bookings_2 : decode cX7_bookings 2 = .ok (.iconst 0, 1) := by decide +kernel
theorem dX7_bookings_3 : decode cX7_bookings 3 = .ok (.istore_n 3, 1) := by decide +kernel
theorem dX7_bookings_4 : decode cX7_bookings 4 = .ok (.iload_n 3, 1) := by decide +kernel
theorem dX7_bookings_5 : decode cX7_bookings 5 = .ok (.bipush 105, 2) := by decide +kernel
theorem dX7_bookings_7 : decode cX7_bookings 7 = .ok (.if_icmp .ge 31, 3) := by decide +kernel
theorem dX7_bookings_10 : decode cX7_bookings 10 = .ok (.iload_n 2, 1) := by decide +kernel
theorem dX7_bookings_11 : decode cX7_bookings 11 = .ok (.aload_n 0, 1) := by decide +kernel
theorem dX7_bookings_12 : decode cX7_bookings 12 = .ok (.getfield 7, 3) := by decide +kernel
theorem dX7_bookings_15 : decode cX7_bookings 15 = .ok (.sipush 215, 3) := by decide +kernel
theorem dX7_bookings_18 : decode cX7_bookings 18 = .ok (.iload_n 3, 1) := by decide +kernel
theorem dX7_bookings_19 : decode cX7_bookings 19 = .ok (.iadd, 1) := by decide +kernel
theorem dX7_bookings_20 : decode cX7_bookings 20 = .ok (.iaload, 1) := by decide +kernel
theorem dX7_bookings_21 : decode cX7_bookings 21 = .ok (.iload_n 1, 1) := by decide +kernel
theorem dX7_bookings_22 : decode cX7_bookings 22 = .ok (.if_icmp .ne 7, 3) := by decide +kernel
theorem dX7_bookings_25 : decode cX7_bookings 25 = .ok (.iconst 1, 1) := by decide +kernel
theorem dX7_bookings_26 : decode cX7_bookings 26 = .ok (.goto 4, 3) := by decide +kernel
theorem dX7_bookings_29 : decode cX7_bookings 29 = .ok (.iconst 0, 1) := by decide +kernel
theorem dX7_bookings_30 : decode cX7_bookings 30 = .ok (.iadd, 1) := by decide +kernel
theorem dX7_bookings_31 : decode cX7_bookings 31 = .ok (.istore_n 2, 1) := by decide +kernel
theorem dX7_bookings_32 : decode cX7_bookings 32 = .ok (.iinc 3 1, 3) := by decide +kernel
theorem dX7_bookings_35 : decode cX7_bookings 35 = .ok (.goto (-31), 3) := by decide +kernel
theorem dX7_bookings_38 : decode cX7_bookings 38 = .ok (.iload_n 2, 1) := by decide +kernel
theorem dX7_bookings_39 : decode cX7_bookings 39 = .ok (.ireturn, 1) := by decide +kernel
set_option maxRecDepth 20000 in
theorem ggX7_ofPupil_X7_isPupil : GoodIn wsX7_ofPupil wsX7_isPupil := goodIn_r _ [6, 1, 7, 8, 5, 9, 30, 31, 32, 33, 34, 35, 36, 37, 38, 39, 40, 41, 42] (by decide +kernel) (by decide +kernel)
set_option maxRecDepth 20000 in
theorem gX7_ofPupil_X7_isPupil : GoodIn wsX7_ofPupil (wsV RX7 87 RX7 yX7_isPupil wsX7_isPupil) := goodIn_app (goodIn_of _ (by decide +kernel)) ggX7_ofPupil_X7_isPupil
set_option maxRecDepth 20000 in
theorem ggX7_ofPupil_X7_wheelOf : GoodIn wsX7_ofPupil wsX7_wheelOf := goodIn_r _ [13, 14, 15, 16, 5, 17, 1, 30, 31, 32, 33, 34, 35, 36, 37, 38, 39, 40, 41, 42] (by decide +kernel) (by decide +kernel)
set_option maxRecDepth 20000 in
theorem gX7_ofPupil_X7_wheelOf : GoodIn wsX7_ofPupil (wsV RX7 96 RX7 yX7_wheelOf wsX7_wheelOf) := goodIn_app (goodIn_of _ (by decide +kernel)) ggX7_ofPupil_X7_wheelOf
set_option maxRecDepth 20000 in
theorem ggX7_ofPupil_X7_potsOf : GoodIn wsX7_ofPupil wsX7_potsOf := goodIn_r _ [21, 1, 22, 23, 24, 5, 25, 30, 31, 32, 33, 34, 35, 36, 37, 38, 39, 40, 41, 42] (by decide +kernel) (by decide +kernel)
set_option maxRecDepth 20000 in
theorem gX7_ofPupil_X7_potsOf : GoodIn wsX7_ofPupil (wsV RX7 166 RX7 yX7_potsOf wsX7_potsOf) := goodIn_app (goodIn_of _ (by decide +kernel)) ggX7_ofPupil_X7_potsOf
set_option maxRecDepth 20000 in
theorem ggX7_ofPupil_X7_bookings : GoodIn wsX7_ofPupil wsX7_bookings := goodIn_r _ [29, 1, 30, 31, 32, 33, 34, 35, 36, 37, 38, 39, 40, 41, 42] (by decide +kernel) (by decide +kernel)
set_option maxRecDepth 20000 in
theorem gX7_ofPupil_X7_bookings : GoodIn wsX7_ofPupil (wsV RX7 169 RX7 yX7_bookings wsX7_bookings) := goodIn_app (goodIn_of _ (by decide +kernel)) ggX7_ofPupil_X7_bookings
theorem dX7_ofPupil_0 : decode cX7_ofPupil 0 = .ok (.aload_n 0, 1) := by decide +kernel
theorem dX7_ofPupil_1 : decode cX7_ofPupil 1 = .ok (.iload_n 1, 1) := by decide +kernel
theorem dX7_ofPupil_2 : decode cX7_ofPupil 2 = .ok (.invokevirtual 87, 3) := by decide +kernel
theorem dX7_ofPupil_5 : decode cX7_ofPupil 5 = .ok (.ifCond .ne 5, 3) := by decide +kernel
theorem dX7_ofPupil_8 : decode cX7_ofPupil 8 = .ok (.iconst (-1), 1) := by decide +kernel
theorem dX7_ofPupil_9 : decode cX7_ofPupil 9 = .ok (.ireturn, 1) := by decide +kernel
theorem dX7_ofPupil_10 : decode cX7_ofPupil 10 = .ok (.iload_n 2, 1) := by decide +kernel
theorem dX7_ofPupil_11 : decode cX7_ofPupil 11 = .ok (.tableswitch 82 0 5 #[37, 44, 52, 59, 66, 76], 37) := by decide +kernel
theorem dX7_ofPupil_48 : decode cX7_ofPupil 48 = .ok (.aload_n 0, 1) := by decide +kernel
theorem dX7_ofPupil_49 : decode cX7_ofPupil 49 = .ok (.iload_n 1, 1) := by decide +kernel
theorem dX7_ofPupil_50 : decode cX7_ofPupil 50 = .ok (.iconst 0, 1) := by decide +kernel
theorem dX7_ofPupil_51 : decode cX7_ofPupil 51 = .ok (.invokevirtual 96, 3) := by decide +kernel
theorem dX7_ofPupil_54 : decode cX7_ofPupil 54 = .ok (.ireturn, 1) := by decide +kernel
theorem dX7_ofPupil_55 : decode cX7_ofPupil 55 = .ok (.aload_n 0, 1) := by decide +kernel
theorem dX7_ofPupil_56 : decode cX7_ofPupil 56 = .ok (.iload_n 1, 1) := by decide +kernel
theorem dX7_ofPupil_57 : decode cX7_ofPupil 57 = .ok (.bipush (-6), 2) := by decide +kernel
theorem dX7_ofPupil_59 : decode cX7_ofPupil 59 = .ok (.invokevirtual 166, 3) := by decide +kernel
theorem dX7_ofPupil_62 : decode cX7_ofPupil 62 = .ok (.ireturn, 1) := by decide +kernel
theorem dX7_ofPupil_63 : decode cX7_ofPupil 63 = .ok (.aload_n 0, 1) := by decide +kernel
theorem dX7_ofPupil_64 : decode cX7_ofPupil 64 = .ok (.iload_n 1, 1) := by decide +kernel
theorem dX7_ofPupil_65 : decode cX7_ofPupil 65 = .ok (.iconst 3, 1) := by decide +kernel
theorem dX7_ofPupil_66 : decode cX7_ofPupil 66 = .ok (.invokevirtual 166, 3) := by decide +kernel
theorem dX7_ofPupil_69 : decode cX7_ofPupil 69 = .ok (.ireturn, 1) := by decide +kernel
theorem dX7_ofPupil_70 : decode cX7_ofPupil 70 = .ok (.aload_n 0, 1) := by decide +kernel
theorem dX7_ofPupil_71 : decode cX7_ofPupil 71 = .ok (.iload_n 1, 1) := by decide +kernel
theorem dX7_ofPupil_72 : decode cX7_ofPupil 72 = .ok (.iconst 4, 1) := by decide +kernel
theorem dX7_ofPupil_73 : decode cX7_ofPupil 73 = .ok (.invokevirtual 166, 3) := by decide +kernel
theorem dX7_ofPupil_76 : decode cX7_ofPupil 76 = .ok (.ireturn, 1) := by decide +kernel
theorem dX7_ofPupil_77 : decode cX7_ofPupil 77 = .ok (.aload_n 0, 1) := by decide +kernel
theorem dX7_ofPupil_78 : decode cX7_ofPupil 78 = .ok (.getfield 7, 3) := by decide +kernel
theorem dX7_ofPupil_81 : decode cX7_ofPupil 81 = .ok (.bipush 15, 2) := by decide +kernel
theorem dX7_ofPupil_83 : decode cX7_ofPupil 83 = .ok (.iload_n 1, 1) := by decide +kernel
theorem dX7_ofPupil_84 : decode cX7_ofPupil 84 = .ok (.iadd, 1) := by decide +kernel
theorem dX7_ofPupil_85 : decode cX7_ofPupil 85 = .ok (.iaload, 1) := by decide +kernel
theorem dX7_ofPupil_86 : decode cX7_ofPupil 86 = .ok (.ireturn, 1) := by decide +kernel
theorem dX7_ofPupil_87 : decode cX7_ofPupil 87 = .ok (.aload_n 0, 1) := by decide +kernel
theorem dX7_ofPupil_88 : decode cX7_ofPupil 88 = .ok (.iload_n 1, 1) := by decide +kernel
theorem dX7_ofPupil_89 : decode cX7_ofPupil 89 = .ok (.invokevirtual 169, 3) := by decide +kernel
theorem dX7_ofPupil_92 : decode cX7_ofPupil 92 = .ok (.ireturn, 1) := by decide +kernel
theorem dX7_ofPupil_93 : decode cX7_ofPupil 93 = .ok (.bipush (-2), 2) := by decide +kernel
theorem dX7_ofPupil_95 : decode cX7_ofPupil 95 = .ok (.ireturn, 1) := by decide +kernel
set_option maxRecDepth 20000 in
theorem ggX7_booked_X7_isWheel : GoodIn wsX7_booked wsX7_isWheel := goodIn_r _ [4, 5, 6, 3, 7] (by decide +kernel) (by decide +kernel)
set_option maxRecDepth 20000 in
theorem gX7_booked_X7_isWheel : GoodIn wsX7_booked (va_wsS RX7 90 yX7_isWheel wsX7_isWheel) := goodIn_app (goodIn_of _ (by decide +kernel)) ggX7_booked_X7_isWheel
set_option maxRecDepth 20000 in
theorem ggX7_booked_X7_isAhead : GoodIn wsX7_booked wsX7_isAhead := goodIn_r _ [10, 5, 6, 3, 7] (by decide +kernel) (by decide +kernel)
set_option maxRecDepth 20000 in
theorem gX7_booked_X7_isAhead : GoodIn wsX7_booked (va_wsS RX7 93 yX7_isAhead wsX7_isAhead) := goodIn_app (goodIn_of _ (by decide +kernel)) ggX7_booked_X7_isAhead
set_option maxRecDepth 20000 in
theorem ggX7_booked_X7_bookedBy : GoodIn wsX7_booked wsX7_bookedBy := goodIn_r _ [14, 15, 16, 17, 18, 19, 20, 21, 22, 23, 24, 25, 26, 27, 28] (by decide +kernel) (by decide +kernel)
set_option maxRecDepth 20000 in
theorem gX7_booked_X7_bookedBy : GoodIn wsX7_booked (wsV RX7 37 RX7 yX7_bookedBy wsX7_bookedBy) := goodIn_app (goodIn_of _ (by decide +kernel)) ggX7_booked_X7_bookedBy
theorem dX7_booked_0 : decode cX7_booked 0 = .ok (.iload_n 1, 1) := by decide +kernel
theorem dX7_booked_1 : decode cX7_booked 1 = .ok (.invokestatic 90, 3) := by decide +kernel
theorem dX7_booked_4 : decode cX7_booked 4 = .ok (.ifCond .ne 5, 3) := by decide +kernel
theorem dX7_booked_7 : decode cX7_booked 7 = .ok (.iconst (-1), 1) := by decide +kernel
theorem dX7_booked_8 : decode cX7_booked 8 = .ok (.ireturn, 1) := by decide +kernel
theorem dX7_booked_9 : decode cX7_booked 9 = .ok (.iload_n 2, 1) := by decide +kernel
theorem dX7_booked_10 : decode cX7_booked 10 = .ok (.invokestatic 93, 3) := by decide +kernel
theorem dX7_booked_13 : decode cX7_booked 13 = .ok (.ifCond .eq 12, 3) := by decide +kernel
theorem dX7_booked_16 : decode cX7_booked 16 = .ok (.aload_n 0, 1) := by decide +kernel
theorem dX7_booked_17 : decode cX7_booked 17 = .ok (.iload_n 1, 1) := by decide +kernel
theorem dX7_booked_18 : decode cX7_booked 18 = .ok (.iload_n 2, 1) := by decide +kernel
theorem dX7_booked_19 : decode cX7_booked 19 = .ok (.invokevirtual 37, 3) := by decide +kernel
theorem dX7_booked_22 : decode cX7_booked 22 = .ok (.goto 5, 3) := by decide +kernel
theorem dX7_booked_25 : decode cX7_booked 25 = .ok (.bipush (-2), 2) := by decide +kernel
theorem dX7_booked_27 : decode cX7_booked 27 = .ok (.ireturn, 1) := by decide +kernel
set_option maxRecDepth 20000 in
theorem ggX7_loadable_X7_whyNot : GoodIn wsX7_loadable wsX7_whyNot := goodIn_r _ [6, 1, 7, 8, 9, 5, 10, 11, 12, 13, 14, 15, 16, 17, 18, 19, 20, 21, 22, 23, 24, 25, 26, 27, 28, 29, 30, 31, 32, 33, 34, 35] (by decide +kernel) (by decide +kernel)
set_option maxRecDepth 20000 in
theorem gX7_loadable_X7_whyNot : GoodIn wsX7_loadable (wsV RX7 123 RX7 yX7_whyNot wsX7_whyNot) := goodIn_app (goodIn_of _ (by decide +kernel)) ggX7_loadable_X7_whyNot
theorem dX7_loadable_0 : decode cX7_loadable 0 = .ok (.iconst 0, 1) := by decide +kernel
theorem dX7_loadable_1 : decode cX7_loadable 1 = .ok (.istore_n 1, 1) := by decide +kernel
theorem dX7_loadable_2 : decode cX7_loadable 2 = .ok (.iconst 0, 1) := by decide +kernel
theorem dX7_loadable_3 : decode cX7_loadable 3 = .ok (.istore_n 2, 1) := by decide +kernel
theorem dX7_loadable_4 : decode cX7_loadable 4 = .ok (.iload_n 2, 1) := by decide +kernel
theorem dX7_loadable_5 : decode cX7_loadable 5 = .ok (.aload_n 0, 1) := by decide +kernel
theorem dX7_loadable_6 : decode cX7_loadable 6 = .ok (.getfield 7, 3) := by decide +kernel
theorem dX7_loadable_9 : decode cX7_loadable 9 = .ok (.bipush 7, 2) := by decide +kernel
theorem dX7_loadable_11 : decode cX7_loadable 11 = .ok (.iaload, 1) := by decide +kernel
theorem dX7_loadable_12 : decode cX7_loadable 12 = .ok (.if_icmp .ge 27, 3) := by decide +kernel
theorem dX7_loadable_15 : decode cX7_loadable 15 = .ok (.iload_n 1, 1) := by decide +kernel
theorem dX7_loadable_16 : decode cX7_loadable 16 = .ok (.aload_n 0, 1) := by decide +kernel
theorem dX7_loadable_17 : decode cX7_loadable 17 = .ok (.iload_n 2, 1) := by decide +kernel
theorem dX7_loadable_18 : decode cX7_loadable 18 = .ok (.invokevirtual 123, 3) := by decide +kernel
theorem dX7_loadable_21 : decode cX7_loadable 21 = .ok (.ifCond .ne 9, 3) := by decide +kernel
theorem dX7_loadable_24 : decode cX7_loadable 24 = .ok (.iconst 1, 1) := by decide +kernel
theorem dX7_loadable_25 : decode cX7_loadable 25 = .ok (.iload_n 2, 1) := by decide +kernel
theorem dX7_loadable_26 : decode cX7_loadable 26 = .ok (.ishl, 1) := by decide +kernel
theorem dX7_loadable_27 : decode cX7_loadable 27 = .ok (.goto 4, 3) := by decide +kernel
theorem dX7_loadable_30 : decode cX7_loadable 30 = .ok (.iconst 0, 1) := by decide +kernel
theorem dX7_loadable_31 : decode cX7_loadable 31 = .ok (.ior, 1) := by decide +kernel
theorem dX7_loadable_32 : decode cX7_loadable 32 = .ok (.istore_n 1, 1) := by decide +kernel
theorem dX7_loadable_33 : decode cX7_loadable 33 = .ok (.iinc 2 1, 3) := by decide +kernel
theorem dX7_loadable_36 : decode cX7_loadable 36 = .ok (.goto (-32), 3) := by decide +kernel
theorem dX7_loadable_39 : decode cX7_loadable 39 = .ok (.iload_n 1, 1) := by decide +kernel
theorem dX7_loadable_40 : decode cX7_loadable 40 = .ok (.ireturn, 1) := by decide +kernel
set_option maxRecDepth 20000 in
theorem ggX7_count_X7_in : GoodIn wsX7_count wsX7_in := goodIn_r _ [7] (by decide +kernel) (by decide +kernel)
set_option maxRecDepth 20000 in
theorem gX7_count_X7_in : GoodIn wsX7_count (va_wsS RX7 26 yX7_in wsX7_in) := goodIn_app (goodIn_of _ (by decide +kernel)) ggX7_count_X7_in
set_option maxRecDepth 20000 in
theorem ggX7_count_X7_potsAt : GoodIn wsX7_count wsX7_potsAt := goodIn_r _ [11, 1, 12, 13, 14, 6, 15, 43, 44, 45, 46, 47, 48, 49, 50, 51, 52, 53, 54, 55] (by decide +kernel) (by decide +kernel)
set_option maxRecDepth 20000 in
theorem gX7_count_X7_potsAt : GoodIn wsX7_count (wsV RX7 44 RX7 yX7_potsAt wsX7_potsAt) := goodIn_app (goodIn_of _ (by decide +kernel)) ggX7_count_X7_potsAt
set_option maxRecDepth 20000 in
theorem ggX7_count_X7_sizesInKiln : GoodIn wsX7_count wsX7_sizesInKiln := goodIn_r _ [19, 1, 12, 13, 14, 6, 15, 43, 44, 45, 46, 47, 48, 49, 50, 51, 52, 53, 54, 55] (by decide +kernel) (by decide +kernel)
set_option maxRecDepth 20000 in
theorem gX7_count_X7_sizesInKiln : GoodIn wsX7_count (wsV RX7 65 RX7 yX7_sizesInKiln wsX7_sizesInKiln) := goodIn_app (goodIn_of _ (by decide +kernel)) ggX7_count_X7_sizesInKiln
set_option maxRecDepth 20000 in
theorem ggX7_count_X7_freePlaces : GoodIn wsX7_count wsX7_freePlaces := goodIn_r _ [23, 8, 9, 10, 6, 11, 1, 12, 13, 14, 15, 24, 25, 26, 43, 44, 45, 46, 47, 48, 49, 50, 51, 52, 53, 54, 55] (by decide +kernel) (by decide +kernel)
set_option maxRecDepth 20000 in
theorem gX7_count_X7_freePlaces : GoodIn wsX7_count (wsV RX7 106 RX7 yX7_freePlaces wsX7_freePlaces) := goodIn_app (goodIn_of _ (by decide +kernel)) ggX7_count_X7_freePlaces
set_option maxRecDepth 20000 in
theorem ggX7_count_X7_loadable : GoodIn wsX7_count wsX7_loadable := goodIn_r _ [30, 1, 31, 32, 33, 6, 34, 12, 13, 14, 15, 35, 36, 37, 38, 39, 40, 41, 42, 16, 17, 18, 19, 43, 44, 45, 46, 47, 48, 49, 50, 51, 52, 53, 54, 55] (by decide +kernel) (by decide +kernel)
set_option maxRecDepth 20000 in
theorem gX7_count_X7_loadable : GoodIn wsX7_count (wsV RX7 172 RX7 yX7_loadable wsX7_loadable) := goodIn_app (goodIn_of _ (by decide +kernel)) ggX7_count_X7_loadable
theorem dX7_count_0 : decode cX7_count 0 = .ok (.iload_n 1, 1) := by decide +kernel
theorem dX7_count_1 : decode cX7_count 1 = .ok (.bipush 11, 2) := by decide +kernel
theorem dX7_count_3 : decode cX7_count 3 = .ok (.bipush 14, 2) := by decide +kernel
theorem dX7_count_5 : decode cX7_count 5 = .ok (.invokestatic 26, 3) := by decide +kernel
theorem dX7_count_8 : decode cX7_count 8 = .ok (.ifCond .eq 16, 3) := by decide +kernel
theorem dX7_count_11 : decode cX7_count 11 = .ok (.aload_n 0, 1) := by decide +kernel
theorem dX7_count_12 : decode cX7_count 12 = .ok (.getfield 7, 3) := by decide +kernel
theorem dX7_count_15 : decode cX7_count 15 = .ok (.bipush 11, 2) := by decide +kernel
theorem dX7_count_17 : decode cX7_count 17 = .ok (.iload_n 1, 1) := by decide +kernel
theorem dX7_count_18 : decode cX7_count 18 = .ok (.iadd, 1) := by decide +kernel
theorem dX7_count_19 : decode cX7_count 19 = .ok (.bipush 11, 2) := by decide +kernel
theorem dX7_count_21 : decode cX7_count 21 = .ok (.isub, 1) := by decide +kernel
theorem dX7_count_22 : decode cX7_count 22 = .ok (.iaload, 1) := by decide +kernel
theorem dX7_count_23 : decode cX7_count 23 = .ok (.ireturn, 1) := by decide +kernel
theorem dX7_count_24 : decode cX7_count 24 = .ok (.iload_n 1, 1) := by decide +kernel
theorem dX7_count_25 : decode cX7_count 25 = .ok (.bipush 15, 2) := by decide +kernel
theorem dX7_count_27 : decode cX7_count 27 = .ok (.bipush 18, 2) := by decide +kernel
theorem dX7_count_29 : decode cX7_count 29 = .ok (.invokestatic 26, 3) := by decide +kernel
theorem dX7_count_32 : decode cX7_count 32 = .ok (.ifCond .eq 15, 3) := by decide +kernel
theorem dX7_count_35 : decode cX7_count 35 = .ok (.aload_n 0, 1) := by decide +kernel
theorem dX7_count_36 : decode cX7_count 36 = .ok (.getfield 7, 3) := by decide +kernel
theorem dX7_count_39 : decode cX7_count 39 = .ok (.iconst 2, 1) := by decide +kernel
theorem dX7_count_40 : decode cX7_count 40 = .ok (.iload_n 1, 1) := by decide +kernel
theorem dX7_count_41 : decode cX7_count 41 = .ok (.iadd, 1) := by decide +kernel
theorem dX7_count_42 : decode cX7_count 42 = .ok (.bipush 15, 2) := by decide +kernel
theorem dX7_count_44 : decode cX7_count 44 = .ok (.isub, 1) := by decide +kernel
theorem dX7_count_45 : decode cX7_count 45 = .ok (.iaload, 1) := by decide +kernel
theorem dX7_count_46 : decode cX7_count 46 = .ok (.ireturn, 1) := by decide +kernel
theorem dX7_count_47 : decode cX7_count 47 = .ok (.iload_n 1, 1) := by decide +kernel
theorem dX7_count_48 : decode cX7_count 48 = .ok (.tableswitch 184 0 20 #[100, 107, 115, 123, 129, 135, 140, 145, 150, 158, 166, 184, 184, 184, 184, 184, 184, 184, 184, 174, 179], 100) := by decide +kernel
theorem dX7_count_148 : decode cX7_count 148 = .ok (.aload_n 0, 1) := by decide +kernel
theorem dX7_count_149 : decode cX7_count 149 = .ok (.getfield 7, 3) := by decide +kernel
theorem dX7_count_152 : decode cX7_count 152 = .ok (.iconst 0, 1) := by decide +kernel
theorem dX7_count_153 : decode cX7_count 153 = .ok (.iaload, 1) := by decide +kernel
theorem dX7_count_154 : decode cX7_count 154 = .ok (.ireturn, 1) := by decide +kernel
theorem dX7_count_155 : decode cX7_count 155 = .ok (.aload_n 0, 1) := by decide +kernel
theorem dX7_count_156 : decode cX7_count 156 = .ok (.getfield 7, 3) := by decide +kernel
theorem dX7_count_159 : decode cX7_count 159 = .ok (.bipush 6, 2) := by decide +kernel
theorem dX7_count_161 : decode cX7_count 161 = .ok (.iaload, 1) := by decide +kernel
theorem dX7_count_162 : decode cX7_count 162 = .ok (.ireturn, 1) := by decide +kernel
theorem dX7_count_163 : decode cX7_count 163 = .ok (.aload_n 0, 1) := by decide +kernel
theorem dX7_count_164 : decode cX7_count 164 = .ok (.getfield 7, 3) := by decide +kernel
theorem dX7_count_167 : decode cX7_count 167 = .ok (.bipush 7, 2) := by decide +kernel
theorem dX7_count_169 : decode cX7_count 169 = .ok (.iaload, 1) := by decide +kernel
theorem dX7_count_170 : decode cX7_count 170 = .ok (.ireturn, 1) := by decide +kernel
theorem dX7_count_171 : decode cX7_count 171 = .ok (.aload_n 0, 1) := by decide +kernel
theorem dX7_count_172 : decode cX7_count 172 = .ok (.iconst 0, 1) := by decide +kernel
theorem dX7_count_173 : decode cX7_count 173 = .ok (.invokevirtual 44, 3) := by decide +kernel
theorem dX7_count_176 : decode cX7_count 176 = .ok (.ireturn, 1) := by decide +kernel
theorem dX7_count_177 : decode cX7_count 177 = .ok (.aload_n 0, 1) := by decide +kernel
theorem dX7_count_178 : decode cX7_count 178 = .ok (.iconst 1, 1) := by decide +kernel
theorem dX7_count_179 : decode cX7_count 179 = .ok (.invokevirtual 44, 3) := by decide +kernel
theorem dX7_count_182 : decode cX7_count 182 = .ok (.ireturn, 1) := by decide +kernel
theorem dX7_count_183 : decode cX7_count 183 = .ok (.aload_n 0, 1) := by decide +kernel
theorem dX7_count_184 : decode cX7_count 184 = .ok (.invokevirtual 65, 3) := by decide +kernel
theorem dX7_count_187 : decode cX7_count 187 = .ok (.ireturn, 1) := by decide +kernel
theorem dX7_count_188 : decode cX7_count 188 = .ok (.aload_n 0, 1) := by decide +kernel
theorem dX7_count_189 : decode cX7_count 189 = .ok (.invokevirtual 106, 3) := by decide +kernel
theorem dX7_count_192 : decode cX7_count 192 = .ok (.ireturn, 1) := by decide +kernel
theorem dX7_count_193 : decode cX7_count 193 = .ok (.aload_n 0, 1) := by decide +kernel
theorem dX7_count_194 : decode cX7_count 194 = .ok (.invokevirtual 172, 3) := by decide +kernel
theorem dX7_count_197 : decode cX7_count 197 = .ok (.ireturn, 1) := by decide +kernel
theorem dX7_count_198 : decode cX7_count 198 = .ok (.aload_n 0, 1) := by decide +kernel
theorem dX7_count_199 : decode cX7_count 199 = .ok (.getfield 7, 3) := by decide +kernel
theorem dX7_count_202 : decode cX7_count 202 = .ok (.bipush 8, 2) := by decide +kernel
theorem dX7_count_204 : decode cX7_count 204 = .ok (.iaload, 1) := by decide +kernel
theorem dX7_count_205 : decode cX7_count 205 = .ok (.ireturn, 1) := by decide +kernel
theorem dX7_count_206 : decode cX7_count 206 = .ok (.aload_n 0, 1) := by decide +kernel
theorem dX7_count_207 : decode cX7_count 207 = .ok (.getfield 7, 3) := by decide +kernel
theorem dX7_count_210 : decode cX7_count 210 = .ok (.bipush 9, 2) := by decide +kernel
theorem dX7_count_212 : decode cX7_count 212 = .ok (.iaload, 1) := by decide +kernel
theorem dX7_count_213 : decode cX7_count 213 = .ok (.ireturn, 1) := by decide +kernel
theorem dX7_count_214 : decode cX7_count 214 = .ok (.aload_n 0, 1) := by decide +kernel
theorem dX7_count_215 : decode cX7_count 215 = .ok (.getfield 7, 3) := by decide +kernel
theorem dX7_count_218 : decode cX7_count 218 = .ok (.bipush 10, 2) := by decide +kernel
theorem dX7_count_220 : decode cX7_count 220 = .ok (.iaload, 1) := by decide +kernel
theorem dX7_count_221 : decode cX7_count 221 = .ok (.ireturn, 1) := by decide +kernel
theorem dX7_count_222 : decode cX7_count 222 = .ok (.aload_n 0, 1) := by decide +kernel
theorem dX7_count_223 : decode cX7_count 223 = .ok (.getfield 175, 3) := by decide +kernel
theorem dX7_count_226 : decode cX7_count 226 = .ok (.ireturn, 1) := by decide +kernel
theorem dX7_count_227 : decode cX7_count 227 = .ok (.aload_n 0, 1) := by decide +kernel
theorem dX7_count_228 : decode cX7_count 228 = .ok (.getfield 30, 3) := by decide +kernel
theorem dX7_count_231 : decode cX7_count 231 = .ok (.ireturn, 1) := by decide +kernel
theorem dX7_count_232 : decode cX7_count 232 = .ok (.bipush (-2), 2) := by decide +kernel
theorem dX7_count_234 : decode cX7_count 234 = .ok (.ireturn, 1) := by decide +kernel
set_option maxRecDepth 20000 in
theorem ggX7_why_X7_isPot : GoodIn wsX7_why wsX7_isPot := goodIn_r _ [5, 6, 7, 8, 4, 9, 30, 31, 32, 33, 34, 35, 36, 37, 38, 39, 40, 41, 42] (by decide +kernel) (by decide +kernel)
set_option maxRecDepth 20000 in
theorem gX7_why_X7_isPot : GoodIn wsX7_why (wsV RX7 120 RX7 yX7_isPot wsX7_isPot) := goodIn_app (goodIn_of _ (by decide +kernel)) ggX7_why_X7_isPot
set_option maxRecDepth 20000 in
theorem ggX7_why_X7_whyNot : GoodIn wsX7_why wsX7_whyNot := goodIn_r _ [13, 6, 14, 15, 16, 4, 17, 18, 19, 20, 21, 22, 23, 24, 25, 26, 27, 28, 29, 30, 31, 32, 33, 34, 35, 36, 37, 38, 39, 40, 41, 42] (by decide +kernel) (by decide +kernel)
set_option maxRecDepth 20000 in
theorem gX7_why_X7_whyNot : GoodIn wsX7_why (wsV RX7 123 RX7 yX7_whyNot wsX7_whyNot) := goodIn_app (goodIn_of _ (by decide +kernel)) ggX7_why_X7_whyNot
theorem dX7_why_0 : decode cX7_why 0 = .ok (.aload_n 0, 1) := by decide +kernel
theorem dX7_why_1 : decode cX7_why 1 = .ok (.iload_n 1, 1) := by decide +kernel
theorem dX7_why_2 : decode cX7_why 2 = .ok (.invokevirtual 120, 3) := by decide +kernel
theorem dX7_why_5 : decode cX7_why 5 = .ok (.ifCond .eq 11, 3) := by decide +kernel
theorem dX7_why_8 : decode cX7_why 8 = .ok (.aload_n 0, 1) := by decide +kernel
theorem dX7_why_9 : decode cX7_why 9 = .ok (.iload_n 1, 1) := by decide +kernel
theorem dX7_why_10 : decode cX7_why 10 = .ok (.invokevirtual 123, 3) := by decide +kernel
theorem dX7_why_13 : decode cX7_why 13 = .ok (.goto 4, 3) := by decide +kernel
theorem dX7_why_16 : decode cX7_why 16 = .ok (.iconst (-1), 1) := by decide +kernel
theorem dX7_why_17 : decode cX7_why 17 = .ok (.ireturn, 1) := by decide +kernel
set_option maxRecDepth 20000 in
theorem ggX7_dryIn_X7_isPot : GoodIn wsX7_dryIn wsX7_isPot := goodIn_r _ [5, 6, 7, 8, 4, 9, 18, 19, 20, 21, 22, 23, 24, 25, 26, 27, 28, 29, 30] (by decide +kernel) (by decide +kernel)
set_option maxRecDepth 20000 in
theorem gX7_dryIn_X7_isPot : GoodIn wsX7_dryIn (wsV RX7 120 RX7 yX7_isPot wsX7_isPot) := goodIn_app (goodIn_of _ (by decide +kernel)) ggX7_dryIn_X7_isPot
set_option maxRecDepth 20000 in
theorem ggX7_dryIn_X7_pot : GoodIn wsX7_dryIn wsX7_pot := goodIn_r _ [13, 6, 18, 19, 20, 21, 22, 23, 24, 25, 26, 27, 28, 29, 30] (by decide +kernel) (by decide +kernel)
set_option maxRecDepth 20000 in
theorem gX7_dryIn_X7_pot : GoodIn wsX7_dryIn (wsV RX7 41 RX7 yX7_pot wsX7_pot) := goodIn_app (goodIn_of _ (by decide +kernel)) ggX7_dryIn_X7_pot
set_option maxRecDepth 20000 in
theorem ggX7_dryIn_X7_toDry : GoodIn wsX7_dryIn wsX7_toDry := goodIn_r _ [17, 6, 10, 11, 12, 4, 13, 18, 19, 20, 21, 22, 23, 24, 25, 26, 27, 28, 29, 30] (by decide +kernel) (by decide +kernel)
set_option maxRecDepth 20000 in
theorem gX7_dryIn_X7_toDry : GoodIn wsX7_dryIn (wsV RX7 59 RX7 yX7_toDry wsX7_toDry) := goodIn_app (goodIn_of _ (by decide +kernel)) ggX7_dryIn_X7_toDry
theorem dX7_dryIn_0 : decode cX7_dryIn 0 = .ok (.aload_n 0, 1) := by decide +kernel
theorem dX7_dryIn_1 : decode cX7_dryIn 1 = .ok (.iload_n 1, 1) := by decide +kernel
theorem dX7_dryIn_2 : decode cX7_dryIn 2 = .ok (.invokevirtual 120, 3) := by decide +kernel
theorem dX7_dryIn_5 : decode cX7_dryIn 5 = .ok (.ifCond .ne 5, 3) := by decide +kernel
theorem dX7_dryIn_8 : decode cX7_dryIn 8 = .ok (.iconst (-1), 1) := by decide +kernel
theorem dX7_dryIn_9 : decode cX7_dryIn 9 = .ok (.ireturn, 1) := by decide +kernel
theorem dX7_dryIn_10 : decode cX7_dryIn 10 = .ok (.aload_n 0, 1) := by decide +kernel
theorem dX7_dryIn_11 : decode cX7_dryIn 11 = .ok (.iload_n 1, 1) := by decide +kernel
theorem dX7_dryIn_12 : decode cX7_dryIn 12 = .ok (.iconst 3, 1) := by decide +kernel
theorem dX7_dryIn_13 : decode cX7_dryIn 13 = .ok (.invokevirtual 41, 3) := by decide +kernel
theorem dX7_dryIn_16 : decode cX7_dryIn 16 = .ok (.ifCond .eq 5, 3) := by decide +kernel
theorem dX7_dryIn_19 : decode cX7_dryIn 19 = .ok (.iconst 0, 1) := by decide +kernel
theorem dX7_dryIn_20 : decode cX7_dryIn 20 = .ok (.ireturn, 1) := by decide +kernel
theorem dX7_dryIn_21 : decode cX7_dryIn 21 = .ok (.aload_n 0, 1) := by decide +kernel
theorem dX7_dryIn_22 : decode cX7_dryIn 22 = .ok (.iload_n 1, 1) := by decide +kernel
theorem dX7_dryIn_23 : decode cX7_dryIn 23 = .ok (.iconst 4, 1) := by decide +kernel
theorem dX7_dryIn_24 : decode cX7_dryIn 24 = .ok (.invokevirtual 41, 3) := by decide +kernel
theorem dX7_dryIn_27 : decode cX7_dryIn 27 = .ok (.ifCond .eq 6, 3) := by decide +kernel
theorem dX7_dryIn_30 : decode cX7_dryIn 30 = .ok (.bipush (-5), 2) := by decide +kernel
theorem dX7_dryIn_32 : decode cX7_dryIn 32 = .ok (.ireturn, 1) := by decide +kernel
theorem dX7_dryIn_33 : decode cX7_dryIn 33 = .ok (.aload_n 0, 1) := by decide +kernel
theorem dX7_dryIn_34 : decode cX7_dryIn 34 = .ok (.iload_n 1, 1) := by decide +kernel
theorem dX7_dryIn_35 : decode cX7_dryIn 35 = .ok (.invokevirtual 59, 3) := by decide +kernel
theorem dX7_dryIn_38 : decode cX7_dryIn 38 = .ok (.istore_n 2, 1) := by decide +kernel
theorem dX7_dryIn_39 : decode cX7_dryIn 39 = .ok (.iload_n 2, 1) := by decide +kernel
theorem dX7_dryIn_40 : decode cX7_dryIn 40 = .ok (.ifCond .gt 7, 3) := by decide +kernel
theorem dX7_dryIn_43 : decode cX7_dryIn 43 = .ok (.iconst 0, 1) := by decide +kernel
theorem dX7_dryIn_44 : decode cX7_dryIn 44 = .ok (.goto 23, 3) := by decide +kernel
theorem dX7_dryIn_47 : decode cX7_dryIn 47 = .ok (.aload_n 0, 1) := by decide +kernel
theorem dX7_dryIn_48 : decode cX7_dryIn 48 = .ok (.iload_n 1, 1) := by decide +kernel
theorem dX7_dryIn_49 : decode cX7_dryIn 49 = .ok (.iconst 5, 1) := by decide +kernel
theorem dX7_dryIn_50 : decode cX7_dryIn 50 = .ok (.invokevirtual 41, 3) := by decide +kernel
theorem dX7_dryIn_53 : decode cX7_dryIn 53 = .ok (.bipush 8, 2) := by decide +kernel
theorem dX7_dryIn_55 : decode cX7_dryIn 55 = .ok (.if_icmp .ge 11, 3) := by decide +kernel
theorem dX7_dryIn_58 : decode cX7_dryIn 58 = .ok (.iload_n 2, 1) := by decide +kernel
theorem dX7_dryIn_59 : decode cX7_dryIn 59 = .ok (.iconst 1, 1) := by decide +kernel
theorem dX7_dryIn_60 : decode cX7_dryIn 60 = .ok (.iadd, 1) := by decide +kernel
theorem dX7_dryIn_61 : decode cX7_dryIn 61 = .ok (.iconst 2, 1) := by decide +kernel
theorem dX7_dryIn_62 : decode cX7_dryIn 62 = .ok (.idiv, 1) := by decide +kernel
theorem dX7_dryIn_63 : decode cX7_dryIn 63 = .ok (.goto 4, 3) := by decide +kernel
theorem dX7_dryIn_66 : decode cX7_dryIn 66 = .ok (.iload_n 2, 1) := by decide +kernel
theorem dX7_dryIn_67 : decode cX7_dryIn 67 = .ok (.ireturn, 1) := by decide +kernel
set_option maxRecDepth 20000 in
theorem ggX7_ifFired_X7_in : GoodIn wsX7_ifFired wsX7_in := goodIn_r _ [4] (by decide +kernel) (by decide +kernel)
set_option maxRecDepth 20000 in
theorem gX7_ifFired_X7_in : GoodIn wsX7_ifFired (va_wsS RX7 26 yX7_in wsX7_in) := goodIn_app (goodIn_of _ (by decide +kernel)) ggX7_ifFired_X7_in
set_option maxRecDepth 20000 in
theorem ggX7_ifFired_X7_firedTo : GoodIn wsX7_ifFired wsX7_firedTo := goodIn_r _ [8, 9, 10, 11, 12, 3, 13, 14, 15, 16, 17, 18, 19, 20, 25, 26, 27, 28, 29, 30, 31, 32, 33, 34, 35, 36, 37] (by decide +kernel) (by decide +kernel)
set_option maxRecDepth 20000 in
theorem gX7_ifFired_X7_firedTo : GoodIn wsX7_ifFired (wsV RX7 132 RX7 yX7_firedTo wsX7_firedTo) := goodIn_app (goodIn_of _ (by decide +kernel)) ggX7_ifFired_X7_firedTo
set_option maxRecDepth 20000 in
theorem ggX7_ifFired_X7_potsAt : GoodIn wsX7_ifFired wsX7_potsAt := goodIn_r _ [24, 9, 10, 11, 12, 3, 13, 25, 26, 27, 28, 29, 30, 31, 32, 33, 34, 35, 36, 37] (by decide +kernel) (by decide +kernel)
set_option maxRecDepth 20000 in
theorem gX7_ifFired_X7_potsAt : GoodIn wsX7_ifFired (wsV RX7 44 RX7 yX7_potsAt wsX7_potsAt) := goodIn_app (goodIn_of _ (by decide +kernel)) ggX7_ifFired_X7_potsAt
theorem dX7_ifFired_0 : decode cX7_ifFired 0 = .ok (.iload_n 1, 1) := by decide +kernel
theorem dX7_ifFired_1 : decode cX7_ifFired 1 = .ok (.bipush 80, 2) := by decide +kernel
theorem dX7_ifFired_3 : decode cX7_ifFired 3 = .ok (.sipush 140, 3) := by decide +kernel
theorem dX7_ifFired_6 : decode cX7_ifFired 6 = .ok (.invokestatic 26, 3) := by decide +kernel
theorem dX7_ifFired_9 : decode cX7_ifFired 9 = .ok (.ifCond .eq 12, 3) := by decide +kernel
theorem dX7_ifFired_12 : decode cX7_ifFired 12 = .ok (.iload_n 2, 1) := by decide +kernel
theorem dX7_ifFired_13 : decode cX7_ifFired 13 = .ok (.iconst 0, 1) := by decide +kernel
theorem dX7_ifFired_14 : decode cX7_ifFired 14 = .ok (.iconst 3, 1) := by decide +kernel
theorem dX7_ifFired_15 : decode cX7_ifFired 15 = .ok (.invokestatic 26, 3) := by decide +kernel
theorem dX7_ifFired_18 : decode cX7_ifFired 18 = .ok (.ifCond .ne 6, 3) := by decide +kernel
theorem dX7_ifFired_21 : decode cX7_ifFired 21 = .ok (.bipush (-2), 2) := by decide +kernel
theorem dX7_ifFired_23 : decode cX7_ifFired 23 = .ok (.ireturn, 1) := by decide +kernel
theorem dX7_ifFired_24 : decode cX7_ifFired 24 = .ok (.aload_n 0, 1) := by decide +kernel
theorem dX7_ifFired_25 : decode cX7_ifFired 25 = .ok (.iload_n 1, 1) := by decide +kernel
theorem dX7_ifFired_26 : decode cX7_ifFired 26 = .ok (.iconst 4, 1) := by decide +kernel
theorem dX7_ifFired_27 : decode cX7_ifFired 27 = .ok (.iconst 1, 1) := by decide +kernel
theorem dX7_ifFired_28 : decode cX7_ifFired 28 = .ok (.invokevirtual 132, 3) := by decide +kernel
theorem dX7_ifFired_31 : decode cX7_ifFired 31 = .ok (.istore_n 3, 1) := by decide +kernel
theorem dX7_ifFired_32 : decode cX7_ifFired 32 = .ok (.aload_n 0, 1) := by decide +kernel
theorem dX7_ifFired_33 : decode cX7_ifFired 33 = .ok (.iload_n 1, 1) := by decide +kernel
theorem dX7_ifFired_34 : decode cX7_ifFired 34 = .ok (.iconst 1, 1) := by decide +kernel
theorem dX7_ifFired_35 : decode cX7_ifFired 35 = .ok (.iconst 1, 1) := by decide +kernel
theorem dX7_ifFired_36 : decode cX7_ifFired 36 = .ok (.invokevirtual 132, 3) := by decide +kernel
theorem dX7_ifFired_39 : decode cX7_ifFired 39 = .ok (.istore 4, 2) := by decide +kernel
theorem dX7_ifFired_41 : decode cX7_ifFired 41 = .ok (.aload_n 0, 1) := by decide +kernel
theorem dX7_ifFired_42 : decode cX7_ifFired 42 = .ok (.iload_n 1, 1) := by decide +kernel
theorem dX7_ifFired_43 : decode cX7_ifFired 43 = .ok (.iconst 3, 1) := by decide +kernel
theorem dX7_ifFired_44 : decode cX7_ifFired 44 = .ok (.iconst 1, 1) := by decide +kernel
theorem dX7_ifFired_45 : decode cX7_ifFired 45 = .ok (.invokevirtual 132, 3) := by decide +kernel
theorem dX7_ifFired_48 : decode cX7_ifFired 48 = .ok (.istore 5, 2) := by decide +kernel
theorem dX7_ifFired_50 : decode cX7_ifFired 50 = .ok (.iload_n 2, 1) := by decide +kernel
theorem dX7_ifFired_51 : decode cX7_ifFired 51 = .ok (.ifCond .ne 7, 3) := by decide +kernel
theorem dX7_ifFired_54 : decode cX7_ifFired 54 = .ok (.iload_n 3, 1) := by decide +kernel
theorem dX7_ifFired_55 : decode cX7_ifFired 55 = .ok (.goto 42, 3) := by decide +kernel
theorem dX7_ifFired_58 : decode cX7_ifFired 58 = .ok (.iload_n 2, 1) := by decide +kernel
theorem dX7_ifFired_59 : decode cX7_ifFired 59 = .ok (.iconst 1, 1) := by decide +kernel
theorem dX7_ifFired_60 : decode cX7_ifFired 60 = .ok (.if_icmp .ne 8, 3) := by decide +kernel
theorem dX7_ifFired_63 : decode cX7_ifFired 63 = .ok (.iload 4, 2) := by decide +kernel
theorem dX7_ifFired_65 : decode cX7_ifFired 65 = .ok (.goto 32, 3) := by decide +kernel
theorem dX7_ifFired_68 : decode cX7_ifFired 68 = .ok (.iload_n 2, 1) := by decide +kernel
theorem dX7_ifFired_69 : decode cX7_ifFired 69 = .ok (.iconst 2, 1) := by decide +kernel
theorem dX7_ifFired_70 : decode cX7_ifFired 70 = .ok (.if_icmp .ne 8, 3) := by decide +kernel
theorem dX7_ifFired_73 : decode cX7_ifFired 73 = .ok (.iload 5, 2) := by decide +kernel
theorem dX7_ifFired_75 : decode cX7_ifFired 75 = .ok (.goto 22, 3) := by decide +kernel
theorem dX7_ifFired_78 : decode cX7_ifFired 78 = .ok (.aload_n 0, 1) := by decide +kernel
theorem dX7_ifFired_79 : decode cX7_ifFired 79 = .ok (.iconst 1, 1) := by decide +kernel
theorem dX7_ifFired_80 : decode cX7_ifFired 80 = .ok (.invokevirtual 44, 3) := by decide +kernel
theorem dX7_ifFired_83 : decode cX7_ifFired 83 = .ok (.iload_n 3, 1) := by decide +kernel
theorem dX7_ifFired_84 : decode cX7_ifFired 84 = .ok (.iconst (-1), 1) := by decide +kernel
theorem dX7_ifFired_85 : decode cX7_ifFired 85 = .ok (.ixor, 1) := by decide +kernel
theorem dX7_ifFired_86 : decode cX7_ifFired 86 = .ok (.iand, 1) := by decide +kernel
theorem dX7_ifFired_87 : decode cX7_ifFired 87 = .ok (.iload 4, 2) := by decide +kernel
theorem dX7_ifFired_89 : decode cX7_ifFired 89 = .ok (.iconst (-1), 1) := by decide +kernel
theorem dX7_ifFired_90 : decode cX7_ifFired 90 = .ok (.ixor, 1) := by decide +kernel
theorem dX7_ifFired_91 : decode cX7_ifFired 91 = .ok (.iand, 1) := by decide +kernel
theorem dX7_ifFired_92 : decode cX7_ifFired 92 = .ok (.iload 5, 2) := by decide +kernel
theorem dX7_ifFired_94 : decode cX7_ifFired 94 = .ok (.iconst (-1), 1) := by decide +kernel
theorem dX7_ifFired_95 : decode cX7_ifFired 95 = .ok (.ixor, 1) := by decide +kernel
theorem dX7_ifFired_96 : decode cX7_ifFired 96 = .ok (.iand, 1) := by decide +kernel
theorem dX7_ifFired_97 : decode cX7_ifFired 97 = .ok (.ireturn, 1) := by decide +kernel
set_option maxRecDepth 20000 in
theorem ggX7_comeOn_X7_pot : GoodIn wsX7_comeOn wsX7_pot := goodIn_r _ [6, 1, 14, 15, 16, 17, 18, 19, 20, 21, 22, 23, 24, 25, 26] (by decide +kernel) (by decide +kernel)
set_option maxRecDepth 20000 in
theorem gX7_comeOn_X7_pot : GoodIn wsX7_comeOn (wsV RX7 41 RX7 yX7_pot wsX7_pot) := goodIn_app (goodIn_of _ (by decide +kernel)) ggX7_comeOn_X7_pot
set_option maxRecDepth 20000 in
theorem ggX7_comeOn_X7_fired : GoodIn wsX7_comeOn wsX7_fired := goodIn_r _ [10, 1, 2, 3, 4, 5, 6, 11, 12, 13, 14, 15, 16, 17, 18, 19, 20, 21, 22, 23, 24, 25, 26] (by decide +kernel) (by decide +kernel)
set_option maxRecDepth 20000 in
theorem gX7_comeOn_X7_fired : GoodIn wsX7_comeOn (wsV RX7 72 RX7 yX7_fired wsX7_fired) := goodIn_app (goodIn_of _ (by decide +kernel)) ggX7_comeOn_X7_fired
theorem dX7_comeOn_0 : decode cX7_comeOn 0 = .ok (.iconst 0, 1) := by decide +kernel
theorem dX7_comeOn_1 : decode cX7_comeOn 1 = .ok (.istore_n 2, 1) := by decide +kernel
theorem dX7_comeOn_2 : decode cX7_comeOn 2 = .ok (.iconst 0, 1) := by decide +kernel
theorem dX7_comeOn_3 : decode cX7_comeOn 3 = .ok (.istore_n 3, 1) := by decide +kernel
theorem dX7_comeOn_4 : decode cX7_comeOn 4 = .ok (.iload_n 3, 1) := by decide +kernel
theorem dX7_comeOn_5 : decode cX7_comeOn 5 = .ok (.aload_n 0, 1) := by decide +kernel
theorem dX7_comeOn_6 : decode cX7_comeOn 6 = .ok (.getfield 7, 3) := by decide +kernel
theorem dX7_comeOn_9 : decode cX7_comeOn 9 = .ok (.bipush 7, 2) := by decide +kernel
theorem dX7_comeOn_11 : decode cX7_comeOn 11 = .ok (.iaload, 1) := by decide +kernel
theorem dX7_comeOn_12 : decode cX7_comeOn 12 = .ok (.if_icmp .ge 44, 3) := by decide +kernel
theorem dX7_comeOn_15 : decode cX7_comeOn 15 = .ok (.iload_n 2, 1) := by decide +kernel
theorem dX7_comeOn_16 : decode cX7_comeOn 16 = .ok (.aload_n 0, 1) := by decide +kernel
theorem dX7_comeOn_17 : decode cX7_comeOn 17 = .ok (.iload_n 3, 1) := by decide +kernel
theorem dX7_comeOn_18 : decode cX7_comeOn 18 = .ok (.iconst 4, 1) := by decide +kernel
theorem dX7_comeOn_19 : decode cX7_comeOn 19 = .ok (.invokevirtual 41, 3) := by decide +kernel
theorem dX7_comeOn_22 : decode cX7_comeOn 22 = .ok (.iconst 1, 1) := by decide +kernel
theorem dX7_comeOn_23 : decode cX7_comeOn 23 = .ok (.if_icmp .ne 24, 3) := by decide +kernel
theorem dX7_comeOn_26 : decode cX7_comeOn 26 = .ok (.aload_n 0, 1) := by decide +kernel
theorem dX7_comeOn_27 : decode cX7_comeOn 27 = .ok (.iload_n 3, 1) := by decide +kernel
theorem dX7_comeOn_28 : decode cX7_comeOn 28 = .ok (.iload_n 1, 1) := by decide +kernel
theorem dX7_comeOn_29 : decode cX7_comeOn 29 = .ok (.invokevirtual 72, 3) := by decide +kernel
theorem dX7_comeOn_32 : decode cX7_comeOn 32 = .ok (.aload_n 0, 1) := by decide +kernel
theorem dX7_comeOn_33 : decode cX7_comeOn 33 = .ok (.iload_n 3, 1) := by decide +kernel
theorem dX7_comeOn_34 : decode cX7_comeOn 34 = .ok (.iconst 3, 1) := by decide +kernel
theorem dX7_comeOn_35 : decode cX7_comeOn 35 = .ok (.invokevirtual 41, 3) := by decide +kernel
theorem dX7_comeOn_38 : decode cX7_comeOn 38 = .ok (.iconst 1, 1) := by decide +kernel
theorem dX7_comeOn_39 : decode cX7_comeOn 39 = .ok (.iadd, 1) := by decide +kernel
theorem dX7_comeOn_40 : decode cX7_comeOn 40 = .ok (.if_icmp .ne 7, 3) := by decide +kernel
theorem dX7_comeOn_43 : decode cX7_comeOn 43 = .ok (.iconst 1, 1) := by decide +kernel
theorem dX7_comeOn_44 : decode cX7_comeOn 44 = .ok (.goto 4, 3) := by decide +kernel
theorem dX7_comeOn_47 : decode cX7_comeOn 47 = .ok (.iconst 0, 1) := by decide +kernel
theorem dX7_comeOn_48 : decode cX7_comeOn 48 = .ok (.iadd, 1) := by decide +kernel
theorem dX7_comeOn_49 : decode cX7_comeOn 49 = .ok (.istore_n 2, 1) := by decide +kernel
theorem dX7_comeOn_50 : decode cX7_comeOn 50 = .ok (.iinc 3 1, 3) := by decide +kernel
theorem dX7_comeOn_53 : decode cX7_comeOn 53 = .ok (.goto (-49), 3) := by decide +kernel
theorem dX7_comeOn_56 : decode cX7_comeOn 56 = .ok (.iload_n 2, 1) := by decide +kernel
theorem dX7_comeOn_57 : decode cX7_comeOn 57 = .ok (.ireturn, 1) := by decide +kernel
set_option maxRecDepth 20000 in
theorem ggX7_bestHeat_X7_potsAt : GoodIn wsX7_bestHeat wsX7_potsAt := goodIn_r _ [5, 6, 7, 8, 9, 4, 10, 29, 30, 31, 32, 33, 34, 35, 36, 37, 38, 39, 40, 41] (by decide +kernel) (by decide +kernel)
set_option maxRecDepth 20000 in
theorem gX7_bestHeat_X7_potsAt : GoodIn wsX7_bestHeat (wsV RX7 44 RX7 yX7_potsAt wsX7_potsAt) := goodIn_app (goodIn_of _ (by decide +kernel)) ggX7_bestHeat_X7_potsAt
set_option maxRecDepth 20000 in
theorem ggX7_bestHeat_X7_comeOn : GoodIn wsX7_bestHeat wsX7_comeOn := goodIn_r _ [14, 6, 7, 8, 9, 4, 10, 15, 16, 17, 18, 19, 20, 21, 29, 30, 31, 32, 33, 34, 35, 36, 37, 38, 39, 40, 41] (by decide +kernel) (by decide +kernel)
set_option maxRecDepth 20000 in
theorem gX7_bestHeat_X7_comeOn : GoodIn wsX7_bestHeat (wsV RX7 178 RX7 yX7_comeOn wsX7_comeOn) := goodIn_app (goodIn_of _ (by decide +kernel)) ggX7_bestHeat_X7_comeOn
set_option maxRecDepth 20000 in
theorem ggX7_bestHeat_X7_firedTo : GoodIn wsX7_bestHeat wsX7_firedTo := goodIn_r _ [25, 6, 7, 8, 9, 4, 10, 15, 16, 17, 18, 19, 20, 21, 29, 30, 31, 32, 33, 34, 35, 36, 37, 38, 39, 40, 41] (by decide +kernel) (by decide +kernel)
set_option maxRecDepth 20000 in
theorem gX7_bestHeat_X7_firedTo : GoodIn wsX7_bestHeat (wsV RX7 132 RX7 yX7_firedTo wsX7_firedTo) := goodIn_app (goodIn_of _ (by decide +kernel)) ggX7_bestHeat_X7_firedTo
set_option maxRecDepth 20000 in
theorem ggX7_bestHeat_X7_ones : GoodIn wsX7_bestHeat wsX7_ones := goodIn_r _ [28] (by decide +kernel) (by decide +kernel)
set_option maxRecDepth 20000 in
theorem gX7_bestHeat_X7_ones : GoodIn wsX7_bestHeat (va_wsS RX7 48 yX7_ones wsX7_ones) := goodIn_app (goodIn_of _ (by decide +kernel)) ggX7_bestHeat_X7_ones
theorem dX7_bestHeat_0 : decode cX7_bestHeat 0 = .ok (.bipush (-6), 2) := by decide +kernel
theorem dX7_bestHeat_2 : decode cX7_bestHeat 2 = .ok (.istore_n 1, 1) := by decide +kernel
theorem dX7_bestHeat_3 : decode cX7_bestHeat 3 = .ok (.iconst 0, 1) := by decide +kernel
theorem dX7_bestHeat_4 : decode cX7_bestHeat 4 = .ok (.istore_n 2, 1) := by decide +kernel
theorem dX7_bestHeat_5 : decode cX7_bestHeat 5 = .ok (.iconst 0, 1) := by decide +kernel
theorem dX7_bestHeat_6 : decode cX7_bestHeat 6 = .ok (.istore_n 3, 1) := by decide +kernel
theorem dX7_bestHeat_7 : decode cX7_bestHeat 7 = .ok (.bipush 80, 2) := by decide +kernel
theorem dX7_bestHeat_9 : decode cX7_bestHeat 9 = .ok (.istore 4, 2) := by decide +kernel
theorem dX7_bestHeat_11 : decode cX7_bestHeat 11 = .ok (.iload 4, 2) := by decide +kernel
theorem dX7_bestHeat_13 : decode cX7_bestHeat 13 = .ok (.sipush 140, 3) := by decide +kernel
theorem dX7_bestHeat_16 : decode cX7_bestHeat 16 = .ok (.if_icmp .gt 69, 3) := by decide +kernel
theorem dX7_bestHeat_19 : decode cX7_bestHeat 19 = .ok (.aload_n 0, 1) := by decide +kernel
theorem dX7_bestHeat_20 : decode cX7_bestHeat 20 = .ok (.iconst 1, 1) := by decide +kernel
theorem dX7_bestHeat_21 : decode cX7_bestHeat 21 = .ok (.invokevirtual 44, 3) := by decide +kernel
theorem dX7_bestHeat_24 : decode cX7_bestHeat 24 = .ok (.ifCond .eq 61, 3) := by decide +kernel
theorem dX7_bestHeat_27 : decode cX7_bestHeat 27 = .ok (.aload_n 0, 1) := by decide +kernel
theorem dX7_bestHeat_28 : decode cX7_bestHeat 28 = .ok (.iload 4, 2) := by decide +kernel
theorem dX7_bestHeat_30 : decode cX7_bestHeat 30 = .ok (.invokevirtual 178, 3) := by decide +kernel
theorem dX7_bestHeat_33 : decode cX7_bestHeat 33 = .ok (.istore 5, 2) := by decide +kernel
theorem dX7_bestHeat_35 : decode cX7_bestHeat 35 = .ok (.aload_n 0, 1) := by decide +kernel
theorem dX7_bestHeat_36 : decode cX7_bestHeat 36 = .ok (.iload 4, 2) := by decide +kernel
theorem dX7_bestHeat_38 : decode cX7_bestHeat 38 = .ok (.iconst 4, 1) := by decide +kernel
theorem dX7_bestHeat_39 : decode cX7_bestHeat 39 = .ok (.iconst 1, 1) := by decide +kernel
theorem dX7_bestHeat_40 : decode cX7_bestHeat 40 = .ok (.invokevirtual 132, 3) := by decide +kernel
theorem dX7_bestHeat_43 : decode cX7_bestHeat 43 = .ok (.invokestatic 48, 3) := by decide +kernel
theorem dX7_bestHeat_46 : decode cX7_bestHeat 46 = .ok (.istore 6, 2) := by decide +kernel
theorem dX7_bestHeat_48 : decode cX7_bestHeat 48 = .ok (.iload_n 1, 1) := by decide +kernel
theorem dX7_bestHeat_49 : decode cX7_bestHeat 49 = .ok (.ifCond .lt 21, 3) := by decide +kernel
theorem dX7_bestHeat_52 : decode cX7_bestHeat 52 = .ok (.iload 5, 2) := by decide +kernel
theorem dX7_bestHeat_54 : decode cX7_bestHeat 54 = .ok (.iload_n 2, 1) := by decide +kernel
theorem dX7_bestHeat_55 : decode cX7_bestHeat 55 = .ok (.if_icmp .gt 15, 3) := by decide +kernel
theorem dX7_bestHeat_58 : decode cX7_bestHeat 58 = .ok (.iload 5, 2) := by decide +kernel
theorem dX7_bestHeat_60 : decode cX7_bestHeat 60 = .ok (.iload_n 2, 1) := by decide +kernel
theorem dX7_bestHeat_61 : decode cX7_bestHeat 61 = .ok (.if_icmp .ne 18, 3) := by decide +kernel
theorem dX7_bestHeat_64 : decode cX7_bestHeat 64 = .ok (.iload 6, 2) := by decide +kernel
theorem dX7_bestHeat_66 : decode cX7_bestHeat 66 = .ok (.iload_n 3, 1) := by decide +kernel
theorem dX7_bestHeat_67 : decode cX7_bestHeat 67 = .ok (.if_icmp .ge 12, 3) := by decide +kernel
theorem dX7_bestHeat_70 : decode cX7_bestHeat 70 = .ok (.iload 4, 2) := by decide +kernel
theorem dX7_bestHeat_72 : decode cX7_bestHeat 72 = .ok (.istore_n 1, 1) := by decide +kernel
theorem dX7_bestHeat_73 : decode cX7_bestHeat 73 = .ok (.iload 5, 2) := by decide +kernel
theorem dX7_bestHeat_75 : decode cX7_bestHeat 75 = .ok (.istore_n 2, 1) := by decide +kernel
theorem dX7_bestHeat_76 : decode cX7_bestHeat 76 = .ok (.iload 6, 2) := by decide +kernel
theorem dX7_bestHeat_78 : decode cX7_bestHeat 78 = .ok (.istore_n 3, 1) := by decide +kernel
theorem dX7_bestHeat_79 : decode cX7_bestHeat 79 = .ok (.iinc 4 1, 3) := by decide +kernel
theorem dX7_bestHeat_82 : decode cX7_bestHeat 82 = .ok (.goto (-71), 3) := by decide +kernel
theorem dX7_bestHeat_85 : decode cX7_bestHeat 85 = .ok (.iload_n 1, 1) := by decide +kernel
theorem dX7_bestHeat_86 : decode cX7_bestHeat 86 = .ok (.ireturn, 1) := by decide +kernel
set_option maxRecDepth 20000 in
theorem ggX7_firstFree_X7_isPupil : GoodIn wsX7_firstFree wsX7_isPupil := goodIn_r _ [6, 1, 7, 8, 5, 9, 18, 19, 20, 21, 22, 23, 24, 25, 26, 27, 28, 29, 30] (by decide +kernel) (by decide +kernel)
set_option maxRecDepth 20000 in
theorem gX7_firstFree_X7_isPupil : GoodIn wsX7_firstFree (wsV RX7 87 RX7 yX7_isPupil wsX7_isPupil) := goodIn_app (goodIn_of _ (by decide +kernel)) ggX7_firstFree_X7_isPupil
set_option maxRecDepth 20000 in
theorem ggX7_firstFree_X7_in : GoodIn wsX7_firstFree wsX7_in := goodIn_r _ [9] (by decide +kernel) (by decide +kernel)
set_option maxRecDepth 20000 in
theorem gX7_firstFree_X7_in : GoodIn wsX7_firstFree (va_wsS RX7 26 yX7_in wsX7_in) := goodIn_app (goodIn_of _ (by decide +kernel)) ggX7_firstFree_X7_in
set_option maxRecDepth 20000 in
theorem ggX7_firstFree_X7_bookedBy : GoodIn wsX7_firstFree wsX7_bookedBy := goodIn_r _ [13, 1, 18, 19, 20, 21, 22, 23, 24, 25, 26, 27, 28, 29, 30] (by decide +kernel) (by decide +kernel)
set_option maxRecDepth 20000 in
theorem gX7_firstFree_X7_bookedBy : GoodIn wsX7_firstFree (wsV RX7 37 RX7 yX7_bookedBy wsX7_bookedBy) := goodIn_app (goodIn_of _ (by decide +kernel)) ggX7_firstFree_X7_bookedBy
set_option maxRecDepth 20000 in
theorem ggX7_firstFree_X7_wheelOf : GoodIn wsX7_firstFree wsX7_wheelOf := goodIn_r _ [17, 10, 11, 12, 5, 13, 1, 18, 19, 20, 21, 22, 23, 24, 25, 26, 27, 28, 29, 30] (by decide +kernel) (by decide +kernel)
set_option maxRecDepth 20000 in
theorem gX7_firstFree_X7_wheelOf : GoodIn wsX7_firstFree (wsV RX7 96 RX7 yX7_wheelOf wsX7_wheelOf) := goodIn_app (goodIn_of _ (by decide +kernel)) ggX7_firstFree_X7_wheelOf
theorem dX7_firstFree_0 : decode cX7_firstFree 0 = .ok (.aload_n 0, 1) := by decide +kernel
theorem dX7_firstFree_1 : decode cX7_firstFree 1 = .ok (.iload_n 1, 1) := by decide +kernel
theorem dX7_firstFree_2 : decode cX7_firstFree 2 = .ok (.invokevirtual 87, 3) := by decide +kernel
theorem dX7_firstFree_5 : decode cX7_firstFree 5 = .ok (.ifCond .ne 5, 3) := by decide +kernel
theorem dX7_firstFree_8 : decode cX7_firstFree 8 = .ok (.iconst (-1), 1) := by decide +kernel
theorem dX7_firstFree_9 : decode cX7_firstFree 9 = .ok (.ireturn, 1) := by decide +kernel
theorem dX7_firstFree_10 : decode cX7_firstFree 10 = .ok (.iload_n 2, 1) := by decide +kernel
theorem dX7_firstFree_11 : decode cX7_firstFree 11 = .ok (.iconst 0, 1) := by decide +kernel
theorem dX7_firstFree_12 : decode cX7_firstFree 12 = .ok (.iconst 1, 1) := by decide +kernel
theorem dX7_firstFree_13 : decode cX7_firstFree 13 = .ok (.invokestatic 26, 3) := by decide +kernel
theorem dX7_firstFree_16 : decode cX7_firstFree 16 = .ok (.ifCond .ne 6, 3) := by decide +kernel
theorem dX7_firstFree_19 : decode cX7_firstFree 19 = .ok (.bipush (-2), 2) := by decide +kernel
theorem dX7_firstFree_21 : decode cX7_firstFree 21 = .ok (.ireturn, 1) := by decide +kernel
theorem dX7_firstFree_22 : decode cX7_firstFree 22 = .ok (.bipush (-6), 2) := by decide +kernel
theorem dX7_firstFree_24 : decode cX7_firstFree 24 = .ok (.istore_n 3, 1) := by decide +kernel
theorem dX7_firstFree_25 : decode cX7_firstFree 25 = .ok (.bipush 20, 2) := by decide +kernel
theorem dX7_firstFree_27 : decode cX7_firstFree 27 = .ok (.istore 4, 2) := by decide +kernel
theorem dX7_firstFree_29 : decode cX7_firstFree 29 = .ok (.iload 4, 2) := by decide +kernel
theorem dX7_firstFree_31 : decode cX7_firstFree 31 = .ok (.ifCond .lt 79, 3) := by decide +kernel
theorem dX7_firstFree_34 : decode cX7_firstFree 34 = .ok (.iconst 4, 1) := by decide +kernel
theorem dX7_firstFree_35 : decode cX7_firstFree 35 = .ok (.istore 5, 2) := by decide +kernel
theorem dX7_firstFree_37 : decode cX7_firstFree 37 = .ok (.iload 5, 2) := by decide +kernel
theorem dX7_firstFree_39 : decode cX7_firstFree 39 = .ok (.ifCond .lt 65, 3) := by decide +kernel
theorem dX7_firstFree_42 : decode cX7_firstFree 42 = .ok (.aload_n 0, 1) := by decide +kernel
theorem dX7_firstFree_43 : decode cX7_firstFree 43 = .ok (.iload 5, 2) := by decide +kernel
theorem dX7_firstFree_45 : decode cX7_firstFree 45 = .ok (.iload 4, 2) := by decide +kernel
theorem dX7_firstFree_47 : decode cX7_firstFree 47 = .ok (.invokevirtual 37, 3) := by decide +kernel
theorem dX7_firstFree_50 : decode cX7_firstFree 50 = .ok (.ifCond .ge 17, 3) := by decide +kernel
theorem dX7_firstFree_53 : decode cX7_firstFree 53 = .ok (.aload_n 0, 1) := by decide +kernel
theorem dX7_firstFree_54 : decode cX7_firstFree 54 = .ok (.iload_n 1, 1) := by decide +kernel
theorem dX7_firstFree_55 : decode cX7_firstFree 55 = .ok (.iload 4, 2) := by decide +kernel
theorem dX7_firstFree_57 : decode cX7_firstFree 57 = .ok (.invokevirtual 96, 3) := by decide +kernel
theorem dX7_firstFree_60 : decode cX7_firstFree 60 = .ok (.ifCond .ge 7, 3) := by decide +kernel
theorem dX7_firstFree_63 : decode cX7_firstFree 63 = .ok (.iconst 1, 1) := by decide +kernel
theorem dX7_firstFree_64 : decode cX7_firstFree 64 = .ok (.goto 4, 3) := by decide +kernel
theorem dX7_firstFree_67 : decode cX7_firstFree 67 = .ok (.iconst 0, 1) := by decide +kernel
theorem dX7_firstFree_68 : decode cX7_firstFree 68 = .ok (.istore 6, 2) := by decide +kernel
theorem dX7_firstFree_70 : decode cX7_firstFree 70 = .ok (.iload 6, 2) := by decide +kernel
theorem dX7_firstFree_72 : decode cX7_firstFree 72 = .ok (.ifCond .eq 24, 3) := by decide +kernel
theorem dX7_firstFree_75 : decode cX7_firstFree 75 = .ok (.iload_n 2, 1) := by decide +kernel
theorem dX7_firstFree_76 : decode cX7_firstFree 76 = .ok (.ifCond .ne 15, 3) := by decide +kernel
theorem dX7_firstFree_79 : decode cX7_firstFree 79 = .ok (.aload_n 0, 1) := by decide +kernel
theorem dX7_firstFree_80 : decode cX7_firstFree 80 = .ok (.getfield 7, 3) := by decide +kernel
theorem dX7_firstFree_83 : decode cX7_firstFree 83 = .ok (.iconst 0, 1) := by decide +kernel
theorem dX7_firstFree_84 : decode cX7_firstFree 84 = .ok (.iaload, 1) := by decide +kernel
theorem dX7_firstFree_85 : decode cX7_firstFree 85 = .ok (.iload 4, 2) := by decide +kernel
theorem dX7_firstFree_87 : decode cX7_firstFree 87 = .ok (.iadd, 1) := by decide +kernel
theorem dX7_firstFree_88 : decode cX7_firstFree 88 = .ok (.goto 9, 3) := by decide +kernel
theorem dX7_firstFree_91 : decode cX7_firstFree 91 = .ok (.iload 5, 2) := by decide +kernel
theorem dX7_firstFree_93 : decode cX7_firstFree 93 = .ok (.goto 4, 3) := by decide +kernel
theorem dX7_firstFree_96 : decode cX7_firstFree 96 = .ok (.iload_n 3, 1) := by decide +kernel
theorem dX7_firstFree_97 : decode cX7_firstFree 97 = .ok (.istore_n 3, 1) := by decide +kernel
theorem dX7_firstFree_98 : decode cX7_firstFree 98 = .ok (.iinc 5 (-1), 3) := by decide +kernel
theorem dX7_firstFree_101 : decode cX7_firstFree 101 = .ok (.goto (-64), 3) := by decide +kernel
theorem dX7_firstFree_104 : decode cX7_firstFree 104 = .ok (.iinc 4 (-1), 3) := by decide +kernel
theorem dX7_firstFree_107 : decode cX7_firstFree 107 = .ok (.goto (-78), 3) := by decide +kernel
theorem dX7_firstFree_110 : decode cX7_firstFree 110 = .ok (.iload_n 3, 1) := by decide +kernel
theorem dX7_firstFree_111 : decode cX7_firstFree 111 = .ok (.ireturn, 1) := by decide +kernel
set_option maxRecDepth 20000 in
theorem ggX7_put__X7_in : GoodIn wsX7_put_ wsX7_in := goodIn_r _ [7] (by decide +kernel) (by decide +kernel)
set_option maxRecDepth 20000 in
theorem gX7_put__X7_in : GoodIn wsX7_put_ (va_wsS RX7 26 yX7_in wsX7_in) := goodIn_app (goodIn_of _ (by decide +kernel)) ggX7_put__X7_in
theorem dX7_put__0 : decode cX7_put_ 0 = .ok (.iconst 0, 1) := by decide +kernel
theorem dX7_put__1 : decode cX7_put_ 1 = .ok (.istore_n 3, 1) := by decide +kernel
theorem dX7_put__2 : decode cX7_put_ 2 = .ok (.iconst 0, 1) := by decide +kernel
theorem dX7_put__3 : decode cX7_put_ 3 = .ok (.istore 4, 2) := by decide +kernel
theorem dX7_put__5 : decode cX7_put_ 5 = .ok (.iconst 0, 1) := by decide +kernel
theorem dX7_put__6 : decode cX7_put_ 6 = .ok (.istore 5, 2) := by decide +kernel
theorem dX7_put__8 : decode cX7_put_ 8 = .ok (.iload 5, 2) := by decide +kernel
theorem dX7_put__10 : decode cX7_put_ 10 = .ok (.bipush 8, 2) := by decide +kernel
theorem dX7_put__12 : decode cX7_put_ 12 = .ok (.if_icmp .ge 89, 3) := by decide +kernel
theorem dX7_put__15 : decode cX7_put_ 15 = .ok (.lload_n 1, 1) := by decide +kernel
theorem dX7_put__16 : decode cX7_put_ 16 = .ok (.bipush 8, 2) := by decide +kernel
theorem dX7_put__18 : decode cX7_put_ 18 = .ok (.iload 5, 2) := by decide +kernel
theorem dX7_put__20 : decode cX7_put_ 20 = .ok (.imul, 1) := by decide +kernel
theorem dX7_put__21 : decode cX7_put_ 21 = .ok (.lushr, 1) := by decide +kernel
theorem dX7_put__22 : decode cX7_put_ 22 = .ok (.ldc2_w 181, 3) := by decide +kernel
theorem dX7_put__25 : decode cX7_put_ 25 = .ok (.land, 1) := by decide +kernel
theorem dX7_put__26 : decode cX7_put_ 26 = .ok (.l2i, 1) := by decide +kernel
theorem dX7_put__27 : decode cX7_put_ 27 = .ok (.istore 6, 2) := by decide +kernel
theorem dX7_put__29 : decode cX7_put_ 29 = .ok (.iload 5, 2) := by decide +kernel
theorem dX7_put__31 : decode cX7_put_ 31 = .ok (.ifCond .le 19, 3) := by decide +kernel
theorem dX7_put__34 : decode cX7_put_ 34 = .ok (.lload_n 1, 1) := by decide +kernel
theorem dX7_put__35 : decode cX7_put_ 35 = .ok (.bipush 8, 2) := by decide +kernel
theorem dX7_put__37 : decode cX7_put_ 37 = .ok (.iload 5, 2) := by decide +kernel
theorem dX7_put__39 : decode cX7_put_ 39 = .ok (.imul, 1) := by decide +kernel
theorem dX7_put__40 : decode cX7_put_ 40 = .ok (.lushr, 1) := by decide +kernel
theorem dX7_put__41 : decode cX7_put_ 41 = .ok (.lconst 0, 1) := by decide +kernel
theorem dX7_put__42 : decode cX7_put_ 42 = .ok (.lcmp, 1) := by decide +kernel
theorem dX7_put__43 : decode cX7_put_ 43 = .ok (.ifCond .ne 7, 3) := by decide +kernel
theorem dX7_put__46 : decode cX7_put_ 46 = .ok (.iconst 1, 1) := by decide +kernel
theorem dX7_put__47 : decode cX7_put_ 47 = .ok (.goto 4, 3) := by decide +kernel
theorem dX7_put__50 : decode cX7_put_ 50 = .ok (.iconst 0, 1) := by decide +kernel
theorem dX7_put__51 : decode cX7_put_ 51 = .ok (.istore 7, 2) := by decide +kernel
theorem dX7_put__53 : decode cX7_put_ 53 = .ok (.iload 4, 2) := by decide +kernel
theorem dX7_put__55 : decode cX7_put_ 55 = .ok (.ifCond .ne 20, 3) := by decide +kernel
theorem dX7_put__58 : decode cX7_put_ 58 = .ok (.iload 7, 2) := by decide +kernel
theorem dX7_put__60 : decode cX7_put_ 60 = .ok (.ifCond .ne 19, 3) := by decide +kernel
theorem dX7_put__63 : decode cX7_put_ 63 = .ok (.iload 6, 2) := by decide +kernel
theorem dX7_put__65 : decode cX7_put_ 65 = .ok (.bipush 33, 2) := by decide +kernel
theorem dX7_put__67 : decode cX7_put_ 67 = .ok (.bipush 126, 2) := by decide +kernel
theorem dX7_put__69 : decode cX7_put_ 69 = .ok (.invokestatic 26, 3) := by decide +kernel
theorem dX7_put__72 : decode cX7_put_ 72 = .ok (.ifCond .ne 7, 3) := by decide +kernel
theorem dX7_put__75 : decode cX7_put_ 75 = .ok (.iconst 1, 1) := by decide +kernel
theorem dX7_put__76 : decode cX7_put_ 76 = .ok (.goto 4, 3) := by decide +kernel
theorem dX7_put__79 : decode cX7_put_ 79 = .ok (.iconst 0, 1) := by decide +kernel
theorem dX7_put__80 : decode cX7_put_ 80 = .ok (.istore 4, 2) := by decide +kernel
theorem dX7_put__82 : decode cX7_put_ 82 = .ok (.iload_n 3, 1) := by decide +kernel
theorem dX7_put__83 : decode cX7_put_ 83 = .ok (.iload 7, 2) := by decide +kernel
theorem dX7_put__85 : decode cX7_put_ 85 = .ok (.ifCond .eq 7, 3) := by decide +kernel
theorem dX7_put__88 : decode cX7_put_ 88 = .ok (.iconst 0, 1) := by decide +kernel
theorem dX7_put__89 : decode cX7_put_ 89 = .ok (.goto 4, 3) := by decide +kernel
theorem dX7_put__92 : decode cX7_put_ 92 = .ok (.iconst 1, 1) := by decide +kernel
theorem dX7_put__93 : decode cX7_put_ 93 = .ok (.iadd, 1) := by decide +kernel
theorem dX7_put__94 : decode cX7_put_ 94 = .ok (.istore_n 3, 1) := by decide +kernel
theorem dX7_put__95 : decode cX7_put_ 95 = .ok (.iinc 5 1, 3) := by decide +kernel
theorem dX7_put__98 : decode cX7_put_ 98 = .ok (.goto (-90), 3) := by decide +kernel
theorem dX7_put__101 : decode cX7_put_ 101 = .ok (.iload 4, 2) := by decide +kernel
theorem dX7_put__103 : decode cX7_put_ 103 = .ok (.ifCond .eq 6, 3) := by decide +kernel
theorem dX7_put__106 : decode cX7_put_ 106 = .ok (.bipush (-2), 2) := by decide +kernel
theorem dX7_put__108 : decode cX7_put_ 108 = .ok (.ireturn, 1) := by decide +kernel
theorem dX7_put__109 : decode cX7_put_ 109 = .ok (.aload_n 0, 1) := by decide +kernel
theorem dX7_put__110 : decode cX7_put_ 110 = .ok (.getfield 175, 3) := by decide +kernel
theorem dX7_put__113 : decode cX7_put_ 113 = .ok (.iload_n 3, 1) := by decide +kernel
theorem dX7_put__114 : decode cX7_put_ 114 = .ok (.iadd, 1) := by decide +kernel
theorem dX7_put__115 : decode cX7_put_ 115 = .ok (.bipush 80, 2) := by decide +kernel
theorem dX7_put__117 : decode cX7_put_ 117 = .ok (.if_icmp .le 6, 3) := by decide +kernel
theorem dX7_put__120 : decode cX7_put_ 120 = .ok (.bipush (-4), 2) := by decide +kernel
theorem dX7_put__122 : decode cX7_put_ 122 = .ok (.ireturn, 1) := by decide +kernel
theorem dX7_put__123 : decode cX7_put_ 123 = .ok (.iconst 0, 1) := by decide +kernel
theorem dX7_put__124 : decode cX7_put_ 124 = .ok (.istore 5, 2) := by decide +kernel
theorem dX7_put__126 : decode cX7_put_ 126 = .ok (.iload 5, 2) := by decide +kernel
theorem dX7_put__128 : decode cX7_put_ 128 = .ok (.iload_n 3, 1) := by decide +kernel
theorem dX7_put__129 : decode cX7_put_ 129 = .ok (.if_icmp .ge 37, 3) := by decide +kernel
theorem dX7_put__132 : decode cX7_put_ 132 = .ok (.aload_n 0, 1) := by decide +kernel
theorem dX7_put__133 : decode cX7_put_ 133 = .ok (.getfield 23, 3) := by decide +kernel
theorem dX7_put__136 : decode cX7_put_ 136 = .ok (.aload_n 0, 1) := by decide +kernel
theorem dX7_put__137 : decode cX7_put_ 137 = .ok (.getfield 175, 3) := by decide +kernel
theorem dX7_put__140 : decode cX7_put_ 140 = .ok (.iload_n 3, 1) := by decide +kernel
theorem dX7_put__141 : decode cX7_put_ 141 = .ok (.iadd, 1) := by decide +kernel
theorem dX7_put__142 : decode cX7_put_ 142 = .ok (.iconst 1, 1) := by decide +kernel
theorem dX7_put__143 : decode cX7_put_ 143 = .ok (.isub, 1) := by decide +kernel
theorem dX7_put__144 : decode cX7_put_ 144 = .ok (.iload 5, 2) := by decide +kernel
theorem dX7_put__146 : decode cX7_put_ 146 = .ok (.isub, 1) := by decide +kernel
theorem dX7_put__147 : decode cX7_put_ 147 = .ok (.lload_n 1, 1) := by decide +kernel
theorem dX7_put__148 : decode cX7_put_ 148 = .ok (.bipush 8, 2) := by decide +kernel
theorem dX7_put__150 : decode cX7_put_ 150 = .ok (.iload 5, 2) := by decide +kernel
theorem dX7_put__152 : decode cX7_put_ 152 = .ok (.imul, 1) := by decide +kernel
theorem dX7_put__153 : decode cX7_put_ 153 = .ok (.lushr, 1) := by decide +kernel
theorem dX7_put__154 : decode cX7_put_ 154 = .ok (.ldc2_w 181, 3) := by decide +kernel
theorem dX7_put__157 : decode cX7_put_ 157 = .ok (.land, 1) := by decide +kernel
theorem dX7_put__158 : decode cX7_put_ 158 = .ok (.l2i, 1) := by decide +kernel
theorem dX7_put__159 : decode cX7_put_ 159 = .ok (.iastore, 1) := by decide +kernel
theorem dX7_put__160 : decode cX7_put_ 160 = .ok (.iinc 5 1, 3) := by decide +kernel
theorem dX7_put__163 : decode cX7_put_ 163 = .ok (.goto (-37), 3) := by decide +kernel
theorem dX7_put__166 : decode cX7_put_ 166 = .ok (.aload_n 0, 1) := by decide +kernel
theorem dX7_put__167 : decode cX7_put_ 167 = .ok (.dup, 1) := by decide +kernel
theorem dX7_put__168 : decode cX7_put_ 168 = .ok (.getfield 175, 3) := by decide +kernel
theorem dX7_put__171 : decode cX7_put_ 171 = .ok (.iload_n 3, 1) := by decide +kernel
theorem dX7_put__172 : decode cX7_put_ 172 = .ok (.iadd, 1) := by decide +kernel
theorem dX7_put__173 : decode cX7_put_ 173 = .ok (.putfield 175, 3) := by decide +kernel
theorem dX7_put__176 : decode cX7_put_ 176 = .ok (.aload_n 0, 1) := by decide +kernel
theorem dX7_put__177 : decode cX7_put_ 177 = .ok (.getfield 175, 3) := by decide +kernel
theorem dX7_put__180 : decode cX7_put_ 180 = .ok (.ireturn, 1) := by decide +kernel
theorem dX7_wipe_0 : decode cX7_wipe 0 = .ok (.aload_n 0, 1) := by decide +kernel
theorem dX7_wipe_1 : decode cX7_wipe 1 = .ok (.getfield 175, 3) := by decide +kernel
theorem dX7_wipe_4 : decode cX7_wipe 4 = .ok (.istore_n 1, 1) := by decide +kernel
theorem dX7_wipe_5 : decode cX7_wipe 5 = .ok (.aload_n 0, 1) := by decide +kernel
theorem dX7_wipe_6 : decode cX7_wipe 6 = .ok (.iconst 0, 1) := by decide +kernel
theorem dX7_wipe_7 : decode cX7_wipe 7 = .ok (.putfield 175, 3) := by decide +kernel
theorem dX7_wipe_10 : decode cX7_wipe 10 = .ok (.iload_n 1, 1) := by decide +kernel
theorem dX7_wipe_11 : decode cX7_wipe 11 = .ok (.ireturn, 1) := by decide +kernel
theorem dX7_sign_0 : decode cX7_sign 0 = .ok (.aload_n 0, 1) := by decide +kernel
theorem dX7_sign_1 : decode cX7_sign 1 = .ok (.getfield 183, 3) := by decide +kernel
theorem dX7_sign_4 : decode cX7_sign 4 = .ok (.aload_n 0, 1) := by decide +kernel
theorem dX7_sign_5 : decode cX7_sign 5 = .ok (.getfield 175, 3) := by decide +kernel
theorem dX7_sign_8 : decode cX7_sign 8 = .ok (.if_icmp .ge 15, 3) := by decide +kernel
theorem dX7_sign_11 : decode cX7_sign 11 = .ok (.aload_n 0, 1) := by decide +kernel
theorem dX7_sign_12 : decode cX7_sign 12 = .ok (.getfield 23, 3) := by decide +kernel
theorem dX7_sign_15 : decode cX7_sign 15 = .ok (.aload_n 0, 1) := by decide +kernel
theorem dX7_sign_16 : decode cX7_sign 16 = .ok (.getfield 183, 3) := by decide +kernel
theorem dX7_sign_19 : decode cX7_sign 19 = .ok (.iaload, 1) := by decide +kernel
theorem dX7_sign_20 : decode cX7_sign 20 = .ok (.goto 4, 3) := by decide +kernel
theorem dX7_sign_23 : decode cX7_sign 23 = .ok (.iconst 0, 1) := by decide +kernel
theorem dX7_sign_24 : decode cX7_sign 24 = .ok (.ireturn, 1) := by decide +kernel
theorem dX7_take_0 : decode cX7_take 0 = .ok (.aload_n 0, 1) := by decide +kernel
theorem dX7_take_1 : decode cX7_take 1 = .ok (.aload_n 0, 1) := by decide +kernel
theorem dX7_take_2 : decode cX7_take 2 = .ok (.getfield 186, 3) := by decide +kernel
theorem dX7_take_5 : decode cX7_take 5 = .ok (.ifCond .ne 7, 3) := by decide +kernel
theorem dX7_take_8 : decode cX7_take 8 = .ok (.iload_n 1, 1) := by decide +kernel
theorem dX7_take_9 : decode cX7_take 9 = .ok (.ifCond .ne 7, 3) := by decide +kernel
theorem dX7_take_12 : decode cX7_take 12 = .ok (.iconst 1, 1) := by decide +kernel
theorem dX7_take_13 : decode cX7_take 13 = .ok (.goto 4, 3) := by decide +kernel
theorem dX7_take_16 : decode cX7_take 16 = .ok (.iconst 0, 1) := by decide +kernel
theorem dX7_take_17 : decode cX7_take 17 = .ok (.putfield 186, 3) := by decide +kernel
theorem dX7_take_20 : decode cX7_take 20 = .ok (.aload_n 0, 1) := by decide +kernel
theorem dX7_take_21 : decode cX7_take 21 = .ok (.dup, 1) := by decide +kernel
theorem dX7_take_22 : decode cX7_take 22 = .ok (.getfield 183, 3) := by decide +kernel
theorem dX7_take_25 : decode cX7_take 25 = .ok (.aload_n 0, 1) := by decide +kernel
theorem dX7_take_26 : decode cX7_take 26 = .ok (.getfield 186, 3) := by decide +kernel
theorem dX7_take_29 : decode cX7_take 29 = .ok (.ifCond .eq 7, 3) := by decide +kernel
theorem dX7_take_32 : decode cX7_take 32 = .ok (.iconst 0, 1) := by decide +kernel
theorem dX7_take_33 : decode cX7_take 33 = .ok (.goto 4, 3) := by decide +kernel
theorem dX7_take_36 : decode cX7_take 36 = .ok (.iconst 1, 1) := by decide +kernel
theorem dX7_take_37 : decode cX7_take 37 = .ok (.iadd, 1) := by decide +kernel
theorem dX7_take_38 : decode cX7_take 38 = .ok (.putfield 183, 3) := by decide +kernel
theorem dX7_take_41 : decode cX7_take 41 = .ok (.return_, 1) := by decide +kernel
set_option maxRecDepth 20000 in
theorem ggX7_readDigit_X7_sign : GoodIn wsX7_readDigit wsX7_sign := goodIn_r _ [5, 6, 7, 8, 17, 18, 19, 20, 21, 22, 23, 24, 25, 26, 27, 28, 29] (by decide +kernel) (by decide +kernel)
set_option maxRecDepth 20000 in
theorem gX7_readDigit_X7_sign : GoodIn wsX7_readDigit (wsV RX7 190 RX7 yX7_sign wsX7_sign) := goodIn_app (goodIn_of _ (by decide +kernel)) ggX7_readDigit_X7_sign
set_option maxRecDepth 20000 in
theorem ggX7_readDigit_X7_in : GoodIn wsX7_readDigit wsX7_in := goodIn_r _ [11] (by decide +kernel) (by decide +kernel)
set_option maxRecDepth 20000 in
theorem gX7_readDigit_X7_in : GoodIn wsX7_readDigit (va_wsS RX7 26 yX7_in wsX7_in) := goodIn_app (goodIn_of _ (by decide +kernel)) ggX7_readDigit_X7_in
set_option maxRecDepth 20000 in
theorem ggX7_readDigit_X7_take : GoodIn wsX7_readDigit wsX7_take := goodIn_r _ [15, 16, 6, 17, 18, 19, 20, 21, 22, 23, 24, 25, 26, 27, 28, 29] (by decide +kernel) (by decide +kernel)
set_option maxRecDepth 20000 in
theorem gX7_readDigit_X7_take : GoodIn wsX7_readDigit (wsV RX7 193 RX7 yX7_take wsX7_take) := goodIn_app (goodIn_of _ (by decide +kernel)) ggX7_readDigit_X7_take
theorem dX7_readDigit_0 : decode cX7_readDigit 0 = .ok (.aload_n 0, 1) := by decide +kernel
theorem dX7_readDigit_1 : decode cX7_readDigit 1 = .ok (.invokevirtual 190, 3) := by decide +kernel
theorem dX7_readDigit_4 : decode cX7_readDigit 4 = .ok (.bipush 48, 2) := by decide +kernel
theorem dX7_readDigit_6 : decode cX7_readDigit 6 = .ok (.isub, 1) := by decide +kernel
theorem dX7_readDigit_7 : decode cX7_readDigit 7 = .ok (.istore_n 1, 1) := by decide +kernel
theorem dX7_readDigit_8 : decode cX7_readDigit 8 = .ok (.aload_n 0, 1) := by decide +kernel
theorem dX7_readDigit_9 : decode cX7_readDigit 9 = .ok (.iload_n 1, 1) := by decide +kernel
theorem dX7_readDigit_10 : decode cX7_readDigit 10 = .ok (.iconst 0, 1) := by decide +kernel
theorem dX7_readDigit_11 : decode cX7_readDigit 11 = .ok (.bipush 9, 2) := by decide +kernel
theorem dX7_readDigit_13 : decode cX7_readDigit 13 = .ok (.invokestatic 26, 3) := by decide +kernel
theorem dX7_readDigit_16 : decode cX7_readDigit 16 = .ok (.invokevirtual 193, 3) := by decide +kernel
theorem dX7_readDigit_19 : decode cX7_readDigit 19 = .ok (.iload_n 1, 1) := by decide +kernel
theorem dX7_readDigit_20 : decode cX7_readDigit 20 = .ok (.ireturn, 1) := by decide +kernel
set_option maxRecDepth 20000 in
theorem ggX7_readNumber_X7_readDigit : GoodIn wsX7_readNumber wsX7_readDigit := goodIn_r _ [7, 8, 9, 10, 6, 11, 2, 12, 13, 14, 15, 16, 17, 18, 19, 20, 1, 21, 22, 23, 24, 25, 26, 27, 28, 29, 30, 31, 32, 33] (by decide +kernel) (by decide +kernel)
set_option maxRecDepth 20000 in
theorem gX7_readNumber_X7_readDigit : GoodIn wsX7_readNumber (wsV RX7 197 RX7 yX7_readDigit wsX7_readDigit) := goodIn_app (goodIn_of _ (by decide +kernel)) ggX7_readNumber_X7_readDigit
set_option maxRecDepth 20000 in
theorem ggX7_readNumber_X7_sign : GoodIn wsX7_readNumber wsX7_sign := goodIn_r _ [11, 2, 12, 13, 21, 22, 23, 24, 25, 26, 27, 28, 29, 30, 31, 32, 33] (by decide +kernel) (by decide +kernel)
set_option maxRecDepth 20000 in
theorem gX7_readNumber_X7_sign : GoodIn wsX7_readNumber (wsV RX7 190 RX7 yX7_sign wsX7_sign) := goodIn_app (goodIn_of _ (by decide +kernel)) ggX7_readNumber_X7_sign
set_option maxRecDepth 20000 in
theorem ggX7_readNumber_X7_in : GoodIn wsX7_readNumber wsX7_in := goodIn_r _ [16] (by decide +kernel) (by decide +kernel)
set_option maxRecDepth 20000 in
theorem gX7_readNumber_X7_in : GoodIn wsX7_readNumber (va_wsS RX7 26 yX7_in wsX7_in) := goodIn_app (goodIn_of _ (by decide +kernel)) ggX7_readNumber_X7_in
theorem dX7_readNumber_0 : decode cX7_readNumber 0 = .ok (.aload_n 0, 1) := by decide +kernel
theorem dX7_readNumber_1 : decode cX7_readNumber 1 = .ok (.invokevirtual 197, 3) := by decide +kernel
theorem dX7_readNumber_4 : decode cX7_readNumber 4 = .ok (.istore_n 1, 1) := by decide +kernel
theorem dX7_readNumber_5 : decode cX7_readNumber 5 = .ok (.aload_n 0, 1) := by decide +kernel
theorem dX7_readNumber_6 : decode cX7_readNumber 6 = .ok (.getfield 186, 3) := by decide +kernel
theorem dX7_readNumber_9 : decode cX7_readNumber 9 = .ok (.ifCond .ne 65, 3) := by decide +kernel
theorem dX7_readNumber_12 : decode cX7_readNumber 12 = .ok (.iload_n 1, 1) := by decide +kernel
theorem dX7_readNumber_13 : decode cX7_readNumber 13 = .ok (.ifCond .le 61, 3) := by decide +kernel
theorem dX7_readNumber_16 : decode cX7_readNumber 16 = .ok (.aload_n 0, 1) := by decide +kernel
theorem dX7_readNumber_17 : decode cX7_readNumber 17 = .ok (.invokevirtual 190, 3) := by decide +kernel
theorem dX7_readNumber_20 : decode cX7_readNumber 20 = .ok (.bipush 48, 2) := by decide +kernel
theorem dX7_readNumber_22 : decode cX7_readNumber 22 = .ok (.bipush 57, 2) := by decide +kernel
theorem dX7_readNumber_24 : decode cX7_readNumber 24 = .ok (.invokestatic 26, 3) := by decide +kernel
theorem dX7_readNumber_27 : decode cX7_readNumber 27 = .ok (.ifCond .eq 47, 3) := by decide +kernel
theorem dX7_readNumber_30 : decode cX7_readNumber 30 = .ok (.bipush 10, 2) := by decide +kernel
theorem dX7_readNumber_32 : decode cX7_readNumber 32 = .ok (.iload_n 1, 1) := by decide +kernel
theorem dX7_readNumber_33 : decode cX7_readNumber 33 = .ok (.imul, 1) := by decide +kernel
theorem dX7_readNumber_34 : decode cX7_readNumber 34 = .ok (.aload_n 0, 1) := by decide +kernel
theorem dX7_readNumber_35 : decode cX7_readNumber 35 = .ok (.invokevirtual 190, 3) := by decide +kernel
theorem dX7_readNumber_38 : decode cX7_readNumber 38 = .ok (.iadd, 1) := by decide +kernel
theorem dX7_readNumber_39 : decode cX7_readNumber 39 = .ok (.bipush 48, 2) := by decide +kernel
theorem dX7_readNumber_41 : decode cX7_readNumber 41 = .ok (.isub, 1) := by decide +kernel
theorem dX7_readNumber_42 : decode cX7_readNumber 42 = .ok (.sipush 999, 3) := by decide +kernel
theorem dX7_readNumber_45 : decode cX7_readNumber 45 = .ok (.if_icmp .gt 29, 3) := by decide +kernel
theorem dX7_readNumber_48 : decode cX7_readNumber 48 = .ok (.bipush 10, 2) := by decide +kernel
theorem dX7_readNumber_50 : decode cX7_readNumber 50 = .ok (.iload_n 1, 1) := by decide +kernel
theorem dX7_readNumber_51 : decode cX7_readNumber 51 = .ok (.imul, 1) := by decide +kernel
theorem dX7_readNumber_52 : decode cX7_readNumber 52 = .ok (.aload_n 0, 1) := by decide +kernel
theorem dX7_readNumber_53 : decode cX7_readNumber 53 = .ok (.invokevirtual 190, 3) := by decide +kernel
theorem dX7_readNumber_56 : decode cX7_readNumber 56 = .ok (.iadd, 1) := by decide +kernel
theorem dX7_readNumber_57 : decode cX7_readNumber 57 = .ok (.bipush 48, 2) := by decide +kernel
theorem dX7_readNumber_59 : decode cX7_readNumber 59 = .ok (.isub, 1) := by decide +kernel
theorem dX7_readNumber_60 : decode cX7_readNumber 60 = .ok (.istore_n 1, 1) := by decide +kernel
theorem dX7_readNumber_61 : decode cX7_readNumber 61 = .ok (.aload_n 0, 1) := by decide +kernel
theorem dX7_readNumber_62 : decode cX7_readNumber 62 = .ok (.dup, 1) := by decide +kernel
theorem dX7_readNumber_63 : decode cX7_readNumber 63 = .ok (.getfield 183, 3) := by decide +kernel
theorem dX7_readNumber_66 : decode cX7_readNumber 66 = .ok (.iconst 1, 1) := by decide +kernel
theorem dX7_readNumber_67 : decode cX7_readNumber 67 = .ok (.iadd, 1) := by decide +kernel
theorem dX7_readNumber_68 : decode cX7_readNumber 68 = .ok (.putfield 183, 3) := by decide +kernel
theorem dX7_readNumber_71 : decode cX7_readNumber 71 = .ok (.goto (-66), 3) := by decide +kernel
theorem dX7_readNumber_74 : decode cX7_readNumber 74 = .ok (.iload_n 1, 1) := by decide +kernel
theorem dX7_readNumber_75 : decode cX7_readNumber 75 = .ok (.ireturn, 1) := by decide +kernel
set_option maxRecDepth 20000 in
theorem ggX7_readOrder_X7_sign : GoodIn wsX7_readOrder wsX7_sign := goodIn_r _ [11, 6, 12, 13, 29, 30, 31, 32, 33, 34, 35, 36, 37, 38, 39, 40, 41] (by decide +kernel) (by decide +kernel)
set_option maxRecDepth 20000 in
theorem gX7_readOrder_X7_sign : GoodIn wsX7_readOrder (wsV RX7 190 RX7 yX7_sign wsX7_sign) := goodIn_app (goodIn_of _ (by decide +kernel)) ggX7_readOrder_X7_sign
set_option maxRecDepth 20000 in
theorem ggX7_readOrder_X7_take : GoodIn wsX7_readOrder wsX7_take := goodIn_r _ [17, 4, 6, 29, 30, 31, 32, 33, 34, 35, 36, 37, 38, 39, 40, 41] (by decide +kernel) (by decide +kernel)
set_option maxRecDepth 20000 in
theorem gX7_readOrder_X7_take : GoodIn wsX7_readOrder (wsV RX7 193 RX7 yX7_take wsX7_take) := goodIn_app (goodIn_of _ (by decide +kernel)) ggX7_readOrder_X7_take
set_option maxRecDepth 20000 in
theorem ggX7_readOrder_X7_readDigit : GoodIn wsX7_readOrder wsX7_readDigit := goodIn_r _ [21, 7, 8, 9, 10, 11, 6, 12, 13, 22, 23, 24, 14, 15, 16, 17, 4, 29, 30, 31, 32, 33, 34, 35, 36, 37, 38, 39, 40, 41] (by decide +kernel) (by decide +kernel)
set_option maxRecDepth 20000 in
theorem gX7_readOrder_X7_readDigit : GoodIn wsX7_readOrder (wsV RX7 197 RX7 yX7_readDigit wsX7_readDigit) := goodIn_app (goodIn_of _ (by decide +kernel)) ggX7_readOrder_X7_readDigit
set_option maxRecDepth 20000 in
theorem ggX7_readOrder_X7_readNumber : GoodIn wsX7_readOrder wsX7_readNumber := goodIn_r _ [28, 4, 6, 18, 19, 20, 10, 21, 7, 8, 9, 11, 12, 13, 22, 23, 24, 14, 15, 16, 17, 29, 30, 31, 32, 33, 34, 35, 36, 37, 38, 39, 40, 41] (by decide +kernel) (by decide +kernel)
set_option maxRecDepth 20000 in
theorem gX7_readOrder_X7_readNumber : GoodIn wsX7_readOrder (wsV RX7 209 RX7 yX7_readNumber wsX7_readNumber) := goodIn_app (goodIn_of _ (by decide +kernel)) ggX7_readOrder_X7_readNumber
theorem dX7_readOrder_0 : decode cX7_readOrder 0 = .ok (.aload_n 0, 1) := by decide +kernel
theorem dX7_readOrder_1 : decode cX7_readOrder 1 = .ok (.aload_n 0, 1) := by decide +kernel
theorem dX7_readOrder_2 : decode cX7_readOrder 2 = .ok (.invokevirtual 190, 3) := by decide +kernel
theorem dX7_readOrder_5 : decode cX7_readOrder 5 = .ok (.putfield 200, 3) := by decide +kernel
theorem dX7_readOrder_8 : decode cX7_readOrder 8 = .ok (.aload_n 0, 1) := by decide +kernel
theorem dX7_readOrder_9 : decode cX7_readOrder 9 = .ok (.iconst 0, 1) := by decide +kernel
theorem dX7_readOrder_10 : decode cX7_readOrder 10 = .ok (.putfield 203, 3) := by decide +kernel
theorem dX7_readOrder_13 : decode cX7_readOrder 13 = .ok (.aload_n 0, 1) := by decide +kernel
theorem dX7_readOrder_14 : decode cX7_readOrder 14 = .ok (.iconst 0, 1) := by decide +kernel
theorem dX7_readOrder_15 : decode cX7_readOrder 15 = .ok (.putfield 206, 3) := by decide +kernel
theorem dX7_readOrder_18 : decode cX7_readOrder 18 = .ok (.aload_n 0, 1) := by decide +kernel
theorem dX7_readOrder_19 : decode cX7_readOrder 19 = .ok (.aload_n 0, 1) := by decide +kernel
theorem dX7_readOrder_20 : decode cX7_readOrder 20 = .ok (.getfield 200, 3) := by decide +kernel
theorem dX7_readOrder_23 : decode cX7_readOrder 23 = .ok (.bipush 112, 2) := by decide +kernel
theorem dX7_readOrder_25 : decode cX7_readOrder 25 = .ok (.if_icmp .eq 66, 3) := by decide +kernel
theorem dX7_readOrder_28 : decode cX7_readOrder 28 = .ok (.aload_n 0, 1) := by decide +kernel
theorem dX7_readOrder_29 : decode cX7_readOrder 29 = .ok (.getfield 200, 3) := by decide +kernel
theorem dX7_readOrder_32 : decode cX7_readOrder 32 = .ok (.bipush 98, 2) := by decide +kernel
theorem dX7_readOrder_34 : decode cX7_readOrder 34 = .ok (.if_icmp .eq 57, 3) := by decide +kernel
theorem dX7_readOrder_37 : decode cX7_readOrder 37 = .ok (.aload_n 0, 1) := by decide +kernel
theorem dX7_readOrder_38 : decode cX7_readOrder 38 = .ok (.getfield 200, 3) := by decide +kernel
theorem dX7_readOrder_41 : decode cX7_readOrder 41 = .ok (.bipush 116, 2) := by decide +kernel
theorem dX7_readOrder_43 : decode cX7_readOrder 43 = .ok (.if_icmp .eq 48, 3) := by decide +kernel
theorem dX7_readOrder_46 : decode cX7_readOrder 46 = .ok (.aload_n 0, 1) := by decide +kernel
theorem dX7_readOrder_47 : decode cX7_readOrder 47 = .ok (.getfield 200, 3) := by decide +kernel
theorem dX7_readOrder_50 : decode cX7_readOrder 50 = .ok (.bipush 108, 2) := by decide +kernel
theorem dX7_readOrder_52 : decode cX7_readOrder 52 = .ok (.if_icmp .eq 39, 3) := by decide +kernel
theorem dX7_readOrder_55 : decode cX7_readOrder 55 = .ok (.aload_n 0, 1) := by decide +kernel
theorem dX7_readOrder_56 : decode cX7_readOrder 56 = .ok (.getfield 200, 3) := by decide +kernel
theorem dX7_readOrder_59 : decode cX7_readOrder 59 = .ok (.bipush 102, 2) := by decide +kernel
theorem dX7_readOrder_61 : decode cX7_readOrder 61 = .ok (.if_icmp .eq 30, 3) := by decide +kernel
theorem dX7_readOrder_64 : decode cX7_readOrder 64 = .ok (.aload_n 0, 1) := by decide +kernel
theorem dX7_readOrder_65 : decode cX7_readOrder 65 = .ok (.getfield 200, 3) := by decide +kernel
theorem dX7_readOrder_68 : decode cX7_readOrder 68 = .ok (.bipush 103, 2) := by decide +kernel
theorem dX7_readOrder_70 : decode cX7_readOrder 70 = .ok (.if_icmp .eq 21, 3) := by decide +kernel
theorem dX7_readOrder_73 : decode cX7_readOrder 73 = .ok (.aload_n 0, 1) := by decide +kernel
theorem dX7_readOrder_74 : decode cX7_readOrder 74 = .ok (.getfield 200, 3) := by decide +kernel
theorem dX7_readOrder_77 : decode cX7_readOrder 77 = .ok (.bipush 110, 2) := by decide +kernel
theorem dX7_readOrder_79 : decode cX7_readOrder 79 = .ok (.if_icmp .eq 12, 3) := by decide +kernel
theorem dX7_readOrder_82 : decode cX7_readOrder 82 = .ok (.aload_n 0, 1) := by decide +kernel
theorem dX7_readOrder_83 : decode cX7_readOrder 83 = .ok (.getfield 200, 3) := by decide +kernel
theorem dX7_readOrder_86 : decode cX7_readOrder 86 = .ok (.bipush 104, 2) := by decide +kernel
