theorem dX6_of_0 : decode cX6_of 0 = .ok (.aload_n 0, 1) := by decide +kernel
theorem dX6_of_1 : decode cX6_of 1 = .ok (.getfield 12, 3) := by decide +kernel
theorem dX6_of_4 : decode cX6_of 4 = .ok (.iload_n 1, 1) := by decide +kernel
theorem dX6_of_5 : decode cX6_of 5 = .ok (.iload_n 2, 1) := by decide +kernel
theorem dX6_of_6 : decode cX6_of 6 = .ok (.invokevirtual 81, 3) := by decide +kernel
theorem dX6_of_9 : decode cX6_of 9 = .ok (.ireturn, 1) := by decide +kernel
set_option maxRecDepth 20000 in
theorem ggX6_ofPupil_X5_factOfPupil : GoodIn wsX6_ofPupil wsX5_factOfPupil := goodIn_r _ [6, 7, 8, 9, 10, 11, 12, 5, 13, 14, 15, 16, 17, 18, 19, 20, 21, 22, 23, 24, 25, 26, 27, 28, 29, 30, 31, 32, 33, 34, 35, 36, 37, 38, 39, 40, 41, 42, 43, 44, 45, 46, 47, 48, 49, 50, 51, 52, 53, 54, 55, 56, 57, 62, 63, 64, 65, 66, 67, 68, 69, 70, 71, 72, 73, 74, 75, 76, 77, 78, 79, 80, 81, 82] (by decide +kernel) (by decide +kernel)
set_option maxRecDepth 20000 in
theorem gX6_ofPupil_X5_factOfPupil : GoodIn wsX6_ofPupil (wsV RX6 84 RX5 yX5_factOfPupil wsX5_factOfPupil) := goodIn_app (goodIn_of _ (by decide +kernel)) ggX6_ofPupil_X5_factOfPupil
theorem dX6_ofPupil_0 : decode cX6_ofPupil 0 = .ok (.aload_n 0, 1) := by decide +kernel
theorem dX6_ofPupil_1 : decode cX6_ofPupil 1 = .ok (.getfield 12, 3) := by decide +kernel
theorem dX6_ofPupil_4 : decode cX6_ofPupil 4 = .ok (.iload_n 1, 1) := by decide +kernel
theorem dX6_ofPupil_5 : decode cX6_ofPupil 5 = .ok (.iload_n 2, 1) := by decide +kernel
theorem dX6_ofPupil_6 : decode cX6_ofPupil 6 = .ok (.invokevirtual 84, 3) := by decide +kernel
theorem dX6_ofPupil_9 : decode cX6_ofPupil 9 = .ok (.ireturn, 1) := by decide +kernel
set_option maxRecDepth 20000 in
theorem ggX6_booked_X5_bookerOf : GoodIn wsX6_booked wsX5_bookerOf := goodIn_r _ [6, 7, 8, 9, 10, 11, 12, 13, 14, 15, 16, 17, 18, 19, 20, 21, 22, 23, 24, 25, 26, 27, 28, 29, 30, 31, 32, 37, 38, 39, 40, 41, 42, 43, 44, 45, 46, 47, 48] (by decide +kernel) (by decide +kernel)
set_option maxRecDepth 20000 in
theorem gX6_booked_X5_bookerOf : GoodIn wsX6_booked (wsV RX6 87 RX5 yX5_bookerOf wsX5_bookerOf) := goodIn_app (goodIn_of _ (by decide +kernel)) ggX6_booked_X5_bookerOf
theorem dX6_booked_0 : decode cX6_booked 0 = .ok (.aload_n 0, 1) := by decide +kernel
theorem dX6_booked_1 : decode cX6_booked 1 = .ok (.getfield 12, 3) := by decide +kernel
theorem dX6_booked_4 : decode cX6_booked 4 = .ok (.iload_n 1, 1) := by decide +kernel
theorem dX6_booked_5 : decode cX6_booked 5 = .ok (.iload_n 2, 1) := by decide +kernel
theorem dX6_booked_6 : decode cX6_booked 6 = .ok (.invokevirtual 87, 3) := by decide +kernel
theorem dX6_booked_9 : decode cX6_booked 9 = .ok (.ireturn, 1) := by decide +kernel
set_option maxRecDepth 20000 in
theorem ggX6_count_X2_length : GoodIn wsX6_count wsX2_length := goodIn_r _ [8, 9, 126, 127, 128, 129, 130, 131, 132] (by decide +kernel) (by decide +kernel)
set_option maxRecDepth 20000 in
theorem gX6_count_X2_length : GoodIn wsX6_count (wsV RX6 90 RX2 yX2_length wsX2_length) := goodIn_app (goodIn_of _ (by decide +kernel)) ggX6_count_X2_length
set_option maxRecDepth 20000 in
theorem ggX6_count_X1_kept : GoodIn wsX6_count wsX1_kept := goodIn_r _ [14, 15, 133, 134, 135] (by decide +kernel) (by decide +kernel)
set_option maxRecDepth 20000 in
theorem gX6_count_X1_kept : GoodIn wsX6_count (wsV RX6 93 RX1 yX1_kept wsX1_kept) := goodIn_app (goodIn_of _ (by decide +kernel)) ggX6_count_X1_kept
set_option maxRecDepth 20000 in
theorem ggX6_count_X5_figure : GoodIn wsX6_count wsX5_figure := goodIn_r _ [20, 21, 22, 23, 24, 25, 26, 27, 28, 29, 30, 31, 32, 33, 34, 35, 36, 37, 38, 39, 40, 41, 42, 43, 44, 45, 46, 47, 48, 49, 50, 51, 52, 53, 54, 55, 56, 57, 58, 59, 60, 61, 62, 63, 64, 65, 66, 67, 68, 69, 70, 71, 72, 73, 74, 75, 76, 77, 78, 79, 80, 81, 82, 83, 19, 84, 85, 86, 87, 88, 89, 90, 91, 92, 93, 94, 95, 96, 97, 98, 99, 100, 101, 102, 103, 104, 105, 106, 107, 108, 109, 110, 111, 112, 113, 114, 115, 116, 117, 118, 119, 120, 121, 136, 137, 138, 139, 140, 141, 142, 143, 144, 145, 146, 147, 148, 149, 150, 151, 152, 153, 154, 155, 156] (by decide +kernel) (by decide +kernel)
set_option maxRecDepth 20000 in
theorem gX6_count_X5_figure : GoodIn wsX6_count (wsV RX6 96 RX5 yX5_figure wsX5_figure) := goodIn_app (goodIn_of _ (by decide +kernel)) ggX6_count_X5_figure
theorem dX6_count_0 : decode cX6_count 0 = .ok (.iload_n 1, 1) := by decide +kernel
theorem dX6_count_1 : decode cX6_count 1 = .ok (.lookupswitch 43 #[(19, 27), (20, 35)], 27) := by decide +kernel
theorem dX6_count_28 : decode cX6_count 28 = .ok (.aload_n 0, 1) := by decide +kernel
theorem dX6_count_29 : decode cX6_count 29 = .ok (.getfield 30, 3) := by decide +kernel
theorem dX6_count_32 : decode cX6_count 32 = .ok (.invokevirtual 90, 3) := by decide +kernel
theorem dX6_count_35 : decode cX6_count 35 = .ok (.ireturn, 1) := by decide +kernel
theorem dX6_count_36 : decode cX6_count 36 = .ok (.aload_n 0, 1) := by decide +kernel
theorem dX6_count_37 : decode cX6_count 37 = .ok (.getfield 19, 3) := by decide +kernel
theorem dX6_count_40 : decode cX6_count 40 = .ok (.invokevirtual 93, 3) := by decide +kernel
theorem dX6_count_43 : decode cX6_count 43 = .ok (.ireturn, 1) := by decide +kernel
theorem dX6_count_44 : decode cX6_count 44 = .ok (.aload_n 0, 1) := by decide +kernel
theorem dX6_count_45 : decode cX6_count 45 = .ok (.getfield 12, 3) := by decide +kernel
theorem dX6_count_48 : decode cX6_count 48 = .ok (.iload_n 1, 1) := by decide +kernel
theorem dX6_count_49 : decode cX6_count 49 = .ok (.invokevirtual 96, 3) := by decide +kernel
theorem dX6_count_52 : decode cX6_count 52 = .ok (.ireturn, 1) := by decide +kernel
set_option maxRecDepth 20000 in
theorem ggX6_why_X5_reasonAgainstLoading : GoodIn wsX6_why wsX5_reasonAgainstLoading := goodIn_r _ [6, 7, 8, 9, 10, 11, 12, 13, 14, 15, 16, 17, 18, 19, 20, 21, 22, 23, 24, 25, 26, 27, 28, 29, 30, 31, 32, 33, 5, 34, 35, 36, 37, 38, 39, 40, 41, 42, 43, 44, 45, 46, 47, 48, 49, 50, 51, 52, 53, 54, 55, 56, 57, 58, 59, 60, 61, 62, 63, 64, 69, 70, 71, 72, 73, 74, 75, 76, 77, 78, 79, 80, 81, 82, 83, 84, 85, 86] (by decide +kernel) (by decide +kernel)
set_option maxRecDepth 20000 in
theorem gX6_why_X5_reasonAgainstLoading : GoodIn wsX6_why (wsV RX6 99 RX5 yX5_reasonAgainstLoading wsX5_reasonAgainstLoading) := goodIn_app (goodIn_of _ (by decide +kernel)) ggX6_why_X5_reasonAgainstLoading
theorem dX6_why_0 : decode cX6_why 0 = .ok (.aload_n 0, 1) := by decide +kernel
theorem dX6_why_1 : decode cX6_why 1 = .ok (.getfield 12, 3) := by decide +kernel
theorem dX6_why_4 : decode cX6_why 4 = .ok (.iload_n 1, 1) := by decide +kernel
theorem dX6_why_5 : decode cX6_why 5 = .ok (.invokevirtual 99, 3) := by decide +kernel
theorem dX6_why_8 : decode cX6_why 8 = .ok (.ireturn, 1) := by decide +kernel
set_option maxRecDepth 20000 in
theorem ggX6_dryIn_X5_nightsUntilDry : GoodIn wsX6_dryIn wsX5_nightsUntilDry := goodIn_r _ [6, 7, 8, 9, 10, 11, 12, 13, 14, 15, 16, 17, 18, 19, 20, 21, 22, 23, 24, 25, 26, 27, 28, 29, 30, 31, 32, 5, 33, 34, 35, 36, 37, 38, 39, 40, 41, 42, 43, 48, 49, 50, 51, 52, 53, 54, 55, 56, 57, 58, 59, 60, 61, 62, 63, 64, 65] (by decide +kernel) (by decide +kernel)
set_option maxRecDepth 20000 in
theorem gX6_dryIn_X5_nightsUntilDry : GoodIn wsX6_dryIn (wsV RX6 102 RX5 yX5_nightsUntilDry wsX5_nightsUntilDry) := goodIn_app (goodIn_of _ (by decide +kernel)) ggX6_dryIn_X5_nightsUntilDry
theorem dX6_dryIn_0 : decode cX6_dryIn 0 = .ok (.aload_n 0, 1) := by decide +kernel
theorem dX6_dryIn_1 : decode cX6_dryIn 1 = .ok (.getfield 12, 3) := by decide +kernel
theorem dX6_dryIn_4 : decode cX6_dryIn 4 = .ok (.iload_n 1, 1) := by decide +kernel
theorem dX6_dryIn_5 : decode cX6_dryIn 5 = .ok (.invokevirtual 102, 3) := by decide +kernel
theorem dX6_dryIn_8 : decode cX6_dryIn 8 = .ok (.ireturn, 1) := by decide +kernel
set_option maxRecDepth 20000 in
theorem ggX6_ifFired_X5_outcomeOfFiring : GoodIn wsX6_ifFired wsX5_outcomeOfFiring := goodIn_r _ [6, 7, 8, 9, 10, 11, 12, 13, 14, 15, 5, 16, 17, 18, 19, 20, 21, 22, 23, 24, 25, 26, 27, 28, 29, 30, 31, 32, 33, 34, 35, 36, 37, 38, 39, 40, 41, 42, 43, 44, 45, 46, 51, 52, 53, 54, 55, 56, 57, 58, 59, 60, 61, 62, 63, 64, 65, 66, 67, 68] (by decide +kernel) (by decide +kernel)
set_option maxRecDepth 20000 in
theorem gX6_ifFired_X5_outcomeOfFiring : GoodIn wsX6_ifFired (wsV RX6 105 RX5 yX5_outcomeOfFiring wsX5_outcomeOfFiring) := goodIn_app (goodIn_of _ (by decide +kernel)) ggX6_ifFired_X5_outcomeOfFiring
theorem dX6_ifFired_0 : decode cX6_ifFired 0 = .ok (.aload_n 0, 1) := by decide +kernel
theorem dX6_ifFired_1 : decode cX6_ifFired 1 = .ok (.getfield 12, 3) := by decide +kernel
theorem dX6_ifFired_4 : decode cX6_ifFired 4 = .ok (.iload_n 1, 1) := by decide +kernel
theorem dX6_ifFired_5 : decode cX6_ifFired 5 = .ok (.iload_n 2, 1) := by decide +kernel
theorem dX6_ifFired_6 : decode cX6_ifFired 6 = .ok (.invokevirtual 105, 3) := by decide +kernel
theorem dX6_ifFired_9 : decode cX6_ifFired 9 = .ok (.ireturn, 1) := by decide +kernel
set_option maxRecDepth 20000 in
theorem ggX6_bestHeat_X5_heatForMostPots : GoodIn wsX6_bestHeat wsX5_heatForMostPots := goodIn_r _ [6, 7, 8, 9, 10, 11, 12, 13, 14, 15, 16, 17, 18, 19, 20, 21, 22, 23, 5, 24, 25, 26, 27, 28, 29, 30, 31, 32, 33, 34, 35, 36, 37, 38, 39, 40, 41, 42, 43, 44, 45, 46, 47, 48, 49, 54, 55, 56, 57, 58, 59, 60, 61, 62, 63, 64, 65, 66, 67, 68, 69, 70, 71] (by decide +kernel) (by decide +kernel)
set_option maxRecDepth 20000 in
theorem gX6_bestHeat_X5_heatForMostPots : GoodIn wsX6_bestHeat (wsV RX6 108 RX5 yX5_heatForMostPots wsX5_heatForMostPots) := goodIn_app (goodIn_of _ (by decide +kernel)) ggX6_bestHeat_X5_heatForMostPots
theorem dX6_bestHeat_0 : decode cX6_bestHeat 0 = .ok (.aload_n 0, 1) := by decide +kernel
theorem dX6_bestHeat_1 : decode cX6_bestHeat 1 = .ok (.getfield 12, 3) := by decide +kernel
theorem dX6_bestHeat_4 : decode cX6_bestHeat 4 = .ok (.invokevirtual 108, 3) := by decide +kernel
theorem dX6_bestHeat_7 : decode cX6_bestHeat 7 = .ok (.ireturn, 1) := by decide +kernel
set_option maxRecDepth 20000 in
theorem ggX6_firstFree_X5_firstFreeNight : GoodIn wsX6_firstFree wsX5_firstFreeNight := goodIn_r _ [6, 7, 8, 9, 10, 5, 11, 12, 13, 14, 15, 16, 17, 18, 19, 20, 21, 22, 23, 24, 25, 26, 27, 28, 29, 30, 31, 32, 33, 34, 35, 36, 37, 42, 43, 44, 45, 46, 47, 48, 49, 50, 51, 52, 53] (by decide +kernel) (by decide +kernel)
set_option maxRecDepth 20000 in
theorem gX6_firstFree_X5_firstFreeNight : GoodIn wsX6_firstFree (wsV RX6 111 RX5 yX5_firstFreeNight wsX5_firstFreeNight) := goodIn_app (goodIn_of _ (by decide +kernel)) ggX6_firstFree_X5_firstFreeNight
theorem dX6_firstFree_0 : decode cX6_firstFree 0 = .ok (.aload_n 0, 1) := by decide +kernel
theorem dX6_firstFree_1 : decode cX6_firstFree 1 = .ok (.getfield 12, 3) := by decide +kernel
theorem dX6_firstFree_4 : decode cX6_firstFree 4 = .ok (.iload_n 1, 1) := by decide +kernel
theorem dX6_firstFree_5 : decode cX6_firstFree 5 = .ok (.iload_n 2, 1) := by decide +kernel
theorem dX6_firstFree_6 : decode cX6_firstFree 6 = .ok (.invokevirtual 111, 3) := by decide +kernel
theorem dX6_firstFree_9 : decode cX6_firstFree 9 = .ok (.ireturn, 1) := by decide +kernel
theorem dX6_isWithin_0 : decode cX6_isWithin 0 = .ok (.iload_n 0, 1) := by decide +kernel
theorem dX6_isWithin_1 : decode cX6_isWithin 1 = .ok (.iload_n 1, 1) := by decide +kernel
theorem dX6_isWithin_2 : decode cX6_isWithin 2 = .ok (.if_icmp .lt 12, 3) := by decide +kernel
theorem dX6_isWithin_5 : decode cX6_isWithin 5 = .ok (.iload_n 0, 1) := by decide +kernel
theorem dX6_isWithin_6 : decode cX6_isWithin 6 = .ok (.iload_n 2, 1) := by decide +kernel
theorem dX6_isWithin_7 : decode cX6_isWithin 7 = .ok (.if_icmp .gt 7, 3) := by decide +kernel
theorem dX6_isWithin_10 : decode cX6_isWithin 10 = .ok (.iconst 1, 1) := by decide +kernel
theorem dX6_isWithin_11 : decode cX6_isWithin 11 = .ok (.goto 4, 3) := by decide +kernel
theorem dX6_isWithin_14 : decode cX6_isWithin 14 = .ok (.iconst 0, 1) := by decide +kernel
theorem dX6_isWithin_15 : decode cX6_isWithin 15 = .ok (.ireturn, 1) := by decide +kernel
set_option maxRecDepth 20000 in
theorem ggX6_isAhead_X6_isWithin : GoodIn wsX6_isAhead wsX6_isWithin := goodIn_r _ [4] (by decide +kernel) (by decide +kernel)
set_option maxRecDepth 20000 in
theorem gX6_isAhead_X6_isWithin : GoodIn wsX6_isAhead (va_wsS RX6 160 yX6_isWithin wsX6_isWithin) := goodIn_app (goodIn_of _ (by decide +kernel)) ggX6_isAhead_X6_isWithin
theorem dX6_isAhead_0 : decode cX6_isAhead 0 = .ok (.iload_n 0, 1) := by decide +kernel
theorem dX6_isAhead_1 : decode cX6_isAhead 1 = .ok (.iconst 0, 1) := by decide +kernel
theorem dX6_isAhead_2 : decode cX6_isAhead 2 = .ok (.bipush 20, 2) := by decide +kernel
theorem dX6_isAhead_4 : decode cX6_isAhead 4 = .ok (.invokestatic 160, 3) := by decide +kernel
theorem dX6_isAhead_7 : decode cX6_isAhead 7 = .ok (.ireturn, 1) := by decide +kernel
set_option maxRecDepth 20000 in
theorem ggX6_isHeat_X6_isWithin : GoodIn wsX6_isHeat wsX6_isWithin := goodIn_r _ [4] (by decide +kernel) (by decide +kernel)
set_option maxRecDepth 20000 in
theorem gX6_isHeat_X6_isWithin : GoodIn wsX6_isHeat (va_wsS RX6 160 yX6_isWithin wsX6_isWithin) := goodIn_app (goodIn_of _ (by decide +kernel)) ggX6_isHeat_X6_isWithin
theorem dX6_isHeat_0 : decode cX6_isHeat 0 = .ok (.iload_n 0, 1) := by decide +kernel
theorem dX6_isHeat_1 : decode cX6_isHeat 1 = .ok (.bipush 80, 2) := by decide +kernel
theorem dX6_isHeat_3 : decode cX6_isHeat 3 = .ok (.sipush 140, 3) := by decide +kernel
theorem dX6_isHeat_6 : decode cX6_isHeat 6 = .ok (.invokestatic 160, 3) := by decide +kernel
theorem dX6_isHeat_9 : decode cX6_isHeat 9 = .ok (.ireturn, 1) := by decide +kernel
set_option maxRecDepth 20000 in
theorem ggX6_isWheel_X6_isWithin : GoodIn wsX6_isWheel wsX6_isWithin := goodIn_r _ [4] (by decide +kernel) (by decide +kernel)
set_option maxRecDepth 20000 in
theorem gX6_isWheel_X6_isWithin : GoodIn wsX6_isWheel (va_wsS RX6 160 yX6_isWithin wsX6_isWithin) := goodIn_app (goodIn_of _ (by decide +kernel)) ggX6_isWheel_X6_isWithin
theorem dX6_isWheel_0 : decode cX6_isWheel 0 = .ok (.iload_n 0, 1) := by decide +kernel
theorem dX6_isWheel_1 : decode cX6_isWheel 1 = .ok (.iconst 0, 1) := by decide +kernel
theorem dX6_isWheel_2 : decode cX6_isWheel 2 = .ok (.iconst 4, 1) := by decide +kernel
theorem dX6_isWheel_3 : decode cX6_isWheel 3 = .ok (.invokestatic 160, 3) := by decide +kernel
theorem dX6_isWheel_6 : decode cX6_isWheel 6 = .ok (.ireturn, 1) := by decide +kernel
set_option maxRecDepth 20000 in
theorem ggX6_isGlaze_X6_isWithin : GoodIn wsX6_isGlaze wsX6_isWithin := goodIn_r _ [4] (by decide +kernel) (by decide +kernel)
set_option maxRecDepth 20000 in
theorem gX6_isGlaze_X6_isWithin : GoodIn wsX6_isGlaze (va_wsS RX6 160 yX6_isWithin wsX6_isWithin) := goodIn_app (goodIn_of _ (by decide +kernel)) ggX6_isGlaze_X6_isWithin
theorem dX6_isGlaze_0 : decode cX6_isGlaze 0 = .ok (.iload_n 0, 1) := by decide +kernel
theorem dX6_isGlaze_1 : decode cX6_isGlaze 1 = .ok (.iconst 0, 1) := by decide +kernel
theorem dX6_isGlaze_2 : decode cX6_isGlaze 2 = .ok (.iconst 3, 1) := by decide +kernel
theorem dX6_isGlaze_3 : decode cX6_isGlaze 3 = .ok (.invokestatic 160, 3) := by decide +kernel
theorem dX6_isGlaze_6 : decode cX6_isGlaze 6 = .ok (.ireturn, 1) := by decide +kernel
theorem dJ6_bitCount_0f7a4_0 : decode cJ6_bitCount_0f7a4 0 = .ok (.iload_n 0, 1) := by decide +kernel
theorem dJ6_bitCount_0f7a4_1 : decode cJ6_bitCount_0f7a4 1 = .ok (.iload_n 0, 1) := by decide +kernel
theorem dJ6_bitCount_0f7a4_2 : decode cJ6_bitCount_0f7a4 2 = .ok (.iconst 1, 1) := by decide +kernel
theorem dJ6_bitCount_0f7a4_3 : decode cJ6_bitCount_0f7a4 3 = .ok (.iushr, 1) := by decide +kernel
theorem dJ6_bitCount_0f7a4_4 : decode cJ6_bitCount_0f7a4 4 = .ok (.ldc_w 265, 3) := by decide +kernel
theorem dJ6_bitCount_0f7a4_7 : decode cJ6_bitCount_0f7a4 7 = .ok (.iand, 1) := by decide +kernel
theorem dJ6_bitCount_0f7a4_8 : decode cJ6_bitCount_0f7a4 8 = .ok (.isub, 1) := by decide +kernel
theorem dJ6_bitCount_0f7a4_9 : decode cJ6_bitCount_0f7a4 9 = .ok (.istore_n 0, 1) := by decide +kernel
theorem dJ6_bitCount_0f7a4_10 : decode cJ6_bitCount_0f7a4 10 = .ok (.iload_n 0, 1) := by decide +kernel
theorem dJ6_bitCount_0f7a4_11 : decode cJ6_bitCount_0f7a4 11 = .ok (.ldc_w 266, 3) := by decide +kernel
theorem dJ6_bitCount_0f7a4_14 : decode cJ6_bitCount_0f7a4 14 = .ok (.iand, 1) := by decide +kernel
theorem dJ6_bitCount_0f7a4_15 : decode cJ6_bitCount_0f7a4 15 = .ok (.iload_n 0, 1) := by decide +kernel
theorem dJ6_bitCount_0f7a4_16 : decode cJ6_bitCount_0f7a4 16 = .ok (.iconst 2, 1) := by decide +kernel
theorem dJ6_bitCount_0f7a4_17 : decode cJ6_bitCount_0f7a4 17 = .ok (.iushr, 1) := by decide +kernel
theorem dJ6_bitCount_0f7a4_18 : decode cJ6_bitCount_0f7a4 18 = .ok (.ldc_w 266, 3) := by decide +kernel
theorem dJ6_bitCount_0f7a4_21 : decode cJ6_bitCount_0f7a4 21 = .ok (.iand, 1) := by decide +kernel
theorem dJ6_bitCount_0f7a4_22 : decode cJ6_bitCount_0f7a4 22 = .ok (.iadd, 1) := by decide +kernel
theorem dJ6_bitCount_0f7a4_23 : decode cJ6_bitCount_0f7a4 23 = .ok (.istore_n 0, 1) := by decide +kernel
theorem dJ6_bitCount_0f7a4_24 : decode cJ6_bitCount_0f7a4 24 = .ok (.iload_n 0, 1) := by decide +kernel
theorem dJ6_bitCount_0f7a4_25 : decode cJ6_bitCount_0f7a4 25 = .ok (.iload_n 0, 1) := by decide +kernel
theorem dJ6_bitCount_0f7a4_26 : decode cJ6_bitCount_0f7a4 26 = .ok (.iconst 4, 1) := by decide +kernel
theorem dJ6_bitCount_0f7a4_27 : decode cJ6_bitCount_0f7a4 27 = .ok (.iushr, 1) := by decide +kernel
theorem dJ6_bitCount_0f7a4_28 : decode cJ6_bitCount_0f7a4 28 = .ok (.iadd, 1) := by decide +kernel
theorem dJ6_bitCount_0f7a4_29 : decode cJ6_bitCount_0f7a4 29 = .ok (.ldc_w 267, 3) := by decide +kernel
theorem dJ6_bitCount_0f7a4_32 : decode cJ6_bitCount_0f7a4 32 = .ok (.iand, 1) := by decide +kernel
theorem dJ6_bitCount_0f7a4_33 : decode cJ6_bitCount_0f7a4 33 = .ok (.istore_n 0, 1) := by decide +kernel
theorem dJ6_bitCount_0f7a4_34 : decode cJ6_bitCount_0f7a4 34 = .ok (.iload_n 0, 1) := by decide +kernel
theorem dJ6_bitCount_0f7a4_35 : decode cJ6_bitCount_0f7a4 35 = .ok (.iload_n 0, 1) := by decide +kernel
theorem dJ6_bitCount_0f7a4_36 : decode cJ6_bitCount_0f7a4 36 = .ok (.bipush 8, 2) := by decide +kernel
theorem dJ6_bitCount_0f7a4_38 : decode cJ6_bitCount_0f7a4 38 = .ok (.iushr, 1) := by decide +kernel
theorem dJ6_bitCount_0f7a4_39 : decode cJ6_bitCount_0f7a4 39 = .ok (.iadd, 1) := by decide +kernel
theorem dJ6_bitCount_0f7a4_40 : decode cJ6_bitCount_0f7a4 40 = .ok (.istore_n 0, 1) := by decide +kernel
theorem dJ6_bitCount_0f7a4_41 : decode cJ6_bitCount_0f7a4 41 = .ok (.iload_n 0, 1) := by decide +kernel
theorem dJ6_bitCount_0f7a4_42 : decode cJ6_bitCount_0f7a4 42 = .ok (.iload_n 0, 1) := by decide +kernel
theorem dJ6_bitCount_0f7a4_43 : decode cJ6_bitCount_0f7a4 43 = .ok (.bipush 16, 2) := by decide +kernel
theorem dJ6_bitCount_0f7a4_45 : decode cJ6_bitCount_0f7a4 45 = .ok (.iushr, 1) := by decide +kernel
theorem dJ6_bitCount_0f7a4_46 : decode cJ6_bitCount_0f7a4 46 = .ok (.iadd, 1) := by decide +kernel
theorem dJ6_bitCount_0f7a4_47 : decode cJ6_bitCount_0f7a4 47 = .ok (.istore_n 0, 1) := by decide +kernel
theorem dJ6_bitCount_0f7a4_48 : decode cJ6_bitCount_0f7a4 48 = .ok (.iload_n 0, 1) := by decide +kernel
theorem dJ6_bitCount_0f7a4_49 : decode cJ6_bitCount_0f7a4 49 = .ok (.bipush 63, 2) := by decide +kernel
theorem dJ6_bitCount_0f7a4_51 : decode cJ6_bitCount_0f7a4 51 = .ok (.iand, 1) := by decide +kernel
theorem dJ6_bitCount_0f7a4_52 : decode cJ6_bitCount_0f7a4 52 = .ok (.ireturn, 1) := by decide +kernel
theorem dJ9_max_7cf53_0 : decode cJ9_max_7cf53 0 = .ok (.iload_n 0, 1) := by decide +kernel
theorem dJ9_max_7cf53_1 : decode cJ9_max_7cf53 1 = .ok (.iload_n 1, 1) := by decide +kernel
theorem dJ9_max_7cf53_2 : decode cJ9_max_7cf53 2 = .ok (.if_icmp .lt 7, 3) := by decide +kernel
theorem dJ9_max_7cf53_5 : decode cJ9_max_7cf53 5 = .ok (.iload_n 0, 1) := by decide +kernel
theorem dJ9_max_7cf53_6 : decode cJ9_max_7cf53 6 = .ok (.goto 4, 3) := by decide +kernel
theorem dJ9_max_7cf53_9 : decode cJ9_max_7cf53 9 = .ok (.iload_n 1, 1) := by decide +kernel
theorem dJ9_max_7cf53_10 : decode cJ9_max_7cf53 10 = .ok (.ireturn, 1) := by decide +kernel
theorem dJ9_min_7cf53_0 : decode cJ9_min_7cf53 0 = .ok (.iload_n 0, 1) := by decide +kernel
theorem dJ9_min_7cf53_1 : decode cJ9_min_7cf53 1 = .ok (.iload_n 1, 1) := by decide +kernel
theorem dJ9_min_7cf53_2 : decode cJ9_min_7cf53 2 = .ok (.if_icmp .gt 7, 3) := by decide +kernel
theorem dJ9_min_7cf53_5 : decode cJ9_min_7cf53 5 = .ok (.iload_n 0, 1) := by decide +kernel
theorem dJ9_min_7cf53_6 : decode cJ9_min_7cf53 6 = .ok (.goto 4, 3) := by decide +kernel
theorem dJ9_min_7cf53_9 : decode cJ9_min_7cf53 9 = .ok (.iload_n 1, 1) := by decide +kernel
theorem dJ9_min_7cf53_10 : decode cJ9_min_7cf53 10 = .ok (.ireturn, 1) := by decide +kernel
theorem dL_cell_0 : decode cL_cell 0 = .ok (.iload_n 1, 1) := by decide +kernel
theorem dL_cell_1 : decode cL_cell 1 = .ok (.aload_n 0, 1) := by decide +kernel
theorem dL_cell_2 : decode cL_cell 2 = .ok (.arraylength, 1) := by decide +kernel
theorem dL_cell_3 : decode cL_cell 3 = .ok (.if_icmp .ge 9, 3) := by decide +kernel
theorem dL_cell_6 : decode cL_cell 6 = .ok (.aload_n 0, 1) := by decide +kernel
theorem dL_cell_7 : decode cL_cell 7 = .ok (.iload_n 1, 1) := by decide +kernel
theorem dL_cell_8 : decode cL_cell 8 = .ok (.iaload, 1) := by decide +kernel
theorem dL_cell_9 : decode cL_cell 9 = .ok (.goto 9, 3) := by decide +kernel
theorem dL_cell_12 : decode cL_cell 12 = .ok (.ldc 7, 2) := by decide +kernel
theorem dL_cell_14 : decode cL_cell 14 = .ok (.iload_n 1, 1) := by decide +kernel
theorem dL_cell_15 : decode cL_cell 15 = .ok (.iconst 1, 1) := by decide +kernel
theorem dL_cell_16 : decode cL_cell 16 = .ok (.iadd, 1) := by decide +kernel
theorem dL_cell_17 : decode cL_cell 17 = .ok (.imul, 1) := by decide +kernel
theorem dL_cell_18 : decode cL_cell 18 = .ok (.ireturn, 1) := by decide +kernel
theorem dL_low_0 : decode cL_low 0 = .ok (.iload_n 0, 1) := by decide +kernel
theorem dL_low_1 : decode cL_low 1 = .ok (.ldc 8, 2) := by decide +kernel
theorem dL_low_3 : decode cL_low 3 = .ok (.iand, 1) := by decide +kernel
theorem dL_low_4 : decode cL_low 4 = .ok (.iload_n 1, 1) := by decide +kernel
theorem dL_low_5 : decode cL_low 5 = .ok (.irem, 1) := by decide +kernel
theorem dL_low_6 : decode cL_low 6 = .ok (.ireturn, 1) := by decide +kernel
theorem dL_part_0 : decode cL_part 0 = .ok (.lload_n 0, 1) := by decide +kernel
theorem dL_part_1 : decode cL_part 1 = .ok (.bipush 6, 2) := by decide +kernel
theorem dL_part_3 : decode cL_part 3 = .ok (.iload_n 2, 1) := by decide +kernel
theorem dL_part_4 : decode cL_part 4 = .ok (.imul, 1) := by decide +kernel
theorem dL_part_5 : decode cL_part 5 = .ok (.lshr, 1) := by decide +kernel
theorem dL_part_6 : decode cL_part 6 = .ok (.ldc2_w 9, 3) := by decide +kernel
theorem dL_part_9 : decode cL_part 9 = .ok (.land, 1) := by decide +kernel
theorem dL_part_10 : decode cL_part 10 = .ok (.l2i, 1) := by decide +kernel
theorem dL_part_11 : decode cL_part 11 = .ok (.ireturn, 1) := by decide +kernel
theorem dL_with_0 : decode cL_with 0 = .ok (.lload_n 0, 1) := by decide +kernel
theorem dL_with_1 : decode cL_with 1 = .ok (.ldc2_w 9, 3) := by decide +kernel
theorem dL_with_4 : decode cL_with 4 = .ok (.bipush 6, 2) := by decide +kernel
theorem dL_with_6 : decode cL_with 6 = .ok (.iload_n 2, 1) := by decide +kernel
theorem dL_with_7 : decode cL_with 7 = .ok (.imul, 1) := by decide +kernel
theorem dL_with_8 : decode cL_with 8 = .ok (.lshl, 1) := by decide +kernel
theorem dL_with_9 : decode cL_with 9 = .ok (.ldc2_w 11, 3) := by decide +kernel
theorem dL_with_12 : decode cL_with 12 = .ok (.lxor, 1) := by decide +kernel
theorem dL_with_13 : decode cL_with 13 = .ok (.land, 1) := by decide +kernel
theorem dL_with_14 : decode cL_with 14 = .ok (.iload_n 3, 1) := by decide +kernel
theorem dL_with_15 : decode cL_with 15 = .ok (.i2l, 1) := by decide +kernel
theorem dL_with_16 : decode cL_with 16 = .ok (.bipush 6, 2) := by decide +kernel
theorem dL_with_18 : decode cL_with 18 = .ok (.iload_n 2, 1) := by decide +kernel
theorem dL_with_19 : decode cL_with 19 = .ok (.imul, 1) := by decide +kernel
theorem dL_with_20 : decode cL_with 20 = .ok (.lshl, 1) := by decide +kernel
theorem dL_with_21 : decode cL_with 21 = .ok (.lor, 1) := by decide +kernel
theorem dL_with_22 : decode cL_with 22 = .ok (.lreturn, 1) := by decide +kernel
set_option maxRecDepth 20000 in
theorem ggL_free_L_part : GoodIn wsL_free wsL_part := goodIn_r _ [4, 5] (by decide +kernel) (by decide +kernel)
set_option maxRecDepth 20000 in
theorem gL_free_L_part : GoodIn wsL_free (va_wsS RL 13 yL_part wsL_part) := goodIn_app (goodIn_of _ (by decide +kernel)) ggL_free_L_part
theorem dL_free_0 : decode cL_free 0 = .ok (.iconst 0, 1) := by decide +kernel
theorem dL_free_1 : decode cL_free 1 = .ok (.istore_n 2, 1) := by decide +kernel
theorem dL_free_2 : decode cL_free 2 = .ok (.iload_n 2, 1) := by decide +kernel
theorem dL_free_3 : decode cL_free 3 = .ok (.bipush 24, 2) := by decide +kernel
theorem dL_free_5 : decode cL_free 5 = .ok (.if_icmp .ge 57, 3) := by decide +kernel
theorem dL_free_8 : decode cL_free 8 = .ok (.iconst 1, 1) := by decide +kernel
theorem dL_free_9 : decode cL_free 9 = .ok (.istore_n 3, 1) := by decide +kernel
theorem dL_free_10 : decode cL_free 10 = .ok (.iconst 0, 1) := by decide +kernel
theorem dL_free_11 : decode cL_free 11 = .ok (.istore 4, 2) := by decide +kernel
theorem dL_free_13 : decode cL_free 13 = .ok (.iload 4, 2) := by decide +kernel
theorem dL_free_15 : decode cL_free 15 = .ok (.aload_n 0, 1) := by decide +kernel
theorem dL_free_16 : decode cL_free 16 = .ok (.bipush 7, 2) := by decide +kernel
theorem dL_free_18 : decode cL_free 18 = .ok (.iaload, 1) := by decide +kernel
theorem dL_free_19 : decode cL_free 19 = .ok (.if_icmp .ge 31, 3) := by decide +kernel
theorem dL_free_22 : decode cL_free 22 = .ok (.iload_n 3, 1) := by decide +kernel
theorem dL_free_23 : decode cL_free 23 = .ok (.ifCond .eq 19, 3) := by decide +kernel
theorem dL_free_26 : decode cL_free 26 = .ok (.aload_n 1, 1) := by decide +kernel
theorem dL_free_27 : decode cL_free 27 = .ok (.iload 4, 2) := by decide +kernel
theorem dL_free_29 : decode cL_free 29 = .ok (.laload, 1) := by decide +kernel
theorem dL_free_30 : decode cL_free 30 = .ok (.iconst 4, 1) := by decide +kernel
theorem dL_free_31 : decode cL_free 31 = .ok (.invokestatic 13, 3) := by decide +kernel
theorem dL_free_34 : decode cL_free 34 = .ok (.iload_n 2, 1) := by decide +kernel
theorem dL_free_35 : decode cL_free 35 = .ok (.if_icmp .eq 7, 3) := by decide +kernel
theorem dL_free_38 : decode cL_free 38 = .ok (.iconst 1, 1) := by decide +kernel
theorem dL_free_39 : decode cL_free 39 = .ok (.goto 4, 3) := by decide +kernel
theorem dL_free_42 : decode cL_free 42 = .ok (.iconst 0, 1) := by decide +kernel
theorem dL_free_43 : decode cL_free 43 = .ok (.istore_n 3, 1) := by decide +kernel
theorem dL_free_44 : decode cL_free 44 = .ok (.iinc 4 1, 3) := by decide +kernel
theorem dL_free_47 : decode cL_free 47 = .ok (.goto (-34), 3) := by decide +kernel
theorem dL_free_50 : decode cL_free 50 = .ok (.iload_n 3, 1) := by decide +kernel
theorem dL_free_51 : decode cL_free 51 = .ok (.ifCond .eq 5, 3) := by decide +kernel
theorem dL_free_54 : decode cL_free 54 = .ok (.iload_n 2, 1) := by decide +kernel
theorem dL_free_55 : decode cL_free 55 = .ok (.ireturn, 1) := by decide +kernel
theorem dL_free_56 : decode cL_free 56 = .ok (.iinc 2 1, 3) := by decide +kernel
theorem dL_free_59 : decode cL_free 59 = .ok (.goto (-57), 3) := by decide +kernel
theorem dL_free_62 : decode cL_free 62 = .ok (.iconst (-1), 1) := by decide +kernel
theorem dL_free_63 : decode cL_free 63 = .ok (.ireturn, 1) := by decide +kernel
set_option maxRecDepth 20000 in
theorem ggL_inKiln_L_part : GoodIn wsL_inKiln wsL_part := goodIn_r _ [4, 5] (by decide +kernel) (by decide +kernel)
set_option maxRecDepth 20000 in
theorem gL_inKiln_L_part : GoodIn wsL_inKiln (va_wsS RL 13 yL_part wsL_part) := goodIn_app (goodIn_of _ (by decide +kernel)) ggL_inKiln_L_part
theorem dL_inKiln_0 : decode cL_inKiln 0 = .ok (.iconst 0, 1) := by decide +kernel
theorem dL_inKiln_1 : decode cL_inKiln 1 = .ok (.istore_n 2, 1) := by decide +kernel
theorem dL_inKiln_2 : decode cL_inKiln 2 = .ok (.iconst 0, 1) := by decide +kernel
theorem dL_inKiln_3 : decode cL_inKiln 3 = .ok (.istore_n 3, 1) := by decide +kernel
theorem dL_inKiln_4 : decode cL_inKiln 4 = .ok (.iload_n 3, 1) := by decide +kernel
theorem dL_inKiln_5 : decode cL_inKiln 5 = .ok (.aload_n 0, 1) := by decide +kernel
theorem dL_inKiln_6 : decode cL_inKiln 6 = .ok (.bipush 7, 2) := by decide +kernel
theorem dL_inKiln_8 : decode cL_inKiln 8 = .ok (.iaload, 1) := by decide +kernel
theorem dL_inKiln_9 : decode cL_inKiln 9 = .ok (.if_icmp .ge 35, 3) := by decide +kernel
theorem dL_inKiln_12 : decode cL_inKiln 12 = .ok (.iload_n 2, 1) := by decide +kernel
theorem dL_inKiln_13 : decode cL_inKiln 13 = .ok (.aload_n 1, 1) := by decide +kernel
theorem dL_inKiln_14 : decode cL_inKiln 14 = .ok (.iload_n 3, 1) := by decide +kernel
theorem dL_inKiln_15 : decode cL_inKiln 15 = .ok (.laload, 1) := by decide +kernel
theorem dL_inKiln_16 : decode cL_inKiln 16 = .ok (.iconst 4, 1) := by decide +kernel
theorem dL_inKiln_17 : decode cL_inKiln 17 = .ok (.invokestatic 13, 3) := by decide +kernel
theorem dL_inKiln_20 : decode cL_inKiln 20 = .ok (.bipush 24, 2) := by decide +kernel
theorem dL_inKiln_22 : decode cL_inKiln 22 = .ok (.if_icmp .ne 13, 3) := by decide +kernel
theorem dL_inKiln_25 : decode cL_inKiln 25 = .ok (.aload_n 1, 1) := by decide +kernel
theorem dL_inKiln_26 : decode cL_inKiln 26 = .ok (.iload_n 3, 1) := by decide +kernel
theorem dL_inKiln_27 : decode cL_inKiln 27 = .ok (.laload, 1) := by decide +kernel
theorem dL_inKiln_28 : decode cL_inKiln 28 = .ok (.iconst 1, 1) := by decide +kernel
theorem dL_inKiln_29 : decode cL_inKiln 29 = .ok (.invokestatic 13, 3) := by decide +kernel
theorem dL_inKiln_32 : decode cL_inKiln 32 = .ok (.goto 4, 3) := by decide +kernel
theorem dL_inKiln_35 : decode cL_inKiln 35 = .ok (.iconst 0, 1) := by decide +kernel
theorem dL_inKiln_36 : decode cL_inKiln 36 = .ok (.iadd, 1) := by decide +kernel
theorem dL_inKiln_37 : decode cL_inKiln 37 = .ok (.istore_n 2, 1) := by decide +kernel
theorem dL_inKiln_38 : decode cL_inKiln 38 = .ok (.iinc 3 1, 3) := by decide +kernel
theorem dL_inKiln_41 : decode cL_inKiln 41 = .ok (.goto (-37), 3) := by decide +kernel
theorem dL_inKiln_44 : decode cL_inKiln 44 = .ok (.iload_n 2, 1) := by decide +kernel
theorem dL_inKiln_45 : decode cL_inKiln 45 = .ok (.ireturn, 1) := by decide +kernel
set_option maxRecDepth 20000 in
theorem ggL_why_L_part : GoodIn wsL_why wsL_part := goodIn_r _ [4, 5] (by decide +kernel) (by decide +kernel)
set_option maxRecDepth 20000 in
theorem gL_why_L_part : GoodIn wsL_why (va_wsS RL 13 yL_part wsL_part) := goodIn_app (goodIn_of _ (by decide +kernel)) ggL_why_L_part
set_option maxRecDepth 20000 in
theorem ggL_why_L_inKiln : GoodIn wsL_why wsL_inKiln := goodIn_r _ [8, 1, 2, 3, 4, 5] (by decide +kernel) (by decide +kernel)
set_option maxRecDepth 20000 in
theorem gL_why_L_inKiln : GoodIn wsL_why (va_wsS RL 19 yL_inKiln wsL_inKiln) := goodIn_app (goodIn_of _ (by decide +kernel)) ggL_why_L_inKiln
theorem dL_why_0 : decode cL_why 0 = .ok (.aload_n 2, 1) := by decide +kernel
theorem dL_why_1 : decode cL_why 1 = .ok (.iload_n 0, 1) := by decide +kernel
theorem dL_why_2 : decode cL_why 2 = .ok (.laload, 1) := by decide +kernel
theorem dL_why_3 : decode cL_why 3 = .ok (.iconst 3, 1) := by decide +kernel
theorem dL_why_4 : decode cL_why 4 = .ok (.invokestatic 13, 3) := by decide +kernel
theorem dL_why_7 : decode cL_why 7 = .ok (.istore_n 3, 1) := by decide +kernel
theorem dL_why_8 : decode cL_why 8 = .ok (.iconst 0, 1) := by decide +kernel
theorem dL_why_9 : decode cL_why 9 = .ok (.istore 4, 2) := by decide +kernel
theorem dL_why_11 : decode cL_why 11 = .ok (.iconst 0, 1) := by decide +kernel
theorem dL_why_12 : decode cL_why 12 = .ok (.istore 5, 2) := by decide +kernel
theorem dL_why_14 : decode cL_why 14 = .ok (.iload 5, 2) := by decide +kernel
theorem dL_why_16 : decode cL_why 16 = .ok (.aload_n 1, 1) := by decide +kernel
theorem dL_why_17 : decode cL_why 17 = .ok (.bipush 7, 2) := by decide +kernel
theorem dL_why_19 : decode cL_why 19 = .ok (.iaload, 1) := by decide +kernel
theorem dL_why_20 : decode cL_why 20 = .ok (.if_icmp .ge 46, 3) := by decide +kernel
theorem dL_why_23 : decode cL_why 23 = .ok (.iload 4, 2) := by decide +kernel
theorem dL_why_25 : decode cL_why 25 = .ok (.ifCond .ne 28, 3) := by decide +kernel
theorem dL_why_28 : decode cL_why 28 = .ok (.aload_n 2, 1) := by decide +kernel
theorem dL_why_29 : decode cL_why 29 = .ok (.iload 5, 2) := by decide +kernel
theorem dL_why_31 : decode cL_why 31 = .ok (.laload, 1) := by decide +kernel
theorem dL_why_32 : decode cL_why 32 = .ok (.iconst 4, 1) := by decide +kernel
theorem dL_why_33 : decode cL_why 33 = .ok (.invokestatic 13, 3) := by decide +kernel
theorem dL_why_36 : decode cL_why 36 = .ok (.bipush 24, 2) := by decide +kernel
theorem dL_why_38 : decode cL_why 38 = .ok (.if_icmp .ne 19, 3) := by decide +kernel
theorem dL_why_41 : decode cL_why 41 = .ok (.aload_n 2, 1) := by decide +kernel
theorem dL_why_42 : decode cL_why 42 = .ok (.iload 5, 2) := by decide +kernel
theorem dL_why_44 : decode cL_why 44 = .ok (.laload, 1) := by decide +kernel
theorem dL_why_45 : decode cL_why 45 = .ok (.iconst 3, 1) := by decide +kernel
theorem dL_why_46 : decode cL_why 46 = .ok (.invokestatic 13, 3) := by decide +kernel
theorem dL_why_49 : decode cL_why 49 = .ok (.iload_n 3, 1) := by decide +kernel
theorem dL_why_50 : decode cL_why 50 = .ok (.if_icmp .eq 7, 3) := by decide +kernel
theorem dL_why_53 : decode cL_why 53 = .ok (.iconst 1, 1) := by decide +kernel
theorem dL_why_54 : decode cL_why 54 = .ok (.goto 4, 3) := by decide +kernel
theorem dL_why_57 : decode cL_why 57 = .ok (.iconst 0, 1) := by decide +kernel
theorem dL_why_58 : decode cL_why 58 = .ok (.istore 4, 2) := by decide +kernel
theorem dL_why_60 : decode cL_why 60 = .ok (.iinc 5 1, 3) := by decide +kernel
theorem dL_why_63 : decode cL_why 63 = .ok (.goto (-49), 3) := by decide +kernel
theorem dL_why_66 : decode cL_why 66 = .ok (.aload_n 2, 1) := by decide +kernel
theorem dL_why_67 : decode cL_why 67 = .ok (.iload_n 0, 1) := by decide +kernel
theorem dL_why_68 : decode cL_why 68 = .ok (.laload, 1) := by decide +kernel
theorem dL_why_69 : decode cL_why 69 = .ok (.iconst 4, 1) := by decide +kernel
theorem dL_why_70 : decode cL_why 70 = .ok (.invokestatic 13, 3) := by decide +kernel
theorem dL_why_73 : decode cL_why 73 = .ok (.bipush 23, 2) := by decide +kernel
theorem dL_why_75 : decode cL_why 75 = .ok (.if_icmp .le 5, 3) := by decide +kernel
theorem dL_why_78 : decode cL_why 78 = .ok (.iconst 1, 1) := by decide +kernel
theorem dL_why_79 : decode cL_why 79 = .ok (.ireturn, 1) := by decide +kernel
theorem dL_why_80 : decode cL_why 80 = .ok (.iload_n 3, 1) := by decide +kernel
theorem dL_why_81 : decode cL_why 81 = .ok (.iconst 1, 1) := by decide +kernel
theorem dL_why_82 : decode cL_why 82 = .ok (.if_icmp .eq 8, 3) := by decide +kernel
theorem dL_why_85 : decode cL_why 85 = .ok (.iload_n 3, 1) := by decide +kernel
theorem dL_why_86 : decode cL_why 86 = .ok (.iconst 2, 1) := by decide +kernel
theorem dL_why_87 : decode cL_why 87 = .ok (.if_icmp .le 5, 3) := by decide +kernel
theorem dL_why_90 : decode cL_why 90 = .ok (.iconst 2, 1) := by decide +kernel
theorem dL_why_91 : decode cL_why 91 = .ok (.ireturn, 1) := by decide +kernel
theorem dL_why_92 : decode cL_why 92 = .ok (.iload_n 3, 1) := by decide +kernel
theorem dL_why_93 : decode cL_why 93 = .ok (.ifCond .ne 26, 3) := by decide +kernel
theorem dL_why_96 : decode cL_why 96 = .ok (.aload_n 2, 1) := by decide +kernel
theorem dL_why_97 : decode cL_why 97 = .ok (.iload_n 0, 1) := by decide +kernel
theorem dL_why_98 : decode cL_why 98 = .ok (.laload, 1) := by decide +kernel
theorem dL_why_99 : decode cL_why 99 = .ok (.iconst 5, 1) := by decide +kernel
theorem dL_why_100 : decode cL_why 100 = .ok (.invokestatic 13, 3) := by decide +kernel
theorem dL_why_103 : decode cL_why 103 = .ok (.aload_n 1, 1) := by decide +kernel
theorem dL_why_104 : decode cL_why 104 = .ok (.iconst 2, 1) := by decide +kernel
theorem dL_why_105 : decode cL_why 105 = .ok (.iaload, 1) := by decide +kernel
theorem dL_why_106 : decode cL_why 106 = .ok (.aload_n 2, 1) := by decide +kernel
theorem dL_why_107 : decode cL_why 107 = .ok (.iload_n 0, 1) := by decide +kernel
theorem dL_why_108 : decode cL_why 108 = .ok (.laload, 1) := by decide +kernel
theorem dL_why_109 : decode cL_why 109 = .ok (.iconst 1, 1) := by decide +kernel
theorem dL_why_110 : decode cL_why 110 = .ok (.invokestatic 13, 3) := by decide +kernel
theorem dL_why_113 : decode cL_why 113 = .ok (.imul, 1) := by decide +kernel
theorem dL_why_114 : decode cL_why 114 = .ok (.if_icmp .ge 5, 3) := by decide +kernel
theorem dL_why_117 : decode cL_why 117 = .ok (.iconst 3, 1) := by decide +kernel
theorem dL_why_118 : decode cL_why 118 = .ok (.ireturn, 1) := by decide +kernel
theorem dL_why_119 : decode cL_why 119 = .ok (.iload 4, 2) := by decide +kernel
theorem dL_why_121 : decode cL_why 121 = .ok (.ifCond .eq 7, 3) := by decide +kernel
theorem dL_why_124 : decode cL_why 124 = .ok (.iconst 4, 1) := by decide +kernel
theorem dL_why_125 : decode cL_why 125 = .ok (.goto 27, 3) := by decide +kernel
theorem dL_why_128 : decode cL_why 128 = .ok (.aload_n 1, 1) := by decide +kernel
theorem dL_why_129 : decode cL_why 129 = .ok (.aload_n 2, 1) := by decide +kernel
theorem dL_why_130 : decode cL_why 130 = .ok (.invokestatic 19, 3) := by decide +kernel
theorem dL_why_133 : decode cL_why 133 = .ok (.aload_n 2, 1) := by decide +kernel
theorem dL_why_134 : decode cL_why 134 = .ok (.iload_n 0, 1) := by decide +kernel
theorem dL_why_135 : decode cL_why 135 = .ok (.laload, 1) := by decide +kernel
theorem dL_why_136 : decode cL_why 136 = .ok (.iconst 1, 1) := by decide +kernel
theorem dL_why_137 : decode cL_why 137 = .ok (.invokestatic 13, 3) := by decide +kernel
theorem dL_why_140 : decode cL_why 140 = .ok (.iadd, 1) := by decide +kernel
theorem dL_why_141 : decode cL_why 141 = .ok (.aload_n 1, 1) := by decide +kernel
theorem dL_why_142 : decode cL_why 142 = .ok (.iconst 3, 1) := by decide +kernel
theorem dL_why_143 : decode cL_why 143 = .ok (.iaload, 1) := by decide +kernel
theorem dL_why_144 : decode cL_why 144 = .ok (.if_icmp .le 7, 3) := by decide +kernel
theorem dL_why_147 : decode cL_why 147 = .ok (.iconst 5, 1) := by decide +kernel
theorem dL_why_148 : decode cL_why 148 = .ok (.goto 4, 3) := by decide +kernel
theorem dL_why_151 : decode cL_why 151 = .ok (.iconst 0, 1) := by decide +kernel
theorem dL_why_152 : decode cL_why 152 = .ok (.ireturn, 1) := by decide +kernel
set_option maxRecDepth 20000 in
theorem ggL_then_L_part : GoodIn wsL_then wsL_part := goodIn_r _ [4, 5] (by decide +kernel) (by decide +kernel)
set_option maxRecDepth 20000 in
theorem gL_then_L_part : GoodIn wsL_then (va_wsS RL 13 yL_part wsL_part) := goodIn_app (goodIn_of _ (by decide +kernel)) ggL_then_L_part
theorem dL_then_0 : decode cL_then 0 = .ok (.iload_n 2, 1) := by decide +kernel
theorem dL_then_1 : decode cL_then 1 = .ok (.bipush 95, 2) := by decide +kernel
theorem dL_then_3 : decode cL_then 3 = .ok (.isub, 1) := by decide +kernel
theorem dL_then_4 : decode cL_then 4 = .ok (.iconst 5, 1) := by decide +kernel
theorem dL_then_5 : decode cL_then 5 = .ok (.lload_n 0, 1) := by decide +kernel
theorem dL_then_6 : decode cL_then 6 = .ok (.bipush 6, 2) := by decide +kernel
theorem dL_then_8 : decode cL_then 8 = .ok (.invokestatic 13, 3) := by decide +kernel
theorem dL_then_11 : decode cL_then 11 = .ok (.imul, 1) := by decide +kernel
theorem dL_then_12 : decode cL_then 12 = .ok (.isub, 1) := by decide +kernel
theorem dL_then_13 : decode cL_then 13 = .ok (.istore 4, 2) := by decide +kernel
theorem dL_then_15 : decode cL_then 15 = .ok (.iload_n 2, 1) := by decide +kernel
theorem dL_then_16 : decode cL_then 16 = .ok (.lload_n 0, 1) := by decide +kernel
theorem dL_then_17 : decode cL_then 17 = .ok (.iconst 2, 1) := by decide +kernel
theorem dL_then_18 : decode cL_then 18 = .ok (.invokestatic 13, 3) := by decide +kernel
theorem dL_then_21 : decode cL_then 21 = .ok (.iadd, 1) := by decide +kernel
theorem dL_then_22 : decode cL_then 22 = .ok (.aload_n 3, 1) := by decide +kernel
theorem dL_then_23 : decode cL_then 23 = .ok (.iconst 4, 1) := by decide +kernel
theorem dL_then_24 : decode cL_then 24 = .ok (.iaload, 1) := by decide +kernel
theorem dL_then_25 : decode cL_then 25 = .ok (.if_icmp .le 5, 3) := by decide +kernel
theorem dL_then_28 : decode cL_then 28 = .ok (.iconst 4, 1) := by decide +kernel
theorem dL_then_29 : decode cL_then 29 = .ok (.ireturn, 1) := by decide +kernel
theorem dL_then_30 : decode cL_then 30 = .ok (.lload_n 0, 1) := by decide +kernel
theorem dL_then_31 : decode cL_then 31 = .ok (.iconst 3, 1) := by decide +kernel
theorem dL_then_32 : decode cL_then 32 = .ok (.invokestatic 13, 3) := by decide +kernel
theorem dL_then_35 : decode cL_then 35 = .ok (.ifCond .ne 15, 3) := by decide +kernel
theorem dL_then_38 : decode cL_then 38 = .ok (.iload_n 2, 1) := by decide +kernel
theorem dL_then_39 : decode cL_then 39 = .ok (.bipush 94, 2) := by decide +kernel
theorem dL_then_41 : decode cL_then 41 = .ok (.if_icmp .le 7, 3) := by decide +kernel
theorem dL_then_44 : decode cL_then 44 = .ok (.iconst 1, 1) := by decide +kernel
theorem dL_then_45 : decode cL_then 45 = .ok (.goto 4, 3) := by decide +kernel
theorem dL_then_48 : decode cL_then 48 = .ok (.iconst 0, 1) := by decide +kernel
theorem dL_then_49 : decode cL_then 49 = .ok (.ireturn, 1) := by decide +kernel
theorem dL_then_50 : decode cL_then 50 = .ok (.iload 4, 2) := by decide +kernel
theorem dL_then_52 : decode cL_then 52 = .ok (.ifCond .ge 7, 3) := by decide +kernel
theorem dL_then_55 : decode cL_then 55 = .ok (.iconst 2, 1) := by decide +kernel
theorem dL_then_56 : decode cL_then 56 = .ok (.goto 15, 3) := by decide +kernel
theorem dL_then_59 : decode cL_then 59 = .ok (.iload 4, 2) := by decide +kernel
theorem dL_then_61 : decode cL_then 61 = .ok (.bipush 11, 2) := by decide +kernel
theorem dL_then_63 : decode cL_then 63 = .ok (.if_icmp .ge 7, 3) := by decide +kernel
theorem dL_then_66 : decode cL_then 66 = .ok (.iconst 3, 1) := by decide +kernel
theorem dL_then_67 : decode cL_then 67 = .ok (.goto 4, 3) := by decide +kernel
theorem dL_then_70 : decode cL_then 70 = .ok (.iconst 1, 1) := by decide +kernel
theorem dL_then_71 : decode cL_then 71 = .ok (.ireturn, 1) := by decide +kernel
theorem dL_wheel_0 : decode cL_wheel 0 = .ok (.iconst 0, 1) := by decide +kernel
theorem dL_wheel_1 : decode cL_wheel 1 = .ok (.istore_n 3, 1) := by decide +kernel
theorem dL_wheel_2 : decode cL_wheel 2 = .ok (.iload_n 3, 1) := by decide +kernel
theorem dL_wheel_3 : decode cL_wheel 3 = .ok (.iconst 5, 1) := by decide +kernel
theorem dL_wheel_4 : decode cL_wheel 4 = .ok (.if_icmp .ge 25, 3) := by decide +kernel
theorem dL_wheel_7 : decode cL_wheel 7 = .ok (.aload_n 2, 1) := by decide +kernel
theorem dL_wheel_8 : decode cL_wheel 8 = .ok (.bipush 6, 2) := by decide +kernel
theorem dL_wheel_10 : decode cL_wheel 10 = .ok (.iload_n 3, 1) := by decide +kernel
theorem dL_wheel_11 : decode cL_wheel 11 = .ok (.imul, 1) := by decide +kernel
theorem dL_wheel_12 : decode cL_wheel 12 = .ok (.iload_n 1, 1) := by decide +kernel
theorem dL_wheel_13 : decode cL_wheel 13 = .ok (.iadd, 1) := by decide +kernel
theorem dL_wheel_14 : decode cL_wheel 14 = .ok (.iaload, 1) := by decide +kernel
theorem dL_wheel_15 : decode cL_wheel 15 = .ok (.iload_n 0, 1) := by decide +kernel
theorem dL_wheel_16 : decode cL_wheel 16 = .ok (.iconst 1, 1) := by decide +kernel
theorem dL_wheel_17 : decode cL_wheel 17 = .ok (.iadd, 1) := by decide +kernel
theorem dL_wheel_18 : decode cL_wheel 18 = .ok (.if_icmp .ne 5, 3) := by decide +kernel
theorem dL_wheel_21 : decode cL_wheel 21 = .ok (.iload_n 3, 1) := by decide +kernel
theorem dL_wheel_22 : decode cL_wheel 22 = .ok (.ireturn, 1) := by decide +kernel
theorem dL_wheel_23 : decode cL_wheel 23 = .ok (.iinc 3 1, 3) := by decide +kernel
theorem dL_wheel_26 : decode cL_wheel 26 = .ok (.goto (-24), 3) := by decide +kernel
theorem dL_wheel_29 : decode cL_wheel 29 = .ok (.iconst (-1), 1) := by decide +kernel
theorem dL_wheel_30 : decode cL_wheel 30 = .ok (.ireturn, 1) := by decide +kernel
set_option maxRecDepth 20000 in
theorem ggL_class1_L_low : GoodIn wsL_class1 wsL_low := goodIn_r _ [5, 6] (by decide +kernel) (by decide +kernel)
set_option maxRecDepth 20000 in
theorem gL_class1_L_low : GoodIn wsL_class1 (va_wsS RL 23 yL_low wsL_low) := goodIn_app (goodIn_of _ (by decide +kernel)) ggL_class1_L_low
set_option maxRecDepth 20000 in
theorem ggL_class1_X6_pupil : GoodIn wsL_class1 wsX6_pupil := goodIn_r _ [11, 12, 13, 14, 15, 16, 17, 18, 19, 20, 21, 22, 23, 24, 25, 26, 27, 28, 29, 30, 31, 32, 33, 34, 35, 36, 37, 38, 39, 40, 41, 42, 43, 44, 45, 46, 47, 48, 49, 50, 51, 52, 53, 54, 55, 56, 57, 58, 59, 60, 61, 62, 63, 64, 65, 66, 67, 68, 69, 70, 71, 72, 73, 74, 75, 76, 77, 78, 79, 80, 81, 82, 83, 84, 85, 202, 203, 204, 205, 206, 207, 208, 209, 210, 211, 212, 213, 214, 215, 216, 217, 218, 219, 220, 221, 222, 223, 224, 225, 226, 227, 228, 229] (by decide +kernel) (by decide +kernel)
set_option maxRecDepth 20000 in
theorem gL_class1_X6_pupil : GoodIn wsL_class1 (wsV RL 27 RX6 yX6_pupil wsX6_pupil) := goodIn_app (goodIn_of _ (by decide +kernel)) ggL_class1_X6_pupil
set_option maxRecDepth 20000 in
theorem ggL_class1_X6_book : GoodIn wsL_class1 wsX6_book := goodIn_r _ [89, 12, 13, 14, 15, 16, 17, 18, 19, 20, 21, 22, 23, 24, 25, 26, 27, 28, 29, 30, 31, 32, 33, 34, 35, 36, 37, 38, 39, 40, 41, 42, 43, 44, 45, 46, 47, 48, 49, 50, 51, 52, 53, 54, 55, 56, 57, 58, 59, 60, 61, 62, 63, 64, 65, 66, 67, 68, 69, 70, 71, 72, 73, 74, 75, 90, 91, 92, 93, 94, 95, 96, 97, 98, 10, 99, 100, 101, 102, 103, 104, 105, 106, 107, 108, 109, 110, 111, 112, 113, 114, 115, 116, 117, 118, 119, 120, 121, 122, 123, 124, 125, 126, 127, 128, 129, 80, 81, 82, 83, 84, 85, 202, 203, 204, 205, 206, 207, 208, 209, 210, 211, 212, 213, 214, 215, 216, 217, 218, 219, 220, 221, 222, 223, 224, 225, 226, 227, 228, 229] (by decide +kernel) (by decide +kernel)
set_option maxRecDepth 20000 in
theorem gL_class1_X6_book : GoodIn wsL_class1 (wsV RL 33 RX6 yX6_book wsX6_book) := goodIn_app (goodIn_of _ (by decide +kernel)) ggL_class1_X6_book
set_option maxRecDepth 20000 in
theorem ggL_class1_X6_throwPot : GoodIn wsL_class1 wsX6_throwPot := goodIn_r _ [133, 12, 13, 14, 15, 16, 17, 18, 19, 20, 21, 22, 23, 24, 25, 26, 27, 28, 29, 30, 31, 32, 33, 34, 35, 36, 37, 38, 39, 40, 41, 42, 43, 44, 45, 46, 47, 48, 49, 50, 51, 52, 53, 54, 55, 56, 57, 58, 59, 60, 61, 62, 63, 64, 65, 66, 67, 68, 69, 70, 71, 72, 73, 74, 75, 134, 135, 136, 137, 94, 95, 96, 97, 101, 10, 102, 117, 118, 119, 120, 121, 106, 107, 108, 109, 110, 111, 112, 113, 114, 115, 116, 138, 139, 140, 141, 142, 143, 144, 145, 146, 147, 148, 149, 150, 151, 152, 153, 154, 155, 156, 157, 158, 159, 160, 161, 162, 163, 164, 165, 166, 167, 168, 169, 170, 171, 127, 128, 129, 172, 173, 174, 175, 80, 81, 82, 83, 84, 85, 202, 203, 204, 205, 206, 207, 208, 209, 210, 211, 212, 213, 214, 215, 216, 217, 218, 219, 220, 221, 222, 223, 224, 225, 226, 227, 228, 229] (by decide +kernel) (by decide +kernel)
set_option maxRecDepth 20000 in
theorem gL_class1_X6_throwPot : GoodIn wsL_class1 (wsV RL 37 RX6 yX6_throwPot wsX6_throwPot) := goodIn_app (goodIn_of _ (by decide +kernel)) ggL_class1_X6_throwPot
set_option maxRecDepth 20000 in
theorem ggL_class1_X6_giveBack : GoodIn wsL_class1 wsX6_giveBack := goodIn_r _ [179, 12, 13, 14, 15, 16, 17, 18, 19, 20, 21, 22, 23, 24, 25, 26, 27, 28, 29, 30, 31, 32, 33, 34, 35, 36, 37, 38, 39, 40, 41, 42, 43, 44, 45, 46, 47, 48, 49, 50, 51, 52, 53, 54, 55, 56, 57, 58, 59, 60, 61, 62, 63, 64, 65, 66, 67, 68, 69, 70, 71, 72, 73, 74, 75, 180, 181, 182, 183, 94, 95, 96, 97, 103, 10, 104, 100, 101, 102, 117, 118, 119, 120, 121, 106, 107, 108, 109, 110, 111, 112, 113, 114, 115, 116, 138, 139, 140, 141, 184, 185, 186, 187, 126, 127, 128, 129, 80, 81, 82, 83, 84, 85, 202, 203, 204, 205, 206, 207, 208, 209, 210, 211, 212, 213, 214, 215, 216, 217, 218, 219, 220, 221, 222, 223, 224, 225, 226, 227, 228, 229] (by decide +kernel) (by decide +kernel)
set_option maxRecDepth 20000 in
theorem gL_class1_X6_giveBack : GoodIn wsL_class1 (wsV RL 40 RX6 yX6_giveBack wsX6_giveBack) := goodIn_app (goodIn_of _ (by decide +kernel)) ggL_class1_X6_giveBack
set_option maxRecDepth 20000 in
theorem ggL_class1_L_wheel : GoodIn wsL_class1 wsL_wheel := goodIn_r _ [190] (by decide +kernel) (by decide +kernel)
set_option maxRecDepth 20000 in
theorem gL_class1_L_wheel : GoodIn wsL_class1 (va_wsS RL 43 yL_wheel wsL_wheel) := goodIn_app (goodIn_of _ (by decide +kernel)) ggL_class1_L_wheel
set_option maxRecDepth 20000 in
theorem ggL_class1_L_free : GoodIn wsL_class1 wsL_free := goodIn_r _ [193, 194, 195, 4, 196, 197] (by decide +kernel) (by decide +kernel)
set_option maxRecDepth 20000 in
theorem gL_class1_L_free : GoodIn wsL_class1 (va_wsS RL 48 yL_free wsL_free) := goodIn_app (goodIn_of _ (by decide +kernel)) ggL_class1_L_free
set_option maxRecDepth 20000 in
theorem ggL_class1_L_with : GoodIn wsL_class1 wsL_with := goodIn_r _ [200, 197, 201] (by decide +kernel) (by decide +kernel)
set_option maxRecDepth 20000 in
theorem gL_class1_L_with : GoodIn wsL_class1 (va_wsS RL 51 yL_with wsL_with) := goodIn_app (goodIn_of _ (by decide +kernel)) ggL_class1_L_with
theorem dL_class1_0 : decode cL_class1 0 = .ok (.iload_n 1, 1) := by decide +kernel
theorem dL_class1_1 : decode cL_class1 1 = .ok (.bipush 8, 2) := by decide +kernel
theorem dL_class1_3 : decode cL_class1 3 = .ok (.invokestatic 23, 3) := by decide +kernel
theorem dL_class1_6 : decode cL_class1 6 = .ok (.istore 7, 2) := by decide +kernel
theorem dL_class1_8 : decode cL_class1 8 = .ok (.iload_n 2, 1) := by decide +kernel
theorem dL_class1_9 : decode cL_class1 9 = .ok (.iload_n 2, 1) := by decide +kernel
theorem dL_class1_10 : decode cL_class1 10 = .ok (.bipush 8, 2) := by decide +kernel
theorem dL_class1_12 : decode cL_class1 12 = .ok (.ishr, 1) := by decide +kernel
theorem dL_class1_13 : decode cL_class1 13 = .ok (.bipush 7, 2) := by decide +kernel
theorem dL_class1_15 : decode cL_class1 15 = .ok (.iand, 1) := by decide +kernel
theorem dL_class1_16 : decode cL_class1 16 = .ok (.ifCond .ne 8, 3) := by decide +kernel
theorem dL_class1_19 : decode cL_class1 19 = .ok (.bipush 10, 2) := by decide +kernel
theorem dL_class1_21 : decode cL_class1 21 = .ok (.goto 4, 3) := by decide +kernel
theorem dL_class1_24 : decode cL_class1 24 = .ok (.iconst 3, 1) := by decide +kernel
theorem dL_class1_25 : decode cL_class1 25 = .ok (.invokestatic 23, 3) := by decide +kernel
theorem dL_class1_28 : decode cL_class1 28 = .ok (.istore 8, 2) := by decide +kernel
theorem dL_class1_30 : decode cL_class1 30 = .ok (.iload 7, 2) := by decide +kernel
theorem dL_class1_32 : decode cL_class1 32 = .ok (.ifCond .ne 54, 3) := by decide +kernel
theorem dL_class1_35 : decode cL_class1 35 = .ok (.aload_n 3, 1) := by decide +kernel
theorem dL_class1_36 : decode cL_class1 36 = .ok (.bipush 6, 2) := by decide +kernel
theorem dL_class1_38 : decode cL_class1 38 = .ok (.iaload, 1) := by decide +kernel
theorem dL_class1_39 : decode cL_class1 39 = .ok (.bipush 10, 2) := by decide +kernel
theorem dL_class1_41 : decode cL_class1 41 = .ok (.if_icmp .ne 18, 3) := by decide +kernel
theorem dL_class1_44 : decode cL_class1 44 = .ok (.aload_n 0, 1) := by decide +kernel
theorem dL_class1_45 : decode cL_class1 45 = .ok (.invokevirtual 27, 3) := by decide +kernel
theorem dL_class1_48 : decode cL_class1 48 = .ok (.bipush (-4), 2) := by decide +kernel
theorem dL_class1_50 : decode cL_class1 50 = .ok (.if_icmp .ne 7, 3) := by decide +kernel
theorem dL_class1_53 : decode cL_class1 53 = .ok (.iconst 1, 1) := by decide +kernel
theorem dL_class1_54 : decode cL_class1 54 = .ok (.goto 4, 3) := by decide +kernel
theorem dL_class1_57 : decode cL_class1 57 = .ok (.iconst 0, 1) := by decide +kernel
theorem dL_class1_58 : decode cL_class1 58 = .ok (.ireturn, 1) := by decide +kernel
theorem dL_class1_59 : decode cL_class1 59 = .ok (.aload_n 3, 1) := by decide +kernel
theorem dL_class1_60 : decode cL_class1 60 = .ok (.bipush 6, 2) := by decide +kernel
theorem dL_class1_62 : decode cL_class1 62 = .ok (.dup2, 1) := by decide +kernel
theorem dL_class1_63 : decode cL_class1 63 = .ok (.iaload, 1) := by decide +kernel
theorem dL_class1_64 : decode cL_class1 64 = .ok (.iconst 1, 1) := by decide +kernel
theorem dL_class1_65 : decode cL_class1 65 = .ok (.iadd, 1) := by decide +kernel
theorem dL_class1_66 : decode cL_class1 66 = .ok (.iastore, 1) := by decide +kernel
theorem dL_class1_67 : decode cL_class1 67 = .ok (.aload_n 0, 1) := by decide +kernel
theorem dL_class1_68 : decode cL_class1 68 = .ok (.invokevirtual 27, 3) := by decide +kernel
theorem dL_class1_71 : decode cL_class1 71 = .ok (.aload_n 3, 1) := by decide +kernel
theorem dL_class1_72 : decode cL_class1 72 = .ok (.bipush 6, 2) := by decide +kernel
theorem dL_class1_74 : decode cL_class1 74 = .ok (.iaload, 1) := by decide +kernel
theorem dL_class1_75 : decode cL_class1 75 = .ok (.iconst 1, 1) := by decide +kernel
theorem dL_class1_76 : decode cL_class1 76 = .ok (.isub, 1) := by decide +kernel
theorem dL_class1_77 : decode cL_class1 77 = .ok (.if_icmp .ne 7, 3) := by decide +kernel
theorem dL_class1_80 : decode cL_class1 80 = .ok (.iconst 1, 1) := by decide +kernel
theorem dL_class1_81 : decode cL_class1 81 = .ok (.goto 4, 3) := by decide +kernel
theorem dL_class1_84 : decode cL_class1 84 = .ok (.iconst 0, 1) := by decide +kernel
theorem dL_class1_85 : decode cL_class1 85 = .ok (.ireturn, 1) := by decide +kernel
theorem dL_class1_86 : decode cL_class1 86 = .ok (.iload 8, 2) := by decide +kernel
theorem dL_class1_88 : decode cL_class1 88 = .ok (.aload_n 3, 1) := by decide +kernel
theorem dL_class1_89 : decode cL_class1 89 = .ok (.bipush 6, 2) := by decide +kernel
theorem dL_class1_91 : decode cL_class1 91 = .ok (.iaload, 1) := by decide +kernel
theorem dL_class1_92 : decode cL_class1 92 = .ok (.if_icmp .lt 45, 3) := by decide +kernel
theorem dL_class1_95 : decode cL_class1 95 = .ok (.aload_n 0, 1) := by decide +kernel
theorem dL_class1_96 : decode cL_class1 96 = .ok (.iload 8, 2) := by decide +kernel
theorem dL_class1_98 : decode cL_class1 98 = .ok (.iconst 0, 1) := by decide +kernel
theorem dL_class1_99 : decode cL_class1 99 = .ok (.bipush 21, 2) := by decide +kernel
theorem dL_class1_101 : decode cL_class1 101 = .ok (.invokevirtual 33, 3) := by decide +kernel
theorem dL_class1_104 : decode cL_class1 104 = .ok (.iconst (-1), 1) := by decide +kernel
theorem dL_class1_105 : decode cL_class1 105 = .ok (.if_icmp .ne 30, 3) := by decide +kernel
theorem dL_class1_108 : decode cL_class1 108 = .ok (.aload_n 0, 1) := by decide +kernel
theorem dL_class1_109 : decode cL_class1 109 = .ok (.iload 8, 2) := by decide +kernel
theorem dL_class1_111 : decode cL_class1 111 = .ok (.iconst 0, 1) := by decide +kernel
theorem dL_class1_112 : decode cL_class1 112 = .ok (.invokevirtual 37, 3) := by decide +kernel
theorem dL_class1_115 : decode cL_class1 115 = .ok (.iconst (-1), 1) := by decide +kernel
theorem dL_class1_116 : decode cL_class1 116 = .ok (.if_icmp .ne 19, 3) := by decide +kernel
theorem dL_class1_119 : decode cL_class1 119 = .ok (.aload_n 0, 1) := by decide +kernel
theorem dL_class1_120 : decode cL_class1 120 = .ok (.iload 8, 2) := by decide +kernel
theorem dL_class1_122 : decode cL_class1 122 = .ok (.bipush 21, 2) := by decide +kernel
theorem dL_class1_124 : decode cL_class1 124 = .ok (.invokevirtual 40, 3) := by decide +kernel
theorem dL_class1_127 : decode cL_class1 127 = .ok (.iconst (-1), 1) := by decide +kernel
theorem dL_class1_128 : decode cL_class1 128 = .ok (.if_icmp .ne 7, 3) := by decide +kernel
theorem dL_class1_131 : decode cL_class1 131 = .ok (.iconst 1, 1) := by decide +kernel
theorem dL_class1_132 : decode cL_class1 132 = .ok (.goto 4, 3) := by decide +kernel
theorem dL_class1_135 : decode cL_class1 135 = .ok (.iconst 0, 1) := by decide +kernel
theorem dL_class1_136 : decode cL_class1 136 = .ok (.ireturn, 1) := by decide +kernel
theorem dL_class1_137 : decode cL_class1 137 = .ok (.iload_n 2, 1) := by decide +kernel
theorem dL_class1_138 : decode cL_class1 138 = .ok (.iconst 3, 1) := by decide +kernel
theorem dL_class1_139 : decode cL_class1 139 = .ok (.ishr, 1) := by decide +kernel
theorem dL_class1_140 : decode cL_class1 140 = .ok (.bipush 6, 2) := by decide +kernel
theorem dL_class1_142 : decode cL_class1 142 = .ok (.invokestatic 23, 3) := by decide +kernel
theorem dL_class1_145 : decode cL_class1 145 = .ok (.istore 9, 2) := by decide +kernel
theorem dL_class1_147 : decode cL_class1 147 = .ok (.iload 7, 2) := by decide +kernel
theorem dL_class1_149 : decode cL_class1 149 = .ok (.iconst 4, 1) := by decide +kernel
theorem dL_class1_150 : decode cL_class1 150 = .ok (.if_icmp .ge 127, 3) := by decide +kernel
theorem dL_class1_153 : decode cL_class1 153 = .ok (.iload_n 2, 1) := by decide +kernel
theorem dL_class1_154 : decode cL_class1 154 = .ok (.bipush 6, 2) := by decide +kernel
theorem dL_class1_156 : decode cL_class1 156 = .ok (.ishr, 1) := by decide +kernel
theorem dL_class1_157 : decode cL_class1 157 = .ok (.iconst 5, 1) := by decide +kernel
theorem dL_class1_158 : decode cL_class1 158 = .ok (.invokestatic 23, 3) := by decide +kernel
theorem dL_class1_161 : decode cL_class1 161 = .ok (.istore 10, 2) := by decide +kernel
theorem dL_class1_163 : decode cL_class1 163 = .ok (.aload 5, 2) := by decide +kernel
theorem dL_class1_165 : decode cL_class1 165 = .ok (.bipush 6, 2) := by decide +kernel
theorem dL_class1_167 : decode cL_class1 167 = .ok (.iload 10, 2) := by decide +kernel
theorem dL_class1_169 : decode cL_class1 169 = .ok (.imul, 1) := by decide +kernel
theorem dL_class1_170 : decode cL_class1 170 = .ok (.iload 9, 2) := by decide +kernel
theorem dL_class1_172 : decode cL_class1 172 = .ok (.iadd, 1) := by decide +kernel
theorem dL_class1_173 : decode cL_class1 173 = .ok (.iaload, 1) := by decide +kernel
theorem dL_class1_174 : decode cL_class1 174 = .ok (.ifCond .gt 15, 3) := by decide +kernel
theorem dL_class1_177 : decode cL_class1 177 = .ok (.iload 8, 2) := by decide +kernel
theorem dL_class1_179 : decode cL_class1 179 = .ok (.iload 9, 2) := by decide +kernel
theorem dL_class1_181 : decode cL_class1 181 = .ok (.aload 5, 2) := by decide +kernel
theorem dL_class1_183 : decode cL_class1 183 = .ok (.invokestatic 43, 3) := by decide +kernel
theorem dL_class1_186 : decode cL_class1 186 = .ok (.ifCond .lt 51, 3) := by decide +kernel
theorem dL_class1_189 : decode cL_class1 189 = .ok (.aload_n 0, 1) := by decide +kernel
theorem dL_class1_190 : decode cL_class1 190 = .ok (.iload 8, 2) := by decide +kernel
theorem dL_class1_192 : decode cL_class1 192 = .ok (.iload 10, 2) := by decide +kernel
theorem dL_class1_194 : decode cL_class1 194 = .ok (.iload 9, 2) := by decide +kernel
theorem dL_class1_196 : decode cL_class1 196 = .ok (.invokevirtual 33, 3) := by decide +kernel
theorem dL_class1_199 : decode cL_class1 199 = .ok (.bipush (-5), 2) := by decide +kernel
theorem dL_class1_201 : decode cL_class1 201 = .ok (.if_icmp .ne 34, 3) := by decide +kernel
theorem dL_class1_204 : decode cL_class1 204 = .ok (.aload_n 0, 1) := by decide +kernel
theorem dL_class1_205 : decode cL_class1 205 = .ok (.iload 8, 2) := by decide +kernel
theorem dL_class1_207 : decode cL_class1 207 = .ok (.iconst 5, 1) := by decide +kernel
theorem dL_class1_208 : decode cL_class1 208 = .ok (.iconst 0, 1) := by decide +kernel
theorem dL_class1_209 : decode cL_class1 209 = .ok (.invokevirtual 33, 3) := by decide +kernel
theorem dL_class1_212 : decode cL_class1 212 = .ok (.iconst (-1), 1) := by decide +kernel
theorem dL_class1_213 : decode cL_class1 213 = .ok (.if_icmp .ne 22, 3) := by decide +kernel
theorem dL_class1_216 : decode cL_class1 216 = .ok (.aload_n 0, 1) := by decide +kernel
theorem dL_class1_217 : decode cL_class1 217 = .ok (.iload 8, 2) := by decide +kernel
theorem dL_class1_219 : decode cL_class1 219 = .ok (.iload 10, 2) := by decide +kernel
theorem dL_class1_221 : decode cL_class1 221 = .ok (.bipush 21, 2) := by decide +kernel
theorem dL_class1_223 : decode cL_class1 223 = .ok (.invokevirtual 33, 3) := by decide +kernel
theorem dL_class1_226 : decode cL_class1 226 = .ok (.bipush (-2), 2) := by decide +kernel
theorem dL_class1_228 : decode cL_class1 228 = .ok (.if_icmp .ne 7, 3) := by decide +kernel
theorem dL_class1_231 : decode cL_class1 231 = .ok (.iconst 1, 1) := by decide +kernel
theorem dL_class1_232 : decode cL_class1 232 = .ok (.goto 4, 3) := by decide +kernel
theorem dL_class1_235 : decode cL_class1 235 = .ok (.iconst 0, 1) := by decide +kernel
theorem dL_class1_236 : decode cL_class1 236 = .ok (.ireturn, 1) := by decide +kernel
theorem dL_class1_237 : decode cL_class1 237 = .ok (.aload 5, 2) := by decide +kernel
theorem dL_class1_239 : decode cL_class1 239 = .ok (.bipush 6, 2) := by decide +kernel
theorem dL_class1_241 : decode cL_class1 241 = .ok (.iload 10, 2) := by decide +kernel
theorem dL_class1_243 : decode cL_class1 243 = .ok (.imul, 1) := by decide +kernel
theorem dL_class1_244 : decode cL_class1 244 = .ok (.iload 9, 2) := by decide +kernel
theorem dL_class1_246 : decode cL_class1 246 = .ok (.iadd, 1) := by decide +kernel
theorem dL_class1_247 : decode cL_class1 247 = .ok (.iload 8, 2) := by decide +kernel
theorem dL_class1_249 : decode cL_class1 249 = .ok (.iconst 1, 1) := by decide +kernel
theorem dL_class1_250 : decode cL_class1 250 = .ok (.iadd, 1) := by decide +kernel
theorem dL_class1_251 : decode cL_class1 251 = .ok (.iastore, 1) := by decide +kernel
theorem dL_class1_252 : decode cL_class1 252 = .ok (.aload_n 0, 1) := by decide +kernel
theorem dL_class1_253 : decode cL_class1 253 = .ok (.iload 8, 2) := by decide +kernel
theorem dL_class1_255 : decode cL_class1 255 = .ok (.iload 10, 2) := by decide +kernel
theorem dL_class1_257 : decode cL_class1 257 = .ok (.iload 9, 2) := by decide +kernel
theorem dL_class1_259 : decode cL_class1 259 = .ok (.invokevirtual 33, 3) := by decide +kernel
theorem dL_class1_262 : decode cL_class1 262 = .ok (.aload_n 3, 1) := by decide +kernel
theorem dL_class1_263 : decode cL_class1 263 = .ok (.iconst 0, 1) := by decide +kernel
theorem dL_class1_264 : decode cL_class1 264 = .ok (.iaload, 1) := by decide +kernel
theorem dL_class1_265 : decode cL_class1 265 = .ok (.iload 9, 2) := by decide +kernel
theorem dL_class1_267 : decode cL_class1 267 = .ok (.iadd, 1) := by decide +kernel
theorem dL_class1_268 : decode cL_class1 268 = .ok (.if_icmp .ne 7, 3) := by decide +kernel
theorem dL_class1_271 : decode cL_class1 271 = .ok (.iconst 1, 1) := by decide +kernel
theorem dL_class1_272 : decode cL_class1 272 = .ok (.goto 4, 3) := by decide +kernel
theorem dL_class1_275 : decode cL_class1 275 = .ok (.iconst 0, 1) := by decide +kernel
theorem dL_class1_276 : decode cL_class1 276 = .ok (.ireturn, 1) := by decide +kernel
theorem dL_class1_277 : decode cL_class1 277 = .ok (.iload 7, 2) := by decide +kernel
theorem dL_class1_279 : decode cL_class1 279 = .ok (.iconst 4, 1) := by decide +kernel
theorem dL_class1_280 : decode cL_class1 280 = .ok (.if_icmp .ne 85, 3) := by decide +kernel
theorem dL_class1_283 : decode cL_class1 283 = .ok (.iload 8, 2) := by decide +kernel
theorem dL_class1_285 : decode cL_class1 285 = .ok (.iload 9, 2) := by decide +kernel
theorem dL_class1_287 : decode cL_class1 287 = .ok (.aload 5, 2) := by decide +kernel
theorem dL_class1_289 : decode cL_class1 289 = .ok (.invokestatic 43, 3) := by decide +kernel
theorem dL_class1_292 : decode cL_class1 292 = .ok (.istore 10, 2) := by decide +kernel
theorem dL_class1_294 : decode cL_class1 294 = .ok (.iload 10, 2) := by decide +kernel
theorem dL_class1_296 : decode cL_class1 296 = .ok (.ifCond .lt 19, 3) := by decide +kernel
theorem dL_class1_299 : decode cL_class1 299 = .ok (.iload 9, 2) := by decide +kernel
theorem dL_class1_301 : decode cL_class1 301 = .ok (.ifCond .ne 33, 3) := by decide +kernel
theorem dL_class1_304 : decode cL_class1 304 = .ok (.aload 6, 2) := by decide +kernel
theorem dL_class1_306 : decode cL_class1 306 = .ok (.iconst 2, 1) := by decide +kernel
theorem dL_class1_307 : decode cL_class1 307 = .ok (.iload 8, 2) := by decide +kernel
theorem dL_class1_309 : decode cL_class1 309 = .ok (.imul, 1) := by decide +kernel
theorem dL_class1_310 : decode cL_class1 310 = .ok (.iaload, 1) := by decide +kernel
theorem dL_class1_311 : decode cL_class1 311 = .ok (.iconst 1, 1) := by decide +kernel
theorem dL_class1_312 : decode cL_class1 312 = .ok (.if_icmp .ne 22, 3) := by decide +kernel
theorem dL_class1_315 : decode cL_class1 315 = .ok (.aload_n 0, 1) := by decide +kernel
theorem dL_class1_316 : decode cL_class1 316 = .ok (.iload 8, 2) := by decide +kernel
theorem dL_class1_318 : decode cL_class1 318 = .ok (.iload 9, 2) := by decide +kernel
theorem dL_class1_320 : decode cL_class1 320 = .ok (.invokevirtual 40, 3) := by decide +kernel
theorem dL_class1_323 : decode cL_class1 323 = .ok (.bipush (-5), 2) := by decide +kernel
theorem dL_class1_325 : decode cL_class1 325 = .ok (.if_icmp .ne 7, 3) := by decide +kernel
theorem dL_class1_328 : decode cL_class1 328 = .ok (.iconst 1, 1) := by decide +kernel
theorem dL_class1_329 : decode cL_class1 329 = .ok (.goto 4, 3) := by decide +kernel
theorem dL_class1_332 : decode cL_class1 332 = .ok (.iconst 0, 1) := by decide +kernel
theorem dL_class1_333 : decode cL_class1 333 = .ok (.ireturn, 1) := by decide +kernel
theorem dL_class1_334 : decode cL_class1 334 = .ok (.aload 5, 2) := by decide +kernel
theorem dL_class1_336 : decode cL_class1 336 = .ok (.bipush 6, 2) := by decide +kernel
theorem dL_class1_338 : decode cL_class1 338 = .ok (.iload 10, 2) := by decide +kernel
theorem dL_class1_340 : decode cL_class1 340 = .ok (.imul, 1) := by decide +kernel
theorem dL_class1_341 : decode cL_class1 341 = .ok (.iload 9, 2) := by decide +kernel
theorem dL_class1_343 : decode cL_class1 343 = .ok (.iadd, 1) := by decide +kernel
theorem dL_class1_344 : decode cL_class1 344 = .ok (.iconst 0, 1) := by decide +kernel
theorem dL_class1_345 : decode cL_class1 345 = .ok (.iastore, 1) := by decide +kernel
theorem dL_class1_346 : decode cL_class1 346 = .ok (.aload_n 0, 1) := by decide +kernel
theorem dL_class1_347 : decode cL_class1 347 = .ok (.iload 8, 2) := by decide +kernel
theorem dL_class1_349 : decode cL_class1 349 = .ok (.iload 9, 2) := by decide +kernel
theorem dL_class1_351 : decode cL_class1 351 = .ok (.invokevirtual 40, 3) := by decide +kernel
theorem dL_class1_354 : decode cL_class1 354 = .ok (.iload 10, 2) := by decide +kernel
theorem dL_class1_356 : decode cL_class1 356 = .ok (.if_icmp .ne 7, 3) := by decide +kernel
theorem dL_class1_359 : decode cL_class1 359 = .ok (.iconst 1, 1) := by decide +kernel
theorem dL_class1_360 : decode cL_class1 360 = .ok (.goto 4, 3) := by decide +kernel
theorem dL_class1_363 : decode cL_class1 363 = .ok (.iconst 0, 1) := by decide +kernel
theorem dL_class1_364 : decode cL_class1 364 = .ok (.ireturn, 1) := by decide +kernel
theorem dL_class1_365 : decode cL_class1 365 = .ok (.iconst 1, 1) := by decide +kernel
theorem dL_class1_366 : decode cL_class1 366 = .ok (.iload_n 2, 1) := by decide +kernel
theorem dL_class1_367 : decode cL_class1 367 = .ok (.bipush 6, 2) := by decide +kernel
theorem dL_class1_369 : decode cL_class1 369 = .ok (.ishr, 1) := by decide +kernel
theorem dL_class1_370 : decode cL_class1 370 = .ok (.iconst 3, 1) := by decide +kernel
theorem dL_class1_371 : decode cL_class1 371 = .ok (.invokestatic 23, 3) := by decide +kernel
theorem dL_class1_374 : decode cL_class1 374 = .ok (.iadd, 1) := by decide +kernel
theorem dL_class1_375 : decode cL_class1 375 = .ok (.istore 10, 2) := by decide +kernel
theorem dL_class1_377 : decode cL_class1 377 = .ok (.iload 8, 2) := by decide +kernel
theorem dL_class1_379 : decode cL_class1 379 = .ok (.iconst 0, 1) := by decide +kernel
theorem dL_class1_380 : decode cL_class1 380 = .ok (.aload 5, 2) := by decide +kernel
theorem dL_class1_382 : decode cL_class1 382 = .ok (.invokestatic 43, 3) := by decide +kernel
theorem dL_class1_385 : decode cL_class1 385 = .ok (.ifCond .lt 14, 3) := by decide +kernel
theorem dL_class1_388 : decode cL_class1 388 = .ok (.aload 6, 2) := by decide +kernel
theorem dL_class1_390 : decode cL_class1 390 = .ok (.iconst 2, 1) := by decide +kernel
theorem dL_class1_391 : decode cL_class1 391 = .ok (.iload 8, 2) := by decide +kernel
theorem dL_class1_393 : decode cL_class1 393 = .ok (.imul, 1) := by decide +kernel
theorem dL_class1_394 : decode cL_class1 394 = .ok (.iaload, 1) := by decide +kernel
theorem dL_class1_395 : decode cL_class1 395 = .ok (.iconst 1, 1) := by decide +kernel
theorem dL_class1_396 : decode cL_class1 396 = .ok (.if_icmp .ne 34, 3) := by decide +kernel
theorem dL_class1_399 : decode cL_class1 399 = .ok (.aload_n 0, 1) := by decide +kernel
theorem dL_class1_400 : decode cL_class1 400 = .ok (.iload 8, 2) := by decide +kernel
theorem dL_class1_402 : decode cL_class1 402 = .ok (.iload 10, 2) := by decide +kernel
theorem dL_class1_404 : decode cL_class1 404 = .ok (.invokevirtual 37, 3) := by decide +kernel
theorem dL_class1_407 : decode cL_class1 407 = .ok (.bipush (-5), 2) := by decide +kernel
theorem dL_class1_409 : decode cL_class1 409 = .ok (.if_icmp .ne 19, 3) := by decide +kernel
theorem dL_class1_412 : decode cL_class1 412 = .ok (.aload_n 0, 1) := by decide +kernel
theorem dL_class1_413 : decode cL_class1 413 = .ok (.iload 8, 2) := by decide +kernel
theorem dL_class1_415 : decode cL_class1 415 = .ok (.iconst 4, 1) := by decide +kernel
theorem dL_class1_416 : decode cL_class1 416 = .ok (.invokevirtual 37, 3) := by decide +kernel
theorem dL_class1_419 : decode cL_class1 419 = .ok (.bipush (-2), 2) := by decide +kernel
theorem dL_class1_421 : decode cL_class1 421 = .ok (.if_icmp .ne 7, 3) := by decide +kernel
theorem dL_class1_424 : decode cL_class1 424 = .ok (.iconst 1, 1) := by decide +kernel
theorem dL_class1_425 : decode cL_class1 425 = .ok (.goto 4, 3) := by decide +kernel
theorem dL_class1_428 : decode cL_class1 428 = .ok (.iconst 0, 1) := by decide +kernel
theorem dL_class1_429 : decode cL_class1 429 = .ok (.ireturn, 1) := by decide +kernel
theorem dL_class1_430 : decode cL_class1 430 = .ok (.aload_n 3, 1) := by decide +kernel
theorem dL_class1_431 : decode cL_class1 431 = .ok (.bipush 7, 2) := by decide +kernel
theorem dL_class1_433 : decode cL_class1 433 = .ok (.iaload, 1) := by decide +kernel
theorem dL_class1_434 : decode cL_class1 434 = .ok (.bipush 20, 2) := by decide +kernel
theorem dL_class1_436 : decode cL_class1 436 = .ok (.if_icmp .ne 22, 3) := by decide +kernel
theorem dL_class1_439 : decode cL_class1 439 = .ok (.aload_n 0, 1) := by decide +kernel
theorem dL_class1_440 : decode cL_class1 440 = .ok (.iload 8, 2) := by decide +kernel
theorem dL_class1_442 : decode cL_class1 442 = .ok (.iload 10, 2) := by decide +kernel
theorem dL_class1_444 : decode cL_class1 444 = .ok (.invokevirtual 37, 3) := by decide +kernel
theorem dL_class1_447 : decode cL_class1 447 = .ok (.bipush (-4), 2) := by decide +kernel
theorem dL_class1_449 : decode cL_class1 449 = .ok (.if_icmp .ne 7, 3) := by decide +kernel
theorem dL_class1_452 : decode cL_class1 452 = .ok (.iconst 1, 1) := by decide +kernel
theorem dL_class1_453 : decode cL_class1 453 = .ok (.goto 4, 3) := by decide +kernel
theorem dL_class1_456 : decode cL_class1 456 = .ok (.iconst 0, 1) := by decide +kernel
theorem dL_class1_457 : decode cL_class1 457 = .ok (.ireturn, 1) := by decide +kernel
theorem dL_class1_458 : decode cL_class1 458 = .ok (.aload_n 3, 1) := by decide +kernel
theorem dL_class1_459 : decode cL_class1 459 = .ok (.iconst 1, 1) := by decide +kernel
theorem dL_class1_460 : decode cL_class1 460 = .ok (.aload_n 3, 1) := by decide +kernel
theorem dL_class1_461 : decode cL_class1 461 = .ok (.iconst 1, 1) := by decide +kernel
theorem dL_class1_462 : decode cL_class1 462 = .ok (.iaload, 1) := by decide +kernel
theorem dL_class1_463 : decode cL_class1 463 = .ok (.bipush 75, 2) := by decide +kernel
theorem dL_class1_465 : decode cL_class1 465 = .ok (.imul, 1) := by decide +kernel
theorem dL_class1_466 : decode cL_class1 466 = .ok (.bipush 74, 2) := by decide +kernel
theorem dL_class1_468 : decode cL_class1 468 = .ok (.iadd, 1) := by decide +kernel
theorem dL_class1_469 : decode cL_class1 469 = .ok (.ldc 47, 2) := by decide +kernel
theorem dL_class1_471 : decode cL_class1 471 = .ok (.irem, 1) := by decide +kernel
theorem dL_class1_472 : decode cL_class1 472 = .ok (.iastore, 1) := by decide +kernel
theorem dL_class1_473 : decode cL_class1 473 = .ok (.aload_n 3, 1) := by decide +kernel
theorem dL_class1_474 : decode cL_class1 474 = .ok (.aload 4, 2) := by decide +kernel
theorem dL_class1_476 : decode cL_class1 476 = .ok (.invokestatic 48, 3) := by decide +kernel
theorem dL_class1_479 : decode cL_class1 479 = .ok (.istore 11, 2) := by decide +kernel
theorem dL_class1_481 : decode cL_class1 481 = .ok (.aload 4, 2) := by decide +kernel
theorem dL_class1_483 : decode cL_class1 483 = .ok (.aload_n 3, 1) := by decide +kernel
theorem dL_class1_484 : decode cL_class1 484 = .ok (.bipush 7, 2) := by decide +kernel
theorem dL_class1_486 : decode cL_class1 486 = .ok (.iaload, 1) := by decide +kernel
theorem dL_class1_487 : decode cL_class1 487 = .ok (.lconst 0, 1) := by decide +kernel
theorem dL_class1_488 : decode cL_class1 488 = .ok (.iconst 0, 1) := by decide +kernel
theorem dL_class1_489 : decode cL_class1 489 = .ok (.iload 8, 2) := by decide +kernel
theorem dL_class1_491 : decode cL_class1 491 = .ok (.invokestatic 51, 3) := by decide +kernel
theorem dL_class1_494 : decode cL_class1 494 = .ok (.iconst 1, 1) := by decide +kernel
theorem dL_class1_495 : decode cL_class1 495 = .ok (.iload 10, 2) := by decide +kernel
theorem dL_class1_497 : decode cL_class1 497 = .ok (.invokestatic 51, 3) := by decide +kernel
theorem dL_class1_500 : decode cL_class1 500 = .ok (.iconst 2, 1) := by decide +kernel
theorem dL_class1_501 : decode cL_class1 501 = .ok (.aload_n 3, 1) := by decide +kernel
theorem dL_class1_502 : decode cL_class1 502 = .ok (.iconst 1, 1) := by decide +kernel
theorem dL_class1_503 : decode cL_class1 503 = .ok (.iaload, 1) := by decide +kernel
theorem dL_class1_504 : decode cL_class1 504 = .ok (.iconst 3, 1) := by decide +kernel
theorem dL_class1_505 : decode cL_class1 505 = .ok (.ishr, 1) := by decide +kernel
theorem dL_class1_506 : decode cL_class1 506 = .ok (.bipush 10, 2) := by decide +kernel
theorem dL_class1_508 : decode cL_class1 508 = .ok (.irem, 1) := by decide +kernel
theorem dL_class1_509 : decode cL_class1 509 = .ok (.invokestatic 51, 3) := by decide +kernel
theorem dL_class1_512 : decode cL_class1 512 = .ok (.iconst 4, 1) := by decide +kernel
theorem dL_class1_513 : decode cL_class1 513 = .ok (.iload 11, 2) := by decide +kernel
theorem dL_class1_515 : decode cL_class1 515 = .ok (.invokestatic 51, 3) := by decide +kernel
theorem dL_class1_518 : decode cL_class1 518 = .ok (.lastore, 1) := by decide +kernel
theorem dL_class1_519 : decode cL_class1 519 = .ok (.aload 6, 2) := by decide +kernel
theorem dL_class1_521 : decode cL_class1 521 = .ok (.iconst 2, 1) := by decide +kernel
theorem dL_class1_522 : decode cL_class1 522 = .ok (.iload 8, 2) := by decide +kernel
theorem dL_class1_524 : decode cL_class1 524 = .ok (.imul, 1) := by decide +kernel
theorem dL_class1_525 : decode cL_class1 525 = .ok (.iconst 1, 1) := by decide +kernel
theorem dL_class1_526 : decode cL_class1 526 = .ok (.iastore, 1) := by decide +kernel
theorem dL_class1_527 : decode cL_class1 527 = .ok (.aload_n 3, 1) := by decide +kernel
theorem dL_class1_528 : decode cL_class1 528 = .ok (.bipush 7, 2) := by decide +kernel
theorem dL_class1_530 : decode cL_class1 530 = .ok (.dup2, 1) := by decide +kernel
theorem dL_class1_531 : decode cL_class1 531 = .ok (.iaload, 1) := by decide +kernel
theorem dL_class1_532 : decode cL_class1 532 = .ok (.iconst 1, 1) := by decide +kernel
theorem dL_class1_533 : decode cL_class1 533 = .ok (.iadd, 1) := by decide +kernel
theorem dL_class1_534 : decode cL_class1 534 = .ok (.iastore, 1) := by decide +kernel
theorem dL_class1_535 : decode cL_class1 535 = .ok (.aload_n 0, 1) := by decide +kernel
theorem dL_class1_536 : decode cL_class1 536 = .ok (.iload 8, 2) := by decide +kernel
theorem dL_class1_538 : decode cL_class1 538 = .ok (.iload 10, 2) := by decide +kernel
theorem dL_class1_540 : decode cL_class1 540 = .ok (.invokevirtual 37, 3) := by decide +kernel
theorem dL_class1_543 : decode cL_class1 543 = .ok (.aload_n 3, 1) := by decide +kernel
theorem dL_class1_544 : decode cL_class1 544 = .ok (.bipush 7, 2) := by decide +kernel
theorem dL_class1_546 : decode cL_class1 546 = .ok (.iaload, 1) := by decide +kernel
theorem dL_class1_547 : decode cL_class1 547 = .ok (.iconst 1, 1) := by decide +kernel
theorem dL_class1_548 : decode cL_class1 548 = .ok (.isub, 1) := by decide +kernel
theorem dL_class1_549 : decode cL_class1 549 = .ok (.if_icmp .ne 7, 3) := by decide +kernel
theorem dL_class1_552 : decode cL_class1 552 = .ok (.iconst 1, 1) := by decide +kernel
theorem dL_class1_553 : decode cL_class1 553 = .ok (.goto 4, 3) := by decide +kernel
theorem dL_class1_556 : decode cL_class1 556 = .ok (.iconst 0, 1) := by decide +kernel
theorem dL_class1_557 : decode cL_class1 557 = .ok (.ireturn, 1) := by decide +kernel
set_option maxRecDepth 20000 in
theorem ggL_pots_L_low : GoodIn wsL_pots wsL_low := goodIn_r _ [4, 5] (by decide +kernel) (by decide +kernel)
set_option maxRecDepth 20000 in
theorem gL_pots_L_low : GoodIn wsL_pots (va_wsS RL 23 yL_low wsL_low) := goodIn_app (goodIn_of _ (by decide +kernel)) ggL_pots_L_low
set_option maxRecDepth 20000 in
theorem ggL_pots_X6_load : GoodIn wsL_pots wsX6_load := goodIn_r _ [10, 11, 12, 13, 14, 15, 16, 17, 18, 19, 20, 21, 22, 23, 24, 25, 26, 27, 28, 29, 30, 31, 32, 33, 34, 35, 36, 37, 38, 39, 40, 41, 42, 43, 44, 45, 46, 47, 48, 49, 50, 51, 52, 53, 54, 55, 56, 57, 58, 59, 60, 61, 62, 63, 64, 65, 66, 67, 68, 69, 70, 71, 72, 73, 74, 75, 76, 77, 78, 79, 80, 81, 82, 83, 84, 85, 86, 87, 88, 89, 90, 91, 92, 93, 94, 95, 96, 97, 98, 99, 100, 101, 102, 103, 104, 105, 106, 107, 108, 109, 110, 111, 112, 113, 114, 115, 116, 117, 118, 119, 120, 121, 122, 123, 124, 125, 126, 127, 128, 129, 130, 131, 132, 133, 134, 135, 136, 137, 138, 139, 140, 260, 261, 262, 263, 264, 265, 266, 267, 268, 269, 270, 271, 272, 273, 274, 275, 276, 277, 278, 279, 280, 281, 282, 283, 284, 285, 286, 287] (by decide +kernel) (by decide +kernel)
set_option maxRecDepth 20000 in
theorem gL_pots_X6_load : GoodIn wsL_pots (wsV RL 55 RX6 yX6_load wsX6_load) := goodIn_app (goodIn_of _ (by decide +kernel)) ggL_pots_X6_load
set_option maxRecDepth 20000 in
theorem ggL_pots_X6_unload : GoodIn wsL_pots wsX6_unload := goodIn_r _ [144, 11, 12, 13, 14, 15, 16, 17, 18, 19, 20, 21, 22, 23, 24, 25, 26, 27, 28, 29, 30, 31, 32, 33, 34, 35, 36, 37, 38, 39, 40, 41, 42, 43, 44, 45, 46, 47, 48, 49, 50, 51, 52, 53, 54, 55, 56, 57, 58, 59, 60, 61, 62, 63, 64, 65, 66, 67, 68, 69, 70, 71, 72, 73, 74, 145, 146, 147, 148, 83, 84, 85, 86, 149, 128, 129, 130, 91, 92, 93, 94, 150, 151, 152, 153, 154, 155, 156, 157, 158, 159, 160, 161, 162, 163, 164, 165, 166, 167, 168, 169, 132, 133, 134, 106, 135, 136, 137, 138, 139, 140, 260, 261, 262, 263, 264, 265, 266, 267, 268, 269, 270, 271, 272, 273, 274, 275, 276, 277, 278, 279, 280, 281, 282, 283, 284, 285, 286, 287] (by decide +kernel) (by decide +kernel)
set_option maxRecDepth 20000 in
theorem gL_pots_X6_unload : GoodIn wsL_pots (wsV RL 59 RX6 yX6_unload wsX6_unload) := goodIn_app (goodIn_of _ (by decide +kernel)) ggL_pots_X6_unload
set_option maxRecDepth 20000 in
theorem ggL_pots_X6_glaze : GoodIn wsL_pots wsX6_glaze := goodIn_r _ [173, 11, 12, 13, 14, 15, 16, 17, 18, 19, 20, 21, 22, 23, 24, 25, 26, 27, 28, 29, 30, 31, 32, 33, 34, 35, 36, 37, 38, 39, 40, 41, 42, 43, 44, 45, 46, 47, 48, 49, 50, 51, 52, 53, 54, 55, 56, 57, 58, 59, 60, 61, 62, 63, 64, 65, 66, 67, 68, 69, 70, 71, 72, 73, 74, 174, 175, 176, 177, 83, 84, 85, 86, 178, 9, 179, 180, 181, 182, 106, 92, 93, 94, 95, 96, 97, 98, 91, 87, 88, 89, 90, 183, 184, 185, 186, 187, 188, 132, 133, 134, 131, 135, 136, 137, 138, 139, 140, 260, 261, 262, 263, 264, 265, 266, 267, 268, 269, 270, 271, 272, 273, 274, 275, 276, 277, 278, 279, 280, 281, 282, 283, 284, 285, 286, 287] (by decide +kernel) (by decide +kernel)
set_option maxRecDepth 20000 in
theorem gL_pots_X6_glaze : GoodIn wsL_pots (wsV RL 62 RX6 yX6_glaze wsX6_glaze) := goodIn_app (goodIn_of _ (by decide +kernel)) ggL_pots_X6_glaze
set_option maxRecDepth 20000 in
theorem ggL_pots_X6_takeHome : GoodIn wsL_pots wsX6_takeHome := goodIn_r _ [192, 11, 12, 13, 14, 15, 16, 17, 18, 19, 20, 21, 22, 23, 24, 25, 26, 27, 28, 29, 30, 31, 32, 33, 34, 35, 36, 37, 38, 39, 40, 41, 42, 43, 44, 45, 46, 47, 48, 49, 50, 51, 52, 53, 54, 55, 56, 57, 58, 59, 60, 61, 62, 63, 64, 65, 66, 67, 68, 69, 70, 71, 72, 73, 74, 193, 194, 195, 196, 83, 84, 85, 86, 95, 96, 97, 98, 91, 92, 93, 94, 87, 88, 89, 90, 106, 183, 184, 185, 186, 187, 188, 132, 133, 134, 131, 135, 136, 137, 138, 139, 140, 260, 261, 262, 263, 264, 265, 266, 267, 268, 269, 270, 271, 272, 273, 274, 275, 276, 277, 278, 279, 280, 281, 282, 283, 284, 285, 286, 287] (by decide +kernel) (by decide +kernel)
set_option maxRecDepth 20000 in
theorem gL_pots_X6_takeHome : GoodIn wsL_pots (wsV RL 65 RX6 yX6_takeHome wsX6_takeHome) := goodIn_app (goodIn_of _ (by decide +kernel)) ggL_pots_X6_takeHome
set_option maxRecDepth 20000 in
theorem ggL_pots_X6_fire : GoodIn wsL_pots wsX6_fire := goodIn_r _ [200, 11, 12, 13, 14, 15, 16, 17, 18, 19, 20, 21, 22, 23, 24, 25, 26, 27, 28, 29, 30, 31, 32, 33, 34, 35, 36, 37, 38, 39, 40, 41, 42, 43, 44, 45, 46, 47, 48, 49, 50, 51, 52, 53, 54, 55, 56, 57, 58, 59, 60, 61, 62, 63, 64, 65, 66, 67, 68, 69, 70, 71, 72, 73, 74, 201, 202, 203, 204, 205, 9, 206, 180, 181, 182, 207, 112, 113, 114, 115, 116, 117, 118, 208, 209, 210, 211, 149, 128, 129, 130, 91, 92, 93, 94, 106, 212, 213, 214, 215, 216, 96, 97, 98, 217, 218, 219, 220, 221, 159, 160, 161, 162, 163, 164, 150, 151, 152, 153, 154, 155, 156, 157, 158, 222, 223, 224, 225, 131, 132, 133, 134, 183, 184, 185, 186, 187, 188, 95, 165, 166, 167, 168, 169, 135, 136, 137, 138, 139, 140, 260, 261, 262, 263, 264, 265, 266, 267, 268, 269, 270, 271, 272, 273, 274, 275, 276, 277, 278, 279, 280, 281, 282, 283, 284, 285, 286, 287] (by decide +kernel) (by decide +kernel)
set_option maxRecDepth 20000 in
theorem gL_pots_X6_fire : GoodIn wsL_pots (wsV RL 68 RX6 yX6_fire wsX6_fire) := goodIn_app (goodIn_of _ (by decide +kernel)) ggL_pots_X6_fire
set_option maxRecDepth 20000 in
theorem ggL_pots_L_why : GoodIn wsL_pots wsL_why := goodIn_r _ [228, 229, 230, 3, 231, 232, 233, 234, 235] (by decide +kernel) (by decide +kernel)
set_option maxRecDepth 20000 in
theorem gL_pots_L_why : GoodIn wsL_pots (va_wsS RL 71 yL_why wsL_why) := goodIn_app (goodIn_of _ (by decide +kernel)) ggL_pots_L_why
set_option maxRecDepth 20000 in
theorem ggL_pots_X6_why : GoodIn wsL_pots wsX6_why := goodIn_r _ [239, 12, 240, 80, 81, 27, 82, 31, 29, 83, 84, 85, 63, 86, 73, 87, 88, 89, 90, 69, 91, 92, 93, 40, 94, 42, 95, 96, 97, 98, 68, 99, 100, 101, 102, 103, 104, 45, 105, 106, 107, 108, 109, 110, 111, 112, 113, 114, 115, 116, 117, 118, 119, 120, 121, 122, 123, 124, 125, 126, 66, 127, 128, 129, 130, 260, 261, 262, 263, 267, 268, 269, 270, 271, 272, 273, 274, 279, 280, 281, 282, 283, 284, 285, 286, 287, 275] (by decide +kernel) (by decide +kernel)
set_option maxRecDepth 20000 in
theorem gL_pots_X6_why : GoodIn wsL_pots (wsV RL 75 RX6 yX6_why wsX6_why) := goodIn_app (goodIn_of _ (by decide +kernel)) ggL_pots_X6_why
set_option maxRecDepth 20000 in
theorem ggL_pots_L_with : GoodIn wsL_pots wsL_with := goodIn_r _ [243, 232, 244] (by decide +kernel) (by decide +kernel)
set_option maxRecDepth 20000 in
theorem gL_pots_L_with : GoodIn wsL_pots (va_wsS RL 51 yL_with wsL_with) := goodIn_app (goodIn_of _ (by decide +kernel)) ggL_pots_L_with
set_option maxRecDepth 20000 in
theorem ggL_pots_L_inKiln : GoodIn wsL_pots wsL_inKiln := goodIn_r _ [235, 229, 230, 3, 231, 232] (by decide +kernel) (by decide +kernel)
set_option maxRecDepth 20000 in
theorem gL_pots_L_inKiln : GoodIn wsL_pots (va_wsS RL 19 yL_inKiln wsL_inKiln) := goodIn_app (goodIn_of _ (by decide +kernel)) ggL_pots_L_inKiln
set_option maxRecDepth 20000 in
theorem ggL_pots_L_part : GoodIn wsL_pots wsL_part := goodIn_r _ [231, 232] (by decide +kernel) (by decide +kernel)
set_option maxRecDepth 20000 in
theorem gL_pots_L_part : GoodIn wsL_pots (va_wsS RL 13 yL_part wsL_part) := goodIn_app (goodIn_of _ (by decide +kernel)) ggL_pots_L_part
set_option maxRecDepth 20000 in
theorem ggL_pots_L_free : GoodIn wsL_pots wsL_free := goodIn_r _ [247, 229, 230, 3, 231, 232] (by decide +kernel) (by decide +kernel)
set_option maxRecDepth 20000 in
theorem gL_pots_L_free : GoodIn wsL_pots (va_wsS RL 48 yL_free wsL_free) := goodIn_app (goodIn_of _ (by decide +kernel)) ggL_pots_L_free
set_option maxRecDepth 20000 in
theorem ggL_pots_L_then : GoodIn wsL_pots wsL_then := goodIn_r _ [250, 229, 230, 3, 231, 232] (by decide +kernel) (by decide +kernel)
set_option maxRecDepth 20000 in
theorem gL_pots_L_then : GoodIn wsL_pots (va_wsS RL 77 yL_then wsL_then) := goodIn_app (goodIn_of _ (by decide +kernel)) ggL_pots_L_then
set_option maxRecDepth 20000 in
theorem ggL_pots_X6_fill : GoodIn wsL_pots wsX6_fill := goodIn_r _ [254, 11, 12, 13, 14, 15, 16, 17, 18, 19, 20, 21, 22, 23, 24, 25, 26, 27, 28, 29, 30, 31, 32, 33, 34, 35, 36, 37, 38, 39, 40, 41, 42, 43, 44, 45, 46, 47, 48, 49, 50, 51, 52, 53, 54, 55, 56, 57, 58, 59, 60, 61, 62, 63, 64, 65, 66, 67, 68, 69, 70, 71, 72, 73, 74, 255, 256, 257, 258, 259, 178, 9, 179, 180, 181, 182, 106, 92, 93, 94, 131, 132, 133, 134, 135, 136, 137, 138, 139, 140, 260, 261, 262, 263, 264, 265, 266, 267, 268, 269, 270, 271, 272, 273, 274, 275, 276, 277, 278, 279, 280, 281, 282, 283, 284, 285, 286, 287] (by decide +kernel) (by decide +kernel)
set_option maxRecDepth 20000 in
theorem gL_pots_X6_fill : GoodIn wsL_pots (wsV RL 81 RX6 yX6_fill wsX6_fill) := goodIn_app (goodIn_of _ (by decide +kernel)) ggL_pots_X6_fill
theorem dL_pots_0 : decode cL_pots 0 = .ok (.iload_n 1, 1) := by decide +kernel
theorem dL_pots_1 : decode cL_pots 1 = .ok (.bipush 12, 2) := by decide +kernel
theorem dL_pots_3 : decode cL_pots 3 = .ok (.invokestatic 23, 3) := by decide +kernel
theorem dL_pots_6 : decode cL_pots 6 = .ok (.istore 6, 2) := by decide +kernel
theorem dL_pots_8 : decode cL_pots 8 = .ok (.aload_n 3, 1) := by decide +kernel
theorem dL_pots_9 : decode cL_pots 9 = .ok (.bipush 7, 2) := by decide +kernel
theorem dL_pots_11 : decode cL_pots 11 = .ok (.iaload, 1) := by decide +kernel
theorem dL_pots_12 : decode cL_pots 12 = .ok (.ifCond .ne 68, 3) := by decide +kernel
theorem dL_pots_15 : decode cL_pots 15 = .ok (.aload_n 0, 1) := by decide +kernel
theorem dL_pots_16 : decode cL_pots 16 = .ok (.iconst 0, 1) := by decide +kernel
theorem dL_pots_17 : decode cL_pots 17 = .ok (.invokevirtual 55, 3) := by decide +kernel
theorem dL_pots_20 : decode cL_pots 20 = .ok (.iconst (-1), 1) := by decide +kernel
theorem dL_pots_21 : decode cL_pots 21 = .ok (.if_icmp .ne 57, 3) := by decide +kernel
theorem dL_pots_24 : decode cL_pots 24 = .ok (.aload_n 0, 1) := by decide +kernel
theorem dL_pots_25 : decode cL_pots 25 = .ok (.iconst (-1), 1) := by decide +kernel
theorem dL_pots_26 : decode cL_pots 26 = .ok (.invokevirtual 59, 3) := by decide +kernel
theorem dL_pots_29 : decode cL_pots 29 = .ok (.iconst (-1), 1) := by decide +kernel
theorem dL_pots_30 : decode cL_pots 30 = .ok (.if_icmp .ne 48, 3) := by decide +kernel
theorem dL_pots_33 : decode cL_pots 33 = .ok (.aload_n 0, 1) := by decide +kernel
theorem dL_pots_34 : decode cL_pots 34 = .ok (.iconst 0, 1) := by decide +kernel
theorem dL_pots_35 : decode cL_pots 35 = .ok (.iconst 4, 1) := by decide +kernel
theorem dL_pots_36 : decode cL_pots 36 = .ok (.invokevirtual 62, 3) := by decide +kernel
theorem dL_pots_39 : decode cL_pots 39 = .ok (.iconst (-1), 1) := by decide +kernel
theorem dL_pots_40 : decode cL_pots 40 = .ok (.if_icmp .ne 38, 3) := by decide +kernel
theorem dL_pots_43 : decode cL_pots 43 = .ok (.aload_n 0, 1) := by decide +kernel
theorem dL_pots_44 : decode cL_pots 44 = .ok (.iconst 0, 1) := by decide +kernel
theorem dL_pots_45 : decode cL_pots 45 = .ok (.invokevirtual 65, 3) := by decide +kernel
theorem dL_pots_48 : decode cL_pots 48 = .ok (.iconst (-1), 1) := by decide +kernel
theorem dL_pots_49 : decode cL_pots 49 = .ok (.if_icmp .ne 29, 3) := by decide +kernel
theorem dL_pots_52 : decode cL_pots 52 = .ok (.aload_n 0, 1) := by decide +kernel
theorem dL_pots_53 : decode cL_pots 53 = .ok (.bipush 100, 2) := by decide +kernel
theorem dL_pots_55 : decode cL_pots 55 = .ok (.invokevirtual 68, 3) := by decide +kernel
theorem dL_pots_58 : decode cL_pots 58 = .ok (.bipush (-5), 2) := by decide +kernel
theorem dL_pots_60 : decode cL_pots 60 = .ok (.if_icmp .ne 18, 3) := by decide +kernel
theorem dL_pots_63 : decode cL_pots 63 = .ok (.aload_n 0, 1) := by decide +kernel
theorem dL_pots_64 : decode cL_pots 64 = .ok (.bipush 79, 2) := by decide +kernel
theorem dL_pots_66 : decode cL_pots 66 = .ok (.invokevirtual 68, 3) := by decide +kernel
theorem dL_pots_69 : decode cL_pots 69 = .ok (.bipush (-2), 2) := by decide +kernel
theorem dL_pots_71 : decode cL_pots 71 = .ok (.if_icmp .ne 7, 3) := by decide +kernel
theorem dL_pots_74 : decode cL_pots 74 = .ok (.iconst 1, 1) := by decide +kernel
theorem dL_pots_75 : decode cL_pots 75 = .ok (.goto 4, 3) := by decide +kernel
theorem dL_pots_78 : decode cL_pots 78 = .ok (.iconst 0, 1) := by decide +kernel
theorem dL_pots_79 : decode cL_pots 79 = .ok (.ireturn, 1) := by decide +kernel
theorem dL_pots_80 : decode cL_pots 80 = .ok (.iload_n 2, 1) := by decide +kernel
theorem dL_pots_81 : decode cL_pots 81 = .ok (.aload_n 3, 1) := by decide +kernel
theorem dL_pots_82 : decode cL_pots 82 = .ok (.bipush 7, 2) := by decide +kernel
theorem dL_pots_84 : decode cL_pots 84 = .ok (.iaload, 1) := by decide +kernel
theorem dL_pots_85 : decode cL_pots 85 = .ok (.invokestatic 23, 3) := by decide +kernel
theorem dL_pots_88 : decode cL_pots 88 = .ok (.istore 7, 2) := by decide +kernel
theorem dL_pots_90 : decode cL_pots 90 = .ok (.iload 6, 2) := by decide +kernel
theorem dL_pots_92 : decode cL_pots 92 = .ok (.iconst 5, 1) := by decide +kernel
theorem dL_pots_93 : decode cL_pots 93 = .ok (.if_icmp .ge 83, 3) := by decide +kernel
theorem dL_pots_96 : decode cL_pots 96 = .ok (.iload 7, 2) := by decide +kernel
theorem dL_pots_98 : decode cL_pots 98 = .ok (.aload_n 3, 1) := by decide +kernel
theorem dL_pots_99 : decode cL_pots 99 = .ok (.aload 4, 2) := by decide +kernel
theorem dL_pots_101 : decode cL_pots 101 = .ok (.invokestatic 71, 3) := by decide +kernel
theorem dL_pots_104 : decode cL_pots 104 = .ok (.istore 8, 2) := by decide +kernel
theorem dL_pots_106 : decode cL_pots 106 = .ok (.iload 8, 2) := by decide +kernel
theorem dL_pots_108 : decode cL_pots 108 = .ok (.ifCond .le 31, 3) := by decide +kernel
theorem dL_pots_111 : decode cL_pots 111 = .ok (.aload_n 0, 1) := by decide +kernel
theorem dL_pots_112 : decode cL_pots 112 = .ok (.iload 7, 2) := by decide +kernel
theorem dL_pots_114 : decode cL_pots 114 = .ok (.invokevirtual 55, 3) := by decide +kernel
theorem dL_pots_117 : decode cL_pots 117 = .ok (.bipush (-5), 2) := by decide +kernel
theorem dL_pots_119 : decode cL_pots 119 = .ok (.if_icmp .ne 18, 3) := by decide +kernel
theorem dL_pots_122 : decode cL_pots 122 = .ok (.aload_n 0, 1) := by decide +kernel
theorem dL_pots_123 : decode cL_pots 123 = .ok (.iload 7, 2) := by decide +kernel
theorem dL_pots_125 : decode cL_pots 125 = .ok (.invokevirtual 75, 3) := by decide +kernel
theorem dL_pots_128 : decode cL_pots 128 = .ok (.iload 8, 2) := by decide +kernel
theorem dL_pots_130 : decode cL_pots 130 = .ok (.if_icmp .ne 7, 3) := by decide +kernel
theorem dL_pots_133 : decode cL_pots 133 = .ok (.iconst 1, 1) := by decide +kernel
theorem dL_pots_134 : decode cL_pots 134 = .ok (.goto 4, 3) := by decide +kernel
theorem dL_pots_137 : decode cL_pots 137 = .ok (.iconst 0, 1) := by decide +kernel
theorem dL_pots_138 : decode cL_pots 138 = .ok (.ireturn, 1) := by decide +kernel
theorem dL_pots_139 : decode cL_pots 139 = .ok (.aload 4, 2) := by decide +kernel
theorem dL_pots_141 : decode cL_pots 141 = .ok (.iload 7, 2) := by decide +kernel
theorem dL_pots_143 : decode cL_pots 143 = .ok (.aload 4, 2) := by decide +kernel
theorem dL_pots_145 : decode cL_pots 145 = .ok (.iload 7, 2) := by decide +kernel
theorem dL_pots_147 : decode cL_pots 147 = .ok (.laload, 1) := by decide +kernel
theorem dL_pots_148 : decode cL_pots 148 = .ok (.iconst 4, 1) := by decide +kernel
theorem dL_pots_149 : decode cL_pots 149 = .ok (.bipush 24, 2) := by decide +kernel
theorem dL_pots_151 : decode cL_pots 151 = .ok (.invokestatic 51, 3) := by decide +kernel
theorem dL_pots_154 : decode cL_pots 154 = .ok (.lastore, 1) := by decide +kernel
theorem dL_pots_155 : decode cL_pots 155 = .ok (.aload_n 0, 1) := by decide +kernel
theorem dL_pots_156 : decode cL_pots 156 = .ok (.iload 7, 2) := by decide +kernel
theorem dL_pots_158 : decode cL_pots 158 = .ok (.invokevirtual 55, 3) := by decide +kernel
theorem dL_pots_161 : decode cL_pots 161 = .ok (.aload_n 3, 1) := by decide +kernel
theorem dL_pots_162 : decode cL_pots 162 = .ok (.aload 4, 2) := by decide +kernel
theorem dL_pots_164 : decode cL_pots 164 = .ok (.invokestatic 19, 3) := by decide +kernel
theorem dL_pots_167 : decode cL_pots 167 = .ok (.if_icmp .ne 7, 3) := by decide +kernel
theorem dL_pots_170 : decode cL_pots 170 = .ok (.iconst 1, 1) := by decide +kernel
theorem dL_pots_171 : decode cL_pots 171 = .ok (.goto 4, 3) := by decide +kernel
theorem dL_pots_174 : decode cL_pots 174 = .ok (.iconst 0, 1) := by decide +kernel
theorem dL_pots_175 : decode cL_pots 175 = .ok (.ireturn, 1) := by decide +kernel
theorem dL_pots_176 : decode cL_pots 176 = .ok (.iload 6, 2) := by decide +kernel
theorem dL_pots_178 : decode cL_pots 178 = .ok (.iconst 5, 1) := by decide +kernel
theorem dL_pots_179 : decode cL_pots 179 = .ok (.if_icmp .ne 78, 3) := by decide +kernel
theorem dL_pots_182 : decode cL_pots 182 = .ok (.aload 4, 2) := by decide +kernel
theorem dL_pots_184 : decode cL_pots 184 = .ok (.iload 7, 2) := by decide +kernel
