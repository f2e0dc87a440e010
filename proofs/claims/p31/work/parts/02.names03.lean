theorem dX5_moveOutOfKiln_39 : decode cX5_moveOutOfKiln 39 = .ok (.ireturn, 1) := by decide +kernel
theorem dX5_moveOutOfKiln_40 : decode cX5_moveOutOfKiln 40 = .ok (.aload_n 0, 1) := by decide +kernel
theorem dX5_moveOutOfKiln_41 : decode cX5_moveOutOfKiln 41 = .ok (.getfield 30, 3) := by decide +kernel
theorem dX5_moveOutOfKiln_44 : decode cX5_moveOutOfKiln 44 = .ok (.iload_n 1, 1) := by decide +kernel
theorem dX5_moveOutOfKiln_45 : decode cX5_moveOutOfKiln 45 = .ok (.invokevirtual 191, 3) := by decide +kernel
theorem dX5_moveOutOfKiln_48 : decode cX5_moveOutOfKiln 48 = .ok (.aload_n 0, 1) := by decide +kernel
theorem dX5_moveOutOfKiln_49 : decode cX5_moveOutOfKiln 49 = .ok (.getfield 30, 3) := by decide +kernel
theorem dX5_moveOutOfKiln_52 : decode cX5_moveOutOfKiln 52 = .ok (.getfield 164, 3) := by decide +kernel
theorem dX5_moveOutOfKiln_55 : decode cX5_moveOutOfKiln 55 = .ok (.iload_n 1, 1) := by decide +kernel
theorem dX5_moveOutOfKiln_56 : decode cX5_moveOutOfKiln 56 = .ok (.invokevirtual 75, 3) := by decide +kernel
theorem dX5_moveOutOfKiln_59 : decode cX5_moveOutOfKiln 59 = .ok (.bipush 8, 2) := by decide +kernel
theorem dX5_moveOutOfKiln_61 : decode cX5_moveOutOfKiln 61 = .ok (.idiv, 1) := by decide +kernel
theorem dX5_moveOutOfKiln_62 : decode cX5_moveOutOfKiln 62 = .ok (.ireturn, 1) := by decide +kernel
set_option maxRecDepth 20000 in
theorem ggX5_firedTo_X3_isInKiln : GoodIn wsX5_firedTo wsX3_isInKiln := goodIn_r _ [7, 8, 9, 10, 11, 12, 13, 14, 39, 40, 41, 42, 43, 44, 45, 46, 47, 48] (by decide +kernel) (by decide +kernel)
set_option maxRecDepth 20000 in
theorem gX5_firedTo_X3_isInKiln : GoodIn wsX5_firedTo (wsV RX5 173 RX3 yX3_isInKiln wsX3_isInKiln) := goodIn_app (goodIn_of _ (by decide +kernel)) ggX5_firedTo_X3_isInKiln
set_option maxRecDepth 20000 in
theorem ggX5_firedTo_X4_at : GoodIn wsX5_firedTo wsX4_at := goodIn_r _ [13, 14, 48] (by decide +kernel) (by decide +kernel)
set_option maxRecDepth 20000 in
theorem gX5_firedTo_X4_at : GoodIn wsX5_firedTo (wsV RX5 75 RX4 yX4_at wsX4_at) := goodIn_app (goodIn_of _ (by decide +kernel)) ggX5_firedTo_X4_at
set_option maxRecDepth 20000 in
theorem ggX5_firedTo_X3_kindFired : GoodIn wsX5_firedTo wsX3_kindFired := goodIn_r _ [19, 20, 9, 10, 11, 12, 13, 14, 21, 22, 23, 6, 24, 25, 26, 27, 28, 29, 30, 39, 40, 41, 42, 43, 44, 45, 46, 47, 48] (by decide +kernel) (by decide +kernel)
set_option maxRecDepth 20000 in
theorem gX5_firedTo_X3_kindFired : GoodIn wsX5_firedTo (wsV RX5 194 RX3 yX3_kindFired wsX3_kindFired) := goodIn_app (goodIn_of _ (by decide +kernel)) ggX5_firedTo_X3_kindFired
theorem dX5_firedTo_0 : decode cX5_firedTo 0 = .ok (.iconst 0, 1) := by decide +kernel
theorem dX5_firedTo_1 : decode cX5_firedTo 1 = .ok (.istore_n 3, 1) := by decide +kernel
theorem dX5_firedTo_2 : decode cX5_firedTo 2 = .ok (.iconst 0, 1) := by decide +kernel
theorem dX5_firedTo_3 : decode cX5_firedTo 3 = .ok (.istore 4, 2) := by decide +kernel
theorem dX5_firedTo_5 : decode cX5_firedTo 5 = .ok (.iload 4, 2) := by decide +kernel
theorem dX5_firedTo_7 : decode cX5_firedTo 7 = .ok (.aload_n 0, 1) := by decide +kernel
theorem dX5_firedTo_8 : decode cX5_firedTo 8 = .ok (.getfield 30, 3) := by decide +kernel
theorem dX5_firedTo_11 : decode cX5_firedTo 11 = .ok (.getfield 64, 3) := by decide +kernel
theorem dX5_firedTo_14 : decode cX5_firedTo 14 = .ok (.if_icmp .ge 50, 3) := by decide +kernel
theorem dX5_firedTo_17 : decode cX5_firedTo 17 = .ok (.aload_n 0, 1) := by decide +kernel
theorem dX5_firedTo_18 : decode cX5_firedTo 18 = .ok (.getfield 30, 3) := by decide +kernel
theorem dX5_firedTo_21 : decode cX5_firedTo 21 = .ok (.iload 4, 2) := by decide +kernel
theorem dX5_firedTo_23 : decode cX5_firedTo 23 = .ok (.invokevirtual 173, 3) := by decide +kernel
theorem dX5_firedTo_26 : decode cX5_firedTo 26 = .ok (.ifCond .eq 32, 3) := by decide +kernel
theorem dX5_firedTo_29 : decode cX5_firedTo 29 = .ok (.aload_n 0, 1) := by decide +kernel
theorem dX5_firedTo_30 : decode cX5_firedTo 30 = .ok (.getfield 30, 3) := by decide +kernel
theorem dX5_firedTo_33 : decode cX5_firedTo 33 = .ok (.iload 4, 2) := by decide +kernel
theorem dX5_firedTo_35 : decode cX5_firedTo 35 = .ok (.iload_n 2, 1) := by decide +kernel
theorem dX5_firedTo_36 : decode cX5_firedTo 36 = .ok (.aload_n 0, 1) := by decide +kernel
theorem dX5_firedTo_37 : decode cX5_firedTo 37 = .ok (.getfield 14, 3) := by decide +kernel
theorem dX5_firedTo_40 : decode cX5_firedTo 40 = .ok (.iconst 2, 1) := by decide +kernel
theorem dX5_firedTo_41 : decode cX5_firedTo 41 = .ok (.invokevirtual 75, 3) := by decide +kernel
theorem dX5_firedTo_44 : decode cX5_firedTo 44 = .ok (.invokevirtual 194, 3) := by decide +kernel
theorem dX5_firedTo_47 : decode cX5_firedTo 47 = .ok (.iload_n 1, 1) := by decide +kernel
theorem dX5_firedTo_48 : decode cX5_firedTo 48 = .ok (.if_icmp .ne 10, 3) := by decide +kernel
theorem dX5_firedTo_51 : decode cX5_firedTo 51 = .ok (.iload_n 3, 1) := by decide +kernel
theorem dX5_firedTo_52 : decode cX5_firedTo 52 = .ok (.iconst 1, 1) := by decide +kernel
theorem dX5_firedTo_53 : decode cX5_firedTo 53 = .ok (.iload 4, 2) := by decide +kernel
theorem dX5_firedTo_55 : decode cX5_firedTo 55 = .ok (.ishl, 1) := by decide +kernel
theorem dX5_firedTo_56 : decode cX5_firedTo 56 = .ok (.ior, 1) := by decide +kernel
theorem dX5_firedTo_57 : decode cX5_firedTo 57 = .ok (.istore_n 3, 1) := by decide +kernel
theorem dX5_firedTo_58 : decode cX5_firedTo 58 = .ok (.iinc 4 1, 3) := by decide +kernel
theorem dX5_firedTo_61 : decode cX5_firedTo 61 = .ok (.goto (-56), 3) := by decide +kernel
theorem dX5_firedTo_64 : decode cX5_firedTo 64 = .ok (.iload_n 3, 1) := by decide +kernel
theorem dX5_firedTo_65 : decode cX5_firedTo 65 = .ok (.ireturn, 1) := by decide +kernel
set_option maxRecDepth 20000 in
theorem ggX5_fireKiln_X6_isHeat : GoodIn wsX5_fireKiln wsX6_isHeat := goodIn_r _ [5, 6, 7, 4, 8] (by decide +kernel) (by decide +kernel)
set_option maxRecDepth 20000 in
theorem gX5_fireKiln_X6_isHeat_n197 : GoodIn wsX5_fireKiln (wsX6_isHeat) := ggX5_fireKiln_X6_isHeat
set_option maxRecDepth 20000 in
theorem ggX5_fireKiln_X3_inKiln : GoodIn wsX5_fireKiln wsX3_inKiln := goodIn_r _ [13, 14, 15, 16, 17, 18, 19, 20, 21, 96, 97, 98, 99, 100, 101, 102, 103, 104, 105] (by decide +kernel) (by decide +kernel)
set_option maxRecDepth 20000 in
theorem gX5_fireKiln_X3_inKiln : GoodIn wsX5_fireKiln (wsV RX5 200 RX3 yX3_inKiln wsX3_inKiln) := goodIn_app (goodIn_of _ (by decide +kernel)) ggX5_fireKiln_X3_inKiln
set_option maxRecDepth 20000 in
theorem ggX5_fireKiln_X5_firedTo : GoodIn wsX5_fireKiln wsX5_firedTo := goodIn_r _ [26, 1, 27, 28, 29, 30, 12, 31, 14, 32, 33, 34, 19, 35, 21, 36, 37, 38, 39, 40, 41, 42, 43, 44, 45, 46, 47, 48, 49, 50, 51, 88, 89, 90, 91, 92, 93, 94, 95, 96, 97, 98, 99, 100, 101, 102, 103, 104, 105] (by decide +kernel) (by decide +kernel)
set_option maxRecDepth 20000 in
theorem gX5_fireKiln_X5_firedTo : GoodIn wsX5_fireKiln (wsV RX5 203 RX5 yX5_firedTo wsX5_firedTo) := goodIn_app (goodIn_of _ (by decide +kernel)) ggX5_fireKiln_X5_firedTo
set_option maxRecDepth 20000 in
theorem ggX5_fireKiln_J6_bitCount_0f7a4 : GoodIn wsX5_fireKiln wsJ6_bitCount_0f7a4 := goodIn_r _ [55, 56, 57, 58] (by decide +kernel) (by decide +kernel)
set_option maxRecDepth 20000 in
theorem gX5_fireKiln_J6_bitCount_0f7a4 : GoodIn wsX5_fireKiln (va_wsS RX5 206 yJ6_bitCount_0f7a4 wsJ6_bitCount_0f7a4) := goodIn_app (goodIn_of _ (by decide +kernel)) ggX5_fireKiln_J6_bitCount_0f7a4
set_option maxRecDepth 20000 in
theorem ggX5_fireKiln_X3_freePlaces : GoodIn wsX5_fireKiln wsX3_freePlaces := goodIn_r _ [62, 63, 64, 65, 12, 66, 15, 14, 32, 33, 34, 19, 35, 21, 67, 53, 54, 55, 56, 57, 58, 96, 97, 98, 99, 100, 101, 102, 103, 104, 105] (by decide +kernel) (by decide +kernel)
set_option maxRecDepth 20000 in
theorem gX5_fireKiln_X3_freePlaces : GoodIn wsX5_fireKiln (wsV RX5 118 RX3 yX3_freePlaces wsX3_freePlaces) := goodIn_app (goodIn_of _ (by decide +kernel)) ggX5_fireKiln_X3_freePlaces
set_option maxRecDepth 20000 in
theorem ggX5_fireKiln_X3_isInKiln : GoodIn wsX5_fireKiln wsX3_isInKiln := goodIn_r _ [31, 14, 32, 33, 34, 19, 35, 21, 96, 97, 98, 99, 100, 101, 102, 103, 104, 105] (by decide +kernel) (by decide +kernel)
set_option maxRecDepth 20000 in
theorem gX5_fireKiln_X3_isInKiln : GoodIn wsX5_fireKiln (wsV RX5 173 RX3 yX3_isInKiln wsX3_isInKiln) := goodIn_app (goodIn_of _ (by decide +kernel)) ggX5_fireKiln_X3_isInKiln
set_option maxRecDepth 20000 in
theorem ggX5_fireKiln_X5_firePot : GoodIn wsX5_fireKiln wsX5_firePot := goodIn_r _ [71, 1, 27, 36, 33, 34, 19, 35, 21, 37, 38, 39, 12, 40, 41, 32, 42, 43, 44, 45, 46, 47, 48, 49, 50, 51, 72, 73, 74, 75, 76, 77, 78, 79, 80, 81, 82, 83, 84, 85, 86, 14, 63, 64, 65, 66, 15, 87, 88, 89, 90, 91, 92, 93, 94, 95, 96, 97, 98, 99, 100, 101, 102, 103, 104, 105] (by decide +kernel) (by decide +kernel)
set_option maxRecDepth 20000 in
theorem gX5_fireKiln_X5_firePot : GoodIn wsX5_fireKiln (wsV RX5 211 RX5 yX5_firePot wsX5_firePot) := goodIn_app (goodIn_of _ (by decide +kernel)) ggX5_fireKiln_X5_firePot
theorem dX5_fireKiln_0 : decode cX5_fireKiln 0 = .ok (.iload_n 1, 1) := by decide +kernel
theorem dX5_fireKiln_1 : decode cX5_fireKiln 1 = .ok (.invokestatic 197, 3) := by decide +kernel
theorem dX5_fireKiln_4 : decode cX5_fireKiln 4 = .ok (.ifCond .ne 6, 3) := by decide +kernel
theorem dX5_fireKiln_7 : decode cX5_fireKiln 7 = .ok (.bipush (-2), 2) := by decide +kernel
theorem dX5_fireKiln_9 : decode cX5_fireKiln 9 = .ok (.ireturn, 1) := by decide +kernel
theorem dX5_fireKiln_10 : decode cX5_fireKiln 10 = .ok (.aload_n 0, 1) := by decide +kernel
theorem dX5_fireKiln_11 : decode cX5_fireKiln 11 = .ok (.getfield 30, 3) := by decide +kernel
theorem dX5_fireKiln_14 : decode cX5_fireKiln 14 = .ok (.invokevirtual 200, 3) := by decide +kernel
theorem dX5_fireKiln_17 : decode cX5_fireKiln 17 = .ok (.istore_n 2, 1) := by decide +kernel
theorem dX5_fireKiln_18 : decode cX5_fireKiln 18 = .ok (.iload_n 2, 1) := by decide +kernel
theorem dX5_fireKiln_19 : decode cX5_fireKiln 19 = .ok (.ifCond .ne 6, 3) := by decide +kernel
theorem dX5_fireKiln_22 : decode cX5_fireKiln 22 = .ok (.bipush (-5), 2) := by decide +kernel
theorem dX5_fireKiln_24 : decode cX5_fireKiln 24 = .ok (.ireturn, 1) := by decide +kernel
theorem dX5_fireKiln_25 : decode cX5_fireKiln 25 = .ok (.aload_n 0, 1) := by decide +kernel
theorem dX5_fireKiln_26 : decode cX5_fireKiln 26 = .ok (.iconst 4, 1) := by decide +kernel
theorem dX5_fireKiln_27 : decode cX5_fireKiln 27 = .ok (.iload_n 1, 1) := by decide +kernel
theorem dX5_fireKiln_28 : decode cX5_fireKiln 28 = .ok (.invokevirtual 203, 3) := by decide +kernel
theorem dX5_fireKiln_31 : decode cX5_fireKiln 31 = .ok (.invokestatic 206, 3) := by decide +kernel
theorem dX5_fireKiln_34 : decode cX5_fireKiln 34 = .ok (.istore_n 3, 1) := by decide +kernel
theorem dX5_fireKiln_35 : decode cX5_fireKiln 35 = .ok (.iload_n 2, 1) := by decide +kernel
theorem dX5_fireKiln_36 : decode cX5_fireKiln 36 = .ok (.invokestatic 206, 3) := by decide +kernel
theorem dX5_fireKiln_39 : decode cX5_fireKiln 39 = .ok (.iload_n 3, 1) := by decide +kernel
theorem dX5_fireKiln_40 : decode cX5_fireKiln 40 = .ok (.isub, 1) := by decide +kernel
theorem dX5_fireKiln_41 : decode cX5_fireKiln 41 = .ok (.aload_n 0, 1) := by decide +kernel
theorem dX5_fireKiln_42 : decode cX5_fireKiln 42 = .ok (.getfield 30, 3) := by decide +kernel
theorem dX5_fireKiln_45 : decode cX5_fireKiln 45 = .ok (.invokevirtual 118, 3) := by decide +kernel
theorem dX5_fireKiln_48 : decode cX5_fireKiln 48 = .ok (.if_icmp .le 6, 3) := by decide +kernel
theorem dX5_fireKiln_51 : decode cX5_fireKiln 51 = .ok (.bipush (-4), 2) := by decide +kernel
theorem dX5_fireKiln_53 : decode cX5_fireKiln 53 = .ok (.ireturn, 1) := by decide +kernel
theorem dX5_fireKiln_54 : decode cX5_fireKiln 54 = .ok (.iconst 0, 1) := by decide +kernel
theorem dX5_fireKiln_55 : decode cX5_fireKiln 55 = .ok (.istore 4, 2) := by decide +kernel
theorem dX5_fireKiln_57 : decode cX5_fireKiln 57 = .ok (.iload 4, 2) := by decide +kernel
theorem dX5_fireKiln_59 : decode cX5_fireKiln 59 = .ok (.aload_n 0, 1) := by decide +kernel
theorem dX5_fireKiln_60 : decode cX5_fireKiln 60 = .ok (.getfield 30, 3) := by decide +kernel
theorem dX5_fireKiln_63 : decode cX5_fireKiln 63 = .ok (.getfield 64, 3) := by decide +kernel
theorem dX5_fireKiln_66 : decode cX5_fireKiln 66 = .ok (.if_icmp .ge 28, 3) := by decide +kernel
theorem dX5_fireKiln_69 : decode cX5_fireKiln 69 = .ok (.aload_n 0, 1) := by decide +kernel
theorem dX5_fireKiln_70 : decode cX5_fireKiln 70 = .ok (.getfield 30, 3) := by decide +kernel
theorem dX5_fireKiln_73 : decode cX5_fireKiln 73 = .ok (.iload 4, 2) := by decide +kernel
theorem dX5_fireKiln_75 : decode cX5_fireKiln 75 = .ok (.invokevirtual 173, 3) := by decide +kernel
theorem dX5_fireKiln_78 : decode cX5_fireKiln 78 = .ok (.ifCond .eq 10, 3) := by decide +kernel
theorem dX5_fireKiln_81 : decode cX5_fireKiln 81 = .ok (.aload_n 0, 1) := by decide +kernel
theorem dX5_fireKiln_82 : decode cX5_fireKiln 82 = .ok (.iload 4, 2) := by decide +kernel
theorem dX5_fireKiln_84 : decode cX5_fireKiln 84 = .ok (.iload_n 1, 1) := by decide +kernel
theorem dX5_fireKiln_85 : decode cX5_fireKiln 85 = .ok (.invokevirtual 211, 3) := by decide +kernel
theorem dX5_fireKiln_88 : decode cX5_fireKiln 88 = .ok (.iinc 4 1, 3) := by decide +kernel
theorem dX5_fireKiln_91 : decode cX5_fireKiln 91 = .ok (.goto (-34), 3) := by decide +kernel
theorem dX5_fireKiln_94 : decode cX5_fireKiln 94 = .ok (.aload_n 0, 1) := by decide +kernel
theorem dX5_fireKiln_95 : decode cX5_fireKiln 95 = .ok (.dup, 1) := by decide +kernel
theorem dX5_fireKiln_96 : decode cX5_fireKiln 96 = .ok (.getfield 61, 3) := by decide +kernel
theorem dX5_fireKiln_99 : decode cX5_fireKiln 99 = .ok (.iconst 1, 1) := by decide +kernel
theorem dX5_fireKiln_100 : decode cX5_fireKiln 100 = .ok (.iadd, 1) := by decide +kernel
theorem dX5_fireKiln_101 : decode cX5_fireKiln 101 = .ok (.putfield 61, 3) := by decide +kernel
theorem dX5_fireKiln_104 : decode cX5_fireKiln 104 = .ok (.iload_n 3, 1) := by decide +kernel
theorem dX5_fireKiln_105 : decode cX5_fireKiln 105 = .ok (.ireturn, 1) := by decide +kernel
set_option maxRecDepth 20000 in
theorem ggX5_firePot_X4_at : GoodIn wsX5_firePot wsX4_at := goodIn_r _ [7, 8, 65] (by decide +kernel) (by decide +kernel)
set_option maxRecDepth 20000 in
theorem gX5_firePot_X4_at : GoodIn wsX5_firePot (wsV RX5 75 RX4 yX4_at wsX4_at) := goodIn_app (goodIn_of _ (by decide +kernel)) ggX5_firePot_X4_at
set_option maxRecDepth 20000 in
theorem ggX5_firePot_X3_kindFired : GoodIn wsX5_firePot wsX3_kindFired := goodIn_r _ [13, 14, 15, 4, 5, 6, 7, 8, 16, 17, 18, 12, 19, 20, 21, 22, 23, 24, 25, 56, 57, 58, 59, 60, 61, 62, 63, 64, 65] (by decide +kernel) (by decide +kernel)
set_option maxRecDepth 20000 in
theorem gX5_firePot_X3_kindFired : GoodIn wsX5_firePot (wsV RX5 194 RX3 yX3_kindFired wsX3_kindFired) := goodIn_app (goodIn_of _ (by decide +kernel)) ggX5_firePot_X3_kindFired
set_option maxRecDepth 20000 in
theorem ggX5_firePot_X4_write : GoodIn wsX5_firePot wsX4_write := goodIn_r _ [29, 8, 65] (by decide +kernel) (by decide +kernel)
set_option maxRecDepth 20000 in
theorem gX5_firePot_X4_write : GoodIn wsX5_firePot (wsV RX5 44 RX4 yX4_write wsX4_write) := goodIn_app (goodIn_of _ (by decide +kernel)) ggX5_firePot_X4_write
set_option maxRecDepth 20000 in
theorem ggX5_firePot_X4_add : GoodIn wsX5_firePot wsX4_add := goodIn_r _ [33, 34, 4, 5, 6, 7, 8, 35, 27, 28, 29, 65] (by decide +kernel) (by decide +kernel)
set_option maxRecDepth 20000 in
theorem gX5_firePot_X4_add : GoodIn wsX5_firePot (wsV RX5 148 RX4 yX4_add wsX4_add) := goodIn_app (goodIn_of _ (by decide +kernel)) ggX5_firePot_X4_add
set_option maxRecDepth 20000 in
theorem ggX5_firePot_X3_isKind : GoodIn wsX5_firePot wsX3_isKind := goodIn_r _ [19, 20, 15, 4, 5, 6, 7, 8, 56, 57, 58, 59, 60, 61, 62, 63, 64, 65] (by decide +kernel) (by decide +kernel)
set_option maxRecDepth 20000 in
theorem gX5_firePot_X3_isKind : GoodIn wsX5_firePot (wsV RX5 142 RX3 yX3_isKind wsX3_isKind) := goodIn_app (goodIn_of _ (by decide +kernel)) ggX5_firePot_X3_isKind
set_option maxRecDepth 20000 in
theorem ggX5_firePot_X3_putOnRack : GoodIn wsX5_firePot wsX3_putOnRack := goodIn_r _ [40, 41, 42, 43, 44, 12, 45, 46, 15, 4, 5, 6, 7, 8, 47, 27, 28, 29, 56, 57, 58, 59, 60, 61, 62, 63, 64, 65] (by decide +kernel) (by decide +kernel)
set_option maxRecDepth 20000 in
theorem gX5_firePot_X3_putOnRack : GoodIn wsX5_firePot (wsV RX5 191 RX3 yX3_putOnRack wsX3_putOnRack) := goodIn_app (goodIn_of _ (by decide +kernel)) ggX5_firePot_X3_putOnRack
theorem dX5_firePot_0 : decode cX5_firePot 0 = .ok (.aload_n 0, 1) := by decide +kernel
theorem dX5_firePot_1 : decode cX5_firePot 1 = .ok (.getfield 30, 3) := by decide +kernel
theorem dX5_firePot_4 : decode cX5_firePot 4 = .ok (.getfield 151, 3) := by decide +kernel
theorem dX5_firePot_7 : decode cX5_firePot 7 = .ok (.iload_n 1, 1) := by decide +kernel
theorem dX5_firePot_8 : decode cX5_firePot 8 = .ok (.aload_n 0, 1) := by decide +kernel
theorem dX5_firePot_9 : decode cX5_firePot 9 = .ok (.getfield 30, 3) := by decide +kernel
theorem dX5_firePot_12 : decode cX5_firePot 12 = .ok (.iload_n 1, 1) := by decide +kernel
theorem dX5_firePot_13 : decode cX5_firePot 13 = .ok (.iload_n 2, 1) := by decide +kernel
theorem dX5_firePot_14 : decode cX5_firePot 14 = .ok (.aload_n 0, 1) := by decide +kernel
theorem dX5_firePot_15 : decode cX5_firePot 15 = .ok (.getfield 14, 3) := by decide +kernel
theorem dX5_firePot_18 : decode cX5_firePot 18 = .ok (.iconst 2, 1) := by decide +kernel
theorem dX5_firePot_19 : decode cX5_firePot 19 = .ok (.invokevirtual 75, 3) := by decide +kernel
theorem dX5_firePot_22 : decode cX5_firePot 22 = .ok (.invokevirtual 194, 3) := by decide +kernel
theorem dX5_firePot_25 : decode cX5_firePot 25 = .ok (.invokevirtual 44, 3) := by decide +kernel
theorem dX5_firePot_28 : decode cX5_firePot 28 = .ok (.aload_n 0, 1) := by decide +kernel
theorem dX5_firePot_29 : decode cX5_firePot 29 = .ok (.getfield 30, 3) := by decide +kernel
theorem dX5_firePot_32 : decode cX5_firePot 32 = .ok (.getfield 214, 3) := by decide +kernel
theorem dX5_firePot_35 : decode cX5_firePot 35 = .ok (.iload_n 1, 1) := by decide +kernel
theorem dX5_firePot_36 : decode cX5_firePot 36 = .ok (.iconst 1, 1) := by decide +kernel
theorem dX5_firePot_37 : decode cX5_firePot 37 = .ok (.invokevirtual 148, 3) := by decide +kernel
theorem dX5_firePot_40 : decode cX5_firePot 40 = .ok (.aload_n 0, 1) := by decide +kernel
theorem dX5_firePot_41 : decode cX5_firePot 41 = .ok (.getfield 30, 3) := by decide +kernel
theorem dX5_firePot_44 : decode cX5_firePot 44 = .ok (.iload_n 1, 1) := by decide +kernel
theorem dX5_firePot_45 : decode cX5_firePot 45 = .ok (.iconst 4, 1) := by decide +kernel
theorem dX5_firePot_46 : decode cX5_firePot 46 = .ok (.invokevirtual 142, 3) := by decide +kernel
theorem dX5_firePot_49 : decode cX5_firePot 49 = .ok (.ifCond .eq 19, 3) := by decide +kernel
theorem dX5_firePot_52 : decode cX5_firePot 52 = .ok (.aload_n 0, 1) := by decide +kernel
theorem dX5_firePot_53 : decode cX5_firePot 53 = .ok (.getfield 30, 3) := by decide +kernel
theorem dX5_firePot_56 : decode cX5_firePot 56 = .ok (.getfield 164, 3) := by decide +kernel
theorem dX5_firePot_59 : decode cX5_firePot 59 = .ok (.iload_n 1, 1) := by decide +kernel
theorem dX5_firePot_60 : decode cX5_firePot 60 = .ok (.bipush 25, 2) := by decide +kernel
theorem dX5_firePot_62 : decode cX5_firePot 62 = .ok (.invokevirtual 44, 3) := by decide +kernel
theorem dX5_firePot_65 : decode cX5_firePot 65 = .ok (.goto 11, 3) := by decide +kernel
theorem dX5_firePot_68 : decode cX5_firePot 68 = .ok (.aload_n 0, 1) := by decide +kernel
theorem dX5_firePot_69 : decode cX5_firePot 69 = .ok (.getfield 30, 3) := by decide +kernel
theorem dX5_firePot_72 : decode cX5_firePot 72 = .ok (.iload_n 1, 1) := by decide +kernel
theorem dX5_firePot_73 : decode cX5_firePot 73 = .ok (.invokevirtual 191, 3) := by decide +kernel
theorem dX5_firePot_76 : decode cX5_firePot 76 = .ok (.return_, 1) := by decide +kernel
set_option maxRecDepth 20000 in
theorem ggX5_outcomeOfFiring_X6_isHeat : GoodIn wsX5_outcomeOfFiring wsX6_isHeat := goodIn_r _ [3, 4, 5, 2, 6] (by decide +kernel) (by decide +kernel)
set_option maxRecDepth 20000 in
theorem gX5_outcomeOfFiring_X6_isHeat_n197 : GoodIn wsX5_outcomeOfFiring (wsX6_isHeat) := ggX5_outcomeOfFiring_X6_isHeat
set_option maxRecDepth 20000 in
theorem ggX5_outcomeOfFiring_X5_firedTo : GoodIn wsX5_outcomeOfFiring wsX5_firedTo := goodIn_r _ [11, 12, 13, 14, 15, 16, 17, 18, 19, 20, 21, 22, 23, 24, 25, 26, 27, 28, 29, 30, 31, 32, 33, 34, 35, 36, 37, 38, 39, 40, 41, 42, 43, 44, 45, 46, 47, 48, 49, 50, 51, 52, 53, 54, 55, 56, 57, 58, 59] (by decide +kernel) (by decide +kernel)
set_option maxRecDepth 20000 in
theorem gX5_outcomeOfFiring_X5_firedTo : GoodIn wsX5_outcomeOfFiring (wsV RX5 203 RX5 yX5_firedTo wsX5_firedTo) := goodIn_app (goodIn_of _ (by decide +kernel)) ggX5_outcomeOfFiring_X5_firedTo
theorem dX5_outcomeOfFiring_0 : decode cX5_outcomeOfFiring 0 = .ok (.iload_n 1, 1) := by decide +kernel
theorem dX5_outcomeOfFiring_1 : decode cX5_outcomeOfFiring 1 = .ok (.invokestatic 197, 3) := by decide +kernel
theorem dX5_outcomeOfFiring_4 : decode cX5_outcomeOfFiring 4 = .ok (.ifCond .ne 6, 3) := by decide +kernel
theorem dX5_outcomeOfFiring_7 : decode cX5_outcomeOfFiring 7 = .ok (.bipush (-2), 2) := by decide +kernel
theorem dX5_outcomeOfFiring_9 : decode cX5_outcomeOfFiring 9 = .ok (.ireturn, 1) := by decide +kernel
theorem dX5_outcomeOfFiring_10 : decode cX5_outcomeOfFiring 10 = .ok (.iload_n 2, 1) := by decide +kernel
theorem dX5_outcomeOfFiring_11 : decode cX5_outcomeOfFiring 11 = .ok (.tableswitch 64 0 3 #[29, 36, 43, 50], 29) := by decide +kernel
theorem dX5_outcomeOfFiring_40 : decode cX5_outcomeOfFiring 40 = .ok (.aload_n 0, 1) := by decide +kernel
theorem dX5_outcomeOfFiring_41 : decode cX5_outcomeOfFiring 41 = .ok (.iconst 4, 1) := by decide +kernel
theorem dX5_outcomeOfFiring_42 : decode cX5_outcomeOfFiring 42 = .ok (.iload_n 1, 1) := by decide +kernel
theorem dX5_outcomeOfFiring_43 : decode cX5_outcomeOfFiring 43 = .ok (.invokevirtual 203, 3) := by decide +kernel
theorem dX5_outcomeOfFiring_46 : decode cX5_outcomeOfFiring 46 = .ok (.ireturn, 1) := by decide +kernel
theorem dX5_outcomeOfFiring_47 : decode cX5_outcomeOfFiring 47 = .ok (.aload_n 0, 1) := by decide +kernel
theorem dX5_outcomeOfFiring_48 : decode cX5_outcomeOfFiring 48 = .ok (.iconst 1, 1) := by decide +kernel
theorem dX5_outcomeOfFiring_49 : decode cX5_outcomeOfFiring 49 = .ok (.iload_n 1, 1) := by decide +kernel
theorem dX5_outcomeOfFiring_50 : decode cX5_outcomeOfFiring 50 = .ok (.invokevirtual 203, 3) := by decide +kernel
theorem dX5_outcomeOfFiring_53 : decode cX5_outcomeOfFiring 53 = .ok (.ireturn, 1) := by decide +kernel
theorem dX5_outcomeOfFiring_54 : decode cX5_outcomeOfFiring 54 = .ok (.aload_n 0, 1) := by decide +kernel
theorem dX5_outcomeOfFiring_55 : decode cX5_outcomeOfFiring 55 = .ok (.iconst 3, 1) := by decide +kernel
theorem dX5_outcomeOfFiring_56 : decode cX5_outcomeOfFiring 56 = .ok (.iload_n 1, 1) := by decide +kernel
theorem dX5_outcomeOfFiring_57 : decode cX5_outcomeOfFiring 57 = .ok (.invokevirtual 203, 3) := by decide +kernel
theorem dX5_outcomeOfFiring_60 : decode cX5_outcomeOfFiring 60 = .ok (.ireturn, 1) := by decide +kernel
theorem dX5_outcomeOfFiring_61 : decode cX5_outcomeOfFiring 61 = .ok (.aload_n 0, 1) := by decide +kernel
theorem dX5_outcomeOfFiring_62 : decode cX5_outcomeOfFiring 62 = .ok (.iconst 0, 1) := by decide +kernel
theorem dX5_outcomeOfFiring_63 : decode cX5_outcomeOfFiring 63 = .ok (.iload_n 1, 1) := by decide +kernel
theorem dX5_outcomeOfFiring_64 : decode cX5_outcomeOfFiring 64 = .ok (.invokevirtual 203, 3) := by decide +kernel
theorem dX5_outcomeOfFiring_67 : decode cX5_outcomeOfFiring 67 = .ok (.aload_n 0, 1) := by decide +kernel
theorem dX5_outcomeOfFiring_68 : decode cX5_outcomeOfFiring 68 = .ok (.iconst 2, 1) := by decide +kernel
theorem dX5_outcomeOfFiring_69 : decode cX5_outcomeOfFiring 69 = .ok (.iload_n 1, 1) := by decide +kernel
theorem dX5_outcomeOfFiring_70 : decode cX5_outcomeOfFiring 70 = .ok (.invokevirtual 203, 3) := by decide +kernel
theorem dX5_outcomeOfFiring_73 : decode cX5_outcomeOfFiring 73 = .ok (.ior, 1) := by decide +kernel
theorem dX5_outcomeOfFiring_74 : decode cX5_outcomeOfFiring 74 = .ok (.ireturn, 1) := by decide +kernel
theorem dX5_outcomeOfFiring_75 : decode cX5_outcomeOfFiring 75 = .ok (.bipush (-2), 2) := by decide +kernel
theorem dX5_outcomeOfFiring_77 : decode cX5_outcomeOfFiring 77 = .ok (.ireturn, 1) := by decide +kernel
set_option maxRecDepth 20000 in
theorem ggX5_scoreOf_X3_isInKiln : GoodIn wsX5_scoreOf wsX3_isInKiln := goodIn_r _ [7, 8, 9, 10, 11, 12, 13, 14, 39, 40, 41, 42, 43, 44, 45, 46, 47, 48] (by decide +kernel) (by decide +kernel)
set_option maxRecDepth 20000 in
theorem gX5_scoreOf_X3_isInKiln : GoodIn wsX5_scoreOf (wsV RX5 173 RX3 yX3_isInKiln wsX3_isInKiln) := goodIn_app (goodIn_of _ (by decide +kernel)) ggX5_scoreOf_X3_isInKiln
set_option maxRecDepth 20000 in
theorem ggX5_scoreOf_X4_at : GoodIn wsX5_scoreOf wsX4_at := goodIn_r _ [13, 14, 48] (by decide +kernel) (by decide +kernel)
set_option maxRecDepth 20000 in
theorem gX5_scoreOf_X4_at : GoodIn wsX5_scoreOf (wsV RX5 75 RX4 yX4_at wsX4_at) := goodIn_app (goodIn_of _ (by decide +kernel)) ggX5_scoreOf_X4_at
set_option maxRecDepth 20000 in
theorem ggX5_scoreOf_X3_kindFired : GoodIn wsX5_scoreOf wsX3_kindFired := goodIn_r _ [19, 20, 9, 10, 11, 12, 13, 14, 21, 22, 23, 6, 24, 25, 26, 27, 28, 29, 30, 39, 40, 41, 42, 43, 44, 45, 46, 47, 48] (by decide +kernel) (by decide +kernel)
set_option maxRecDepth 20000 in
theorem gX5_scoreOf_X3_kindFired : GoodIn wsX5_scoreOf (wsV RX5 194 RX3 yX3_kindFired wsX3_kindFired) := goodIn_app (goodIn_of _ (by decide +kernel)) ggX5_scoreOf_X3_kindFired
theorem dX5_scoreOf_0 : decode cX5_scoreOf 0 = .ok (.iconst 0, 1) := by decide +kernel
theorem dX5_scoreOf_1 : decode cX5_scoreOf 1 = .ok (.istore_n 2, 1) := by decide +kernel
theorem dX5_scoreOf_2 : decode cX5_scoreOf 2 = .ok (.iconst 0, 1) := by decide +kernel
theorem dX5_scoreOf_3 : decode cX5_scoreOf 3 = .ok (.istore_n 3, 1) := by decide +kernel
theorem dX5_scoreOf_4 : decode cX5_scoreOf 4 = .ok (.iload_n 3, 1) := by decide +kernel
theorem dX5_scoreOf_5 : decode cX5_scoreOf 5 = .ok (.aload_n 0, 1) := by decide +kernel
theorem dX5_scoreOf_6 : decode cX5_scoreOf 6 = .ok (.getfield 30, 3) := by decide +kernel
theorem dX5_scoreOf_9 : decode cX5_scoreOf 9 = .ok (.getfield 64, 3) := by decide +kernel
theorem dX5_scoreOf_12 : decode cX5_scoreOf 12 = .ok (.if_icmp .ge 75, 3) := by decide +kernel
theorem dX5_scoreOf_15 : decode cX5_scoreOf 15 = .ok (.aload_n 0, 1) := by decide +kernel
theorem dX5_scoreOf_16 : decode cX5_scoreOf 16 = .ok (.getfield 30, 3) := by decide +kernel
theorem dX5_scoreOf_19 : decode cX5_scoreOf 19 = .ok (.iload_n 3, 1) := by decide +kernel
theorem dX5_scoreOf_20 : decode cX5_scoreOf 20 = .ok (.invokevirtual 173, 3) := by decide +kernel
theorem dX5_scoreOf_23 : decode cX5_scoreOf 23 = .ok (.ifCond .ne 6, 3) := by decide +kernel
theorem dX5_scoreOf_26 : decode cX5_scoreOf 26 = .ok (.goto 55, 3) := by decide +kernel
theorem dX5_scoreOf_29 : decode cX5_scoreOf 29 = .ok (.aload_n 0, 1) := by decide +kernel
theorem dX5_scoreOf_30 : decode cX5_scoreOf 30 = .ok (.getfield 30, 3) := by decide +kernel
theorem dX5_scoreOf_33 : decode cX5_scoreOf 33 = .ok (.iload_n 3, 1) := by decide +kernel
theorem dX5_scoreOf_34 : decode cX5_scoreOf 34 = .ok (.iload_n 1, 1) := by decide +kernel
theorem dX5_scoreOf_35 : decode cX5_scoreOf 35 = .ok (.aload_n 0, 1) := by decide +kernel
theorem dX5_scoreOf_36 : decode cX5_scoreOf 36 = .ok (.getfield 14, 3) := by decide +kernel
theorem dX5_scoreOf_39 : decode cX5_scoreOf 39 = .ok (.iconst 2, 1) := by decide +kernel
theorem dX5_scoreOf_40 : decode cX5_scoreOf 40 = .ok (.invokevirtual 75, 3) := by decide +kernel
theorem dX5_scoreOf_43 : decode cX5_scoreOf 43 = .ok (.invokevirtual 194, 3) := by decide +kernel
theorem dX5_scoreOf_46 : decode cX5_scoreOf 46 = .ok (.istore 4, 2) := by decide +kernel
theorem dX5_scoreOf_48 : decode cX5_scoreOf 48 = .ok (.iload 4, 2) := by decide +kernel
theorem dX5_scoreOf_50 : decode cX5_scoreOf 50 = .ok (.iconst 4, 1) := by decide +kernel
theorem dX5_scoreOf_51 : decode cX5_scoreOf 51 = .ok (.if_icmp .ne 9, 3) := by decide +kernel
theorem dX5_scoreOf_54 : decode cX5_scoreOf 54 = .ok (.iinc 2 (-1), 3) := by decide +kernel
theorem dX5_scoreOf_57 : decode cX5_scoreOf 57 = .ok (.goto 24, 3) := by decide +kernel
theorem dX5_scoreOf_60 : decode cX5_scoreOf 60 = .ok (.iload 4, 2) := by decide +kernel
theorem dX5_scoreOf_62 : decode cX5_scoreOf 62 = .ok (.aload_n 0, 1) := by decide +kernel
theorem dX5_scoreOf_63 : decode cX5_scoreOf 63 = .ok (.getfield 30, 3) := by decide +kernel
theorem dX5_scoreOf_66 : decode cX5_scoreOf 66 = .ok (.getfield 151, 3) := by decide +kernel
theorem dX5_scoreOf_69 : decode cX5_scoreOf 69 = .ok (.iload_n 3, 1) := by decide +kernel
theorem dX5_scoreOf_70 : decode cX5_scoreOf 70 = .ok (.invokevirtual 75, 3) := by decide +kernel
theorem dX5_scoreOf_73 : decode cX5_scoreOf 73 = .ok (.iconst 1, 1) := by decide +kernel
theorem dX5_scoreOf_74 : decode cX5_scoreOf 74 = .ok (.iadd, 1) := by decide +kernel
theorem dX5_scoreOf_75 : decode cX5_scoreOf 75 = .ok (.if_icmp .ne 6, 3) := by decide +kernel
theorem dX5_scoreOf_78 : decode cX5_scoreOf 78 = .ok (.iinc 2 21, 3) := by decide +kernel
theorem dX5_scoreOf_81 : decode cX5_scoreOf 81 = .ok (.iinc 3 1, 3) := by decide +kernel
theorem dX5_scoreOf_84 : decode cX5_scoreOf 84 = .ok (.goto (-80), 3) := by decide +kernel
theorem dX5_scoreOf_87 : decode cX5_scoreOf 87 = .ok (.iload_n 2, 1) := by decide +kernel
theorem dX5_scoreOf_88 : decode cX5_scoreOf 88 = .ok (.ireturn, 1) := by decide +kernel
set_option maxRecDepth 20000 in
theorem ggX5_heatForMostPots_X3_inKiln : GoodIn wsX5_heatForMostPots wsX3_inKiln := goodIn_r _ [6, 7, 8, 9, 10, 11, 12, 13, 14, 53, 54, 55, 56, 57, 58, 59, 60, 61, 62] (by decide +kernel) (by decide +kernel)
set_option maxRecDepth 20000 in
theorem gX5_heatForMostPots_X3_inKiln : GoodIn wsX5_heatForMostPots (wsV RX5 200 RX3 yX3_inKiln wsX3_inKiln) := goodIn_app (goodIn_of _ (by decide +kernel)) ggX5_heatForMostPots_X3_inKiln
set_option maxRecDepth 20000 in
theorem ggX5_heatForMostPots_X5_scoreOf : GoodIn wsX5_heatForMostPots wsX5_scoreOf := goodIn_r _ [19, 1, 20, 21, 22, 23, 5, 24, 7, 25, 26, 27, 12, 28, 14, 29, 30, 31, 32, 33, 34, 35, 36, 37, 38, 39, 40, 41, 42, 43, 44, 45, 46, 47, 48, 49, 50, 51, 52, 53, 54, 55, 56, 57, 58, 59, 60, 61, 62] (by decide +kernel) (by decide +kernel)
set_option maxRecDepth 20000 in
theorem gX5_heatForMostPots_X5_scoreOf : GoodIn wsX5_heatForMostPots (wsV RX5 216 RX5 yX5_scoreOf wsX5_scoreOf) := goodIn_app (goodIn_of _ (by decide +kernel)) ggX5_heatForMostPots_X5_scoreOf
theorem dX5_heatForMostPots_0 : decode cX5_heatForMostPots 0 = .ok (.aload_n 0, 1) := by decide +kernel
theorem dX5_heatForMostPots_1 : decode cX5_heatForMostPots 1 = .ok (.getfield 30, 3) := by decide +kernel
theorem dX5_heatForMostPots_4 : decode cX5_heatForMostPots 4 = .ok (.invokevirtual 200, 3) := by decide +kernel
theorem dX5_heatForMostPots_7 : decode cX5_heatForMostPots 7 = .ok (.ifCond .ne 6, 3) := by decide +kernel
theorem dX5_heatForMostPots_10 : decode cX5_heatForMostPots 10 = .ok (.bipush (-6), 2) := by decide +kernel
theorem dX5_heatForMostPots_12 : decode cX5_heatForMostPots 12 = .ok (.ireturn, 1) := by decide +kernel
theorem dX5_heatForMostPots_13 : decode cX5_heatForMostPots 13 = .ok (.bipush 80, 2) := by decide +kernel
theorem dX5_heatForMostPots_15 : decode cX5_heatForMostPots 15 = .ok (.istore_n 1, 1) := by decide +kernel
theorem dX5_heatForMostPots_16 : decode cX5_heatForMostPots 16 = .ok (.aload_n 0, 1) := by decide +kernel
theorem dX5_heatForMostPots_17 : decode cX5_heatForMostPots 17 = .ok (.iload_n 1, 1) := by decide +kernel
theorem dX5_heatForMostPots_18 : decode cX5_heatForMostPots 18 = .ok (.invokevirtual 216, 3) := by decide +kernel
theorem dX5_heatForMostPots_21 : decode cX5_heatForMostPots 21 = .ok (.istore_n 2, 1) := by decide +kernel
theorem dX5_heatForMostPots_22 : decode cX5_heatForMostPots 22 = .ok (.bipush 81, 2) := by decide +kernel
theorem dX5_heatForMostPots_24 : decode cX5_heatForMostPots 24 = .ok (.istore_n 3, 1) := by decide +kernel
theorem dX5_heatForMostPots_25 : decode cX5_heatForMostPots 25 = .ok (.iload_n 3, 1) := by decide +kernel
theorem dX5_heatForMostPots_26 : decode cX5_heatForMostPots 26 = .ok (.sipush 140, 3) := by decide +kernel
theorem dX5_heatForMostPots_29 : decode cX5_heatForMostPots 29 = .ok (.if_icmp .gt 27, 3) := by decide +kernel
theorem dX5_heatForMostPots_32 : decode cX5_heatForMostPots 32 = .ok (.aload_n 0, 1) := by decide +kernel
theorem dX5_heatForMostPots_33 : decode cX5_heatForMostPots 33 = .ok (.iload_n 3, 1) := by decide +kernel
theorem dX5_heatForMostPots_34 : decode cX5_heatForMostPots 34 = .ok (.invokevirtual 216, 3) := by decide +kernel
theorem dX5_heatForMostPots_37 : decode cX5_heatForMostPots 37 = .ok (.istore 4, 2) := by decide +kernel
theorem dX5_heatForMostPots_39 : decode cX5_heatForMostPots 39 = .ok (.iload 4, 2) := by decide +kernel
theorem dX5_heatForMostPots_41 : decode cX5_heatForMostPots 41 = .ok (.iload_n 2, 1) := by decide +kernel
theorem dX5_heatForMostPots_42 : decode cX5_heatForMostPots 42 = .ok (.if_icmp .le 8, 3) := by decide +kernel
theorem dX5_heatForMostPots_45 : decode cX5_heatForMostPots 45 = .ok (.iload_n 3, 1) := by decide +kernel
theorem dX5_heatForMostPots_46 : decode cX5_heatForMostPots 46 = .ok (.istore_n 1, 1) := by decide +kernel
theorem dX5_heatForMostPots_47 : decode cX5_heatForMostPots 47 = .ok (.iload 4, 2) := by decide +kernel
theorem dX5_heatForMostPots_49 : decode cX5_heatForMostPots 49 = .ok (.istore_n 2, 1) := by decide +kernel
theorem dX5_heatForMostPots_50 : decode cX5_heatForMostPots 50 = .ok (.iinc 3 1, 3) := by decide +kernel
theorem dX5_heatForMostPots_53 : decode cX5_heatForMostPots 53 = .ok (.goto (-28), 3) := by decide +kernel
theorem dX5_heatForMostPots_56 : decode cX5_heatForMostPots 56 = .ok (.iload_n 1, 1) := by decide +kernel
theorem dX5_heatForMostPots_57 : decode cX5_heatForMostPots 57 = .ok (.ireturn, 1) := by decide +kernel
set_option maxRecDepth 20000 in
theorem ggX5_factOfPot_X3_has : GoodIn wsX5_factOfPot wsX3_has := goodIn_r _ [6, 7, 37, 38, 39, 40, 41, 42, 43, 44, 45] (by decide +kernel) (by decide +kernel)
set_option maxRecDepth 20000 in
theorem gX5_factOfPot_X3_has : GoodIn wsX5_factOfPot (wsV RX5 133 RX3 yX3_has wsX3_has) := goodIn_app (goodIn_of _ (by decide +kernel)) ggX5_factOfPot_X3_has
set_option maxRecDepth 20000 in
theorem ggX5_factOfPot_X3_isOnRack : GoodIn wsX5_factOfPot wsX3_isOnRack := goodIn_r _ [11, 12, 13, 14, 15, 16, 17, 18, 37, 38, 39, 40, 41, 42, 43, 44, 45, 46] (by decide +kernel) (by decide +kernel)
set_option maxRecDepth 20000 in
theorem gX5_factOfPot_X3_isOnRack : GoodIn wsX5_factOfPot (wsV RX5 145 RX3 yX3_isOnRack wsX3_isOnRack) := goodIn_app (goodIn_of _ (by decide +kernel)) ggX5_factOfPot_X3_isOnRack
set_option maxRecDepth 20000 in
theorem ggX5_factOfPot_X3_isKind : GoodIn wsX5_factOfPot wsX3_isKind := goodIn_r _ [22, 23, 13, 14, 15, 16, 17, 18, 37, 38, 39, 40, 41, 42, 43, 44, 45, 46] (by decide +kernel) (by decide +kernel)
set_option maxRecDepth 20000 in
theorem gX5_factOfPot_X3_isKind : GoodIn wsX5_factOfPot (wsV RX5 142 RX3 yX3_isKind wsX3_isKind) := goodIn_app (goodIn_of _ (by decide +kernel)) ggX5_factOfPot_X3_isKind
set_option maxRecDepth 20000 in
theorem ggX5_factOfPot_X4_at : GoodIn wsX5_factOfPot wsX4_at := goodIn_r _ [17, 18, 46] (by decide +kernel) (by decide +kernel)
set_option maxRecDepth 20000 in
theorem gX5_factOfPot_X4_at : GoodIn wsX5_factOfPot (wsV RX5 75 RX4 yX4_at wsX4_at) := goodIn_app (goodIn_of _ (by decide +kernel)) ggX5_factOfPot_X4_at
set_option maxRecDepth 20000 in
theorem ggX5_factOfPot_X3_isInKiln : GoodIn wsX5_factOfPot wsX3_isInKiln := goodIn_r _ [28, 12, 13, 14, 15, 16, 17, 18, 37, 38, 39, 40, 41, 42, 43, 44, 45, 46] (by decide +kernel) (by decide +kernel)
set_option maxRecDepth 20000 in
theorem gX5_factOfPot_X3_isInKiln : GoodIn wsX5_factOfPot (wsV RX5 173 RX3 yX3_isInKiln wsX3_isInKiln) := goodIn_app (goodIn_of _ (by decide +kernel)) ggX5_factOfPot_X3_isInKiln
theorem dX5_factOfPot_0 : decode cX5_factOfPot 0 = .ok (.aload_n 0, 1) := by decide +kernel
theorem dX5_factOfPot_1 : decode cX5_factOfPot 1 = .ok (.getfield 30, 3) := by decide +kernel
theorem dX5_factOfPot_4 : decode cX5_factOfPot 4 = .ok (.iload_n 1, 1) := by decide +kernel
theorem dX5_factOfPot_5 : decode cX5_factOfPot 5 = .ok (.invokevirtual 133, 3) := by decide +kernel
theorem dX5_factOfPot_8 : decode cX5_factOfPot 8 = .ok (.ifCond .ne 5, 3) := by decide +kernel
theorem dX5_factOfPot_11 : decode cX5_factOfPot 11 = .ok (.iconst (-1), 1) := by decide +kernel
theorem dX5_factOfPot_12 : decode cX5_factOfPot 12 = .ok (.ireturn, 1) := by decide +kernel
theorem dX5_factOfPot_13 : decode cX5_factOfPot 13 = .ok (.aload_n 0, 1) := by decide +kernel
theorem dX5_factOfPot_14 : decode cX5_factOfPot 14 = .ok (.getfield 30, 3) := by decide +kernel
theorem dX5_factOfPot_17 : decode cX5_factOfPot 17 = .ok (.iload_n 1, 1) := by decide +kernel
theorem dX5_factOfPot_18 : decode cX5_factOfPot 18 = .ok (.invokevirtual 145, 3) := by decide +kernel
theorem dX5_factOfPot_21 : decode cX5_factOfPot 21 = .ok (.istore_n 3, 1) := by decide +kernel
theorem dX5_factOfPot_22 : decode cX5_factOfPot 22 = .ok (.aload_n 0, 1) := by decide +kernel
theorem dX5_factOfPot_23 : decode cX5_factOfPot 23 = .ok (.getfield 30, 3) := by decide +kernel
theorem dX5_factOfPot_26 : decode cX5_factOfPot 26 = .ok (.iload_n 1, 1) := by decide +kernel
theorem dX5_factOfPot_27 : decode cX5_factOfPot 27 = .ok (.iconst 2, 1) := by decide +kernel
theorem dX5_factOfPot_28 : decode cX5_factOfPot 28 = .ok (.invokevirtual 142, 3) := by decide +kernel
theorem dX5_factOfPot_31 : decode cX5_factOfPot 31 = .ok (.ifCond .ne 15, 3) := by decide +kernel
theorem dX5_factOfPot_34 : decode cX5_factOfPot 34 = .ok (.aload_n 0, 1) := by decide +kernel
theorem dX5_factOfPot_35 : decode cX5_factOfPot 35 = .ok (.getfield 30, 3) := by decide +kernel
theorem dX5_factOfPot_38 : decode cX5_factOfPot 38 = .ok (.iload_n 1, 1) := by decide +kernel
theorem dX5_factOfPot_39 : decode cX5_factOfPot 39 = .ok (.iconst 3, 1) := by decide +kernel
theorem dX5_factOfPot_40 : decode cX5_factOfPot 40 = .ok (.invokevirtual 142, 3) := by decide +kernel
theorem dX5_factOfPot_43 : decode cX5_factOfPot 43 = .ok (.ifCond .eq 7, 3) := by decide +kernel
theorem dX5_factOfPot_46 : decode cX5_factOfPot 46 = .ok (.iconst 1, 1) := by decide +kernel
theorem dX5_factOfPot_47 : decode cX5_factOfPot 47 = .ok (.goto 4, 3) := by decide +kernel
theorem dX5_factOfPot_50 : decode cX5_factOfPot 50 = .ok (.iconst 0, 1) := by decide +kernel
theorem dX5_factOfPot_51 : decode cX5_factOfPot 51 = .ok (.istore 4, 2) := by decide +kernel
theorem dX5_factOfPot_53 : decode cX5_factOfPot 53 = .ok (.aload_n 0, 1) := by decide +kernel
theorem dX5_factOfPot_54 : decode cX5_factOfPot 54 = .ok (.getfield 30, 3) := by decide +kernel
theorem dX5_factOfPot_57 : decode cX5_factOfPot 57 = .ok (.getfield 214, 3) := by decide +kernel
theorem dX5_factOfPot_60 : decode cX5_factOfPot 60 = .ok (.iload_n 1, 1) := by decide +kernel
theorem dX5_factOfPot_61 : decode cX5_factOfPot 61 = .ok (.invokevirtual 75, 3) := by decide +kernel
theorem dX5_factOfPot_64 : decode cX5_factOfPot 64 = .ok (.istore 5, 2) := by decide +kernel
theorem dX5_factOfPot_66 : decode cX5_factOfPot 66 = .ok (.iload_n 2, 1) := by decide +kernel
theorem dX5_factOfPot_67 : decode cX5_factOfPot 67 = .ok (.tableswitch 190 0 8 #[49, 61, 73, 85, 110, 131, 143, 165, 187], 49) := by decide +kernel
theorem dX5_factOfPot_116 : decode cX5_factOfPot 116 = .ok (.aload_n 0, 1) := by decide +kernel
theorem dX5_factOfPot_117 : decode cX5_factOfPot 117 = .ok (.getfield 30, 3) := by decide +kernel
theorem dX5_factOfPot_120 : decode cX5_factOfPot 120 = .ok (.getfield 162, 3) := by decide +kernel
theorem dX5_factOfPot_123 : decode cX5_factOfPot 123 = .ok (.iload_n 1, 1) := by decide +kernel
theorem dX5_factOfPot_124 : decode cX5_factOfPot 124 = .ok (.invokevirtual 75, 3) := by decide +kernel
theorem dX5_factOfPot_127 : decode cX5_factOfPot 127 = .ok (.ireturn, 1) := by decide +kernel
theorem dX5_factOfPot_128 : decode cX5_factOfPot 128 = .ok (.aload_n 0, 1) := by decide +kernel
theorem dX5_factOfPot_129 : decode cX5_factOfPot 129 = .ok (.getfield 30, 3) := by decide +kernel
theorem dX5_factOfPot_132 : decode cX5_factOfPot 132 = .ok (.getfield 139, 3) := by decide +kernel
theorem dX5_factOfPot_135 : decode cX5_factOfPot 135 = .ok (.iload_n 1, 1) := by decide +kernel
theorem dX5_factOfPot_136 : decode cX5_factOfPot 136 = .ok (.invokevirtual 75, 3) := by decide +kernel
theorem dX5_factOfPot_139 : decode cX5_factOfPot 139 = .ok (.ireturn, 1) := by decide +kernel
theorem dX5_factOfPot_140 : decode cX5_factOfPot 140 = .ok (.aload_n 0, 1) := by decide +kernel
theorem dX5_factOfPot_141 : decode cX5_factOfPot 141 = .ok (.getfield 30, 3) := by decide +kernel
theorem dX5_factOfPot_144 : decode cX5_factOfPot 144 = .ok (.getfield 151, 3) := by decide +kernel
theorem dX5_factOfPot_147 : decode cX5_factOfPot 147 = .ok (.iload_n 1, 1) := by decide +kernel
theorem dX5_factOfPot_148 : decode cX5_factOfPot 148 = .ok (.invokevirtual 75, 3) := by decide +kernel
theorem dX5_factOfPot_151 : decode cX5_factOfPot 151 = .ok (.ireturn, 1) := by decide +kernel
theorem dX5_factOfPot_152 : decode cX5_factOfPot 152 = .ok (.iload_n 3, 1) := by decide +kernel
theorem dX5_factOfPot_153 : decode cX5_factOfPot 153 = .ok (.ifCond .eq 7, 3) := by decide +kernel
theorem dX5_factOfPot_156 : decode cX5_factOfPot 156 = .ok (.iconst 0, 1) := by decide +kernel
theorem dX5_factOfPot_157 : decode cX5_factOfPot 157 = .ok (.goto 19, 3) := by decide +kernel
theorem dX5_factOfPot_160 : decode cX5_factOfPot 160 = .ok (.aload_n 0, 1) := by decide +kernel
theorem dX5_factOfPot_161 : decode cX5_factOfPot 161 = .ok (.getfield 30, 3) := by decide +kernel
theorem dX5_factOfPot_164 : decode cX5_factOfPot 164 = .ok (.iload_n 1, 1) := by decide +kernel
theorem dX5_factOfPot_165 : decode cX5_factOfPot 165 = .ok (.invokevirtual 173, 3) := by decide +kernel
theorem dX5_factOfPot_168 : decode cX5_factOfPot 168 = .ok (.ifCond .eq 7, 3) := by decide +kernel
theorem dX5_factOfPot_171 : decode cX5_factOfPot 171 = .ok (.iconst 1, 1) := by decide +kernel
theorem dX5_factOfPot_172 : decode cX5_factOfPot 172 = .ok (.goto 4, 3) := by decide +kernel
theorem dX5_factOfPot_175 : decode cX5_factOfPot 175 = .ok (.iconst 2, 1) := by decide +kernel
theorem dX5_factOfPot_176 : decode cX5_factOfPot 176 = .ok (.ireturn, 1) := by decide +kernel
theorem dX5_factOfPot_177 : decode cX5_factOfPot 177 = .ok (.iload_n 3, 1) := by decide +kernel
theorem dX5_factOfPot_178 : decode cX5_factOfPot 178 = .ok (.ifCond .eq 17, 3) := by decide +kernel
theorem dX5_factOfPot_181 : decode cX5_factOfPot 181 = .ok (.aload_n 0, 1) := by decide +kernel
theorem dX5_factOfPot_182 : decode cX5_factOfPot 182 = .ok (.getfield 30, 3) := by decide +kernel
theorem dX5_factOfPot_185 : decode cX5_factOfPot 185 = .ok (.getfield 164, 3) := by decide +kernel
theorem dX5_factOfPot_188 : decode cX5_factOfPot 188 = .ok (.iload_n 1, 1) := by decide +kernel
theorem dX5_factOfPot_189 : decode cX5_factOfPot 189 = .ok (.invokevirtual 75, 3) := by decide +kernel
theorem dX5_factOfPot_192 : decode cX5_factOfPot 192 = .ok (.goto 5, 3) := by decide +kernel
theorem dX5_factOfPot_195 : decode cX5_factOfPot 195 = .ok (.bipush (-6), 2) := by decide +kernel
theorem dX5_factOfPot_197 : decode cX5_factOfPot 197 = .ok (.ireturn, 1) := by decide +kernel
theorem dX5_factOfPot_198 : decode cX5_factOfPot 198 = .ok (.aload_n 0, 1) := by decide +kernel
theorem dX5_factOfPot_199 : decode cX5_factOfPot 199 = .ok (.getfield 30, 3) := by decide +kernel
theorem dX5_factOfPot_202 : decode cX5_factOfPot 202 = .ok (.getfield 167, 3) := by decide +kernel
theorem dX5_factOfPot_205 : decode cX5_factOfPot 205 = .ok (.iload_n 1, 1) := by decide +kernel
theorem dX5_factOfPot_206 : decode cX5_factOfPot 206 = .ok (.invokevirtual 75, 3) := by decide +kernel
theorem dX5_factOfPot_209 : decode cX5_factOfPot 209 = .ok (.ireturn, 1) := by decide +kernel
theorem dX5_factOfPot_210 : decode cX5_factOfPot 210 = .ok (.iload 5, 2) := by decide +kernel
theorem dX5_factOfPot_212 : decode cX5_factOfPot 212 = .ok (.ifCond .ne 8, 3) := by decide +kernel
theorem dX5_factOfPot_215 : decode cX5_factOfPot 215 = .ok (.bipush (-6), 2) := by decide +kernel
theorem dX5_factOfPot_217 : decode cX5_factOfPot 217 = .ok (.goto 14, 3) := by decide +kernel
theorem dX5_factOfPot_220 : decode cX5_factOfPot 220 = .ok (.aload_n 0, 1) := by decide +kernel
theorem dX5_factOfPot_221 : decode cX5_factOfPot 221 = .ok (.getfield 30, 3) := by decide +kernel
theorem dX5_factOfPot_224 : decode cX5_factOfPot 224 = .ok (.getfield 219, 3) := by decide +kernel
theorem dX5_factOfPot_227 : decode cX5_factOfPot 227 = .ok (.iload_n 1, 1) := by decide +kernel
theorem dX5_factOfPot_228 : decode cX5_factOfPot 228 = .ok (.invokevirtual 75, 3) := by decide +kernel
theorem dX5_factOfPot_231 : decode cX5_factOfPot 231 = .ok (.ireturn, 1) := by decide +kernel
theorem dX5_factOfPot_232 : decode cX5_factOfPot 232 = .ok (.iload 4, 2) := by decide +kernel
theorem dX5_factOfPot_234 : decode cX5_factOfPot 234 = .ok (.ifCond .eq 17, 3) := by decide +kernel
theorem dX5_factOfPot_237 : decode cX5_factOfPot 237 = .ok (.aload_n 0, 1) := by decide +kernel
theorem dX5_factOfPot_238 : decode cX5_factOfPot 238 = .ok (.getfield 30, 3) := by decide +kernel
theorem dX5_factOfPot_241 : decode cX5_factOfPot 241 = .ok (.getfield 154, 3) := by decide +kernel
theorem dX5_factOfPot_244 : decode cX5_factOfPot 244 = .ok (.iload_n 1, 1) := by decide +kernel
theorem dX5_factOfPot_245 : decode cX5_factOfPot 245 = .ok (.invokevirtual 75, 3) := by decide +kernel
theorem dX5_factOfPot_248 : decode cX5_factOfPot 248 = .ok (.goto 5, 3) := by decide +kernel
theorem dX5_factOfPot_251 : decode cX5_factOfPot 251 = .ok (.bipush (-6), 2) := by decide +kernel
theorem dX5_factOfPot_253 : decode cX5_factOfPot 253 = .ok (.ireturn, 1) := by decide +kernel
theorem dX5_factOfPot_254 : decode cX5_factOfPot 254 = .ok (.iload 5, 2) := by decide +kernel
theorem dX5_factOfPot_256 : decode cX5_factOfPot 256 = .ok (.ireturn, 1) := by decide +kernel
theorem dX5_factOfPot_257 : decode cX5_factOfPot 257 = .ok (.bipush (-2), 2) := by decide +kernel
theorem dX5_factOfPot_259 : decode cX5_factOfPot 259 = .ok (.ireturn, 1) := by decide +kernel
set_option maxRecDepth 20000 in
theorem ggX5_factOfPupil_X5_hasPupil : GoodIn wsX5_factOfPupil wsX5_hasPupil := goodIn_r _ [8, 9, 53, 54, 55, 56, 57, 58, 59, 60] (by decide +kernel) (by decide +kernel)
set_option maxRecDepth 20000 in
theorem gX5_factOfPupil_X5_hasPupil : GoodIn wsX5_factOfPupil (wsV RX5 79 RX5 yX5_hasPupil wsX5_hasPupil) := goodIn_app (goodIn_of _ (by decide +kernel)) ggX5_factOfPupil_X5_hasPupil
set_option maxRecDepth 20000 in
theorem ggX5_factOfPupil_X0_wheelOf : GoodIn wsX5_factOfPupil wsX0_wheelOf := goodIn_r _ [14, 15, 16, 17, 13, 18, 19, 20, 21, 22, 23, 24, 25, 26, 27, 28, 29, 30, 61, 62, 63, 64] (by decide +kernel) (by decide +kernel)
set_option maxRecDepth 20000 in
theorem gX5_factOfPupil_X0_wheelOf : GoodIn wsX5_factOfPupil (wsV RX5 93 RX0 yX0_wheelOf wsX0_wheelOf) := goodIn_app (goodIn_of _ (by decide +kernel)) ggX5_factOfPupil_X0_wheelOf
set_option maxRecDepth 20000 in
theorem ggX5_factOfPupil_X3_thrownBy : GoodIn wsX5_factOfPupil wsX3_thrownBy := goodIn_r _ [35, 36, 37, 38, 39, 40, 28, 41, 30, 65, 66, 67, 68, 69, 70, 71, 72, 73, 64] (by decide +kernel) (by decide +kernel)
set_option maxRecDepth 20000 in
theorem gX5_factOfPupil_X3_thrownBy : GoodIn wsX5_factOfPupil (wsV RX5 222 RX3 yX3_thrownBy wsX3_thrownBy) := goodIn_app (goodIn_of _ (by decide +kernel)) ggX5_factOfPupil_X3_thrownBy
set_option maxRecDepth 20000 in
theorem ggX5_factOfPupil_X3_ofKind : GoodIn wsX5_factOfPupil wsX3_ofKind := goodIn_r _ [45, 46, 37, 38, 39, 40, 28, 41, 30, 65, 66, 67, 68, 69, 70, 71, 72, 73, 64] (by decide +kernel) (by decide +kernel)
set_option maxRecDepth 20000 in
theorem gX5_factOfPupil_X3_ofKind : GoodIn wsX5_factOfPupil (wsV RX5 225 RX3 yX3_ofKind wsX3_ofKind) := goodIn_app (goodIn_of _ (by decide +kernel)) ggX5_factOfPupil_X3_ofKind
set_option maxRecDepth 20000 in
theorem ggX5_factOfPupil_X4_at : GoodIn wsX5_factOfPupil wsX4_at := goodIn_r _ [29, 30, 64] (by decide +kernel) (by decide +kernel)
set_option maxRecDepth 20000 in
theorem gX5_factOfPupil_X4_at : GoodIn wsX5_factOfPupil (wsV RX5 75 RX4 yX4_at wsX4_at) := goodIn_app (goodIn_of _ (by decide +kernel)) ggX5_factOfPupil_X4_at
set_option maxRecDepth 20000 in
theorem ggX5_factOfPupil_X0_bookingsOf : GoodIn wsX5_factOfPupil wsX0_bookingsOf := goodIn_r _ [51, 52, 11, 12, 13, 14, 15, 16, 17, 18, 19, 20, 21, 22, 23, 24, 25, 26, 27, 28, 29, 30, 61, 62, 63, 64] (by decide +kernel) (by decide +kernel)
set_option maxRecDepth 20000 in
theorem gX5_factOfPupil_X0_bookingsOf : GoodIn wsX5_factOfPupil (wsV RX5 228 RX0 yX0_bookingsOf wsX0_bookingsOf) := goodIn_app (goodIn_of _ (by decide +kernel)) ggX5_factOfPupil_X0_bookingsOf
theorem dX5_factOfPupil_0 : decode cX5_factOfPupil 0 = .ok (.aload_n 0, 1) := by decide +kernel
theorem dX5_factOfPupil_1 : decode cX5_factOfPupil 1 = .ok (.iload_n 1, 1) := by decide +kernel
theorem dX5_factOfPupil_2 : decode cX5_factOfPupil 2 = .ok (.invokevirtual 79, 3) := by decide +kernel
theorem dX5_factOfPupil_5 : decode cX5_factOfPupil 5 = .ok (.ifCond .ne 5, 3) := by decide +kernel
theorem dX5_factOfPupil_8 : decode cX5_factOfPupil 8 = .ok (.iconst (-1), 1) := by decide +kernel
theorem dX5_factOfPupil_9 : decode cX5_factOfPupil 9 = .ok (.ireturn, 1) := by decide +kernel
theorem dX5_factOfPupil_10 : decode cX5_factOfPupil 10 = .ok (.iload_n 2, 1) := by decide +kernel
theorem dX5_factOfPupil_11 : decode cX5_factOfPupil 11 = .ok (.tableswitch 110 0 5 #[37, 47, 56, 74, 92, 101], 37) := by decide +kernel
theorem dX5_factOfPupil_48 : decode cX5_factOfPupil 48 = .ok (.aload_n 0, 1) := by decide +kernel
theorem dX5_factOfPupil_49 : decode cX5_factOfPupil 49 = .ok (.getfield 23, 3) := by decide +kernel
theorem dX5_factOfPupil_52 : decode cX5_factOfPupil 52 = .ok (.iload_n 1, 1) := by decide +kernel
theorem dX5_factOfPupil_53 : decode cX5_factOfPupil 53 = .ok (.iconst 0, 1) := by decide +kernel
theorem dX5_factOfPupil_54 : decode cX5_factOfPupil 54 = .ok (.invokevirtual 93, 3) := by decide +kernel
theorem dX5_factOfPupil_57 : decode cX5_factOfPupil 57 = .ok (.ireturn, 1) := by decide +kernel
theorem dX5_factOfPupil_58 : decode cX5_factOfPupil 58 = .ok (.aload_n 0, 1) := by decide +kernel
theorem dX5_factOfPupil_59 : decode cX5_factOfPupil 59 = .ok (.getfield 30, 3) := by decide +kernel
theorem dX5_factOfPupil_62 : decode cX5_factOfPupil 62 = .ok (.iload_n 1, 1) := by decide +kernel
theorem dX5_factOfPupil_63 : decode cX5_factOfPupil 63 = .ok (.invokevirtual 222, 3) := by decide +kernel
theorem dX5_factOfPupil_66 : decode cX5_factOfPupil 66 = .ok (.ireturn, 1) := by decide +kernel
theorem dX5_factOfPupil_67 : decode cX5_factOfPupil 67 = .ok (.aload_n 0, 1) := by decide +kernel
theorem dX5_factOfPupil_68 : decode cX5_factOfPupil 68 = .ok (.getfield 30, 3) := by decide +kernel
theorem dX5_factOfPupil_71 : decode cX5_factOfPupil 71 = .ok (.iload_n 1, 1) := by decide +kernel
theorem dX5_factOfPupil_72 : decode cX5_factOfPupil 72 = .ok (.invokevirtual 222, 3) := by decide +kernel
theorem dX5_factOfPupil_75 : decode cX5_factOfPupil 75 = .ok (.aload_n 0, 1) := by decide +kernel
theorem dX5_factOfPupil_76 : decode cX5_factOfPupil 76 = .ok (.getfield 30, 3) := by decide +kernel
theorem dX5_factOfPupil_79 : decode cX5_factOfPupil 79 = .ok (.iconst 3, 1) := by decide +kernel
theorem dX5_factOfPupil_80 : decode cX5_factOfPupil 80 = .ok (.invokevirtual 225, 3) := by decide +kernel
theorem dX5_factOfPupil_83 : decode cX5_factOfPupil 83 = .ok (.iand, 1) := by decide +kernel
theorem dX5_factOfPupil_84 : decode cX5_factOfPupil 84 = .ok (.ireturn, 1) := by decide +kernel
theorem dX5_factOfPupil_85 : decode cX5_factOfPupil 85 = .ok (.aload_n 0, 1) := by decide +kernel
theorem dX5_factOfPupil_86 : decode cX5_factOfPupil 86 = .ok (.getfield 30, 3) := by decide +kernel
theorem dX5_factOfPupil_89 : decode cX5_factOfPupil 89 = .ok (.iload_n 1, 1) := by decide +kernel
theorem dX5_factOfPupil_90 : decode cX5_factOfPupil 90 = .ok (.invokevirtual 222, 3) := by decide +kernel
theorem dX5_factOfPupil_93 : decode cX5_factOfPupil 93 = .ok (.aload_n 0, 1) := by decide +kernel
theorem dX5_factOfPupil_94 : decode cX5_factOfPupil 94 = .ok (.getfield 30, 3) := by decide +kernel
theorem dX5_factOfPupil_97 : decode cX5_factOfPupil 97 = .ok (.iconst 4, 1) := by decide +kernel
theorem dX5_factOfPupil_98 : decode cX5_factOfPupil 98 = .ok (.invokevirtual 225, 3) := by decide +kernel
theorem dX5_factOfPupil_101 : decode cX5_factOfPupil 101 = .ok (.iand, 1) := by decide +kernel
theorem dX5_factOfPupil_102 : decode cX5_factOfPupil 102 = .ok (.ireturn, 1) := by decide +kernel
theorem dX5_factOfPupil_103 : decode cX5_factOfPupil 103 = .ok (.aload_n 0, 1) := by decide +kernel
theorem dX5_factOfPupil_104 : decode cX5_factOfPupil 104 = .ok (.getfield 37, 3) := by decide +kernel
theorem dX5_factOfPupil_107 : decode cX5_factOfPupil 107 = .ok (.iload_n 1, 1) := by decide +kernel
theorem dX5_factOfPupil_108 : decode cX5_factOfPupil 108 = .ok (.invokevirtual 75, 3) := by decide +kernel
theorem dX5_factOfPupil_111 : decode cX5_factOfPupil 111 = .ok (.ireturn, 1) := by decide +kernel
theorem dX5_factOfPupil_112 : decode cX5_factOfPupil 112 = .ok (.aload_n 0, 1) := by decide +kernel
theorem dX5_factOfPupil_113 : decode cX5_factOfPupil 113 = .ok (.getfield 23, 3) := by decide +kernel
theorem dX5_factOfPupil_116 : decode cX5_factOfPupil 116 = .ok (.iload_n 1, 1) := by decide +kernel
theorem dX5_factOfPupil_117 : decode cX5_factOfPupil 117 = .ok (.invokevirtual 228, 3) := by decide +kernel
theorem dX5_factOfPupil_120 : decode cX5_factOfPupil 120 = .ok (.ireturn, 1) := by decide +kernel
theorem dX5_factOfPupil_121 : decode cX5_factOfPupil 121 = .ok (.bipush (-2), 2) := by decide +kernel
theorem dX5_factOfPupil_123 : decode cX5_factOfPupil 123 = .ok (.ireturn, 1) := by decide +kernel
set_option maxRecDepth 20000 in
theorem ggX5_figure_X6_isWithin : GoodIn wsX5_figure wsX6_isWithin := goodIn_r _ [10] (by decide +kernel) (by decide +kernel)
set_option maxRecDepth 20000 in
theorem gX5_figure_X6_isWithin_n67 : GoodIn wsX5_figure (wsX6_isWithin) := ggX5_figure_X6_isWithin
set_option maxRecDepth 20000 in
theorem ggX5_figure_X4_at : GoodIn wsX5_figure wsX4_at := goodIn_r _ [15, 16, 123] (by decide +kernel) (by decide +kernel)
set_option maxRecDepth 20000 in
theorem gX5_figure_X4_at : GoodIn wsX5_figure (wsV RX5 75 RX4 yX4_at wsX4_at) := goodIn_app (goodIn_of _ (by decide +kernel)) ggX5_figure_X4_at
set_option maxRecDepth 20000 in
theorem ggX5_figure_X3_onRacks : GoodIn wsX5_figure wsX3_onRacks := goodIn_r _ [21, 22, 23, 24, 25, 20, 26, 27, 28, 12, 13, 14, 15, 16, 114, 115, 116, 117, 118, 119, 120, 121, 122, 123] (by decide +kernel) (by decide +kernel)
set_option maxRecDepth 20000 in
theorem gX5_figure_X3_onRacks : GoodIn wsX5_figure (wsV RX5 231 RX3 yX3_onRacks wsX3_onRacks) := goodIn_app (goodIn_of _ (by decide +kernel)) ggX5_figure_X3_onRacks
set_option maxRecDepth 20000 in
theorem ggX5_figure_X3_inKiln : GoodIn wsX5_figure wsX3_inKiln := goodIn_r _ [32, 27, 22, 33, 34, 35, 14, 36, 16, 114, 115, 116, 117, 118, 119, 120, 121, 122, 123] (by decide +kernel) (by decide +kernel)
set_option maxRecDepth 20000 in
theorem gX5_figure_X3_inKiln : GoodIn wsX5_figure (wsV RX5 200 RX3 yX3_inKiln wsX3_inKiln) := goodIn_app (goodIn_of _ (by decide +kernel)) ggX5_figure_X3_inKiln
set_option maxRecDepth 20000 in
theorem ggX5_figure_X3_sizesInKiln : GoodIn wsX5_figure wsX3_sizesInKiln := goodIn_r _ [40, 22, 41, 42, 43, 44, 20, 45, 27, 28, 12, 13, 14, 15, 16, 114, 115, 116, 117, 118, 119, 120, 121, 122, 123] (by decide +kernel) (by decide +kernel)
set_option maxRecDepth 20000 in
theorem gX5_figure_X3_sizesInKiln : GoodIn wsX5_figure (wsV RX5 185 RX3 yX3_sizesInKiln wsX3_sizesInKiln) := goodIn_app (goodIn_of _ (by decide +kernel)) ggX5_figure_X3_sizesInKiln
set_option maxRecDepth 20000 in
theorem ggX5_figure_X3_freePlaces : GoodIn wsX5_figure wsX3_freePlaces := goodIn_r _ [49, 50, 51, 52, 20, 53, 22, 27, 28, 12, 13, 14, 15, 16, 54, 55, 56, 57, 58, 59, 60, 114, 115, 116, 117, 118, 119, 120, 121, 122, 123] (by decide +kernel) (by decide +kernel)
set_option maxRecDepth 20000 in
theorem gX5_figure_X3_freePlaces : GoodIn wsX5_figure (wsV RX5 118 RX3 yX3_freePlaces wsX3_freePlaces) := goodIn_app (goodIn_of _ (by decide +kernel)) ggX5_figure_X3_freePlaces
set_option maxRecDepth 20000 in
theorem ggX5_figure_X5_loadable : GoodIn wsX5_figure wsX5_loadable := goodIn_r _ [65, 5, 66, 67, 68, 64, 69, 2, 70, 71, 72, 20, 73, 22, 74, 24, 25, 26, 27, 28, 12, 13, 14, 15, 16, 75, 76, 77, 78, 79, 80, 81, 82, 83, 84, 85, 86, 87, 11, 88, 89, 90, 91, 92, 30, 31, 32, 33, 34, 35, 36, 93, 94, 95, 96, 37, 38, 39, 40, 41, 42, 43, 44, 45, 103, 104, 105, 106, 107, 108, 109, 110, 114, 115, 116, 117, 118, 119, 120, 121, 122, 123] (by decide +kernel) (by decide +kernel)
set_option maxRecDepth 20000 in
theorem gX5_figure_X5_loadable : GoodIn wsX5_figure (wsV RX5 234 RX5 yX5_loadable wsX5_loadable) := goodIn_app (goodIn_of _ (by decide +kernel)) ggX5_figure_X5_loadable
set_option maxRecDepth 20000 in
theorem ggX5_figure_X3_ofKind : GoodIn wsX5_figure wsX3_ofKind := goodIn_r _ [96, 79, 22, 33, 34, 35, 14, 36, 16, 114, 115, 116, 117, 118, 119, 120, 121, 122, 123] (by decide +kernel) (by decide +kernel)
set_option maxRecDepth 20000 in
theorem gX5_figure_X3_ofKind : GoodIn wsX5_figure (wsV RX5 225 RX3 yX3_ofKind wsX3_ofKind) := goodIn_app (goodIn_of _ (by decide +kernel)) ggX5_figure_X3_ofKind
set_option maxRecDepth 20000 in
theorem ggX5_figure_J6_bitCount_0f7a4 : GoodIn wsX5_figure wsJ6_bitCount_0f7a4 := goodIn_r _ [57, 58, 59, 60] (by decide +kernel) (by decide +kernel)
set_option maxRecDepth 20000 in
theorem gX5_figure_J6_bitCount_0f7a4 : GoodIn wsX5_figure (va_wsS RX5 206 yJ6_bitCount_0f7a4 wsJ6_bitCount_0f7a4) := goodIn_app (goodIn_of _ (by decide +kernel)) ggX5_figure_J6_bitCount_0f7a4
set_option maxRecDepth 20000 in
theorem ggX5_figure_X4_sum : GoodIn wsX5_figure wsX4_sum := goodIn_r _ [102, 16, 123] (by decide +kernel) (by decide +kernel)
set_option maxRecDepth 20000 in
theorem gX5_figure_X4_sum : GoodIn wsX5_figure (wsV RX5 237 RX4 yX4_sum wsX4_sum) := goodIn_app (goodIn_of _ (by decide +kernel)) ggX5_figure_X4_sum
theorem dX5_figure_0 : decode cX5_figure 0 = .ok (.iload_n 1, 1) := by decide +kernel
theorem dX5_figure_1 : decode cX5_figure 1 = .ok (.bipush 11, 2) := by decide +kernel
theorem dX5_figure_3 : decode cX5_figure 3 = .ok (.bipush 14, 2) := by decide +kernel
theorem dX5_figure_5 : decode cX5_figure 5 = .ok (.invokestatic 67, 3) := by decide +kernel
theorem dX5_figure_8 : decode cX5_figure 8 = .ok (.ifCond .eq 15, 3) := by decide +kernel
theorem dX5_figure_11 : decode cX5_figure 11 = .ok (.aload_n 0, 1) := by decide +kernel
theorem dX5_figure_12 : decode cX5_figure 12 = .ok (.getfield 34, 3) := by decide +kernel
theorem dX5_figure_15 : decode cX5_figure 15 = .ok (.iload_n 1, 1) := by decide +kernel
theorem dX5_figure_16 : decode cX5_figure 16 = .ok (.bipush 11, 2) := by decide +kernel
theorem dX5_figure_18 : decode cX5_figure 18 = .ok (.isub, 1) := by decide +kernel
theorem dX5_figure_19 : decode cX5_figure 19 = .ok (.invokevirtual 75, 3) := by decide +kernel
theorem dX5_figure_22 : decode cX5_figure 22 = .ok (.ireturn, 1) := by decide +kernel
theorem dX5_figure_23 : decode cX5_figure 23 = .ok (.iload_n 1, 1) := by decide +kernel
theorem dX5_figure_24 : decode cX5_figure 24 = .ok (.bipush 15, 2) := by decide +kernel
theorem dX5_figure_26 : decode cX5_figure 26 = .ok (.bipush 18, 2) := by decide +kernel
theorem dX5_figure_28 : decode cX5_figure 28 = .ok (.invokestatic 67, 3) := by decide +kernel
theorem dX5_figure_31 : decode cX5_figure 31 = .ok (.ifCond .eq 15, 3) := by decide +kernel
theorem dX5_figure_34 : decode cX5_figure 34 = .ok (.aload_n 0, 1) := by decide +kernel
theorem dX5_figure_35 : decode cX5_figure 35 = .ok (.getfield 14, 3) := by decide +kernel
theorem dX5_figure_38 : decode cX5_figure 38 = .ok (.iload_n 1, 1) := by decide +kernel
theorem dX5_figure_39 : decode cX5_figure 39 = .ok (.bipush 15, 2) := by decide +kernel
theorem dX5_figure_41 : decode cX5_figure 41 = .ok (.isub, 1) := by decide +kernel
theorem dX5_figure_42 : decode cX5_figure 42 = .ok (.invokevirtual 75, 3) := by decide +kernel
theorem dX5_figure_45 : decode cX5_figure 45 = .ok (.ireturn, 1) := by decide +kernel
theorem dX5_figure_46 : decode cX5_figure 46 = .ok (.iload_n 1, 1) := by decide +kernel
theorem dX5_figure_47 : decode cX5_figure 47 = .ok (.tableswitch 140 0 10 #[57, 65, 70, 78, 86, 94, 102, 110, 115, 120, 132], 57) := by decide +kernel
theorem dX5_figure_104 : decode cX5_figure 104 = .ok (.aload_n 0, 1) := by decide +kernel
theorem dX5_figure_105 : decode cX5_figure 105 = .ok (.getfield 23, 3) := by decide +kernel
theorem dX5_figure_108 : decode cX5_figure 108 = .ok (.getfield 100, 3) := by decide +kernel
theorem dX5_figure_111 : decode cX5_figure 111 = .ok (.ireturn, 1) := by decide +kernel
theorem dX5_figure_112 : decode cX5_figure 112 = .ok (.aload_n 0, 1) := by decide +kernel
theorem dX5_figure_113 : decode cX5_figure 113 = .ok (.getfield 58, 3) := by decide +kernel
theorem dX5_figure_116 : decode cX5_figure 116 = .ok (.ireturn, 1) := by decide +kernel
theorem dX5_figure_117 : decode cX5_figure 117 = .ok (.aload_n 0, 1) := by decide +kernel
theorem dX5_figure_118 : decode cX5_figure 118 = .ok (.getfield 30, 3) := by decide +kernel
theorem dX5_figure_121 : decode cX5_figure 121 = .ok (.getfield 64, 3) := by decide +kernel
theorem dX5_figure_124 : decode cX5_figure 124 = .ok (.ireturn, 1) := by decide +kernel
theorem dX5_figure_125 : decode cX5_figure 125 = .ok (.aload_n 0, 1) := by decide +kernel
theorem dX5_figure_126 : decode cX5_figure 126 = .ok (.getfield 30, 3) := by decide +kernel
theorem dX5_figure_129 : decode cX5_figure 129 = .ok (.invokevirtual 231, 3) := by decide +kernel
theorem dX5_figure_132 : decode cX5_figure 132 = .ok (.ireturn, 1) := by decide +kernel
theorem dX5_figure_133 : decode cX5_figure 133 = .ok (.aload_n 0, 1) := by decide +kernel
theorem dX5_figure_134 : decode cX5_figure 134 = .ok (.getfield 30, 3) := by decide +kernel
theorem dX5_figure_137 : decode cX5_figure 137 = .ok (.invokevirtual 200, 3) := by decide +kernel
theorem dX5_figure_140 : decode cX5_figure 140 = .ok (.ireturn, 1) := by decide +kernel
theorem dX5_figure_141 : decode cX5_figure 141 = .ok (.aload_n 0, 1) := by decide +kernel
theorem dX5_figure_142 : decode cX5_figure 142 = .ok (.getfield 30, 3) := by decide +kernel
theorem dX5_figure_145 : decode cX5_figure 145 = .ok (.invokevirtual 185, 3) := by decide +kernel
theorem dX5_figure_148 : decode cX5_figure 148 = .ok (.ireturn, 1) := by decide +kernel
theorem dX5_figure_149 : decode cX5_figure 149 = .ok (.aload_n 0, 1) := by decide +kernel
theorem dX5_figure_150 : decode cX5_figure 150 = .ok (.getfield 30, 3) := by decide +kernel
theorem dX5_figure_153 : decode cX5_figure 153 = .ok (.invokevirtual 118, 3) := by decide +kernel
theorem dX5_figure_156 : decode cX5_figure 156 = .ok (.ireturn, 1) := by decide +kernel
theorem dX5_figure_157 : decode cX5_figure 157 = .ok (.aload_n 0, 1) := by decide +kernel
theorem dX5_figure_158 : decode cX5_figure 158 = .ok (.invokevirtual 234, 3) := by decide +kernel
theorem dX5_figure_161 : decode cX5_figure 161 = .ok (.ireturn, 1) := by decide +kernel
theorem dX5_figure_162 : decode cX5_figure 162 = .ok (.aload_n 0, 1) := by decide +kernel
theorem dX5_figure_163 : decode cX5_figure 163 = .ok (.getfield 61, 3) := by decide +kernel
theorem dX5_figure_166 : decode cX5_figure 166 = .ok (.ireturn, 1) := by decide +kernel
theorem dX5_figure_167 : decode cX5_figure 167 = .ok (.aload_n 0, 1) := by decide +kernel
theorem dX5_figure_168 : decode cX5_figure 168 = .ok (.getfield 30, 3) := by decide +kernel
theorem dX5_figure_171 : decode cX5_figure 171 = .ok (.iconst 4, 1) := by decide +kernel
theorem dX5_figure_172 : decode cX5_figure 172 = .ok (.invokevirtual 225, 3) := by decide +kernel
theorem dX5_figure_175 : decode cX5_figure 175 = .ok (.invokestatic 206, 3) := by decide +kernel
theorem dX5_figure_178 : decode cX5_figure 178 = .ok (.ireturn, 1) := by decide +kernel
theorem dX5_figure_179 : decode cX5_figure 179 = .ok (.aload_n 0, 1) := by decide +kernel
theorem dX5_figure_180 : decode cX5_figure 180 = .ok (.getfield 37, 3) := by decide +kernel
theorem dX5_figure_183 : decode cX5_figure 183 = .ok (.invokevirtual 237, 3) := by decide +kernel
theorem dX5_figure_186 : decode cX5_figure 186 = .ok (.ireturn, 1) := by decide +kernel
theorem dX5_figure_187 : decode cX5_figure 187 = .ok (.bipush (-2), 2) := by decide +kernel
theorem dX5_figure_189 : decode cX5_figure 189 = .ok (.ireturn, 1) := by decide +kernel
set_option maxRecDepth 20000 in
theorem ggX6_init_X5_init : GoodIn wsX6_init wsX5_init := goodIn_r _ [19, 20, 2, 3, 21, 22, 23, 24, 25, 26, 27, 28, 29, 30, 31, 32, 33, 34, 35, 36, 37, 38, 39, 40, 41, 42, 43, 44, 45, 46, 47, 48, 49, 50, 51, 52, 53, 54, 55, 56, 57, 58, 59, 60, 61, 62, 63, 64, 65, 66, 67, 68, 102, 80, 81, 82, 83, 84, 85, 86, 87, 103, 104, 105, 106, 107, 108, 109, 110, 111, 112, 113, 114] (by decide +kernel) (by decide +kernel)
set_option maxRecDepth 20000 in
theorem gX6_init_X5_init : GoodIn wsX6_init (wsX5_init) := ggX6_init_X5_init
set_option maxRecDepth 20000 in
theorem ggX6_init_X1_init : GoodIn wsX6_init wsX1_init := goodIn_r _ [71, 72, 2, 3, 73, 74, 5, 6, 75, 18, 19, 20, 21, 22, 23, 24, 25, 26, 27, 28, 29, 30, 31, 32, 33, 34, 35, 36, 37, 38, 39, 40, 41, 42, 43, 44, 45, 46, 47, 48, 49, 50, 51, 52, 53, 54, 55, 56, 57, 58, 59, 60, 61, 62, 63, 64, 65, 66, 67, 68, 92, 93, 94, 80, 81, 82, 83, 84, 85, 86, 87, 102, 103, 104, 105, 106, 107, 108, 109, 110, 111, 112, 113, 114] (by decide +kernel) (by decide +kernel)
set_option maxRecDepth 20000 in
theorem gX6_init_X1_init : GoodIn wsX6_init (wsX1_init) := ggX6_init_X1_init
set_option maxRecDepth 20000 in
theorem ggX6_init_X2_init : GoodIn wsX6_init wsX2_init := goodIn_r _ [77, 78, 2, 3, 44, 79, 95, 96, 97, 98, 99, 100, 101] (by decide +kernel) (by decide +kernel)
set_option maxRecDepth 20000 in
theorem gX6_init_X2_init_n29 : GoodIn wsX6_init (wsX2_init) := ggX6_init_X2_init
theorem dX6_init_0 : decode cX6_init 0 = .ok (.aload_n 0, 1) := by decide +kernel
theorem dX6_init_1 : decode cX6_init 1 = .ok (.invokespecial 3, 3) := by decide +kernel
theorem dX6_init_4 : decode cX6_init 4 = .ok (.aload_n 0, 1) := by decide +kernel
theorem dX6_init_5 : decode cX6_init 5 = .ok (.new 9, 3) := by decide +kernel
theorem dX6_init_8 : decode cX6_init 8 = .ok (.dup, 1) := by decide +kernel
theorem dX6_init_9 : decode cX6_init 9 = .ok (.invokespecial 11, 3) := by decide +kernel
theorem dX6_init_12 : decode cX6_init 12 = .ok (.putfield 12, 3) := by decide +kernel
theorem dX6_init_15 : decode cX6_init 15 = .ok (.aload_n 0, 1) := by decide +kernel
theorem dX6_init_16 : decode cX6_init 16 = .ok (.new 16, 3) := by decide +kernel
theorem dX6_init_19 : decode cX6_init 19 = .ok (.dup, 1) := by decide +kernel
theorem dX6_init_20 : decode cX6_init 20 = .ok (.invokespecial 18, 3) := by decide +kernel
theorem dX6_init_23 : decode cX6_init 23 = .ok (.putfield 19, 3) := by decide +kernel
theorem dX6_init_26 : decode cX6_init 26 = .ok (.aload_n 0, 1) := by decide +kernel
theorem dX6_init_27 : decode cX6_init 27 = .ok (.iconst 2, 1) := by decide +kernel
theorem dX6_init_28 : decode cX6_init 28 = .ok (.anewarray 9, 3) := by decide +kernel
theorem dX6_init_31 : decode cX6_init 31 = .ok (.putfield 23, 3) := by decide +kernel
theorem dX6_init_34 : decode cX6_init 34 = .ok (.aload_n 0, 1) := by decide +kernel
theorem dX6_init_35 : decode cX6_init 35 = .ok (.new 27, 3) := by decide +kernel
theorem dX6_init_38 : decode cX6_init 38 = .ok (.dup, 1) := by decide +kernel
theorem dX6_init_39 : decode cX6_init 39 = .ok (.invokespecial 29, 3) := by decide +kernel
theorem dX6_init_42 : decode cX6_init 42 = .ok (.putfield 30, 3) := by decide +kernel
theorem dX6_init_45 : decode cX6_init 45 = .ok (.return_, 1) := by decide +kernel
set_option maxRecDepth 20000 in
theorem ggX6_set_X1_prepare : GoodIn wsX6_set wsX1_prepare := goodIn_r _ [7, 8, 9, 10, 11, 6, 12, 13, 14, 15, 16, 17, 18, 19, 20, 21, 22, 23, 24, 25, 26, 27, 28, 29, 30, 31, 32, 33, 34, 35, 36, 37, 38, 39, 40, 41, 42, 43, 44, 45, 46, 47, 48, 49, 50, 51, 52, 53, 54, 55, 56, 57, 58, 59, 60, 61, 62, 63, 64, 93, 94, 95, 96, 97, 98, 99, 100, 101, 102, 103, 104, 105, 106, 107, 108, 109, 110, 111, 112, 113, 114, 115, 116] (by decide +kernel) (by decide +kernel)
set_option maxRecDepth 20000 in
theorem gX6_set_X1_prepare : GoodIn wsX6_set (wsV RX6 34 RX1 yX1_prepare wsX1_prepare) := goodIn_app (goodIn_of _ (by decide +kernel)) ggX6_set_X1_prepare
set_option maxRecDepth 20000 in
theorem ggX6_set_X5_changeSetting : GoodIn wsX6_set wsX5_changeSetting := goodIn_r _ [68, 19, 69, 70, 17, 71, 72, 73, 74, 75, 76, 77, 30, 78, 32, 79, 80, 81, 82, 96, 97, 98, 99, 100, 101, 102, 103, 104] (by decide +kernel) (by decide +kernel)
set_option maxRecDepth 20000 in
theorem gX6_set_X5_changeSetting : GoodIn wsX6_set (wsV RX6 38 RX5 yX5_changeSetting wsX5_changeSetting) := goodIn_app (goodIn_of _ (by decide +kernel)) ggX6_set_X5_changeSetting
set_option maxRecDepth 20000 in
theorem ggX6_set_X1_record : GoodIn wsX6_set wsX1_record := goodIn_r _ [86, 8, 87, 88, 34, 35, 36, 93, 94, 95] (by decide +kernel) (by decide +kernel)
set_option maxRecDepth 20000 in
theorem gX6_set_X1_record : GoodIn wsX6_set (wsV RX6 42 RX1 yX1_record wsX1_record) := goodIn_app (goodIn_of _ (by decide +kernel)) ggX6_set_X1_record
theorem dX6_set_0 : decode cX6_set 0 = .ok (.aload_n 0, 1) := by decide +kernel
theorem dX6_set_1 : decode cX6_set 1 = .ok (.getfield 19, 3) := by decide +kernel
theorem dX6_set_4 : decode cX6_set 4 = .ok (.aload_n 0, 1) := by decide +kernel
theorem dX6_set_5 : decode cX6_set 5 = .ok (.getfield 12, 3) := by decide +kernel
theorem dX6_set_8 : decode cX6_set 8 = .ok (.invokevirtual 34, 3) := by decide +kernel
theorem dX6_set_11 : decode cX6_set 11 = .ok (.aload_n 0, 1) := by decide +kernel
theorem dX6_set_12 : decode cX6_set 12 = .ok (.getfield 19, 3) := by decide +kernel
theorem dX6_set_15 : decode cX6_set 15 = .ok (.aload_n 0, 1) := by decide +kernel
theorem dX6_set_16 : decode cX6_set 16 = .ok (.getfield 12, 3) := by decide +kernel
theorem dX6_set_19 : decode cX6_set 19 = .ok (.iload_n 1, 1) := by decide +kernel
theorem dX6_set_20 : decode cX6_set 20 = .ok (.iload_n 2, 1) := by decide +kernel
theorem dX6_set_21 : decode cX6_set 21 = .ok (.invokevirtual 38, 3) := by decide +kernel
theorem dX6_set_24 : decode cX6_set 24 = .ok (.invokevirtual 42, 3) := by decide +kernel
theorem dX6_set_27 : decode cX6_set 27 = .ok (.ireturn, 1) := by decide +kernel
set_option maxRecDepth 20000 in
theorem ggX6_pupil_X1_prepare : GoodIn wsX6_pupil wsX1_prepare := goodIn_r _ [7, 8, 9, 10, 11, 6, 12, 13, 14, 15, 16, 17, 18, 19, 20, 21, 22, 23, 24, 25, 26, 27, 28, 29, 30, 31, 32, 33, 34, 35, 36, 37, 38, 39, 40, 41, 42, 43, 44, 45, 46, 47, 48, 49, 50, 51, 52, 53, 54, 55, 56, 57, 58, 59, 60, 61, 62, 63, 64, 79, 80, 81, 82, 83, 84, 85, 86, 87, 88, 89, 90, 91, 92, 93, 94, 95, 96, 97, 98, 99, 100, 101, 102] (by decide +kernel) (by decide +kernel)
set_option maxRecDepth 20000 in
theorem gX6_pupil_X1_prepare : GoodIn wsX6_pupil (wsV RX6 34 RX1 yX1_prepare wsX1_prepare) := goodIn_app (goodIn_of _ (by decide +kernel)) ggX6_pupil_X1_prepare
set_option maxRecDepth 20000 in
theorem ggX6_pupil_X5_admitPupil : GoodIn wsX6_pupil wsX5_admitPupil := goodIn_r _ [68, 24, 82, 83, 84, 85, 86, 87, 88, 89] (by decide +kernel) (by decide +kernel)
set_option maxRecDepth 20000 in
theorem gX6_pupil_X5_admitPupil : GoodIn wsX6_pupil (wsV RX6 46 RX5 yX5_admitPupil wsX5_admitPupil) := goodIn_app (goodIn_of _ (by decide +kernel)) ggX6_pupil_X5_admitPupil
set_option maxRecDepth 20000 in
theorem ggX6_pupil_X1_record : GoodIn wsX6_pupil wsX1_record := goodIn_r _ [72, 8, 73, 74, 34, 35, 36, 79, 80, 81] (by decide +kernel) (by decide +kernel)
set_option maxRecDepth 20000 in
theorem gX6_pupil_X1_record : GoodIn wsX6_pupil (wsV RX6 42 RX1 yX1_record wsX1_record) := goodIn_app (goodIn_of _ (by decide +kernel)) ggX6_pupil_X1_record
theorem dX6_pupil_0 : decode cX6_pupil 0 = .ok (.aload_n 0, 1) := by decide +kernel
theorem dX6_pupil_1 : decode cX6_pupil 1 = .ok (.getfield 19, 3) := by decide +kernel
theorem dX6_pupil_4 : decode cX6_pupil 4 = .ok (.aload_n 0, 1) := by decide +kernel
theorem dX6_pupil_5 : decode cX6_pupil 5 = .ok (.getfield 12, 3) := by decide +kernel
theorem dX6_pupil_8 : decode cX6_pupil 8 = .ok (.invokevirtual 34, 3) := by decide +kernel
theorem dX6_pupil_11 : decode cX6_pupil 11 = .ok (.aload_n 0, 1) := by decide +kernel
theorem dX6_pupil_12 : decode cX6_pupil 12 = .ok (.getfield 19, 3) := by decide +kernel
theorem dX6_pupil_15 : decode cX6_pupil 15 = .ok (.aload_n 0, 1) := by decide +kernel
theorem dX6_pupil_16 : decode cX6_pupil 16 = .ok (.getfield 12, 3) := by decide +kernel
theorem dX6_pupil_19 : decode cX6_pupil 19 = .ok (.invokevirtual 46, 3) := by decide +kernel
theorem dX6_pupil_22 : decode cX6_pupil 22 = .ok (.invokevirtual 42, 3) := by decide +kernel
theorem dX6_pupil_25 : decode cX6_pupil 25 = .ok (.ireturn, 1) := by decide +kernel
set_option maxRecDepth 20000 in
theorem ggX6_book_X1_prepare : GoodIn wsX6_book wsX1_prepare := goodIn_r _ [7, 8, 9, 10, 11, 6, 12, 13, 14, 15, 16, 17, 18, 19, 20, 21, 22, 23, 24, 25, 26, 27, 28, 29, 30, 31, 32, 33, 34, 35, 36, 37, 38, 39, 40, 41, 42, 43, 44, 45, 46, 47, 48, 49, 50, 51, 52, 53, 54, 55, 56, 57, 58, 59, 60, 61, 62, 63, 64, 116, 117, 118, 119, 120, 121, 122, 123, 124, 125, 126, 127, 128, 129, 130, 131, 132, 133, 134, 135, 136, 137, 138, 139] (by decide +kernel) (by decide +kernel)
set_option maxRecDepth 20000 in
theorem gX6_book_X1_prepare : GoodIn wsX6_book (wsV RX6 34 RX1 yX1_prepare wsX1_prepare) := goodIn_app (goodIn_of _ (by decide +kernel)) ggX6_book_X1_prepare
set_option maxRecDepth 20000 in
theorem ggX6_book_X5_bookWheel : GoodIn wsX6_book wsX5_bookWheel := goodIn_r _ [68, 20, 69, 70, 71, 17, 72, 24, 73, 74, 75, 76, 77, 78, 79, 80, 81, 82, 83, 44, 84, 46, 85, 86, 87, 88, 47, 89, 90, 91, 30, 92, 32, 93, 94, 95, 96, 97, 98, 99, 100, 101, 102, 103, 104, 105, 119, 120, 121, 122, 123, 124, 125, 126, 128, 129, 130, 127] (by decide +kernel) (by decide +kernel)
set_option maxRecDepth 20000 in
theorem gX6_book_X5_bookWheel : GoodIn wsX6_book (wsV RX6 50 RX5 yX5_bookWheel wsX5_bookWheel) := goodIn_app (goodIn_of _ (by decide +kernel)) ggX6_book_X5_bookWheel
set_option maxRecDepth 20000 in
theorem ggX6_book_X1_record : GoodIn wsX6_book wsX1_record := goodIn_r _ [109, 8, 110, 111, 34, 35, 36, 116, 117, 118] (by decide +kernel) (by decide +kernel)
set_option maxRecDepth 20000 in
theorem gX6_book_X1_record : GoodIn wsX6_book (wsV RX6 42 RX1 yX1_record wsX1_record) := goodIn_app (goodIn_of _ (by decide +kernel)) ggX6_book_X1_record
theorem dX6_book_0 : decode cX6_book 0 = .ok (.aload_n 0, 1) := by decide +kernel
theorem dX6_book_1 : decode cX6_book 1 = .ok (.getfield 19, 3) := by decide +kernel
theorem dX6_book_4 : decode cX6_book 4 = .ok (.aload_n 0, 1) := by decide +kernel
theorem dX6_book_5 : decode cX6_book 5 = .ok (.getfield 12, 3) := by decide +kernel
theorem dX6_book_8 : decode cX6_book 8 = .ok (.invokevirtual 34, 3) := by decide +kernel
theorem dX6_book_11 : decode cX6_book 11 = .ok (.aload_n 0, 1) := by decide +kernel
theorem dX6_book_12 : decode cX6_book 12 = .ok (.getfield 19, 3) := by decide +kernel
theorem dX6_book_15 : decode cX6_book 15 = .ok (.aload_n 0, 1) := by decide +kernel
theorem dX6_book_16 : decode cX6_book 16 = .ok (.getfield 12, 3) := by decide +kernel
theorem dX6_book_19 : decode cX6_book 19 = .ok (.iload_n 1, 1) := by decide +kernel
theorem dX6_book_20 : decode cX6_book 20 = .ok (.iload_n 2, 1) := by decide +kernel
theorem dX6_book_21 : decode cX6_book 21 = .ok (.iload_n 3, 1) := by decide +kernel
theorem dX6_book_22 : decode cX6_book 22 = .ok (.invokevirtual 50, 3) := by decide +kernel
theorem dX6_book_25 : decode cX6_book 25 = .ok (.invokevirtual 42, 3) := by decide +kernel
theorem dX6_book_28 : decode cX6_book 28 = .ok (.ireturn, 1) := by decide +kernel
set_option maxRecDepth 20000 in
theorem ggX6_giveBack_X1_prepare : GoodIn wsX6_giveBack wsX1_prepare := goodIn_r _ [7, 8, 9, 10, 11, 6, 12, 13, 14, 15, 16, 17, 18, 19, 20, 21, 22, 23, 24, 25, 26, 27, 28, 29, 30, 31, 32, 33, 34, 35, 36, 37, 38, 39, 40, 41, 42, 43, 44, 45, 46, 47, 48, 49, 50, 51, 52, 53, 54, 55, 56, 57, 58, 59, 60, 61, 62, 63, 64, 117, 118, 119, 120, 121, 122, 123, 124, 125, 126, 127, 128, 129, 130, 131, 132, 133, 134, 135, 136, 137, 138, 139, 140] (by decide +kernel) (by decide +kernel)
set_option maxRecDepth 20000 in
theorem gX6_giveBack_X1_prepare : GoodIn wsX6_giveBack (wsV RX6 34 RX1 yX1_prepare wsX1_prepare) := goodIn_app (goodIn_of _ (by decide +kernel)) ggX6_giveBack_X1_prepare
set_option maxRecDepth 20000 in
theorem ggX6_giveBack_X5_cancelBooking : GoodIn wsX6_giveBack wsX5_cancelBooking := goodIn_r _ [68, 20, 69, 70, 71, 17, 72, 24, 73, 74, 75, 76, 77, 78, 79, 80, 81, 44, 82, 83, 84, 85, 86, 46, 87, 88, 89, 90, 47, 91, 92, 93, 30, 94, 32, 95, 96, 97, 98, 48, 99, 100, 101, 102, 103, 104, 105, 106, 120, 121, 122, 123, 124, 125, 126, 127, 129, 130, 131, 128] (by decide +kernel) (by decide +kernel)
set_option maxRecDepth 20000 in
theorem gX6_giveBack_X5_cancelBooking : GoodIn wsX6_giveBack (wsV RX6 54 RX5 yX5_cancelBooking wsX5_cancelBooking) := goodIn_app (goodIn_of _ (by decide +kernel)) ggX6_giveBack_X5_cancelBooking
set_option maxRecDepth 20000 in
theorem ggX6_giveBack_X1_record : GoodIn wsX6_giveBack wsX1_record := goodIn_r _ [110, 8, 111, 112, 34, 35, 36, 117, 118, 119] (by decide +kernel) (by decide +kernel)
set_option maxRecDepth 20000 in
theorem gX6_giveBack_X1_record : GoodIn wsX6_giveBack (wsV RX6 42 RX1 yX1_record wsX1_record) := goodIn_app (goodIn_of _ (by decide +kernel)) ggX6_giveBack_X1_record
theorem dX6_giveBack_0 : decode cX6_giveBack 0 = .ok (.aload_n 0, 1) := by decide +kernel
theorem dX6_giveBack_1 : decode cX6_giveBack 1 = .ok (.getfield 19, 3) := by decide +kernel
theorem dX6_giveBack_4 : decode cX6_giveBack 4 = .ok (.aload_n 0, 1) := by decide +kernel
theorem dX6_giveBack_5 : decode cX6_giveBack 5 = .ok (.getfield 12, 3) := by decide +kernel
theorem dX6_giveBack_8 : decode cX6_giveBack 8 = .ok (.invokevirtual 34, 3) := by decide +kernel
theorem dX6_giveBack_11 : decode cX6_giveBack 11 = .ok (.aload_n 0, 1) := by decide +kernel
theorem dX6_giveBack_12 : decode cX6_giveBack 12 = .ok (.getfield 19, 3) := by decide +kernel
theorem dX6_giveBack_15 : decode cX6_giveBack 15 = .ok (.aload_n 0, 1) := by decide +kernel
theorem dX6_giveBack_16 : decode cX6_giveBack 16 = .ok (.getfield 12, 3) := by decide +kernel
theorem dX6_giveBack_19 : decode cX6_giveBack 19 = .ok (.iload_n 1, 1) := by decide +kernel
theorem dX6_giveBack_20 : decode cX6_giveBack 20 = .ok (.iload_n 2, 1) := by decide +kernel
theorem dX6_giveBack_21 : decode cX6_giveBack 21 = .ok (.invokevirtual 54, 3) := by decide +kernel
theorem dX6_giveBack_24 : decode cX6_giveBack 24 = .ok (.invokevirtual 42, 3) := by decide +kernel
theorem dX6_giveBack_27 : decode cX6_giveBack 27 = .ok (.ireturn, 1) := by decide +kernel
set_option maxRecDepth 20000 in
theorem ggX6_throwPot_X1_prepare : GoodIn wsX6_throwPot wsX1_prepare := goodIn_r _ [7, 8, 9, 10, 11, 6, 12, 13, 14, 15, 16, 17, 18, 19, 20, 21, 22, 23, 24, 25, 26, 27, 28, 29, 30, 31, 32, 33, 34, 35, 36, 37, 38, 39, 40, 41, 42, 43, 44, 45, 46, 47, 48, 49, 50, 51, 52, 53, 54, 55, 56, 57, 58, 59, 60, 61, 62, 63, 64, 143, 144, 145, 146, 147, 148, 149, 150, 151, 152, 153, 154, 155, 156, 157, 158, 159, 160, 161, 162, 163, 164, 165, 166] (by decide +kernel) (by decide +kernel)
set_option maxRecDepth 20000 in
theorem gX6_throwPot_X1_prepare : GoodIn wsX6_throwPot (wsV RX6 34 RX1 yX1_prepare wsX1_prepare) := goodIn_app (goodIn_of _ (by decide +kernel)) ggX6_throwPot_X1_prepare
set_option maxRecDepth 20000 in
theorem ggX6_throwPot_X5_throwClay : GoodIn wsX6_throwPot wsX5_throwClay := goodIn_r _ [68, 20, 21, 69, 70, 71, 17, 72, 24, 73, 74, 75, 76, 77, 78, 44, 79, 80, 81, 82, 83, 46, 84, 85, 86, 87, 47, 88, 89, 90, 30, 91, 32, 92, 93, 94, 95, 48, 96, 97, 98, 53, 99, 100, 101, 102, 103, 63, 59, 104, 105, 106, 107, 108, 109, 110, 111, 112, 113, 114, 115, 116, 117, 118, 119, 25, 120, 121, 122, 123, 124, 55, 56, 57, 58, 60, 62, 125, 126, 127, 128, 129, 130, 131, 132, 146, 147, 148, 149, 150, 151, 152, 153, 158, 159, 160, 161, 162, 163, 164, 165, 166, 155, 156, 157, 154] (by decide +kernel) (by decide +kernel)
set_option maxRecDepth 20000 in
theorem gX6_throwPot_X5_throwClay : GoodIn wsX6_throwPot (wsV RX6 57 RX5 yX5_throwClay wsX5_throwClay) := goodIn_app (goodIn_of _ (by decide +kernel)) ggX6_throwPot_X5_throwClay
set_option maxRecDepth 20000 in
theorem ggX6_throwPot_X1_record : GoodIn wsX6_throwPot wsX1_record := goodIn_r _ [136, 8, 137, 138, 34, 35, 36, 143, 144, 145] (by decide +kernel) (by decide +kernel)
set_option maxRecDepth 20000 in
theorem gX6_throwPot_X1_record : GoodIn wsX6_throwPot (wsV RX6 42 RX1 yX1_record wsX1_record) := goodIn_app (goodIn_of _ (by decide +kernel)) ggX6_throwPot_X1_record
theorem dX6_throwPot_0 : decode cX6_throwPot 0 = .ok (.aload_n 0, 1) := by decide +kernel
theorem dX6_throwPot_1 : decode cX6_throwPot 1 = .ok (.getfield 19, 3) := by decide +kernel
theorem dX6_throwPot_4 : decode cX6_throwPot 4 = .ok (.aload_n 0, 1) := by decide +kernel
theorem dX6_throwPot_5 : decode cX6_throwPot 5 = .ok (.getfield 12, 3) := by decide +kernel
theorem dX6_throwPot_8 : decode cX6_throwPot 8 = .ok (.invokevirtual 34, 3) := by decide +kernel
theorem dX6_throwPot_11 : decode cX6_throwPot 11 = .ok (.aload_n 0, 1) := by decide +kernel
theorem dX6_throwPot_12 : decode cX6_throwPot 12 = .ok (.getfield 19, 3) := by decide +kernel
theorem dX6_throwPot_15 : decode cX6_throwPot 15 = .ok (.aload_n 0, 1) := by decide +kernel
theorem dX6_throwPot_16 : decode cX6_throwPot 16 = .ok (.getfield 12, 3) := by decide +kernel
theorem dX6_throwPot_19 : decode cX6_throwPot 19 = .ok (.iload_n 1, 1) := by decide +kernel
theorem dX6_throwPot_20 : decode cX6_throwPot 20 = .ok (.iload_n 2, 1) := by decide +kernel
theorem dX6_throwPot_21 : decode cX6_throwPot 21 = .ok (.invokevirtual 57, 3) := by decide +kernel
theorem dX6_throwPot_24 : decode cX6_throwPot 24 = .ok (.invokevirtual 42, 3) := by decide +kernel
theorem dX6_throwPot_27 : decode cX6_throwPot 27 = .ok (.ireturn, 1) := by decide +kernel
set_option maxRecDepth 20000 in
theorem ggX6_load_X1_prepare : GoodIn wsX6_load wsX1_prepare := goodIn_r _ [7, 8, 9, 10, 11, 6, 12, 13, 14, 15, 16, 17, 18, 19, 20, 21, 22, 23, 24, 25, 26, 27, 28, 29, 30, 31, 32, 33, 34, 35, 36, 37, 38, 39, 40, 41, 42, 43, 44, 45, 46, 47, 48, 49, 50, 51, 52, 53, 54, 55, 56, 57, 58, 59, 60, 61, 62, 63, 64, 135, 136, 137, 138, 139, 140, 141, 142, 143, 144, 145, 146, 147, 148, 149, 150, 151, 152, 153, 154, 155, 156, 157, 158] (by decide +kernel) (by decide +kernel)
set_option maxRecDepth 20000 in
theorem gX6_load_X1_prepare : GoodIn wsX6_load (wsV RX6 34 RX1 yX1_prepare wsX1_prepare) := goodIn_app (goodIn_of _ (by decide +kernel)) ggX6_load_X1_prepare
set_option maxRecDepth 20000 in
theorem ggX6_load_X5_moveIntoKiln : GoodIn wsX6_load wsX5_moveIntoKiln := goodIn_r _ [68, 21, 69, 70, 71, 17, 72, 19, 73, 74, 75, 53, 76, 63, 77, 78, 79, 80, 59, 81, 82, 83, 30, 84, 32, 85, 86, 87, 88, 58, 89, 90, 91, 92, 93, 94, 35, 95, 96, 97, 98, 99, 100, 101, 102, 103, 104, 105, 106, 107, 108, 109, 110, 111, 112, 113, 114, 115, 116, 56, 117, 118, 119, 120, 121, 122, 123, 124, 138, 139, 140, 141, 142, 143, 144, 145, 150, 151, 152, 153, 154, 155, 156, 157, 158, 146] (by decide +kernel) (by decide +kernel)
set_option maxRecDepth 20000 in
theorem gX6_load_X5_moveIntoKiln : GoodIn wsX6_load (wsV RX6 60 RX5 yX5_moveIntoKiln wsX5_moveIntoKiln) := goodIn_app (goodIn_of _ (by decide +kernel)) ggX6_load_X5_moveIntoKiln
set_option maxRecDepth 20000 in
theorem ggX6_load_X1_record : GoodIn wsX6_load wsX1_record := goodIn_r _ [128, 8, 129, 130, 34, 35, 36, 135, 136, 137] (by decide +kernel) (by decide +kernel)
set_option maxRecDepth 20000 in
theorem gX6_load_X1_record : GoodIn wsX6_load (wsV RX6 42 RX1 yX1_record wsX1_record) := goodIn_app (goodIn_of _ (by decide +kernel)) ggX6_load_X1_record
theorem dX6_load_0 : decode cX6_load 0 = .ok (.aload_n 0, 1) := by decide +kernel
theorem dX6_load_1 : decode cX6_load 1 = .ok (.getfield 19, 3) := by decide +kernel
theorem dX6_load_4 : decode cX6_load 4 = .ok (.aload_n 0, 1) := by decide +kernel
theorem dX6_load_5 : decode cX6_load 5 = .ok (.getfield 12, 3) := by decide +kernel
theorem dX6_load_8 : decode cX6_load 8 = .ok (.invokevirtual 34, 3) := by decide +kernel
theorem dX6_load_11 : decode cX6_load 11 = .ok (.aload_n 0, 1) := by decide +kernel
theorem dX6_load_12 : decode cX6_load 12 = .ok (.getfield 19, 3) := by decide +kernel
theorem dX6_load_15 : decode cX6_load 15 = .ok (.aload_n 0, 1) := by decide +kernel
theorem dX6_load_16 : decode cX6_load 16 = .ok (.getfield 12, 3) := by decide +kernel
theorem dX6_load_19 : decode cX6_load 19 = .ok (.iload_n 1, 1) := by decide +kernel
theorem dX6_load_20 : decode cX6_load 20 = .ok (.invokevirtual 60, 3) := by decide +kernel
theorem dX6_load_23 : decode cX6_load 23 = .ok (.invokevirtual 42, 3) := by decide +kernel
theorem dX6_load_26 : decode cX6_load 26 = .ok (.ireturn, 1) := by decide +kernel
set_option maxRecDepth 20000 in
theorem ggX6_unload_X1_prepare : GoodIn wsX6_unload wsX1_prepare := goodIn_r _ [7, 8, 9, 10, 11, 6, 12, 13, 14, 15, 16, 17, 18, 19, 20, 21, 22, 23, 24, 25, 26, 27, 28, 29, 30, 31, 32, 33, 34, 35, 36, 37, 38, 39, 40, 41, 42, 43, 44, 45, 46, 47, 48, 49, 50, 51, 52, 53, 54, 55, 56, 57, 58, 59, 60, 61, 62, 63, 64, 115, 116, 117, 118, 119, 120, 121, 122, 123, 124, 125, 126, 127, 128, 129, 130, 131, 132, 133, 134, 135, 136, 137, 138] (by decide +kernel) (by decide +kernel)
set_option maxRecDepth 20000 in
theorem gX6_unload_X1_prepare : GoodIn wsX6_unload (wsV RX6 34 RX1 yX1_prepare wsX1_prepare) := goodIn_app (goodIn_of _ (by decide +kernel)) ggX6_unload_X1_prepare
set_option maxRecDepth 20000 in
theorem ggX6_unload_X5_moveOutOfKiln : GoodIn wsX6_unload wsX5_moveOutOfKiln := goodIn_r _ [68, 21, 69, 70, 71, 53, 72, 63, 73, 74, 75, 76, 59, 77, 78, 79, 30, 80, 32, 81, 82, 83, 84, 85, 86, 87, 88, 89, 90, 91, 92, 93, 94, 95, 96, 97, 98, 99, 100, 101, 102, 103, 104, 118, 119, 120, 121, 122, 123, 124, 125, 130, 131, 132, 133, 134, 135, 136, 137, 138, 126] (by decide +kernel) (by decide +kernel)
set_option maxRecDepth 20000 in
theorem gX6_unload_X5_moveOutOfKiln : GoodIn wsX6_unload (wsV RX6 63 RX5 yX5_moveOutOfKiln wsX5_moveOutOfKiln) := goodIn_app (goodIn_of _ (by decide +kernel)) ggX6_unload_X5_moveOutOfKiln
set_option maxRecDepth 20000 in
theorem ggX6_unload_X1_record : GoodIn wsX6_unload wsX1_record := goodIn_r _ [108, 8, 109, 110, 34, 35, 36, 115, 116, 117] (by decide +kernel) (by decide +kernel)
set_option maxRecDepth 20000 in
theorem gX6_unload_X1_record : GoodIn wsX6_unload (wsV RX6 42 RX1 yX1_record wsX1_record) := goodIn_app (goodIn_of _ (by decide +kernel)) ggX6_unload_X1_record
theorem dX6_unload_0 : decode cX6_unload 0 = .ok (.aload_n 0, 1) := by decide +kernel
theorem dX6_unload_1 : decode cX6_unload 1 = .ok (.getfield 19, 3) := by decide +kernel
theorem dX6_unload_4 : decode cX6_unload 4 = .ok (.aload_n 0, 1) := by decide +kernel
theorem dX6_unload_5 : decode cX6_unload 5 = .ok (.getfield 12, 3) := by decide +kernel
theorem dX6_unload_8 : decode cX6_unload 8 = .ok (.invokevirtual 34, 3) := by decide +kernel
theorem dX6_unload_11 : decode cX6_unload 11 = .ok (.aload_n 0, 1) := by decide +kernel
theorem dX6_unload_12 : decode cX6_unload 12 = .ok (.getfield 19, 3) := by decide +kernel
theorem dX6_unload_15 : decode cX6_unload 15 = .ok (.aload_n 0, 1) := by decide +kernel
theorem dX6_unload_16 : decode cX6_unload 16 = .ok (.getfield 12, 3) := by decide +kernel
theorem dX6_unload_19 : decode cX6_unload 19 = .ok (.iload_n 1, 1) := by decide +kernel
theorem dX6_unload_20 : decode cX6_unload 20 = .ok (.invokevirtual 63, 3) := by decide +kernel
theorem dX6_unload_23 : decode cX6_unload 23 = .ok (.invokevirtual 42, 3) := by decide +kernel
theorem dX6_unload_26 : decode cX6_unload 26 = .ok (.ireturn, 1) := by decide +kernel
set_option maxRecDepth 20000 in
theorem ggX6_fire_X1_prepare : GoodIn wsX6_fire wsX1_prepare := goodIn_r _ [7, 8, 9, 10, 11, 6, 12, 13, 14, 15, 16, 17, 18, 19, 20, 21, 22, 23, 24, 25, 26, 27, 28, 29, 30, 31, 32, 33, 34, 35, 36, 37, 38, 39, 40, 41, 42, 43, 44, 45, 46, 47, 48, 49, 50, 51, 52, 53, 54, 55, 56, 57, 58, 59, 60, 61, 62, 63, 64, 154, 155, 156, 157, 158, 159, 160, 161, 162, 163, 164, 165, 166, 167, 168, 169, 170, 171, 172, 173, 174, 175, 176, 177] (by decide +kernel) (by decide +kernel)
set_option maxRecDepth 20000 in
theorem gX6_fire_X1_prepare : GoodIn wsX6_fire (wsV RX6 34 RX1 yX1_prepare wsX1_prepare) := goodIn_app (goodIn_of _ (by decide +kernel)) ggX6_fire_X1_prepare
set_option maxRecDepth 20000 in
theorem ggX6_fire_X5_fireKiln : GoodIn wsX6_fire wsX5_fireKiln := goodIn_r _ [68, 21, 26, 69, 70, 71, 72, 73, 74, 75, 76, 77, 53, 78, 59, 63, 79, 80, 81, 30, 82, 32, 83, 84, 85, 17, 86, 19, 87, 88, 89, 90, 91, 92, 93, 94, 95, 96, 97, 98, 99, 57, 100, 101, 102, 103, 58, 104, 105, 106, 107, 61, 108, 109, 110, 111, 112, 113, 114, 115, 116, 117, 118, 119, 120, 121, 122, 123, 124, 125, 126, 127, 128, 129, 130, 131, 132, 133, 134, 135, 136, 137, 138, 139, 140, 141, 142, 143, 157, 158, 159, 160, 161, 162, 163, 164, 169, 170, 171, 172, 173, 174, 175, 176, 177, 165] (by decide +kernel) (by decide +kernel)
set_option maxRecDepth 20000 in
theorem gX6_fire_X5_fireKiln : GoodIn wsX6_fire (wsV RX6 66 RX5 yX5_fireKiln wsX5_fireKiln) := goodIn_app (goodIn_of _ (by decide +kernel)) ggX6_fire_X5_fireKiln
set_option maxRecDepth 20000 in
theorem ggX6_fire_X1_record : GoodIn wsX6_fire wsX1_record := goodIn_r _ [147, 8, 148, 149, 34, 35, 36, 154, 155, 156] (by decide +kernel) (by decide +kernel)
set_option maxRecDepth 20000 in
theorem gX6_fire_X1_record : GoodIn wsX6_fire (wsV RX6 42 RX1 yX1_record wsX1_record) := goodIn_app (goodIn_of _ (by decide +kernel)) ggX6_fire_X1_record
theorem dX6_fire_0 : decode cX6_fire 0 = .ok (.aload_n 0, 1) := by decide +kernel
theorem dX6_fire_1 : decode cX6_fire 1 = .ok (.getfield 19, 3) := by decide +kernel
theorem dX6_fire_4 : decode cX6_fire 4 = .ok (.aload_n 0, 1) := by decide +kernel
theorem dX6_fire_5 : decode cX6_fire 5 = .ok (.getfield 12, 3) := by decide +kernel
theorem dX6_fire_8 : decode cX6_fire 8 = .ok (.invokevirtual 34, 3) := by decide +kernel
theorem dX6_fire_11 : decode cX6_fire 11 = .ok (.aload_n 0, 1) := by decide +kernel
theorem dX6_fire_12 : decode cX6_fire 12 = .ok (.getfield 19, 3) := by decide +kernel
theorem dX6_fire_15 : decode cX6_fire 15 = .ok (.aload_n 0, 1) := by decide +kernel
theorem dX6_fire_16 : decode cX6_fire 16 = .ok (.getfield 12, 3) := by decide +kernel
theorem dX6_fire_19 : decode cX6_fire 19 = .ok (.iload_n 1, 1) := by decide +kernel
theorem dX6_fire_20 : decode cX6_fire 20 = .ok (.invokevirtual 66, 3) := by decide +kernel
theorem dX6_fire_23 : decode cX6_fire 23 = .ok (.invokevirtual 42, 3) := by decide +kernel
theorem dX6_fire_26 : decode cX6_fire 26 = .ok (.ireturn, 1) := by decide +kernel
set_option maxRecDepth 20000 in
theorem ggX6_glaze_X1_prepare : GoodIn wsX6_glaze wsX1_prepare := goodIn_r _ [7, 8, 9, 10, 11, 6, 12, 13, 14, 15, 16, 17, 18, 19, 20, 21, 22, 23, 24, 25, 26, 27, 28, 29, 30, 31, 32, 33, 34, 35, 36, 37, 38, 39, 40, 41, 42, 43, 44, 45, 46, 47, 48, 49, 50, 51, 52, 53, 54, 55, 56, 57, 58, 59, 60, 61, 62, 63, 64, 112, 113, 114, 115, 116, 117, 118, 119, 120, 121, 122, 123, 124, 125, 126, 127, 128, 129, 130, 131, 132, 133, 134, 135] (by decide +kernel) (by decide +kernel)
set_option maxRecDepth 20000 in
theorem gX6_glaze_X1_prepare : GoodIn wsX6_glaze (wsV RX6 34 RX1 yX1_prepare wsX1_prepare) := goodIn_app (goodIn_of _ (by decide +kernel)) ggX6_glaze_X1_prepare
set_option maxRecDepth 20000 in
theorem ggX6_glaze_X5_glazePot : GoodIn wsX6_glaze wsX5_glazePot := goodIn_r _ [68, 21, 22, 69, 70, 71, 53, 72, 63, 73, 74, 75, 76, 77, 78, 79, 80, 81, 30, 82, 32, 83, 84, 85, 86, 58, 87, 88, 89, 90, 91, 59, 92, 93, 94, 95, 96, 97, 98, 99, 100, 101, 115, 116, 117, 118, 119, 120, 121, 122, 127, 128, 129, 130, 131, 132, 133, 134, 135, 123] (by decide +kernel) (by decide +kernel)
set_option maxRecDepth 20000 in
theorem gX6_glaze_X5_glazePot : GoodIn wsX6_glaze (wsV RX6 69 RX5 yX5_glazePot wsX5_glazePot) := goodIn_app (goodIn_of _ (by decide +kernel)) ggX6_glaze_X5_glazePot
set_option maxRecDepth 20000 in
theorem ggX6_glaze_X1_record : GoodIn wsX6_glaze wsX1_record := goodIn_r _ [105, 8, 106, 107, 34, 35, 36, 112, 113, 114] (by decide +kernel) (by decide +kernel)
set_option maxRecDepth 20000 in
theorem gX6_glaze_X1_record : GoodIn wsX6_glaze (wsV RX6 42 RX1 yX1_record wsX1_record) := goodIn_app (goodIn_of _ (by decide +kernel)) ggX6_glaze_X1_record
theorem dX6_glaze_0 : decode cX6_glaze 0 = .ok (.aload_n 0, 1) := by decide +kernel
theorem dX6_glaze_1 : decode cX6_glaze 1 = .ok (.getfield 19, 3) := by decide +kernel
theorem dX6_glaze_4 : decode cX6_glaze 4 = .ok (.aload_n 0, 1) := by decide +kernel
theorem dX6_glaze_5 : decode cX6_glaze 5 = .ok (.getfield 12, 3) := by decide +kernel
theorem dX6_glaze_8 : decode cX6_glaze 8 = .ok (.invokevirtual 34, 3) := by decide +kernel
theorem dX6_glaze_11 : decode cX6_glaze 11 = .ok (.aload_n 0, 1) := by decide +kernel
theorem dX6_glaze_12 : decode cX6_glaze 12 = .ok (.getfield 19, 3) := by decide +kernel
theorem dX6_glaze_15 : decode cX6_glaze 15 = .ok (.aload_n 0, 1) := by decide +kernel
theorem dX6_glaze_16 : decode cX6_glaze 16 = .ok (.getfield 12, 3) := by decide +kernel
theorem dX6_glaze_19 : decode cX6_glaze 19 = .ok (.iload_n 1, 1) := by decide +kernel
theorem dX6_glaze_20 : decode cX6_glaze 20 = .ok (.iload_n 2, 1) := by decide +kernel
theorem dX6_glaze_21 : decode cX6_glaze 21 = .ok (.invokevirtual 69, 3) := by decide +kernel
theorem dX6_glaze_24 : decode cX6_glaze 24 = .ok (.invokevirtual 42, 3) := by decide +kernel
theorem dX6_glaze_27 : decode cX6_glaze 27 = .ok (.ireturn, 1) := by decide +kernel
set_option maxRecDepth 20000 in
theorem ggX6_fill_X1_prepare : GoodIn wsX6_fill wsX1_prepare := goodIn_r _ [7, 8, 9, 10, 11, 6, 12, 13, 14, 15, 16, 17, 18, 19, 20, 21, 22, 23, 24, 25, 26, 27, 28, 29, 30, 31, 32, 33, 34, 35, 36, 37, 38, 39, 40, 41, 42, 43, 44, 45, 46, 47, 48, 49, 50, 51, 52, 53, 54, 55, 56, 57, 58, 59, 60, 61, 62, 63, 64, 94, 95, 96, 97, 98, 99, 100, 101, 102, 103, 104, 105, 106, 107, 108, 109, 110, 111, 112, 113, 114, 115, 116, 117] (by decide +kernel) (by decide +kernel)
set_option maxRecDepth 20000 in
theorem gX6_fill_X1_prepare : GoodIn wsX6_fill (wsV RX6 34 RX1 yX1_prepare wsX1_prepare) := goodIn_app (goodIn_of _ (by decide +kernel)) ggX6_fill_X1_prepare
set_option maxRecDepth 20000 in
theorem ggX6_fill_X5_fillGlaze : GoodIn wsX6_fill wsX5_fillGlaze := goodIn_r _ [68, 22, 69, 34, 35, 36, 70, 71, 72, 73, 74, 75, 76, 77, 78, 30, 79, 32, 80, 81, 82, 83, 97, 98, 99, 100, 101, 102, 103, 104, 105] (by decide +kernel) (by decide +kernel)
set_option maxRecDepth 20000 in
theorem gX6_fill_X5_fillGlaze : GoodIn wsX6_fill (wsV RX6 72 RX5 yX5_fillGlaze wsX5_fillGlaze) := goodIn_app (goodIn_of _ (by decide +kernel)) ggX6_fill_X5_fillGlaze
set_option maxRecDepth 20000 in
theorem ggX6_fill_X1_record : GoodIn wsX6_fill wsX1_record := goodIn_r _ [87, 8, 88, 89, 34, 35, 36, 94, 95, 96] (by decide +kernel) (by decide +kernel)
set_option maxRecDepth 20000 in
theorem gX6_fill_X1_record : GoodIn wsX6_fill (wsV RX6 42 RX1 yX1_record wsX1_record) := goodIn_app (goodIn_of _ (by decide +kernel)) ggX6_fill_X1_record
theorem dX6_fill_0 : decode cX6_fill 0 = .ok (.aload_n 0, 1) := by decide +kernel
theorem dX6_fill_1 : decode cX6_fill 1 = .ok (.getfield 19, 3) := by decide +kernel
theorem dX6_fill_4 : decode cX6_fill 4 = .ok (.aload_n 0, 1) := by decide +kernel
theorem dX6_fill_5 : decode cX6_fill 5 = .ok (.getfield 12, 3) := by decide +kernel
theorem dX6_fill_8 : decode cX6_fill 8 = .ok (.invokevirtual 34, 3) := by decide +kernel
theorem dX6_fill_11 : decode cX6_fill 11 = .ok (.aload_n 0, 1) := by decide +kernel
theorem dX6_fill_12 : decode cX6_fill 12 = .ok (.getfield 19, 3) := by decide +kernel
theorem dX6_fill_15 : decode cX6_fill 15 = .ok (.aload_n 0, 1) := by decide +kernel
theorem dX6_fill_16 : decode cX6_fill 16 = .ok (.getfield 12, 3) := by decide +kernel
theorem dX6_fill_19 : decode cX6_fill 19 = .ok (.iload_n 1, 1) := by decide +kernel
theorem dX6_fill_20 : decode cX6_fill 20 = .ok (.iload_n 2, 1) := by decide +kernel
theorem dX6_fill_21 : decode cX6_fill 21 = .ok (.invokevirtual 72, 3) := by decide +kernel
theorem dX6_fill_24 : decode cX6_fill 24 = .ok (.invokevirtual 42, 3) := by decide +kernel
theorem dX6_fill_27 : decode cX6_fill 27 = .ok (.ireturn, 1) := by decide +kernel
set_option maxRecDepth 20000 in
theorem ggX6_takeHome_X1_prepare : GoodIn wsX6_takeHome wsX1_prepare := goodIn_r _ [7, 8, 9, 10, 11, 6, 12, 13, 14, 15, 16, 17, 18, 19, 20, 21, 22, 23, 24, 25, 26, 27, 28, 29, 30, 31, 32, 33, 34, 35, 36, 37, 38, 39, 40, 41, 42, 43, 44, 45, 46, 47, 48, 49, 50, 51, 52, 53, 54, 55, 56, 57, 58, 59, 60, 61, 62, 63, 64, 106, 107, 108, 109, 110, 111, 112, 113, 114, 115, 116, 117, 118, 119, 120, 121, 122, 123, 124, 125, 126, 127, 128, 129] (by decide +kernel) (by decide +kernel)
set_option maxRecDepth 20000 in
theorem gX6_takeHome_X1_prepare : GoodIn wsX6_takeHome (wsV RX6 34 RX1 yX1_prepare wsX1_prepare) := goodIn_app (goodIn_of _ (by decide +kernel)) ggX6_takeHome_X1_prepare
set_option maxRecDepth 20000 in
theorem ggX6_takeHome_X5_handOver : GoodIn wsX6_takeHome wsX5_handOver := goodIn_r _ [68, 21, 19, 23, 69, 70, 71, 53, 72, 63, 73, 74, 75, 76, 58, 77, 78, 79, 30, 80, 32, 81, 82, 83, 84, 59, 85, 86, 87, 88, 89, 90, 91, 92, 93, 94, 95, 109, 110, 111, 112, 113, 114, 115, 116, 121, 122, 123, 124, 125, 126, 127, 128, 129, 117] (by decide +kernel) (by decide +kernel)
set_option maxRecDepth 20000 in
theorem gX6_takeHome_X5_handOver : GoodIn wsX6_takeHome (wsV RX6 75 RX5 yX5_handOver wsX5_handOver) := goodIn_app (goodIn_of _ (by decide +kernel)) ggX6_takeHome_X5_handOver
set_option maxRecDepth 20000 in
theorem ggX6_takeHome_X1_record : GoodIn wsX6_takeHome wsX1_record := goodIn_r _ [99, 8, 100, 101, 34, 35, 36, 106, 107, 108] (by decide +kernel) (by decide +kernel)
set_option maxRecDepth 20000 in
theorem gX6_takeHome_X1_record : GoodIn wsX6_takeHome (wsV RX6 42 RX1 yX1_record wsX1_record) := goodIn_app (goodIn_of _ (by decide +kernel)) ggX6_takeHome_X1_record
theorem dX6_takeHome_0 : decode cX6_takeHome 0 = .ok (.aload_n 0, 1) := by decide +kernel
theorem dX6_takeHome_1 : decode cX6_takeHome 1 = .ok (.getfield 19, 3) := by decide +kernel
theorem dX6_takeHome_4 : decode cX6_takeHome 4 = .ok (.aload_n 0, 1) := by decide +kernel
theorem dX6_takeHome_5 : decode cX6_takeHome 5 = .ok (.getfield 12, 3) := by decide +kernel
theorem dX6_takeHome_8 : decode cX6_takeHome 8 = .ok (.invokevirtual 34, 3) := by decide +kernel
theorem dX6_takeHome_11 : decode cX6_takeHome 11 = .ok (.aload_n 0, 1) := by decide +kernel
theorem dX6_takeHome_12 : decode cX6_takeHome 12 = .ok (.getfield 19, 3) := by decide +kernel
theorem dX6_takeHome_15 : decode cX6_takeHome 15 = .ok (.aload_n 0, 1) := by decide +kernel
theorem dX6_takeHome_16 : decode cX6_takeHome 16 = .ok (.getfield 12, 3) := by decide +kernel
theorem dX6_takeHome_19 : decode cX6_takeHome 19 = .ok (.iload_n 1, 1) := by decide +kernel
theorem dX6_takeHome_20 : decode cX6_takeHome 20 = .ok (.invokevirtual 75, 3) := by decide +kernel
theorem dX6_takeHome_23 : decode cX6_takeHome 23 = .ok (.invokevirtual 42, 3) := by decide +kernel
theorem dX6_takeHome_26 : decode cX6_takeHome 26 = .ok (.ireturn, 1) := by decide +kernel
set_option maxRecDepth 20000 in
theorem ggX6_pass_X1_prepare : GoodIn wsX6_pass wsX1_prepare := goodIn_r _ [7, 8, 9, 10, 11, 6, 12, 13, 14, 15, 16, 17, 18, 19, 20, 21, 22, 23, 24, 25, 26, 27, 28, 29, 30, 31, 32, 33, 34, 35, 36, 37, 38, 39, 40, 41, 42, 43, 44, 45, 46, 47, 48, 49, 50, 51, 52, 53, 54, 55, 56, 57, 58, 59, 60, 61, 62, 63, 64, 124, 125, 126, 127, 128, 129, 130, 131, 132, 133, 134, 135, 136, 137, 138, 139, 140, 141, 142, 143, 144, 145, 146, 147] (by decide +kernel) (by decide +kernel)
set_option maxRecDepth 20000 in
theorem gX6_pass_X1_prepare : GoodIn wsX6_pass (wsV RX6 34 RX1 yX1_prepare wsX1_prepare) := goodIn_app (goodIn_of _ (by decide +kernel)) ggX6_pass_X1_prepare
set_option maxRecDepth 20000 in
theorem ggX6_pass_X5_passNights : GoodIn wsX6_pass wsX5_passNights := goodIn_r _ [68, 20, 21, 69, 70, 71, 72, 73, 74, 53, 75, 63, 60, 76, 77, 78, 79, 59, 80, 81, 82, 30, 83, 32, 84, 85, 86, 87, 58, 88, 89, 90, 91, 92, 93, 94, 95, 96, 97, 98, 99, 100, 101, 102, 103, 44, 104, 48, 47, 105, 106, 107, 108, 46, 109, 110, 111, 112, 113, 127, 128, 129, 130, 131, 132, 133, 134, 136, 137, 138, 139, 140, 141, 142, 143, 144, 145, 146, 147, 135] (by decide +kernel) (by decide +kernel)
set_option maxRecDepth 20000 in
theorem gX6_pass_X5_passNights : GoodIn wsX6_pass (wsV RX6 78 RX5 yX5_passNights wsX5_passNights) := goodIn_app (goodIn_of _ (by decide +kernel)) ggX6_pass_X5_passNights
set_option maxRecDepth 20000 in
theorem ggX6_pass_X1_record : GoodIn wsX6_pass wsX1_record := goodIn_r _ [117, 8, 118, 119, 34, 35, 36, 124, 125, 126] (by decide +kernel) (by decide +kernel)
set_option maxRecDepth 20000 in
theorem gX6_pass_X1_record : GoodIn wsX6_pass (wsV RX6 42 RX1 yX1_record wsX1_record) := goodIn_app (goodIn_of _ (by decide +kernel)) ggX6_pass_X1_record
theorem dX6_pass_0 : decode cX6_pass 0 = .ok (.aload_n 0, 1) := by decide +kernel
theorem dX6_pass_1 : decode cX6_pass 1 = .ok (.getfield 19, 3) := by decide +kernel
theorem dX6_pass_4 : decode cX6_pass 4 = .ok (.aload_n 0, 1) := by decide +kernel
theorem dX6_pass_5 : decode cX6_pass 5 = .ok (.getfield 12, 3) := by decide +kernel
theorem dX6_pass_8 : decode cX6_pass 8 = .ok (.invokevirtual 34, 3) := by decide +kernel
theorem dX6_pass_11 : decode cX6_pass 11 = .ok (.aload_n 0, 1) := by decide +kernel
theorem dX6_pass_12 : decode cX6_pass 12 = .ok (.getfield 19, 3) := by decide +kernel
theorem dX6_pass_15 : decode cX6_pass 15 = .ok (.aload_n 0, 1) := by decide +kernel
theorem dX6_pass_16 : decode cX6_pass 16 = .ok (.getfield 12, 3) := by decide +kernel
theorem dX6_pass_19 : decode cX6_pass 19 = .ok (.iload_n 1, 1) := by decide +kernel
theorem dX6_pass_20 : decode cX6_pass 20 = .ok (.invokevirtual 78, 3) := by decide +kernel
theorem dX6_pass_23 : decode cX6_pass 23 = .ok (.invokevirtual 42, 3) := by decide +kernel
theorem dX6_pass_26 : decode cX6_pass 26 = .ok (.ireturn, 1) := by decide +kernel
set_option maxRecDepth 20000 in
theorem ggX6_of_X5_factOfPot : GoodIn wsX6_of wsX5_factOfPot := goodIn_r _ [6, 7, 8, 9, 10, 11, 12, 13, 14, 15, 16, 17, 18, 19, 20, 21, 22, 23, 24, 25, 26, 27, 28, 29, 30, 31, 32, 33, 34, 39, 40, 41, 42, 43, 44, 45, 46, 47, 48, 49, 50, 51, 52, 53, 54, 55, 56] (by decide +kernel) (by decide +kernel)
set_option maxRecDepth 20000 in
theorem gX6_of_X5_factOfPot : GoodIn wsX6_of (wsV RX6 81 RX5 yX5_factOfPot wsX5_factOfPot) := goodIn_app (goodIn_of _ (by decide +kernel)) ggX6_of_X5_factOfPot
