set_option maxRecDepth 20000 in
theorem gX5_throwClay_X0_hasThrownTonight : GoodIn wsX5_throwClay (wsV RX5 103 RX0 yX0_hasThrownTonight wsX0_hasThrownTonight) := goodIn_app (goodIn_of _ (by decide +kernel)) ggX5_throwClay_X0_hasThrownTonight
set_option maxRecDepth 20000 in
theorem ggX5_throwClay_X3_freePlaces : GoodIn wsX5_throwClay wsX3_freePlaces := goodIn_r _ [42, 43, 44, 45, 41, 46, 47, 48, 49, 28, 29, 30, 31, 32, 50, 51, 52, 53, 54, 55, 56, 93, 94, 95, 96, 97, 98, 99, 100, 101, 105] (by decide +kernel) (by decide +kernel)
set_option maxRecDepth 20000 in
theorem gX5_throwClay_X3_freePlaces : GoodIn wsX5_throwClay (wsV RX5 118 RX3 yX3_freePlaces wsX3_freePlaces) := goodIn_app (goodIn_of _ (by decide +kernel)) ggX5_throwClay_X3_freePlaces
set_option maxRecDepth 20000 in
theorem ggX5_throwClay_X0_noteThrower : GoodIn wsX5_throwClay wsX0_noteThrower := goodIn_r _ [60, 37, 102, 103, 104] (by decide +kernel) (by decide +kernel)
set_option maxRecDepth 20000 in
theorem gX5_throwClay_X0_noteThrower : GoodIn wsX5_throwClay (wsV RX5 122 RX0 yX0_noteThrower wsX0_noteThrower) := goodIn_app (goodIn_of _ (by decide +kernel)) ggX5_throwClay_X0_noteThrower
set_option maxRecDepth 20000 in
theorem ggX5_throwClay_X5_drawFault : GoodIn wsX5_throwClay wsX5_drawFault := goodIn_r _ [64, 65, 66, 85, 86, 87, 88, 89, 90, 91, 92] (by decide +kernel) (by decide +kernel)
set_option maxRecDepth 20000 in
theorem gX5_throwClay_X5_drawFault : GoodIn wsX5_throwClay (wsV RX5 125 RX5 yX5_drawFault wsX5_drawFault) := goodIn_app (goodIn_of _ (by decide +kernel)) ggX5_throwClay_X5_drawFault
set_option maxRecDepth 20000 in
theorem ggX5_throwClay_X3_addClay : GoodIn wsX5_throwClay wsX3_addClay := goodIn_r _ [70, 47, 71, 72, 73, 74, 75, 76, 77, 78, 79, 30, 80, 32, 81, 82, 83, 41, 84, 48, 43, 44, 45, 46, 49, 28, 29, 31, 93, 94, 95, 96, 97, 98, 99, 100, 101, 105] (by decide +kernel) (by decide +kernel)
set_option maxRecDepth 20000 in
theorem gX5_throwClay_X3_addClay : GoodIn wsX5_throwClay (wsV RX5 128 RX3 yX3_addClay wsX3_addClay) := goodIn_app (goodIn_of _ (by decide +kernel)) ggX5_throwClay_X3_addClay
theorem dX5_throwClay_0 : decode cX5_throwClay 0 = .ok (.aload_n 0, 1) := by decide +kernel
theorem dX5_throwClay_1 : decode cX5_throwClay 1 = .ok (.iload_n 1, 1) := by decide +kernel
theorem dX5_throwClay_2 : decode cX5_throwClay 2 = .ok (.invokevirtual 79, 3) := by decide +kernel
theorem dX5_throwClay_5 : decode cX5_throwClay 5 = .ok (.ifCond .ne 5, 3) := by decide +kernel
theorem dX5_throwClay_8 : decode cX5_throwClay 8 = .ok (.iconst (-1), 1) := by decide +kernel
theorem dX5_throwClay_9 : decode cX5_throwClay 9 = .ok (.ireturn, 1) := by decide +kernel
theorem dX5_throwClay_10 : decode cX5_throwClay 10 = .ok (.iload_n 2, 1) := by decide +kernel
theorem dX5_throwClay_11 : decode cX5_throwClay 11 = .ok (.iconst 1, 1) := by decide +kernel
theorem dX5_throwClay_12 : decode cX5_throwClay 12 = .ok (.iconst 3, 1) := by decide +kernel
theorem dX5_throwClay_13 : decode cX5_throwClay 13 = .ok (.invokestatic 67, 3) := by decide +kernel
theorem dX5_throwClay_16 : decode cX5_throwClay 16 = .ok (.ifCond .ne 6, 3) := by decide +kernel
theorem dX5_throwClay_19 : decode cX5_throwClay 19 = .ok (.bipush (-2), 2) := by decide +kernel
theorem dX5_throwClay_21 : decode cX5_throwClay 21 = .ok (.ireturn, 1) := by decide +kernel
theorem dX5_throwClay_22 : decode cX5_throwClay 22 = .ok (.aload_n 0, 1) := by decide +kernel
theorem dX5_throwClay_23 : decode cX5_throwClay 23 = .ok (.getfield 23, 3) := by decide +kernel
theorem dX5_throwClay_26 : decode cX5_throwClay 26 = .ok (.iload_n 1, 1) := by decide +kernel
theorem dX5_throwClay_27 : decode cX5_throwClay 27 = .ok (.iconst 0, 1) := by decide +kernel
theorem dX5_throwClay_28 : decode cX5_throwClay 28 = .ok (.invokevirtual 93, 3) := by decide +kernel
theorem dX5_throwClay_31 : decode cX5_throwClay 31 = .ok (.bipush (-6), 2) := by decide +kernel
theorem dX5_throwClay_33 : decode cX5_throwClay 33 = .ok (.if_icmp .eq 14, 3) := by decide +kernel
theorem dX5_throwClay_36 : decode cX5_throwClay 36 = .ok (.aload_n 0, 1) := by decide +kernel
theorem dX5_throwClay_37 : decode cX5_throwClay 37 = .ok (.getfield 23, 3) := by decide +kernel
theorem dX5_throwClay_40 : decode cX5_throwClay 40 = .ok (.iload_n 1, 1) := by decide +kernel
theorem dX5_throwClay_41 : decode cX5_throwClay 41 = .ok (.invokevirtual 103, 3) := by decide +kernel
theorem dX5_throwClay_44 : decode cX5_throwClay 44 = .ok (.ifCond .eq 6, 3) := by decide +kernel
theorem dX5_throwClay_47 : decode cX5_throwClay 47 = .ok (.bipush (-5), 2) := by decide +kernel
theorem dX5_throwClay_49 : decode cX5_throwClay 49 = .ok (.ireturn, 1) := by decide +kernel
theorem dX5_throwClay_50 : decode cX5_throwClay 50 = .ok (.aload_n 0, 1) := by decide +kernel
theorem dX5_throwClay_51 : decode cX5_throwClay 51 = .ok (.getfield 30, 3) := by decide +kernel
theorem dX5_throwClay_54 : decode cX5_throwClay 54 = .ok (.getfield 64, 3) := by decide +kernel
theorem dX5_throwClay_57 : decode cX5_throwClay 57 = .ok (.bipush 20, 2) := by decide +kernel
theorem dX5_throwClay_59 : decode cX5_throwClay 59 = .ok (.if_icmp .ge 13, 3) := by decide +kernel
theorem dX5_throwClay_62 : decode cX5_throwClay 62 = .ok (.aload_n 0, 1) := by decide +kernel
theorem dX5_throwClay_63 : decode cX5_throwClay 63 = .ok (.getfield 30, 3) := by decide +kernel
theorem dX5_throwClay_66 : decode cX5_throwClay 66 = .ok (.invokevirtual 118, 3) := by decide +kernel
theorem dX5_throwClay_69 : decode cX5_throwClay 69 = .ok (.ifCond .ne 6, 3) := by decide +kernel
theorem dX5_throwClay_72 : decode cX5_throwClay 72 = .ok (.bipush (-4), 2) := by decide +kernel
theorem dX5_throwClay_74 : decode cX5_throwClay 74 = .ok (.ireturn, 1) := by decide +kernel
theorem dX5_throwClay_75 : decode cX5_throwClay 75 = .ok (.aload_n 0, 1) := by decide +kernel
theorem dX5_throwClay_76 : decode cX5_throwClay 76 = .ok (.getfield 23, 3) := by decide +kernel
theorem dX5_throwClay_79 : decode cX5_throwClay 79 = .ok (.iload_n 1, 1) := by decide +kernel
theorem dX5_throwClay_80 : decode cX5_throwClay 80 = .ok (.invokevirtual 122, 3) := by decide +kernel
theorem dX5_throwClay_83 : decode cX5_throwClay 83 = .ok (.aload_n 0, 1) := by decide +kernel
theorem dX5_throwClay_84 : decode cX5_throwClay 84 = .ok (.getfield 30, 3) := by decide +kernel
theorem dX5_throwClay_87 : decode cX5_throwClay 87 = .ok (.iload_n 1, 1) := by decide +kernel
theorem dX5_throwClay_88 : decode cX5_throwClay 88 = .ok (.iload_n 2, 1) := by decide +kernel
theorem dX5_throwClay_89 : decode cX5_throwClay 89 = .ok (.aload_n 0, 1) := by decide +kernel
theorem dX5_throwClay_90 : decode cX5_throwClay 90 = .ok (.invokevirtual 125, 3) := by decide +kernel
theorem dX5_throwClay_93 : decode cX5_throwClay 93 = .ok (.invokevirtual 128, 3) := by decide +kernel
theorem dX5_throwClay_96 : decode cX5_throwClay 96 = .ok (.ireturn, 1) := by decide +kernel
theorem dX5_drawFault_0 : decode cX5_drawFault 0 = .ok (.aload_n 0, 1) := by decide +kernel
theorem dX5_drawFault_1 : decode cX5_drawFault 1 = .ok (.bipush 75, 2) := by decide +kernel
theorem dX5_drawFault_3 : decode cX5_drawFault 3 = .ok (.aload_n 0, 1) := by decide +kernel
theorem dX5_drawFault_4 : decode cX5_drawFault 4 = .ok (.getfield 40, 3) := by decide +kernel
theorem dX5_drawFault_7 : decode cX5_drawFault 7 = .ok (.imul, 1) := by decide +kernel
theorem dX5_drawFault_8 : decode cX5_drawFault 8 = .ok (.bipush 74, 2) := by decide +kernel
theorem dX5_drawFault_10 : decode cX5_drawFault 10 = .ok (.iadd, 1) := by decide +kernel
theorem dX5_drawFault_11 : decode cX5_drawFault 11 = .ok (.ldc 132, 2) := by decide +kernel
theorem dX5_drawFault_13 : decode cX5_drawFault 13 = .ok (.irem, 1) := by decide +kernel
theorem dX5_drawFault_14 : decode cX5_drawFault 14 = .ok (.putfield 40, 3) := by decide +kernel
theorem dX5_drawFault_17 : decode cX5_drawFault 17 = .ok (.aload_n 0, 1) := by decide +kernel
theorem dX5_drawFault_18 : decode cX5_drawFault 18 = .ok (.getfield 40, 3) := by decide +kernel
theorem dX5_drawFault_21 : decode cX5_drawFault 21 = .ok (.bipush 8, 2) := by decide +kernel
theorem dX5_drawFault_23 : decode cX5_drawFault 23 = .ok (.idiv, 1) := by decide +kernel
theorem dX5_drawFault_24 : decode cX5_drawFault 24 = .ok (.bipush 10, 2) := by decide +kernel
theorem dX5_drawFault_26 : decode cX5_drawFault 26 = .ok (.irem, 1) := by decide +kernel
theorem dX5_drawFault_27 : decode cX5_drawFault 27 = .ok (.ireturn, 1) := by decide +kernel
set_option maxRecDepth 20000 in
theorem ggX5_glazePot_X3_has : GoodIn wsX5_glazePot wsX3_has := goodIn_r _ [7, 8, 50, 51, 52, 53, 54, 55, 56, 57, 58] (by decide +kernel) (by decide +kernel)
set_option maxRecDepth 20000 in
theorem gX5_glazePot_X3_has : GoodIn wsX5_glazePot (wsV RX5 133 RX3 yX3_has wsX3_has) := goodIn_app (goodIn_of _ (by decide +kernel)) ggX5_glazePot_X3_has
set_option maxRecDepth 20000 in
theorem ggX5_glazePot_X6_isGlaze : GoodIn wsX5_glazePot wsX6_isGlaze := goodIn_r _ [11, 12, 13, 10, 14] (by decide +kernel) (by decide +kernel)
set_option maxRecDepth 20000 in
theorem gX5_glazePot_X6_isGlaze_n136 : GoodIn wsX5_glazePot (wsX6_isGlaze) := ggX5_glazePot_X6_isGlaze
set_option maxRecDepth 20000 in
theorem ggX5_glazePot_X4_at : GoodIn wsX5_glazePot wsX4_at := goodIn_r _ [19, 20, 59] (by decide +kernel) (by decide +kernel)
set_option maxRecDepth 20000 in
theorem gX5_glazePot_X4_at : GoodIn wsX5_glazePot (wsV RX5 75 RX4 yX4_at wsX4_at) := goodIn_app (goodIn_of _ (by decide +kernel)) ggX5_glazePot_X4_at
set_option maxRecDepth 20000 in
theorem ggX5_glazePot_X3_isKind : GoodIn wsX5_glazePot wsX3_isKind := goodIn_r _ [24, 25, 26, 16, 17, 18, 19, 20, 50, 51, 52, 53, 54, 55, 56, 57, 58, 59] (by decide +kernel) (by decide +kernel)
set_option maxRecDepth 20000 in
theorem gX5_glazePot_X3_isKind : GoodIn wsX5_glazePot (wsV RX5 142 RX3 yX3_isKind wsX3_isKind) := goodIn_app (goodIn_of _ (by decide +kernel)) ggX5_glazePot_X3_isKind
set_option maxRecDepth 20000 in
theorem ggX5_glazePot_X3_isOnRack : GoodIn wsX5_glazePot wsX3_isOnRack := goodIn_r _ [30, 31, 26, 16, 17, 18, 19, 20, 50, 51, 52, 53, 54, 55, 56, 57, 58, 59] (by decide +kernel) (by decide +kernel)
set_option maxRecDepth 20000 in
theorem gX5_glazePot_X3_isOnRack : GoodIn wsX5_glazePot (wsV RX5 145 RX3 yX3_isOnRack wsX3_isOnRack) := goodIn_app (goodIn_of _ (by decide +kernel)) ggX5_glazePot_X3_isOnRack
set_option maxRecDepth 20000 in
theorem ggX5_glazePot_X4_add : GoodIn wsX5_glazePot wsX4_add := goodIn_r _ [35, 36, 16, 17, 18, 19, 20, 37, 38, 39, 40, 59] (by decide +kernel) (by decide +kernel)
set_option maxRecDepth 20000 in
theorem gX5_glazePot_X4_add : GoodIn wsX5_glazePot (wsV RX5 148 RX4 yX4_add wsX4_add) := goodIn_app (goodIn_of _ (by decide +kernel)) ggX5_glazePot_X4_add
set_option maxRecDepth 20000 in
theorem ggX5_glazePot_X4_write : GoodIn wsX5_glazePot wsX4_write := goodIn_r _ [40, 20, 59] (by decide +kernel) (by decide +kernel)
set_option maxRecDepth 20000 in
theorem gX5_glazePot_X4_write : GoodIn wsX5_glazePot (wsV RX5 44 RX4 yX4_write wsX4_write) := goodIn_app (goodIn_of _ (by decide +kernel)) ggX5_glazePot_X4_write
theorem dX5_glazePot_0 : decode cX5_glazePot 0 = .ok (.aload_n 0, 1) := by decide +kernel
theorem dX5_glazePot_1 : decode cX5_glazePot 1 = .ok (.getfield 30, 3) := by decide +kernel
theorem dX5_glazePot_4 : decode cX5_glazePot 4 = .ok (.iload_n 1, 1) := by decide +kernel
theorem dX5_glazePot_5 : decode cX5_glazePot 5 = .ok (.invokevirtual 133, 3) := by decide +kernel
theorem dX5_glazePot_8 : decode cX5_glazePot 8 = .ok (.ifCond .eq 10, 3) := by decide +kernel
theorem dX5_glazePot_11 : decode cX5_glazePot 11 = .ok (.iload_n 2, 1) := by decide +kernel
theorem dX5_glazePot_12 : decode cX5_glazePot 12 = .ok (.invokestatic 136, 3) := by decide +kernel
theorem dX5_glazePot_15 : decode cX5_glazePot 15 = .ok (.ifCond .ne 5, 3) := by decide +kernel
theorem dX5_glazePot_18 : decode cX5_glazePot 18 = .ok (.iconst (-1), 1) := by decide +kernel
theorem dX5_glazePot_19 : decode cX5_glazePot 19 = .ok (.ireturn, 1) := by decide +kernel
theorem dX5_glazePot_20 : decode cX5_glazePot 20 = .ok (.aload_n 0, 1) := by decide +kernel
theorem dX5_glazePot_21 : decode cX5_glazePot 21 = .ok (.getfield 30, 3) := by decide +kernel
theorem dX5_glazePot_24 : decode cX5_glazePot 24 = .ok (.getfield 139, 3) := by decide +kernel
theorem dX5_glazePot_27 : decode cX5_glazePot 27 = .ok (.iload_n 1, 1) := by decide +kernel
theorem dX5_glazePot_28 : decode cX5_glazePot 28 = .ok (.invokevirtual 75, 3) := by decide +kernel
theorem dX5_glazePot_31 : decode cX5_glazePot 31 = .ok (.istore_n 3, 1) := by decide +kernel
theorem dX5_glazePot_32 : decode cX5_glazePot 32 = .ok (.aload_n 0, 1) := by decide +kernel
theorem dX5_glazePot_33 : decode cX5_glazePot 33 = .ok (.getfield 30, 3) := by decide +kernel
theorem dX5_glazePot_36 : decode cX5_glazePot 36 = .ok (.iload_n 1, 1) := by decide +kernel
theorem dX5_glazePot_37 : decode cX5_glazePot 37 = .ok (.iconst 1, 1) := by decide +kernel
theorem dX5_glazePot_38 : decode cX5_glazePot 38 = .ok (.invokevirtual 142, 3) := by decide +kernel
theorem dX5_glazePot_41 : decode cX5_glazePot 41 = .ok (.ifCond .eq 26, 3) := by decide +kernel
theorem dX5_glazePot_44 : decode cX5_glazePot 44 = .ok (.aload_n 0, 1) := by decide +kernel
theorem dX5_glazePot_45 : decode cX5_glazePot 45 = .ok (.getfield 30, 3) := by decide +kernel
theorem dX5_glazePot_48 : decode cX5_glazePot 48 = .ok (.iload_n 1, 1) := by decide +kernel
theorem dX5_glazePot_49 : decode cX5_glazePot 49 = .ok (.invokevirtual 145, 3) := by decide +kernel
theorem dX5_glazePot_52 : decode cX5_glazePot 52 = .ok (.ifCond .eq 15, 3) := by decide +kernel
theorem dX5_glazePot_55 : decode cX5_glazePot 55 = .ok (.aload_n 0, 1) := by decide +kernel
theorem dX5_glazePot_56 : decode cX5_glazePot 56 = .ok (.getfield 34, 3) := by decide +kernel
theorem dX5_glazePot_59 : decode cX5_glazePot 59 = .ok (.iload_n 2, 1) := by decide +kernel
theorem dX5_glazePot_60 : decode cX5_glazePot 60 = .ok (.invokevirtual 75, 3) := by decide +kernel
theorem dX5_glazePot_63 : decode cX5_glazePot 63 = .ok (.iload_n 3, 1) := by decide +kernel
theorem dX5_glazePot_64 : decode cX5_glazePot 64 = .ok (.if_icmp .ge 6, 3) := by decide +kernel
theorem dX5_glazePot_67 : decode cX5_glazePot 67 = .ok (.bipush (-5), 2) := by decide +kernel
theorem dX5_glazePot_69 : decode cX5_glazePot 69 = .ok (.ireturn, 1) := by decide +kernel
theorem dX5_glazePot_70 : decode cX5_glazePot 70 = .ok (.aload_n 0, 1) := by decide +kernel
theorem dX5_glazePot_71 : decode cX5_glazePot 71 = .ok (.getfield 34, 3) := by decide +kernel
theorem dX5_glazePot_74 : decode cX5_glazePot 74 = .ok (.iload_n 2, 1) := by decide +kernel
theorem dX5_glazePot_75 : decode cX5_glazePot 75 = .ok (.iload_n 3, 1) := by decide +kernel
theorem dX5_glazePot_76 : decode cX5_glazePot 76 = .ok (.ineg, 1) := by decide +kernel
theorem dX5_glazePot_77 : decode cX5_glazePot 77 = .ok (.invokevirtual 148, 3) := by decide +kernel
theorem dX5_glazePot_80 : decode cX5_glazePot 80 = .ok (.aload_n 0, 1) := by decide +kernel
theorem dX5_glazePot_81 : decode cX5_glazePot 81 = .ok (.getfield 30, 3) := by decide +kernel
theorem dX5_glazePot_84 : decode cX5_glazePot 84 = .ok (.getfield 151, 3) := by decide +kernel
theorem dX5_glazePot_87 : decode cX5_glazePot 87 = .ok (.iload_n 1, 1) := by decide +kernel
theorem dX5_glazePot_88 : decode cX5_glazePot 88 = .ok (.iconst 2, 1) := by decide +kernel
theorem dX5_glazePot_89 : decode cX5_glazePot 89 = .ok (.invokevirtual 44, 3) := by decide +kernel
theorem dX5_glazePot_92 : decode cX5_glazePot 92 = .ok (.aload_n 0, 1) := by decide +kernel
theorem dX5_glazePot_93 : decode cX5_glazePot 93 = .ok (.getfield 30, 3) := by decide +kernel
theorem dX5_glazePot_96 : decode cX5_glazePot 96 = .ok (.getfield 154, 3) := by decide +kernel
theorem dX5_glazePot_99 : decode cX5_glazePot 99 = .ok (.iload_n 1, 1) := by decide +kernel
theorem dX5_glazePot_100 : decode cX5_glazePot 100 = .ok (.iload_n 2, 1) := by decide +kernel
theorem dX5_glazePot_101 : decode cX5_glazePot 101 = .ok (.invokevirtual 44, 3) := by decide +kernel
theorem dX5_glazePot_104 : decode cX5_glazePot 104 = .ok (.aload_n 0, 1) := by decide +kernel
theorem dX5_glazePot_105 : decode cX5_glazePot 105 = .ok (.getfield 34, 3) := by decide +kernel
theorem dX5_glazePot_108 : decode cX5_glazePot 108 = .ok (.iload_n 2, 1) := by decide +kernel
theorem dX5_glazePot_109 : decode cX5_glazePot 109 = .ok (.invokevirtual 75, 3) := by decide +kernel
theorem dX5_glazePot_112 : decode cX5_glazePot 112 = .ok (.ireturn, 1) := by decide +kernel
set_option maxRecDepth 20000 in
theorem ggX5_fillGlaze_X6_isGlaze : GoodIn wsX5_fillGlaze wsX6_isGlaze := goodIn_r _ [8, 9, 10, 7, 11] (by decide +kernel) (by decide +kernel)
set_option maxRecDepth 20000 in
theorem gX5_fillGlaze_X6_isGlaze_n136 : GoodIn wsX5_fillGlaze (wsX6_isGlaze) := ggX5_fillGlaze_X6_isGlaze
set_option maxRecDepth 20000 in
theorem ggX5_fillGlaze_X6_isWithin : GoodIn wsX5_fillGlaze wsX6_isWithin := goodIn_r _ [11] (by decide +kernel) (by decide +kernel)
set_option maxRecDepth 20000 in
theorem gX5_fillGlaze_X6_isWithin_n67 : GoodIn wsX5_fillGlaze (wsX6_isWithin) := ggX5_fillGlaze_X6_isWithin
set_option maxRecDepth 20000 in
theorem ggX5_fillGlaze_X4_at : GoodIn wsX5_fillGlaze wsX4_at := goodIn_r _ [16, 17, 30] (by decide +kernel) (by decide +kernel)
set_option maxRecDepth 20000 in
theorem gX5_fillGlaze_X4_at : GoodIn wsX5_fillGlaze (wsV RX5 75 RX4 yX4_at wsX4_at) := goodIn_app (goodIn_of _ (by decide +kernel)) ggX5_fillGlaze_X4_at
set_option maxRecDepth 20000 in
theorem ggX5_fillGlaze_X4_write : GoodIn wsX5_fillGlaze wsX4_write := goodIn_r _ [21, 17, 30] (by decide +kernel) (by decide +kernel)
set_option maxRecDepth 20000 in
theorem gX5_fillGlaze_X4_write : GoodIn wsX5_fillGlaze (wsV RX5 44 RX4 yX4_write wsX4_write) := goodIn_app (goodIn_of _ (by decide +kernel)) ggX5_fillGlaze_X4_write
theorem dX5_fillGlaze_0 : decode cX5_fillGlaze 0 = .ok (.iload_n 1, 1) := by decide +kernel
theorem dX5_fillGlaze_1 : decode cX5_fillGlaze 1 = .ok (.invokestatic 136, 3) := by decide +kernel
theorem dX5_fillGlaze_4 : decode cX5_fillGlaze 4 = .ok (.ifCond .ne 5, 3) := by decide +kernel
theorem dX5_fillGlaze_7 : decode cX5_fillGlaze 7 = .ok (.iconst (-1), 1) := by decide +kernel
theorem dX5_fillGlaze_8 : decode cX5_fillGlaze 8 = .ok (.ireturn, 1) := by decide +kernel
theorem dX5_fillGlaze_9 : decode cX5_fillGlaze 9 = .ok (.iload_n 2, 1) := by decide +kernel
theorem dX5_fillGlaze_10 : decode cX5_fillGlaze 10 = .ok (.iconst 1, 1) := by decide +kernel
theorem dX5_fillGlaze_11 : decode cX5_fillGlaze 11 = .ok (.bipush 99, 2) := by decide +kernel
theorem dX5_fillGlaze_13 : decode cX5_fillGlaze 13 = .ok (.invokestatic 67, 3) := by decide +kernel
theorem dX5_fillGlaze_16 : decode cX5_fillGlaze 16 = .ok (.ifCond .ne 6, 3) := by decide +kernel
theorem dX5_fillGlaze_19 : decode cX5_fillGlaze 19 = .ok (.bipush (-2), 2) := by decide +kernel
theorem dX5_fillGlaze_21 : decode cX5_fillGlaze 21 = .ok (.ireturn, 1) := by decide +kernel
theorem dX5_fillGlaze_22 : decode cX5_fillGlaze 22 = .ok (.aload_n 0, 1) := by decide +kernel
theorem dX5_fillGlaze_23 : decode cX5_fillGlaze 23 = .ok (.getfield 34, 3) := by decide +kernel
theorem dX5_fillGlaze_26 : decode cX5_fillGlaze 26 = .ok (.iload_n 1, 1) := by decide +kernel
theorem dX5_fillGlaze_27 : decode cX5_fillGlaze 27 = .ok (.aload_n 0, 1) := by decide +kernel
theorem dX5_fillGlaze_28 : decode cX5_fillGlaze 28 = .ok (.getfield 34, 3) := by decide +kernel
theorem dX5_fillGlaze_31 : decode cX5_fillGlaze 31 = .ok (.iload_n 1, 1) := by decide +kernel
theorem dX5_fillGlaze_32 : decode cX5_fillGlaze 32 = .ok (.invokevirtual 75, 3) := by decide +kernel
theorem dX5_fillGlaze_35 : decode cX5_fillGlaze 35 = .ok (.iload_n 2, 1) := by decide +kernel
theorem dX5_fillGlaze_36 : decode cX5_fillGlaze 36 = .ok (.iadd, 1) := by decide +kernel
theorem dX5_fillGlaze_37 : decode cX5_fillGlaze 37 = .ok (.bipush 99, 2) := by decide +kernel
theorem dX5_fillGlaze_39 : decode cX5_fillGlaze 39 = .ok (.invokestatic 157, 3) := by decide +kernel
theorem dX5_fillGlaze_42 : decode cX5_fillGlaze 42 = .ok (.invokevirtual 44, 3) := by decide +kernel
theorem dX5_fillGlaze_45 : decode cX5_fillGlaze 45 = .ok (.aload_n 0, 1) := by decide +kernel
theorem dX5_fillGlaze_46 : decode cX5_fillGlaze 46 = .ok (.getfield 34, 3) := by decide +kernel
theorem dX5_fillGlaze_49 : decode cX5_fillGlaze 49 = .ok (.iload_n 1, 1) := by decide +kernel
theorem dX5_fillGlaze_50 : decode cX5_fillGlaze 50 = .ok (.invokevirtual 75, 3) := by decide +kernel
theorem dX5_fillGlaze_53 : decode cX5_fillGlaze 53 = .ok (.ireturn, 1) := by decide +kernel
set_option maxRecDepth 20000 in
theorem ggX5_handOver_X3_has : GoodIn wsX5_handOver wsX3_has := goodIn_r _ [8, 9, 45, 46, 47, 48, 49, 50, 51, 52, 53] (by decide +kernel) (by decide +kernel)
set_option maxRecDepth 20000 in
theorem gX5_handOver_X3_has : GoodIn wsX5_handOver (wsV RX5 133 RX3 yX3_has wsX3_has) := goodIn_app (goodIn_of _ (by decide +kernel)) ggX5_handOver_X3_has
set_option maxRecDepth 20000 in
theorem ggX5_handOver_X3_isKind : GoodIn wsX5_handOver wsX3_isKind := goodIn_r _ [13, 14, 15, 16, 17, 18, 19, 20, 45, 46, 47, 48, 49, 50, 51, 52, 53, 54] (by decide +kernel) (by decide +kernel)
set_option maxRecDepth 20000 in
theorem gX5_handOver_X3_isKind : GoodIn wsX5_handOver (wsV RX5 142 RX3 yX3_isKind wsX3_isKind) := goodIn_app (goodIn_of _ (by decide +kernel)) ggX5_handOver_X3_isKind
set_option maxRecDepth 20000 in
theorem ggX5_handOver_X3_isOnRack : GoodIn wsX5_handOver wsX3_isOnRack := goodIn_r _ [24, 25, 15, 16, 17, 18, 19, 20, 45, 46, 47, 48, 49, 50, 51, 52, 53, 54] (by decide +kernel) (by decide +kernel)
set_option maxRecDepth 20000 in
theorem gX5_handOver_X3_isOnRack : GoodIn wsX5_handOver (wsV RX5 145 RX3 yX3_isOnRack wsX3_isOnRack) := goodIn_app (goodIn_of _ (by decide +kernel)) ggX5_handOver_X3_isOnRack
set_option maxRecDepth 20000 in
theorem ggX5_handOver_X4_at : GoodIn wsX5_handOver wsX4_at := goodIn_r _ [19, 20, 54] (by decide +kernel) (by decide +kernel)
set_option maxRecDepth 20000 in
theorem gX5_handOver_X4_at : GoodIn wsX5_handOver (wsV RX5 75 RX4 yX4_at wsX4_at) := goodIn_app (goodIn_of _ (by decide +kernel)) ggX5_handOver_X4_at
set_option maxRecDepth 20000 in
theorem ggX5_handOver_X4_add : GoodIn wsX5_handOver wsX4_add := goodIn_r _ [30, 31, 16, 17, 18, 19, 20, 32, 33, 34, 35, 54] (by decide +kernel) (by decide +kernel)
set_option maxRecDepth 20000 in
theorem gX5_handOver_X4_add : GoodIn wsX5_handOver (wsV RX5 148 RX4 yX4_add wsX4_add) := goodIn_app (goodIn_of _ (by decide +kernel)) ggX5_handOver_X4_add
set_option maxRecDepth 20000 in
theorem ggX5_handOver_X4_write : GoodIn wsX5_handOver wsX4_write := goodIn_r _ [35, 20, 54] (by decide +kernel) (by decide +kernel)
set_option maxRecDepth 20000 in
theorem gX5_handOver_X4_write : GoodIn wsX5_handOver (wsV RX5 44 RX4 yX4_write wsX4_write) := goodIn_app (goodIn_of _ (by decide +kernel)) ggX5_handOver_X4_write
theorem dX5_handOver_0 : decode cX5_handOver 0 = .ok (.aload_n 0, 1) := by decide +kernel
theorem dX5_handOver_1 : decode cX5_handOver 1 = .ok (.getfield 30, 3) := by decide +kernel
theorem dX5_handOver_4 : decode cX5_handOver 4 = .ok (.iload_n 1, 1) := by decide +kernel
theorem dX5_handOver_5 : decode cX5_handOver 5 = .ok (.invokevirtual 133, 3) := by decide +kernel
theorem dX5_handOver_8 : decode cX5_handOver 8 = .ok (.ifCond .ne 5, 3) := by decide +kernel
theorem dX5_handOver_11 : decode cX5_handOver 11 = .ok (.iconst (-1), 1) := by decide +kernel
theorem dX5_handOver_12 : decode cX5_handOver 12 = .ok (.ireturn, 1) := by decide +kernel
theorem dX5_handOver_13 : decode cX5_handOver 13 = .ok (.aload_n 0, 1) := by decide +kernel
theorem dX5_handOver_14 : decode cX5_handOver 14 = .ok (.getfield 30, 3) := by decide +kernel
theorem dX5_handOver_17 : decode cX5_handOver 17 = .ok (.iload_n 1, 1) := by decide +kernel
theorem dX5_handOver_18 : decode cX5_handOver 18 = .ok (.iconst 3, 1) := by decide +kernel
theorem dX5_handOver_19 : decode cX5_handOver 19 = .ok (.invokevirtual 142, 3) := by decide +kernel
theorem dX5_handOver_22 : decode cX5_handOver 22 = .ok (.ifCond .eq 14, 3) := by decide +kernel
theorem dX5_handOver_25 : decode cX5_handOver 25 = .ok (.aload_n 0, 1) := by decide +kernel
theorem dX5_handOver_26 : decode cX5_handOver 26 = .ok (.getfield 30, 3) := by decide +kernel
theorem dX5_handOver_29 : decode cX5_handOver 29 = .ok (.iload_n 1, 1) := by decide +kernel
theorem dX5_handOver_30 : decode cX5_handOver 30 = .ok (.invokevirtual 145, 3) := by decide +kernel
theorem dX5_handOver_33 : decode cX5_handOver 33 = .ok (.ifCond .ne 6, 3) := by decide +kernel
theorem dX5_handOver_36 : decode cX5_handOver 36 = .ok (.bipush (-5), 2) := by decide +kernel
theorem dX5_handOver_38 : decode cX5_handOver 38 = .ok (.ireturn, 1) := by decide +kernel
theorem dX5_handOver_39 : decode cX5_handOver 39 = .ok (.aload_n 0, 1) := by decide +kernel
theorem dX5_handOver_40 : decode cX5_handOver 40 = .ok (.getfield 14, 3) := by decide +kernel
theorem dX5_handOver_43 : decode cX5_handOver 43 = .ok (.iconst 3, 1) := by decide +kernel
theorem dX5_handOver_44 : decode cX5_handOver 44 = .ok (.invokevirtual 75, 3) := by decide +kernel
theorem dX5_handOver_47 : decode cX5_handOver 47 = .ok (.aload_n 0, 1) := by decide +kernel
theorem dX5_handOver_48 : decode cX5_handOver 48 = .ok (.getfield 30, 3) := by decide +kernel
theorem dX5_handOver_51 : decode cX5_handOver 51 = .ok (.getfield 139, 3) := by decide +kernel
theorem dX5_handOver_54 : decode cX5_handOver 54 = .ok (.iload_n 1, 1) := by decide +kernel
theorem dX5_handOver_55 : decode cX5_handOver 55 = .ok (.invokevirtual 75, 3) := by decide +kernel
theorem dX5_handOver_58 : decode cX5_handOver 58 = .ok (.imul, 1) := by decide +kernel
theorem dX5_handOver_59 : decode cX5_handOver 59 = .ok (.istore_n 2, 1) := by decide +kernel
theorem dX5_handOver_60 : decode cX5_handOver 60 = .ok (.aload_n 0, 1) := by decide +kernel
theorem dX5_handOver_61 : decode cX5_handOver 61 = .ok (.getfield 37, 3) := by decide +kernel
theorem dX5_handOver_64 : decode cX5_handOver 64 = .ok (.aload_n 0, 1) := by decide +kernel
theorem dX5_handOver_65 : decode cX5_handOver 65 = .ok (.getfield 30, 3) := by decide +kernel
theorem dX5_handOver_68 : decode cX5_handOver 68 = .ok (.getfield 162, 3) := by decide +kernel
theorem dX5_handOver_71 : decode cX5_handOver 71 = .ok (.iload_n 1, 1) := by decide +kernel
theorem dX5_handOver_72 : decode cX5_handOver 72 = .ok (.invokevirtual 75, 3) := by decide +kernel
theorem dX5_handOver_75 : decode cX5_handOver 75 = .ok (.iload_n 2, 1) := by decide +kernel
theorem dX5_handOver_76 : decode cX5_handOver 76 = .ok (.invokevirtual 148, 3) := by decide +kernel
theorem dX5_handOver_79 : decode cX5_handOver 79 = .ok (.aload_n 0, 1) := by decide +kernel
theorem dX5_handOver_80 : decode cX5_handOver 80 = .ok (.getfield 30, 3) := by decide +kernel
theorem dX5_handOver_83 : decode cX5_handOver 83 = .ok (.getfield 164, 3) := by decide +kernel
theorem dX5_handOver_86 : decode cX5_handOver 86 = .ok (.iload_n 1, 1) := by decide +kernel
theorem dX5_handOver_87 : decode cX5_handOver 87 = .ok (.bipush 25, 2) := by decide +kernel
theorem dX5_handOver_89 : decode cX5_handOver 89 = .ok (.invokevirtual 44, 3) := by decide +kernel
theorem dX5_handOver_92 : decode cX5_handOver 92 = .ok (.iload_n 2, 1) := by decide +kernel
theorem dX5_handOver_93 : decode cX5_handOver 93 = .ok (.ireturn, 1) := by decide +kernel
set_option maxRecDepth 20000 in
theorem ggX5_nightsLacking_X4_at : GoodIn wsX5_nightsLacking wsX4_at := goodIn_r _ [11, 12, 30] (by decide +kernel) (by decide +kernel)
set_option maxRecDepth 20000 in
theorem gX5_nightsLacking_X4_at : GoodIn wsX5_nightsLacking (wsV RX5 75 RX4 yX4_at wsX4_at) := goodIn_app (goodIn_of _ (by decide +kernel)) ggX5_nightsLacking_X4_at
theorem dX5_nightsLacking_0 : decode cX5_nightsLacking 0 = .ok (.aload_n 0, 1) := by decide +kernel
theorem dX5_nightsLacking_1 : decode cX5_nightsLacking 1 = .ok (.getfield 14, 3) := by decide +kernel
theorem dX5_nightsLacking_4 : decode cX5_nightsLacking 4 = .ok (.iconst 0, 1) := by decide +kernel
theorem dX5_nightsLacking_5 : decode cX5_nightsLacking 5 = .ok (.invokevirtual 75, 3) := by decide +kernel
theorem dX5_nightsLacking_8 : decode cX5_nightsLacking 8 = .ok (.aload_n 0, 1) := by decide +kernel
theorem dX5_nightsLacking_9 : decode cX5_nightsLacking 9 = .ok (.getfield 30, 3) := by decide +kernel
theorem dX5_nightsLacking_12 : decode cX5_nightsLacking 12 = .ok (.getfield 139, 3) := by decide +kernel
theorem dX5_nightsLacking_15 : decode cX5_nightsLacking 15 = .ok (.iload_n 1, 1) := by decide +kernel
theorem dX5_nightsLacking_16 : decode cX5_nightsLacking 16 = .ok (.invokevirtual 75, 3) := by decide +kernel
theorem dX5_nightsLacking_19 : decode cX5_nightsLacking 19 = .ok (.imul, 1) := by decide +kernel
theorem dX5_nightsLacking_20 : decode cX5_nightsLacking 20 = .ok (.aload_n 0, 1) := by decide +kernel
theorem dX5_nightsLacking_21 : decode cX5_nightsLacking 21 = .ok (.getfield 30, 3) := by decide +kernel
theorem dX5_nightsLacking_24 : decode cX5_nightsLacking 24 = .ok (.getfield 167, 3) := by decide +kernel
theorem dX5_nightsLacking_27 : decode cX5_nightsLacking 27 = .ok (.iload_n 1, 1) := by decide +kernel
theorem dX5_nightsLacking_28 : decode cX5_nightsLacking 28 = .ok (.invokevirtual 75, 3) := by decide +kernel
theorem dX5_nightsLacking_31 : decode cX5_nightsLacking 31 = .ok (.isub, 1) := by decide +kernel
theorem dX5_nightsLacking_32 : decode cX5_nightsLacking 32 = .ok (.iconst 0, 1) := by decide +kernel
theorem dX5_nightsLacking_33 : decode cX5_nightsLacking 33 = .ok (.invokestatic 170, 3) := by decide +kernel
theorem dX5_nightsLacking_36 : decode cX5_nightsLacking 36 = .ok (.ireturn, 1) := by decide +kernel
set_option maxRecDepth 20000 in
theorem ggX5_nightsUntilDry_X3_has : GoodIn wsX5_nightsUntilDry wsX3_has := goodIn_r _ [6, 7, 47, 48, 49, 50, 51, 52, 53, 54, 55] (by decide +kernel) (by decide +kernel)
set_option maxRecDepth 20000 in
theorem gX5_nightsUntilDry_X3_has : GoodIn wsX5_nightsUntilDry (wsV RX5 133 RX3 yX3_has wsX3_has) := goodIn_app (goodIn_of _ (by decide +kernel)) ggX5_nightsUntilDry_X3_has
set_option maxRecDepth 20000 in
theorem ggX5_nightsUntilDry_X3_isKind : GoodIn wsX5_nightsUntilDry wsX3_isKind := goodIn_r _ [11, 12, 13, 14, 15, 16, 17, 18, 47, 48, 49, 50, 51, 52, 53, 54, 55, 56] (by decide +kernel) (by decide +kernel)
set_option maxRecDepth 20000 in
theorem gX5_nightsUntilDry_X3_isKind : GoodIn wsX5_nightsUntilDry (wsV RX5 142 RX3 yX3_isKind wsX3_isKind) := goodIn_app (goodIn_of _ (by decide +kernel)) ggX5_nightsUntilDry_X3_isKind
set_option maxRecDepth 20000 in
theorem ggX5_nightsUntilDry_X3_isInKiln : GoodIn wsX5_nightsUntilDry wsX3_isInKiln := goodIn_r _ [22, 23, 13, 14, 15, 16, 17, 18, 47, 48, 49, 50, 51, 52, 53, 54, 55, 56] (by decide +kernel) (by decide +kernel)
set_option maxRecDepth 20000 in
theorem gX5_nightsUntilDry_X3_isInKiln : GoodIn wsX5_nightsUntilDry (wsV RX5 173 RX3 yX3_isInKiln wsX3_isInKiln) := goodIn_app (goodIn_of _ (by decide +kernel)) ggX5_nightsUntilDry_X3_isInKiln
set_option maxRecDepth 20000 in
theorem ggX5_nightsUntilDry_X5_nightsLacking : GoodIn wsX5_nightsUntilDry wsX5_nightsLacking := goodIn_r _ [28, 29, 1, 30, 31, 32, 33, 34, 14, 15, 16, 17, 18, 39, 40, 41, 42, 43, 44, 45, 46, 47, 48, 49, 50, 51, 52, 53, 54, 55, 56] (by decide +kernel) (by decide +kernel)
set_option maxRecDepth 20000 in
theorem gX5_nightsUntilDry_X5_nightsLacking : GoodIn wsX5_nightsUntilDry (wsV RX5 176 RX5 yX5_nightsLacking wsX5_nightsLacking) := goodIn_app (goodIn_of _ (by decide +kernel)) ggX5_nightsUntilDry_X5_nightsLacking
set_option maxRecDepth 20000 in
theorem ggX5_nightsUntilDry_X3_isBesideKiln : GoodIn wsX5_nightsUntilDry wsX3_isBesideKiln := goodIn_r _ [38, 23, 13, 14, 15, 16, 17, 18, 47, 48, 49, 50, 51, 52, 53, 54, 55, 56] (by decide +kernel) (by decide +kernel)
set_option maxRecDepth 20000 in
theorem gX5_nightsUntilDry_X3_isBesideKiln : GoodIn wsX5_nightsUntilDry (wsV RX5 179 RX3 yX3_isBesideKiln wsX3_isBesideKiln) := goodIn_app (goodIn_of _ (by decide +kernel)) ggX5_nightsUntilDry_X3_isBesideKiln
theorem dX5_nightsUntilDry_0 : decode cX5_nightsUntilDry 0 = .ok (.aload_n 0, 1) := by decide +kernel
theorem dX5_nightsUntilDry_1 : decode cX5_nightsUntilDry 1 = .ok (.getfield 30, 3) := by decide +kernel
theorem dX5_nightsUntilDry_4 : decode cX5_nightsUntilDry 4 = .ok (.iload_n 1, 1) := by decide +kernel
theorem dX5_nightsUntilDry_5 : decode cX5_nightsUntilDry 5 = .ok (.invokevirtual 133, 3) := by decide +kernel
theorem dX5_nightsUntilDry_8 : decode cX5_nightsUntilDry 8 = .ok (.ifCond .ne 5, 3) := by decide +kernel
theorem dX5_nightsUntilDry_11 : decode cX5_nightsUntilDry 11 = .ok (.iconst (-1), 1) := by decide +kernel
theorem dX5_nightsUntilDry_12 : decode cX5_nightsUntilDry 12 = .ok (.ireturn, 1) := by decide +kernel
theorem dX5_nightsUntilDry_13 : decode cX5_nightsUntilDry 13 = .ok (.aload_n 0, 1) := by decide +kernel
theorem dX5_nightsUntilDry_14 : decode cX5_nightsUntilDry 14 = .ok (.getfield 30, 3) := by decide +kernel
theorem dX5_nightsUntilDry_17 : decode cX5_nightsUntilDry 17 = .ok (.iload_n 1, 1) := by decide +kernel
theorem dX5_nightsUntilDry_18 : decode cX5_nightsUntilDry 18 = .ok (.iconst 0, 1) := by decide +kernel
theorem dX5_nightsUntilDry_19 : decode cX5_nightsUntilDry 19 = .ok (.invokevirtual 142, 3) := by decide +kernel
theorem dX5_nightsUntilDry_22 : decode cX5_nightsUntilDry 22 = .ok (.ifCond .ne 5, 3) := by decide +kernel
theorem dX5_nightsUntilDry_25 : decode cX5_nightsUntilDry 25 = .ok (.iconst 0, 1) := by decide +kernel
theorem dX5_nightsUntilDry_26 : decode cX5_nightsUntilDry 26 = .ok (.ireturn, 1) := by decide +kernel
theorem dX5_nightsUntilDry_27 : decode cX5_nightsUntilDry 27 = .ok (.aload_n 0, 1) := by decide +kernel
theorem dX5_nightsUntilDry_28 : decode cX5_nightsUntilDry 28 = .ok (.getfield 30, 3) := by decide +kernel
theorem dX5_nightsUntilDry_31 : decode cX5_nightsUntilDry 31 = .ok (.iload_n 1, 1) := by decide +kernel
theorem dX5_nightsUntilDry_32 : decode cX5_nightsUntilDry 32 = .ok (.invokevirtual 173, 3) := by decide +kernel
theorem dX5_nightsUntilDry_35 : decode cX5_nightsUntilDry 35 = .ok (.ifCond .eq 6, 3) := by decide +kernel
theorem dX5_nightsUntilDry_38 : decode cX5_nightsUntilDry 38 = .ok (.bipush (-5), 2) := by decide +kernel
theorem dX5_nightsUntilDry_40 : decode cX5_nightsUntilDry 40 = .ok (.ireturn, 1) := by decide +kernel
theorem dX5_nightsUntilDry_41 : decode cX5_nightsUntilDry 41 = .ok (.aload_n 0, 1) := by decide +kernel
theorem dX5_nightsUntilDry_42 : decode cX5_nightsUntilDry 42 = .ok (.iload_n 1, 1) := by decide +kernel
theorem dX5_nightsUntilDry_43 : decode cX5_nightsUntilDry 43 = .ok (.invokevirtual 176, 3) := by decide +kernel
theorem dX5_nightsUntilDry_46 : decode cX5_nightsUntilDry 46 = .ok (.istore_n 2, 1) := by decide +kernel
theorem dX5_nightsUntilDry_47 : decode cX5_nightsUntilDry 47 = .ok (.aload_n 0, 1) := by decide +kernel
theorem dX5_nightsUntilDry_48 : decode cX5_nightsUntilDry 48 = .ok (.getfield 30, 3) := by decide +kernel
theorem dX5_nightsUntilDry_51 : decode cX5_nightsUntilDry 51 = .ok (.iload_n 1, 1) := by decide +kernel
theorem dX5_nightsUntilDry_52 : decode cX5_nightsUntilDry 52 = .ok (.invokevirtual 179, 3) := by decide +kernel
theorem dX5_nightsUntilDry_55 : decode cX5_nightsUntilDry 55 = .ok (.ifCond .eq 11, 3) := by decide +kernel
theorem dX5_nightsUntilDry_58 : decode cX5_nightsUntilDry 58 = .ok (.iload_n 2, 1) := by decide +kernel
theorem dX5_nightsUntilDry_59 : decode cX5_nightsUntilDry 59 = .ok (.iconst 1, 1) := by decide +kernel
theorem dX5_nightsUntilDry_60 : decode cX5_nightsUntilDry 60 = .ok (.iadd, 1) := by decide +kernel
theorem dX5_nightsUntilDry_61 : decode cX5_nightsUntilDry 61 = .ok (.iconst 2, 1) := by decide +kernel
theorem dX5_nightsUntilDry_62 : decode cX5_nightsUntilDry 62 = .ok (.idiv, 1) := by decide +kernel
theorem dX5_nightsUntilDry_63 : decode cX5_nightsUntilDry 63 = .ok (.goto 4, 3) := by decide +kernel
theorem dX5_nightsUntilDry_66 : decode cX5_nightsUntilDry 66 = .ok (.iload_n 2, 1) := by decide +kernel
theorem dX5_nightsUntilDry_67 : decode cX5_nightsUntilDry 67 = .ok (.ireturn, 1) := by decide +kernel
set_option maxRecDepth 20000 in
theorem ggX5_reasonAgainstLoading_X3_has : GoodIn wsX5_reasonAgainstLoading wsX3_has := goodIn_r _ [7, 8, 68, 69, 70, 71, 72, 73, 74, 75, 76] (by decide +kernel) (by decide +kernel)
set_option maxRecDepth 20000 in
theorem gX5_reasonAgainstLoading_X3_has : GoodIn wsX5_reasonAgainstLoading (wsV RX5 133 RX3 yX3_has wsX3_has) := goodIn_app (goodIn_of _ (by decide +kernel)) ggX5_reasonAgainstLoading_X3_has
set_option maxRecDepth 20000 in
theorem ggX5_reasonAgainstLoading_X3_isOnRack : GoodIn wsX5_reasonAgainstLoading wsX3_isOnRack := goodIn_r _ [12, 13, 14, 15, 16, 17, 18, 19, 68, 69, 70, 71, 72, 73, 74, 75, 76, 77] (by decide +kernel) (by decide +kernel)
set_option maxRecDepth 20000 in
theorem gX5_reasonAgainstLoading_X3_isOnRack : GoodIn wsX5_reasonAgainstLoading (wsV RX5 145 RX3 yX3_isOnRack wsX3_isOnRack) := goodIn_app (goodIn_of _ (by decide +kernel)) ggX5_reasonAgainstLoading_X3_isOnRack
set_option maxRecDepth 20000 in
theorem ggX5_reasonAgainstLoading_X3_isKind : GoodIn wsX5_reasonAgainstLoading wsX3_isKind := goodIn_r _ [23, 24, 14, 15, 16, 17, 18, 19, 68, 69, 70, 71, 72, 73, 74, 75, 76, 77] (by decide +kernel) (by decide +kernel)
set_option maxRecDepth 20000 in
theorem gX5_reasonAgainstLoading_X3_isKind : GoodIn wsX5_reasonAgainstLoading (wsV RX5 142 RX3 yX3_isKind wsX3_isKind) := goodIn_app (goodIn_of _ (by decide +kernel)) ggX5_reasonAgainstLoading_X3_isKind
set_option maxRecDepth 20000 in
theorem ggX5_reasonAgainstLoading_X5_nightsLacking : GoodIn wsX5_reasonAgainstLoading wsX5_nightsLacking := goodIn_r _ [29, 2, 1, 30, 31, 32, 33, 34, 15, 16, 17, 18, 19, 60, 61, 62, 63, 64, 65, 66, 67, 68, 69, 70, 71, 72, 73, 74, 75, 76, 77] (by decide +kernel) (by decide +kernel)
set_option maxRecDepth 20000 in
theorem gX5_reasonAgainstLoading_X5_nightsLacking : GoodIn wsX5_reasonAgainstLoading (wsV RX5 176 RX5 yX5_nightsLacking wsX5_nightsLacking) := goodIn_app (goodIn_of _ (by decide +kernel)) ggX5_reasonAgainstLoading_X5_nightsLacking
set_option maxRecDepth 20000 in
theorem ggX5_reasonAgainstLoading_X4_at : GoodIn wsX5_reasonAgainstLoading wsX4_at := goodIn_r _ [18, 19, 77] (by decide +kernel) (by decide +kernel)
set_option maxRecDepth 20000 in
theorem gX5_reasonAgainstLoading_X4_at : GoodIn wsX5_reasonAgainstLoading (wsV RX5 75 RX4 yX4_at wsX4_at) := goodIn_app (goodIn_of _ (by decide +kernel)) ggX5_reasonAgainstLoading_X4_at
set_option maxRecDepth 20000 in
theorem ggX5_reasonAgainstLoading_X3_isKilnForOtherThan : GoodIn wsX5_reasonAgainstLoading wsX3_isKilnForOtherThan := goodIn_r _ [38, 39, 40, 41, 6, 42, 13, 8, 43, 44, 45, 17, 46, 19, 47, 48, 49, 50, 24, 68, 69, 70, 71, 72, 73, 74, 75, 76, 77] (by decide +kernel) (by decide +kernel)
set_option maxRecDepth 20000 in
theorem gX5_reasonAgainstLoading_X3_isKilnForOtherThan : GoodIn wsX5_reasonAgainstLoading (wsV RX5 182 RX3 yX3_isKilnForOtherThan wsX3_isKilnForOtherThan) := goodIn_app (goodIn_of _ (by decide +kernel)) ggX5_reasonAgainstLoading_X3_isKilnForOtherThan
set_option maxRecDepth 20000 in
theorem ggX5_reasonAgainstLoading_X3_sizesInKiln : GoodIn wsX5_reasonAgainstLoading wsX3_sizesInKiln := goodIn_r _ [54, 8, 55, 56, 57, 58, 6, 59, 13, 14, 15, 16, 17, 18, 19, 68, 69, 70, 71, 72, 73, 74, 75, 76, 77] (by decide +kernel) (by decide +kernel)
set_option maxRecDepth 20000 in
theorem gX5_reasonAgainstLoading_X3_sizesInKiln : GoodIn wsX5_reasonAgainstLoading (wsV RX5 185 RX3 yX3_sizesInKiln wsX3_sizesInKiln) := goodIn_app (goodIn_of _ (by decide +kernel)) ggX5_reasonAgainstLoading_X3_sizesInKiln
theorem dX5_reasonAgainstLoading_0 : decode cX5_reasonAgainstLoading 0 = .ok (.aload_n 0, 1) := by decide +kernel
theorem dX5_reasonAgainstLoading_1 : decode cX5_reasonAgainstLoading 1 = .ok (.getfield 30, 3) := by decide +kernel
theorem dX5_reasonAgainstLoading_4 : decode cX5_reasonAgainstLoading 4 = .ok (.iload_n 1, 1) := by decide +kernel
theorem dX5_reasonAgainstLoading_5 : decode cX5_reasonAgainstLoading 5 = .ok (.invokevirtual 133, 3) := by decide +kernel
theorem dX5_reasonAgainstLoading_8 : decode cX5_reasonAgainstLoading 8 = .ok (.ifCond .ne 5, 3) := by decide +kernel
theorem dX5_reasonAgainstLoading_11 : decode cX5_reasonAgainstLoading 11 = .ok (.iconst (-1), 1) := by decide +kernel
theorem dX5_reasonAgainstLoading_12 : decode cX5_reasonAgainstLoading 12 = .ok (.ireturn, 1) := by decide +kernel
theorem dX5_reasonAgainstLoading_13 : decode cX5_reasonAgainstLoading 13 = .ok (.aload_n 0, 1) := by decide +kernel
theorem dX5_reasonAgainstLoading_14 : decode cX5_reasonAgainstLoading 14 = .ok (.getfield 30, 3) := by decide +kernel
theorem dX5_reasonAgainstLoading_17 : decode cX5_reasonAgainstLoading 17 = .ok (.iload_n 1, 1) := by decide +kernel
theorem dX5_reasonAgainstLoading_18 : decode cX5_reasonAgainstLoading 18 = .ok (.invokevirtual 145, 3) := by decide +kernel
theorem dX5_reasonAgainstLoading_21 : decode cX5_reasonAgainstLoading 21 = .ok (.ifCond .ne 5, 3) := by decide +kernel
theorem dX5_reasonAgainstLoading_24 : decode cX5_reasonAgainstLoading 24 = .ok (.iconst 1, 1) := by decide +kernel
theorem dX5_reasonAgainstLoading_25 : decode cX5_reasonAgainstLoading 25 = .ok (.ireturn, 1) := by decide +kernel
theorem dX5_reasonAgainstLoading_26 : decode cX5_reasonAgainstLoading 26 = .ok (.aload_n 0, 1) := by decide +kernel
theorem dX5_reasonAgainstLoading_27 : decode cX5_reasonAgainstLoading 27 = .ok (.getfield 30, 3) := by decide +kernel
theorem dX5_reasonAgainstLoading_30 : decode cX5_reasonAgainstLoading 30 = .ok (.iload_n 1, 1) := by decide +kernel
theorem dX5_reasonAgainstLoading_31 : decode cX5_reasonAgainstLoading 31 = .ok (.iconst 0, 1) := by decide +kernel
theorem dX5_reasonAgainstLoading_32 : decode cX5_reasonAgainstLoading 32 = .ok (.invokevirtual 142, 3) := by decide +kernel
theorem dX5_reasonAgainstLoading_35 : decode cX5_reasonAgainstLoading 35 = .ok (.istore_n 2, 1) := by decide +kernel
theorem dX5_reasonAgainstLoading_36 : decode cX5_reasonAgainstLoading 36 = .ok (.iload_n 2, 1) := by decide +kernel
theorem dX5_reasonAgainstLoading_37 : decode cX5_reasonAgainstLoading 37 = .ok (.ifCond .ne 17, 3) := by decide +kernel
theorem dX5_reasonAgainstLoading_40 : decode cX5_reasonAgainstLoading 40 = .ok (.aload_n 0, 1) := by decide +kernel
theorem dX5_reasonAgainstLoading_41 : decode cX5_reasonAgainstLoading 41 = .ok (.getfield 30, 3) := by decide +kernel
theorem dX5_reasonAgainstLoading_44 : decode cX5_reasonAgainstLoading 44 = .ok (.iload_n 1, 1) := by decide +kernel
theorem dX5_reasonAgainstLoading_45 : decode cX5_reasonAgainstLoading 45 = .ok (.iconst 2, 1) := by decide +kernel
theorem dX5_reasonAgainstLoading_46 : decode cX5_reasonAgainstLoading 46 = .ok (.invokevirtual 142, 3) := by decide +kernel
theorem dX5_reasonAgainstLoading_49 : decode cX5_reasonAgainstLoading 49 = .ok (.ifCond .ne 5, 3) := by decide +kernel
theorem dX5_reasonAgainstLoading_52 : decode cX5_reasonAgainstLoading 52 = .ok (.iconst 2, 1) := by decide +kernel
theorem dX5_reasonAgainstLoading_53 : decode cX5_reasonAgainstLoading 53 = .ok (.ireturn, 1) := by decide +kernel
theorem dX5_reasonAgainstLoading_54 : decode cX5_reasonAgainstLoading 54 = .ok (.iload_n 2, 1) := by decide +kernel
theorem dX5_reasonAgainstLoading_55 : decode cX5_reasonAgainstLoading 55 = .ok (.ifCond .eq 13, 3) := by decide +kernel
theorem dX5_reasonAgainstLoading_58 : decode cX5_reasonAgainstLoading 58 = .ok (.aload_n 0, 1) := by decide +kernel
theorem dX5_reasonAgainstLoading_59 : decode cX5_reasonAgainstLoading 59 = .ok (.iload_n 1, 1) := by decide +kernel
theorem dX5_reasonAgainstLoading_60 : decode cX5_reasonAgainstLoading 60 = .ok (.invokevirtual 176, 3) := by decide +kernel
theorem dX5_reasonAgainstLoading_63 : decode cX5_reasonAgainstLoading 63 = .ok (.ifCond .le 5, 3) := by decide +kernel
theorem dX5_reasonAgainstLoading_66 : decode cX5_reasonAgainstLoading 66 = .ok (.iconst 3, 1) := by decide +kernel
theorem dX5_reasonAgainstLoading_67 : decode cX5_reasonAgainstLoading 67 = .ok (.ireturn, 1) := by decide +kernel
theorem dX5_reasonAgainstLoading_68 : decode cX5_reasonAgainstLoading 68 = .ok (.aload_n 0, 1) := by decide +kernel
theorem dX5_reasonAgainstLoading_69 : decode cX5_reasonAgainstLoading 69 = .ok (.getfield 30, 3) := by decide +kernel
theorem dX5_reasonAgainstLoading_72 : decode cX5_reasonAgainstLoading 72 = .ok (.aload_n 0, 1) := by decide +kernel
theorem dX5_reasonAgainstLoading_73 : decode cX5_reasonAgainstLoading 73 = .ok (.getfield 30, 3) := by decide +kernel
theorem dX5_reasonAgainstLoading_76 : decode cX5_reasonAgainstLoading 76 = .ok (.getfield 151, 3) := by decide +kernel
theorem dX5_reasonAgainstLoading_79 : decode cX5_reasonAgainstLoading 79 = .ok (.iload_n 1, 1) := by decide +kernel
theorem dX5_reasonAgainstLoading_80 : decode cX5_reasonAgainstLoading 80 = .ok (.invokevirtual 75, 3) := by decide +kernel
theorem dX5_reasonAgainstLoading_83 : decode cX5_reasonAgainstLoading 83 = .ok (.invokevirtual 182, 3) := by decide +kernel
theorem dX5_reasonAgainstLoading_86 : decode cX5_reasonAgainstLoading 86 = .ok (.ifCond .eq 5, 3) := by decide +kernel
theorem dX5_reasonAgainstLoading_89 : decode cX5_reasonAgainstLoading 89 = .ok (.iconst 4, 1) := by decide +kernel
theorem dX5_reasonAgainstLoading_90 : decode cX5_reasonAgainstLoading 90 = .ok (.ireturn, 1) := by decide +kernel
theorem dX5_reasonAgainstLoading_91 : decode cX5_reasonAgainstLoading 91 = .ok (.aload_n 0, 1) := by decide +kernel
theorem dX5_reasonAgainstLoading_92 : decode cX5_reasonAgainstLoading 92 = .ok (.getfield 30, 3) := by decide +kernel
theorem dX5_reasonAgainstLoading_95 : decode cX5_reasonAgainstLoading 95 = .ok (.invokevirtual 185, 3) := by decide +kernel
theorem dX5_reasonAgainstLoading_98 : decode cX5_reasonAgainstLoading 98 = .ok (.aload_n 0, 1) := by decide +kernel
theorem dX5_reasonAgainstLoading_99 : decode cX5_reasonAgainstLoading 99 = .ok (.getfield 30, 3) := by decide +kernel
theorem dX5_reasonAgainstLoading_102 : decode cX5_reasonAgainstLoading 102 = .ok (.getfield 139, 3) := by decide +kernel
theorem dX5_reasonAgainstLoading_105 : decode cX5_reasonAgainstLoading 105 = .ok (.iload_n 1, 1) := by decide +kernel
theorem dX5_reasonAgainstLoading_106 : decode cX5_reasonAgainstLoading 106 = .ok (.invokevirtual 75, 3) := by decide +kernel
theorem dX5_reasonAgainstLoading_109 : decode cX5_reasonAgainstLoading 109 = .ok (.iadd, 1) := by decide +kernel
theorem dX5_reasonAgainstLoading_110 : decode cX5_reasonAgainstLoading 110 = .ok (.aload_n 0, 1) := by decide +kernel
theorem dX5_reasonAgainstLoading_111 : decode cX5_reasonAgainstLoading 111 = .ok (.getfield 14, 3) := by decide +kernel
theorem dX5_reasonAgainstLoading_114 : decode cX5_reasonAgainstLoading 114 = .ok (.iconst 1, 1) := by decide +kernel
theorem dX5_reasonAgainstLoading_115 : decode cX5_reasonAgainstLoading 115 = .ok (.invokevirtual 75, 3) := by decide +kernel
theorem dX5_reasonAgainstLoading_118 : decode cX5_reasonAgainstLoading 118 = .ok (.if_icmp .le 7, 3) := by decide +kernel
theorem dX5_reasonAgainstLoading_121 : decode cX5_reasonAgainstLoading 121 = .ok (.iconst 5, 1) := by decide +kernel
theorem dX5_reasonAgainstLoading_122 : decode cX5_reasonAgainstLoading 122 = .ok (.goto 4, 3) := by decide +kernel
theorem dX5_reasonAgainstLoading_125 : decode cX5_reasonAgainstLoading 125 = .ok (.iconst 0, 1) := by decide +kernel
theorem dX5_reasonAgainstLoading_126 : decode cX5_reasonAgainstLoading 126 = .ok (.ireturn, 1) := by decide +kernel
set_option maxRecDepth 20000 in
theorem ggX5_loadable_X5_reasonAgainstLoading : GoodIn wsX5_loadable wsX5_reasonAgainstLoading := goodIn_r _ [6, 1, 7, 8, 9, 10, 11, 12, 13, 14, 15, 16, 17, 18, 19, 20, 21, 22, 23, 24, 25, 26, 27, 28, 29, 30, 31, 32, 5, 33, 34, 35, 36, 37, 38, 39, 40, 41, 42, 43, 44, 45, 46, 47, 48, 49, 50, 51, 52, 53, 54, 55, 56, 57, 58, 59, 60, 61, 62, 63, 64, 65, 66, 67, 68, 69, 70, 71, 72, 73, 74, 75, 76, 77, 78, 79, 80, 81] (by decide +kernel) (by decide +kernel)
set_option maxRecDepth 20000 in
theorem gX5_loadable_X5_reasonAgainstLoading : GoodIn wsX5_loadable (wsV RX5 188 RX5 yX5_reasonAgainstLoading wsX5_reasonAgainstLoading) := goodIn_app (goodIn_of _ (by decide +kernel)) ggX5_loadable_X5_reasonAgainstLoading
theorem dX5_loadable_0 : decode cX5_loadable 0 = .ok (.iconst 0, 1) := by decide +kernel
theorem dX5_loadable_1 : decode cX5_loadable 1 = .ok (.istore_n 1, 1) := by decide +kernel
theorem dX5_loadable_2 : decode cX5_loadable 2 = .ok (.iconst 0, 1) := by decide +kernel
theorem dX5_loadable_3 : decode cX5_loadable 3 = .ok (.istore_n 2, 1) := by decide +kernel
theorem dX5_loadable_4 : decode cX5_loadable 4 = .ok (.iload_n 2, 1) := by decide +kernel
theorem dX5_loadable_5 : decode cX5_loadable 5 = .ok (.aload_n 0, 1) := by decide +kernel
theorem dX5_loadable_6 : decode cX5_loadable 6 = .ok (.getfield 30, 3) := by decide +kernel
theorem dX5_loadable_9 : decode cX5_loadable 9 = .ok (.getfield 64, 3) := by decide +kernel
theorem dX5_loadable_12 : decode cX5_loadable 12 = .ok (.if_icmp .ge 23, 3) := by decide +kernel
theorem dX5_loadable_15 : decode cX5_loadable 15 = .ok (.aload_n 0, 1) := by decide +kernel
theorem dX5_loadable_16 : decode cX5_loadable 16 = .ok (.iload_n 2, 1) := by decide +kernel
theorem dX5_loadable_17 : decode cX5_loadable 17 = .ok (.invokevirtual 188, 3) := by decide +kernel
theorem dX5_loadable_20 : decode cX5_loadable 20 = .ok (.ifCond .ne 9, 3) := by decide +kernel
theorem dX5_loadable_23 : decode cX5_loadable 23 = .ok (.iload_n 1, 1) := by decide +kernel
theorem dX5_loadable_24 : decode cX5_loadable 24 = .ok (.iconst 1, 1) := by decide +kernel
theorem dX5_loadable_25 : decode cX5_loadable 25 = .ok (.iload_n 2, 1) := by decide +kernel
theorem dX5_loadable_26 : decode cX5_loadable 26 = .ok (.ishl, 1) := by decide +kernel
theorem dX5_loadable_27 : decode cX5_loadable 27 = .ok (.ior, 1) := by decide +kernel
theorem dX5_loadable_28 : decode cX5_loadable 28 = .ok (.istore_n 1, 1) := by decide +kernel
theorem dX5_loadable_29 : decode cX5_loadable 29 = .ok (.iinc 2 1, 3) := by decide +kernel
theorem dX5_loadable_32 : decode cX5_loadable 32 = .ok (.goto (-28), 3) := by decide +kernel
theorem dX5_loadable_35 : decode cX5_loadable 35 = .ok (.iload_n 1, 1) := by decide +kernel
theorem dX5_loadable_36 : decode cX5_loadable 36 = .ok (.ireturn, 1) := by decide +kernel
set_option maxRecDepth 20000 in
theorem ggX5_moveIntoKiln_X5_reasonAgainstLoading : GoodIn wsX5_moveIntoKiln wsX5_reasonAgainstLoading := goodIn_r _ [6, 1, 7, 8, 9, 10, 11, 12, 13, 14, 15, 16, 17, 18, 19, 20, 21, 22, 23, 24, 25, 26, 27, 28, 29, 30, 31, 32, 5, 33, 34, 35, 36, 37, 38, 39, 40, 41, 42, 43, 44, 45, 46, 47, 48, 49, 50, 51, 52, 53, 54, 55, 56, 57, 58, 59, 60, 61, 62, 63, 68, 69, 70, 71, 72, 73, 74, 75, 76, 77, 78, 79, 80, 81, 82, 83, 84, 85] (by decide +kernel) (by decide +kernel)
set_option maxRecDepth 20000 in
theorem gX5_moveIntoKiln_X5_reasonAgainstLoading : GoodIn wsX5_moveIntoKiln (wsV RX5 188 RX5 yX5_reasonAgainstLoading wsX5_reasonAgainstLoading) := goodIn_app (goodIn_of _ (by decide +kernel)) ggX5_moveIntoKiln_X5_reasonAgainstLoading
set_option maxRecDepth 20000 in
theorem ggX5_moveIntoKiln_X4_write : GoodIn wsX5_moveIntoKiln wsX4_write := goodIn_r _ [67, 24, 85] (by decide +kernel) (by decide +kernel)
set_option maxRecDepth 20000 in
theorem gX5_moveIntoKiln_X4_write : GoodIn wsX5_moveIntoKiln (wsV RX5 44 RX4 yX4_write wsX4_write) := goodIn_app (goodIn_of _ (by decide +kernel)) ggX5_moveIntoKiln_X4_write
set_option maxRecDepth 20000 in
theorem ggX5_moveIntoKiln_X3_sizesInKiln : GoodIn wsX5_moveIntoKiln wsX3_sizesInKiln := goodIn_r _ [58, 13, 59, 60, 61, 62, 11, 63, 18, 19, 20, 21, 22, 23, 24, 76, 77, 78, 79, 80, 81, 82, 83, 84, 85] (by decide +kernel) (by decide +kernel)
set_option maxRecDepth 20000 in
theorem gX5_moveIntoKiln_X3_sizesInKiln : GoodIn wsX5_moveIntoKiln (wsV RX5 185 RX3 yX3_sizesInKiln wsX3_sizesInKiln) := goodIn_app (goodIn_of _ (by decide +kernel)) ggX5_moveIntoKiln_X3_sizesInKiln
theorem dX5_moveIntoKiln_0 : decode cX5_moveIntoKiln 0 = .ok (.aload_n 0, 1) := by decide +kernel
theorem dX5_moveIntoKiln_1 : decode cX5_moveIntoKiln 1 = .ok (.iload_n 1, 1) := by decide +kernel
theorem dX5_moveIntoKiln_2 : decode cX5_moveIntoKiln 2 = .ok (.invokevirtual 188, 3) := by decide +kernel
theorem dX5_moveIntoKiln_5 : decode cX5_moveIntoKiln 5 = .ok (.istore_n 2, 1) := by decide +kernel
theorem dX5_moveIntoKiln_6 : decode cX5_moveIntoKiln 6 = .ok (.iload_n 2, 1) := by decide +kernel
theorem dX5_moveIntoKiln_7 : decode cX5_moveIntoKiln 7 = .ok (.ifCond .eq 15, 3) := by decide +kernel
theorem dX5_moveIntoKiln_10 : decode cX5_moveIntoKiln 10 = .ok (.iload_n 2, 1) := by decide +kernel
theorem dX5_moveIntoKiln_11 : decode cX5_moveIntoKiln 11 = .ok (.iconst (-1), 1) := by decide +kernel
theorem dX5_moveIntoKiln_12 : decode cX5_moveIntoKiln 12 = .ok (.if_icmp .ne 7, 3) := by decide +kernel
theorem dX5_moveIntoKiln_15 : decode cX5_moveIntoKiln 15 = .ok (.iconst (-1), 1) := by decide +kernel
theorem dX5_moveIntoKiln_16 : decode cX5_moveIntoKiln 16 = .ok (.goto 5, 3) := by decide +kernel
theorem dX5_moveIntoKiln_19 : decode cX5_moveIntoKiln 19 = .ok (.bipush (-5), 2) := by decide +kernel
theorem dX5_moveIntoKiln_21 : decode cX5_moveIntoKiln 21 = .ok (.ireturn, 1) := by decide +kernel
theorem dX5_moveIntoKiln_22 : decode cX5_moveIntoKiln 22 = .ok (.aload_n 0, 1) := by decide +kernel
theorem dX5_moveIntoKiln_23 : decode cX5_moveIntoKiln 23 = .ok (.getfield 30, 3) := by decide +kernel
theorem dX5_moveIntoKiln_26 : decode cX5_moveIntoKiln 26 = .ok (.getfield 164, 3) := by decide +kernel
theorem dX5_moveIntoKiln_29 : decode cX5_moveIntoKiln 29 = .ok (.iload_n 1, 1) := by decide +kernel
theorem dX5_moveIntoKiln_30 : decode cX5_moveIntoKiln 30 = .ok (.bipush 24, 2) := by decide +kernel
theorem dX5_moveIntoKiln_32 : decode cX5_moveIntoKiln 32 = .ok (.invokevirtual 44, 3) := by decide +kernel
theorem dX5_moveIntoKiln_35 : decode cX5_moveIntoKiln 35 = .ok (.aload_n 0, 1) := by decide +kernel
theorem dX5_moveIntoKiln_36 : decode cX5_moveIntoKiln 36 = .ok (.getfield 30, 3) := by decide +kernel
theorem dX5_moveIntoKiln_39 : decode cX5_moveIntoKiln 39 = .ok (.invokevirtual 185, 3) := by decide +kernel
theorem dX5_moveIntoKiln_42 : decode cX5_moveIntoKiln 42 = .ok (.ireturn, 1) := by decide +kernel
set_option maxRecDepth 20000 in
theorem ggX5_moveOutOfKiln_X3_has : GoodIn wsX5_moveOutOfKiln wsX3_has := goodIn_r _ [6, 7, 51, 52, 53, 54, 55, 56, 57, 58, 59] (by decide +kernel) (by decide +kernel)
set_option maxRecDepth 20000 in
theorem gX5_moveOutOfKiln_X3_has : GoodIn wsX5_moveOutOfKiln (wsV RX5 133 RX3 yX3_has wsX3_has) := goodIn_app (goodIn_of _ (by decide +kernel)) ggX5_moveOutOfKiln_X3_has
set_option maxRecDepth 20000 in
theorem ggX5_moveOutOfKiln_X3_isInKiln : GoodIn wsX5_moveOutOfKiln wsX3_isInKiln := goodIn_r _ [11, 12, 13, 14, 15, 16, 17, 18, 51, 52, 53, 54, 55, 56, 57, 58, 59, 60] (by decide +kernel) (by decide +kernel)
set_option maxRecDepth 20000 in
theorem gX5_moveOutOfKiln_X3_isInKiln : GoodIn wsX5_moveOutOfKiln (wsV RX5 173 RX3 yX3_isInKiln wsX3_isInKiln) := goodIn_app (goodIn_of _ (by decide +kernel)) ggX5_moveOutOfKiln_X3_isInKiln
set_option maxRecDepth 20000 in
theorem ggX5_moveOutOfKiln_X3_freePlaces : GoodIn wsX5_moveOutOfKiln wsX3_freePlaces := goodIn_r _ [22, 23, 24, 25, 5, 26, 7, 12, 13, 14, 15, 16, 17, 18, 27, 28, 29, 30, 31, 32, 33, 51, 52, 53, 54, 55, 56, 57, 58, 59, 60] (by decide +kernel) (by decide +kernel)
set_option maxRecDepth 20000 in
theorem gX5_moveOutOfKiln_X3_freePlaces : GoodIn wsX5_moveOutOfKiln (wsV RX5 118 RX3 yX3_freePlaces wsX3_freePlaces) := goodIn_app (goodIn_of _ (by decide +kernel)) ggX5_moveOutOfKiln_X3_freePlaces
set_option maxRecDepth 20000 in
theorem ggX5_moveOutOfKiln_X3_putOnRack : GoodIn wsX5_moveOutOfKiln wsX3_putOnRack := goodIn_r _ [37, 12, 23, 24, 25, 5, 26, 7, 13, 14, 15, 16, 17, 18, 38, 39, 40, 41, 51, 52, 53, 54, 55, 56, 57, 58, 59, 60] (by decide +kernel) (by decide +kernel)
set_option maxRecDepth 20000 in
theorem gX5_moveOutOfKiln_X3_putOnRack : GoodIn wsX5_moveOutOfKiln (wsV RX5 191 RX3 yX3_putOnRack wsX3_putOnRack) := goodIn_app (goodIn_of _ (by decide +kernel)) ggX5_moveOutOfKiln_X3_putOnRack
set_option maxRecDepth 20000 in
theorem ggX5_moveOutOfKiln_X4_at : GoodIn wsX5_moveOutOfKiln wsX4_at := goodIn_r _ [17, 18, 60] (by decide +kernel) (by decide +kernel)
set_option maxRecDepth 20000 in
theorem gX5_moveOutOfKiln_X4_at : GoodIn wsX5_moveOutOfKiln (wsV RX5 75 RX4 yX4_at wsX4_at) := goodIn_app (goodIn_of _ (by decide +kernel)) ggX5_moveOutOfKiln_X4_at
theorem dX5_moveOutOfKiln_0 : decode cX5_moveOutOfKiln 0 = .ok (.aload_n 0, 1) := by decide +kernel
theorem dX5_moveOutOfKiln_1 : decode cX5_moveOutOfKiln 1 = .ok (.getfield 30, 3) := by decide +kernel
theorem dX5_moveOutOfKiln_4 : decode cX5_moveOutOfKiln 4 = .ok (.iload_n 1, 1) := by decide +kernel
theorem dX5_moveOutOfKiln_5 : decode cX5_moveOutOfKiln 5 = .ok (.invokevirtual 133, 3) := by decide +kernel
theorem dX5_moveOutOfKiln_8 : decode cX5_moveOutOfKiln 8 = .ok (.ifCond .ne 5, 3) := by decide +kernel
theorem dX5_moveOutOfKiln_11 : decode cX5_moveOutOfKiln 11 = .ok (.iconst (-1), 1) := by decide +kernel
theorem dX5_moveOutOfKiln_12 : decode cX5_moveOutOfKiln 12 = .ok (.ireturn, 1) := by decide +kernel
theorem dX5_moveOutOfKiln_13 : decode cX5_moveOutOfKiln 13 = .ok (.aload_n 0, 1) := by decide +kernel
theorem dX5_moveOutOfKiln_14 : decode cX5_moveOutOfKiln 14 = .ok (.getfield 30, 3) := by decide +kernel
theorem dX5_moveOutOfKiln_17 : decode cX5_moveOutOfKiln 17 = .ok (.iload_n 1, 1) := by decide +kernel
theorem dX5_moveOutOfKiln_18 : decode cX5_moveOutOfKiln 18 = .ok (.invokevirtual 173, 3) := by decide +kernel
theorem dX5_moveOutOfKiln_21 : decode cX5_moveOutOfKiln 21 = .ok (.ifCond .ne 6, 3) := by decide +kernel
theorem dX5_moveOutOfKiln_24 : decode cX5_moveOutOfKiln 24 = .ok (.bipush (-5), 2) := by decide +kernel
theorem dX5_moveOutOfKiln_26 : decode cX5_moveOutOfKiln 26 = .ok (.ireturn, 1) := by decide +kernel
theorem dX5_moveOutOfKiln_27 : decode cX5_moveOutOfKiln 27 = .ok (.aload_n 0, 1) := by decide +kernel
theorem dX5_moveOutOfKiln_28 : decode cX5_moveOutOfKiln 28 = .ok (.getfield 30, 3) := by decide +kernel
theorem dX5_moveOutOfKiln_31 : decode cX5_moveOutOfKiln 31 = .ok (.invokevirtual 118, 3) := by decide +kernel
theorem dX5_moveOutOfKiln_34 : decode cX5_moveOutOfKiln 34 = .ok (.ifCond .ne 6, 3) := by decide +kernel
theorem dX5_moveOutOfKiln_37 : decode cX5_moveOutOfKiln 37 = .ok (.bipush (-4), 2) := by decide +kernel
theorem dX5_moveOutOfKiln_39 : decode cX5_moveOutOfKiln 39 = .ok (.ireturn, 1) := by decide +kernel
theorem dX5_moveOutOfKiln_40 : decode cX5_moveOutOfKiln 40 = .ok (.aload_n 0, 1) := by decide +kernel
theorem dX5_moveOutOfKiln_41 : decode cX5_moveOutOfKiln 41 = .ok (.getfield 30, 3) := by decide +kernel
theorem dX5_moveOutOfKiln_44 : decode cX5_moveOutOfKiln 44 = .ok (.iload_n 1, 1) := by decide +kernel
theorem dX5_moveOutOfKiln_45 : decode cX5_moveOutOfKiln 45 = .ok (.invokevirtual 191, 3) := by decide +kernel
theorem dX5_moveOutOfKiln_48 : decode cX5_moveOutOfKiln 48 = .ok (.aload_n 0, 1) := by decide +kernel
theorem dX5_moveOutOfKiln_49 : decode cX5_moveOutOfKiln 49 = .ok (.getfield 30, 3) := by decide +kernel
theorem dX5_moveOutOfKiln_52 : decode cX5_moveOutOfKiln 52 = .ok (.getfield 164, 3) := by decide +kernel
theorem dX5_moveOutOfKiln_55 : decode cX5_moveOutOfKiln 55 = .ok (.iload_n 1, 1) := by decide +kernel
theorem dX5_moveOutOfKiln_56 : decode cX5_moveOutOfKiln 56 = .ok (.invokevirtual 75, 3) := by decide +kernel
theorem dX5_moveOutOfKiln_59 : decode cX5_moveOutOfKiln 59 = .ok (.bipush 8, 2) := by decide +kernel
theorem dX5_moveOutOfKiln_61 : decode cX5_moveOutOfKiln 61 = .ok (.idiv, 1) := by decide +kernel
theorem dX5_moveOutOfKiln_62 : decode cX5_moveOutOfKiln 62 = .ok (.ireturn, 1) := by decide +kernel
set_option maxRecDepth 20000 in
theorem ggX5_firedTo_X3_isInKiln : GoodIn wsX5_firedTo wsX3_isInKiln := goodIn_r _ [7, 8, 9, 10, 11, 12, 13, 14, 39, 40, 41, 42, 43, 44, 45, 46, 47, 48] (by decide +kernel) (by decide +kernel)
set_option maxRecDepth 20000 in
theorem gX5_firedTo_X3_isInKiln : GoodIn wsX5_firedTo (wsV RX5 173 RX3 yX3_isInKiln wsX3_isInKiln) := goodIn_app (goodIn_of _ (by decide +kernel)) ggX5_firedTo_X3_isInKiln
set_option maxRecDepth 20000 in
theorem ggX5_firedTo_X4_at : GoodIn wsX5_firedTo wsX4_at := goodIn_r _ [13, 14, 48] (by decide +kernel) (by decide +kernel)
set_option maxRecDepth 20000 in
theorem gX5_firedTo_X4_at : GoodIn wsX5_firedTo (wsV RX5 75 RX4 yX4_at wsX4_at) := goodIn_app (goodIn_of _ (by decide +kernel)) ggX5_firedTo_X4_at
set_option maxRecDepth 20000 in
theorem ggX5_firedTo_X3_kindFired : GoodIn wsX5_firedTo wsX3_kindFired := goodIn_r _ [19, 20, 9, 10, 11, 12, 13, 14, 21, 22, 23, 6, 24, 25, 26, 27, 28, 29, 30, 39, 40, 41, 42, 43, 44, 45, 46, 47, 48] (by decide +kernel) (by decide +kernel)
set_option maxRecDepth 20000 in
theorem gX5_firedTo_X3_kindFired : GoodIn wsX5_firedTo (wsV RX5 194 RX3 yX3_kindFired wsX3_kindFired) := goodIn_app (goodIn_of _ (by decide +kernel)) ggX5_firedTo_X3_kindFired
theorem dX5_firedTo_0 : decode cX5_firedTo 0 = .ok (.iconst 0, 1) := by decide +kernel
theorem dX5_firedTo_1 : decode cX5_firedTo 1 = .ok (.istore_n 3, 1) := by decide +kernel
theorem dX5_firedTo_2 : decode cX5_firedTo 2 = .ok (.iconst 0, 1) := by decide +kernel
theorem dX5_firedTo_3 : decode cX5_firedTo 3 = .ok (.istore 4, 2) := by decide +kernel
theorem dX5_firedTo_5 : decode cX5_firedTo 5 = .ok (.iload 4, 2) := by decide +kernel
theorem dX5_firedTo_7 : decode cX5_firedTo 7 = .ok (.aload_n 0, 1) := by decide +kernel
theorem dX5_firedTo_8 : decode cX5_firedTo 8 = .ok (.getfield 30, 3) := by decide +kernel
theorem dX5_firedTo_11 : decode cX5_firedTo 11 = .ok (.getfield 64, 3) := by decide +kernel
theorem dX5_firedTo_14 : decode cX5_firedTo 14 = .ok (.if_icmp .ge 50, 3) := by decide +kernel
theorem dX5_firedTo_17 : decode cX5_firedTo 17 = .ok (.aload_n 0, 1) := by decide +kernel
theorem dX5_firedTo_18 : decode cX5_firedTo 18 = .ok (.getfield 30, 3) := by decide +kernel
theorem dX5_firedTo_21 : decode cX5_firedTo 21 = .ok (.iload 4, 2) := by decide +kernel
theorem dX5_firedTo_23 : decode cX5_firedTo 23 = .ok (.invokevirtual 173, 3) := by decide +kernel
theorem dX5_firedTo_26 : decode cX5_firedTo 26 = .ok (.ifCond .eq 32, 3) := by decide +kernel
theorem dX5_firedTo_29 : decode cX5_firedTo 29 = .ok (.aload_n 0, 1) := by decide +kernel
theorem dX5_firedTo_30 : decode cX5_firedTo 30 = .ok (.getfield 30, 3) := by decide +kernel
theorem dX5_firedTo_33 : decode cX5_firedTo 33 = .ok (.iload 4, 2) := by decide +kernel
theorem dX5_firedTo_35 : decode cX5_firedTo 35 = .ok (.iload_n 2, 1) := by decide +kernel
theorem dX5_firedTo_36 : decode cX5_firedTo 36 = .ok (.aload_n 0, 1) := by decide +kernel
theorem dX5_firedTo_37 : decode cX5_firedTo 37 = .ok (.getfield 14, 3) := by decide +kernel
theorem dX5_firedTo_40 : decode cX5_firedTo 40 = .ok (.iconst 2, 1) := by decide +kernel
theorem dX5_firedTo_41 : decode cX5_firedTo 41 = .ok (.invokevirtual 75, 3) := by decide +kernel
theorem dX5_firedTo_44 : decode cX5_firedTo 44 = .ok (.invokevirtual 194, 3) := by decide +kernel
theorem dX5_firedTo_47 : decode cX5_firedTo 47 = .ok (.iload_n 1, 1) := by decide +kernel
theorem dX5_firedTo_48 : decode cX5_firedTo 48 = .ok (.if_icmp .ne 10, 3) := by decide +kernel
theorem dX5_firedTo_51 : decode cX5_firedTo 51 = .ok (.iload_n 3, 1) := by decide +kernel
theorem dX5_firedTo_52 : decode cX5_firedTo 52 = .ok (.iconst 1, 1) := by decide +kernel
theorem dX5_firedTo_53 : decode cX5_firedTo 53 = .ok (.iload 4, 2) := by decide +kernel
theorem dX5_firedTo_55 : decode cX5_firedTo 55 = .ok (.ishl, 1) := by decide +kernel
theorem dX5_firedTo_56 : decode cX5_firedTo 56 = .ok (.ior, 1) := by decide +kernel
theorem dX5_firedTo_57 : decode cX5_firedTo 57 = .ok (.istore_n 3, 1) := by decide +kernel
theorem dX5_firedTo_58 : decode cX5_firedTo 58 = .ok (.iinc 4 1, 3) := by decide +kernel
theorem dX5_firedTo_61 : decode cX5_firedTo 61 = .ok (.goto (-56), 3) := by decide +kernel
theorem dX5_firedTo_64 : decode cX5_firedTo 64 = .ok (.iload_n 3, 1) := by decide +kernel
theorem dX5_firedTo_65 : decode cX5_firedTo 65 = .ok (.ireturn, 1) := by decide +kernel
set_option maxRecDepth 20000 in
theorem ggX5_fireKiln_X6_isHeat : GoodIn wsX5_fireKiln wsX6_isHeat := goodIn_r _ [5, 6, 7, 4, 8] (by decide +kernel) (by decide +kernel)
set_option maxRecDepth 20000 in
theorem gX5_fireKiln_X6_isHeat_n197 : GoodIn wsX5_fireKiln (wsX6_isHeat) := ggX5_fireKiln_X6_isHeat
set_option maxRecDepth 20000 in
theorem ggX5_fireKiln_X3_inKiln : GoodIn wsX5_fireKiln wsX3_inKiln := goodIn_r _ [13, 14, 15, 16, 17, 18, 19, 20, 21, 96, 97, 98, 99, 100, 101, 102, 103, 104, 105] (by decide +kernel) (by decide +kernel)
set_option maxRecDepth 20000 in
theorem gX5_fireKiln_X3_inKiln : GoodIn wsX5_fireKiln (wsV RX5 200 RX3 yX3_inKiln wsX3_inKiln) := goodIn_app (goodIn_of _ (by decide +kernel)) ggX5_fireKiln_X3_inKiln
set_option maxRecDepth 20000 in
theorem ggX5_fireKiln_X5_firedTo : GoodIn wsX5_fireKiln wsX5_firedTo := goodIn_r _ [26, 1, 27, 28, 29, 30, 12, 31, 14, 32, 33, 34, 19, 35, 21, 36, 37, 38, 39, 40, 41, 42, 43, 44, 45, 46, 47, 48, 49, 50, 51, 88, 89, 90, 91, 92, 93, 94, 95, 96, 97, 98, 99, 100, 101, 102, 103, 104, 105] (by decide +kernel) (by decide +kernel)
set_option maxRecDepth 20000 in
theorem gX5_fireKiln_X5_firedTo : GoodIn wsX5_fireKiln (wsV RX5 203 RX5 yX5_firedTo wsX5_firedTo) := goodIn_app (goodIn_of _ (by decide +kernel)) ggX5_fireKiln_X5_firedTo
set_option maxRecDepth 20000 in
theorem ggX5_fireKiln_J6_bitCount_0f7a4 : GoodIn wsX5_fireKiln wsJ6_bitCount_0f7a4 := goodIn_r _ [55, 56, 57, 58] (by decide +kernel) (by decide +kernel)
set_option maxRecDepth 20000 in
theorem gX5_fireKiln_J6_bitCount_0f7a4 : GoodIn wsX5_fireKiln (va_wsS RX5 206 yJ6_bitCount_0f7a4 wsJ6_bitCount_0f7a4) := goodIn_app (goodIn_of _ (by decide +kernel)) ggX5_fireKiln_J6_bitCount_0f7a4
set_option maxRecDepth 20000 in
theorem ggX5_fireKiln_X3_freePlaces : GoodIn wsX5_fireKiln wsX3_freePlaces := goodIn_r _ [62, 63, 64, 65, 12, 66, 15, 14, 32, 33, 34, 19, 35, 21, 67, 53, 54, 55, 56, 57, 58, 96, 97, 98, 99, 100, 101, 102, 103, 104, 105] (by decide +kernel) (by decide +kernel)
set_option maxRecDepth 20000 in
theorem gX5_fireKiln_X3_freePlaces : GoodIn wsX5_fireKiln (wsV RX5 118 RX3 yX3_freePlaces wsX3_freePlaces) := goodIn_app (goodIn_of _ (by decide +kernel)) ggX5_fireKiln_X3_freePlaces
set_option maxRecDepth 20000 in
theorem ggX5_fireKiln_X3_isInKiln : GoodIn wsX5_fireKiln wsX3_isInKiln := goodIn_r _ [31, 14, 32, 33, 34, 19, 35, 21, 96, 97, 98, 99, 100, 101, 102, 103, 104, 105] (by decide +kernel) (by decide +kernel)
set_option maxRecDepth 20000 in
theorem gX5_fireKiln_X3_isInKiln : GoodIn wsX5_fireKiln (wsV RX5 173 RX3 yX3_isInKiln wsX3_isInKiln) := goodIn_app (goodIn_of _ (by decide +kernel)) ggX5_fireKiln_X3_isInKiln
set_option maxRecDepth 20000 in
theorem ggX5_fireKiln_X5_firePot : GoodIn wsX5_fireKiln wsX5_firePot := goodIn_r _ [71, 1, 27, 36, 33, 34, 19, 35, 21, 37, 38, 39, 12, 40, 41, 32, 42, 43, 44, 45, 46, 47, 48, 49, 50, 51, 72, 73, 74, 75, 76, 77, 78, 79, 80, 81, 82, 83, 84, 85, 86, 14, 63, 64, 65, 66, 15, 87, 88, 89, 90, 91, 92, 93, 94, 95, 96, 97, 98, 99, 100, 101, 102, 103, 104, 105] (by decide +kernel) (by decide +kernel)
set_option maxRecDepth 20000 in
theorem gX5_fireKiln_X5_firePot : GoodIn wsX5_fireKiln (wsV RX5 211 RX5 yX5_firePot wsX5_firePot) := goodIn_app (goodIn_of _ (by decide +kernel)) ggX5_fireKiln_X5_firePot
theorem dX5_fireKiln_0 : decode cX5_fireKiln 0 = .ok (.iload_n 1, 1) := by decide +kernel
theorem dX5_fireKiln_1 : decode cX5_fireKiln 1 = .ok (.invokestatic 197, 3) := by decide +kernel
theorem dX5_fireKiln_4 : decode cX5_fireKiln 4 = .ok (.ifCond .ne 6, 3) := by decide +kernel
theorem dX5_fireKiln_7 : decode cX5_fireKiln 7 = .ok (.bipush (-2), 2) := by decide +kernel
theorem dX5_fireKiln_9 : decode cX5_fireKiln 9 = .ok (.ireturn, 1) := by decide +kernel
theorem dX5_fireKiln_10 : decode cX5_fireKiln 10 = .ok (.aload_n 0, 1) := by decide +kernel
theorem dX5_fireKiln_11 : decode cX5_fireKiln 11 = .ok (.getfield 30, 3) := by decide +kernel
theorem dX5_fireKiln_14 : decode cX5_fireKiln 14 = .ok (.invokevirtual 200, 3) := by decide +kernel
theorem dX5_fireKiln_17 : decode cX5_fireKiln 17 = .ok (.istore_n 2, 1) := by decide +kernel
theorem dX5_fireKiln_18 : decode cX5_fireKiln 18 = .ok (.iload_n 2, 1) := by decide +kernel
theorem dX5_fireKiln_19 : decode cX5_fireKiln 19 = .ok (.ifCond .ne 6, 3) := by decide +kernel
theorem dX5_fireKiln_22 : decode cX5_fireKiln 22 = .ok (.bipush (-5), 2) := by decide +kernel
theorem dX5_fireKiln_24 : decode cX5_fireKiln 24 = .ok (.ireturn, 1) := by decide +kernel
theorem dX5_fireKiln_25 : decode cX5_fireKiln 25 = .ok (.aload_n 0, 1) := by decide +kernel
theorem dX5_fireKiln_26 : decode cX5_fireKiln 26 = .ok (.iconst 4, 1) := by decide +kernel
theorem dX5_fireKiln_27 : decode cX5_fireKiln 27 = .ok (.iload_n 1, 1) := by decide +kernel
theorem dX5_fireKiln_28 : decode cX5_fireKiln 28 = .ok (.invokevirtual 203, 3) := by decide +kernel
theorem dX5_fireKiln_31 : decode cX5_fireKiln 31 = .ok (.invokestatic 206, 3) := by decide +kernel
theorem dX5_fireKiln_34 : decode cX5_fireKiln 34 = .ok (.istore_n 3, 1) := by decide +kernel
theorem dX5_fireKiln_35 : decode cX5_fireKiln 35 = .ok (.iload_n 2, 1) := by decide +kernel
theorem dX5_fireKiln_36 : decode cX5_fireKiln 36 = .ok (.invokestatic 206, 3) := by decide +kernel
theorem dX5_fireKiln_39 : decode cX5_fireKiln 39 = .ok (.iload_n 3, 1) := by decide +kernel
theorem dX5_fireKiln_40 : decode cX5_fireKiln 40 = .ok (.isub, 1) := by decide +kernel
theorem dX5_fireKiln_41 : decode cX5_fireKiln 41 = .ok (.aload_n 0, 1) := by decide +kernel
theorem dX5_fireKiln_42 : decode cX5_fireKiln 42 = .ok (.getfield 30, 3) := by decide +kernel
theorem dX5_fireKiln_45 : decode cX5_fireKiln 45 = .ok (.invokevirtual 118, 3) := by decide +kernel
theorem dX5_fireKiln_48 : decode cX5_fireKiln 48 = .ok (.if_icmp .le 6, 3) := by decide +kernel
theorem dX5_fireKiln_51 : decode cX5_fireKiln 51 = .ok (.bipush (-4), 2) := by decide +kernel
theorem dX5_fireKiln_53 : decode cX5_fireKiln 53 = .ok (.ireturn, 1) := by decide +kernel
theorem dX5_fireKiln_54 : decode cX5_fireKiln 54 = .ok (.iconst 0, 1) := by decide +kernel
theorem dX5_fireKiln_55 : decode cX5_fireKiln 55 = .ok (.istore 4, 2) := by decide +kernel
theorem dX5_fireKiln_57 : decode cX5_fireKiln 57 = .ok (.iload 4, 2) := by decide +kernel
theorem dX5_fireKiln_59 : decode cX5_fireKiln 59 = .ok (.aload_n 0, 1) := by decide +kernel
theorem dX5_fireKiln_60 : decode cX5_fireKiln 60 = .ok (.getfield 30, 3) := by decide +kernel
theorem dX5_fireKiln_63 : decode cX5_fireKiln 63 = .ok (.getfield 64, 3) := by decide +kernel
theorem dX5_fireKiln_66 : decode cX5_fireKiln 66 = .ok (.if_icmp .ge 28, 3) := by decide +kernel
theorem dX5_fireKiln_69 : decode cX5_fireKiln 69 = .ok (.aload_n 0, 1) := by decide +kernel
theorem dX5_fireKiln_70 : decode cX5_fireKiln 70 = .ok (.getfield 30, 3) := by decide +kernel
theorem dX5_fireKiln_73 : decode cX5_fireKiln 73 = .ok (.iload 4, 2) := by decide +kernel
theorem dX5_fireKiln_75 : decode cX5_fireKiln 75 = .ok (.invokevirtual 173, 3) := by decide +kernel
theorem dX5_fireKiln_78 : decode cX5_fireKiln 78 = .ok (.ifCond .eq 10, 3) := by decide +kernel
theorem dX5_fireKiln_81 : decode cX5_fireKiln 81 = .ok (.aload_n 0, 1) := by decide +kernel
theorem dX5_fireKiln_82 : decode cX5_fireKiln 82 = .ok (.iload 4, 2) := by decide +kernel
theorem dX5_fireKiln_84 : decode cX5_fireKiln 84 = .ok (.iload_n 1, 1) := by decide +kernel
theorem dX5_fireKiln_85 : decode cX5_fireKiln 85 = .ok (.invokevirtual 211, 3) := by decide +kernel
theorem dX5_fireKiln_88 : decode cX5_fireKiln 88 = .ok (.iinc 4 1, 3) := by decide +kernel
theorem dX5_fireKiln_91 : decode cX5_fireKiln 91 = .ok (.goto (-34), 3) := by decide +kernel
theorem dX5_fireKiln_94 : decode cX5_fireKiln 94 = .ok (.aload_n 0, 1) := by decide +kernel
theorem dX5_fireKiln_95 : decode cX5_fireKiln 95 = .ok (.dup, 1) := by decide +kernel
theorem dX5_fireKiln_96 : decode cX5_fireKiln 96 = .ok (.getfield 61, 3) := by decide +kernel
theorem dX5_fireKiln_99 : decode cX5_fireKiln 99 = .ok (.iconst 1, 1) := by decide +kernel
theorem dX5_fireKiln_100 : decode cX5_fireKiln 100 = .ok (.iadd, 1) := by decide +kernel
theorem dX5_fireKiln_101 : decode cX5_fireKiln 101 = .ok (.putfield 61, 3) := by decide +kernel
theorem dX5_fireKiln_104 : decode cX5_fireKiln 104 = .ok (.iload_n 3, 1) := by decide +kernel
theorem dX5_fireKiln_105 : decode cX5_fireKiln 105 = .ok (.ireturn, 1) := by decide +kernel
set_option maxRecDepth 20000 in
theorem ggX5_firePot_X4_at : GoodIn wsX5_firePot wsX4_at := goodIn_r _ [7, 8, 65] (by decide +kernel) (by decide +kernel)
set_option maxRecDepth 20000 in
theorem gX5_firePot_X4_at : GoodIn wsX5_firePot (wsV RX5 75 RX4 yX4_at wsX4_at) := goodIn_app (goodIn_of _ (by decide +kernel)) ggX5_firePot_X4_at
set_option maxRecDepth 20000 in
theorem ggX5_firePot_X3_kindFired : GoodIn wsX5_firePot wsX3_kindFired := goodIn_r _ [13, 14, 15, 4, 5, 6, 7, 8, 16, 17, 18, 12, 19, 20, 21, 22, 23, 24, 25, 56, 57, 58, 59, 60, 61, 62, 63, 64, 65] (by decide +kernel) (by decide +kernel)
set_option maxRecDepth 20000 in
theorem gX5_firePot_X3_kindFired : GoodIn wsX5_firePot (wsV RX5 194 RX3 yX3_kindFired wsX3_kindFired) := goodIn_app (goodIn_of _ (by decide +kernel)) ggX5_firePot_X3_kindFired
set_option maxRecDepth 20000 in
theorem ggX5_firePot_X4_write : GoodIn wsX5_firePot wsX4_write := goodIn_r _ [29, 8, 65] (by decide +kernel) (by decide +kernel)
set_option maxRecDepth 20000 in
theorem gX5_firePot_X4_write : GoodIn wsX5_firePot (wsV RX5 44 RX4 yX4_write wsX4_write) := goodIn_app (goodIn_of _ (by decide +kernel)) ggX5_firePot_X4_write
set_option maxRecDepth 20000 in
theorem ggX5_firePot_X4_add : GoodIn wsX5_firePot wsX4_add := goodIn_r _ [33, 34, 4, 5, 6, 7, 8, 35, 27, 28, 29, 65] (by decide +kernel) (by decide +kernel)
set_option maxRecDepth 20000 in
theorem gX5_firePot_X4_add : GoodIn wsX5_firePot (wsV RX5 148 RX4 yX4_add wsX4_add) := goodIn_app (goodIn_of _ (by decide +kernel)) ggX5_firePot_X4_add
set_option maxRecDepth 20000 in
theorem ggX5_firePot_X3_isKind : GoodIn wsX5_firePot wsX3_isKind := goodIn_r _ [19, 20, 15, 4, 5, 6, 7, 8, 56, 57, 58, 59, 60, 61, 62, 63, 64, 65] (by decide +kernel) (by decide +kernel)
set_option maxRecDepth 20000 in
theorem gX5_firePot_X3_isKind : GoodIn wsX5_firePot (wsV RX5 142 RX3 yX3_isKind wsX3_isKind) := goodIn_app (goodIn_of _ (by decide +kernel)) ggX5_firePot_X3_isKind
set_option maxRecDepth 20000 in
theorem ggX5_firePot_X3_putOnRack : GoodIn wsX5_firePot wsX3_putOnRack := goodIn_r _ [40, 41, 42, 43, 44, 12, 45, 46, 15, 4, 5, 6, 7, 8, 47, 27, 28, 29, 56, 57, 58, 59, 60, 61, 62, 63, 64, 65] (by decide +kernel) (by decide +kernel)
set_option maxRecDepth 20000 in
theorem gX5_firePot_X3_putOnRack : GoodIn wsX5_firePot (wsV RX5 191 RX3 yX3_putOnRack wsX3_putOnRack) := goodIn_app (goodIn_of _ (by decide +kernel)) ggX5_firePot_X3_putOnRack
theorem dX5_firePot_0 : decode cX5_firePot 0 = .ok (.aload_n 0, 1) := by decide +kernel
theorem dX5_firePot_1 : decode cX5_firePot 1 = .ok (.getfield 30, 3) := by decide +kernel
theorem dX5_firePot_4 : decode cX5_firePot 4 = .ok (.getfield 151, 3) := by decide +kernel
theorem dX5_firePot_7 : decode cX5_firePot 7 = .ok (.iload_n 1, 1) := by decide +kernel
theorem dX5_firePot_8 : decode cX5_firePot 8 = .ok (.aload_n 0, 1) := by decide +kernel
theorem dX5_firePot_9 : decode cX5_firePot 9 = .ok (.getfield 30, 3) := by decide +kernel
theorem dX5_firePot_12 : decode cX5_firePot 12 = .ok (.iload_n 1, 1) := by decide +kernel
theorem dX5_firePot_13 : decode cX5_firePot 13 = .ok (.iload_n 2, 1) := by decide +kernel
theorem dX5_firePot_14 : decode cX5_firePot 14 = .ok (.aload_n 0, 1) := by decide +kernel
theorem dX5_firePot_15 : decode cX5_firePot 15 = .ok (.getfield 14, 3) := by decide +kernel
theorem dX5_firePot_18 : decode cX5_firePot 18 = .ok (.iconst 2, 1) := by decide +kernel
theorem dX5_firePot_19 : decode cX5_firePot 19 = .ok (.invokevirtual 75, 3) := by decide +kernel
theorem dX5_firePot_22 : decode cX5_firePot 22 = .ok (.invokevirtual 194, 3) := by decide +kernel
theorem dX5_firePot_25 : decode cX5_firePot 25 = .ok (.invokevirtual 44, 3) := by decide +kernel
theorem dX5_firePot_28 : decode cX5_firePot 28 = .ok (.aload_n 0, 1) := by decide +kernel
theorem dX5_firePot_29 : decode cX5_firePot 29 = .ok (.getfield 30, 3) := by decide +kernel
theorem dX5_firePot_32 : decode cX5_firePot 32 = .ok (.getfield 214, 3) := by decide +kernel
theorem dX5_firePot_35 : decode cX5_firePot 35 = .ok (.iload_n 1, 1) := by decide +kernel
theorem dX5_firePot_36 : decode cX5_firePot 36 = .ok (.iconst 1, 1) := by decide +kernel
theorem dX5_firePot_37 : decode cX5_firePot 37 = .ok (.invokevirtual 148, 3) := by decide +kernel
theorem dX5_firePot_40 : decode cX5_firePot 40 = .ok (.aload_n 0, 1) := by decide +kernel
theorem dX5_firePot_41 : decode cX5_firePot 41 = .ok (.getfield 30, 3) := by decide +kernel
theorem dX5_firePot_44 : decode cX5_firePot 44 = .ok (.iload_n 1, 1) := by decide +kernel
theorem dX5_firePot_45 : decode cX5_firePot 45 = .ok (.iconst 4, 1) := by decide +kernel
theorem dX5_firePot_46 : decode cX5_firePot 46 = .ok (.invokevirtual 142, 3) := by decide +kernel
theorem dX5_firePot_49 : decode cX5_firePot 49 = .ok (.ifCond .eq 19, 3) := by decide +kernel
theorem dX5_firePot_52 : decode cX5_firePot 52 = .ok (.aload_n 0, 1) := by decide +kernel
theorem dX5_firePot_53 : decode cX5_firePot 53 = .ok (.getfield 30, 3) := by decide +kernel
theorem dX5_firePot_56 : decode cX5_firePot 56 = .ok (.getfield 164, 3) := by decide +kernel
theorem dX5_firePot_59 : decode cX5_firePot 59 = .ok (.iload_n 1, 1) := by decide +kernel
theorem dX5_firePot_60 : decode cX5_firePot 60 = .ok (.bipush 25, 2) := by decide +kernel
theorem dX5_firePot_62 : decode cX5_firePot 62 = .ok (.invokevirtual 44, 3) := by decide +kernel
theorem dX5_firePot_65 : decode cX5_firePot 65 = .ok (.goto 11, 3) := by decide +kernel
theorem dX5_firePot_68 : decode cX5_firePot 68 = .ok (.aload_n 0, 1) := by decide +kernel
theorem dX5_firePot_69 : decode cX5_firePot 69 = .ok (.getfield 30, 3) := by decide +kernel
theorem dX5_firePot_72 : decode cX5_firePot 72 = .ok (.iload_n 1, 1) := by decide +kernel
theorem dX5_firePot_73 : decode cX5_firePot 73 = .ok (.invokevirtual 191, 3) := by decide +kernel
theorem dX5_firePot_76 : decode cX5_firePot 76 = .ok (.return_, 1) := by decide +kernel
set_option maxRecDepth 20000 in
theorem ggX5_outcomeOfFiring_X6_isHeat : GoodIn wsX5_outcomeOfFiring wsX6_isHeat := goodIn_r _ [3, 4, 5, 2, 6] (by decide +kernel) (by decide +kernel)
set_option maxRecDepth 20000 in
theorem gX5_outcomeOfFiring_X6_isHeat_n197 : GoodIn wsX5_outcomeOfFiring (wsX6_isHeat) := ggX5_outcomeOfFiring_X6_isHeat
set_option maxRecDepth 20000 in
theorem ggX5_outcomeOfFiring_X5_firedTo : GoodIn wsX5_outcomeOfFiring wsX5_firedTo := goodIn_r _ [11, 12, 13, 14, 15, 16, 17, 18, 19, 20, 21, 22, 23, 24, 25, 26, 27, 28, 29, 30, 31, 32, 33, 34, 35, 36, 37, 38, 39, 40, 41, 42, 43, 44, 45, 46, 47, 48, 49, 50, 51, 52, 53, 54, 55, 56, 57, 58, 59] (by decide +kernel) (by decide +kernel)
set_option maxRecDepth 20000 in
theorem gX5_outcomeOfFiring_X5_firedTo : GoodIn wsX5_outcomeOfFiring (wsV RX5 203 RX5 yX5_firedTo wsX5_firedTo) := goodIn_app (goodIn_of _ (by decide +kernel)) ggX5_outcomeOfFiring_X5_firedTo
theorem dX5_outcomeOfFiring_0 : decode cX5_outcomeOfFiring 0 = .ok (.iload_n 1, 1) := by decide +kernel
theorem dX5_outcomeOfFiring_1 : decode cX5_outcomeOfFiring 1 = .ok (.invokestatic 197, 3) := by decide +kernel
theorem dX5_outcomeOfFiring_4 : decode cX5_outcomeOfFiring 4 = .ok (.ifCond .ne 6, 3) := by decide +kernel
theorem dX5_outcomeOfFiring_7 : decode cX5_outcomeOfFiring 7 = .ok (.bipush (-2), 2) := by decide +kernel
theorem dX5_outcomeOfFiring_9 : decode cX5_outcomeOfFiring 9 = .ok (.ireturn, 1) := by decide +kernel
theorem dX5_outcomeOfFiring_10 : decode cX5_outcomeOfFiring 10 = .ok (.iload_n 2, 1) := by decide +kernel
theorem dX5_outcomeOfFiring_11 : decode cX5_outcomeOfFiring 11 = .ok (.tableswitch 64 0 3 #[29, 36, 43, 50], 29) := by decide +kernel
theorem dX5_outcomeOfFiring_40 : decode cX5_outcomeOfFiring 40 = .ok (.aload_n 0, 1) := by decide +kernel
theorem dX5_outcomeOfFiring_41 : decode cX5_outcomeOfFiring 41 = .ok (.iconst 4, 1) := by decide +kernel
theorem dX5_outcomeOfFiring_42 : decode cX5_outcomeOfFiring 42 = .ok (.iload_n 1, 1) := by decide +kernel
theorem dX5_outcomeOfFiring_43 : decode cX5_outcomeOfFiring 43 = .ok (.invokevirtual 203, 3) := by decide +kernel
theorem dX5_outcomeOfFiring_46 : decode cX5_outcomeOfFiring 46 = .ok (.ireturn, 1) := by decide +kernel
theorem dX5_outcomeOfFiring_47 : decode cX5_outcomeOfFiring 47 = .ok (.aload_n 0, 1) := by decide +kernel
theorem dX5_outcomeOfFiring_48 : decode cX5_outcomeOfFiring 48 = .ok (.iconst 1, 1) := by decide +kernel
theorem dX5_outcomeOfFiring_49 : decode cX5_outcomeOfFiring 49 = .ok (.iload_n 1, 1) := by decide +kernel
theorem dX5_outcomeOfFiring_50 : decode cX5_outcomeOfFiring 50 = .ok (.invokevirtual 203, 3) := by decide +kernel
theorem dX5_outcomeOfFiring_53 : decode cX5_outcomeOfFiring 53 = .ok (.ireturn, 1) := by decide +kernel
theorem dX5_outcomeOfFiring_54 : decode cX5_outcomeOfFiring 54 = .ok (.aload_n 0, 1) := by decide +kernel
theorem dX5_outcomeOfFiring_55 : decode cX5_outcomeOfFiring 55 = .ok (.iconst 3, 1) := by decide +kernel
theorem dX5_outcomeOfFiring_56 : decode cX5_outcomeOfFiring 56 = .ok (.iload_n 1, 1) := by decide +kernel
theorem dX5_outcomeOfFiring_57 : decode cX5_outcomeOfFiring 57 = .ok (.invokevirtual 203, 3) := by decide +kernel
theorem dX5_outcomeOfFiring_60 : decode cX5_outcomeOfFiring 60 = .ok (.ireturn, 1) := by decide +kernel
theorem dX5_outcomeOfFiring_61 : decode cX5_outcomeOfFiring 61 = .ok (.aload_n 0, 1) := by decide +kernel
theorem dX5_outcomeOfFiring_62 : decode cX5_outcomeOfFiring 62 = .ok (.iconst 0, 1) := by decide +kernel
theorem dX5_outcomeOfFiring_63 : decode cX5_outcomeOfFiring 63 = .ok (.iload_n 1, 1) := by decide +kernel
theorem dX5_outcomeOfFiring_64 : decode cX5_outcomeOfFiring 64 = .ok (.invokevirtual 203, 3) := by decide +kernel
theorem dX5_outcomeOfFiring_67 : decode cX5_outcomeOfFiring 67 = .ok (.aload_n 0, 1) := by decide +kernel
theorem dX5_outcomeOfFiring_68 : decode cX5_outcomeOfFiring 68 = .ok (.iconst 2, 1) := by decide +kernel
theorem dX5_outcomeOfFiring_69 : decode cX5_outcomeOfFiring 69 = .ok (.iload_n 1, 1) := by decide +kernel
theorem dX5_outcomeOfFiring_70 : decode cX5_outcomeOfFiring 70 = .ok (.invokevirtual 203, 3) := by decide +kernel
theorem dX5_outcomeOfFiring_73 : decode cX5_outcomeOfFiring 73 = .ok (.ior, 1) := by decide +kernel
theorem dX5_outcomeOfFiring_74 : decode cX5_outcomeOfFiring 74 = .ok (.ireturn, 1) := by decide +kernel
theorem dX5_outcomeOfFiring_75 : decode cX5_outcomeOfFiring 75 = .ok (.bipush (-2), 2) := by decide +kernel
theorem dX5_outcomeOfFiring_77 : decode cX5_outcomeOfFiring 77 = .ok (.ireturn, 1) := by decide +kernel
set_option maxRecDepth 20000 in
theorem ggX5_scoreOf_X3_isInKiln : GoodIn wsX5_scoreOf wsX3_isInKiln := goodIn_r _ [7, 8, 9, 10, 11, 12, 13, 14, 39, 40, 41, 42, 43, 44, 45, 46, 47, 48] (by decide +kernel) (by decide +kernel)
set_option maxRecDepth 20000 in
theorem gX5_scoreOf_X3_isInKiln : GoodIn wsX5_scoreOf (wsV RX5 173 RX3 yX3_isInKiln wsX3_isInKiln) := goodIn_app (goodIn_of _ (by decide +kernel)) ggX5_scoreOf_X3_isInKiln
set_option maxRecDepth 20000 in
theorem ggX5_scoreOf_X4_at : GoodIn wsX5_scoreOf wsX4_at := goodIn_r _ [13, 14, 48] (by decide +kernel) (by decide +kernel)
set_option maxRecDepth 20000 in
theorem gX5_scoreOf_X4_at : GoodIn wsX5_scoreOf (wsV RX5 75 RX4 yX4_at wsX4_at) := goodIn_app (goodIn_of _ (by decide +kernel)) ggX5_scoreOf_X4_at
set_option maxRecDepth 20000 in
theorem ggX5_scoreOf_X3_kindFired : GoodIn wsX5_scoreOf wsX3_kindFired := goodIn_r _ [19, 20, 9, 10, 11, 12, 13, 14, 21, 22, 23, 6, 24, 25, 26, 27, 28, 29, 30, 39, 40, 41, 42, 43, 44, 45, 46, 47, 48] (by decide +kernel) (by decide +kernel)
set_option maxRecDepth 20000 in
theorem gX5_scoreOf_X3_kindFired : GoodIn wsX5_scoreOf (wsV RX5 194 RX3 yX3_kindFired wsX3_kindFired) := goodIn_app (goodIn_of _ (by decide +kernel)) ggX5_scoreOf_X3_kindFired
theorem dX5_scoreOf_0 : decode cX5_scoreOf 0 = .ok (.iconst 0, 1) := by decide +kernel
theorem dX5_scoreOf_1 : decode cX5_scoreOf 1 = .ok (.istore_n 2, 1) := by decide +kernel
theorem dX5_scoreOf_2 : decode cX5_scoreOf 2 = .ok (.iconst 0, 1) := by decide +kernel
theorem dX5_scoreOf_3 : decode cX5_scoreOf 3 = .ok (.istore_n 3, 1) := by decide +kernel
theorem dX5_scoreOf_4 : decode cX5_scoreOf 4 = .ok (.iload_n 3, 1) := by decide +kernel
theorem dX5_scoreOf_5 : decode cX5_scoreOf 5 = .ok (.aload_n 0, 1) := by decide +kernel
theorem dX5_scoreOf_6 : decode cX5_scoreOf 6 = .ok (.getfield 30, 3) := by decide +kernel
theorem dX5_scoreOf_9 : decode cX5_scoreOf 9 = .ok (.getfield 64, 3) := by decide +kernel
theorem dX5_scoreOf_12 : decode cX5_scoreOf 12 = .ok (.if_icmp .ge 75, 3) := by decide +kernel
theorem dX5_scoreOf_15 : decode cX5_scoreOf 15 = .ok (.aload_n 0, 1) := by decide +kernel
theorem dX5_scoreOf_16 : decode cX5_scoreOf 16 = .ok (.getfield 30, 3) := by decide +kernel
theorem dX5_scoreOf_19 : decode cX5_scoreOf 19 = .ok (.iload_n 3, 1) := by decide +kernel
theorem dX5_scoreOf_20 : decode cX5_scoreOf 20 = .ok (.invokevirtual 173, 3) := by decide +kernel
theorem dX5_scoreOf_23 : decode cX5_scoreOf 23 = .ok (.ifCond .ne 6, 3) := by decide +kernel
theorem dX5_scoreOf_26 : decode cX5_scoreOf 26 = .ok (.goto 55, 3) := by decide +kernel
theorem dX5_scoreOf_29 : decode cX5_scoreOf 29 = .ok (.aload_n 0, 1) := by decide +kernel
theorem dX5_scoreOf_30 : decode cX5_scoreOf 30 = .ok (.getfield 30, 3) := by decide +kernel
theorem dX5_scoreOf_33 : decode cX5_scoreOf 33 = .ok (.iload_n 3, 1) := by decide +kernel
theorem dX5_scoreOf_34 : decode cX5_scoreOf 34 = .ok (.iload_n 1, 1) := by decide +kernel
theorem dX5_scoreOf_35 : decode cX5_scoreOf 35 = .ok (.aload_n 0, 1) := by decide +kernel
theorem dX5_scoreOf_36 : decode cX5_scoreOf 36 = .ok (.getfield 14, 3) := by decide +kernel
theorem dX5_scoreOf_39 : decode cX5_scoreOf 39 = .ok (.iconst 2, 1) := by decide +kernel
theorem dX5_scoreOf_40 : decode cX5_scoreOf 40 = .ok (.invokevirtual 75, 3) := by decide +kernel
theorem dX5_scoreOf_43 : decode cX5_scoreOf 43 = .ok (.invokevirtual 194, 3) := by decide +kernel
theorem dX5_scoreOf_46 : decode cX5_scoreOf 46 = .ok (.istore 4, 2) := by decide +kernel
theorem dX5_scoreOf_48 : decode cX5_scoreOf 48 = .ok (.iload 4, 2) := by decide +kernel
theorem dX5_scoreOf_50 : decode cX5_scoreOf 50 = .ok (.iconst 4, 1) := by decide +kernel
theorem dX5_scoreOf_51 : decode cX5_scoreOf 51 = .ok (.if_icmp .ne 9, 3) := by decide +kernel
theorem dX5_scoreOf_54 : decode cX5_scoreOf 54 = .ok (.iinc 2 (-1), 3) := by decide +kernel
theorem dX5_scoreOf_57 : decode cX5_scoreOf 57 = .ok (.goto 24, 3) := by decide +kernel
theorem dX5_scoreOf_60 : decode cX5_scoreOf 60 = .ok (.iload 4, 2) := by decide +kernel
theorem dX5_scoreOf_62 : decode cX5_scoreOf 62 = .ok (.aload_n 0, 1) := by decide +kernel
theorem dX5_scoreOf_63 : decode cX5_scoreOf 63 = .ok (.getfield 30, 3) := by decide +kernel
theorem dX5_scoreOf_66 : decode cX5_scoreOf 66 = .ok (.getfield 151, 3) := by decide +kernel
theorem dX5_scoreOf_69 : decode cX5_scoreOf 69 = .ok (.iload_n 3, 1) := by decide +kernel
theorem dX5_scoreOf_70 : decode cX5_scoreOf 70 = .ok (.invokevirtual 75, 3) := by decide +kernel
theorem dX5_scoreOf_73 : decode cX5_scoreOf 73 = .ok (.iconst 1, 1) := by decide +kernel
theorem dX5_scoreOf_74 : decode cX5_scoreOf 74 = .ok (.iadd, 1) := by decide +kernel
theorem dX5_scoreOf_75 : decode cX5_scoreOf 75 = .ok (.if_icmp .ne 6, 3) := by decide +kernel
theorem dX5_scoreOf_78 : decode cX5_scoreOf 78 = .ok (.iinc 2 21, 3) := by decide +kernel
theorem dX5_scoreOf_81 : decode cX5_scoreOf 81 = .ok (.iinc 3 1, 3) := by decide +kernel
theorem dX5_scoreOf_84 : decode cX5_scoreOf 84 = .ok (.goto (-80), 3) := by decide +kernel
theorem dX5_scoreOf_87 : decode cX5_scoreOf 87 = .ok (.iload_n 2, 1) := by decide +kernel
theorem dX5_scoreOf_88 : decode cX5_scoreOf 88 = .ok (.ireturn, 1) := by decide +kernel
set_option maxRecDepth 20000 in
theorem ggX5_heatForMostPots_X3_inKiln : GoodIn wsX5_heatForMostPots wsX3_inKiln := goodIn_r _ [6, 7, 8, 9, 10, 11, 12, 13, 14, 53, 54, 55, 56, 57, 58, 59, 60, 61, 62] (by decide +kernel) (by decide +kernel)
set_option maxRecDepth 20000 in
theorem gX5_heatForMostPots_X3_inKiln : GoodIn wsX5_heatForMostPots (wsV RX5 200 RX3 yX3_inKiln wsX3_inKiln) := goodIn_app (goodIn_of _ (by decide +kernel)) ggX5_heatForMostPots_X3_inKiln
set_option maxRecDepth 20000 in
theorem ggX5_heatForMostPots_X5_scoreOf : GoodIn wsX5_heatForMostPots wsX5_scoreOf := goodIn_r _ [19, 1, 20, 21, 22, 23, 5, 24, 7, 25, 26, 27, 12, 28, 14, 29, 30, 31, 32, 33, 34, 35, 36, 37, 38, 39, 40, 41, 42, 43, 44, 45, 46, 47, 48, 49, 50, 51, 52, 53, 54, 55, 56, 57, 58, 59, 60, 61, 62] (by decide +kernel) (by decide +kernel)
set_option maxRecDepth 20000 in
theorem gX5_heatForMostPots_X5_scoreOf : GoodIn wsX5_heatForMostPots (wsV RX5 216 RX5 yX5_scoreOf wsX5_scoreOf) := goodIn_app (goodIn_of _ (by decide +kernel)) ggX5_heatForMostPots_X5_scoreOf
theorem dX5_heatForMostPots_0 : decode cX5_heatForMostPots 0 = .ok (.aload_n 0, 1) := by decide +kernel
theorem dX5_heatForMostPots_1 : decode cX5_heatForMostPots 1 = .ok (.getfield 30, 3) := by decide +kernel
theorem dX5_heatForMostPots_4 : decode cX5_heatForMostPots 4 = .ok (.invokevirtual 200, 3) := by decide +kernel
theorem dX5_heatForMostPots_7 : decode cX5_heatForMostPots 7 = .ok (.ifCond .ne 6, 3) := by decide +kernel
theorem dX5_heatForMostPots_10 : decode cX5_heatForMostPots 10 = .ok (.bipush (-6), 2) := by decide +kernel
theorem dX5_heatForMostPots_12 : decode cX5_heatForMostPots 12 = .ok (.ireturn, 1) := by decide +kernel
theorem dX5_heatForMostPots_13 : decode cX5_heatForMostPots 13 = .ok (.bipush 80, 2) := by decide +kernel
theorem dX5_heatForMostPots_15 : decode cX5_heatForMostPots 15 = .ok (.istore_n 1, 1) := by decide +kernel
theorem dX5_heatForMostPots_16 : decode cX5_heatForMostPots 16 = .ok (.aload_n 0, 1) := by decide +kernel
theorem dX5_heatForMostPots_17 : decode cX5_heatForMostPots 17 = .ok (.iload_n 1, 1) := by decide +kernel
theorem dX5_heatForMostPots_18 : decode cX5_heatForMostPots 18 = .ok (.invokevirtual 216, 3) := by decide +kernel
theorem dX5_heatForMostPots_21 : decode cX5_heatForMostPots 21 = .ok (.istore_n 2, 1) := by decide +kernel
theorem dX5_heatForMostPots_22 : decode cX5_heatForMostPots 22 = .ok (.bipush 81, 2) := by decide +kernel
theorem dX5_heatForMostPots_24 : decode cX5_heatForMostPots 24 = .ok (.istore_n 3, 1) := by decide +kernel
theorem dX5_heatForMostPots_25 : decode cX5_heatForMostPots 25 = .ok (.iload_n 3, 1) := by decide +kernel
theorem dX5_heatForMostPots_26 : decode cX5_heatForMostPots 26 = .ok (.sipush 140, 3) := by decide +kernel
theorem dX5_heatForMostPots_29 : decode cX5_heatForMostPots 29 = .ok (.if_icmp .gt 27, 3) := by decide +kernel
theorem dX5_heatForMostPots_32 : decode cX5_heatForMostPots 32 = .ok (.aload_n 0, 1) := by decide +kernel
theorem dX5_heatForMostPots_33 : decode cX5_heatForMostPots 33 = .ok (.iload_n 3, 1) := by decide +kernel
theorem dX5_heatForMostPots_34 : decode cX5_heatForMostPots 34 = .ok (.invokevirtual 216, 3) := by decide +kernel
theorem dX5_heatForMostPots_37 : decode cX5_heatForMostPots 37 = .ok (.istore 4, 2) := by decide +kernel
theorem dX5_heatForMostPots_39 : decode cX5_heatForMostPots 39 = .ok (.iload 4, 2) := by decide +kernel
theorem dX5_heatForMostPots_41 : decode cX5_heatForMostPots 41 = .ok (.iload_n 2, 1) := by decide +kernel
theorem dX5_heatForMostPots_42 : decode cX5_heatForMostPots 42 = .ok (.if_icmp .le 8, 3) := by decide +kernel
theorem dX5_heatForMostPots_45 : decode cX5_heatForMostPots 45 = .ok (.iload_n 3, 1) := by decide +kernel
theorem dX5_heatForMostPots_46 : decode cX5_heatForMostPots 46 = .ok (.istore_n 1, 1) := by decide +kernel
theorem dX5_heatForMostPots_47 : decode cX5_heatForMostPots 47 = .ok (.iload 4, 2) := by decide +kernel
theorem dX5_heatForMostPots_49 : decode cX5_heatForMostPots 49 = .ok (.istore_n 2, 1) := by decide +kernel
theorem dX5_heatForMostPots_50 : decode cX5_heatForMostPots 50 = .ok (.iinc 3 1, 3) := by decide +kernel
theorem dX5_heatForMostPots_53 : decode cX5_heatForMostPots 53 = .ok (.goto (-28), 3) := by decide +kernel
theorem dX5_heatForMostPots_56 : decode cX5_heatForMostPots 56 = .ok (.iload_n 1, 1) := by decide +kernel
theorem dX5_heatForMostPots_57 : decode cX5_heatForMostPots 57 = .ok (.ireturn, 1) := by decide +kernel
set_option maxRecDepth 20000 in
theorem ggX5_factOfPot_X3_has : GoodIn wsX5_factOfPot wsX3_has := goodIn_r _ [6, 7, 37, 38, 39, 40, 41, 42, 43, 44, 45] (by decide +kernel) (by decide +kernel)
set_option maxRecDepth 20000 in
theorem gX5_factOfPot_X3_has : GoodIn wsX5_factOfPot (wsV RX5 133 RX3 yX3_has wsX3_has) := goodIn_app (goodIn_of _ (by decide +kernel)) ggX5_factOfPot_X3_has
set_option maxRecDepth 20000 in
theorem ggX5_factOfPot_X3_isOnRack : GoodIn wsX5_factOfPot wsX3_isOnRack := goodIn_r _ [11, 12, 13, 14, 15, 16, 17, 18, 37, 38, 39, 40, 41, 42, 43, 44, 45, 46] (by decide +kernel) (by decide +kernel)
set_option maxRecDepth 20000 in
theorem gX5_factOfPot_X3_isOnRack : GoodIn wsX5_factOfPot (wsV RX5 145 RX3 yX3_isOnRack wsX3_isOnRack) := goodIn_app (goodIn_of _ (by decide +kernel)) ggX5_factOfPot_X3_isOnRack
set_option maxRecDepth 20000 in
theorem ggX5_factOfPot_X3_isKind : GoodIn wsX5_factOfPot wsX3_isKind := goodIn_r _ [22, 23, 13, 14, 15, 16, 17, 18, 37, 38, 39, 40, 41, 42, 43, 44, 45, 46] (by decide +kernel) (by decide +kernel)
set_option maxRecDepth 20000 in
theorem gX5_factOfPot_X3_isKind : GoodIn wsX5_factOfPot (wsV RX5 142 RX3 yX3_isKind wsX3_isKind) := goodIn_app (goodIn_of _ (by decide +kernel)) ggX5_factOfPot_X3_isKind
set_option maxRecDepth 20000 in
theorem ggX5_factOfPot_X4_at : GoodIn wsX5_factOfPot wsX4_at := goodIn_r _ [17, 18, 46] (by decide +kernel) (by decide +kernel)
set_option maxRecDepth 20000 in
theorem gX5_factOfPot_X4_at : GoodIn wsX5_factOfPot (wsV RX5 75 RX4 yX4_at wsX4_at) := goodIn_app (goodIn_of _ (by decide +kernel)) ggX5_factOfPot_X4_at
set_option maxRecDepth 20000 in
theorem ggX5_factOfPot_X3_isInKiln : GoodIn wsX5_factOfPot wsX3_isInKiln := goodIn_r _ [28, 12, 13, 14, 15, 16, 17, 18, 37, 38, 39, 40, 41, 42, 43, 44, 45, 46] (by decide +kernel) (by decide +kernel)
set_option maxRecDepth 20000 in
theorem gX5_factOfPot_X3_isInKiln : GoodIn wsX5_factOfPot (wsV RX5 173 RX3 yX3_isInKiln wsX3_isInKiln) := goodIn_app (goodIn_of _ (by decide +kernel)) ggX5_factOfPot_X3_isInKiln
theorem dX5_factOfPot_0 : decode cX5_factOfPot 0 = .ok (.aload_n 0, 1) := by decide +kernel
theorem dX5_factOfPot_1 : decode cX5_factOfPot 1 = .ok (.getfield 30, 3) := by decide +kernel
theorem dX5_factOfPot_4 : decode cX5_factOfPot 4 = .ok (.iload_n 1, 1) := by decide +kernel
theorem dX5_factOfPot_5 : decode cX5_factOfPot 5 = .ok (.invokevirtual 133, 3) := by decide +kernel
theorem dX5_factOfPot_8 : decode cX5_factOfPot 8 = .ok (.ifCond .ne 5, 3) := by decide +kernel
theorem dX5_factOfPot_11 : decode cX5_factOfPot 11 = .ok (.iconst (-1), 1) := by decide +kernel
theorem dX5_factOfPot_12 : decode cX5_factOfPot 12 = .ok (.ireturn, 1) := by decide +kernel
theorem dX5_factOfPot_13 : decode cX5_factOfPot 13 = .ok (.aload_n 0, 1) := by decide +kernel
theorem dX5_factOfPot_14 : decode cX5_factOfPot 14 = .ok (.getfield 30, 3) := by decide +kernel
theorem dX5_factOfPot_17 : decode cX5_factOfPot 17 = .ok (.iload_n 1, 1) := by decide +kernel
theorem dX5_factOfPot_18 : decode cX5_factOfPot 18 = .ok (.invokevirtual 145, 3) := by decide +kernel
theorem dX5_factOfPot_21 : decode cX5_factOfPot 21 = .ok (.istore_n 3, 1) := by decide +kernel
theorem dX5_factOfPot_22 : decode cX5_factOfPot 22 = .ok (.aload_n 0, 1) := by decide +kernel
theorem dX5_factOfPot_23 : decode cX5_factOfPot 23 = .ok (.getfield 30, 3) := by decide +kernel
theorem dX5_factOfPot_26 : decode cX5_factOfPot 26 = .ok (.iload_n 1, 1) := by decide +kernel
theorem dX5_factOfPot_27 : decode cX5_factOfPot 27 = .ok (.iconst 2, 1) := by decide +kernel
theorem dX5_factOfPot_28 : decode cX5_factOfPot 28 = .ok (.invokevirtual 142, 3) := by decide +kernel
theorem dX5_factOfPot_31 : decode cX5_factOfPot 31 = .ok (.ifCond .ne 15, 3) := by decide +kernel
theorem dX5_factOfPot_34 : decode cX5_factOfPot 34 = .ok (.aload_n 0, 1) := by decide +kernel
theorem dX5_factOfPot_35 : decode cX5_factOfPot 35 = .ok (.getfield 30, 3) := by decide +kernel
theorem dX5_factOfPot_38 : decode cX5_factOfPot 38 = .ok (.iload_n 1, 1) := by decide +kernel
theorem dX5_factOfPot_39 : decode cX5_factOfPot 39 = .ok (.iconst 3, 1) := by decide +kernel
theorem dX5_factOfPot_40 : decode cX5_factOfPot 40 = .ok (.invokevirtual 142, 3) := by decide +kernel
theorem dX5_factOfPot_43 : decode cX5_factOfPot 43 = .ok (.ifCond .eq 7, 3) := by decide +kernel
theorem dX5_factOfPot_46 : decode cX5_factOfPot 46 = .ok (.iconst 1, 1) := by decide +kernel
theorem dX5_factOfPot_47 : decode cX5_factOfPot 47 = .ok (.goto 4, 3) := by decide +kernel
theorem dX5_factOfPot_50 : decode cX5_factOfPot 50 = .ok (.iconst 0, 1) := by decide +kernel
theorem dX5_factOfPot_51 : decode cX5_factOfPot 51 = .ok (.istore 4, 2) := by decide +kernel
theorem dX5_factOfPot_53 : decode cX5_factOfPot 53 = .ok (.aload_n 0, 1) := by decide +kernel
theorem dX5_factOfPot_54 : decode cX5_factOfPot 54 = .ok (.getfield 30, 3) := by decide +kernel
theorem dX5_factOfPot_57 : decode cX5_factOfPot 57 = .ok (.getfield 214, 3) := by decide +kernel
theorem dX5_factOfPot_60 : decode cX5_factOfPot 60 = .ok (.iload_n 1, 1) := by decide +kernel
theorem dX5_factOfPot_61 : decode cX5_factOfPot 61 = .ok (.invokevirtual 75, 3) := by decide +kernel
theorem dX5_factOfPot_64 : decode cX5_factOfPot 64 = .ok (.istore 5, 2) := by decide +kernel
theorem dX5_factOfPot_66 : decode cX5_factOfPot 66 = .ok (.iload_n 2, 1) := by decide +kernel
theorem dX5_factOfPot_67 : decode cX5_factOfPot 67 = .ok (.tableswitch 190 0 8 #[49, 61, 73, 85, 110, 131, 143, 165, 187], 49) := by decide +kernel
theorem dX5_factOfPot_116 : decode cX5_factOfPot 116 = .ok (.aload_n 0, 1) := by decide +kernel
theorem dX5_factOfPot_117 : decode cX5_factOfPot 117 = .ok (.getfield 30, 3) := by decide +kernel
theorem dX5_factOfPot_120 : decode cX5_factOfPot 120 = .ok (.getfield 162, 3) := by decide +kernel
theorem dX5_factOfPot_123 : decode cX5_factOfPot 123 = .ok (.iload_n 1, 1) := by decide +kernel
theorem dX5_factOfPot_124 : decode cX5_factOfPot 124 = .ok (.invokevirtual 75, 3) := by decide +kernel
theorem dX5_factOfPot_127 : decode cX5_factOfPot 127 = .ok (.ireturn, 1) := by decide +kernel
theorem dX5_factOfPot_128 : decode cX5_factOfPot 128 = .ok (.aload_n 0, 1) := by decide +kernel
theorem dX5_factOfPot_129 : decode cX5_factOfPot 129 = .ok (.getfield 30, 3) := by decide +kernel
theorem dX5_factOfPot_132 : decode cX5_factOfPot 132 = .ok (.getfield 139, 3) := by decide +kernel
theorem dX5_factOfPot_135 : decode cX5_factOfPot 135 = .ok (.iload_n 1, 1) := by decide +kernel
theorem dX5_factOfPot_136 : decode cX5_factOfPot 136 = .ok (.invokevirtual 75, 3) := by decide +kernel
theorem dX5_factOfPot_139 : decode cX5_factOfPot 139 = .ok (.ireturn, 1) := by decide +kernel
theorem dX5_factOfPot_140 : decode cX5_factOfPot 140 = .ok (.aload_n 0, 1) := by decide +kernel
theorem dX5_factOfPot_141 : decode cX5_factOfPot 141 = .ok (.getfield 30, 3) := by decide +kernel
theorem dX5_factOfPot_144 : decode cX5_factOfPot 144 = .ok (.getfield 151, 3) := by decide +kernel
theorem dX5_factOfPot_147 : decode cX5_factOfPot 147 = .ok (.iload_n 1, 1) := by decide +kernel
theorem dX5_factOfPot_148 : decode cX5_factOfPot 148 = .ok (.invokevirtual 75, 3) := by decide +kernel
theorem dX5_factOfPot_151 : decode cX5_factOfPot 151 = .ok (.ireturn, 1) := by decide +kernel
theorem dX5_factOfPot_152 : decode cX5_factOfPot 152 = .ok (.iload_n 3, 1) := by decide +kernel
theorem dX5_factOfPot_153 : decode cX5_factOfPot 153 = .ok (.ifCond .eq 7, 3) := by decide +kernel
theorem dX5_factOfPot_156 : decode cX5_factOfPot 156 = .ok (.iconst 0, 1) := by decide +kernel
theorem dX5_factOfPot_157 : decode cX5_factOfPot 157 = .ok (.goto 19, 3) := by decide +kernel
theorem dX5_factOfPot_160 : decode cX5_factOfPot 160 = .ok (.aload_n 0, 1) := by decide +kernel
theorem dX5_factOfPot_161 : decode cX5_factOfPot 161 = .ok (.getfield 30, 3) := by decide +kernel
theorem dX5_factOfPot_164 : decode cX5_factOfPot 164 = .ok (.iload_n 1, 1) := by decide +kernel
theorem dX5_factOfPot_165 : decode cX5_factOfPot 165 = .ok (.invokevirtual 173, 3) := by decide +kernel
theorem dX5_factOfPot_168 : decode cX5_factOfPot 168 = .ok (.ifCond .eq 7, 3) := by decide +kernel
theorem dX5_factOfPot_171 : decode cX5_factOfPot 171 = .ok (.iconst 1, 1) := by decide +kernel
theorem dX5_factOfPot_172 : decode cX5_factOfPot 172 = .ok (.goto 4, 3) := by decide +kernel
theorem dX5_factOfPot_175 : decode cX5_factOfPot 175 = .ok (.iconst 2, 1) := by decide +kernel
theorem dX5_factOfPot_176 : decode cX5_factOfPot 176 = .ok (.ireturn, 1) := by decide +kernel
theorem dX5_factOfPot_177 : decode cX5_factOfPot 177 = .ok (.iload_n 3, 1) := by decide +kernel
theorem dX5_factOfPot_178 : decode cX5_factOfPot 178 = .ok (.ifCond .eq 17, 3) := by decide +kernel
theorem dX5_factOfPot_181 : decode cX5_factOfPot 181 = .ok (.aload_n 0, 1) := by decide +kernel
theorem dX5_factOfPot_182 : decode cX5_factOfPot 182 = .ok (.getfield 30, 3) := by decide +kernel
