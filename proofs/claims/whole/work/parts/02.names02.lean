set_option maxRecDepth 20000 in
theorem ggX3_isOnRack_X4_at : GoodIn wsX3_isOnRack wsX4_at := goodIn_r _ [6, 7, 17] (by decide +kernel) (by decide +kernel)
set_option maxRecDepth 20000 in
theorem gX3_isOnRack_X4_at : GoodIn wsX3_isOnRack (wsV RX3 49 RX4 yX4_at wsX4_at) := goodIn_app (goodIn_of _ (by decide +kernel)) ggX3_isOnRack_X4_at
theorem dX3_isOnRack_0 : decode cX3_isOnRack 0 = .ok (.aload_n 0, 1) := by decide +kernel
theorem dX3_isOnRack_1 : decode cX3_isOnRack 1 = .ok (.getfield 29, 3) := by decide +kernel
theorem dX3_isOnRack_4 : decode cX3_isOnRack 4 = .ok (.iload_n 1, 1) := by decide +kernel
theorem dX3_isOnRack_5 : decode cX3_isOnRack 5 = .ok (.invokevirtual 49, 3) := by decide +kernel
theorem dX3_isOnRack_8 : decode cX3_isOnRack 8 = .ok (.bipush 24, 2) := by decide +kernel
theorem dX3_isOnRack_10 : decode cX3_isOnRack 10 = .ok (.if_icmp .ge 7, 3) := by decide +kernel
theorem dX3_isOnRack_13 : decode cX3_isOnRack 13 = .ok (.iconst 1, 1) := by decide +kernel
theorem dX3_isOnRack_14 : decode cX3_isOnRack 14 = .ok (.goto 4, 3) := by decide +kernel
theorem dX3_isOnRack_17 : decode cX3_isOnRack 17 = .ok (.iconst 0, 1) := by decide +kernel
theorem dX3_isOnRack_18 : decode cX3_isOnRack 18 = .ok (.ireturn, 1) := by decide +kernel
set_option maxRecDepth 20000 in
theorem ggX3_isBesideKiln_X4_at : GoodIn wsX3_isBesideKiln wsX4_at := goodIn_r _ [6, 7, 17] (by decide +kernel) (by decide +kernel)
set_option maxRecDepth 20000 in
theorem gX3_isBesideKiln_X4_at : GoodIn wsX3_isBesideKiln (wsV RX3 49 RX4 yX4_at wsX4_at) := goodIn_app (goodIn_of _ (by decide +kernel)) ggX3_isBesideKiln_X4_at
theorem dX3_isBesideKiln_0 : decode cX3_isBesideKiln 0 = .ok (.aload_n 0, 1) := by decide +kernel
theorem dX3_isBesideKiln_1 : decode cX3_isBesideKiln 1 = .ok (.getfield 29, 3) := by decide +kernel
theorem dX3_isBesideKiln_4 : decode cX3_isBesideKiln 4 = .ok (.iload_n 1, 1) := by decide +kernel
theorem dX3_isBesideKiln_5 : decode cX3_isBesideKiln 5 = .ok (.invokevirtual 49, 3) := by decide +kernel
theorem dX3_isBesideKiln_8 : decode cX3_isBesideKiln 8 = .ok (.bipush 8, 2) := by decide +kernel
theorem dX3_isBesideKiln_10 : decode cX3_isBesideKiln 10 = .ok (.if_icmp .ge 7, 3) := by decide +kernel
theorem dX3_isBesideKiln_13 : decode cX3_isBesideKiln 13 = .ok (.iconst 1, 1) := by decide +kernel
theorem dX3_isBesideKiln_14 : decode cX3_isBesideKiln 14 = .ok (.goto 4, 3) := by decide +kernel
theorem dX3_isBesideKiln_17 : decode cX3_isBesideKiln 17 = .ok (.iconst 0, 1) := by decide +kernel
theorem dX3_isBesideKiln_18 : decode cX3_isBesideKiln 18 = .ok (.ireturn, 1) := by decide +kernel
set_option maxRecDepth 20000 in
theorem ggX3_isInKiln_X4_at : GoodIn wsX3_isInKiln wsX4_at := goodIn_r _ [6, 7, 17] (by decide +kernel) (by decide +kernel)
set_option maxRecDepth 20000 in
theorem gX3_isInKiln_X4_at : GoodIn wsX3_isInKiln (wsV RX3 49 RX4 yX4_at wsX4_at) := goodIn_app (goodIn_of _ (by decide +kernel)) ggX3_isInKiln_X4_at
theorem dX3_isInKiln_0 : decode cX3_isInKiln 0 = .ok (.aload_n 0, 1) := by decide +kernel
theorem dX3_isInKiln_1 : decode cX3_isInKiln 1 = .ok (.getfield 29, 3) := by decide +kernel
theorem dX3_isInKiln_4 : decode cX3_isInKiln 4 = .ok (.iload_n 1, 1) := by decide +kernel
theorem dX3_isInKiln_5 : decode cX3_isInKiln 5 = .ok (.invokevirtual 49, 3) := by decide +kernel
theorem dX3_isInKiln_8 : decode cX3_isInKiln 8 = .ok (.bipush 24, 2) := by decide +kernel
theorem dX3_isInKiln_10 : decode cX3_isInKiln 10 = .ok (.if_icmp .ne 7, 3) := by decide +kernel
theorem dX3_isInKiln_13 : decode cX3_isInKiln 13 = .ok (.iconst 1, 1) := by decide +kernel
theorem dX3_isInKiln_14 : decode cX3_isInKiln 14 = .ok (.goto 4, 3) := by decide +kernel
theorem dX3_isInKiln_17 : decode cX3_isInKiln 17 = .ok (.iconst 0, 1) := by decide +kernel
theorem dX3_isInKiln_18 : decode cX3_isInKiln 18 = .ok (.ireturn, 1) := by decide +kernel
set_option maxRecDepth 20000 in
theorem ggX3_addClay_X4_write : GoodIn wsX3_addClay wsX4_write := goodIn_r _ [12, 13, 37] (by decide +kernel) (by decide +kernel)
set_option maxRecDepth 20000 in
theorem gX3_addClay_X4_write : GoodIn wsX3_addClay (wsV RX3 53 RX4 yX4_write wsX4_write) := goodIn_app (goodIn_of _ (by decide +kernel)) ggX3_addClay_X4_write
set_option maxRecDepth 20000 in
theorem ggX3_addClay_X3_putOnRack : GoodIn wsX3_addClay wsX3_putOnRack := goodIn_r _ [18, 19, 20, 21, 22, 17, 23, 1, 24, 25, 26, 11, 27, 13, 8, 9, 10, 12, 28, 29, 30, 31, 32, 33, 34, 35, 36, 37] (by decide +kernel) (by decide +kernel)
set_option maxRecDepth 20000 in
theorem gX3_addClay_X3_putOnRack : GoodIn wsX3_addClay (wsV RX3 57 RX3 yX3_putOnRack wsX3_putOnRack) := goodIn_app (goodIn_of _ (by decide +kernel)) ggX3_addClay_X3_putOnRack
theorem dX3_addClay_0 : decode cX3_addClay 0 = .ok (.aload_n 0, 1) := by decide +kernel
theorem dX3_addClay_1 : decode cX3_addClay 1 = .ok (.getfield 45, 3) := by decide +kernel
theorem dX3_addClay_4 : decode cX3_addClay 4 = .ok (.istore 4, 2) := by decide +kernel
theorem dX3_addClay_6 : decode cX3_addClay 6 = .ok (.aload_n 0, 1) := by decide +kernel
theorem dX3_addClay_7 : decode cX3_addClay 7 = .ok (.getfield 14, 3) := by decide +kernel
theorem dX3_addClay_10 : decode cX3_addClay 10 = .ok (.iload 4, 2) := by decide +kernel
theorem dX3_addClay_12 : decode cX3_addClay 12 = .ok (.iload_n 1, 1) := by decide +kernel
theorem dX3_addClay_13 : decode cX3_addClay 13 = .ok (.invokevirtual 53, 3) := by decide +kernel
theorem dX3_addClay_16 : decode cX3_addClay 16 = .ok (.aload_n 0, 1) := by decide +kernel
theorem dX3_addClay_17 : decode cX3_addClay 17 = .ok (.getfield 20, 3) := by decide +kernel
theorem dX3_addClay_20 : decode cX3_addClay 20 = .ok (.iload 4, 2) := by decide +kernel
theorem dX3_addClay_22 : decode cX3_addClay 22 = .ok (.iload_n 2, 1) := by decide +kernel
theorem dX3_addClay_23 : decode cX3_addClay 23 = .ok (.invokevirtual 53, 3) := by decide +kernel
theorem dX3_addClay_26 : decode cX3_addClay 26 = .ok (.aload_n 0, 1) := by decide +kernel
theorem dX3_addClay_27 : decode cX3_addClay 27 = .ok (.getfield 23, 3) := by decide +kernel
theorem dX3_addClay_30 : decode cX3_addClay 30 = .ok (.iload 4, 2) := by decide +kernel
theorem dX3_addClay_32 : decode cX3_addClay 32 = .ok (.iload_n 3, 1) := by decide +kernel
theorem dX3_addClay_33 : decode cX3_addClay 33 = .ok (.invokevirtual 53, 3) := by decide +kernel
theorem dX3_addClay_36 : decode cX3_addClay 36 = .ok (.aload_n 0, 1) := by decide +kernel
theorem dX3_addClay_37 : decode cX3_addClay 37 = .ok (.getfield 26, 3) := by decide +kernel
theorem dX3_addClay_40 : decode cX3_addClay 40 = .ok (.iload 4, 2) := by decide +kernel
theorem dX3_addClay_42 : decode cX3_addClay 42 = .ok (.iconst 0, 1) := by decide +kernel
theorem dX3_addClay_43 : decode cX3_addClay 43 = .ok (.invokevirtual 53, 3) := by decide +kernel
theorem dX3_addClay_46 : decode cX3_addClay 46 = .ok (.aload_n 0, 1) := by decide +kernel
theorem dX3_addClay_47 : decode cX3_addClay 47 = .ok (.getfield 32, 3) := by decide +kernel
theorem dX3_addClay_50 : decode cX3_addClay 50 = .ok (.iload 4, 2) := by decide +kernel
theorem dX3_addClay_52 : decode cX3_addClay 52 = .ok (.iconst 0, 1) := by decide +kernel
theorem dX3_addClay_53 : decode cX3_addClay 53 = .ok (.invokevirtual 53, 3) := by decide +kernel
theorem dX3_addClay_56 : decode cX3_addClay 56 = .ok (.aload_n 0, 1) := by decide +kernel
theorem dX3_addClay_57 : decode cX3_addClay 57 = .ok (.getfield 38, 3) := by decide +kernel
theorem dX3_addClay_60 : decode cX3_addClay 60 = .ok (.iload 4, 2) := by decide +kernel
theorem dX3_addClay_62 : decode cX3_addClay 62 = .ok (.iconst 0, 1) := by decide +kernel
theorem dX3_addClay_63 : decode cX3_addClay 63 = .ok (.invokevirtual 53, 3) := by decide +kernel
theorem dX3_addClay_66 : decode cX3_addClay 66 = .ok (.aload_n 0, 1) := by decide +kernel
theorem dX3_addClay_67 : decode cX3_addClay 67 = .ok (.iload 4, 2) := by decide +kernel
theorem dX3_addClay_69 : decode cX3_addClay 69 = .ok (.invokevirtual 57, 3) := by decide +kernel
theorem dX3_addClay_72 : decode cX3_addClay 72 = .ok (.aload_n 0, 1) := by decide +kernel
theorem dX3_addClay_73 : decode cX3_addClay 73 = .ok (.dup, 1) := by decide +kernel
theorem dX3_addClay_74 : decode cX3_addClay 74 = .ok (.getfield 45, 3) := by decide +kernel
theorem dX3_addClay_77 : decode cX3_addClay 77 = .ok (.iconst 1, 1) := by decide +kernel
theorem dX3_addClay_78 : decode cX3_addClay 78 = .ok (.iadd, 1) := by decide +kernel
theorem dX3_addClay_79 : decode cX3_addClay 79 = .ok (.putfield 45, 3) := by decide +kernel
theorem dX3_addClay_82 : decode cX3_addClay 82 = .ok (.iload 4, 2) := by decide +kernel
theorem dX3_addClay_84 : decode cX3_addClay 84 = .ok (.ireturn, 1) := by decide +kernel
set_option maxRecDepth 20000 in
theorem ggX3_putOnRack_X3_placesTaken : GoodIn wsX3_putOnRack wsX3_placesTaken := goodIn_r _ [6, 7, 1, 8, 9, 10, 11, 12, 13, 18, 19, 20, 21, 22, 23, 24, 25, 26, 27] (by decide +kernel) (by decide +kernel)
set_option maxRecDepth 20000 in
theorem gX3_putOnRack_X3_placesTaken : GoodIn wsX3_putOnRack (wsV RX3 60 RX3 yX3_placesTaken wsX3_placesTaken) := goodIn_app (goodIn_of _ (by decide +kernel)) ggX3_putOnRack_X3_placesTaken
set_option maxRecDepth 20000 in
theorem ggX3_putOnRack_X4_write : GoodIn wsX3_putOnRack wsX4_write := goodIn_r _ [17, 13, 27] (by decide +kernel) (by decide +kernel)
set_option maxRecDepth 20000 in
theorem gX3_putOnRack_X4_write : GoodIn wsX3_putOnRack (wsV RX3 53 RX4 yX4_write wsX4_write) := goodIn_app (goodIn_of _ (by decide +kernel)) ggX3_putOnRack_X4_write
theorem dX3_putOnRack_0 : decode cX3_putOnRack 0 = .ok (.aload_n 0, 1) := by decide +kernel
theorem dX3_putOnRack_1 : decode cX3_putOnRack 1 = .ok (.invokevirtual 60, 3) := by decide +kernel
theorem dX3_putOnRack_4 : decode cX3_putOnRack 4 = .ok (.istore_n 2, 1) := by decide +kernel
theorem dX3_putOnRack_5 : decode cX3_putOnRack 5 = .ok (.iconst 0, 1) := by decide +kernel
theorem dX3_putOnRack_6 : decode cX3_putOnRack 6 = .ok (.istore_n 3, 1) := by decide +kernel
theorem dX3_putOnRack_7 : decode cX3_putOnRack 7 = .ok (.iload_n 3, 1) := by decide +kernel
theorem dX3_putOnRack_8 : decode cX3_putOnRack 8 = .ok (.bipush 23, 2) := by decide +kernel
theorem dX3_putOnRack_10 : decode cX3_putOnRack 10 = .ok (.if_icmp .ge 17, 3) := by decide +kernel
theorem dX3_putOnRack_13 : decode cX3_putOnRack 13 = .ok (.iload_n 2, 1) := by decide +kernel
theorem dX3_putOnRack_14 : decode cX3_putOnRack 14 = .ok (.iload_n 3, 1) := by decide +kernel
theorem dX3_putOnRack_15 : decode cX3_putOnRack 15 = .ok (.ishr, 1) := by decide +kernel
theorem dX3_putOnRack_16 : decode cX3_putOnRack 16 = .ok (.iconst 1, 1) := by decide +kernel
theorem dX3_putOnRack_17 : decode cX3_putOnRack 17 = .ok (.iand, 1) := by decide +kernel
theorem dX3_putOnRack_18 : decode cX3_putOnRack 18 = .ok (.ifCond .eq 9, 3) := by decide +kernel
theorem dX3_putOnRack_21 : decode cX3_putOnRack 21 = .ok (.iinc 3 1, 3) := by decide +kernel
theorem dX3_putOnRack_24 : decode cX3_putOnRack 24 = .ok (.goto (-17), 3) := by decide +kernel
theorem dX3_putOnRack_27 : decode cX3_putOnRack 27 = .ok (.aload_n 0, 1) := by decide +kernel
theorem dX3_putOnRack_28 : decode cX3_putOnRack 28 = .ok (.getfield 29, 3) := by decide +kernel
theorem dX3_putOnRack_31 : decode cX3_putOnRack 31 = .ok (.iload_n 1, 1) := by decide +kernel
theorem dX3_putOnRack_32 : decode cX3_putOnRack 32 = .ok (.iload_n 3, 1) := by decide +kernel
theorem dX3_putOnRack_33 : decode cX3_putOnRack 33 = .ok (.invokevirtual 53, 3) := by decide +kernel
theorem dX3_putOnRack_36 : decode cX3_putOnRack 36 = .ok (.return_, 1) := by decide +kernel
set_option maxRecDepth 20000 in
theorem ggX3_placesTaken_X4_at : GoodIn wsX3_placesTaken wsX4_at := goodIn_r _ [7, 8, 18] (by decide +kernel) (by decide +kernel)
set_option maxRecDepth 20000 in
theorem gX3_placesTaken_X4_at : GoodIn wsX3_placesTaken (wsV RX3 49 RX4 yX4_at wsX4_at) := goodIn_app (goodIn_of _ (by decide +kernel)) ggX3_placesTaken_X4_at
theorem dX3_placesTaken_0 : decode cX3_placesTaken 0 = .ok (.iconst 0, 1) := by decide +kernel
theorem dX3_placesTaken_1 : decode cX3_placesTaken 1 = .ok (.istore_n 1, 1) := by decide +kernel
theorem dX3_placesTaken_2 : decode cX3_placesTaken 2 = .ok (.iconst 0, 1) := by decide +kernel
theorem dX3_placesTaken_3 : decode cX3_placesTaken 3 = .ok (.istore_n 2, 1) := by decide +kernel
theorem dX3_placesTaken_4 : decode cX3_placesTaken 4 = .ok (.iload_n 2, 1) := by decide +kernel
theorem dX3_placesTaken_5 : decode cX3_placesTaken 5 = .ok (.aload_n 0, 1) := by decide +kernel
theorem dX3_placesTaken_6 : decode cX3_placesTaken 6 = .ok (.getfield 45, 3) := by decide +kernel
theorem dX3_placesTaken_9 : decode cX3_placesTaken 9 = .ok (.if_icmp .ge 30, 3) := by decide +kernel
theorem dX3_placesTaken_12 : decode cX3_placesTaken 12 = .ok (.aload_n 0, 1) := by decide +kernel
theorem dX3_placesTaken_13 : decode cX3_placesTaken 13 = .ok (.getfield 29, 3) := by decide +kernel
theorem dX3_placesTaken_16 : decode cX3_placesTaken 16 = .ok (.iload_n 2, 1) := by decide +kernel
theorem dX3_placesTaken_17 : decode cX3_placesTaken 17 = .ok (.invokevirtual 49, 3) := by decide +kernel
theorem dX3_placesTaken_20 : decode cX3_placesTaken 20 = .ok (.istore_n 3, 1) := by decide +kernel
theorem dX3_placesTaken_21 : decode cX3_placesTaken 21 = .ok (.iload_n 3, 1) := by decide +kernel
theorem dX3_placesTaken_22 : decode cX3_placesTaken 22 = .ok (.bipush 24, 2) := by decide +kernel
theorem dX3_placesTaken_24 : decode cX3_placesTaken 24 = .ok (.if_icmp .ge 9, 3) := by decide +kernel
theorem dX3_placesTaken_27 : decode cX3_placesTaken 27 = .ok (.iload_n 1, 1) := by decide +kernel
theorem dX3_placesTaken_28 : decode cX3_placesTaken 28 = .ok (.iconst 1, 1) := by decide +kernel
theorem dX3_placesTaken_29 : decode cX3_placesTaken 29 = .ok (.iload_n 3, 1) := by decide +kernel
theorem dX3_placesTaken_30 : decode cX3_placesTaken 30 = .ok (.ishl, 1) := by decide +kernel
theorem dX3_placesTaken_31 : decode cX3_placesTaken 31 = .ok (.ior, 1) := by decide +kernel
theorem dX3_placesTaken_32 : decode cX3_placesTaken 32 = .ok (.istore_n 1, 1) := by decide +kernel
theorem dX3_placesTaken_33 : decode cX3_placesTaken 33 = .ok (.iinc 2 1, 3) := by decide +kernel
theorem dX3_placesTaken_36 : decode cX3_placesTaken 36 = .ok (.goto (-32), 3) := by decide +kernel
theorem dX3_placesTaken_39 : decode cX3_placesTaken 39 = .ok (.iload_n 1, 1) := by decide +kernel
theorem dX3_placesTaken_40 : decode cX3_placesTaken 40 = .ok (.ireturn, 1) := by decide +kernel
set_option maxRecDepth 20000 in
theorem ggX3_freePlaces_X3_placesTaken : GoodIn wsX3_freePlaces wsX3_placesTaken := goodIn_r _ [5, 6, 7, 8, 9, 10, 11, 12, 13, 21, 22, 23, 24, 25, 26, 27, 28, 29, 30] (by decide +kernel) (by decide +kernel)
set_option maxRecDepth 20000 in
theorem gX3_freePlaces_X3_placesTaken : GoodIn wsX3_freePlaces (wsV RX3 60 RX3 yX3_placesTaken wsX3_placesTaken) := goodIn_app (goodIn_of _ (by decide +kernel)) ggX3_freePlaces_X3_placesTaken
set_option maxRecDepth 20000 in
theorem ggX3_freePlaces_J6_bitCount_0f7a4 : GoodIn wsX3_freePlaces wsJ6_bitCount_0f7a4 := goodIn_r _ [17, 18, 19, 20] (by decide +kernel) (by decide +kernel)
set_option maxRecDepth 20000 in
theorem gX3_freePlaces_J6_bitCount_0f7a4 : GoodIn wsX3_freePlaces (va_wsS RX3 64 yJ6_bitCount_0f7a4 wsJ6_bitCount_0f7a4) := goodIn_app (goodIn_of _ (by decide +kernel)) ggX3_freePlaces_J6_bitCount_0f7a4
theorem dX3_freePlaces_0 : decode cX3_freePlaces 0 = .ok (.bipush 24, 2) := by decide +kernel
theorem dX3_freePlaces_2 : decode cX3_freePlaces 2 = .ok (.aload_n 0, 1) := by decide +kernel
theorem dX3_freePlaces_3 : decode cX3_freePlaces 3 = .ok (.invokevirtual 60, 3) := by decide +kernel
theorem dX3_freePlaces_6 : decode cX3_freePlaces 6 = .ok (.invokestatic 64, 3) := by decide +kernel
theorem dX3_freePlaces_9 : decode cX3_freePlaces 9 = .ok (.isub, 1) := by decide +kernel
theorem dX3_freePlaces_10 : decode cX3_freePlaces 10 = .ok (.ireturn, 1) := by decide +kernel
set_option maxRecDepth 20000 in
theorem ggX3_onRacks_X3_isOnRack : GoodIn wsX3_onRacks wsX3_isOnRack := goodIn_r _ [6, 7, 8, 9, 10, 11, 12, 13, 14, 15, 16, 17, 18, 19, 20, 21, 22, 23] (by decide +kernel) (by decide +kernel)
set_option maxRecDepth 20000 in
theorem gX3_onRacks_X3_isOnRack : GoodIn wsX3_onRacks (wsV RX3 69 RX3 yX3_isOnRack wsX3_isOnRack) := goodIn_app (goodIn_of _ (by decide +kernel)) ggX3_onRacks_X3_isOnRack
theorem dX3_onRacks_0 : decode cX3_onRacks 0 = .ok (.iconst 0, 1) := by decide +kernel
theorem dX3_onRacks_1 : decode cX3_onRacks 1 = .ok (.istore_n 1, 1) := by decide +kernel
theorem dX3_onRacks_2 : decode cX3_onRacks 2 = .ok (.iconst 0, 1) := by decide +kernel
theorem dX3_onRacks_3 : decode cX3_onRacks 3 = .ok (.istore_n 2, 1) := by decide +kernel
theorem dX3_onRacks_4 : decode cX3_onRacks 4 = .ok (.iload_n 2, 1) := by decide +kernel
theorem dX3_onRacks_5 : decode cX3_onRacks 5 = .ok (.aload_n 0, 1) := by decide +kernel
theorem dX3_onRacks_6 : decode cX3_onRacks 6 = .ok (.getfield 45, 3) := by decide +kernel
theorem dX3_onRacks_9 : decode cX3_onRacks 9 = .ok (.if_icmp .ge 23, 3) := by decide +kernel
theorem dX3_onRacks_12 : decode cX3_onRacks 12 = .ok (.aload_n 0, 1) := by decide +kernel
theorem dX3_onRacks_13 : decode cX3_onRacks 13 = .ok (.iload_n 2, 1) := by decide +kernel
theorem dX3_onRacks_14 : decode cX3_onRacks 14 = .ok (.invokevirtual 69, 3) := by decide +kernel
theorem dX3_onRacks_17 : decode cX3_onRacks 17 = .ok (.ifCond .eq 9, 3) := by decide +kernel
theorem dX3_onRacks_20 : decode cX3_onRacks 20 = .ok (.iload_n 1, 1) := by decide +kernel
theorem dX3_onRacks_21 : decode cX3_onRacks 21 = .ok (.iconst 1, 1) := by decide +kernel
theorem dX3_onRacks_22 : decode cX3_onRacks 22 = .ok (.iload_n 2, 1) := by decide +kernel
theorem dX3_onRacks_23 : decode cX3_onRacks 23 = .ok (.ishl, 1) := by decide +kernel
theorem dX3_onRacks_24 : decode cX3_onRacks 24 = .ok (.ior, 1) := by decide +kernel
theorem dX3_onRacks_25 : decode cX3_onRacks 25 = .ok (.istore_n 1, 1) := by decide +kernel
theorem dX3_onRacks_26 : decode cX3_onRacks 26 = .ok (.iinc 2 1, 3) := by decide +kernel
theorem dX3_onRacks_29 : decode cX3_onRacks 29 = .ok (.goto (-25), 3) := by decide +kernel
theorem dX3_onRacks_32 : decode cX3_onRacks 32 = .ok (.iload_n 1, 1) := by decide +kernel
theorem dX3_onRacks_33 : decode cX3_onRacks 33 = .ok (.ireturn, 1) := by decide +kernel
set_option maxRecDepth 20000 in
theorem ggX3_inKiln_X4_indexesOf : GoodIn wsX3_inKiln wsX4_indexesOf := goodIn_r _ [7, 8, 18] (by decide +kernel) (by decide +kernel)
set_option maxRecDepth 20000 in
theorem gX3_inKiln_X4_indexesOf : GoodIn wsX3_inKiln (wsV RX3 73 RX4 yX4_indexesOf wsX4_indexesOf) := goodIn_app (goodIn_of _ (by decide +kernel)) ggX3_inKiln_X4_indexesOf
theorem dX3_inKiln_0 : decode cX3_inKiln 0 = .ok (.aload_n 0, 1) := by decide +kernel
theorem dX3_inKiln_1 : decode cX3_inKiln 1 = .ok (.getfield 29, 3) := by decide +kernel
theorem dX3_inKiln_4 : decode cX3_inKiln 4 = .ok (.bipush 24, 2) := by decide +kernel
theorem dX3_inKiln_6 : decode cX3_inKiln 6 = .ok (.aload_n 0, 1) := by decide +kernel
theorem dX3_inKiln_7 : decode cX3_inKiln 7 = .ok (.getfield 45, 3) := by decide +kernel
theorem dX3_inKiln_10 : decode cX3_inKiln 10 = .ok (.invokevirtual 73, 3) := by decide +kernel
theorem dX3_inKiln_13 : decode cX3_inKiln 13 = .ok (.ireturn, 1) := by decide +kernel
set_option maxRecDepth 20000 in
theorem ggX3_thrownBy_X4_indexesOf : GoodIn wsX3_thrownBy wsX4_indexesOf := goodIn_r _ [7, 8, 18] (by decide +kernel) (by decide +kernel)
set_option maxRecDepth 20000 in
theorem gX3_thrownBy_X4_indexesOf : GoodIn wsX3_thrownBy (wsV RX3 73 RX4 yX4_indexesOf wsX4_indexesOf) := goodIn_app (goodIn_of _ (by decide +kernel)) ggX3_thrownBy_X4_indexesOf
theorem dX3_thrownBy_0 : decode cX3_thrownBy 0 = .ok (.aload_n 0, 1) := by decide +kernel
theorem dX3_thrownBy_1 : decode cX3_thrownBy 1 = .ok (.getfield 14, 3) := by decide +kernel
theorem dX3_thrownBy_4 : decode cX3_thrownBy 4 = .ok (.iload_n 1, 1) := by decide +kernel
theorem dX3_thrownBy_5 : decode cX3_thrownBy 5 = .ok (.aload_n 0, 1) := by decide +kernel
theorem dX3_thrownBy_6 : decode cX3_thrownBy 6 = .ok (.getfield 45, 3) := by decide +kernel
theorem dX3_thrownBy_9 : decode cX3_thrownBy 9 = .ok (.invokevirtual 73, 3) := by decide +kernel
theorem dX3_thrownBy_12 : decode cX3_thrownBy 12 = .ok (.ireturn, 1) := by decide +kernel
set_option maxRecDepth 20000 in
theorem ggX3_ofKind_X4_indexesOf : GoodIn wsX3_ofKind wsX4_indexesOf := goodIn_r _ [7, 8, 18] (by decide +kernel) (by decide +kernel)
set_option maxRecDepth 20000 in
theorem gX3_ofKind_X4_indexesOf : GoodIn wsX3_ofKind (wsV RX3 73 RX4 yX4_indexesOf wsX4_indexesOf) := goodIn_app (goodIn_of _ (by decide +kernel)) ggX3_ofKind_X4_indexesOf
theorem dX3_ofKind_0 : decode cX3_ofKind 0 = .ok (.aload_n 0, 1) := by decide +kernel
theorem dX3_ofKind_1 : decode cX3_ofKind 1 = .ok (.getfield 26, 3) := by decide +kernel
theorem dX3_ofKind_4 : decode cX3_ofKind 4 = .ok (.iload_n 1, 1) := by decide +kernel
theorem dX3_ofKind_5 : decode cX3_ofKind 5 = .ok (.aload_n 0, 1) := by decide +kernel
theorem dX3_ofKind_6 : decode cX3_ofKind 6 = .ok (.getfield 45, 3) := by decide +kernel
theorem dX3_ofKind_9 : decode cX3_ofKind 9 = .ok (.invokevirtual 73, 3) := by decide +kernel
theorem dX3_ofKind_12 : decode cX3_ofKind 12 = .ok (.ireturn, 1) := by decide +kernel
set_option maxRecDepth 20000 in
theorem ggX3_sizesInKiln_X3_isInKiln : GoodIn wsX3_sizesInKiln wsX3_isInKiln := goodIn_r _ [7, 8, 9, 10, 11, 12, 13, 14, 15, 16, 17, 18, 19, 20, 21, 22, 23, 24] (by decide +kernel) (by decide +kernel)
set_option maxRecDepth 20000 in
theorem gX3_sizesInKiln_X3_isInKiln : GoodIn wsX3_sizesInKiln (wsV RX3 77 RX3 yX3_isInKiln wsX3_isInKiln) := goodIn_app (goodIn_of _ (by decide +kernel)) ggX3_sizesInKiln_X3_isInKiln
set_option maxRecDepth 20000 in
theorem ggX3_sizesInKiln_X4_at : GoodIn wsX3_sizesInKiln wsX4_at := goodIn_r _ [13, 14, 24] (by decide +kernel) (by decide +kernel)
set_option maxRecDepth 20000 in
theorem gX3_sizesInKiln_X4_at : GoodIn wsX3_sizesInKiln (wsV RX3 49 RX4 yX4_at wsX4_at) := goodIn_app (goodIn_of _ (by decide +kernel)) ggX3_sizesInKiln_X4_at
theorem dX3_sizesInKiln_0 : decode cX3_sizesInKiln 0 = .ok (.iconst 0, 1) := by decide +kernel
theorem dX3_sizesInKiln_1 : decode cX3_sizesInKiln 1 = .ok (.istore_n 1, 1) := by decide +kernel
theorem dX3_sizesInKiln_2 : decode cX3_sizesInKiln 2 = .ok (.iconst 0, 1) := by decide +kernel
theorem dX3_sizesInKiln_3 : decode cX3_sizesInKiln 3 = .ok (.istore_n 2, 1) := by decide +kernel
theorem dX3_sizesInKiln_4 : decode cX3_sizesInKiln 4 = .ok (.iload_n 2, 1) := by decide +kernel
theorem dX3_sizesInKiln_5 : decode cX3_sizesInKiln 5 = .ok (.aload_n 0, 1) := by decide +kernel
theorem dX3_sizesInKiln_6 : decode cX3_sizesInKiln 6 = .ok (.getfield 45, 3) := by decide +kernel
theorem dX3_sizesInKiln_9 : decode cX3_sizesInKiln 9 = .ok (.if_icmp .ge 28, 3) := by decide +kernel
theorem dX3_sizesInKiln_12 : decode cX3_sizesInKiln 12 = .ok (.aload_n 0, 1) := by decide +kernel
theorem dX3_sizesInKiln_13 : decode cX3_sizesInKiln 13 = .ok (.iload_n 2, 1) := by decide +kernel
theorem dX3_sizesInKiln_14 : decode cX3_sizesInKiln 14 = .ok (.invokevirtual 77, 3) := by decide +kernel
theorem dX3_sizesInKiln_17 : decode cX3_sizesInKiln 17 = .ok (.ifCond .eq 14, 3) := by decide +kernel
theorem dX3_sizesInKiln_20 : decode cX3_sizesInKiln 20 = .ok (.iload_n 1, 1) := by decide +kernel
theorem dX3_sizesInKiln_21 : decode cX3_sizesInKiln 21 = .ok (.aload_n 0, 1) := by decide +kernel
theorem dX3_sizesInKiln_22 : decode cX3_sizesInKiln 22 = .ok (.getfield 20, 3) := by decide +kernel
theorem dX3_sizesInKiln_25 : decode cX3_sizesInKiln 25 = .ok (.iload_n 2, 1) := by decide +kernel
theorem dX3_sizesInKiln_26 : decode cX3_sizesInKiln 26 = .ok (.invokevirtual 49, 3) := by decide +kernel
theorem dX3_sizesInKiln_29 : decode cX3_sizesInKiln 29 = .ok (.iadd, 1) := by decide +kernel
theorem dX3_sizesInKiln_30 : decode cX3_sizesInKiln 30 = .ok (.istore_n 1, 1) := by decide +kernel
theorem dX3_sizesInKiln_31 : decode cX3_sizesInKiln 31 = .ok (.iinc 2 1, 3) := by decide +kernel
theorem dX3_sizesInKiln_34 : decode cX3_sizesInKiln 34 = .ok (.goto (-30), 3) := by decide +kernel
theorem dX3_sizesInKiln_37 : decode cX3_sizesInKiln 37 = .ok (.iload_n 1, 1) := by decide +kernel
theorem dX3_sizesInKiln_38 : decode cX3_sizesInKiln 38 = .ok (.ireturn, 1) := by decide +kernel
set_option maxRecDepth 20000 in
theorem ggX3_isKilnForOtherThan_X3_inKiln : GoodIn wsX3_isKilnForOtherThan wsX3_inKiln := goodIn_r _ [5, 6, 7, 8, 9, 10, 11, 12, 13, 19, 20, 21, 22, 23, 24, 25, 26, 27, 28] (by decide +kernel) (by decide +kernel)
set_option maxRecDepth 20000 in
theorem gX3_isKilnForOtherThan_X3_inKiln : GoodIn wsX3_isKilnForOtherThan (wsV RX3 80 RX3 yX3_inKiln wsX3_inKiln) := goodIn_app (goodIn_of _ (by decide +kernel)) ggX3_isKilnForOtherThan_X3_inKiln
set_option maxRecDepth 20000 in
theorem ggX3_isKilnForOtherThan_X3_ofKind : GoodIn wsX3_isKilnForOtherThan wsX3_ofKind := goodIn_r _ [17, 18, 7, 8, 9, 10, 11, 12, 13, 19, 20, 21, 22, 23, 24, 25, 26, 27, 28] (by decide +kernel) (by decide +kernel)
set_option maxRecDepth 20000 in
theorem gX3_isKilnForOtherThan_X3_ofKind : GoodIn wsX3_isKilnForOtherThan (wsV RX3 83 RX3 yX3_ofKind wsX3_ofKind) := goodIn_app (goodIn_of _ (by decide +kernel)) ggX3_isKilnForOtherThan_X3_ofKind
theorem dX3_isKilnForOtherThan_0 : decode cX3_isKilnForOtherThan 0 = .ok (.aload_n 0, 1) := by decide +kernel
theorem dX3_isKilnForOtherThan_1 : decode cX3_isKilnForOtherThan 1 = .ok (.invokevirtual 80, 3) := by decide +kernel
theorem dX3_isKilnForOtherThan_4 : decode cX3_isKilnForOtherThan 4 = .ok (.aload_n 0, 1) := by decide +kernel
theorem dX3_isKilnForOtherThan_5 : decode cX3_isKilnForOtherThan 5 = .ok (.iload_n 1, 1) := by decide +kernel
theorem dX3_isKilnForOtherThan_6 : decode cX3_isKilnForOtherThan 6 = .ok (.invokevirtual 83, 3) := by decide +kernel
theorem dX3_isKilnForOtherThan_9 : decode cX3_isKilnForOtherThan 9 = .ok (.iconst (-1), 1) := by decide +kernel
theorem dX3_isKilnForOtherThan_10 : decode cX3_isKilnForOtherThan 10 = .ok (.ixor, 1) := by decide +kernel
theorem dX3_isKilnForOtherThan_11 : decode cX3_isKilnForOtherThan 11 = .ok (.iand, 1) := by decide +kernel
theorem dX3_isKilnForOtherThan_12 : decode cX3_isKilnForOtherThan 12 = .ok (.ifCond .eq 7, 3) := by decide +kernel
theorem dX3_isKilnForOtherThan_15 : decode cX3_isKilnForOtherThan 15 = .ok (.iconst 1, 1) := by decide +kernel
theorem dX3_isKilnForOtherThan_16 : decode cX3_isKilnForOtherThan 16 = .ok (.goto 4, 3) := by decide +kernel
theorem dX3_isKilnForOtherThan_19 : decode cX3_isKilnForOtherThan 19 = .ok (.iconst 0, 1) := by decide +kernel
theorem dX3_isKilnForOtherThan_20 : decode cX3_isKilnForOtherThan 20 = .ok (.ireturn, 1) := by decide +kernel
set_option maxRecDepth 20000 in
theorem ggX3_dryOneNight_X3_isOnRack : GoodIn wsX3_dryOneNight wsX3_isOnRack := goodIn_r _ [7, 8, 9, 10, 11, 12, 13, 14, 33, 34, 35, 36, 37, 38, 39, 40, 41, 42] (by decide +kernel) (by decide +kernel)
set_option maxRecDepth 20000 in
theorem gX3_dryOneNight_X3_isOnRack : GoodIn wsX3_dryOneNight (wsV RX3 69 RX3 yX3_isOnRack wsX3_isOnRack) := goodIn_app (goodIn_of _ (by decide +kernel)) ggX3_dryOneNight_X3_isOnRack
set_option maxRecDepth 20000 in
theorem ggX3_dryOneNight_X3_isKind : GoodIn wsX3_dryOneNight wsX3_isKind := goodIn_r _ [18, 19, 9, 10, 11, 12, 13, 14, 33, 34, 35, 36, 37, 38, 39, 40, 41, 42] (by decide +kernel) (by decide +kernel)
set_option maxRecDepth 20000 in
theorem gX3_dryOneNight_X3_isKind : GoodIn wsX3_dryOneNight (wsV RX3 86 RX3 yX3_isKind wsX3_isKind) := goodIn_app (goodIn_of _ (by decide +kernel)) ggX3_dryOneNight_X3_isKind
set_option maxRecDepth 20000 in
theorem ggX3_dryOneNight_X3_isBesideKiln : GoodIn wsX3_dryOneNight wsX3_isBesideKiln := goodIn_r _ [23, 8, 9, 10, 11, 12, 13, 14, 33, 34, 35, 36, 37, 38, 39, 40, 41, 42] (by decide +kernel) (by decide +kernel)
set_option maxRecDepth 20000 in
theorem gX3_dryOneNight_X3_isBesideKiln : GoodIn wsX3_dryOneNight (wsV RX3 90 RX3 yX3_isBesideKiln wsX3_isBesideKiln) := goodIn_app (goodIn_of _ (by decide +kernel)) ggX3_dryOneNight_X3_isBesideKiln
set_option maxRecDepth 20000 in
theorem ggX3_dryOneNight_X4_add : GoodIn wsX3_dryOneNight wsX4_add := goodIn_r _ [27, 28, 10, 11, 12, 13, 14, 29, 30, 31, 32, 42] (by decide +kernel) (by decide +kernel)
set_option maxRecDepth 20000 in
theorem gX3_dryOneNight_X4_add : GoodIn wsX3_dryOneNight (wsV RX3 93 RX4 yX4_add wsX4_add) := goodIn_app (goodIn_of _ (by decide +kernel)) ggX3_dryOneNight_X4_add
theorem dX3_dryOneNight_0 : decode cX3_dryOneNight 0 = .ok (.iconst 0, 1) := by decide +kernel
theorem dX3_dryOneNight_1 : decode cX3_dryOneNight 1 = .ok (.istore_n 1, 1) := by decide +kernel
theorem dX3_dryOneNight_2 : decode cX3_dryOneNight 2 = .ok (.iload_n 1, 1) := by decide +kernel
theorem dX3_dryOneNight_3 : decode cX3_dryOneNight 3 = .ok (.aload_n 0, 1) := by decide +kernel
theorem dX3_dryOneNight_4 : decode cX3_dryOneNight 4 = .ok (.getfield 45, 3) := by decide +kernel
theorem dX3_dryOneNight_7 : decode cX3_dryOneNight 7 = .ok (.if_icmp .ge 47, 3) := by decide +kernel
theorem dX3_dryOneNight_10 : decode cX3_dryOneNight 10 = .ok (.aload_n 0, 1) := by decide +kernel
theorem dX3_dryOneNight_11 : decode cX3_dryOneNight 11 = .ok (.iload_n 1, 1) := by decide +kernel
theorem dX3_dryOneNight_12 : decode cX3_dryOneNight 12 = .ok (.invokevirtual 69, 3) := by decide +kernel
theorem dX3_dryOneNight_15 : decode cX3_dryOneNight 15 = .ok (.ifCond .eq 33, 3) := by decide +kernel
theorem dX3_dryOneNight_18 : decode cX3_dryOneNight 18 = .ok (.aload_n 0, 1) := by decide +kernel
theorem dX3_dryOneNight_19 : decode cX3_dryOneNight 19 = .ok (.iload_n 1, 1) := by decide +kernel
theorem dX3_dryOneNight_20 : decode cX3_dryOneNight 20 = .ok (.iconst 0, 1) := by decide +kernel
theorem dX3_dryOneNight_21 : decode cX3_dryOneNight 21 = .ok (.invokevirtual 86, 3) := by decide +kernel
theorem dX3_dryOneNight_24 : decode cX3_dryOneNight 24 = .ok (.ifCond .eq 24, 3) := by decide +kernel
theorem dX3_dryOneNight_27 : decode cX3_dryOneNight 27 = .ok (.aload_n 0, 1) := by decide +kernel
theorem dX3_dryOneNight_28 : decode cX3_dryOneNight 28 = .ok (.getfield 32, 3) := by decide +kernel
theorem dX3_dryOneNight_31 : decode cX3_dryOneNight 31 = .ok (.iload_n 1, 1) := by decide +kernel
theorem dX3_dryOneNight_32 : decode cX3_dryOneNight 32 = .ok (.aload_n 0, 1) := by decide +kernel
theorem dX3_dryOneNight_33 : decode cX3_dryOneNight 33 = .ok (.iload_n 1, 1) := by decide +kernel
theorem dX3_dryOneNight_34 : decode cX3_dryOneNight 34 = .ok (.invokevirtual 90, 3) := by decide +kernel
theorem dX3_dryOneNight_37 : decode cX3_dryOneNight 37 = .ok (.ifCond .eq 7, 3) := by decide +kernel
theorem dX3_dryOneNight_40 : decode cX3_dryOneNight 40 = .ok (.iconst 2, 1) := by decide +kernel
theorem dX3_dryOneNight_41 : decode cX3_dryOneNight 41 = .ok (.goto 4, 3) := by decide +kernel
theorem dX3_dryOneNight_44 : decode cX3_dryOneNight 44 = .ok (.iconst 1, 1) := by decide +kernel
theorem dX3_dryOneNight_45 : decode cX3_dryOneNight 45 = .ok (.invokevirtual 93, 3) := by decide +kernel
theorem dX3_dryOneNight_48 : decode cX3_dryOneNight 48 = .ok (.iinc 1 1, 3) := by decide +kernel
theorem dX3_dryOneNight_51 : decode cX3_dryOneNight 51 = .ok (.goto (-49), 3) := by decide +kernel
theorem dX3_dryOneNight_54 : decode cX3_dryOneNight 54 = .ok (.return_, 1) := by decide +kernel
set_option maxRecDepth 20000 in
theorem ggX3_heatOfGlazeOn_X4_at : GoodIn wsX3_heatOfGlazeOn wsX4_at := goodIn_r _ [6, 7, 17] (by decide +kernel) (by decide +kernel)
set_option maxRecDepth 20000 in
theorem gX3_heatOfGlazeOn_X4_at : GoodIn wsX3_heatOfGlazeOn (wsV RX3 49 RX4 yX4_at wsX4_at) := goodIn_app (goodIn_of _ (by decide +kernel)) ggX3_heatOfGlazeOn_X4_at
theorem dX3_heatOfGlazeOn_0 : decode cX3_heatOfGlazeOn 0 = .ok (.bipush 100, 2) := by decide +kernel
theorem dX3_heatOfGlazeOn_2 : decode cX3_heatOfGlazeOn 2 = .ok (.iconst 5, 1) := by decide +kernel
theorem dX3_heatOfGlazeOn_3 : decode cX3_heatOfGlazeOn 3 = .ok (.aload_n 0, 1) := by decide +kernel
theorem dX3_heatOfGlazeOn_4 : decode cX3_heatOfGlazeOn 4 = .ok (.getfield 35, 3) := by decide +kernel
theorem dX3_heatOfGlazeOn_7 : decode cX3_heatOfGlazeOn 7 = .ok (.iload_n 1, 1) := by decide +kernel
theorem dX3_heatOfGlazeOn_8 : decode cX3_heatOfGlazeOn 8 = .ok (.invokevirtual 49, 3) := by decide +kernel
theorem dX3_heatOfGlazeOn_11 : decode cX3_heatOfGlazeOn 11 = .ok (.imul, 1) := by decide +kernel
theorem dX3_heatOfGlazeOn_12 : decode cX3_heatOfGlazeOn 12 = .ok (.iadd, 1) := by decide +kernel
theorem dX3_heatOfGlazeOn_13 : decode cX3_heatOfGlazeOn 13 = .ok (.ireturn, 1) := by decide +kernel
set_option maxRecDepth 20000 in
theorem ggX3_kindFired_X4_at : GoodIn wsX3_kindFired wsX4_at := goodIn_r _ [6, 7, 28] (by decide +kernel) (by decide +kernel)
set_option maxRecDepth 20000 in
theorem gX3_kindFired_X4_at : GoodIn wsX3_kindFired (wsV RX3 49 RX4 yX4_at wsX4_at) := goodIn_app (goodIn_of _ (by decide +kernel)) ggX3_kindFired_X4_at
set_option maxRecDepth 20000 in
theorem ggX3_kindFired_X3_isKind : GoodIn wsX3_kindFired wsX3_isKind := goodIn_r _ [12, 13, 2, 3, 4, 5, 6, 7, 19, 20, 21, 22, 23, 24, 25, 26, 27, 28] (by decide +kernel) (by decide +kernel)
set_option maxRecDepth 20000 in
theorem gX3_kindFired_X3_isKind : GoodIn wsX3_kindFired (wsV RX3 86 RX3 yX3_isKind wsX3_isKind) := goodIn_app (goodIn_of _ (by decide +kernel)) ggX3_kindFired_X3_isKind
set_option maxRecDepth 20000 in
theorem ggX3_kindFired_X3_heatOfGlazeOn : GoodIn wsX3_kindFired wsX3_heatOfGlazeOn := goodIn_r _ [17, 18, 2, 3, 4, 5, 6, 7, 19, 20, 21, 22, 23, 24, 25, 26, 27, 28] (by decide +kernel) (by decide +kernel)
set_option maxRecDepth 20000 in
theorem gX3_kindFired_X3_heatOfGlazeOn : GoodIn wsX3_kindFired (wsV RX3 96 RX3 yX3_heatOfGlazeOn wsX3_heatOfGlazeOn) := goodIn_app (goodIn_of _ (by decide +kernel)) ggX3_kindFired_X3_heatOfGlazeOn
theorem dX3_kindFired_0 : decode cX3_kindFired 0 = .ok (.iload_n 2, 1) := by decide +kernel
theorem dX3_kindFired_1 : decode cX3_kindFired 1 = .ok (.aload_n 0, 1) := by decide +kernel
theorem dX3_kindFired_2 : decode cX3_kindFired 2 = .ok (.getfield 23, 3) := by decide +kernel
theorem dX3_kindFired_5 : decode cX3_kindFired 5 = .ok (.iload_n 1, 1) := by decide +kernel
theorem dX3_kindFired_6 : decode cX3_kindFired 6 = .ok (.invokevirtual 49, 3) := by decide +kernel
theorem dX3_kindFired_9 : decode cX3_kindFired 9 = .ok (.iadd, 1) := by decide +kernel
theorem dX3_kindFired_10 : decode cX3_kindFired 10 = .ok (.iload_n 3, 1) := by decide +kernel
theorem dX3_kindFired_11 : decode cX3_kindFired 11 = .ok (.if_icmp .le 5, 3) := by decide +kernel
theorem dX3_kindFired_14 : decode cX3_kindFired 14 = .ok (.iconst 4, 1) := by decide +kernel
theorem dX3_kindFired_15 : decode cX3_kindFired 15 = .ok (.ireturn, 1) := by decide +kernel
theorem dX3_kindFired_16 : decode cX3_kindFired 16 = .ok (.aload_n 0, 1) := by decide +kernel
theorem dX3_kindFired_17 : decode cX3_kindFired 17 = .ok (.iload_n 1, 1) := by decide +kernel
theorem dX3_kindFired_18 : decode cX3_kindFired 18 = .ok (.iconst 0, 1) := by decide +kernel
theorem dX3_kindFired_19 : decode cX3_kindFired 19 = .ok (.invokevirtual 86, 3) := by decide +kernel
theorem dX3_kindFired_22 : decode cX3_kindFired 22 = .ok (.ifCond .eq 15, 3) := by decide +kernel
theorem dX3_kindFired_25 : decode cX3_kindFired 25 = .ok (.iload_n 2, 1) := by decide +kernel
theorem dX3_kindFired_26 : decode cX3_kindFired 26 = .ok (.bipush 95, 2) := by decide +kernel
theorem dX3_kindFired_28 : decode cX3_kindFired 28 = .ok (.if_icmp .lt 7, 3) := by decide +kernel
theorem dX3_kindFired_31 : decode cX3_kindFired 31 = .ok (.iconst 1, 1) := by decide +kernel
theorem dX3_kindFired_32 : decode cX3_kindFired 32 = .ok (.goto 4, 3) := by decide +kernel
theorem dX3_kindFired_35 : decode cX3_kindFired 35 = .ok (.iconst 0, 1) := by decide +kernel
theorem dX3_kindFired_36 : decode cX3_kindFired 36 = .ok (.ireturn, 1) := by decide +kernel
theorem dX3_kindFired_37 : decode cX3_kindFired 37 = .ok (.iload_n 2, 1) := by decide +kernel
theorem dX3_kindFired_38 : decode cX3_kindFired 38 = .ok (.aload_n 0, 1) := by decide +kernel
theorem dX3_kindFired_39 : decode cX3_kindFired 39 = .ok (.iload_n 1, 1) := by decide +kernel
theorem dX3_kindFired_40 : decode cX3_kindFired 40 = .ok (.invokevirtual 96, 3) := by decide +kernel
theorem dX3_kindFired_43 : decode cX3_kindFired 43 = .ok (.isub, 1) := by decide +kernel
theorem dX3_kindFired_44 : decode cX3_kindFired 44 = .ok (.istore 4, 2) := by decide +kernel
theorem dX3_kindFired_46 : decode cX3_kindFired 46 = .ok (.iload 4, 2) := by decide +kernel
theorem dX3_kindFired_48 : decode cX3_kindFired 48 = .ok (.ifCond .ge 5, 3) := by decide +kernel
theorem dX3_kindFired_51 : decode cX3_kindFired 51 = .ok (.iconst 2, 1) := by decide +kernel
theorem dX3_kindFired_52 : decode cX3_kindFired 52 = .ok (.ireturn, 1) := by decide +kernel
theorem dX3_kindFired_53 : decode cX3_kindFired 53 = .ok (.iload 4, 2) := by decide +kernel
theorem dX3_kindFired_55 : decode cX3_kindFired 55 = .ok (.bipush 10, 2) := by decide +kernel
theorem dX3_kindFired_57 : decode cX3_kindFired 57 = .ok (.if_icmp .gt 7, 3) := by decide +kernel
theorem dX3_kindFired_60 : decode cX3_kindFired 60 = .ok (.iconst 3, 1) := by decide +kernel
theorem dX3_kindFired_61 : decode cX3_kindFired 61 = .ok (.goto 4, 3) := by decide +kernel
theorem dX3_kindFired_64 : decode cX3_kindFired 64 = .ok (.iconst 1, 1) := by decide +kernel
theorem dX3_kindFired_65 : decode cX3_kindFired 65 = .ok (.ireturn, 1) := by decide +kernel
theorem dX4_init_0 : decode cX4_init 0 = .ok (.aload_n 0, 1) := by decide +kernel
theorem dX4_init_1 : decode cX4_init 1 = .ok (.invokespecial 1, 3) := by decide +kernel
theorem dX4_init_4 : decode cX4_init 4 = .ok (.aload_n 0, 1) := by decide +kernel
theorem dX4_init_5 : decode cX4_init 5 = .ok (.iload_n 1, 1) := by decide +kernel
theorem dX4_init_6 : decode cX4_init 6 = .ok (.iconst 0, 1) := by decide +kernel
theorem dX4_init_7 : decode cX4_init 7 = .ok (.invokestatic 7, 3) := by decide +kernel
theorem dX4_init_10 : decode cX4_init 10 = .ok (.newarray .int, 2) := by decide +kernel
theorem dX4_init_12 : decode cX4_init 12 = .ok (.putfield 13, 3) := by decide +kernel
theorem dX4_init_15 : decode cX4_init 15 = .ok (.return_, 1) := by decide +kernel
theorem dX4_at_0 : decode cX4_at 0 = .ok (.iload_n 1, 1) := by decide +kernel
theorem dX4_at_1 : decode cX4_at 1 = .ok (.ifCond .lt 21, 3) := by decide +kernel
theorem dX4_at_4 : decode cX4_at 4 = .ok (.iload_n 1, 1) := by decide +kernel
theorem dX4_at_5 : decode cX4_at 5 = .ok (.aload_n 0, 1) := by decide +kernel
theorem dX4_at_6 : decode cX4_at 6 = .ok (.getfield 13, 3) := by decide +kernel
theorem dX4_at_9 : decode cX4_at 9 = .ok (.arraylength, 1) := by decide +kernel
theorem dX4_at_10 : decode cX4_at 10 = .ok (.if_icmp .ge 12, 3) := by decide +kernel
theorem dX4_at_13 : decode cX4_at 13 = .ok (.aload_n 0, 1) := by decide +kernel
theorem dX4_at_14 : decode cX4_at 14 = .ok (.getfield 13, 3) := by decide +kernel
theorem dX4_at_17 : decode cX4_at 17 = .ok (.iload_n 1, 1) := by decide +kernel
theorem dX4_at_18 : decode cX4_at 18 = .ok (.iaload, 1) := by decide +kernel
theorem dX4_at_19 : decode cX4_at 19 = .ok (.goto 4, 3) := by decide +kernel
theorem dX4_at_22 : decode cX4_at 22 = .ok (.iconst 0, 1) := by decide +kernel
theorem dX4_at_23 : decode cX4_at 23 = .ok (.ireturn, 1) := by decide +kernel
theorem dX4_write_0 : decode cX4_write 0 = .ok (.iload_n 1, 1) := by decide +kernel
theorem dX4_write_1 : decode cX4_write 1 = .ok (.ifCond .lt 19, 3) := by decide +kernel
theorem dX4_write_4 : decode cX4_write 4 = .ok (.iload_n 1, 1) := by decide +kernel
theorem dX4_write_5 : decode cX4_write 5 = .ok (.aload_n 0, 1) := by decide +kernel
theorem dX4_write_6 : decode cX4_write 6 = .ok (.getfield 13, 3) := by decide +kernel
theorem dX4_write_9 : decode cX4_write 9 = .ok (.arraylength, 1) := by decide +kernel
theorem dX4_write_10 : decode cX4_write 10 = .ok (.if_icmp .ge 10, 3) := by decide +kernel
theorem dX4_write_13 : decode cX4_write 13 = .ok (.aload_n 0, 1) := by decide +kernel
theorem dX4_write_14 : decode cX4_write 14 = .ok (.getfield 13, 3) := by decide +kernel
theorem dX4_write_17 : decode cX4_write 17 = .ok (.iload_n 1, 1) := by decide +kernel
theorem dX4_write_18 : decode cX4_write 18 = .ok (.iload_n 2, 1) := by decide +kernel
theorem dX4_write_19 : decode cX4_write 19 = .ok (.iastore, 1) := by decide +kernel
theorem dX4_write_20 : decode cX4_write 20 = .ok (.return_, 1) := by decide +kernel
set_option maxRecDepth 20000 in
theorem ggX4_add_X4_at : GoodIn wsX4_add wsX4_at := goodIn_r _ [5, 6, 11] (by decide +kernel) (by decide +kernel)
set_option maxRecDepth 20000 in
theorem gX4_add_X4_at : GoodIn wsX4_add (wsV RX4 19 RX4 yX4_at wsX4_at) := goodIn_app (goodIn_of _ (by decide +kernel)) ggX4_add_X4_at
set_option maxRecDepth 20000 in
theorem ggX4_add_X4_write : GoodIn wsX4_add wsX4_write := goodIn_r _ [10, 6, 11] (by decide +kernel) (by decide +kernel)
set_option maxRecDepth 20000 in
theorem gX4_add_X4_write : GoodIn wsX4_add (wsV RX4 23 RX4 yX4_write wsX4_write) := goodIn_app (goodIn_of _ (by decide +kernel)) ggX4_add_X4_write
theorem dX4_add_0 : decode cX4_add 0 = .ok (.aload_n 0, 1) := by decide +kernel
theorem dX4_add_1 : decode cX4_add 1 = .ok (.iload_n 1, 1) := by decide +kernel
theorem dX4_add_2 : decode cX4_add 2 = .ok (.aload_n 0, 1) := by decide +kernel
theorem dX4_add_3 : decode cX4_add 3 = .ok (.iload_n 1, 1) := by decide +kernel
theorem dX4_add_4 : decode cX4_add 4 = .ok (.invokevirtual 19, 3) := by decide +kernel
theorem dX4_add_7 : decode cX4_add 7 = .ok (.iload_n 2, 1) := by decide +kernel
theorem dX4_add_8 : decode cX4_add 8 = .ok (.iadd, 1) := by decide +kernel
theorem dX4_add_9 : decode cX4_add 9 = .ok (.invokevirtual 23, 3) := by decide +kernel
theorem dX4_add_12 : decode cX4_add 12 = .ok (.return_, 1) := by decide +kernel
theorem dX4_indexesOf_0 : decode cX4_indexesOf 0 = .ok (.iconst 0, 1) := by decide +kernel
theorem dX4_indexesOf_1 : decode cX4_indexesOf 1 = .ok (.istore_n 3, 1) := by decide +kernel
theorem dX4_indexesOf_2 : decode cX4_indexesOf 2 = .ok (.iconst 0, 1) := by decide +kernel
theorem dX4_indexesOf_3 : decode cX4_indexesOf 3 = .ok (.istore 4, 2) := by decide +kernel
theorem dX4_indexesOf_5 : decode cX4_indexesOf 5 = .ok (.iload 4, 2) := by decide +kernel
theorem dX4_indexesOf_7 : decode cX4_indexesOf 7 = .ok (.iload_n 2, 1) := by decide +kernel
theorem dX4_indexesOf_8 : decode cX4_indexesOf 8 = .ok (.if_icmp .ge 37, 3) := by decide +kernel
theorem dX4_indexesOf_11 : decode cX4_indexesOf 11 = .ok (.iload 4, 2) := by decide +kernel
theorem dX4_indexesOf_13 : decode cX4_indexesOf 13 = .ok (.aload_n 0, 1) := by decide +kernel
theorem dX4_indexesOf_14 : decode cX4_indexesOf 14 = .ok (.getfield 13, 3) := by decide +kernel
theorem dX4_indexesOf_17 : decode cX4_indexesOf 17 = .ok (.arraylength, 1) := by decide +kernel
theorem dX4_indexesOf_18 : decode cX4_indexesOf 18 = .ok (.if_icmp .ge 27, 3) := by decide +kernel
theorem dX4_indexesOf_21 : decode cX4_indexesOf 21 = .ok (.aload_n 0, 1) := by decide +kernel
theorem dX4_indexesOf_22 : decode cX4_indexesOf 22 = .ok (.getfield 13, 3) := by decide +kernel
theorem dX4_indexesOf_25 : decode cX4_indexesOf 25 = .ok (.iload 4, 2) := by decide +kernel
theorem dX4_indexesOf_27 : decode cX4_indexesOf 27 = .ok (.iaload, 1) := by decide +kernel
theorem dX4_indexesOf_28 : decode cX4_indexesOf 28 = .ok (.iload_n 1, 1) := by decide +kernel
theorem dX4_indexesOf_29 : decode cX4_indexesOf 29 = .ok (.if_icmp .ne 10, 3) := by decide +kernel
theorem dX4_indexesOf_32 : decode cX4_indexesOf 32 = .ok (.iload_n 3, 1) := by decide +kernel
theorem dX4_indexesOf_33 : decode cX4_indexesOf 33 = .ok (.iconst 1, 1) := by decide +kernel
theorem dX4_indexesOf_34 : decode cX4_indexesOf 34 = .ok (.iload 4, 2) := by decide +kernel
theorem dX4_indexesOf_36 : decode cX4_indexesOf 36 = .ok (.ishl, 1) := by decide +kernel
theorem dX4_indexesOf_37 : decode cX4_indexesOf 37 = .ok (.ior, 1) := by decide +kernel
theorem dX4_indexesOf_38 : decode cX4_indexesOf 38 = .ok (.istore_n 3, 1) := by decide +kernel
theorem dX4_indexesOf_39 : decode cX4_indexesOf 39 = .ok (.iinc 4 1, 3) := by decide +kernel
theorem dX4_indexesOf_42 : decode cX4_indexesOf 42 = .ok (.goto (-37), 3) := by decide +kernel
theorem dX4_indexesOf_45 : decode cX4_indexesOf 45 = .ok (.iload_n 3, 1) := by decide +kernel
theorem dX4_indexesOf_46 : decode cX4_indexesOf 46 = .ok (.ireturn, 1) := by decide +kernel
theorem dX4_sum_0 : decode cX4_sum 0 = .ok (.iconst 0, 1) := by decide +kernel
theorem dX4_sum_1 : decode cX4_sum 1 = .ok (.istore_n 1, 1) := by decide +kernel
theorem dX4_sum_2 : decode cX4_sum 2 = .ok (.aload_n 0, 1) := by decide +kernel
theorem dX4_sum_3 : decode cX4_sum 3 = .ok (.getfield 13, 3) := by decide +kernel
theorem dX4_sum_6 : decode cX4_sum 6 = .ok (.astore_n 2, 1) := by decide +kernel
theorem dX4_sum_7 : decode cX4_sum 7 = .ok (.aload_n 2, 1) := by decide +kernel
theorem dX4_sum_8 : decode cX4_sum 8 = .ok (.arraylength, 1) := by decide +kernel
theorem dX4_sum_9 : decode cX4_sum 9 = .ok (.istore_n 3, 1) := by decide +kernel
theorem dX4_sum_10 : decode cX4_sum 10 = .ok (.iconst 0, 1) := by decide +kernel
theorem dX4_sum_11 : decode cX4_sum 11 = .ok (.istore 4, 2) := by decide +kernel
theorem dX4_sum_13 : decode cX4_sum 13 = .ok (.iload 4, 2) := by decide +kernel
theorem dX4_sum_15 : decode cX4_sum 15 = .ok (.iload_n 3, 1) := by decide +kernel
theorem dX4_sum_16 : decode cX4_sum 16 = .ok (.if_icmp .ge 20, 3) := by decide +kernel
theorem dX4_sum_19 : decode cX4_sum 19 = .ok (.aload_n 2, 1) := by decide +kernel
theorem dX4_sum_20 : decode cX4_sum 20 = .ok (.iload 4, 2) := by decide +kernel
theorem dX4_sum_22 : decode cX4_sum 22 = .ok (.iaload, 1) := by decide +kernel
theorem dX4_sum_23 : decode cX4_sum 23 = .ok (.istore 5, 2) := by decide +kernel
theorem dX4_sum_25 : decode cX4_sum 25 = .ok (.iload_n 1, 1) := by decide +kernel
theorem dX4_sum_26 : decode cX4_sum 26 = .ok (.iload 5, 2) := by decide +kernel
theorem dX4_sum_28 : decode cX4_sum 28 = .ok (.iadd, 1) := by decide +kernel
theorem dX4_sum_29 : decode cX4_sum 29 = .ok (.istore_n 1, 1) := by decide +kernel
theorem dX4_sum_30 : decode cX4_sum 30 = .ok (.iinc 4 1, 3) := by decide +kernel
theorem dX4_sum_33 : decode cX4_sum 33 = .ok (.goto (-20), 3) := by decide +kernel
theorem dX4_sum_36 : decode cX4_sum 36 = .ok (.iload_n 1, 1) := by decide +kernel
theorem dX4_sum_37 : decode cX4_sum 37 = .ok (.ireturn, 1) := by decide +kernel
theorem dX4_copyFrom_0 : decode cX4_copyFrom 0 = .ok (.aload_n 1, 1) := by decide +kernel
theorem dX4_copyFrom_1 : decode cX4_copyFrom 1 = .ok (.ifnull 29, 3) := by decide +kernel
theorem dX4_copyFrom_4 : decode cX4_copyFrom 4 = .ok (.aload_n 1, 1) := by decide +kernel
theorem dX4_copyFrom_5 : decode cX4_copyFrom 5 = .ok (.getfield 13, 3) := by decide +kernel
theorem dX4_copyFrom_8 : decode cX4_copyFrom 8 = .ok (.iconst 0, 1) := by decide +kernel
theorem dX4_copyFrom_9 : decode cX4_copyFrom 9 = .ok (.aload_n 0, 1) := by decide +kernel
theorem dX4_copyFrom_10 : decode cX4_copyFrom 10 = .ok (.getfield 13, 3) := by decide +kernel
theorem dX4_copyFrom_13 : decode cX4_copyFrom 13 = .ok (.iconst 0, 1) := by decide +kernel
theorem dX4_copyFrom_14 : decode cX4_copyFrom 14 = .ok (.aload_n 0, 1) := by decide +kernel
theorem dX4_copyFrom_15 : decode cX4_copyFrom 15 = .ok (.getfield 13, 3) := by decide +kernel
theorem dX4_copyFrom_18 : decode cX4_copyFrom 18 = .ok (.arraylength, 1) := by decide +kernel
theorem dX4_copyFrom_19 : decode cX4_copyFrom 19 = .ok (.aload_n 1, 1) := by decide +kernel
theorem dX4_copyFrom_20 : decode cX4_copyFrom 20 = .ok (.getfield 13, 3) := by decide +kernel
theorem dX4_copyFrom_23 : decode cX4_copyFrom 23 = .ok (.arraylength, 1) := by decide +kernel
theorem dX4_copyFrom_24 : decode cX4_copyFrom 24 = .ok (.invokestatic 27, 3) := by decide +kernel
theorem dX4_copyFrom_27 : decode cX4_copyFrom 27 = .ok (.invokestatic 30, 3) := by decide +kernel
theorem dX4_copyFrom_30 : decode cX4_copyFrom 30 = .ok (.return_, 1) := by decide +kernel
set_option maxRecDepth 20000 in
theorem ggX5_init_X4_init : GoodIn wsX5_init wsX4_init := goodIn_r _ [21, 22, 2, 3, 23, 24, 25, 26, 27, 28, 52] (by decide +kernel) (by decide +kernel)
set_option maxRecDepth 20000 in
theorem gX5_init_X4_init : GoodIn wsX5_init (wsX4_init) := ggX5_init_X4_init
set_option maxRecDepth 20000 in
theorem ggX5_init_X0_init : GoodIn wsX5_init wsX0_init := goodIn_r _ [30, 31, 2, 3, 32, 5, 6, 33, 34, 20, 21, 22, 23, 24, 25, 26, 27, 28, 52, 61, 62, 63] (by decide +kernel) (by decide +kernel)
set_option maxRecDepth 20000 in
theorem gX5_init_X0_init_n22 : GoodIn wsX5_init (wsX0_init) := ggX5_init_X0_init
set_option maxRecDepth 20000 in
theorem ggX5_init_X3_init : GoodIn wsX5_init wsX3_init := goodIn_r _ [36, 37, 2, 3, 38, 5, 6, 39, 40, 41, 42, 43, 44, 45, 46, 47, 20, 21, 22, 23, 24, 25, 26, 27, 28, 52, 64, 65, 66, 67, 68, 69, 70, 71, 72] (by decide +kernel) (by decide +kernel)
set_option maxRecDepth 20000 in
theorem gX5_init_X3_init_n29 : GoodIn wsX5_init (wsX3_init) := ggX5_init_X3_init
set_option maxRecDepth 20000 in
theorem ggX5_init_X4_write : GoodIn wsX5_init wsX4_write := goodIn_r _ [51, 28, 52] (by decide +kernel) (by decide +kernel)
set_option maxRecDepth 20000 in
theorem gX5_init_X4_write : GoodIn wsX5_init (wsV RX5 44 RX4 yX4_write wsX4_write) := goodIn_app (goodIn_of _ (by decide +kernel)) ggX5_init_X4_write
theorem dX5_init_0 : decode cX5_init 0 = .ok (.aload_n 0, 1) := by decide +kernel
theorem dX5_init_1 : decode cX5_init 1 = .ok (.invokespecial 3, 3) := by decide +kernel
theorem dX5_init_4 : decode cX5_init 4 = .ok (.aload_n 0, 1) := by decide +kernel
theorem dX5_init_5 : decode cX5_init 5 = .ok (.new 9, 3) := by decide +kernel
theorem dX5_init_8 : decode cX5_init 8 = .ok (.dup, 1) := by decide +kernel
theorem dX5_init_9 : decode cX5_init 9 = .ok (.iconst 4, 1) := by decide +kernel
theorem dX5_init_10 : decode cX5_init 10 = .ok (.invokespecial 11, 3) := by decide +kernel
theorem dX5_init_13 : decode cX5_init 13 = .ok (.putfield 14, 3) := by decide +kernel
theorem dX5_init_16 : decode cX5_init 16 = .ok (.aload_n 0, 1) := by decide +kernel
theorem dX5_init_17 : decode cX5_init 17 = .ok (.new 20, 3) := by decide +kernel
theorem dX5_init_20 : decode cX5_init 20 = .ok (.dup, 1) := by decide +kernel
theorem dX5_init_21 : decode cX5_init 21 = .ok (.invokespecial 22, 3) := by decide +kernel
theorem dX5_init_24 : decode cX5_init 24 = .ok (.putfield 23, 3) := by decide +kernel
theorem dX5_init_27 : decode cX5_init 27 = .ok (.aload_n 0, 1) := by decide +kernel
theorem dX5_init_28 : decode cX5_init 28 = .ok (.new 27, 3) := by decide +kernel
theorem dX5_init_31 : decode cX5_init 31 = .ok (.dup, 1) := by decide +kernel
theorem dX5_init_32 : decode cX5_init 32 = .ok (.invokespecial 29, 3) := by decide +kernel
theorem dX5_init_35 : decode cX5_init 35 = .ok (.putfield 30, 3) := by decide +kernel
theorem dX5_init_38 : decode cX5_init 38 = .ok (.aload_n 0, 1) := by decide +kernel
theorem dX5_init_39 : decode cX5_init 39 = .ok (.new 9, 3) := by decide +kernel
theorem dX5_init_42 : decode cX5_init 42 = .ok (.dup, 1) := by decide +kernel
theorem dX5_init_43 : decode cX5_init 43 = .ok (.iconst 4, 1) := by decide +kernel
theorem dX5_init_44 : decode cX5_init 44 = .ok (.invokespecial 11, 3) := by decide +kernel
theorem dX5_init_47 : decode cX5_init 47 = .ok (.putfield 34, 3) := by decide +kernel
theorem dX5_init_50 : decode cX5_init 50 = .ok (.aload_n 0, 1) := by decide +kernel
theorem dX5_init_51 : decode cX5_init 51 = .ok (.new 9, 3) := by decide +kernel
theorem dX5_init_54 : decode cX5_init 54 = .ok (.dup, 1) := by decide +kernel
theorem dX5_init_55 : decode cX5_init 55 = .ok (.bipush 10, 2) := by decide +kernel
theorem dX5_init_57 : decode cX5_init 57 = .ok (.invokespecial 11, 3) := by decide +kernel
theorem dX5_init_60 : decode cX5_init 60 = .ok (.putfield 37, 3) := by decide +kernel
theorem dX5_init_63 : decode cX5_init 63 = .ok (.aload_n 0, 1) := by decide +kernel
theorem dX5_init_64 : decode cX5_init 64 = .ok (.iconst 1, 1) := by decide +kernel
theorem dX5_init_65 : decode cX5_init 65 = .ok (.putfield 40, 3) := by decide +kernel
theorem dX5_init_68 : decode cX5_init 68 = .ok (.aload_n 0, 1) := by decide +kernel
theorem dX5_init_69 : decode cX5_init 69 = .ok (.getfield 14, 3) := by decide +kernel
theorem dX5_init_72 : decode cX5_init 72 = .ok (.iconst 0, 1) := by decide +kernel
theorem dX5_init_73 : decode cX5_init 73 = .ok (.iconst 2, 1) := by decide +kernel
theorem dX5_init_74 : decode cX5_init 74 = .ok (.invokevirtual 44, 3) := by decide +kernel
theorem dX5_init_77 : decode cX5_init 77 = .ok (.aload_n 0, 1) := by decide +kernel
theorem dX5_init_78 : decode cX5_init 78 = .ok (.getfield 14, 3) := by decide +kernel
theorem dX5_init_81 : decode cX5_init 81 = .ok (.iconst 1, 1) := by decide +kernel
theorem dX5_init_82 : decode cX5_init 82 = .ok (.bipush 8, 2) := by decide +kernel
theorem dX5_init_84 : decode cX5_init 84 = .ok (.invokevirtual 44, 3) := by decide +kernel
theorem dX5_init_87 : decode cX5_init 87 = .ok (.aload_n 0, 1) := by decide +kernel
theorem dX5_init_88 : decode cX5_init 88 = .ok (.getfield 14, 3) := by decide +kernel
theorem dX5_init_91 : decode cX5_init 91 = .ok (.iconst 2, 1) := by decide +kernel
theorem dX5_init_92 : decode cX5_init 92 = .ok (.bipush 120, 2) := by decide +kernel
theorem dX5_init_94 : decode cX5_init 94 = .ok (.invokevirtual 44, 3) := by decide +kernel
theorem dX5_init_97 : decode cX5_init 97 = .ok (.aload_n 0, 1) := by decide +kernel
theorem dX5_init_98 : decode cX5_init 98 = .ok (.getfield 14, 3) := by decide +kernel
theorem dX5_init_101 : decode cX5_init 101 = .ok (.iconst 3, 1) := by decide +kernel
theorem dX5_init_102 : decode cX5_init 102 = .ok (.iconst 3, 1) := by decide +kernel
theorem dX5_init_103 : decode cX5_init 103 = .ok (.invokevirtual 44, 3) := by decide +kernel
theorem dX5_init_106 : decode cX5_init 106 = .ok (.iconst 0, 1) := by decide +kernel
theorem dX5_init_107 : decode cX5_init 107 = .ok (.istore_n 1, 1) := by decide +kernel
theorem dX5_init_108 : decode cX5_init 108 = .ok (.iload_n 1, 1) := by decide +kernel
theorem dX5_init_109 : decode cX5_init 109 = .ok (.iconst 4, 1) := by decide +kernel
theorem dX5_init_110 : decode cX5_init 110 = .ok (.if_icmp .ge 19, 3) := by decide +kernel
theorem dX5_init_113 : decode cX5_init 113 = .ok (.aload_n 0, 1) := by decide +kernel
theorem dX5_init_114 : decode cX5_init 114 = .ok (.getfield 34, 3) := by decide +kernel
theorem dX5_init_117 : decode cX5_init 117 = .ok (.iload_n 1, 1) := by decide +kernel
theorem dX5_init_118 : decode cX5_init 118 = .ok (.bipush 20, 2) := by decide +kernel
theorem dX5_init_120 : decode cX5_init 120 = .ok (.invokevirtual 44, 3) := by decide +kernel
theorem dX5_init_123 : decode cX5_init 123 = .ok (.iinc 1 1, 3) := by decide +kernel
theorem dX5_init_126 : decode cX5_init 126 = .ok (.goto (-18), 3) := by decide +kernel
theorem dX5_init_129 : decode cX5_init 129 = .ok (.return_, 1) := by decide +kernel
set_option maxRecDepth 20000 in
theorem ggX5_copyFrom_X4_copyFrom : GoodIn wsX5_copyFrom wsX4_copyFrom := goodIn_r _ [13, 14, 15, 16, 17, 18, 19, 20, 21, 22, 55] (by decide +kernel) (by decide +kernel)
set_option maxRecDepth 20000 in
theorem gX5_copyFrom_X4_copyFrom : GoodIn wsX5_copyFrom (wsV RX5 48 RX4 yX4_copyFrom wsX4_copyFrom) := goodIn_app (goodIn_of _ (by decide +kernel)) ggX5_copyFrom_X4_copyFrom
set_option maxRecDepth 20000 in
theorem ggX5_copyFrom_X0_copyFrom : GoodIn wsX5_copyFrom wsX0_copyFrom := goodIn_r _ [27, 28, 29, 30, 31, 10, 11, 12, 13, 14, 15, 16, 17, 18, 19, 20, 21, 22, 56, 57, 58, 55] (by decide +kernel) (by decide +kernel)
set_option maxRecDepth 20000 in
theorem gX5_copyFrom_X0_copyFrom : GoodIn wsX5_copyFrom (wsV RX5 52 RX0 yX0_copyFrom wsX0_copyFrom) := goodIn_app (goodIn_of _ (by decide +kernel)) ggX5_copyFrom_X0_copyFrom
set_option maxRecDepth 20000 in
theorem ggX5_copyFrom_X3_copyFrom : GoodIn wsX5_copyFrom wsX3_copyFrom := goodIn_r _ [36, 37, 38, 39, 40, 41, 42, 43, 44, 45, 46, 10, 11, 12, 13, 14, 15, 16, 17, 18, 19, 20, 21, 22, 59, 60, 61, 62, 63, 64, 65, 66, 67, 55] (by decide +kernel) (by decide +kernel)
set_option maxRecDepth 20000 in
theorem gX5_copyFrom_X3_copyFrom : GoodIn wsX5_copyFrom (wsV RX5 55 RX3 yX3_copyFrom wsX3_copyFrom) := goodIn_app (goodIn_of _ (by decide +kernel)) ggX5_copyFrom_X3_copyFrom
theorem dX5_copyFrom_0 : decode cX5_copyFrom 0 = .ok (.aload_n 1, 1) := by decide +kernel
theorem dX5_copyFrom_1 : decode cX5_copyFrom 1 = .ok (.ifnonnull 4, 3) := by decide +kernel
theorem dX5_copyFrom_4 : decode cX5_copyFrom 4 = .ok (.return_, 1) := by decide +kernel
theorem dX5_copyFrom_5 : decode cX5_copyFrom 5 = .ok (.aload_n 0, 1) := by decide +kernel
theorem dX5_copyFrom_6 : decode cX5_copyFrom 6 = .ok (.getfield 14, 3) := by decide +kernel
theorem dX5_copyFrom_9 : decode cX5_copyFrom 9 = .ok (.aload_n 1, 1) := by decide +kernel
theorem dX5_copyFrom_10 : decode cX5_copyFrom 10 = .ok (.getfield 14, 3) := by decide +kernel
theorem dX5_copyFrom_13 : decode cX5_copyFrom 13 = .ok (.invokevirtual 48, 3) := by decide +kernel
theorem dX5_copyFrom_16 : decode cX5_copyFrom 16 = .ok (.aload_n 0, 1) := by decide +kernel
theorem dX5_copyFrom_17 : decode cX5_copyFrom 17 = .ok (.getfield 23, 3) := by decide +kernel
theorem dX5_copyFrom_20 : decode cX5_copyFrom 20 = .ok (.aload_n 1, 1) := by decide +kernel
theorem dX5_copyFrom_21 : decode cX5_copyFrom 21 = .ok (.getfield 23, 3) := by decide +kernel
theorem dX5_copyFrom_24 : decode cX5_copyFrom 24 = .ok (.invokevirtual 52, 3) := by decide +kernel
theorem dX5_copyFrom_27 : decode cX5_copyFrom 27 = .ok (.aload_n 0, 1) := by decide +kernel
theorem dX5_copyFrom_28 : decode cX5_copyFrom 28 = .ok (.getfield 30, 3) := by decide +kernel
theorem dX5_copyFrom_31 : decode cX5_copyFrom 31 = .ok (.aload_n 1, 1) := by decide +kernel
theorem dX5_copyFrom_32 : decode cX5_copyFrom 32 = .ok (.getfield 30, 3) := by decide +kernel
theorem dX5_copyFrom_35 : decode cX5_copyFrom 35 = .ok (.invokevirtual 55, 3) := by decide +kernel
theorem dX5_copyFrom_38 : decode cX5_copyFrom 38 = .ok (.aload_n 0, 1) := by decide +kernel
theorem dX5_copyFrom_39 : decode cX5_copyFrom 39 = .ok (.getfield 34, 3) := by decide +kernel
theorem dX5_copyFrom_42 : decode cX5_copyFrom 42 = .ok (.aload_n 1, 1) := by decide +kernel
theorem dX5_copyFrom_43 : decode cX5_copyFrom 43 = .ok (.getfield 34, 3) := by decide +kernel
theorem dX5_copyFrom_46 : decode cX5_copyFrom 46 = .ok (.invokevirtual 48, 3) := by decide +kernel
theorem dX5_copyFrom_49 : decode cX5_copyFrom 49 = .ok (.aload_n 0, 1) := by decide +kernel
theorem dX5_copyFrom_50 : decode cX5_copyFrom 50 = .ok (.getfield 37, 3) := by decide +kernel
theorem dX5_copyFrom_53 : decode cX5_copyFrom 53 = .ok (.aload_n 1, 1) := by decide +kernel
theorem dX5_copyFrom_54 : decode cX5_copyFrom 54 = .ok (.getfield 37, 3) := by decide +kernel
theorem dX5_copyFrom_57 : decode cX5_copyFrom 57 = .ok (.invokevirtual 48, 3) := by decide +kernel
theorem dX5_copyFrom_60 : decode cX5_copyFrom 60 = .ok (.aload_n 0, 1) := by decide +kernel
theorem dX5_copyFrom_61 : decode cX5_copyFrom 61 = .ok (.aload_n 1, 1) := by decide +kernel
theorem dX5_copyFrom_62 : decode cX5_copyFrom 62 = .ok (.getfield 58, 3) := by decide +kernel
theorem dX5_copyFrom_65 : decode cX5_copyFrom 65 = .ok (.putfield 58, 3) := by decide +kernel
theorem dX5_copyFrom_68 : decode cX5_copyFrom 68 = .ok (.aload_n 0, 1) := by decide +kernel
theorem dX5_copyFrom_69 : decode cX5_copyFrom 69 = .ok (.aload_n 1, 1) := by decide +kernel
theorem dX5_copyFrom_70 : decode cX5_copyFrom 70 = .ok (.getfield 40, 3) := by decide +kernel
theorem dX5_copyFrom_73 : decode cX5_copyFrom 73 = .ok (.putfield 40, 3) := by decide +kernel
theorem dX5_copyFrom_76 : decode cX5_copyFrom 76 = .ok (.aload_n 0, 1) := by decide +kernel
theorem dX5_copyFrom_77 : decode cX5_copyFrom 77 = .ok (.aload_n 1, 1) := by decide +kernel
theorem dX5_copyFrom_78 : decode cX5_copyFrom 78 = .ok (.getfield 61, 3) := by decide +kernel
theorem dX5_copyFrom_81 : decode cX5_copyFrom 81 = .ok (.putfield 61, 3) := by decide +kernel
theorem dX5_copyFrom_84 : decode cX5_copyFrom 84 = .ok (.return_, 1) := by decide +kernel
theorem dX5_potsSoFar_0 : decode cX5_potsSoFar 0 = .ok (.aload_n 0, 1) := by decide +kernel
theorem dX5_potsSoFar_1 : decode cX5_potsSoFar 1 = .ok (.getfield 30, 3) := by decide +kernel
theorem dX5_potsSoFar_4 : decode cX5_potsSoFar 4 = .ok (.getfield 64, 3) := by decide +kernel
theorem dX5_potsSoFar_7 : decode cX5_potsSoFar 7 = .ok (.ireturn, 1) := by decide +kernel
theorem dX5_hasPupil_0 : decode cX5_hasPupil 0 = .ok (.iload_n 1, 1) := by decide +kernel
theorem dX5_hasPupil_1 : decode cX5_hasPupil 1 = .ok (.ifCond .lt 15, 3) := by decide +kernel
theorem dX5_hasPupil_4 : decode cX5_hasPupil 4 = .ok (.iload_n 1, 1) := by decide +kernel
theorem dX5_hasPupil_5 : decode cX5_hasPupil 5 = .ok (.aload_n 0, 1) := by decide +kernel
theorem dX5_hasPupil_6 : decode cX5_hasPupil 6 = .ok (.getfield 58, 3) := by decide +kernel
theorem dX5_hasPupil_9 : decode cX5_hasPupil 9 = .ok (.if_icmp .ge 7, 3) := by decide +kernel
theorem dX5_hasPupil_12 : decode cX5_hasPupil 12 = .ok (.iconst 1, 1) := by decide +kernel
theorem dX5_hasPupil_13 : decode cX5_hasPupil 13 = .ok (.goto 4, 3) := by decide +kernel
theorem dX5_hasPupil_16 : decode cX5_hasPupil 16 = .ok (.iconst 0, 1) := by decide +kernel
theorem dX5_hasPupil_17 : decode cX5_hasPupil 17 = .ok (.ireturn, 1) := by decide +kernel
set_option maxRecDepth 20000 in
theorem ggX5_isInRange_X6_isWithin : GoodIn wsX5_isInRange wsX6_isWithin := goodIn_r _ [3] (by decide +kernel) (by decide +kernel)
set_option maxRecDepth 20000 in
theorem gX5_isInRange_X6_isWithin_n67 : GoodIn wsX5_isInRange (wsX6_isWithin) := ggX5_isInRange_X6_isWithin
theorem dX5_isInRange_0 : decode cX5_isInRange 0 = .ok (.iload_n 0, 1) := by decide +kernel
theorem dX5_isInRange_1 : decode cX5_isInRange 1 = .ok (.tableswitch 65 0 3 #[31, 39, 47, 57], 31) := by decide +kernel
theorem dX5_isInRange_32 : decode cX5_isInRange 32 = .ok (.iload_n 1, 1) := by decide +kernel
theorem dX5_isInRange_33 : decode cX5_isInRange 33 = .ok (.iconst 1, 1) := by decide +kernel
theorem dX5_isInRange_34 : decode cX5_isInRange 34 = .ok (.bipush 9, 2) := by decide +kernel
theorem dX5_isInRange_36 : decode cX5_isInRange 36 = .ok (.invokestatic 67, 3) := by decide +kernel
theorem dX5_isInRange_39 : decode cX5_isInRange 39 = .ok (.ireturn, 1) := by decide +kernel
theorem dX5_isInRange_40 : decode cX5_isInRange 40 = .ok (.iload_n 1, 1) := by decide +kernel
theorem dX5_isInRange_41 : decode cX5_isInRange 41 = .ok (.iconst 3, 1) := by decide +kernel
theorem dX5_isInRange_42 : decode cX5_isInRange 42 = .ok (.bipush 24, 2) := by decide +kernel
theorem dX5_isInRange_44 : decode cX5_isInRange 44 = .ok (.invokestatic 67, 3) := by decide +kernel
theorem dX5_isInRange_47 : decode cX5_isInRange 47 = .ok (.ireturn, 1) := by decide +kernel
theorem dX5_isInRange_48 : decode cX5_isInRange 48 = .ok (.iload_n 1, 1) := by decide +kernel
theorem dX5_isInRange_49 : decode cX5_isInRange 49 = .ok (.bipush 100, 2) := by decide +kernel
theorem dX5_isInRange_51 : decode cX5_isInRange 51 = .ok (.sipush 140, 3) := by decide +kernel
theorem dX5_isInRange_54 : decode cX5_isInRange 54 = .ok (.invokestatic 67, 3) := by decide +kernel
theorem dX5_isInRange_57 : decode cX5_isInRange 57 = .ok (.ireturn, 1) := by decide +kernel
theorem dX5_isInRange_58 : decode cX5_isInRange 58 = .ok (.iload_n 1, 1) := by decide +kernel
theorem dX5_isInRange_59 : decode cX5_isInRange 59 = .ok (.iconst 0, 1) := by decide +kernel
theorem dX5_isInRange_60 : decode cX5_isInRange 60 = .ok (.bipush 20, 2) := by decide +kernel
theorem dX5_isInRange_62 : decode cX5_isInRange 62 = .ok (.invokestatic 67, 3) := by decide +kernel
theorem dX5_isInRange_65 : decode cX5_isInRange 65 = .ok (.ireturn, 1) := by decide +kernel
theorem dX5_isInRange_66 : decode cX5_isInRange 66 = .ok (.iconst 0, 1) := by decide +kernel
theorem dX5_isInRange_67 : decode cX5_isInRange 67 = .ok (.ireturn, 1) := by decide +kernel
set_option maxRecDepth 20000 in
theorem ggX5_changeSetting_X5_isInRange : GoodIn wsX5_changeSetting wsX5_isInRange := goodIn_r _ [5, 6, 7, 8] (by decide +kernel) (by decide +kernel)
set_option maxRecDepth 20000 in
theorem gX5_changeSetting_X5_isInRange : GoodIn wsX5_changeSetting (va_wsS RX5 71 yX5_isInRange wsX5_isInRange) := goodIn_app (goodIn_of _ (by decide +kernel)) ggX5_changeSetting_X5_isInRange
set_option maxRecDepth 20000 in
theorem ggX5_changeSetting_X4_at : GoodIn wsX5_changeSetting wsX4_at := goodIn_r _ [13, 14, 27] (by decide +kernel) (by decide +kernel)
set_option maxRecDepth 20000 in
theorem gX5_changeSetting_X4_at : GoodIn wsX5_changeSetting (wsV RX5 75 RX4 yX4_at wsX4_at) := goodIn_app (goodIn_of _ (by decide +kernel)) ggX5_changeSetting_X4_at
set_option maxRecDepth 20000 in
theorem ggX5_changeSetting_X4_write : GoodIn wsX5_changeSetting wsX4_write := goodIn_r _ [18, 14, 27] (by decide +kernel) (by decide +kernel)
set_option maxRecDepth 20000 in
theorem gX5_changeSetting_X4_write : GoodIn wsX5_changeSetting (wsV RX5 44 RX4 yX4_write wsX4_write) := goodIn_app (goodIn_of _ (by decide +kernel)) ggX5_changeSetting_X4_write
theorem dX5_changeSetting_0 : decode cX5_changeSetting 0 = .ok (.iload_n 1, 1) := by decide +kernel
theorem dX5_changeSetting_1 : decode cX5_changeSetting 1 = .ok (.iload_n 2, 1) := by decide +kernel
theorem dX5_changeSetting_2 : decode cX5_changeSetting 2 = .ok (.invokestatic 71, 3) := by decide +kernel
theorem dX5_changeSetting_5 : decode cX5_changeSetting 5 = .ok (.ifCond .ne 6, 3) := by decide +kernel
theorem dX5_changeSetting_8 : decode cX5_changeSetting 8 = .ok (.bipush (-2), 2) := by decide +kernel
theorem dX5_changeSetting_10 : decode cX5_changeSetting 10 = .ok (.ireturn, 1) := by decide +kernel
theorem dX5_changeSetting_11 : decode cX5_changeSetting 11 = .ok (.aload_n 0, 1) := by decide +kernel
theorem dX5_changeSetting_12 : decode cX5_changeSetting 12 = .ok (.getfield 14, 3) := by decide +kernel
theorem dX5_changeSetting_15 : decode cX5_changeSetting 15 = .ok (.iload_n 1, 1) := by decide +kernel
theorem dX5_changeSetting_16 : decode cX5_changeSetting 16 = .ok (.invokevirtual 75, 3) := by decide +kernel
theorem dX5_changeSetting_19 : decode cX5_changeSetting 19 = .ok (.istore_n 3, 1) := by decide +kernel
theorem dX5_changeSetting_20 : decode cX5_changeSetting 20 = .ok (.aload_n 0, 1) := by decide +kernel
theorem dX5_changeSetting_21 : decode cX5_changeSetting 21 = .ok (.getfield 14, 3) := by decide +kernel
theorem dX5_changeSetting_24 : decode cX5_changeSetting 24 = .ok (.iload_n 1, 1) := by decide +kernel
theorem dX5_changeSetting_25 : decode cX5_changeSetting 25 = .ok (.iload_n 2, 1) := by decide +kernel
theorem dX5_changeSetting_26 : decode cX5_changeSetting 26 = .ok (.invokevirtual 44, 3) := by decide +kernel
theorem dX5_changeSetting_29 : decode cX5_changeSetting 29 = .ok (.iload_n 3, 1) := by decide +kernel
theorem dX5_changeSetting_30 : decode cX5_changeSetting 30 = .ok (.ireturn, 1) := by decide +kernel
theorem dX5_admitPupil_0 : decode cX5_admitPupil 0 = .ok (.aload_n 0, 1) := by decide +kernel
theorem dX5_admitPupil_1 : decode cX5_admitPupil 1 = .ok (.getfield 58, 3) := by decide +kernel
theorem dX5_admitPupil_4 : decode cX5_admitPupil 4 = .ok (.bipush 10, 2) := by decide +kernel
theorem dX5_admitPupil_6 : decode cX5_admitPupil 6 = .ok (.if_icmp .lt 6, 3) := by decide +kernel
theorem dX5_admitPupil_9 : decode cX5_admitPupil 9 = .ok (.bipush (-4), 2) := by decide +kernel
theorem dX5_admitPupil_11 : decode cX5_admitPupil 11 = .ok (.ireturn, 1) := by decide +kernel
theorem dX5_admitPupil_12 : decode cX5_admitPupil 12 = .ok (.aload_n 0, 1) := by decide +kernel
theorem dX5_admitPupil_13 : decode cX5_admitPupil 13 = .ok (.dup, 1) := by decide +kernel
theorem dX5_admitPupil_14 : decode cX5_admitPupil 14 = .ok (.getfield 58, 3) := by decide +kernel
theorem dX5_admitPupil_17 : decode cX5_admitPupil 17 = .ok (.dup_x1, 1) := by decide +kernel
theorem dX5_admitPupil_18 : decode cX5_admitPupil 18 = .ok (.iconst 1, 1) := by decide +kernel
theorem dX5_admitPupil_19 : decode cX5_admitPupil 19 = .ok (.iadd, 1) := by decide +kernel
theorem dX5_admitPupil_20 : decode cX5_admitPupil 20 = .ok (.putfield 58, 3) := by decide +kernel
theorem dX5_admitPupil_23 : decode cX5_admitPupil 23 = .ok (.ireturn, 1) := by decide +kernel
set_option maxRecDepth 20000 in
theorem ggX5_bookWheel_X5_hasPupil : GoodIn wsX5_bookWheel wsX5_hasPupil := goodIn_r _ [6, 7, 46, 47, 48, 49, 50, 51, 52, 53] (by decide +kernel) (by decide +kernel)
set_option maxRecDepth 20000 in
theorem gX5_bookWheel_X5_hasPupil : GoodIn wsX5_bookWheel (wsV RX5 79 RX5 yX5_hasPupil wsX5_hasPupil) := goodIn_app (goodIn_of _ (by decide +kernel)) ggX5_bookWheel_X5_hasPupil
set_option maxRecDepth 20000 in
theorem ggX5_bookWheel_X6_isWheel : GoodIn wsX5_bookWheel wsX6_isWheel := goodIn_r _ [10, 11, 12, 9, 13] (by decide +kernel) (by decide +kernel)
set_option maxRecDepth 20000 in
theorem gX5_bookWheel_X6_isWheel_n83 : GoodIn wsX5_bookWheel (wsX6_isWheel) := ggX5_bookWheel_X6_isWheel
set_option maxRecDepth 20000 in
theorem ggX5_bookWheel_X6_isAhead : GoodIn wsX5_bookWheel wsX6_isAhead := goodIn_r _ [15, 11, 12, 9, 13] (by decide +kernel) (by decide +kernel)
set_option maxRecDepth 20000 in
theorem gX5_bookWheel_X6_isAhead_n86 : GoodIn wsX5_bookWheel (wsX6_isAhead) := ggX5_bookWheel_X6_isAhead
set_option maxRecDepth 20000 in
theorem ggX5_bookWheel_X0_bookerOf : GoodIn wsX5_bookWheel wsX0_bookerOf := goodIn_r _ [20, 21, 22, 23, 24, 19, 25, 26, 27, 28, 29, 30, 31, 32, 54, 55, 56, 57] (by decide +kernel) (by decide +kernel)
set_option maxRecDepth 20000 in
theorem gX5_bookWheel_X0_bookerOf : GoodIn wsX5_bookWheel (wsV RX5 89 RX0 yX0_bookerOf wsX0_bookerOf) := goodIn_app (goodIn_of _ (by decide +kernel)) ggX5_bookWheel_X0_bookerOf
set_option maxRecDepth 20000 in
theorem ggX5_bookWheel_X0_wheelOf : GoodIn wsX5_bookWheel wsX0_wheelOf := goodIn_r _ [36, 37, 17, 18, 19, 20, 21, 22, 23, 24, 25, 26, 27, 28, 29, 30, 31, 32, 54, 55, 56, 57] (by decide +kernel) (by decide +kernel)
set_option maxRecDepth 20000 in
theorem gX5_bookWheel_X0_wheelOf : GoodIn wsX5_bookWheel (wsV RX5 93 RX0 yX0_wheelOf wsX0_wheelOf) := goodIn_app (goodIn_of _ (by decide +kernel)) ggX5_bookWheel_X0_wheelOf
set_option maxRecDepth 20000 in
theorem ggX5_bookWheel_X0_enter : GoodIn wsX5_bookWheel wsX0_enter := goodIn_r _ [41, 21, 22, 23, 24, 19, 25, 26, 42, 43, 44, 30, 45, 32, 54, 55, 56, 57] (by decide +kernel) (by decide +kernel)
set_option maxRecDepth 20000 in
theorem gX5_bookWheel_X0_enter : GoodIn wsX5_bookWheel (wsV RX5 96 RX0 yX0_enter wsX0_enter) := goodIn_app (goodIn_of _ (by decide +kernel)) ggX5_bookWheel_X0_enter
theorem dX5_bookWheel_0 : decode cX5_bookWheel 0 = .ok (.aload_n 0, 1) := by decide +kernel
theorem dX5_bookWheel_1 : decode cX5_bookWheel 1 = .ok (.iload_n 1, 1) := by decide +kernel
theorem dX5_bookWheel_2 : decode cX5_bookWheel 2 = .ok (.invokevirtual 79, 3) := by decide +kernel
theorem dX5_bookWheel_5 : decode cX5_bookWheel 5 = .ok (.ifCond .eq 10, 3) := by decide +kernel
theorem dX5_bookWheel_8 : decode cX5_bookWheel 8 = .ok (.iload_n 2, 1) := by decide +kernel
theorem dX5_bookWheel_9 : decode cX5_bookWheel 9 = .ok (.invokestatic 83, 3) := by decide +kernel
theorem dX5_bookWheel_12 : decode cX5_bookWheel 12 = .ok (.ifCond .ne 5, 3) := by decide +kernel
theorem dX5_bookWheel_15 : decode cX5_bookWheel 15 = .ok (.iconst (-1), 1) := by decide +kernel
theorem dX5_bookWheel_16 : decode cX5_bookWheel 16 = .ok (.ireturn, 1) := by decide +kernel
theorem dX5_bookWheel_17 : decode cX5_bookWheel 17 = .ok (.iload_n 3, 1) := by decide +kernel
theorem dX5_bookWheel_18 : decode cX5_bookWheel 18 = .ok (.invokestatic 86, 3) := by decide +kernel
theorem dX5_bookWheel_21 : decode cX5_bookWheel 21 = .ok (.ifCond .ne 6, 3) := by decide +kernel
theorem dX5_bookWheel_24 : decode cX5_bookWheel 24 = .ok (.bipush (-2), 2) := by decide +kernel
theorem dX5_bookWheel_26 : decode cX5_bookWheel 26 = .ok (.ireturn, 1) := by decide +kernel
theorem dX5_bookWheel_27 : decode cX5_bookWheel 27 = .ok (.aload_n 0, 1) := by decide +kernel
theorem dX5_bookWheel_28 : decode cX5_bookWheel 28 = .ok (.getfield 23, 3) := by decide +kernel
theorem dX5_bookWheel_31 : decode cX5_bookWheel 31 = .ok (.iload_n 2, 1) := by decide +kernel
theorem dX5_bookWheel_32 : decode cX5_bookWheel 32 = .ok (.iload_n 3, 1) := by decide +kernel
theorem dX5_bookWheel_33 : decode cX5_bookWheel 33 = .ok (.invokevirtual 89, 3) := by decide +kernel
theorem dX5_bookWheel_36 : decode cX5_bookWheel 36 = .ok (.bipush (-6), 2) := by decide +kernel
theorem dX5_bookWheel_38 : decode cX5_bookWheel 38 = .ok (.if_icmp .ne 17, 3) := by decide +kernel
theorem dX5_bookWheel_41 : decode cX5_bookWheel 41 = .ok (.aload_n 0, 1) := by decide +kernel
theorem dX5_bookWheel_42 : decode cX5_bookWheel 42 = .ok (.getfield 23, 3) := by decide +kernel
theorem dX5_bookWheel_45 : decode cX5_bookWheel 45 = .ok (.iload_n 1, 1) := by decide +kernel
theorem dX5_bookWheel_46 : decode cX5_bookWheel 46 = .ok (.iload_n 3, 1) := by decide +kernel
theorem dX5_bookWheel_47 : decode cX5_bookWheel 47 = .ok (.invokevirtual 93, 3) := by decide +kernel
theorem dX5_bookWheel_50 : decode cX5_bookWheel 50 = .ok (.bipush (-6), 2) := by decide +kernel
theorem dX5_bookWheel_52 : decode cX5_bookWheel 52 = .ok (.if_icmp .eq 6, 3) := by decide +kernel
theorem dX5_bookWheel_55 : decode cX5_bookWheel 55 = .ok (.bipush (-5), 2) := by decide +kernel
theorem dX5_bookWheel_57 : decode cX5_bookWheel 57 = .ok (.ireturn, 1) := by decide +kernel
theorem dX5_bookWheel_58 : decode cX5_bookWheel 58 = .ok (.aload_n 0, 1) := by decide +kernel
theorem dX5_bookWheel_59 : decode cX5_bookWheel 59 = .ok (.getfield 23, 3) := by decide +kernel
theorem dX5_bookWheel_62 : decode cX5_bookWheel 62 = .ok (.iload_n 2, 1) := by decide +kernel
theorem dX5_bookWheel_63 : decode cX5_bookWheel 63 = .ok (.iload_n 3, 1) := by decide +kernel
theorem dX5_bookWheel_64 : decode cX5_bookWheel 64 = .ok (.iload_n 1, 1) := by decide +kernel
theorem dX5_bookWheel_65 : decode cX5_bookWheel 65 = .ok (.invokevirtual 96, 3) := by decide +kernel
theorem dX5_bookWheel_68 : decode cX5_bookWheel 68 = .ok (.aload_n 0, 1) := by decide +kernel
theorem dX5_bookWheel_69 : decode cX5_bookWheel 69 = .ok (.getfield 23, 3) := by decide +kernel
theorem dX5_bookWheel_72 : decode cX5_bookWheel 72 = .ok (.getfield 100, 3) := by decide +kernel
theorem dX5_bookWheel_75 : decode cX5_bookWheel 75 = .ok (.iload_n 3, 1) := by decide +kernel
theorem dX5_bookWheel_76 : decode cX5_bookWheel 76 = .ok (.iadd, 1) := by decide +kernel
theorem dX5_bookWheel_77 : decode cX5_bookWheel 77 = .ok (.ireturn, 1) := by decide +kernel
set_option maxRecDepth 20000 in
theorem ggX5_cancelBooking_X5_hasPupil : GoodIn wsX5_cancelBooking wsX5_hasPupil := goodIn_r _ [6, 7, 48, 49, 50, 51, 52, 53, 54, 55] (by decide +kernel) (by decide +kernel)
set_option maxRecDepth 20000 in
theorem gX5_cancelBooking_X5_hasPupil : GoodIn wsX5_cancelBooking (wsV RX5 79 RX5 yX5_hasPupil wsX5_hasPupil) := goodIn_app (goodIn_of _ (by decide +kernel)) ggX5_cancelBooking_X5_hasPupil
set_option maxRecDepth 20000 in
theorem ggX5_cancelBooking_X6_isAhead : GoodIn wsX5_cancelBooking wsX6_isAhead := goodIn_r _ [10, 11, 12, 9, 13] (by decide +kernel) (by decide +kernel)
set_option maxRecDepth 20000 in
theorem gX5_cancelBooking_X6_isAhead_n86 : GoodIn wsX5_cancelBooking (wsX6_isAhead) := ggX5_cancelBooking_X6_isAhead
set_option maxRecDepth 20000 in
theorem ggX5_cancelBooking_X0_wheelOf : GoodIn wsX5_cancelBooking wsX0_wheelOf := goodIn_r _ [18, 19, 20, 21, 17, 22, 23, 24, 25, 26, 27, 28, 29, 30, 31, 32, 33, 34, 56, 57, 58, 59] (by decide +kernel) (by decide +kernel)
set_option maxRecDepth 20000 in
theorem gX5_cancelBooking_X0_wheelOf : GoodIn wsX5_cancelBooking (wsV RX5 93 RX0 yX0_wheelOf wsX0_wheelOf) := goodIn_app (goodIn_of _ (by decide +kernel)) ggX5_cancelBooking_X0_wheelOf
set_option maxRecDepth 20000 in
theorem ggX5_cancelBooking_X0_hasThrownTonight : GoodIn wsX5_cancelBooking wsX0_hasThrownTonight := goodIn_r _ [38, 39, 56, 57, 58] (by decide +kernel) (by decide +kernel)
set_option maxRecDepth 20000 in
theorem gX5_cancelBooking_X0_hasThrownTonight : GoodIn wsX5_cancelBooking (wsV RX5 103 RX0 yX0_hasThrownTonight wsX0_hasThrownTonight) := goodIn_app (goodIn_of _ (by decide +kernel)) ggX5_cancelBooking_X0_hasThrownTonight
set_option maxRecDepth 20000 in
theorem ggX5_cancelBooking_X0_cross : GoodIn wsX5_cancelBooking wsX0_cross := goodIn_r _ [43, 23, 24, 25, 26, 17, 27, 28, 44, 45, 46, 32, 47, 34, 56, 57, 58, 59] (by decide +kernel) (by decide +kernel)
set_option maxRecDepth 20000 in
theorem gX5_cancelBooking_X0_cross : GoodIn wsX5_cancelBooking (wsV RX5 106 RX0 yX0_cross wsX0_cross) := goodIn_app (goodIn_of _ (by decide +kernel)) ggX5_cancelBooking_X0_cross
theorem dX5_cancelBooking_0 : decode cX5_cancelBooking 0 = .ok (.aload_n 0, 1) := by decide +kernel
theorem dX5_cancelBooking_1 : decode cX5_cancelBooking 1 = .ok (.iload_n 1, 1) := by decide +kernel
theorem dX5_cancelBooking_2 : decode cX5_cancelBooking 2 = .ok (.invokevirtual 79, 3) := by decide +kernel
theorem dX5_cancelBooking_5 : decode cX5_cancelBooking 5 = .ok (.ifCond .ne 5, 3) := by decide +kernel
theorem dX5_cancelBooking_8 : decode cX5_cancelBooking 8 = .ok (.iconst (-1), 1) := by decide +kernel
theorem dX5_cancelBooking_9 : decode cX5_cancelBooking 9 = .ok (.ireturn, 1) := by decide +kernel
theorem dX5_cancelBooking_10 : decode cX5_cancelBooking 10 = .ok (.iload_n 2, 1) := by decide +kernel
theorem dX5_cancelBooking_11 : decode cX5_cancelBooking 11 = .ok (.invokestatic 86, 3) := by decide +kernel
theorem dX5_cancelBooking_14 : decode cX5_cancelBooking 14 = .ok (.ifCond .ne 6, 3) := by decide +kernel
theorem dX5_cancelBooking_17 : decode cX5_cancelBooking 17 = .ok (.bipush (-2), 2) := by decide +kernel
theorem dX5_cancelBooking_19 : decode cX5_cancelBooking 19 = .ok (.ireturn, 1) := by decide +kernel
theorem dX5_cancelBooking_20 : decode cX5_cancelBooking 20 = .ok (.aload_n 0, 1) := by decide +kernel
theorem dX5_cancelBooking_21 : decode cX5_cancelBooking 21 = .ok (.getfield 23, 3) := by decide +kernel
theorem dX5_cancelBooking_24 : decode cX5_cancelBooking 24 = .ok (.iload_n 1, 1) := by decide +kernel
theorem dX5_cancelBooking_25 : decode cX5_cancelBooking 25 = .ok (.iload_n 2, 1) := by decide +kernel
theorem dX5_cancelBooking_26 : decode cX5_cancelBooking 26 = .ok (.invokevirtual 93, 3) := by decide +kernel
theorem dX5_cancelBooking_29 : decode cX5_cancelBooking 29 = .ok (.istore_n 3, 1) := by decide +kernel
theorem dX5_cancelBooking_30 : decode cX5_cancelBooking 30 = .ok (.iload_n 3, 1) := by decide +kernel
theorem dX5_cancelBooking_31 : decode cX5_cancelBooking 31 = .ok (.bipush (-6), 2) := by decide +kernel
theorem dX5_cancelBooking_33 : decode cX5_cancelBooking 33 = .ok (.if_icmp .eq 18, 3) := by decide +kernel
theorem dX5_cancelBooking_36 : decode cX5_cancelBooking 36 = .ok (.iload_n 2, 1) := by decide +kernel
theorem dX5_cancelBooking_37 : decode cX5_cancelBooking 37 = .ok (.ifCond .ne 17, 3) := by decide +kernel
theorem dX5_cancelBooking_40 : decode cX5_cancelBooking 40 = .ok (.aload_n 0, 1) := by decide +kernel
theorem dX5_cancelBooking_41 : decode cX5_cancelBooking 41 = .ok (.getfield 23, 3) := by decide +kernel
theorem dX5_cancelBooking_44 : decode cX5_cancelBooking 44 = .ok (.iload_n 1, 1) := by decide +kernel
theorem dX5_cancelBooking_45 : decode cX5_cancelBooking 45 = .ok (.invokevirtual 103, 3) := by decide +kernel
theorem dX5_cancelBooking_48 : decode cX5_cancelBooking 48 = .ok (.ifCond .eq 6, 3) := by decide +kernel
theorem dX5_cancelBooking_51 : decode cX5_cancelBooking 51 = .ok (.bipush (-5), 2) := by decide +kernel
theorem dX5_cancelBooking_53 : decode cX5_cancelBooking 53 = .ok (.ireturn, 1) := by decide +kernel
theorem dX5_cancelBooking_54 : decode cX5_cancelBooking 54 = .ok (.aload_n 0, 1) := by decide +kernel
theorem dX5_cancelBooking_55 : decode cX5_cancelBooking 55 = .ok (.getfield 23, 3) := by decide +kernel
theorem dX5_cancelBooking_58 : decode cX5_cancelBooking 58 = .ok (.iload_n 3, 1) := by decide +kernel
theorem dX5_cancelBooking_59 : decode cX5_cancelBooking 59 = .ok (.iload_n 2, 1) := by decide +kernel
theorem dX5_cancelBooking_60 : decode cX5_cancelBooking 60 = .ok (.invokevirtual 106, 3) := by decide +kernel
theorem dX5_cancelBooking_63 : decode cX5_cancelBooking 63 = .ok (.iload_n 3, 1) := by decide +kernel
theorem dX5_cancelBooking_64 : decode cX5_cancelBooking 64 = .ok (.ireturn, 1) := by decide +kernel
set_option maxRecDepth 20000 in
theorem ggX5_bookerOf_X6_isWheel : GoodIn wsX5_bookerOf wsX6_isWheel := goodIn_r _ [4, 5, 6, 3, 7] (by decide +kernel) (by decide +kernel)
set_option maxRecDepth 20000 in
theorem gX5_bookerOf_X6_isWheel_n83 : GoodIn wsX5_bookerOf (wsX6_isWheel) := ggX5_bookerOf_X6_isWheel
set_option maxRecDepth 20000 in
theorem ggX5_bookerOf_X6_isAhead : GoodIn wsX5_bookerOf wsX6_isAhead := goodIn_r _ [9, 5, 6, 3, 7] (by decide +kernel) (by decide +kernel)
set_option maxRecDepth 20000 in
theorem gX5_bookerOf_X6_isAhead_n86 : GoodIn wsX5_bookerOf (wsX6_isAhead) := ggX5_bookerOf_X6_isAhead
set_option maxRecDepth 20000 in
theorem ggX5_bookerOf_X0_bookerOf : GoodIn wsX5_bookerOf wsX0_bookerOf := goodIn_r _ [14, 15, 16, 17, 18, 13, 19, 20, 21, 22, 23, 24, 25, 26, 35, 36, 37, 38] (by decide +kernel) (by decide +kernel)
set_option maxRecDepth 20000 in
theorem gX5_bookerOf_X0_bookerOf : GoodIn wsX5_bookerOf (wsV RX5 89 RX0 yX0_bookerOf wsX0_bookerOf) := goodIn_app (goodIn_of _ (by decide +kernel)) ggX5_bookerOf_X0_bookerOf
theorem dX5_bookerOf_0 : decode cX5_bookerOf 0 = .ok (.iload_n 1, 1) := by decide +kernel
theorem dX5_bookerOf_1 : decode cX5_bookerOf 1 = .ok (.invokestatic 83, 3) := by decide +kernel
theorem dX5_bookerOf_4 : decode cX5_bookerOf 4 = .ok (.ifCond .ne 5, 3) := by decide +kernel
theorem dX5_bookerOf_7 : decode cX5_bookerOf 7 = .ok (.iconst (-1), 1) := by decide +kernel
theorem dX5_bookerOf_8 : decode cX5_bookerOf 8 = .ok (.ireturn, 1) := by decide +kernel
theorem dX5_bookerOf_9 : decode cX5_bookerOf 9 = .ok (.iload_n 2, 1) := by decide +kernel
theorem dX5_bookerOf_10 : decode cX5_bookerOf 10 = .ok (.invokestatic 86, 3) := by decide +kernel
theorem dX5_bookerOf_13 : decode cX5_bookerOf 13 = .ok (.ifCond .eq 15, 3) := by decide +kernel
theorem dX5_bookerOf_16 : decode cX5_bookerOf 16 = .ok (.aload_n 0, 1) := by decide +kernel
theorem dX5_bookerOf_17 : decode cX5_bookerOf 17 = .ok (.getfield 23, 3) := by decide +kernel
theorem dX5_bookerOf_20 : decode cX5_bookerOf 20 = .ok (.iload_n 1, 1) := by decide +kernel
theorem dX5_bookerOf_21 : decode cX5_bookerOf 21 = .ok (.iload_n 2, 1) := by decide +kernel
theorem dX5_bookerOf_22 : decode cX5_bookerOf 22 = .ok (.invokevirtual 89, 3) := by decide +kernel
theorem dX5_bookerOf_25 : decode cX5_bookerOf 25 = .ok (.goto 5, 3) := by decide +kernel
theorem dX5_bookerOf_28 : decode cX5_bookerOf 28 = .ok (.bipush (-2), 2) := by decide +kernel
theorem dX5_bookerOf_30 : decode cX5_bookerOf 30 = .ok (.ireturn, 1) := by decide +kernel
set_option maxRecDepth 20000 in
theorem ggX5_firstFreeNight_X5_hasPupil : GoodIn wsX5_firstFreeNight wsX5_hasPupil := goodIn_r _ [6, 7, 33, 34, 35, 36, 37, 38, 39, 40] (by decide +kernel) (by decide +kernel)
set_option maxRecDepth 20000 in
theorem gX5_firstFreeNight_X5_hasPupil : GoodIn wsX5_firstFreeNight (wsV RX5 79 RX5 yX5_hasPupil wsX5_hasPupil) := goodIn_app (goodIn_of _ (by decide +kernel)) ggX5_firstFreeNight_X5_hasPupil
set_option maxRecDepth 20000 in
theorem ggX5_firstFreeNight_X0_lowestFreeWheel : GoodIn wsX5_firstFreeNight wsX0_lowestFreeWheel := goodIn_r _ [12, 13, 14, 15, 11, 16, 17, 18, 19, 20, 21, 22, 23, 24, 25, 26, 27, 28, 41, 42, 43, 44] (by decide +kernel) (by decide +kernel)
set_option maxRecDepth 20000 in
theorem gX5_firstFreeNight_X0_lowestFreeWheel : GoodIn wsX5_firstFreeNight (wsV RX5 109 RX0 yX0_lowestFreeWheel wsX0_lowestFreeWheel) := goodIn_app (goodIn_of _ (by decide +kernel)) ggX5_firstFreeNight_X0_lowestFreeWheel
set_option maxRecDepth 20000 in
theorem ggX5_firstFreeNight_X0_wheelOf : GoodIn wsX5_firstFreeNight wsX0_wheelOf := goodIn_r _ [32, 13, 14, 15, 11, 16, 17, 18, 19, 20, 21, 22, 23, 24, 25, 26, 27, 28, 41, 42, 43, 44] (by decide +kernel) (by decide +kernel)
set_option maxRecDepth 20000 in
theorem gX5_firstFreeNight_X0_wheelOf : GoodIn wsX5_firstFreeNight (wsV RX5 93 RX0 yX0_wheelOf wsX0_wheelOf) := goodIn_app (goodIn_of _ (by decide +kernel)) ggX5_firstFreeNight_X0_wheelOf
theorem dX5_firstFreeNight_0 : decode cX5_firstFreeNight 0 = .ok (.aload_n 0, 1) := by decide +kernel
theorem dX5_firstFreeNight_1 : decode cX5_firstFreeNight 1 = .ok (.iload_n 1, 1) := by decide +kernel
theorem dX5_firstFreeNight_2 : decode cX5_firstFreeNight 2 = .ok (.invokevirtual 79, 3) := by decide +kernel
theorem dX5_firstFreeNight_5 : decode cX5_firstFreeNight 5 = .ok (.ifCond .ne 5, 3) := by decide +kernel
theorem dX5_firstFreeNight_8 : decode cX5_firstFreeNight 8 = .ok (.iconst (-1), 1) := by decide +kernel
theorem dX5_firstFreeNight_9 : decode cX5_firstFreeNight 9 = .ok (.ireturn, 1) := by decide +kernel
theorem dX5_firstFreeNight_10 : decode cX5_firstFreeNight 10 = .ok (.iload_n 2, 1) := by decide +kernel
theorem dX5_firstFreeNight_11 : decode cX5_firstFreeNight 11 = .ok (.ifCond .eq 11, 3) := by decide +kernel
theorem dX5_firstFreeNight_14 : decode cX5_firstFreeNight 14 = .ok (.iload_n 2, 1) := by decide +kernel
theorem dX5_firstFreeNight_15 : decode cX5_firstFreeNight 15 = .ok (.iconst 1, 1) := by decide +kernel
theorem dX5_firstFreeNight_16 : decode cX5_firstFreeNight 16 = .ok (.if_icmp .eq 6, 3) := by decide +kernel
theorem dX5_firstFreeNight_19 : decode cX5_firstFreeNight 19 = .ok (.bipush (-2), 2) := by decide +kernel
theorem dX5_firstFreeNight_21 : decode cX5_firstFreeNight 21 = .ok (.ireturn, 1) := by decide +kernel
theorem dX5_firstFreeNight_22 : decode cX5_firstFreeNight 22 = .ok (.iconst 0, 1) := by decide +kernel
theorem dX5_firstFreeNight_23 : decode cX5_firstFreeNight 23 = .ok (.istore_n 3, 1) := by decide +kernel
theorem dX5_firstFreeNight_24 : decode cX5_firstFreeNight 24 = .ok (.iload_n 3, 1) := by decide +kernel
theorem dX5_firstFreeNight_25 : decode cX5_firstFreeNight 25 = .ok (.bipush 20, 2) := by decide +kernel
theorem dX5_firstFreeNight_27 : decode cX5_firstFreeNight 27 = .ok (.if_icmp .gt 59, 3) := by decide +kernel
theorem dX5_firstFreeNight_30 : decode cX5_firstFreeNight 30 = .ok (.aload_n 0, 1) := by decide +kernel
theorem dX5_firstFreeNight_31 : decode cX5_firstFreeNight 31 = .ok (.getfield 23, 3) := by decide +kernel
theorem dX5_firstFreeNight_34 : decode cX5_firstFreeNight 34 = .ok (.iload_n 3, 1) := by decide +kernel
theorem dX5_firstFreeNight_35 : decode cX5_firstFreeNight 35 = .ok (.invokevirtual 109, 3) := by decide +kernel
theorem dX5_firstFreeNight_38 : decode cX5_firstFreeNight 38 = .ok (.istore 4, 2) := by decide +kernel
theorem dX5_firstFreeNight_40 : decode cX5_firstFreeNight 40 = .ok (.iload 4, 2) := by decide +kernel
theorem dX5_firstFreeNight_42 : decode cX5_firstFreeNight 42 = .ok (.bipush (-6), 2) := by decide +kernel
theorem dX5_firstFreeNight_44 : decode cX5_firstFreeNight 44 = .ok (.if_icmp .eq 36, 3) := by decide +kernel
theorem dX5_firstFreeNight_47 : decode cX5_firstFreeNight 47 = .ok (.aload_n 0, 1) := by decide +kernel
theorem dX5_firstFreeNight_48 : decode cX5_firstFreeNight 48 = .ok (.getfield 23, 3) := by decide +kernel
theorem dX5_firstFreeNight_51 : decode cX5_firstFreeNight 51 = .ok (.iload_n 1, 1) := by decide +kernel
theorem dX5_firstFreeNight_52 : decode cX5_firstFreeNight 52 = .ok (.iload_n 3, 1) := by decide +kernel
theorem dX5_firstFreeNight_53 : decode cX5_firstFreeNight 53 = .ok (.invokevirtual 93, 3) := by decide +kernel
theorem dX5_firstFreeNight_56 : decode cX5_firstFreeNight 56 = .ok (.bipush (-6), 2) := by decide +kernel
theorem dX5_firstFreeNight_58 : decode cX5_firstFreeNight 58 = .ok (.if_icmp .ne 22, 3) := by decide +kernel
theorem dX5_firstFreeNight_61 : decode cX5_firstFreeNight 61 = .ok (.iload_n 2, 1) := by decide +kernel
theorem dX5_firstFreeNight_62 : decode cX5_firstFreeNight 62 = .ok (.ifCond .ne 15, 3) := by decide +kernel
theorem dX5_firstFreeNight_65 : decode cX5_firstFreeNight 65 = .ok (.aload_n 0, 1) := by decide +kernel
theorem dX5_firstFreeNight_66 : decode cX5_firstFreeNight 66 = .ok (.getfield 23, 3) := by decide +kernel
theorem dX5_firstFreeNight_69 : decode cX5_firstFreeNight 69 = .ok (.getfield 100, 3) := by decide +kernel
theorem dX5_firstFreeNight_72 : decode cX5_firstFreeNight 72 = .ok (.iload_n 3, 1) := by decide +kernel
theorem dX5_firstFreeNight_73 : decode cX5_firstFreeNight 73 = .ok (.iadd, 1) := by decide +kernel
theorem dX5_firstFreeNight_74 : decode cX5_firstFreeNight 74 = .ok (.goto 5, 3) := by decide +kernel
theorem dX5_firstFreeNight_77 : decode cX5_firstFreeNight 77 = .ok (.iload 4, 2) := by decide +kernel
theorem dX5_firstFreeNight_79 : decode cX5_firstFreeNight 79 = .ok (.ireturn, 1) := by decide +kernel
theorem dX5_firstFreeNight_80 : decode cX5_firstFreeNight 80 = .ok (.iinc 3 1, 3) := by decide +kernel
theorem dX5_firstFreeNight_83 : decode cX5_firstFreeNight 83 = .ok (.goto (-59), 3) := by decide +kernel
theorem dX5_firstFreeNight_86 : decode cX5_firstFreeNight 86 = .ok (.bipush (-6), 2) := by decide +kernel
theorem dX5_firstFreeNight_88 : decode cX5_firstFreeNight 88 = .ok (.ireturn, 1) := by decide +kernel
set_option maxRecDepth 20000 in
theorem ggX5_passNights_X6_isWithin : GoodIn wsX5_passNights wsX6_isWithin := goodIn_r _ [5] (by decide +kernel) (by decide +kernel)
set_option maxRecDepth 20000 in
theorem gX5_passNights_X6_isWithin_n67 : GoodIn wsX5_passNights (wsX6_isWithin) := ggX5_passNights_X6_isWithin
set_option maxRecDepth 20000 in
theorem ggX5_passNights_X3_dryOneNight : GoodIn wsX5_passNights wsX3_dryOneNight := goodIn_r _ [10, 11, 12, 13, 14, 15, 9, 16, 17, 18, 19, 20, 21, 22, 23, 24, 25, 26, 27, 28, 29, 30, 31, 32, 33, 34, 35, 36, 37, 38, 39, 40, 41, 70, 71, 72, 73, 74, 75, 76, 77, 78, 79] (by decide +kernel) (by decide +kernel)
set_option maxRecDepth 20000 in
theorem gX5_passNights_X3_dryOneNight : GoodIn wsX5_passNights (wsV RX5 112 RX3 yX3_dryOneNight wsX3_dryOneNight) := goodIn_app (goodIn_of _ (by decide +kernel)) ggX5_passNights_X3_dryOneNight
set_option maxRecDepth 20000 in
theorem ggX5_passNights_X0_passOneNight : GoodIn wsX5_passNights wsX0_passOneNight := goodIn_r _ [46, 47, 48, 49, 50, 51, 45, 52, 53, 54, 55, 56, 57, 58, 39, 40, 21, 41, 23, 67, 68, 69, 79] (by decide +kernel) (by decide +kernel)
set_option maxRecDepth 20000 in
theorem gX5_passNights_X0_passOneNight : GoodIn wsX5_passNights (wsV RX5 115 RX0 yX0_passOneNight wsX0_passOneNight) := goodIn_app (goodIn_of _ (by decide +kernel)) ggX5_passNights_X0_passOneNight
theorem dX5_passNights_0 : decode cX5_passNights 0 = .ok (.iload_n 1, 1) := by decide +kernel
theorem dX5_passNights_1 : decode cX5_passNights 1 = .ok (.iconst 1, 1) := by decide +kernel
theorem dX5_passNights_2 : decode cX5_passNights 2 = .ok (.bipush 20, 2) := by decide +kernel
theorem dX5_passNights_4 : decode cX5_passNights 4 = .ok (.invokestatic 67, 3) := by decide +kernel
theorem dX5_passNights_7 : decode cX5_passNights 7 = .ok (.ifCond .ne 6, 3) := by decide +kernel
theorem dX5_passNights_10 : decode cX5_passNights 10 = .ok (.bipush (-2), 2) := by decide +kernel
theorem dX5_passNights_12 : decode cX5_passNights 12 = .ok (.ireturn, 1) := by decide +kernel
theorem dX5_passNights_13 : decode cX5_passNights 13 = .ok (.aload_n 0, 1) := by decide +kernel
theorem dX5_passNights_14 : decode cX5_passNights 14 = .ok (.getfield 23, 3) := by decide +kernel
theorem dX5_passNights_17 : decode cX5_passNights 17 = .ok (.getfield 100, 3) := by decide +kernel
theorem dX5_passNights_20 : decode cX5_passNights 20 = .ok (.iload_n 1, 1) := by decide +kernel
theorem dX5_passNights_21 : decode cX5_passNights 21 = .ok (.iadd, 1) := by decide +kernel
theorem dX5_passNights_22 : decode cX5_passNights 22 = .ok (.sipush 999, 3) := by decide +kernel
theorem dX5_passNights_25 : decode cX5_passNights 25 = .ok (.if_icmp .le 6, 3) := by decide +kernel
theorem dX5_passNights_28 : decode cX5_passNights 28 = .ok (.bipush (-5), 2) := by decide +kernel
theorem dX5_passNights_30 : decode cX5_passNights 30 = .ok (.ireturn, 1) := by decide +kernel
theorem dX5_passNights_31 : decode cX5_passNights 31 = .ok (.iconst 0, 1) := by decide +kernel
theorem dX5_passNights_32 : decode cX5_passNights 32 = .ok (.istore_n 2, 1) := by decide +kernel
theorem dX5_passNights_33 : decode cX5_passNights 33 = .ok (.iload_n 2, 1) := by decide +kernel
theorem dX5_passNights_34 : decode cX5_passNights 34 = .ok (.iload_n 1, 1) := by decide +kernel
theorem dX5_passNights_35 : decode cX5_passNights 35 = .ok (.if_icmp .ge 23, 3) := by decide +kernel
theorem dX5_passNights_38 : decode cX5_passNights 38 = .ok (.aload_n 0, 1) := by decide +kernel
theorem dX5_passNights_39 : decode cX5_passNights 39 = .ok (.getfield 30, 3) := by decide +kernel
theorem dX5_passNights_42 : decode cX5_passNights 42 = .ok (.invokevirtual 112, 3) := by decide +kernel
theorem dX5_passNights_45 : decode cX5_passNights 45 = .ok (.aload_n 0, 1) := by decide +kernel
theorem dX5_passNights_46 : decode cX5_passNights 46 = .ok (.getfield 23, 3) := by decide +kernel
theorem dX5_passNights_49 : decode cX5_passNights 49 = .ok (.invokevirtual 115, 3) := by decide +kernel
theorem dX5_passNights_52 : decode cX5_passNights 52 = .ok (.iinc 2 1, 3) := by decide +kernel
theorem dX5_passNights_55 : decode cX5_passNights 55 = .ok (.goto (-22), 3) := by decide +kernel
theorem dX5_passNights_58 : decode cX5_passNights 58 = .ok (.aload_n 0, 1) := by decide +kernel
theorem dX5_passNights_59 : decode cX5_passNights 59 = .ok (.getfield 23, 3) := by decide +kernel
theorem dX5_passNights_62 : decode cX5_passNights 62 = .ok (.getfield 100, 3) := by decide +kernel
theorem dX5_passNights_65 : decode cX5_passNights 65 = .ok (.ireturn, 1) := by decide +kernel
set_option maxRecDepth 20000 in
theorem ggX5_throwClay_X5_hasPupil : GoodIn wsX5_throwClay wsX5_hasPupil := goodIn_r _ [7, 8, 85, 86, 87, 88, 89, 90, 91, 92] (by decide +kernel) (by decide +kernel)
set_option maxRecDepth 20000 in
theorem gX5_throwClay_X5_hasPupil : GoodIn wsX5_throwClay (wsV RX5 79 RX5 yX5_hasPupil wsX5_hasPupil) := goodIn_app (goodIn_of _ (by decide +kernel)) ggX5_throwClay_X5_hasPupil
set_option maxRecDepth 20000 in
theorem ggX5_throwClay_X6_isWithin : GoodIn wsX5_throwClay wsX6_isWithin := goodIn_r _ [11] (by decide +kernel) (by decide +kernel)
set_option maxRecDepth 20000 in
theorem gX5_throwClay_X6_isWithin_n67 : GoodIn wsX5_throwClay (wsX6_isWithin) := ggX5_throwClay_X6_isWithin
set_option maxRecDepth 20000 in
theorem ggX5_throwClay_X0_wheelOf : GoodIn wsX5_throwClay wsX0_wheelOf := goodIn_r _ [16, 17, 18, 19, 15, 20, 21, 22, 23, 24, 25, 26, 27, 28, 29, 30, 31, 32, 102, 103, 104, 105] (by decide +kernel) (by decide +kernel)
set_option maxRecDepth 20000 in
theorem gX5_throwClay_X0_wheelOf : GoodIn wsX5_throwClay (wsV RX5 93 RX0 yX0_wheelOf wsX0_wheelOf) := goodIn_app (goodIn_of _ (by decide +kernel)) ggX5_throwClay_X0_wheelOf
set_option maxRecDepth 20000 in
theorem ggX5_throwClay_X0_hasThrownTonight : GoodIn wsX5_throwClay wsX0_hasThrownTonight := goodIn_r _ [36, 37, 102, 103, 104] (by decide +kernel) (by decide +kernel)
