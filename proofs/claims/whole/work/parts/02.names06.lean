theorem dX7_doBook_22 : decode cX7_doBook 22 = .ok (.iload_n 3, 1) := by decide +kernel
theorem dX7_doBook_23 : decode cX7_doBook 23 = .ok (.iadd, 1) := by decide +kernel
theorem dX7_doBook_24 : decode cX7_doBook 24 = .ok (.ireturn, 1) := by decide +kernel
set_option maxRecDepth 20000 in
theorem ggX7_book_X7_noBook : GoodIn wsX7_book wsX7_noBook := goodIn_r _ [5, 6, 7, 8, 4, 9, 10, 11, 12, 13, 14, 15, 16, 17, 18, 19, 20, 21, 22, 23, 24, 25, 26, 27, 38, 39, 40, 41, 42, 43, 44, 45, 46, 47, 48, 49, 50] (by decide +kernel) (by decide +kernel)
set_option maxRecDepth 20000 in
theorem gX7_book_X7_noBook : GoodIn wsX7_book (wsV RX7 99 RX7 yX7_noBook wsX7_noBook) := goodIn_app (goodIn_of _ (by decide +kernel)) ggX7_book_X7_noBook
set_option maxRecDepth 20000 in
theorem ggX7_book_X7_record : GoodIn wsX7_book wsX7_record := goodIn_r _ [31, 32, 33, 10, 38, 39, 40, 41, 42, 43, 44, 45, 46, 47, 48, 49, 50] (by decide +kernel) (by decide +kernel)
set_option maxRecDepth 20000 in
theorem gX7_book_X7_record : GoodIn wsX7_book (wsV RX7 34 RX7 yX7_record wsX7_record) := goodIn_app (goodIn_of _ (by decide +kernel)) ggX7_book_X7_record
set_option maxRecDepth 20000 in
theorem ggX7_book_X7_doBook : GoodIn wsX7_book wsX7_doBook := goodIn_r _ [37, 10, 38, 39, 40, 41, 42, 43, 44, 45, 46, 47, 48, 49, 50] (by decide +kernel) (by decide +kernel)
set_option maxRecDepth 20000 in
theorem gX7_book_X7_doBook : GoodIn wsX7_book (wsV RX7 103 RX7 yX7_doBook wsX7_doBook) := goodIn_app (goodIn_of _ (by decide +kernel)) ggX7_book_X7_doBook
theorem dX7_book_0 : decode cX7_book 0 = .ok (.aload_n 0, 1) := by decide +kernel
theorem dX7_book_1 : decode cX7_book 1 = .ok (.iload_n 1, 1) := by decide +kernel
theorem dX7_book_2 : decode cX7_book 2 = .ok (.iload_n 2, 1) := by decide +kernel
theorem dX7_book_3 : decode cX7_book 3 = .ok (.iload_n 3, 1) := by decide +kernel
theorem dX7_book_4 : decode cX7_book 4 = .ok (.invokevirtual 99, 3) := by decide +kernel
theorem dX7_book_7 : decode cX7_book 7 = .ok (.istore 4, 2) := by decide +kernel
theorem dX7_book_9 : decode cX7_book 9 = .ok (.iload 4, 2) := by decide +kernel
theorem dX7_book_11 : decode cX7_book 11 = .ok (.ifCond .ge 6, 3) := by decide +kernel
theorem dX7_book_14 : decode cX7_book 14 = .ok (.iload 4, 2) := by decide +kernel
theorem dX7_book_16 : decode cX7_book 16 = .ok (.ireturn, 1) := by decide +kernel
theorem dX7_book_17 : decode cX7_book 17 = .ok (.aload_n 0, 1) := by decide +kernel
theorem dX7_book_18 : decode cX7_book 18 = .ok (.invokevirtual 34, 3) := by decide +kernel
theorem dX7_book_21 : decode cX7_book 21 = .ok (.aload_n 0, 1) := by decide +kernel
theorem dX7_book_22 : decode cX7_book 22 = .ok (.iload_n 1, 1) := by decide +kernel
theorem dX7_book_23 : decode cX7_book 23 = .ok (.iload_n 2, 1) := by decide +kernel
theorem dX7_book_24 : decode cX7_book 24 = .ok (.iload_n 3, 1) := by decide +kernel
theorem dX7_book_25 : decode cX7_book 25 = .ok (.invokevirtual 103, 3) := by decide +kernel
theorem dX7_book_28 : decode cX7_book 28 = .ok (.ireturn, 1) := by decide +kernel
set_option maxRecDepth 20000 in
theorem ggX7_giveBack_X7_isPupil : GoodIn wsX7_giveBack wsX7_isPupil := goodIn_r _ [6, 1, 7, 8, 5, 9, 27, 28, 29, 30, 31, 32, 33, 34, 35, 36, 37, 38, 39] (by decide +kernel) (by decide +kernel)
set_option maxRecDepth 20000 in
theorem gX7_giveBack_X7_isPupil : GoodIn wsX7_giveBack (wsV RX7 87 RX7 yX7_isPupil wsX7_isPupil) := goodIn_app (goodIn_of _ (by decide +kernel)) ggX7_giveBack_X7_isPupil
set_option maxRecDepth 20000 in
theorem ggX7_giveBack_X7_isAhead : GoodIn wsX7_giveBack wsX7_isAhead := goodIn_r _ [12, 7, 8, 5, 9] (by decide +kernel) (by decide +kernel)
set_option maxRecDepth 20000 in
theorem gX7_giveBack_X7_isAhead : GoodIn wsX7_giveBack (va_wsS RX7 93 yX7_isAhead wsX7_isAhead) := goodIn_app (goodIn_of _ (by decide +kernel)) ggX7_giveBack_X7_isAhead
set_option maxRecDepth 20000 in
theorem ggX7_giveBack_X7_wheelOf : GoodIn wsX7_giveBack wsX7_wheelOf := goodIn_r _ [16, 17, 18, 19, 5, 20, 1, 27, 28, 29, 30, 31, 32, 33, 34, 35, 36, 37, 38, 39] (by decide +kernel) (by decide +kernel)
set_option maxRecDepth 20000 in
theorem gX7_giveBack_X7_wheelOf : GoodIn wsX7_giveBack (wsV RX7 96 RX7 yX7_wheelOf wsX7_wheelOf) := goodIn_app (goodIn_of _ (by decide +kernel)) ggX7_giveBack_X7_wheelOf
set_option maxRecDepth 20000 in
theorem ggX7_giveBack_X7_record : GoodIn wsX7_giveBack wsX7_record := goodIn_r _ [24, 25, 26, 1, 27, 28, 29, 30, 31, 32, 33, 34, 35, 36, 37, 38, 39] (by decide +kernel) (by decide +kernel)
set_option maxRecDepth 20000 in
theorem gX7_giveBack_X7_record : GoodIn wsX7_giveBack (wsV RX7 34 RX7 yX7_record wsX7_record) := goodIn_app (goodIn_of _ (by decide +kernel)) ggX7_giveBack_X7_record
theorem dX7_giveBack_0 : decode cX7_giveBack 0 = .ok (.aload_n 0, 1) := by decide +kernel
theorem dX7_giveBack_1 : decode cX7_giveBack 1 = .ok (.iload_n 1, 1) := by decide +kernel
theorem dX7_giveBack_2 : decode cX7_giveBack 2 = .ok (.invokevirtual 87, 3) := by decide +kernel
theorem dX7_giveBack_5 : decode cX7_giveBack 5 = .ok (.ifCond .ne 5, 3) := by decide +kernel
theorem dX7_giveBack_8 : decode cX7_giveBack 8 = .ok (.iconst (-1), 1) := by decide +kernel
theorem dX7_giveBack_9 : decode cX7_giveBack 9 = .ok (.ireturn, 1) := by decide +kernel
theorem dX7_giveBack_10 : decode cX7_giveBack 10 = .ok (.iload_n 2, 1) := by decide +kernel
theorem dX7_giveBack_11 : decode cX7_giveBack 11 = .ok (.invokestatic 93, 3) := by decide +kernel
theorem dX7_giveBack_14 : decode cX7_giveBack 14 = .ok (.ifCond .ne 6, 3) := by decide +kernel
theorem dX7_giveBack_17 : decode cX7_giveBack 17 = .ok (.bipush (-2), 2) := by decide +kernel
theorem dX7_giveBack_19 : decode cX7_giveBack 19 = .ok (.ireturn, 1) := by decide +kernel
theorem dX7_giveBack_20 : decode cX7_giveBack 20 = .ok (.aload_n 0, 1) := by decide +kernel
theorem dX7_giveBack_21 : decode cX7_giveBack 21 = .ok (.iload_n 1, 1) := by decide +kernel
theorem dX7_giveBack_22 : decode cX7_giveBack 22 = .ok (.iload_n 2, 1) := by decide +kernel
theorem dX7_giveBack_23 : decode cX7_giveBack 23 = .ok (.invokevirtual 96, 3) := by decide +kernel
theorem dX7_giveBack_26 : decode cX7_giveBack 26 = .ok (.istore_n 3, 1) := by decide +kernel
theorem dX7_giveBack_27 : decode cX7_giveBack 27 = .ok (.iload_n 3, 1) := by decide +kernel
theorem dX7_giveBack_28 : decode cX7_giveBack 28 = .ok (.ifCond .lt 20, 3) := by decide +kernel
theorem dX7_giveBack_31 : decode cX7_giveBack 31 = .ok (.iload_n 2, 1) := by decide +kernel
theorem dX7_giveBack_32 : decode cX7_giveBack 32 = .ok (.ifCond .ne 19, 3) := by decide +kernel
theorem dX7_giveBack_35 : decode cX7_giveBack 35 = .ok (.aload_n 0, 1) := by decide +kernel
theorem dX7_giveBack_36 : decode cX7_giveBack 36 = .ok (.getfield 7, 3) := by decide +kernel
theorem dX7_giveBack_39 : decode cX7_giveBack 39 = .ok (.bipush 25, 2) := by decide +kernel
theorem dX7_giveBack_41 : decode cX7_giveBack 41 = .ok (.iload_n 1, 1) := by decide +kernel
theorem dX7_giveBack_42 : decode cX7_giveBack 42 = .ok (.iadd, 1) := by decide +kernel
theorem dX7_giveBack_43 : decode cX7_giveBack 43 = .ok (.iaload, 1) := by decide +kernel
theorem dX7_giveBack_44 : decode cX7_giveBack 44 = .ok (.iconst 1, 1) := by decide +kernel
theorem dX7_giveBack_45 : decode cX7_giveBack 45 = .ok (.if_icmp .ne 6, 3) := by decide +kernel
theorem dX7_giveBack_48 : decode cX7_giveBack 48 = .ok (.bipush (-5), 2) := by decide +kernel
theorem dX7_giveBack_50 : decode cX7_giveBack 50 = .ok (.ireturn, 1) := by decide +kernel
theorem dX7_giveBack_51 : decode cX7_giveBack 51 = .ok (.aload_n 0, 1) := by decide +kernel
theorem dX7_giveBack_52 : decode cX7_giveBack 52 = .ok (.invokevirtual 34, 3) := by decide +kernel
theorem dX7_giveBack_55 : decode cX7_giveBack 55 = .ok (.aload_n 0, 1) := by decide +kernel
theorem dX7_giveBack_56 : decode cX7_giveBack 56 = .ok (.getfield 7, 3) := by decide +kernel
theorem dX7_giveBack_59 : decode cX7_giveBack 59 = .ok (.sipush 215, 3) := by decide +kernel
theorem dX7_giveBack_62 : decode cX7_giveBack 62 = .ok (.bipush 21, 2) := by decide +kernel
theorem dX7_giveBack_64 : decode cX7_giveBack 64 = .ok (.iload_n 3, 1) := by decide +kernel
theorem dX7_giveBack_65 : decode cX7_giveBack 65 = .ok (.imul, 1) := by decide +kernel
theorem dX7_giveBack_66 : decode cX7_giveBack 66 = .ok (.iadd, 1) := by decide +kernel
theorem dX7_giveBack_67 : decode cX7_giveBack 67 = .ok (.iload_n 2, 1) := by decide +kernel
theorem dX7_giveBack_68 : decode cX7_giveBack 68 = .ok (.iadd, 1) := by decide +kernel
theorem dX7_giveBack_69 : decode cX7_giveBack 69 = .ok (.bipush (-6), 2) := by decide +kernel
theorem dX7_giveBack_71 : decode cX7_giveBack 71 = .ok (.iastore, 1) := by decide +kernel
theorem dX7_giveBack_72 : decode cX7_giveBack 72 = .ok (.iload_n 3, 1) := by decide +kernel
theorem dX7_giveBack_73 : decode cX7_giveBack 73 = .ok (.ireturn, 1) := by decide +kernel
set_option maxRecDepth 20000 in
theorem ggX7_noThrow_X7_isPupil : GoodIn wsX7_noThrow wsX7_isPupil := goodIn_r _ [6, 1, 7, 8, 5, 9, 33, 34, 35, 36, 37, 38, 39, 40, 41, 42, 43, 44, 45] (by decide +kernel) (by decide +kernel)
set_option maxRecDepth 20000 in
theorem gX7_noThrow_X7_isPupil : GoodIn wsX7_noThrow (wsV RX7 87 RX7 yX7_isPupil wsX7_isPupil) := goodIn_app (goodIn_of _ (by decide +kernel)) ggX7_noThrow_X7_isPupil
set_option maxRecDepth 20000 in
theorem ggX7_noThrow_X7_in : GoodIn wsX7_noThrow wsX7_in := goodIn_r _ [9] (by decide +kernel) (by decide +kernel)
set_option maxRecDepth 20000 in
theorem gX7_noThrow_X7_in : GoodIn wsX7_noThrow (va_wsS RX7 26 yX7_in wsX7_in) := goodIn_app (goodIn_of _ (by decide +kernel)) ggX7_noThrow_X7_in
set_option maxRecDepth 20000 in
theorem ggX7_noThrow_X7_wheelOf : GoodIn wsX7_noThrow wsX7_wheelOf := goodIn_r _ [13, 14, 15, 16, 5, 17, 1, 33, 34, 35, 36, 37, 38, 39, 40, 41, 42, 43, 44, 45] (by decide +kernel) (by decide +kernel)
set_option maxRecDepth 20000 in
theorem gX7_noThrow_X7_wheelOf : GoodIn wsX7_noThrow (wsV RX7 96 RX7 yX7_wheelOf wsX7_wheelOf) := goodIn_app (goodIn_of _ (by decide +kernel)) ggX7_noThrow_X7_wheelOf
set_option maxRecDepth 20000 in
theorem ggX7_noThrow_X7_freePlaces : GoodIn wsX7_noThrow wsX7_freePlaces := goodIn_r _ [21, 22, 23, 24, 5, 25, 1, 26, 27, 28, 29, 30, 31, 32, 33, 34, 35, 36, 37, 38, 39, 40, 41, 42, 43, 44, 45] (by decide +kernel) (by decide +kernel)
set_option maxRecDepth 20000 in
theorem gX7_noThrow_X7_freePlaces : GoodIn wsX7_noThrow (wsV RX7 106 RX7 yX7_freePlaces wsX7_freePlaces) := goodIn_app (goodIn_of _ (by decide +kernel)) ggX7_noThrow_X7_freePlaces
theorem dX7_noThrow_0 : decode cX7_noThrow 0 = .ok (.aload_n 0, 1) := by decide +kernel
theorem dX7_noThrow_1 : decode cX7_noThrow 1 = .ok (.iload_n 1, 1) := by decide +kernel
theorem dX7_noThrow_2 : decode cX7_noThrow 2 = .ok (.invokevirtual 87, 3) := by decide +kernel
theorem dX7_noThrow_5 : decode cX7_noThrow 5 = .ok (.ifCond .ne 5, 3) := by decide +kernel
theorem dX7_noThrow_8 : decode cX7_noThrow 8 = .ok (.iconst (-1), 1) := by decide +kernel
theorem dX7_noThrow_9 : decode cX7_noThrow 9 = .ok (.ireturn, 1) := by decide +kernel
theorem dX7_noThrow_10 : decode cX7_noThrow 10 = .ok (.iload_n 2, 1) := by decide +kernel
theorem dX7_noThrow_11 : decode cX7_noThrow 11 = .ok (.iconst 1, 1) := by decide +kernel
theorem dX7_noThrow_12 : decode cX7_noThrow 12 = .ok (.iconst 3, 1) := by decide +kernel
theorem dX7_noThrow_13 : decode cX7_noThrow 13 = .ok (.invokestatic 26, 3) := by decide +kernel
theorem dX7_noThrow_16 : decode cX7_noThrow 16 = .ok (.ifCond .ne 6, 3) := by decide +kernel
theorem dX7_noThrow_19 : decode cX7_noThrow 19 = .ok (.bipush (-2), 2) := by decide +kernel
theorem dX7_noThrow_21 : decode cX7_noThrow 21 = .ok (.ireturn, 1) := by decide +kernel
theorem dX7_noThrow_22 : decode cX7_noThrow 22 = .ok (.aload_n 0, 1) := by decide +kernel
theorem dX7_noThrow_23 : decode cX7_noThrow 23 = .ok (.iload_n 1, 1) := by decide +kernel
theorem dX7_noThrow_24 : decode cX7_noThrow 24 = .ok (.iconst 0, 1) := by decide +kernel
theorem dX7_noThrow_25 : decode cX7_noThrow 25 = .ok (.invokevirtual 96, 3) := by decide +kernel
theorem dX7_noThrow_28 : decode cX7_noThrow 28 = .ok (.ifCond .lt 16, 3) := by decide +kernel
theorem dX7_noThrow_31 : decode cX7_noThrow 31 = .ok (.aload_n 0, 1) := by decide +kernel
theorem dX7_noThrow_32 : decode cX7_noThrow 32 = .ok (.getfield 7, 3) := by decide +kernel
theorem dX7_noThrow_35 : decode cX7_noThrow 35 = .ok (.bipush 25, 2) := by decide +kernel
theorem dX7_noThrow_37 : decode cX7_noThrow 37 = .ok (.iload_n 1, 1) := by decide +kernel
theorem dX7_noThrow_38 : decode cX7_noThrow 38 = .ok (.iadd, 1) := by decide +kernel
theorem dX7_noThrow_39 : decode cX7_noThrow 39 = .ok (.iaload, 1) := by decide +kernel
theorem dX7_noThrow_40 : decode cX7_noThrow 40 = .ok (.iconst 1, 1) := by decide +kernel
theorem dX7_noThrow_41 : decode cX7_noThrow 41 = .ok (.if_icmp .ne 6, 3) := by decide +kernel
theorem dX7_noThrow_44 : decode cX7_noThrow 44 = .ok (.bipush (-5), 2) := by decide +kernel
theorem dX7_noThrow_46 : decode cX7_noThrow 46 = .ok (.ireturn, 1) := by decide +kernel
theorem dX7_noThrow_47 : decode cX7_noThrow 47 = .ok (.aload_n 0, 1) := by decide +kernel
theorem dX7_noThrow_48 : decode cX7_noThrow 48 = .ok (.getfield 7, 3) := by decide +kernel
theorem dX7_noThrow_51 : decode cX7_noThrow 51 = .ok (.bipush 7, 2) := by decide +kernel
theorem dX7_noThrow_53 : decode cX7_noThrow 53 = .ok (.iaload, 1) := by decide +kernel
theorem dX7_noThrow_54 : decode cX7_noThrow 54 = .ok (.bipush 20, 2) := by decide +kernel
theorem dX7_noThrow_56 : decode cX7_noThrow 56 = .ok (.if_icmp .eq 10, 3) := by decide +kernel
theorem dX7_noThrow_59 : decode cX7_noThrow 59 = .ok (.aload_n 0, 1) := by decide +kernel
theorem dX7_noThrow_60 : decode cX7_noThrow 60 = .ok (.invokevirtual 106, 3) := by decide +kernel
theorem dX7_noThrow_63 : decode cX7_noThrow 63 = .ok (.ifCond .ne 8, 3) := by decide +kernel
theorem dX7_noThrow_66 : decode cX7_noThrow 66 = .ok (.bipush (-4), 2) := by decide +kernel
theorem dX7_noThrow_68 : decode cX7_noThrow 68 = .ok (.goto 4, 3) := by decide +kernel
theorem dX7_noThrow_71 : decode cX7_noThrow 71 = .ok (.iconst 0, 1) := by decide +kernel
theorem dX7_noThrow_72 : decode cX7_noThrow 72 = .ok (.ireturn, 1) := by decide +kernel
set_option maxRecDepth 20000 in
theorem ggX7_doThrow_X7_put : GoodIn wsX7_doThrow wsX7_put := goodIn_r _ [7, 1, 20, 21, 22, 23, 24, 25, 26, 27, 28, 29, 30, 31, 32] (by decide +kernel) (by decide +kernel)
set_option maxRecDepth 20000 in
theorem gX7_doThrow_X7_put : GoodIn wsX7_doThrow (wsV RX7 55 RX7 yX7_put wsX7_put) := goodIn_app (goodIn_of _ (by decide +kernel)) ggX7_doThrow_X7_put
set_option maxRecDepth 20000 in
theorem ggX7_doThrow_X7_putOnRack : GoodIn wsX7_doThrow wsX7_putOnRack := goodIn_r _ [11, 12, 13, 14, 6, 15, 1, 16, 17, 18, 19, 3, 4, 5, 7, 20, 21, 22, 23, 24, 25, 26, 27, 28, 29, 30, 31, 32] (by decide +kernel) (by decide +kernel)
set_option maxRecDepth 20000 in
theorem gX7_doThrow_X7_putOnRack : GoodIn wsX7_doThrow (wsV RX7 110 RX7 yX7_putOnRack wsX7_putOnRack) := goodIn_app (goodIn_of _ (by decide +kernel)) ggX7_doThrow_X7_putOnRack
theorem dX7_doThrow_0 : decode cX7_doThrow 0 = .ok (.aload_n 0, 1) := by decide +kernel
theorem dX7_doThrow_1 : decode cX7_doThrow 1 = .ok (.getfield 7, 3) := by decide +kernel
theorem dX7_doThrow_4 : decode cX7_doThrow 4 = .ok (.bipush 7, 2) := by decide +kernel
theorem dX7_doThrow_6 : decode cX7_doThrow 6 = .ok (.iaload, 1) := by decide +kernel
theorem dX7_doThrow_7 : decode cX7_doThrow 7 = .ok (.istore_n 3, 1) := by decide +kernel
theorem dX7_doThrow_8 : decode cX7_doThrow 8 = .ok (.aload_n 0, 1) := by decide +kernel
theorem dX7_doThrow_9 : decode cX7_doThrow 9 = .ok (.getfield 7, 3) := by decide +kernel
theorem dX7_doThrow_12 : decode cX7_doThrow 12 = .ok (.iconst 1, 1) := by decide +kernel
theorem dX7_doThrow_13 : decode cX7_doThrow 13 = .ok (.bipush 75, 2) := by decide +kernel
theorem dX7_doThrow_15 : decode cX7_doThrow 15 = .ok (.aload_n 0, 1) := by decide +kernel
theorem dX7_doThrow_16 : decode cX7_doThrow 16 = .ok (.getfield 7, 3) := by decide +kernel
theorem dX7_doThrow_19 : decode cX7_doThrow 19 = .ok (.iconst 1, 1) := by decide +kernel
theorem dX7_doThrow_20 : decode cX7_doThrow 20 = .ok (.iaload, 1) := by decide +kernel
theorem dX7_doThrow_21 : decode cX7_doThrow 21 = .ok (.imul, 1) := by decide +kernel
theorem dX7_doThrow_22 : decode cX7_doThrow 22 = .ok (.bipush 74, 2) := by decide +kernel
theorem dX7_doThrow_24 : decode cX7_doThrow 24 = .ok (.iadd, 1) := by decide +kernel
theorem dX7_doThrow_25 : decode cX7_doThrow 25 = .ok (.ldc 109, 2) := by decide +kernel
theorem dX7_doThrow_27 : decode cX7_doThrow 27 = .ok (.irem, 1) := by decide +kernel
theorem dX7_doThrow_28 : decode cX7_doThrow 28 = .ok (.iastore, 1) := by decide +kernel
theorem dX7_doThrow_29 : decode cX7_doThrow 29 = .ok (.aload_n 0, 1) := by decide +kernel
theorem dX7_doThrow_30 : decode cX7_doThrow 30 = .ok (.getfield 7, 3) := by decide +kernel
theorem dX7_doThrow_33 : decode cX7_doThrow 33 = .ok (.bipush 25, 2) := by decide +kernel
theorem dX7_doThrow_35 : decode cX7_doThrow 35 = .ok (.iload_n 1, 1) := by decide +kernel
theorem dX7_doThrow_36 : decode cX7_doThrow 36 = .ok (.iadd, 1) := by decide +kernel
theorem dX7_doThrow_37 : decode cX7_doThrow 37 = .ok (.iconst 1, 1) := by decide +kernel
theorem dX7_doThrow_38 : decode cX7_doThrow 38 = .ok (.iastore, 1) := by decide +kernel
theorem dX7_doThrow_39 : decode cX7_doThrow 39 = .ok (.aload_n 0, 1) := by decide +kernel
theorem dX7_doThrow_40 : decode cX7_doThrow 40 = .ok (.iload_n 3, 1) := by decide +kernel
theorem dX7_doThrow_41 : decode cX7_doThrow 41 = .ok (.iconst 0, 1) := by decide +kernel
theorem dX7_doThrow_42 : decode cX7_doThrow 42 = .ok (.iload_n 1, 1) := by decide +kernel
theorem dX7_doThrow_43 : decode cX7_doThrow 43 = .ok (.invokevirtual 55, 3) := by decide +kernel
theorem dX7_doThrow_46 : decode cX7_doThrow 46 = .ok (.aload_n 0, 1) := by decide +kernel
theorem dX7_doThrow_47 : decode cX7_doThrow 47 = .ok (.iload_n 3, 1) := by decide +kernel
theorem dX7_doThrow_48 : decode cX7_doThrow 48 = .ok (.iconst 1, 1) := by decide +kernel
theorem dX7_doThrow_49 : decode cX7_doThrow 49 = .ok (.iload_n 2, 1) := by decide +kernel
theorem dX7_doThrow_50 : decode cX7_doThrow 50 = .ok (.invokevirtual 55, 3) := by decide +kernel
theorem dX7_doThrow_53 : decode cX7_doThrow 53 = .ok (.aload_n 0, 1) := by decide +kernel
theorem dX7_doThrow_54 : decode cX7_doThrow 54 = .ok (.iload_n 3, 1) := by decide +kernel
theorem dX7_doThrow_55 : decode cX7_doThrow 55 = .ok (.iconst 2, 1) := by decide +kernel
theorem dX7_doThrow_56 : decode cX7_doThrow 56 = .ok (.aload_n 0, 1) := by decide +kernel
theorem dX7_doThrow_57 : decode cX7_doThrow 57 = .ok (.getfield 7, 3) := by decide +kernel
theorem dX7_doThrow_60 : decode cX7_doThrow 60 = .ok (.iconst 1, 1) := by decide +kernel
theorem dX7_doThrow_61 : decode cX7_doThrow 61 = .ok (.iaload, 1) := by decide +kernel
theorem dX7_doThrow_62 : decode cX7_doThrow 62 = .ok (.bipush 8, 2) := by decide +kernel
theorem dX7_doThrow_64 : decode cX7_doThrow 64 = .ok (.idiv, 1) := by decide +kernel
theorem dX7_doThrow_65 : decode cX7_doThrow 65 = .ok (.bipush 10, 2) := by decide +kernel
theorem dX7_doThrow_67 : decode cX7_doThrow 67 = .ok (.irem, 1) := by decide +kernel
theorem dX7_doThrow_68 : decode cX7_doThrow 68 = .ok (.invokevirtual 55, 3) := by decide +kernel
theorem dX7_doThrow_71 : decode cX7_doThrow 71 = .ok (.aload_n 0, 1) := by decide +kernel
theorem dX7_doThrow_72 : decode cX7_doThrow 72 = .ok (.iload_n 3, 1) := by decide +kernel
theorem dX7_doThrow_73 : decode cX7_doThrow 73 = .ok (.iconst 3, 1) := by decide +kernel
theorem dX7_doThrow_74 : decode cX7_doThrow 74 = .ok (.iconst 0, 1) := by decide +kernel
theorem dX7_doThrow_75 : decode cX7_doThrow 75 = .ok (.invokevirtual 55, 3) := by decide +kernel
theorem dX7_doThrow_78 : decode cX7_doThrow 78 = .ok (.aload_n 0, 1) := by decide +kernel
theorem dX7_doThrow_79 : decode cX7_doThrow 79 = .ok (.iload_n 3, 1) := by decide +kernel
theorem dX7_doThrow_80 : decode cX7_doThrow 80 = .ok (.bipush 6, 2) := by decide +kernel
theorem dX7_doThrow_82 : decode cX7_doThrow 82 = .ok (.iconst 0, 1) := by decide +kernel
theorem dX7_doThrow_83 : decode cX7_doThrow 83 = .ok (.invokevirtual 55, 3) := by decide +kernel
theorem dX7_doThrow_86 : decode cX7_doThrow 86 = .ok (.aload_n 0, 1) := by decide +kernel
theorem dX7_doThrow_87 : decode cX7_doThrow 87 = .ok (.iload_n 3, 1) := by decide +kernel
theorem dX7_doThrow_88 : decode cX7_doThrow 88 = .ok (.bipush 7, 2) := by decide +kernel
theorem dX7_doThrow_90 : decode cX7_doThrow 90 = .ok (.bipush (-6), 2) := by decide +kernel
theorem dX7_doThrow_92 : decode cX7_doThrow 92 = .ok (.invokevirtual 55, 3) := by decide +kernel
theorem dX7_doThrow_95 : decode cX7_doThrow 95 = .ok (.aload_n 0, 1) := by decide +kernel
theorem dX7_doThrow_96 : decode cX7_doThrow 96 = .ok (.iload_n 3, 1) := by decide +kernel
theorem dX7_doThrow_97 : decode cX7_doThrow 97 = .ok (.bipush 8, 2) := by decide +kernel
theorem dX7_doThrow_99 : decode cX7_doThrow 99 = .ok (.iconst 0, 1) := by decide +kernel
theorem dX7_doThrow_100 : decode cX7_doThrow 100 = .ok (.invokevirtual 55, 3) := by decide +kernel
theorem dX7_doThrow_103 : decode cX7_doThrow 103 = .ok (.aload_n 0, 1) := by decide +kernel
theorem dX7_doThrow_104 : decode cX7_doThrow 104 = .ok (.iload_n 3, 1) := by decide +kernel
theorem dX7_doThrow_105 : decode cX7_doThrow 105 = .ok (.invokevirtual 110, 3) := by decide +kernel
theorem dX7_doThrow_108 : decode cX7_doThrow 108 = .ok (.aload_n 0, 1) := by decide +kernel
theorem dX7_doThrow_109 : decode cX7_doThrow 109 = .ok (.getfield 7, 3) := by decide +kernel
theorem dX7_doThrow_112 : decode cX7_doThrow 112 = .ok (.bipush 7, 2) := by decide +kernel
theorem dX7_doThrow_114 : decode cX7_doThrow 114 = .ok (.dup2, 1) := by decide +kernel
theorem dX7_doThrow_115 : decode cX7_doThrow 115 = .ok (.iaload, 1) := by decide +kernel
theorem dX7_doThrow_116 : decode cX7_doThrow 116 = .ok (.iconst 1, 1) := by decide +kernel
theorem dX7_doThrow_117 : decode cX7_doThrow 117 = .ok (.iadd, 1) := by decide +kernel
theorem dX7_doThrow_118 : decode cX7_doThrow 118 = .ok (.iastore, 1) := by decide +kernel
theorem dX7_doThrow_119 : decode cX7_doThrow 119 = .ok (.iload_n 3, 1) := by decide +kernel
theorem dX7_doThrow_120 : decode cX7_doThrow 120 = .ok (.ireturn, 1) := by decide +kernel
set_option maxRecDepth 20000 in
theorem ggX7_throwPot_X7_noThrow : GoodIn wsX7_throwPot wsX7_noThrow := goodIn_r _ [5, 6, 7, 8, 9, 4, 10, 11, 12, 13, 14, 15, 16, 17, 18, 19, 20, 21, 22, 23, 24, 25, 26, 27, 28, 29, 30, 31, 32, 33, 34, 35, 36, 60, 61, 62, 63, 64, 65, 66, 67, 68, 69, 70, 71, 72] (by decide +kernel) (by decide +kernel)
set_option maxRecDepth 20000 in
theorem gX7_throwPot_X7_noThrow : GoodIn wsX7_throwPot (wsV RX7 114 RX7 yX7_noThrow wsX7_noThrow) := goodIn_app (goodIn_of _ (by decide +kernel)) ggX7_throwPot_X7_noThrow
set_option maxRecDepth 20000 in
theorem ggX7_throwPot_X7_record : GoodIn wsX7_throwPot wsX7_record := goodIn_r _ [40, 41, 42, 6, 60, 61, 62, 63, 64, 65, 66, 67, 68, 69, 70, 71, 72] (by decide +kernel) (by decide +kernel)
set_option maxRecDepth 20000 in
theorem gX7_throwPot_X7_record : GoodIn wsX7_throwPot (wsV RX7 34 RX7 yX7_record wsX7_record) := goodIn_app (goodIn_of _ (by decide +kernel)) ggX7_throwPot_X7_record
set_option maxRecDepth 20000 in
theorem ggX7_throwPot_X7_doThrow : GoodIn wsX7_throwPot wsX7_doThrow := goodIn_r _ [46, 6, 47, 48, 49, 50, 4, 51, 52, 53, 54, 55, 56, 57, 58, 59, 30, 31, 32, 33, 60, 61, 62, 63, 64, 65, 66, 67, 68, 69, 70, 71, 72] (by decide +kernel) (by decide +kernel)
set_option maxRecDepth 20000 in
theorem gX7_throwPot_X7_doThrow : GoodIn wsX7_throwPot (wsV RX7 117 RX7 yX7_doThrow wsX7_doThrow) := goodIn_app (goodIn_of _ (by decide +kernel)) ggX7_throwPot_X7_doThrow
theorem dX7_throwPot_0 : decode cX7_throwPot 0 = .ok (.aload_n 0, 1) := by decide +kernel
theorem dX7_throwPot_1 : decode cX7_throwPot 1 = .ok (.iload_n 1, 1) := by decide +kernel
theorem dX7_throwPot_2 : decode cX7_throwPot 2 = .ok (.iload_n 2, 1) := by decide +kernel
theorem dX7_throwPot_3 : decode cX7_throwPot 3 = .ok (.invokevirtual 114, 3) := by decide +kernel
theorem dX7_throwPot_6 : decode cX7_throwPot 6 = .ok (.istore_n 3, 1) := by decide +kernel
theorem dX7_throwPot_7 : decode cX7_throwPot 7 = .ok (.iload_n 3, 1) := by decide +kernel
theorem dX7_throwPot_8 : decode cX7_throwPot 8 = .ok (.ifCond .ge 5, 3) := by decide +kernel
theorem dX7_throwPot_11 : decode cX7_throwPot 11 = .ok (.iload_n 3, 1) := by decide +kernel
theorem dX7_throwPot_12 : decode cX7_throwPot 12 = .ok (.ireturn, 1) := by decide +kernel
theorem dX7_throwPot_13 : decode cX7_throwPot 13 = .ok (.aload_n 0, 1) := by decide +kernel
theorem dX7_throwPot_14 : decode cX7_throwPot 14 = .ok (.invokevirtual 34, 3) := by decide +kernel
theorem dX7_throwPot_17 : decode cX7_throwPot 17 = .ok (.aload_n 0, 1) := by decide +kernel
theorem dX7_throwPot_18 : decode cX7_throwPot 18 = .ok (.iload_n 1, 1) := by decide +kernel
theorem dX7_throwPot_19 : decode cX7_throwPot 19 = .ok (.iload_n 2, 1) := by decide +kernel
theorem dX7_throwPot_20 : decode cX7_throwPot 20 = .ok (.invokevirtual 117, 3) := by decide +kernel
theorem dX7_throwPot_23 : decode cX7_throwPot 23 = .ok (.ireturn, 1) := by decide +kernel
set_option maxRecDepth 20000 in
theorem ggX7_noLoad_X7_isPot : GoodIn wsX7_noLoad wsX7_isPot := goodIn_r _ [5, 6, 7, 8, 4, 9, 30, 31, 32, 33, 34, 35, 36, 37, 38, 39, 40, 41, 42] (by decide +kernel) (by decide +kernel)
set_option maxRecDepth 20000 in
theorem gX7_noLoad_X7_isPot : GoodIn wsX7_noLoad (wsV RX7 120 RX7 yX7_isPot wsX7_isPot) := goodIn_app (goodIn_of _ (by decide +kernel)) ggX7_noLoad_X7_isPot
set_option maxRecDepth 20000 in
theorem ggX7_noLoad_X7_whyNot : GoodIn wsX7_noLoad wsX7_whyNot := goodIn_r _ [13, 6, 14, 15, 16, 4, 17, 18, 19, 20, 21, 22, 23, 24, 25, 26, 27, 28, 29, 30, 31, 32, 33, 34, 35, 36, 37, 38, 39, 40, 41, 42] (by decide +kernel) (by decide +kernel)
set_option maxRecDepth 20000 in
theorem gX7_noLoad_X7_whyNot : GoodIn wsX7_noLoad (wsV RX7 123 RX7 yX7_whyNot wsX7_whyNot) := goodIn_app (goodIn_of _ (by decide +kernel)) ggX7_noLoad_X7_whyNot
theorem dX7_noLoad_0 : decode cX7_noLoad 0 = .ok (.aload_n 0, 1) := by decide +kernel
theorem dX7_noLoad_1 : decode cX7_noLoad 1 = .ok (.iload_n 1, 1) := by decide +kernel
theorem dX7_noLoad_2 : decode cX7_noLoad 2 = .ok (.invokevirtual 120, 3) := by decide +kernel
theorem dX7_noLoad_5 : decode cX7_noLoad 5 = .ok (.ifCond .ne 7, 3) := by decide +kernel
theorem dX7_noLoad_8 : decode cX7_noLoad 8 = .ok (.iconst (-1), 1) := by decide +kernel
theorem dX7_noLoad_9 : decode cX7_noLoad 9 = .ok (.goto 17, 3) := by decide +kernel
theorem dX7_noLoad_12 : decode cX7_noLoad 12 = .ok (.aload_n 0, 1) := by decide +kernel
theorem dX7_noLoad_13 : decode cX7_noLoad 13 = .ok (.iload_n 1, 1) := by decide +kernel
theorem dX7_noLoad_14 : decode cX7_noLoad 14 = .ok (.invokevirtual 123, 3) := by decide +kernel
theorem dX7_noLoad_17 : decode cX7_noLoad 17 = .ok (.ifCond .le 8, 3) := by decide +kernel
theorem dX7_noLoad_20 : decode cX7_noLoad 20 = .ok (.bipush (-5), 2) := by decide +kernel
theorem dX7_noLoad_22 : decode cX7_noLoad 22 = .ok (.goto 4, 3) := by decide +kernel
theorem dX7_noLoad_25 : decode cX7_noLoad 25 = .ok (.iconst 0, 1) := by decide +kernel
theorem dX7_noLoad_26 : decode cX7_noLoad 26 = .ok (.ireturn, 1) := by decide +kernel
set_option maxRecDepth 20000 in
theorem ggX7_doLoad_X7_put : GoodIn wsX7_doLoad wsX7_put := goodIn_r _ [5, 6, 15, 16, 17, 18, 19, 20, 21, 22, 23, 24, 25, 26, 27] (by decide +kernel) (by decide +kernel)
set_option maxRecDepth 20000 in
theorem gX7_doLoad_X7_put : GoodIn wsX7_doLoad (wsV RX7 55 RX7 yX7_put wsX7_put) := goodIn_app (goodIn_of _ (by decide +kernel)) ggX7_doLoad_X7_put
set_option maxRecDepth 20000 in
theorem ggX7_doLoad_X7_sizesInKiln : GoodIn wsX7_doLoad wsX7_sizesInKiln := goodIn_r _ [10, 6, 11, 12, 13, 4, 14, 15, 16, 17, 18, 19, 20, 21, 22, 23, 24, 25, 26, 27] (by decide +kernel) (by decide +kernel)
set_option maxRecDepth 20000 in
theorem gX7_doLoad_X7_sizesInKiln : GoodIn wsX7_doLoad (wsV RX7 65 RX7 yX7_sizesInKiln wsX7_sizesInKiln) := goodIn_app (goodIn_of _ (by decide +kernel)) ggX7_doLoad_X7_sizesInKiln
theorem dX7_doLoad_0 : decode cX7_doLoad 0 = .ok (.aload_n 0, 1) := by decide +kernel
theorem dX7_doLoad_1 : decode cX7_doLoad 1 = .ok (.iload_n 1, 1) := by decide +kernel
theorem dX7_doLoad_2 : decode cX7_doLoad 2 = .ok (.iconst 4, 1) := by decide +kernel
theorem dX7_doLoad_3 : decode cX7_doLoad 3 = .ok (.iconst 1, 1) := by decide +kernel
theorem dX7_doLoad_4 : decode cX7_doLoad 4 = .ok (.invokevirtual 55, 3) := by decide +kernel
theorem dX7_doLoad_7 : decode cX7_doLoad 7 = .ok (.aload_n 0, 1) := by decide +kernel
theorem dX7_doLoad_8 : decode cX7_doLoad 8 = .ok (.iload_n 1, 1) := by decide +kernel
theorem dX7_doLoad_9 : decode cX7_doLoad 9 = .ok (.iconst 5, 1) := by decide +kernel
theorem dX7_doLoad_10 : decode cX7_doLoad 10 = .ok (.bipush (-6), 2) := by decide +kernel
theorem dX7_doLoad_12 : decode cX7_doLoad 12 = .ok (.invokevirtual 55, 3) := by decide +kernel
theorem dX7_doLoad_15 : decode cX7_doLoad 15 = .ok (.aload_n 0, 1) := by decide +kernel
theorem dX7_doLoad_16 : decode cX7_doLoad 16 = .ok (.invokevirtual 65, 3) := by decide +kernel
theorem dX7_doLoad_19 : decode cX7_doLoad 19 = .ok (.ireturn, 1) := by decide +kernel
set_option maxRecDepth 20000 in
theorem ggX7_load_X7_noLoad : GoodIn wsX7_load wsX7_noLoad := goodIn_r _ [5, 6, 7, 8, 4, 9, 10, 11, 12, 13, 14, 15, 16, 17, 18, 19, 20, 21, 22, 23, 24, 25, 26, 27, 28, 29, 30, 31, 32, 33, 48, 49, 50, 51, 52, 53, 54, 55, 56, 57, 58, 59, 60] (by decide +kernel) (by decide +kernel)
set_option maxRecDepth 20000 in
theorem gX7_load_X7_noLoad : GoodIn wsX7_load (wsV RX7 126 RX7 yX7_noLoad wsX7_noLoad) := goodIn_app (goodIn_of _ (by decide +kernel)) ggX7_load_X7_noLoad
set_option maxRecDepth 20000 in
theorem ggX7_load_X7_record : GoodIn wsX7_load wsX7_record := goodIn_r _ [37, 38, 39, 10, 48, 49, 50, 51, 52, 53, 54, 55, 56, 57, 58, 59, 60] (by decide +kernel) (by decide +kernel)
set_option maxRecDepth 20000 in
theorem gX7_load_X7_record : GoodIn wsX7_load (wsV RX7 34 RX7 yX7_record wsX7_record) := goodIn_app (goodIn_of _ (by decide +kernel)) ggX7_load_X7_record
set_option maxRecDepth 20000 in
theorem ggX7_load_X7_doLoad : GoodIn wsX7_load wsX7_doLoad := goodIn_r _ [43, 44, 45, 46, 4, 47, 10, 30, 31, 32, 33, 18, 19, 20, 21, 48, 49, 50, 51, 52, 53, 54, 55, 56, 57, 58, 59, 60] (by decide +kernel) (by decide +kernel)
set_option maxRecDepth 20000 in
theorem gX7_load_X7_doLoad : GoodIn wsX7_load (wsV RX7 129 RX7 yX7_doLoad wsX7_doLoad) := goodIn_app (goodIn_of _ (by decide +kernel)) ggX7_load_X7_doLoad
theorem dX7_load_0 : decode cX7_load 0 = .ok (.aload_n 0, 1) := by decide +kernel
theorem dX7_load_1 : decode cX7_load 1 = .ok (.iload_n 1, 1) := by decide +kernel
theorem dX7_load_2 : decode cX7_load 2 = .ok (.invokevirtual 126, 3) := by decide +kernel
theorem dX7_load_5 : decode cX7_load 5 = .ok (.istore_n 2, 1) := by decide +kernel
theorem dX7_load_6 : decode cX7_load 6 = .ok (.iload_n 2, 1) := by decide +kernel
theorem dX7_load_7 : decode cX7_load 7 = .ok (.ifCond .ge 5, 3) := by decide +kernel
theorem dX7_load_10 : decode cX7_load 10 = .ok (.iload_n 2, 1) := by decide +kernel
theorem dX7_load_11 : decode cX7_load 11 = .ok (.ireturn, 1) := by decide +kernel
theorem dX7_load_12 : decode cX7_load 12 = .ok (.aload_n 0, 1) := by decide +kernel
theorem dX7_load_13 : decode cX7_load 13 = .ok (.invokevirtual 34, 3) := by decide +kernel
theorem dX7_load_16 : decode cX7_load 16 = .ok (.aload_n 0, 1) := by decide +kernel
theorem dX7_load_17 : decode cX7_load 17 = .ok (.iload_n 1, 1) := by decide +kernel
theorem dX7_load_18 : decode cX7_load 18 = .ok (.invokevirtual 129, 3) := by decide +kernel
theorem dX7_load_21 : decode cX7_load 21 = .ok (.ireturn, 1) := by decide +kernel
set_option maxRecDepth 20000 in
theorem ggX7_unload_X7_isPot : GoodIn wsX7_unload wsX7_isPot := goodIn_r _ [5, 6, 7, 8, 4, 9, 43, 44, 45, 46, 47, 48, 49, 50, 51, 52, 53, 54, 55] (by decide +kernel) (by decide +kernel)
set_option maxRecDepth 20000 in
theorem gX7_unload_X7_isPot : GoodIn wsX7_unload (wsV RX7 120 RX7 yX7_isPot wsX7_isPot) := goodIn_app (goodIn_of _ (by decide +kernel)) ggX7_unload_X7_isPot
set_option maxRecDepth 20000 in
theorem ggX7_unload_X7_pot : GoodIn wsX7_unload wsX7_pot := goodIn_r _ [13, 6, 43, 44, 45, 46, 47, 48, 49, 50, 51, 52, 53, 54, 55] (by decide +kernel) (by decide +kernel)
set_option maxRecDepth 20000 in
theorem gX7_unload_X7_pot : GoodIn wsX7_unload (wsV RX7 41 RX7 yX7_pot wsX7_pot) := goodIn_app (goodIn_of _ (by decide +kernel)) ggX7_unload_X7_pot
set_option maxRecDepth 20000 in
theorem ggX7_unload_X7_freePlaces : GoodIn wsX7_unload wsX7_freePlaces := goodIn_r _ [17, 18, 19, 20, 4, 21, 6, 10, 11, 12, 13, 22, 23, 24, 43, 44, 45, 46, 47, 48, 49, 50, 51, 52, 53, 54, 55] (by decide +kernel) (by decide +kernel)
set_option maxRecDepth 20000 in
theorem gX7_unload_X7_freePlaces : GoodIn wsX7_unload (wsV RX7 106 RX7 yX7_freePlaces wsX7_freePlaces) := goodIn_app (goodIn_of _ (by decide +kernel)) ggX7_unload_X7_freePlaces
set_option maxRecDepth 20000 in
theorem ggX7_unload_X7_record : GoodIn wsX7_unload wsX7_record := goodIn_r _ [28, 29, 30, 6, 43, 44, 45, 46, 47, 48, 49, 50, 51, 52, 53, 54, 55] (by decide +kernel) (by decide +kernel)
set_option maxRecDepth 20000 in
theorem gX7_unload_X7_record : GoodIn wsX7_unload (wsV RX7 34 RX7 yX7_record wsX7_record) := goodIn_app (goodIn_of _ (by decide +kernel)) ggX7_unload_X7_record
set_option maxRecDepth 20000 in
theorem ggX7_unload_X7_putOnRack : GoodIn wsX7_unload wsX7_putOnRack := goodIn_r _ [34, 35, 36, 37, 4, 38, 6, 10, 11, 12, 13, 39, 40, 41, 42, 43, 44, 45, 46, 47, 48, 49, 50, 51, 52, 53, 54, 55] (by decide +kernel) (by decide +kernel)
set_option maxRecDepth 20000 in
theorem gX7_unload_X7_putOnRack : GoodIn wsX7_unload (wsV RX7 110 RX7 yX7_putOnRack wsX7_putOnRack) := goodIn_app (goodIn_of _ (by decide +kernel)) ggX7_unload_X7_putOnRack
theorem dX7_unload_0 : decode cX7_unload 0 = .ok (.aload_n 0, 1) := by decide +kernel
theorem dX7_unload_1 : decode cX7_unload 1 = .ok (.iload_n 1, 1) := by decide +kernel
theorem dX7_unload_2 : decode cX7_unload 2 = .ok (.invokevirtual 120, 3) := by decide +kernel
theorem dX7_unload_5 : decode cX7_unload 5 = .ok (.ifCond .ne 5, 3) := by decide +kernel
theorem dX7_unload_8 : decode cX7_unload 8 = .ok (.iconst (-1), 1) := by decide +kernel
theorem dX7_unload_9 : decode cX7_unload 9 = .ok (.ireturn, 1) := by decide +kernel
theorem dX7_unload_10 : decode cX7_unload 10 = .ok (.aload_n 0, 1) := by decide +kernel
theorem dX7_unload_11 : decode cX7_unload 11 = .ok (.iload_n 1, 1) := by decide +kernel
theorem dX7_unload_12 : decode cX7_unload 12 = .ok (.iconst 4, 1) := by decide +kernel
theorem dX7_unload_13 : decode cX7_unload 13 = .ok (.invokevirtual 41, 3) := by decide +kernel
theorem dX7_unload_16 : decode cX7_unload 16 = .ok (.iconst 1, 1) := by decide +kernel
theorem dX7_unload_17 : decode cX7_unload 17 = .ok (.if_icmp .eq 6, 3) := by decide +kernel
theorem dX7_unload_20 : decode cX7_unload 20 = .ok (.bipush (-5), 2) := by decide +kernel
theorem dX7_unload_22 : decode cX7_unload 22 = .ok (.ireturn, 1) := by decide +kernel
theorem dX7_unload_23 : decode cX7_unload 23 = .ok (.aload_n 0, 1) := by decide +kernel
theorem dX7_unload_24 : decode cX7_unload 24 = .ok (.invokevirtual 106, 3) := by decide +kernel
theorem dX7_unload_27 : decode cX7_unload 27 = .ok (.ifCond .ne 6, 3) := by decide +kernel
theorem dX7_unload_30 : decode cX7_unload 30 = .ok (.bipush (-4), 2) := by decide +kernel
theorem dX7_unload_32 : decode cX7_unload 32 = .ok (.ireturn, 1) := by decide +kernel
theorem dX7_unload_33 : decode cX7_unload 33 = .ok (.aload_n 0, 1) := by decide +kernel
theorem dX7_unload_34 : decode cX7_unload 34 = .ok (.invokevirtual 34, 3) := by decide +kernel
theorem dX7_unload_37 : decode cX7_unload 37 = .ok (.aload_n 0, 1) := by decide +kernel
theorem dX7_unload_38 : decode cX7_unload 38 = .ok (.iload_n 1, 1) := by decide +kernel
theorem dX7_unload_39 : decode cX7_unload 39 = .ok (.invokevirtual 110, 3) := by decide +kernel
theorem dX7_unload_42 : decode cX7_unload 42 = .ok (.aload_n 0, 1) := by decide +kernel
theorem dX7_unload_43 : decode cX7_unload 43 = .ok (.iload_n 1, 1) := by decide +kernel
theorem dX7_unload_44 : decode cX7_unload 44 = .ok (.iconst 5, 1) := by decide +kernel
theorem dX7_unload_45 : decode cX7_unload 45 = .ok (.invokevirtual 41, 3) := by decide +kernel
theorem dX7_unload_48 : decode cX7_unload 48 = .ok (.bipush 8, 2) := by decide +kernel
theorem dX7_unload_50 : decode cX7_unload 50 = .ok (.idiv, 1) := by decide +kernel
theorem dX7_unload_51 : decode cX7_unload 51 = .ok (.ireturn, 1) := by decide +kernel
set_option maxRecDepth 20000 in
theorem ggX7_noFire_X7_in : GoodIn wsX7_noFire wsX7_in := goodIn_r _ [4] (by decide +kernel) (by decide +kernel)
set_option maxRecDepth 20000 in
theorem gX7_noFire_X7_in : GoodIn wsX7_noFire (va_wsS RX7 26 yX7_in wsX7_in) := goodIn_app (goodIn_of _ (by decide +kernel)) ggX7_noFire_X7_in
set_option maxRecDepth 20000 in
theorem ggX7_noFire_X7_potsAt : GoodIn wsX7_noFire wsX7_potsAt := goodIn_r _ [8, 9, 10, 11, 12, 3, 13, 32, 33, 34, 35, 36, 37, 38, 39, 40, 41, 42, 43, 44] (by decide +kernel) (by decide +kernel)
set_option maxRecDepth 20000 in
theorem gX7_noFire_X7_potsAt : GoodIn wsX7_noFire (wsV RX7 44 RX7 yX7_potsAt wsX7_potsAt) := goodIn_app (goodIn_of _ (by decide +kernel)) ggX7_noFire_X7_potsAt
set_option maxRecDepth 20000 in
theorem ggX7_noFire_X7_ones : GoodIn wsX7_noFire wsX7_ones := goodIn_r _ [16] (by decide +kernel) (by decide +kernel)
set_option maxRecDepth 20000 in
theorem gX7_noFire_X7_ones : GoodIn wsX7_noFire (va_wsS RX7 48 yX7_ones wsX7_ones) := goodIn_app (goodIn_of _ (by decide +kernel)) ggX7_noFire_X7_ones
set_option maxRecDepth 20000 in
theorem ggX7_noFire_X7_firedTo : GoodIn wsX7_noFire wsX7_firedTo := goodIn_r _ [20, 9, 10, 11, 12, 3, 13, 21, 22, 23, 24, 25, 26, 27, 32, 33, 34, 35, 36, 37, 38, 39, 40, 41, 42, 43, 44] (by decide +kernel) (by decide +kernel)
set_option maxRecDepth 20000 in
theorem gX7_noFire_X7_firedTo : GoodIn wsX7_noFire (wsV RX7 132 RX7 yX7_firedTo wsX7_firedTo) := goodIn_app (goodIn_of _ (by decide +kernel)) ggX7_noFire_X7_firedTo
set_option maxRecDepth 20000 in
theorem ggX7_noFire_X7_freePlaces : GoodIn wsX7_noFire wsX7_freePlaces := goodIn_r _ [31, 5, 6, 7, 3, 8, 9, 10, 11, 12, 13, 14, 15, 16, 32, 33, 34, 35, 36, 37, 38, 39, 40, 41, 42, 43, 44] (by decide +kernel) (by decide +kernel)
set_option maxRecDepth 20000 in
theorem gX7_noFire_X7_freePlaces : GoodIn wsX7_noFire (wsV RX7 106 RX7 yX7_freePlaces wsX7_freePlaces) := goodIn_app (goodIn_of _ (by decide +kernel)) ggX7_noFire_X7_freePlaces
theorem dX7_noFire_0 : decode cX7_noFire 0 = .ok (.iload_n 1, 1) := by decide +kernel
theorem dX7_noFire_1 : decode cX7_noFire 1 = .ok (.bipush 80, 2) := by decide +kernel
theorem dX7_noFire_3 : decode cX7_noFire 3 = .ok (.sipush 140, 3) := by decide +kernel
theorem dX7_noFire_6 : decode cX7_noFire 6 = .ok (.invokestatic 26, 3) := by decide +kernel
theorem dX7_noFire_9 : decode cX7_noFire 9 = .ok (.ifCond .ne 6, 3) := by decide +kernel
theorem dX7_noFire_12 : decode cX7_noFire 12 = .ok (.bipush (-2), 2) := by decide +kernel
theorem dX7_noFire_14 : decode cX7_noFire 14 = .ok (.ireturn, 1) := by decide +kernel
theorem dX7_noFire_15 : decode cX7_noFire 15 = .ok (.aload_n 0, 1) := by decide +kernel
theorem dX7_noFire_16 : decode cX7_noFire 16 = .ok (.iconst 1, 1) := by decide +kernel
theorem dX7_noFire_17 : decode cX7_noFire 17 = .ok (.invokevirtual 44, 3) := by decide +kernel
theorem dX7_noFire_20 : decode cX7_noFire 20 = .ok (.istore_n 2, 1) := by decide +kernel
theorem dX7_noFire_21 : decode cX7_noFire 21 = .ok (.iload_n 2, 1) := by decide +kernel
theorem dX7_noFire_22 : decode cX7_noFire 22 = .ok (.ifCond .ne 6, 3) := by decide +kernel
theorem dX7_noFire_25 : decode cX7_noFire 25 = .ok (.bipush (-5), 2) := by decide +kernel
theorem dX7_noFire_27 : decode cX7_noFire 27 = .ok (.ireturn, 1) := by decide +kernel
theorem dX7_noFire_28 : decode cX7_noFire 28 = .ok (.iload_n 2, 1) := by decide +kernel
theorem dX7_noFire_29 : decode cX7_noFire 29 = .ok (.invokestatic 48, 3) := by decide +kernel
theorem dX7_noFire_32 : decode cX7_noFire 32 = .ok (.aload_n 0, 1) := by decide +kernel
theorem dX7_noFire_33 : decode cX7_noFire 33 = .ok (.iload_n 1, 1) := by decide +kernel
theorem dX7_noFire_34 : decode cX7_noFire 34 = .ok (.iconst 4, 1) := by decide +kernel
theorem dX7_noFire_35 : decode cX7_noFire 35 = .ok (.iconst 1, 1) := by decide +kernel
theorem dX7_noFire_36 : decode cX7_noFire 36 = .ok (.invokevirtual 132, 3) := by decide +kernel
theorem dX7_noFire_39 : decode cX7_noFire 39 = .ok (.invokestatic 48, 3) := by decide +kernel
theorem dX7_noFire_42 : decode cX7_noFire 42 = .ok (.isub, 1) := by decide +kernel
theorem dX7_noFire_43 : decode cX7_noFire 43 = .ok (.aload_n 0, 1) := by decide +kernel
theorem dX7_noFire_44 : decode cX7_noFire 44 = .ok (.invokevirtual 106, 3) := by decide +kernel
theorem dX7_noFire_47 : decode cX7_noFire 47 = .ok (.if_icmp .le 8, 3) := by decide +kernel
theorem dX7_noFire_50 : decode cX7_noFire 50 = .ok (.bipush (-4), 2) := by decide +kernel
theorem dX7_noFire_52 : decode cX7_noFire 52 = .ok (.goto 4, 3) := by decide +kernel
theorem dX7_noFire_55 : decode cX7_noFire 55 = .ok (.iconst 0, 1) := by decide +kernel
theorem dX7_noFire_56 : decode cX7_noFire 56 = .ok (.ireturn, 1) := by decide +kernel
set_option maxRecDepth 20000 in
theorem ggX7_doFire_X7_pot : GoodIn wsX7_doFire wsX7_pot := goodIn_r _ [6, 1, 26, 27, 28, 29, 30, 31, 32, 33, 34, 35, 36, 37, 38] (by decide +kernel) (by decide +kernel)
set_option maxRecDepth 20000 in
theorem gX7_doFire_X7_pot : GoodIn wsX7_doFire (wsV RX7 41 RX7 yX7_pot wsX7_pot) := goodIn_app (goodIn_of _ (by decide +kernel)) ggX7_doFire_X7_pot
set_option maxRecDepth 20000 in
theorem ggX7_doFire_X7_fired : GoodIn wsX7_doFire wsX7_fired := goodIn_r _ [10, 1, 2, 3, 4, 5, 6, 11, 12, 13, 26, 27, 28, 29, 30, 31, 32, 33, 34, 35, 36, 37, 38] (by decide +kernel) (by decide +kernel)
set_option maxRecDepth 20000 in
theorem gX7_doFire_X7_fired : GoodIn wsX7_doFire (wsV RX7 72 RX7 yX7_fired wsX7_fired) := goodIn_app (goodIn_of _ (by decide +kernel)) ggX7_doFire_X7_fired
set_option maxRecDepth 20000 in
theorem ggX7_doFire_X7_put : GoodIn wsX7_doFire wsX7_put := goodIn_r _ [17, 1, 26, 27, 28, 29, 30, 31, 32, 33, 34, 35, 36, 37, 38] (by decide +kernel) (by decide +kernel)
set_option maxRecDepth 20000 in
theorem gX7_doFire_X7_put : GoodIn wsX7_doFire (wsV RX7 55 RX7 yX7_put wsX7_put) := goodIn_app (goodIn_of _ (by decide +kernel)) ggX7_doFire_X7_put
set_option maxRecDepth 20000 in
theorem ggX7_doFire_X7_putOnRack : GoodIn wsX7_doFire wsX7_putOnRack := goodIn_r _ [21, 22, 23, 24, 5, 25, 1, 2, 3, 4, 6, 14, 15, 16, 17, 26, 27, 28, 29, 30, 31, 32, 33, 34, 35, 36, 37, 38] (by decide +kernel) (by decide +kernel)
set_option maxRecDepth 20000 in
theorem gX7_doFire_X7_putOnRack : GoodIn wsX7_doFire (wsV RX7 110 RX7 yX7_putOnRack wsX7_putOnRack) := goodIn_app (goodIn_of _ (by decide +kernel)) ggX7_doFire_X7_putOnRack
theorem dX7_doFire_0 : decode cX7_doFire 0 = .ok (.iconst 0, 1) := by decide +kernel
theorem dX7_doFire_1 : decode cX7_doFire 1 = .ok (.istore_n 2, 1) := by decide +kernel
theorem dX7_doFire_2 : decode cX7_doFire 2 = .ok (.iconst 0, 1) := by decide +kernel
theorem dX7_doFire_3 : decode cX7_doFire 3 = .ok (.istore_n 3, 1) := by decide +kernel
theorem dX7_doFire_4 : decode cX7_doFire 4 = .ok (.iload_n 3, 1) := by decide +kernel
theorem dX7_doFire_5 : decode cX7_doFire 5 = .ok (.aload_n 0, 1) := by decide +kernel
theorem dX7_doFire_6 : decode cX7_doFire 6 = .ok (.getfield 7, 3) := by decide +kernel
theorem dX7_doFire_9 : decode cX7_doFire 9 = .ok (.bipush 7, 2) := by decide +kernel
theorem dX7_doFire_11 : decode cX7_doFire 11 = .ok (.iaload, 1) := by decide +kernel
theorem dX7_doFire_12 : decode cX7_doFire 12 = .ok (.if_icmp .ge 106, 3) := by decide +kernel
theorem dX7_doFire_15 : decode cX7_doFire 15 = .ok (.aload_n 0, 1) := by decide +kernel
theorem dX7_doFire_16 : decode cX7_doFire 16 = .ok (.iload_n 3, 1) := by decide +kernel
theorem dX7_doFire_17 : decode cX7_doFire 17 = .ok (.iconst 4, 1) := by decide +kernel
theorem dX7_doFire_18 : decode cX7_doFire 18 = .ok (.invokevirtual 41, 3) := by decide +kernel
theorem dX7_doFire_21 : decode cX7_doFire 21 = .ok (.iconst 1, 1) := by decide +kernel
theorem dX7_doFire_22 : decode cX7_doFire 22 = .ok (.if_icmp .ne 90, 3) := by decide +kernel
theorem dX7_doFire_25 : decode cX7_doFire 25 = .ok (.aload_n 0, 1) := by decide +kernel
theorem dX7_doFire_26 : decode cX7_doFire 26 = .ok (.iload_n 3, 1) := by decide +kernel
theorem dX7_doFire_27 : decode cX7_doFire 27 = .ok (.iload_n 1, 1) := by decide +kernel
theorem dX7_doFire_28 : decode cX7_doFire 28 = .ok (.invokevirtual 72, 3) := by decide +kernel
theorem dX7_doFire_31 : decode cX7_doFire 31 = .ok (.istore 4, 2) := by decide +kernel
theorem dX7_doFire_33 : decode cX7_doFire 33 = .ok (.aload_n 0, 1) := by decide +kernel
theorem dX7_doFire_34 : decode cX7_doFire 34 = .ok (.iload_n 3, 1) := by decide +kernel
theorem dX7_doFire_35 : decode cX7_doFire 35 = .ok (.iconst 3, 1) := by decide +kernel
theorem dX7_doFire_36 : decode cX7_doFire 36 = .ok (.iload 4, 2) := by decide +kernel
theorem dX7_doFire_38 : decode cX7_doFire 38 = .ok (.invokevirtual 55, 3) := by decide +kernel
theorem dX7_doFire_41 : decode cX7_doFire 41 = .ok (.aload_n 0, 1) := by decide +kernel
theorem dX7_doFire_42 : decode cX7_doFire 42 = .ok (.iload_n 3, 1) := by decide +kernel
theorem dX7_doFire_43 : decode cX7_doFire 43 = .ok (.bipush 8, 2) := by decide +kernel
theorem dX7_doFire_45 : decode cX7_doFire 45 = .ok (.aload_n 0, 1) := by decide +kernel
theorem dX7_doFire_46 : decode cX7_doFire 46 = .ok (.iload_n 3, 1) := by decide +kernel
theorem dX7_doFire_47 : decode cX7_doFire 47 = .ok (.bipush 8, 2) := by decide +kernel
theorem dX7_doFire_49 : decode cX7_doFire 49 = .ok (.invokevirtual 41, 3) := by decide +kernel
theorem dX7_doFire_52 : decode cX7_doFire 52 = .ok (.iconst 1, 1) := by decide +kernel
theorem dX7_doFire_53 : decode cX7_doFire 53 = .ok (.iadd, 1) := by decide +kernel
theorem dX7_doFire_54 : decode cX7_doFire 54 = .ok (.invokevirtual 55, 3) := by decide +kernel
theorem dX7_doFire_57 : decode cX7_doFire 57 = .ok (.aload_n 0, 1) := by decide +kernel
theorem dX7_doFire_58 : decode cX7_doFire 58 = .ok (.iload_n 3, 1) := by decide +kernel
theorem dX7_doFire_59 : decode cX7_doFire 59 = .ok (.bipush 7, 2) := by decide +kernel
theorem dX7_doFire_61 : decode cX7_doFire 61 = .ok (.iload 4, 2) := by decide +kernel
theorem dX7_doFire_63 : decode cX7_doFire 63 = .ok (.iconst 2, 1) := by decide +kernel
theorem dX7_doFire_64 : decode cX7_doFire 64 = .ok (.if_icmp .eq 9, 3) := by decide +kernel
theorem dX7_doFire_67 : decode cX7_doFire 67 = .ok (.iload 4, 2) := by decide +kernel
theorem dX7_doFire_69 : decode cX7_doFire 69 = .ok (.iconst 3, 1) := by decide +kernel
theorem dX7_doFire_70 : decode cX7_doFire 70 = .ok (.if_icmp .ne 13, 3) := by decide +kernel
theorem dX7_doFire_73 : decode cX7_doFire 73 = .ok (.aload_n 0, 1) := by decide +kernel
theorem dX7_doFire_74 : decode cX7_doFire 74 = .ok (.iload_n 3, 1) := by decide +kernel
theorem dX7_doFire_75 : decode cX7_doFire 75 = .ok (.bipush 7, 2) := by decide +kernel
theorem dX7_doFire_77 : decode cX7_doFire 77 = .ok (.invokevirtual 41, 3) := by decide +kernel
theorem dX7_doFire_80 : decode cX7_doFire 80 = .ok (.goto 5, 3) := by decide +kernel
theorem dX7_doFire_83 : decode cX7_doFire 83 = .ok (.bipush (-6), 2) := by decide +kernel
theorem dX7_doFire_85 : decode cX7_doFire 85 = .ok (.invokevirtual 55, 3) := by decide +kernel
theorem dX7_doFire_88 : decode cX7_doFire 88 = .ok (.iload 4, 2) := by decide +kernel
theorem dX7_doFire_90 : decode cX7_doFire 90 = .ok (.iconst 4, 1) := by decide +kernel
theorem dX7_doFire_91 : decode cX7_doFire 91 = .ok (.if_icmp .ne 16, 3) := by decide +kernel
theorem dX7_doFire_94 : decode cX7_doFire 94 = .ok (.aload_n 0, 1) := by decide +kernel
theorem dX7_doFire_95 : decode cX7_doFire 95 = .ok (.iload_n 3, 1) := by decide +kernel
theorem dX7_doFire_96 : decode cX7_doFire 96 = .ok (.iconst 4, 1) := by decide +kernel
theorem dX7_doFire_97 : decode cX7_doFire 97 = .ok (.iconst 2, 1) := by decide +kernel
theorem dX7_doFire_98 : decode cX7_doFire 98 = .ok (.invokevirtual 55, 3) := by decide +kernel
theorem dX7_doFire_101 : decode cX7_doFire 101 = .ok (.iinc 2 1, 3) := by decide +kernel
theorem dX7_doFire_104 : decode cX7_doFire 104 = .ok (.goto 8, 3) := by decide +kernel
theorem dX7_doFire_107 : decode cX7_doFire 107 = .ok (.aload_n 0, 1) := by decide +kernel
theorem dX7_doFire_108 : decode cX7_doFire 108 = .ok (.iload_n 3, 1) := by decide +kernel
theorem dX7_doFire_109 : decode cX7_doFire 109 = .ok (.invokevirtual 110, 3) := by decide +kernel
theorem dX7_doFire_112 : decode cX7_doFire 112 = .ok (.iinc 3 1, 3) := by decide +kernel
theorem dX7_doFire_115 : decode cX7_doFire 115 = .ok (.goto (-111), 3) := by decide +kernel
theorem dX7_doFire_118 : decode cX7_doFire 118 = .ok (.aload_n 0, 1) := by decide +kernel
theorem dX7_doFire_119 : decode cX7_doFire 119 = .ok (.getfield 7, 3) := by decide +kernel
theorem dX7_doFire_122 : decode cX7_doFire 122 = .ok (.bipush 8, 2) := by decide +kernel
theorem dX7_doFire_124 : decode cX7_doFire 124 = .ok (.dup2, 1) := by decide +kernel
theorem dX7_doFire_125 : decode cX7_doFire 125 = .ok (.iaload, 1) := by decide +kernel
theorem dX7_doFire_126 : decode cX7_doFire 126 = .ok (.iconst 1, 1) := by decide +kernel
theorem dX7_doFire_127 : decode cX7_doFire 127 = .ok (.iadd, 1) := by decide +kernel
theorem dX7_doFire_128 : decode cX7_doFire 128 = .ok (.iastore, 1) := by decide +kernel
theorem dX7_doFire_129 : decode cX7_doFire 129 = .ok (.aload_n 0, 1) := by decide +kernel
theorem dX7_doFire_130 : decode cX7_doFire 130 = .ok (.getfield 7, 3) := by decide +kernel
theorem dX7_doFire_133 : decode cX7_doFire 133 = .ok (.bipush 9, 2) := by decide +kernel
theorem dX7_doFire_135 : decode cX7_doFire 135 = .ok (.dup2, 1) := by decide +kernel
theorem dX7_doFire_136 : decode cX7_doFire 136 = .ok (.iaload, 1) := by decide +kernel
theorem dX7_doFire_137 : decode cX7_doFire 137 = .ok (.iload_n 2, 1) := by decide +kernel
theorem dX7_doFire_138 : decode cX7_doFire 138 = .ok (.iadd, 1) := by decide +kernel
theorem dX7_doFire_139 : decode cX7_doFire 139 = .ok (.iastore, 1) := by decide +kernel
theorem dX7_doFire_140 : decode cX7_doFire 140 = .ok (.iload_n 2, 1) := by decide +kernel
theorem dX7_doFire_141 : decode cX7_doFire 141 = .ok (.ireturn, 1) := by decide +kernel
set_option maxRecDepth 20000 in
theorem ggX7_fire_X7_noFire : GoodIn wsX7_fire wsX7_noFire := goodIn_r _ [5, 6, 7, 4, 8, 9, 10, 11, 12, 13, 14, 15, 16, 17, 18, 19, 20, 21, 22, 23, 24, 25, 26, 27, 28, 29, 30, 31, 32, 33, 34, 35, 58, 59, 60, 61, 62, 63, 64, 65, 66, 67, 68, 69, 70] (by decide +kernel) (by decide +kernel)
set_option maxRecDepth 20000 in
theorem gX7_fire_X7_noFire : GoodIn wsX7_fire (wsV RX7 136 RX7 yX7_noFire wsX7_noFire) := goodIn_app (goodIn_of _ (by decide +kernel)) ggX7_fire_X7_noFire
set_option maxRecDepth 20000 in
theorem ggX7_fire_X7_record : GoodIn wsX7_fire wsX7_record := goodIn_r _ [39, 40, 41, 13, 58, 59, 60, 61, 62, 63, 64, 65, 66, 67, 68, 69, 70] (by decide +kernel) (by decide +kernel)
set_option maxRecDepth 20000 in
theorem gX7_fire_X7_record : GoodIn wsX7_fire (wsV RX7 34 RX7 yX7_record wsX7_record) := goodIn_app (goodIn_of _ (by decide +kernel)) ggX7_fire_X7_record
set_option maxRecDepth 20000 in
theorem ggX7_fire_X7_doFire : GoodIn wsX7_fire wsX7_doFire := goodIn_r _ [45, 13, 14, 15, 16, 4, 17, 25, 26, 27, 28, 29, 30, 31, 46, 47, 48, 49, 50, 51, 52, 53, 54, 55, 56, 57, 58, 59, 60, 61, 62, 63, 64, 65, 66, 67, 68, 69, 70] (by decide +kernel) (by decide +kernel)
set_option maxRecDepth 20000 in
theorem gX7_fire_X7_doFire : GoodIn wsX7_fire (wsV RX7 139 RX7 yX7_doFire wsX7_doFire) := goodIn_app (goodIn_of _ (by decide +kernel)) ggX7_fire_X7_doFire
theorem dX7_fire_0 : decode cX7_fire 0 = .ok (.aload_n 0, 1) := by decide +kernel
theorem dX7_fire_1 : decode cX7_fire 1 = .ok (.iload_n 1, 1) := by decide +kernel
theorem dX7_fire_2 : decode cX7_fire 2 = .ok (.invokevirtual 136, 3) := by decide +kernel
theorem dX7_fire_5 : decode cX7_fire 5 = .ok (.istore_n 2, 1) := by decide +kernel
theorem dX7_fire_6 : decode cX7_fire 6 = .ok (.iload_n 2, 1) := by decide +kernel
theorem dX7_fire_7 : decode cX7_fire 7 = .ok (.ifCond .ge 5, 3) := by decide +kernel
theorem dX7_fire_10 : decode cX7_fire 10 = .ok (.iload_n 2, 1) := by decide +kernel
theorem dX7_fire_11 : decode cX7_fire 11 = .ok (.ireturn, 1) := by decide +kernel
theorem dX7_fire_12 : decode cX7_fire 12 = .ok (.aload_n 0, 1) := by decide +kernel
theorem dX7_fire_13 : decode cX7_fire 13 = .ok (.invokevirtual 34, 3) := by decide +kernel
theorem dX7_fire_16 : decode cX7_fire 16 = .ok (.aload_n 0, 1) := by decide +kernel
theorem dX7_fire_17 : decode cX7_fire 17 = .ok (.iload_n 1, 1) := by decide +kernel
theorem dX7_fire_18 : decode cX7_fire 18 = .ok (.invokevirtual 139, 3) := by decide +kernel
theorem dX7_fire_21 : decode cX7_fire 21 = .ok (.ireturn, 1) := by decide +kernel
set_option maxRecDepth 20000 in
theorem ggX7_noGlaze_X7_isPot : GoodIn wsX7_noGlaze wsX7_isPot := goodIn_r _ [6, 1, 7, 8, 5, 9, 17, 18, 19, 20, 21, 22, 23, 24, 25, 26, 27, 28, 29] (by decide +kernel) (by decide +kernel)
set_option maxRecDepth 20000 in
theorem gX7_noGlaze_X7_isPot : GoodIn wsX7_noGlaze (wsV RX7 120 RX7 yX7_isPot wsX7_isPot) := goodIn_app (goodIn_of _ (by decide +kernel)) ggX7_noGlaze_X7_isPot
set_option maxRecDepth 20000 in
theorem ggX7_noGlaze_X7_isGlaze : GoodIn wsX7_noGlaze wsX7_isGlaze := goodIn_r _ [12, 7, 8, 5, 9] (by decide +kernel) (by decide +kernel)
set_option maxRecDepth 20000 in
theorem gX7_noGlaze_X7_isGlaze : GoodIn wsX7_noGlaze (va_wsS RX7 142 yX7_isGlaze wsX7_isGlaze) := goodIn_app (goodIn_of _ (by decide +kernel)) ggX7_noGlaze_X7_isGlaze
set_option maxRecDepth 20000 in
theorem ggX7_noGlaze_X7_pot : GoodIn wsX7_noGlaze wsX7_pot := goodIn_r _ [16, 1, 17, 18, 19, 20, 21, 22, 23, 24, 25, 26, 27, 28, 29] (by decide +kernel) (by decide +kernel)
set_option maxRecDepth 20000 in
theorem gX7_noGlaze_X7_pot : GoodIn wsX7_noGlaze (wsV RX7 41 RX7 yX7_pot wsX7_pot) := goodIn_app (goodIn_of _ (by decide +kernel)) ggX7_noGlaze_X7_pot
theorem dX7_noGlaze_0 : decode cX7_noGlaze 0 = .ok (.aload_n 0, 1) := by decide +kernel
theorem dX7_noGlaze_1 : decode cX7_noGlaze 1 = .ok (.iload_n 1, 1) := by decide +kernel
theorem dX7_noGlaze_2 : decode cX7_noGlaze 2 = .ok (.invokevirtual 120, 3) := by decide +kernel
theorem dX7_noGlaze_5 : decode cX7_noGlaze 5 = .ok (.ifCond .eq 10, 3) := by decide +kernel
theorem dX7_noGlaze_8 : decode cX7_noGlaze 8 = .ok (.iload_n 2, 1) := by decide +kernel
theorem dX7_noGlaze_9 : decode cX7_noGlaze 9 = .ok (.invokestatic 142, 3) := by decide +kernel
theorem dX7_noGlaze_12 : decode cX7_noGlaze 12 = .ok (.ifCond .ne 5, 3) := by decide +kernel
theorem dX7_noGlaze_15 : decode cX7_noGlaze 15 = .ok (.iconst (-1), 1) := by decide +kernel
theorem dX7_noGlaze_16 : decode cX7_noGlaze 16 = .ok (.ireturn, 1) := by decide +kernel
theorem dX7_noGlaze_17 : decode cX7_noGlaze 17 = .ok (.aload_n 0, 1) := by decide +kernel
theorem dX7_noGlaze_18 : decode cX7_noGlaze 18 = .ok (.iload_n 1, 1) := by decide +kernel
theorem dX7_noGlaze_19 : decode cX7_noGlaze 19 = .ok (.iconst 3, 1) := by decide +kernel
theorem dX7_noGlaze_20 : decode cX7_noGlaze 20 = .ok (.invokevirtual 41, 3) := by decide +kernel
theorem dX7_noGlaze_23 : decode cX7_noGlaze 23 = .ok (.iconst 1, 1) := by decide +kernel
theorem dX7_noGlaze_24 : decode cX7_noGlaze 24 = .ok (.if_icmp .ne 34, 3) := by decide +kernel
theorem dX7_noGlaze_27 : decode cX7_noGlaze 27 = .ok (.aload_n 0, 1) := by decide +kernel
theorem dX7_noGlaze_28 : decode cX7_noGlaze 28 = .ok (.iload_n 1, 1) := by decide +kernel
theorem dX7_noGlaze_29 : decode cX7_noGlaze 29 = .ok (.iconst 4, 1) := by decide +kernel
theorem dX7_noGlaze_30 : decode cX7_noGlaze 30 = .ok (.invokevirtual 41, 3) := by decide +kernel
theorem dX7_noGlaze_33 : decode cX7_noGlaze 33 = .ok (.ifCond .ne 25, 3) := by decide +kernel
theorem dX7_noGlaze_36 : decode cX7_noGlaze 36 = .ok (.aload_n 0, 1) := by decide +kernel
theorem dX7_noGlaze_37 : decode cX7_noGlaze 37 = .ok (.getfield 7, 3) := by decide +kernel
theorem dX7_noGlaze_40 : decode cX7_noGlaze 40 = .ok (.bipush 11, 2) := by decide +kernel
theorem dX7_noGlaze_42 : decode cX7_noGlaze 42 = .ok (.iload_n 2, 1) := by decide +kernel
theorem dX7_noGlaze_43 : decode cX7_noGlaze 43 = .ok (.iadd, 1) := by decide +kernel
theorem dX7_noGlaze_44 : decode cX7_noGlaze 44 = .ok (.iaload, 1) := by decide +kernel
theorem dX7_noGlaze_45 : decode cX7_noGlaze 45 = .ok (.aload_n 0, 1) := by decide +kernel
theorem dX7_noGlaze_46 : decode cX7_noGlaze 46 = .ok (.iload_n 1, 1) := by decide +kernel
theorem dX7_noGlaze_47 : decode cX7_noGlaze 47 = .ok (.iconst 1, 1) := by decide +kernel
theorem dX7_noGlaze_48 : decode cX7_noGlaze 48 = .ok (.invokevirtual 41, 3) := by decide +kernel
theorem dX7_noGlaze_51 : decode cX7_noGlaze 51 = .ok (.if_icmp .lt 7, 3) := by decide +kernel
theorem dX7_noGlaze_54 : decode cX7_noGlaze 54 = .ok (.iconst 1, 1) := by decide +kernel
theorem dX7_noGlaze_55 : decode cX7_noGlaze 55 = .ok (.goto 4, 3) := by decide +kernel
theorem dX7_noGlaze_58 : decode cX7_noGlaze 58 = .ok (.iconst 0, 1) := by decide +kernel
theorem dX7_noGlaze_59 : decode cX7_noGlaze 59 = .ok (.istore_n 3, 1) := by decide +kernel
theorem dX7_noGlaze_60 : decode cX7_noGlaze 60 = .ok (.iload_n 3, 1) := by decide +kernel
theorem dX7_noGlaze_61 : decode cX7_noGlaze 61 = .ok (.ifCond .eq 7, 3) := by decide +kernel
theorem dX7_noGlaze_64 : decode cX7_noGlaze 64 = .ok (.iconst 0, 1) := by decide +kernel
theorem dX7_noGlaze_65 : decode cX7_noGlaze 65 = .ok (.goto 5, 3) := by decide +kernel
theorem dX7_noGlaze_68 : decode cX7_noGlaze 68 = .ok (.bipush (-5), 2) := by decide +kernel
theorem dX7_noGlaze_70 : decode cX7_noGlaze 70 = .ok (.ireturn, 1) := by decide +kernel
set_option maxRecDepth 20000 in
theorem ggX7_doGlaze_X7_pot : GoodIn wsX7_doGlaze wsX7_pot := goodIn_r _ [6, 1, 11, 12, 13, 14, 15, 16, 17, 18, 19, 20, 21, 22, 23] (by decide +kernel) (by decide +kernel)
set_option maxRecDepth 20000 in
theorem gX7_doGlaze_X7_pot : GoodIn wsX7_doGlaze (wsV RX7 41 RX7 yX7_pot wsX7_pot) := goodIn_app (goodIn_of _ (by decide +kernel)) ggX7_doGlaze_X7_pot
set_option maxRecDepth 20000 in
theorem ggX7_doGlaze_X7_put : GoodIn wsX7_doGlaze wsX7_put := goodIn_r _ [10, 1, 11, 12, 13, 14, 15, 16, 17, 18, 19, 20, 21, 22, 23] (by decide +kernel) (by decide +kernel)
set_option maxRecDepth 20000 in
theorem gX7_doGlaze_X7_put : GoodIn wsX7_doGlaze (wsV RX7 55 RX7 yX7_put wsX7_put) := goodIn_app (goodIn_of _ (by decide +kernel)) ggX7_doGlaze_X7_put
theorem dX7_doGlaze_0 : decode cX7_doGlaze 0 = .ok (.aload_n 0, 1) := by decide +kernel
theorem dX7_doGlaze_1 : decode cX7_doGlaze 1 = .ok (.getfield 7, 3) := by decide +kernel
theorem dX7_doGlaze_4 : decode cX7_doGlaze 4 = .ok (.bipush 11, 2) := by decide +kernel
theorem dX7_doGlaze_6 : decode cX7_doGlaze 6 = .ok (.iload_n 2, 1) := by decide +kernel
theorem dX7_doGlaze_7 : decode cX7_doGlaze 7 = .ok (.iadd, 1) := by decide +kernel
theorem dX7_doGlaze_8 : decode cX7_doGlaze 8 = .ok (.dup2, 1) := by decide +kernel
theorem dX7_doGlaze_9 : decode cX7_doGlaze 9 = .ok (.iaload, 1) := by decide +kernel
theorem dX7_doGlaze_10 : decode cX7_doGlaze 10 = .ok (.aload_n 0, 1) := by decide +kernel
theorem dX7_doGlaze_11 : decode cX7_doGlaze 11 = .ok (.iload_n 1, 1) := by decide +kernel
theorem dX7_doGlaze_12 : decode cX7_doGlaze 12 = .ok (.iconst 1, 1) := by decide +kernel
theorem dX7_doGlaze_13 : decode cX7_doGlaze 13 = .ok (.invokevirtual 41, 3) := by decide +kernel
theorem dX7_doGlaze_16 : decode cX7_doGlaze 16 = .ok (.isub, 1) := by decide +kernel
theorem dX7_doGlaze_17 : decode cX7_doGlaze 17 = .ok (.iastore, 1) := by decide +kernel
theorem dX7_doGlaze_18 : decode cX7_doGlaze 18 = .ok (.aload_n 0, 1) := by decide +kernel
theorem dX7_doGlaze_19 : decode cX7_doGlaze 19 = .ok (.iload_n 1, 1) := by decide +kernel
theorem dX7_doGlaze_20 : decode cX7_doGlaze 20 = .ok (.iconst 3, 1) := by decide +kernel
theorem dX7_doGlaze_21 : decode cX7_doGlaze 21 = .ok (.iconst 2, 1) := by decide +kernel
theorem dX7_doGlaze_22 : decode cX7_doGlaze 22 = .ok (.invokevirtual 55, 3) := by decide +kernel
theorem dX7_doGlaze_25 : decode cX7_doGlaze 25 = .ok (.aload_n 0, 1) := by decide +kernel
theorem dX7_doGlaze_26 : decode cX7_doGlaze 26 = .ok (.iload_n 1, 1) := by decide +kernel
theorem dX7_doGlaze_27 : decode cX7_doGlaze 27 = .ok (.bipush 7, 2) := by decide +kernel
theorem dX7_doGlaze_29 : decode cX7_doGlaze 29 = .ok (.iload_n 2, 1) := by decide +kernel
theorem dX7_doGlaze_30 : decode cX7_doGlaze 30 = .ok (.invokevirtual 55, 3) := by decide +kernel
theorem dX7_doGlaze_33 : decode cX7_doGlaze 33 = .ok (.aload_n 0, 1) := by decide +kernel
theorem dX7_doGlaze_34 : decode cX7_doGlaze 34 = .ok (.getfield 7, 3) := by decide +kernel
theorem dX7_doGlaze_37 : decode cX7_doGlaze 37 = .ok (.bipush 11, 2) := by decide +kernel
theorem dX7_doGlaze_39 : decode cX7_doGlaze 39 = .ok (.iload_n 2, 1) := by decide +kernel
theorem dX7_doGlaze_40 : decode cX7_doGlaze 40 = .ok (.iadd, 1) := by decide +kernel
theorem dX7_doGlaze_41 : decode cX7_doGlaze 41 = .ok (.iaload, 1) := by decide +kernel
theorem dX7_doGlaze_42 : decode cX7_doGlaze 42 = .ok (.ireturn, 1) := by decide +kernel
set_option maxRecDepth 20000 in
theorem ggX7_glaze_X7_noGlaze : GoodIn wsX7_glaze wsX7_noGlaze := goodIn_r _ [5, 6, 7, 8, 9, 4, 10, 11, 12, 13, 14, 15, 16, 17, 18, 19, 20, 35, 36, 37, 38, 39, 40, 41, 42, 43, 44, 45, 46, 47] (by decide +kernel) (by decide +kernel)
set_option maxRecDepth 20000 in
theorem gX7_glaze_X7_noGlaze : GoodIn wsX7_glaze (wsV RX7 145 RX7 yX7_noGlaze wsX7_noGlaze) := goodIn_app (goodIn_of _ (by decide +kernel)) ggX7_glaze_X7_noGlaze
set_option maxRecDepth 20000 in
theorem ggX7_glaze_X7_record : GoodIn wsX7_glaze wsX7_record := goodIn_r _ [24, 25, 26, 6, 35, 36, 37, 38, 39, 40, 41, 42, 43, 44, 45, 46, 47] (by decide +kernel) (by decide +kernel)
set_option maxRecDepth 20000 in
theorem gX7_glaze_X7_record : GoodIn wsX7_glaze (wsV RX7 34 RX7 yX7_record wsX7_record) := goodIn_app (goodIn_of _ (by decide +kernel)) ggX7_glaze_X7_record
set_option maxRecDepth 20000 in
theorem ggX7_glaze_X7_doGlaze : GoodIn wsX7_glaze wsX7_doGlaze := goodIn_r _ [30, 6, 17, 18, 19, 4, 20, 31, 32, 33, 34, 35, 36, 37, 38, 39, 40, 41, 42, 43, 44, 45, 46, 47] (by decide +kernel) (by decide +kernel)
set_option maxRecDepth 20000 in
theorem gX7_glaze_X7_doGlaze : GoodIn wsX7_glaze (wsV RX7 148 RX7 yX7_doGlaze wsX7_doGlaze) := goodIn_app (goodIn_of _ (by decide +kernel)) ggX7_glaze_X7_doGlaze
theorem dX7_glaze_0 : decode cX7_glaze 0 = .ok (.aload_n 0, 1) := by decide +kernel
theorem dX7_glaze_1 : decode cX7_glaze 1 = .ok (.iload_n 1, 1) := by decide +kernel
theorem dX7_glaze_2 : decode cX7_glaze 2 = .ok (.iload_n 2, 1) := by decide +kernel
theorem dX7_glaze_3 : decode cX7_glaze 3 = .ok (.invokevirtual 145, 3) := by decide +kernel
theorem dX7_glaze_6 : decode cX7_glaze 6 = .ok (.istore_n 3, 1) := by decide +kernel
theorem dX7_glaze_7 : decode cX7_glaze 7 = .ok (.iload_n 3, 1) := by decide +kernel
theorem dX7_glaze_8 : decode cX7_glaze 8 = .ok (.ifCond .ge 5, 3) := by decide +kernel
theorem dX7_glaze_11 : decode cX7_glaze 11 = .ok (.iload_n 3, 1) := by decide +kernel
theorem dX7_glaze_12 : decode cX7_glaze 12 = .ok (.ireturn, 1) := by decide +kernel
theorem dX7_glaze_13 : decode cX7_glaze 13 = .ok (.aload_n 0, 1) := by decide +kernel
theorem dX7_glaze_14 : decode cX7_glaze 14 = .ok (.invokevirtual 34, 3) := by decide +kernel
theorem dX7_glaze_17 : decode cX7_glaze 17 = .ok (.aload_n 0, 1) := by decide +kernel
theorem dX7_glaze_18 : decode cX7_glaze 18 = .ok (.iload_n 1, 1) := by decide +kernel
theorem dX7_glaze_19 : decode cX7_glaze 19 = .ok (.iload_n 2, 1) := by decide +kernel
theorem dX7_glaze_20 : decode cX7_glaze 20 = .ok (.invokevirtual 148, 3) := by decide +kernel
theorem dX7_glaze_23 : decode cX7_glaze 23 = .ok (.ireturn, 1) := by decide +kernel
set_option maxRecDepth 20000 in
theorem ggX7_fill_X7_isGlaze : GoodIn wsX7_fill wsX7_isGlaze := goodIn_r _ [5, 6, 7, 4, 8] (by decide +kernel) (by decide +kernel)
set_option maxRecDepth 20000 in
theorem gX7_fill_X7_isGlaze : GoodIn wsX7_fill (va_wsS RX7 142 yX7_isGlaze wsX7_isGlaze) := goodIn_app (goodIn_of _ (by decide +kernel)) ggX7_fill_X7_isGlaze
set_option maxRecDepth 20000 in
theorem ggX7_fill_X7_in : GoodIn wsX7_fill wsX7_in := goodIn_r _ [8] (by decide +kernel) (by decide +kernel)
set_option maxRecDepth 20000 in
theorem gX7_fill_X7_in : GoodIn wsX7_fill (va_wsS RX7 26 yX7_in wsX7_in) := goodIn_app (goodIn_of _ (by decide +kernel)) ggX7_fill_X7_in
set_option maxRecDepth 20000 in
theorem ggX7_fill_X7_record : GoodIn wsX7_fill wsX7_record := goodIn_r _ [12, 13, 14, 1, 15, 16, 17, 18, 19, 20, 21, 22, 23, 24, 25, 26, 27] (by decide +kernel) (by decide +kernel)
set_option maxRecDepth 20000 in
theorem gX7_fill_X7_record : GoodIn wsX7_fill (wsV RX7 34 RX7 yX7_record wsX7_record) := goodIn_app (goodIn_of _ (by decide +kernel)) ggX7_fill_X7_record
theorem dX7_fill_0 : decode cX7_fill 0 = .ok (.iload_n 1, 1) := by decide +kernel
theorem dX7_fill_1 : decode cX7_fill 1 = .ok (.invokestatic 142, 3) := by decide +kernel
theorem dX7_fill_4 : decode cX7_fill 4 = .ok (.ifCond .ne 5, 3) := by decide +kernel
theorem dX7_fill_7 : decode cX7_fill 7 = .ok (.iconst (-1), 1) := by decide +kernel
theorem dX7_fill_8 : decode cX7_fill 8 = .ok (.ireturn, 1) := by decide +kernel
theorem dX7_fill_9 : decode cX7_fill 9 = .ok (.iload_n 2, 1) := by decide +kernel
theorem dX7_fill_10 : decode cX7_fill 10 = .ok (.iconst 1, 1) := by decide +kernel
theorem dX7_fill_11 : decode cX7_fill 11 = .ok (.bipush 99, 2) := by decide +kernel
theorem dX7_fill_13 : decode cX7_fill 13 = .ok (.invokestatic 26, 3) := by decide +kernel
theorem dX7_fill_16 : decode cX7_fill 16 = .ok (.ifCond .ne 6, 3) := by decide +kernel
theorem dX7_fill_19 : decode cX7_fill 19 = .ok (.bipush (-2), 2) := by decide +kernel
theorem dX7_fill_21 : decode cX7_fill 21 = .ok (.ireturn, 1) := by decide +kernel
theorem dX7_fill_22 : decode cX7_fill 22 = .ok (.aload_n 0, 1) := by decide +kernel
theorem dX7_fill_23 : decode cX7_fill 23 = .ok (.invokevirtual 34, 3) := by decide +kernel
theorem dX7_fill_26 : decode cX7_fill 26 = .ok (.aload_n 0, 1) := by decide +kernel
theorem dX7_fill_27 : decode cX7_fill 27 = .ok (.getfield 7, 3) := by decide +kernel
theorem dX7_fill_30 : decode cX7_fill 30 = .ok (.bipush 11, 2) := by decide +kernel
theorem dX7_fill_32 : decode cX7_fill 32 = .ok (.iload_n 1, 1) := by decide +kernel
theorem dX7_fill_33 : decode cX7_fill 33 = .ok (.iadd, 1) := by decide +kernel
theorem dX7_fill_34 : decode cX7_fill 34 = .ok (.aload_n 0, 1) := by decide +kernel
theorem dX7_fill_35 : decode cX7_fill 35 = .ok (.getfield 7, 3) := by decide +kernel
theorem dX7_fill_38 : decode cX7_fill 38 = .ok (.bipush 11, 2) := by decide +kernel
theorem dX7_fill_40 : decode cX7_fill 40 = .ok (.iload_n 1, 1) := by decide +kernel
theorem dX7_fill_41 : decode cX7_fill 41 = .ok (.iadd, 1) := by decide +kernel
theorem dX7_fill_42 : decode cX7_fill 42 = .ok (.iaload, 1) := by decide +kernel
theorem dX7_fill_43 : decode cX7_fill 43 = .ok (.iload_n 2, 1) := by decide +kernel
theorem dX7_fill_44 : decode cX7_fill 44 = .ok (.iadd, 1) := by decide +kernel
theorem dX7_fill_45 : decode cX7_fill 45 = .ok (.bipush 99, 2) := by decide +kernel
theorem dX7_fill_47 : decode cX7_fill 47 = .ok (.if_icmp .le 8, 3) := by decide +kernel
theorem dX7_fill_50 : decode cX7_fill 50 = .ok (.bipush 99, 2) := by decide +kernel
theorem dX7_fill_52 : decode cX7_fill 52 = .ok (.goto 14, 3) := by decide +kernel
theorem dX7_fill_55 : decode cX7_fill 55 = .ok (.aload_n 0, 1) := by decide +kernel
theorem dX7_fill_56 : decode cX7_fill 56 = .ok (.getfield 7, 3) := by decide +kernel
theorem dX7_fill_59 : decode cX7_fill 59 = .ok (.bipush 11, 2) := by decide +kernel
theorem dX7_fill_61 : decode cX7_fill 61 = .ok (.iload_n 1, 1) := by decide +kernel
theorem dX7_fill_62 : decode cX7_fill 62 = .ok (.iadd, 1) := by decide +kernel
theorem dX7_fill_63 : decode cX7_fill 63 = .ok (.iaload, 1) := by decide +kernel
theorem dX7_fill_64 : decode cX7_fill 64 = .ok (.iload_n 2, 1) := by decide +kernel
theorem dX7_fill_65 : decode cX7_fill 65 = .ok (.iadd, 1) := by decide +kernel
theorem dX7_fill_66 : decode cX7_fill 66 = .ok (.iastore, 1) := by decide +kernel
theorem dX7_fill_67 : decode cX7_fill 67 = .ok (.aload_n 0, 1) := by decide +kernel
theorem dX7_fill_68 : decode cX7_fill 68 = .ok (.getfield 7, 3) := by decide +kernel
theorem dX7_fill_71 : decode cX7_fill 71 = .ok (.bipush 11, 2) := by decide +kernel
theorem dX7_fill_73 : decode cX7_fill 73 = .ok (.iload_n 1, 1) := by decide +kernel
theorem dX7_fill_74 : decode cX7_fill 74 = .ok (.iadd, 1) := by decide +kernel
theorem dX7_fill_75 : decode cX7_fill 75 = .ok (.iaload, 1) := by decide +kernel
theorem dX7_fill_76 : decode cX7_fill 76 = .ok (.ireturn, 1) := by decide +kernel
set_option maxRecDepth 20000 in
theorem ggX7_noTakeHome_X7_isPot : GoodIn wsX7_noTakeHome wsX7_isPot := goodIn_r _ [5, 6, 7, 8, 4, 9, 14, 15, 16, 17, 18, 19, 20, 21, 22, 23, 24, 25, 26] (by decide +kernel) (by decide +kernel)
set_option maxRecDepth 20000 in
theorem gX7_noTakeHome_X7_isPot : GoodIn wsX7_noTakeHome (wsV RX7 120 RX7 yX7_isPot wsX7_isPot) := goodIn_app (goodIn_of _ (by decide +kernel)) ggX7_noTakeHome_X7_isPot
set_option maxRecDepth 20000 in
theorem ggX7_noTakeHome_X7_pot : GoodIn wsX7_noTakeHome wsX7_pot := goodIn_r _ [13, 6, 14, 15, 16, 17, 18, 19, 20, 21, 22, 23, 24, 25, 26] (by decide +kernel) (by decide +kernel)
set_option maxRecDepth 20000 in
theorem gX7_noTakeHome_X7_pot : GoodIn wsX7_noTakeHome (wsV RX7 41 RX7 yX7_pot wsX7_pot) := goodIn_app (goodIn_of _ (by decide +kernel)) ggX7_noTakeHome_X7_pot
theorem dX7_noTakeHome_0 : decode cX7_noTakeHome 0 = .ok (.aload_n 0, 1) := by decide +kernel
theorem dX7_noTakeHome_1 : decode cX7_noTakeHome 1 = .ok (.iload_n 1, 1) := by decide +kernel
theorem dX7_noTakeHome_2 : decode cX7_noTakeHome 2 = .ok (.invokevirtual 120, 3) := by decide +kernel
theorem dX7_noTakeHome_5 : decode cX7_noTakeHome 5 = .ok (.ifCond .ne 7, 3) := by decide +kernel
theorem dX7_noTakeHome_8 : decode cX7_noTakeHome 8 = .ok (.iconst (-1), 1) := by decide +kernel
theorem dX7_noTakeHome_9 : decode cX7_noTakeHome 9 = .ok (.goto 28, 3) := by decide +kernel
theorem dX7_noTakeHome_12 : decode cX7_noTakeHome 12 = .ok (.aload_n 0, 1) := by decide +kernel
theorem dX7_noTakeHome_13 : decode cX7_noTakeHome 13 = .ok (.iload_n 1, 1) := by decide +kernel
theorem dX7_noTakeHome_14 : decode cX7_noTakeHome 14 = .ok (.iconst 3, 1) := by decide +kernel
theorem dX7_noTakeHome_15 : decode cX7_noTakeHome 15 = .ok (.invokevirtual 41, 3) := by decide +kernel
theorem dX7_noTakeHome_18 : decode cX7_noTakeHome 18 = .ok (.iconst 3, 1) := by decide +kernel
theorem dX7_noTakeHome_19 : decode cX7_noTakeHome 19 = .ok (.if_icmp .ne 16, 3) := by decide +kernel
theorem dX7_noTakeHome_22 : decode cX7_noTakeHome 22 = .ok (.aload_n 0, 1) := by decide +kernel
theorem dX7_noTakeHome_23 : decode cX7_noTakeHome 23 = .ok (.iload_n 1, 1) := by decide +kernel
theorem dX7_noTakeHome_24 : decode cX7_noTakeHome 24 = .ok (.iconst 4, 1) := by decide +kernel
theorem dX7_noTakeHome_25 : decode cX7_noTakeHome 25 = .ok (.invokevirtual 41, 3) := by decide +kernel
theorem dX7_noTakeHome_28 : decode cX7_noTakeHome 28 = .ok (.ifCond .ne 7, 3) := by decide +kernel
theorem dX7_noTakeHome_31 : decode cX7_noTakeHome 31 = .ok (.iconst 0, 1) := by decide +kernel
theorem dX7_noTakeHome_32 : decode cX7_noTakeHome 32 = .ok (.goto 5, 3) := by decide +kernel
theorem dX7_noTakeHome_35 : decode cX7_noTakeHome 35 = .ok (.bipush (-5), 2) := by decide +kernel
theorem dX7_noTakeHome_37 : decode cX7_noTakeHome 37 = .ok (.ireturn, 1) := by decide +kernel
set_option maxRecDepth 20000 in
theorem ggX7_doTakeHome_X7_pot : GoodIn wsX7_doTakeHome wsX7_pot := goodIn_r _ [6, 1, 11, 12, 13, 14, 15, 16, 17, 18, 19, 20, 21, 22, 23] (by decide +kernel) (by decide +kernel)
set_option maxRecDepth 20000 in
theorem gX7_doTakeHome_X7_pot : GoodIn wsX7_doTakeHome (wsV RX7 41 RX7 yX7_pot wsX7_pot) := goodIn_app (goodIn_of _ (by decide +kernel)) ggX7_doTakeHome_X7_pot
set_option maxRecDepth 20000 in
theorem ggX7_doTakeHome_X7_put : GoodIn wsX7_doTakeHome wsX7_put := goodIn_r _ [10, 1, 11, 12, 13, 14, 15, 16, 17, 18, 19, 20, 21, 22, 23] (by decide +kernel) (by decide +kernel)
set_option maxRecDepth 20000 in
theorem gX7_doTakeHome_X7_put : GoodIn wsX7_doTakeHome (wsV RX7 55 RX7 yX7_put wsX7_put) := goodIn_app (goodIn_of _ (by decide +kernel)) ggX7_doTakeHome_X7_put
theorem dX7_doTakeHome_0 : decode cX7_doTakeHome 0 = .ok (.aload_n 0, 1) := by decide +kernel
theorem dX7_doTakeHome_1 : decode cX7_doTakeHome 1 = .ok (.getfield 7, 3) := by decide +kernel
theorem dX7_doTakeHome_4 : decode cX7_doTakeHome 4 = .ok (.iconst 5, 1) := by decide +kernel
theorem dX7_doTakeHome_5 : decode cX7_doTakeHome 5 = .ok (.iaload, 1) := by decide +kernel
theorem dX7_doTakeHome_6 : decode cX7_doTakeHome 6 = .ok (.aload_n 0, 1) := by decide +kernel
theorem dX7_doTakeHome_7 : decode cX7_doTakeHome 7 = .ok (.iload_n 1, 1) := by decide +kernel
theorem dX7_doTakeHome_8 : decode cX7_doTakeHome 8 = .ok (.iconst 1, 1) := by decide +kernel
theorem dX7_doTakeHome_9 : decode cX7_doTakeHome 9 = .ok (.invokevirtual 41, 3) := by decide +kernel
theorem dX7_doTakeHome_12 : decode cX7_doTakeHome 12 = .ok (.imul, 1) := by decide +kernel
theorem dX7_doTakeHome_13 : decode cX7_doTakeHome 13 = .ok (.istore_n 2, 1) := by decide +kernel
theorem dX7_doTakeHome_14 : decode cX7_doTakeHome 14 = .ok (.aload_n 0, 1) := by decide +kernel
theorem dX7_doTakeHome_15 : decode cX7_doTakeHome 15 = .ok (.iload_n 1, 1) := by decide +kernel
theorem dX7_doTakeHome_16 : decode cX7_doTakeHome 16 = .ok (.iconst 4, 1) := by decide +kernel
theorem dX7_doTakeHome_17 : decode cX7_doTakeHome 17 = .ok (.iconst 2, 1) := by decide +kernel
theorem dX7_doTakeHome_18 : decode cX7_doTakeHome 18 = .ok (.invokevirtual 55, 3) := by decide +kernel
theorem dX7_doTakeHome_21 : decode cX7_doTakeHome 21 = .ok (.aload_n 0, 1) := by decide +kernel
theorem dX7_doTakeHome_22 : decode cX7_doTakeHome 22 = .ok (.iload_n 1, 1) := by decide +kernel
theorem dX7_doTakeHome_23 : decode cX7_doTakeHome 23 = .ok (.iconst 5, 1) := by decide +kernel
theorem dX7_doTakeHome_24 : decode cX7_doTakeHome 24 = .ok (.bipush (-6), 2) := by decide +kernel
theorem dX7_doTakeHome_26 : decode cX7_doTakeHome 26 = .ok (.invokevirtual 55, 3) := by decide +kernel
theorem dX7_doTakeHome_29 : decode cX7_doTakeHome 29 = .ok (.aload_n 0, 1) := by decide +kernel
theorem dX7_doTakeHome_30 : decode cX7_doTakeHome 30 = .ok (.getfield 7, 3) := by decide +kernel
theorem dX7_doTakeHome_33 : decode cX7_doTakeHome 33 = .ok (.bipush 10, 2) := by decide +kernel
theorem dX7_doTakeHome_35 : decode cX7_doTakeHome 35 = .ok (.dup2, 1) := by decide +kernel
theorem dX7_doTakeHome_36 : decode cX7_doTakeHome 36 = .ok (.iaload, 1) := by decide +kernel
theorem dX7_doTakeHome_37 : decode cX7_doTakeHome 37 = .ok (.iload_n 2, 1) := by decide +kernel
theorem dX7_doTakeHome_38 : decode cX7_doTakeHome 38 = .ok (.iadd, 1) := by decide +kernel
theorem dX7_doTakeHome_39 : decode cX7_doTakeHome 39 = .ok (.iastore, 1) := by decide +kernel
theorem dX7_doTakeHome_40 : decode cX7_doTakeHome 40 = .ok (.aload_n 0, 1) := by decide +kernel
theorem dX7_doTakeHome_41 : decode cX7_doTakeHome 41 = .ok (.getfield 7, 3) := by decide +kernel
theorem dX7_doTakeHome_44 : decode cX7_doTakeHome 44 = .ok (.bipush 15, 2) := by decide +kernel
theorem dX7_doTakeHome_46 : decode cX7_doTakeHome 46 = .ok (.aload_n 0, 1) := by decide +kernel
theorem dX7_doTakeHome_47 : decode cX7_doTakeHome 47 = .ok (.iload_n 1, 1) := by decide +kernel
theorem dX7_doTakeHome_48 : decode cX7_doTakeHome 48 = .ok (.iconst 0, 1) := by decide +kernel
theorem dX7_doTakeHome_49 : decode cX7_doTakeHome 49 = .ok (.invokevirtual 41, 3) := by decide +kernel
theorem dX7_doTakeHome_52 : decode cX7_doTakeHome 52 = .ok (.iadd, 1) := by decide +kernel
theorem dX7_doTakeHome_53 : decode cX7_doTakeHome 53 = .ok (.dup2, 1) := by decide +kernel
theorem dX7_doTakeHome_54 : decode cX7_doTakeHome 54 = .ok (.iaload, 1) := by decide +kernel
theorem dX7_doTakeHome_55 : decode cX7_doTakeHome 55 = .ok (.iload_n 2, 1) := by decide +kernel
theorem dX7_doTakeHome_56 : decode cX7_doTakeHome 56 = .ok (.iadd, 1) := by decide +kernel
theorem dX7_doTakeHome_57 : decode cX7_doTakeHome 57 = .ok (.iastore, 1) := by decide +kernel
theorem dX7_doTakeHome_58 : decode cX7_doTakeHome 58 = .ok (.iload_n 2, 1) := by decide +kernel
theorem dX7_doTakeHome_59 : decode cX7_doTakeHome 59 = .ok (.ireturn, 1) := by decide +kernel
set_option maxRecDepth 20000 in
theorem ggX7_takeHome_X7_noTakeHome : GoodIn wsX7_takeHome wsX7_noTakeHome := goodIn_r _ [5, 6, 7, 8, 4, 9, 10, 11, 12, 13, 14, 15, 16, 17, 32, 33, 34, 35, 36, 37, 38, 39, 40, 41, 42, 43, 44] (by decide +kernel) (by decide +kernel)
set_option maxRecDepth 20000 in
theorem gX7_takeHome_X7_noTakeHome : GoodIn wsX7_takeHome (wsV RX7 151 RX7 yX7_noTakeHome wsX7_noTakeHome) := goodIn_app (goodIn_of _ (by decide +kernel)) ggX7_takeHome_X7_noTakeHome
set_option maxRecDepth 20000 in
theorem ggX7_takeHome_X7_record : GoodIn wsX7_takeHome wsX7_record := goodIn_r _ [21, 22, 23, 10, 32, 33, 34, 35, 36, 37, 38, 39, 40, 41, 42, 43, 44] (by decide +kernel) (by decide +kernel)
set_option maxRecDepth 20000 in
theorem gX7_takeHome_X7_record : GoodIn wsX7_takeHome (wsV RX7 34 RX7 yX7_record wsX7_record) := goodIn_app (goodIn_of _ (by decide +kernel)) ggX7_takeHome_X7_record
set_option maxRecDepth 20000 in
theorem ggX7_takeHome_X7_doTakeHome : GoodIn wsX7_takeHome wsX7_doTakeHome := goodIn_r _ [27, 10, 14, 15, 16, 4, 17, 28, 29, 30, 31, 32, 33, 34, 35, 36, 37, 38, 39, 40, 41, 42, 43, 44] (by decide +kernel) (by decide +kernel)
set_option maxRecDepth 20000 in
theorem gX7_takeHome_X7_doTakeHome : GoodIn wsX7_takeHome (wsV RX7 154 RX7 yX7_doTakeHome wsX7_doTakeHome) := goodIn_app (goodIn_of _ (by decide +kernel)) ggX7_takeHome_X7_doTakeHome
theorem dX7_takeHome_0 : decode cX7_takeHome 0 = .ok (.aload_n 0, 1) := by decide +kernel
theorem dX7_takeHome_1 : decode cX7_takeHome 1 = .ok (.iload_n 1, 1) := by decide +kernel
theorem dX7_takeHome_2 : decode cX7_takeHome 2 = .ok (.invokevirtual 151, 3) := by decide +kernel
theorem dX7_takeHome_5 : decode cX7_takeHome 5 = .ok (.istore_n 2, 1) := by decide +kernel
theorem dX7_takeHome_6 : decode cX7_takeHome 6 = .ok (.iload_n 2, 1) := by decide +kernel
theorem dX7_takeHome_7 : decode cX7_takeHome 7 = .ok (.ifCond .ge 5, 3) := by decide +kernel
theorem dX7_takeHome_10 : decode cX7_takeHome 10 = .ok (.iload_n 2, 1) := by decide +kernel
theorem dX7_takeHome_11 : decode cX7_takeHome 11 = .ok (.ireturn, 1) := by decide +kernel
theorem dX7_takeHome_12 : decode cX7_takeHome 12 = .ok (.aload_n 0, 1) := by decide +kernel
theorem dX7_takeHome_13 : decode cX7_takeHome 13 = .ok (.invokevirtual 34, 3) := by decide +kernel
theorem dX7_takeHome_16 : decode cX7_takeHome 16 = .ok (.aload_n 0, 1) := by decide +kernel
theorem dX7_takeHome_17 : decode cX7_takeHome 17 = .ok (.iload_n 1, 1) := by decide +kernel
theorem dX7_takeHome_18 : decode cX7_takeHome 18 = .ok (.invokevirtual 154, 3) := by decide +kernel
theorem dX7_takeHome_21 : decode cX7_takeHome 21 = .ok (.ireturn, 1) := by decide +kernel
set_option maxRecDepth 20000 in
theorem ggX7_noPass_X7_in : GoodIn wsX7_noPass wsX7_in := goodIn_r _ [5] (by decide +kernel) (by decide +kernel)
set_option maxRecDepth 20000 in
theorem gX7_noPass_X7_in : GoodIn wsX7_noPass (va_wsS RX7 26 yX7_in wsX7_in) := goodIn_app (goodIn_of _ (by decide +kernel)) ggX7_noPass_X7_in
theorem dX7_noPass_0 : decode cX7_noPass 0 = .ok (.iload_n 1, 1) := by decide +kernel
theorem dX7_noPass_1 : decode cX7_noPass 1 = .ok (.iconst 1, 1) := by decide +kernel
theorem dX7_noPass_2 : decode cX7_noPass 2 = .ok (.bipush 20, 2) := by decide +kernel
theorem dX7_noPass_4 : decode cX7_noPass 4 = .ok (.invokestatic 26, 3) := by decide +kernel
theorem dX7_noPass_7 : decode cX7_noPass 7 = .ok (.ifCond .ne 8, 3) := by decide +kernel
theorem dX7_noPass_10 : decode cX7_noPass 10 = .ok (.bipush (-2), 2) := by decide +kernel
theorem dX7_noPass_12 : decode cX7_noPass 12 = .ok (.goto 23, 3) := by decide +kernel
theorem dX7_noPass_15 : decode cX7_noPass 15 = .ok (.aload_n 0, 1) := by decide +kernel
theorem dX7_noPass_16 : decode cX7_noPass 16 = .ok (.getfield 7, 3) := by decide +kernel
theorem dX7_noPass_19 : decode cX7_noPass 19 = .ok (.iconst 0, 1) := by decide +kernel
theorem dX7_noPass_20 : decode cX7_noPass 20 = .ok (.iaload, 1) := by decide +kernel
theorem dX7_noPass_21 : decode cX7_noPass 21 = .ok (.iload_n 1, 1) := by decide +kernel
theorem dX7_noPass_22 : decode cX7_noPass 22 = .ok (.iadd, 1) := by decide +kernel
theorem dX7_noPass_23 : decode cX7_noPass 23 = .ok (.sipush 999, 3) := by decide +kernel
theorem dX7_noPass_26 : decode cX7_noPass 26 = .ok (.if_icmp .le 8, 3) := by decide +kernel
theorem dX7_noPass_29 : decode cX7_noPass 29 = .ok (.bipush (-5), 2) := by decide +kernel
theorem dX7_noPass_31 : decode cX7_noPass 31 = .ok (.goto 4, 3) := by decide +kernel
theorem dX7_noPass_34 : decode cX7_noPass 34 = .ok (.iconst 0, 1) := by decide +kernel
theorem dX7_noPass_35 : decode cX7_noPass 35 = .ok (.ireturn, 1) := by decide +kernel
set_option maxRecDepth 20000 in
theorem ggX7_night_X7_pot : GoodIn wsX7_night wsX7_pot := goodIn_r _ [6, 1, 15, 16, 17, 18, 19, 20, 21, 22, 23, 24, 25, 26, 27] (by decide +kernel) (by decide +kernel)
set_option maxRecDepth 20000 in
theorem gX7_night_X7_pot : GoodIn wsX7_night (wsV RX7 41 RX7 yX7_pot wsX7_pot) := goodIn_app (goodIn_of _ (by decide +kernel)) ggX7_night_X7_pot
set_option maxRecDepth 20000 in
theorem ggX7_night_X7_put : GoodIn wsX7_night wsX7_put := goodIn_r _ [10, 1, 15, 16, 17, 18, 19, 20, 21, 22, 23, 24, 25, 26, 27] (by decide +kernel) (by decide +kernel)
set_option maxRecDepth 20000 in
theorem gX7_night_X7_put : GoodIn wsX7_night (wsV RX7 55 RX7 yX7_put wsX7_put) := goodIn_app (goodIn_of _ (by decide +kernel)) ggX7_night_X7_put
set_option maxRecDepth 20000 in
theorem ggX7_night_X7_bookedBy : GoodIn wsX7_night wsX7_bookedBy := goodIn_r _ [14, 1, 15, 16, 17, 18, 19, 20, 21, 22, 23, 24, 25, 26, 27] (by decide +kernel) (by decide +kernel)
set_option maxRecDepth 20000 in
theorem gX7_night_X7_bookedBy : GoodIn wsX7_night (wsV RX7 37 RX7 yX7_bookedBy wsX7_bookedBy) := goodIn_app (goodIn_of _ (by decide +kernel)) ggX7_night_X7_bookedBy
theorem dX7_night_0 : decode cX7_night 0 = .ok (.iconst 0, 1) := by decide +kernel
theorem dX7_night_1 : decode cX7_night 1 = .ok (.istore_n 1, 1) := by decide +kernel
theorem dX7_night_2 : decode cX7_night 2 = .ok (.iload_n 1, 1) := by decide +kernel
theorem dX7_night_3 : decode cX7_night 3 = .ok (.aload_n 0, 1) := by decide +kernel
theorem dX7_night_4 : decode cX7_night 4 = .ok (.getfield 7, 3) := by decide +kernel
theorem dX7_night_7 : decode cX7_night 7 = .ok (.bipush 7, 2) := by decide +kernel
theorem dX7_night_9 : decode cX7_night 9 = .ok (.iaload, 1) := by decide +kernel
theorem dX7_night_10 : decode cX7_night 10 = .ok (.if_icmp .ge 58, 3) := by decide +kernel
theorem dX7_night_13 : decode cX7_night 13 = .ok (.aload_n 0, 1) := by decide +kernel
theorem dX7_night_14 : decode cX7_night 14 = .ok (.iload_n 1, 1) := by decide +kernel
theorem dX7_night_15 : decode cX7_night 15 = .ok (.iconst 3, 1) := by decide +kernel
theorem dX7_night_16 : decode cX7_night 16 = .ok (.invokevirtual 41, 3) := by decide +kernel
theorem dX7_night_19 : decode cX7_night 19 = .ok (.ifCond .ne 43, 3) := by decide +kernel
theorem dX7_night_22 : decode cX7_night 22 = .ok (.aload_n 0, 1) := by decide +kernel
theorem dX7_night_23 : decode cX7_night 23 = .ok (.iload_n 1, 1) := by decide +kernel
theorem dX7_night_24 : decode cX7_night 24 = .ok (.iconst 4, 1) := by decide +kernel
theorem dX7_night_25 : decode cX7_night 25 = .ok (.invokevirtual 41, 3) := by decide +kernel
theorem dX7_night_28 : decode cX7_night 28 = .ok (.ifCond .ne 34, 3) := by decide +kernel
theorem dX7_night_31 : decode cX7_night 31 = .ok (.aload_n 0, 1) := by decide +kernel
theorem dX7_night_32 : decode cX7_night 32 = .ok (.iload_n 1, 1) := by decide +kernel
theorem dX7_night_33 : decode cX7_night 33 = .ok (.bipush 6, 2) := by decide +kernel
theorem dX7_night_35 : decode cX7_night 35 = .ok (.aload_n 0, 1) := by decide +kernel
theorem dX7_night_36 : decode cX7_night 36 = .ok (.iload_n 1, 1) := by decide +kernel
theorem dX7_night_37 : decode cX7_night 37 = .ok (.bipush 6, 2) := by decide +kernel
theorem dX7_night_39 : decode cX7_night 39 = .ok (.invokevirtual 41, 3) := by decide +kernel
theorem dX7_night_42 : decode cX7_night 42 = .ok (.aload_n 0, 1) := by decide +kernel
theorem dX7_night_43 : decode cX7_night 43 = .ok (.iload_n 1, 1) := by decide +kernel
theorem dX7_night_44 : decode cX7_night 44 = .ok (.iconst 5, 1) := by decide +kernel
theorem dX7_night_45 : decode cX7_night 45 = .ok (.invokevirtual 41, 3) := by decide +kernel
theorem dX7_night_48 : decode cX7_night 48 = .ok (.bipush 8, 2) := by decide +kernel
theorem dX7_night_50 : decode cX7_night 50 = .ok (.if_icmp .ge 7, 3) := by decide +kernel
theorem dX7_night_53 : decode cX7_night 53 = .ok (.iconst 2, 1) := by decide +kernel
theorem dX7_night_54 : decode cX7_night 54 = .ok (.goto 4, 3) := by decide +kernel
theorem dX7_night_57 : decode cX7_night 57 = .ok (.iconst 1, 1) := by decide +kernel
theorem dX7_night_58 : decode cX7_night 58 = .ok (.iadd, 1) := by decide +kernel
theorem dX7_night_59 : decode cX7_night 59 = .ok (.invokevirtual 55, 3) := by decide +kernel
theorem dX7_night_62 : decode cX7_night 62 = .ok (.iinc 1 1, 3) := by decide +kernel
theorem dX7_night_65 : decode cX7_night 65 = .ok (.goto (-63), 3) := by decide +kernel
theorem dX7_night_68 : decode cX7_night 68 = .ok (.iconst 0, 1) := by decide +kernel
theorem dX7_night_69 : decode cX7_night 69 = .ok (.istore_n 1, 1) := by decide +kernel
theorem dX7_night_70 : decode cX7_night 70 = .ok (.iload_n 1, 1) := by decide +kernel
theorem dX7_night_71 : decode cX7_night 71 = .ok (.iconst 5, 1) := by decide +kernel
theorem dX7_night_72 : decode cX7_night 72 = .ok (.if_icmp .ge 59, 3) := by decide +kernel
theorem dX7_night_75 : decode cX7_night 75 = .ok (.iconst 0, 1) := by decide +kernel
theorem dX7_night_76 : decode cX7_night 76 = .ok (.istore_n 2, 1) := by decide +kernel
theorem dX7_night_77 : decode cX7_night 77 = .ok (.iload_n 2, 1) := by decide +kernel
theorem dX7_night_78 : decode cX7_night 78 = .ok (.bipush 21, 2) := by decide +kernel
theorem dX7_night_80 : decode cX7_night 80 = .ok (.if_icmp .ge 45, 3) := by decide +kernel
theorem dX7_night_83 : decode cX7_night 83 = .ok (.aload_n 0, 1) := by decide +kernel
theorem dX7_night_84 : decode cX7_night 84 = .ok (.getfield 7, 3) := by decide +kernel
theorem dX7_night_87 : decode cX7_night 87 = .ok (.sipush 215, 3) := by decide +kernel
theorem dX7_night_90 : decode cX7_night 90 = .ok (.bipush 21, 2) := by decide +kernel
theorem dX7_night_92 : decode cX7_night 92 = .ok (.iload_n 1, 1) := by decide +kernel
theorem dX7_night_93 : decode cX7_night 93 = .ok (.imul, 1) := by decide +kernel
theorem dX7_night_94 : decode cX7_night 94 = .ok (.iadd, 1) := by decide +kernel
theorem dX7_night_95 : decode cX7_night 95 = .ok (.iload_n 2, 1) := by decide +kernel
theorem dX7_night_96 : decode cX7_night 96 = .ok (.iadd, 1) := by decide +kernel
theorem dX7_night_97 : decode cX7_night 97 = .ok (.iload_n 2, 1) := by decide +kernel
theorem dX7_night_98 : decode cX7_night 98 = .ok (.iconst 1, 1) := by decide +kernel
theorem dX7_night_99 : decode cX7_night 99 = .ok (.iadd, 1) := by decide +kernel
theorem dX7_night_100 : decode cX7_night 100 = .ok (.bipush 21, 2) := by decide +kernel
theorem dX7_night_102 : decode cX7_night 102 = .ok (.if_icmp .ge 14, 3) := by decide +kernel
theorem dX7_night_105 : decode cX7_night 105 = .ok (.aload_n 0, 1) := by decide +kernel
theorem dX7_night_106 : decode cX7_night 106 = .ok (.iload_n 1, 1) := by decide +kernel
theorem dX7_night_107 : decode cX7_night 107 = .ok (.iload_n 2, 1) := by decide +kernel
theorem dX7_night_108 : decode cX7_night 108 = .ok (.iconst 1, 1) := by decide +kernel
theorem dX7_night_109 : decode cX7_night 109 = .ok (.iadd, 1) := by decide +kernel
theorem dX7_night_110 : decode cX7_night 110 = .ok (.invokevirtual 37, 3) := by decide +kernel
theorem dX7_night_113 : decode cX7_night 113 = .ok (.goto 5, 3) := by decide +kernel
theorem dX7_night_116 : decode cX7_night 116 = .ok (.bipush (-6), 2) := by decide +kernel
theorem dX7_night_118 : decode cX7_night 118 = .ok (.iastore, 1) := by decide +kernel
theorem dX7_night_119 : decode cX7_night 119 = .ok (.iinc 2 1, 3) := by decide +kernel
theorem dX7_night_122 : decode cX7_night 122 = .ok (.goto (-45), 3) := by decide +kernel
theorem dX7_night_125 : decode cX7_night 125 = .ok (.iinc 1 1, 3) := by decide +kernel
theorem dX7_night_128 : decode cX7_night 128 = .ok (.goto (-58), 3) := by decide +kernel
theorem dX7_night_131 : decode cX7_night 131 = .ok (.iconst 0, 1) := by decide +kernel
theorem dX7_night_132 : decode cX7_night 132 = .ok (.istore_n 1, 1) := by decide +kernel
theorem dX7_night_133 : decode cX7_night 133 = .ok (.iload_n 1, 1) := by decide +kernel
theorem dX7_night_134 : decode cX7_night 134 = .ok (.bipush 10, 2) := by decide +kernel
theorem dX7_night_136 : decode cX7_night 136 = .ok (.if_icmp .ge 19, 3) := by decide +kernel
theorem dX7_night_139 : decode cX7_night 139 = .ok (.aload_n 0, 1) := by decide +kernel
theorem dX7_night_140 : decode cX7_night 140 = .ok (.getfield 7, 3) := by decide +kernel
theorem dX7_night_143 : decode cX7_night 143 = .ok (.bipush 25, 2) := by decide +kernel
theorem dX7_night_145 : decode cX7_night 145 = .ok (.iload_n 1, 1) := by decide +kernel
theorem dX7_night_146 : decode cX7_night 146 = .ok (.iadd, 1) := by decide +kernel
theorem dX7_night_147 : decode cX7_night 147 = .ok (.iconst 0, 1) := by decide +kernel
theorem dX7_night_148 : decode cX7_night 148 = .ok (.iastore, 1) := by decide +kernel
theorem dX7_night_149 : decode cX7_night 149 = .ok (.iinc 1 1, 3) := by decide +kernel
theorem dX7_night_152 : decode cX7_night 152 = .ok (.goto (-19), 3) := by decide +kernel
theorem dX7_night_155 : decode cX7_night 155 = .ok (.aload_n 0, 1) := by decide +kernel
theorem dX7_night_156 : decode cX7_night 156 = .ok (.getfield 7, 3) := by decide +kernel
theorem dX7_night_159 : decode cX7_night 159 = .ok (.iconst 0, 1) := by decide +kernel
theorem dX7_night_160 : decode cX7_night 160 = .ok (.dup2, 1) := by decide +kernel
theorem dX7_night_161 : decode cX7_night 161 = .ok (.iaload, 1) := by decide +kernel
theorem dX7_night_162 : decode cX7_night 162 = .ok (.iconst 1, 1) := by decide +kernel
theorem dX7_night_163 : decode cX7_night 163 = .ok (.iadd, 1) := by decide +kernel
theorem dX7_night_164 : decode cX7_night 164 = .ok (.iastore, 1) := by decide +kernel
theorem dX7_night_165 : decode cX7_night 165 = .ok (.return_, 1) := by decide +kernel
set_option maxRecDepth 20000 in
theorem ggX7_doPass_X7_night : GoodIn wsX7_doPass wsX7_night := goodIn_r _ [6, 1, 7, 8, 9, 5, 10, 11, 12, 13, 14, 15, 16, 17, 18, 19, 20, 21, 22, 23, 24, 25, 26, 27, 28, 29, 30, 31] (by decide +kernel) (by decide +kernel)
set_option maxRecDepth 20000 in
theorem gX7_doPass_X7_night : GoodIn wsX7_doPass (wsV RX7 157 RX7 yX7_night wsX7_night) := goodIn_app (goodIn_of _ (by decide +kernel)) ggX7_doPass_X7_night
theorem dX7_doPass_0 : decode cX7_doPass 0 = .ok (.iconst 0, 1) := by decide +kernel
theorem dX7_doPass_1 : decode cX7_doPass 1 = .ok (.istore_n 2, 1) := by decide +kernel
theorem dX7_doPass_2 : decode cX7_doPass 2 = .ok (.iload_n 2, 1) := by decide +kernel
theorem dX7_doPass_3 : decode cX7_doPass 3 = .ok (.iload_n 1, 1) := by decide +kernel
theorem dX7_doPass_4 : decode cX7_doPass 4 = .ok (.if_icmp .ge 13, 3) := by decide +kernel
theorem dX7_doPass_7 : decode cX7_doPass 7 = .ok (.aload_n 0, 1) := by decide +kernel
theorem dX7_doPass_8 : decode cX7_doPass 8 = .ok (.invokevirtual 157, 3) := by decide +kernel
theorem dX7_doPass_11 : decode cX7_doPass 11 = .ok (.iinc 2 1, 3) := by decide +kernel
theorem dX7_doPass_14 : decode cX7_doPass 14 = .ok (.goto (-12), 3) := by decide +kernel
theorem dX7_doPass_17 : decode cX7_doPass 17 = .ok (.aload_n 0, 1) := by decide +kernel
theorem dX7_doPass_18 : decode cX7_doPass 18 = .ok (.getfield 7, 3) := by decide +kernel
theorem dX7_doPass_21 : decode cX7_doPass 21 = .ok (.iconst 0, 1) := by decide +kernel
theorem dX7_doPass_22 : decode cX7_doPass 22 = .ok (.iaload, 1) := by decide +kernel
