set_option maxRecDepth 20000 in
theorem ggX0_init_X4_init : GoodIn wsX0_init wsX4_init := goodIn_r _ [10, 11, 2, 3, 12, 13, 14, 15, 16, 17, 18] (by decide +kernel) (by decide +kernel)
set_option maxRecDepth 20000 in
theorem gX0_init_X4_init : GoodIn wsX0_init (wsX4_init) := ggX0_init_X4_init
theorem dX0_init_0 : decode cX0_init 0 = .ok (.aload_n 0, 1) := by decide +kernel
theorem dX0_init_1 : decode cX0_init 1 = .ok (.invokespecial 3, 3) := by decide +kernel
theorem dX0_init_4 : decode cX0_init 4 = .ok (.aload_n 0, 1) := by decide +kernel
theorem dX0_init_5 : decode cX0_init 5 = .ok (.new 9, 3) := by decide +kernel
theorem dX0_init_8 : decode cX0_init 8 = .ok (.dup, 1) := by decide +kernel
theorem dX0_init_9 : decode cX0_init 9 = .ok (.bipush 105, 2) := by decide +kernel
theorem dX0_init_11 : decode cX0_init 11 = .ok (.invokespecial 11, 3) := by decide +kernel
theorem dX0_init_14 : decode cX0_init 14 = .ok (.putfield 14, 3) := by decide +kernel
theorem dX0_init_17 : decode cX0_init 17 = .ok (.return_, 1) := by decide +kernel
set_option maxRecDepth 20000 in
theorem ggX0_copyFrom_X4_copyFrom : GoodIn wsX0_copyFrom wsX4_copyFrom := goodIn_r _ [8, 9, 10, 11, 12, 13, 14, 15, 16, 17, 21] (by decide +kernel) (by decide +kernel)
set_option maxRecDepth 20000 in
theorem gX0_copyFrom_X4_copyFrom : GoodIn wsX0_copyFrom (wsV RX0 20 RX4 yX4_copyFrom wsX4_copyFrom) := goodIn_app (goodIn_of _ (by decide +kernel)) ggX0_copyFrom_X4_copyFrom
theorem dX0_copyFrom_0 : decode cX0_copyFrom 0 = .ok (.aload_n 1, 1) := by decide +kernel
theorem dX0_copyFrom_1 : decode cX0_copyFrom 1 = .ok (.ifnonnull 4, 3) := by decide +kernel
theorem dX0_copyFrom_4 : decode cX0_copyFrom 4 = .ok (.return_, 1) := by decide +kernel
theorem dX0_copyFrom_5 : decode cX0_copyFrom 5 = .ok (.aload_n 0, 1) := by decide +kernel
theorem dX0_copyFrom_6 : decode cX0_copyFrom 6 = .ok (.getfield 14, 3) := by decide +kernel
theorem dX0_copyFrom_9 : decode cX0_copyFrom 9 = .ok (.aload_n 1, 1) := by decide +kernel
theorem dX0_copyFrom_10 : decode cX0_copyFrom 10 = .ok (.getfield 14, 3) := by decide +kernel
theorem dX0_copyFrom_13 : decode cX0_copyFrom 13 = .ok (.invokevirtual 20, 3) := by decide +kernel
theorem dX0_copyFrom_16 : decode cX0_copyFrom 16 = .ok (.aload_n 0, 1) := by decide +kernel
theorem dX0_copyFrom_17 : decode cX0_copyFrom 17 = .ok (.aload_n 1, 1) := by decide +kernel
theorem dX0_copyFrom_18 : decode cX0_copyFrom 18 = .ok (.getfield 24, 3) := by decide +kernel
theorem dX0_copyFrom_21 : decode cX0_copyFrom 21 = .ok (.putfield 24, 3) := by decide +kernel
theorem dX0_copyFrom_24 : decode cX0_copyFrom 24 = .ok (.aload_n 0, 1) := by decide +kernel
theorem dX0_copyFrom_25 : decode cX0_copyFrom 25 = .ok (.aload_n 1, 1) := by decide +kernel
theorem dX0_copyFrom_26 : decode cX0_copyFrom 26 = .ok (.getfield 28, 3) := by decide +kernel
theorem dX0_copyFrom_29 : decode cX0_copyFrom 29 = .ok (.putfield 28, 3) := by decide +kernel
theorem dX0_copyFrom_32 : decode cX0_copyFrom 32 = .ok (.return_, 1) := by decide +kernel
theorem dX0_cellOf_0 : decode cX0_cellOf 0 = .ok (.iconst 5, 1) := by decide +kernel
theorem dX0_cellOf_1 : decode cX0_cellOf 1 = .ok (.aload_n 0, 1) := by decide +kernel
theorem dX0_cellOf_2 : decode cX0_cellOf 2 = .ok (.getfield 24, 3) := by decide +kernel
theorem dX0_cellOf_5 : decode cX0_cellOf 5 = .ok (.iload_n 2, 1) := by decide +kernel
theorem dX0_cellOf_6 : decode cX0_cellOf 6 = .ok (.iadd, 1) := by decide +kernel
theorem dX0_cellOf_7 : decode cX0_cellOf 7 = .ok (.bipush 21, 2) := by decide +kernel
theorem dX0_cellOf_9 : decode cX0_cellOf 9 = .ok (.irem, 1) := by decide +kernel
theorem dX0_cellOf_10 : decode cX0_cellOf 10 = .ok (.imul, 1) := by decide +kernel
theorem dX0_cellOf_11 : decode cX0_cellOf 11 = .ok (.iload_n 1, 1) := by decide +kernel
theorem dX0_cellOf_12 : decode cX0_cellOf 12 = .ok (.iadd, 1) := by decide +kernel
theorem dX0_cellOf_13 : decode cX0_cellOf 13 = .ok (.ireturn, 1) := by decide +kernel
set_option maxRecDepth 20000 in
theorem ggX0_bookerOf_X0_cellOf : GoodIn wsX0_bookerOf wsX0_cellOf := goodIn_r _ [6, 7, 14, 15, 16] (by decide +kernel) (by decide +kernel)
set_option maxRecDepth 20000 in
theorem gX0_bookerOf_X0_cellOf : GoodIn wsX0_bookerOf (wsV RX0 31 RX0 yX0_cellOf wsX0_cellOf) := goodIn_app (goodIn_of _ (by decide +kernel)) ggX0_bookerOf_X0_cellOf
set_option maxRecDepth 20000 in
theorem ggX0_bookerOf_X4_at : GoodIn wsX0_bookerOf wsX4_at := goodIn_r _ [12, 13, 17] (by decide +kernel) (by decide +kernel)
set_option maxRecDepth 20000 in
theorem gX0_bookerOf_X4_at : GoodIn wsX0_bookerOf (wsV RX0 35 RX4 yX4_at wsX4_at) := goodIn_app (goodIn_of _ (by decide +kernel)) ggX0_bookerOf_X4_at
theorem dX0_bookerOf_0 : decode cX0_bookerOf 0 = .ok (.aload_n 0, 1) := by decide +kernel
theorem dX0_bookerOf_1 : decode cX0_bookerOf 1 = .ok (.getfield 14, 3) := by decide +kernel
theorem dX0_bookerOf_4 : decode cX0_bookerOf 4 = .ok (.aload_n 0, 1) := by decide +kernel
theorem dX0_bookerOf_5 : decode cX0_bookerOf 5 = .ok (.iload_n 1, 1) := by decide +kernel
theorem dX0_bookerOf_6 : decode cX0_bookerOf 6 = .ok (.iload_n 2, 1) := by decide +kernel
theorem dX0_bookerOf_7 : decode cX0_bookerOf 7 = .ok (.invokevirtual 31, 3) := by decide +kernel
theorem dX0_bookerOf_10 : decode cX0_bookerOf 10 = .ok (.invokevirtual 35, 3) := by decide +kernel
theorem dX0_bookerOf_13 : decode cX0_bookerOf 13 = .ok (.istore_n 3, 1) := by decide +kernel
theorem dX0_bookerOf_14 : decode cX0_bookerOf 14 = .ok (.iload_n 3, 1) := by decide +kernel
theorem dX0_bookerOf_15 : decode cX0_bookerOf 15 = .ok (.ifCond .ne 8, 3) := by decide +kernel
theorem dX0_bookerOf_18 : decode cX0_bookerOf 18 = .ok (.bipush (-6), 2) := by decide +kernel
theorem dX0_bookerOf_20 : decode cX0_bookerOf 20 = .ok (.goto 6, 3) := by decide +kernel
theorem dX0_bookerOf_23 : decode cX0_bookerOf 23 = .ok (.iload_n 3, 1) := by decide +kernel
theorem dX0_bookerOf_24 : decode cX0_bookerOf 24 = .ok (.iconst 1, 1) := by decide +kernel
theorem dX0_bookerOf_25 : decode cX0_bookerOf 25 = .ok (.isub, 1) := by decide +kernel
theorem dX0_bookerOf_26 : decode cX0_bookerOf 26 = .ok (.ireturn, 1) := by decide +kernel
set_option maxRecDepth 20000 in
theorem ggX0_enter_X0_cellOf : GoodIn wsX0_enter wsX0_cellOf := goodIn_r _ [6, 7, 14, 15, 16] (by decide +kernel) (by decide +kernel)
set_option maxRecDepth 20000 in
theorem gX0_enter_X0_cellOf : GoodIn wsX0_enter (wsV RX0 31 RX0 yX0_cellOf wsX0_cellOf) := goodIn_app (goodIn_of _ (by decide +kernel)) ggX0_enter_X0_cellOf
set_option maxRecDepth 20000 in
theorem ggX0_enter_X4_write : GoodIn wsX0_enter wsX4_write := goodIn_r _ [12, 13, 17] (by decide +kernel) (by decide +kernel)
set_option maxRecDepth 20000 in
theorem gX0_enter_X4_write : GoodIn wsX0_enter (wsV RX0 39 RX4 yX4_write wsX4_write) := goodIn_app (goodIn_of _ (by decide +kernel)) ggX0_enter_X4_write
theorem dX0_enter_0 : decode cX0_enter 0 = .ok (.aload_n 0, 1) := by decide +kernel
theorem dX0_enter_1 : decode cX0_enter 1 = .ok (.getfield 14, 3) := by decide +kernel
theorem dX0_enter_4 : decode cX0_enter 4 = .ok (.aload_n 0, 1) := by decide +kernel
theorem dX0_enter_5 : decode cX0_enter 5 = .ok (.iload_n 1, 1) := by decide +kernel
theorem dX0_enter_6 : decode cX0_enter 6 = .ok (.iload_n 2, 1) := by decide +kernel
theorem dX0_enter_7 : decode cX0_enter 7 = .ok (.invokevirtual 31, 3) := by decide +kernel
theorem dX0_enter_10 : decode cX0_enter 10 = .ok (.iload_n 3, 1) := by decide +kernel
theorem dX0_enter_11 : decode cX0_enter 11 = .ok (.iconst 1, 1) := by decide +kernel
theorem dX0_enter_12 : decode cX0_enter 12 = .ok (.iadd, 1) := by decide +kernel
theorem dX0_enter_13 : decode cX0_enter 13 = .ok (.invokevirtual 39, 3) := by decide +kernel
theorem dX0_enter_16 : decode cX0_enter 16 = .ok (.return_, 1) := by decide +kernel
set_option maxRecDepth 20000 in
theorem ggX0_cross_X0_cellOf : GoodIn wsX0_cross wsX0_cellOf := goodIn_r _ [6, 7, 14, 15, 16] (by decide +kernel) (by decide +kernel)
set_option maxRecDepth 20000 in
theorem gX0_cross_X0_cellOf : GoodIn wsX0_cross (wsV RX0 31 RX0 yX0_cellOf wsX0_cellOf) := goodIn_app (goodIn_of _ (by decide +kernel)) ggX0_cross_X0_cellOf
set_option maxRecDepth 20000 in
theorem ggX0_cross_X4_write : GoodIn wsX0_cross wsX4_write := goodIn_r _ [12, 13, 17] (by decide +kernel) (by decide +kernel)
set_option maxRecDepth 20000 in
theorem gX0_cross_X4_write : GoodIn wsX0_cross (wsV RX0 39 RX4 yX4_write wsX4_write) := goodIn_app (goodIn_of _ (by decide +kernel)) ggX0_cross_X4_write
theorem dX0_cross_0 : decode cX0_cross 0 = .ok (.aload_n 0, 1) := by decide +kernel
theorem dX0_cross_1 : decode cX0_cross 1 = .ok (.getfield 14, 3) := by decide +kernel
theorem dX0_cross_4 : decode cX0_cross 4 = .ok (.aload_n 0, 1) := by decide +kernel
theorem dX0_cross_5 : decode cX0_cross 5 = .ok (.iload_n 1, 1) := by decide +kernel
theorem dX0_cross_6 : decode cX0_cross 6 = .ok (.iload_n 2, 1) := by decide +kernel
theorem dX0_cross_7 : decode cX0_cross 7 = .ok (.invokevirtual 31, 3) := by decide +kernel
theorem dX0_cross_10 : decode cX0_cross 10 = .ok (.iconst 0, 1) := by decide +kernel
theorem dX0_cross_11 : decode cX0_cross 11 = .ok (.invokevirtual 39, 3) := by decide +kernel
theorem dX0_cross_14 : decode cX0_cross 14 = .ok (.return_, 1) := by decide +kernel
set_option maxRecDepth 20000 in
theorem ggX0_wheelOf_X0_bookerOf : GoodIn wsX0_wheelOf wsX0_bookerOf := goodIn_r _ [5, 6, 7, 8, 9, 4, 10, 11, 12, 13, 14, 15, 16, 17, 18, 19, 20, 21] (by decide +kernel) (by decide +kernel)
set_option maxRecDepth 20000 in
theorem gX0_wheelOf_X0_bookerOf : GoodIn wsX0_wheelOf (wsV RX0 43 RX0 yX0_bookerOf wsX0_bookerOf) := goodIn_app (goodIn_of _ (by decide +kernel)) ggX0_wheelOf_X0_bookerOf
theorem dX0_wheelOf_0 : decode cX0_wheelOf 0 = .ok (.iconst 0, 1) := by decide +kernel
theorem dX0_wheelOf_1 : decode cX0_wheelOf 1 = .ok (.istore_n 3, 1) := by decide +kernel
theorem dX0_wheelOf_2 : decode cX0_wheelOf 2 = .ok (.iload_n 3, 1) := by decide +kernel
theorem dX0_wheelOf_3 : decode cX0_wheelOf 3 = .ok (.iconst 5, 1) := by decide +kernel
theorem dX0_wheelOf_4 : decode cX0_wheelOf 4 = .ok (.if_icmp .ge 21, 3) := by decide +kernel
theorem dX0_wheelOf_7 : decode cX0_wheelOf 7 = .ok (.aload_n 0, 1) := by decide +kernel
theorem dX0_wheelOf_8 : decode cX0_wheelOf 8 = .ok (.iload_n 3, 1) := by decide +kernel
theorem dX0_wheelOf_9 : decode cX0_wheelOf 9 = .ok (.iload_n 2, 1) := by decide +kernel
theorem dX0_wheelOf_10 : decode cX0_wheelOf 10 = .ok (.invokevirtual 43, 3) := by decide +kernel
theorem dX0_wheelOf_13 : decode cX0_wheelOf 13 = .ok (.iload_n 1, 1) := by decide +kernel
theorem dX0_wheelOf_14 : decode cX0_wheelOf 14 = .ok (.if_icmp .ne 5, 3) := by decide +kernel
theorem dX0_wheelOf_17 : decode cX0_wheelOf 17 = .ok (.iload_n 3, 1) := by decide +kernel
theorem dX0_wheelOf_18 : decode cX0_wheelOf 18 = .ok (.ireturn, 1) := by decide +kernel
theorem dX0_wheelOf_19 : decode cX0_wheelOf 19 = .ok (.iinc 3 1, 3) := by decide +kernel
theorem dX0_wheelOf_22 : decode cX0_wheelOf 22 = .ok (.goto (-20), 3) := by decide +kernel
theorem dX0_wheelOf_25 : decode cX0_wheelOf 25 = .ok (.bipush (-6), 2) := by decide +kernel
theorem dX0_wheelOf_27 : decode cX0_wheelOf 27 = .ok (.ireturn, 1) := by decide +kernel
set_option maxRecDepth 20000 in
theorem ggX0_lowestFreeWheel_X0_bookerOf : GoodIn wsX0_lowestFreeWheel wsX0_bookerOf := goodIn_r _ [5, 6, 7, 8, 9, 4, 10, 11, 12, 13, 14, 15, 16, 17, 18, 19, 20, 21] (by decide +kernel) (by decide +kernel)
set_option maxRecDepth 20000 in
theorem gX0_lowestFreeWheel_X0_bookerOf : GoodIn wsX0_lowestFreeWheel (wsV RX0 43 RX0 yX0_bookerOf wsX0_bookerOf) := goodIn_app (goodIn_of _ (by decide +kernel)) ggX0_lowestFreeWheel_X0_bookerOf
theorem dX0_lowestFreeWheel_0 : decode cX0_lowestFreeWheel 0 = .ok (.iconst 0, 1) := by decide +kernel
theorem dX0_lowestFreeWheel_1 : decode cX0_lowestFreeWheel 1 = .ok (.istore_n 2, 1) := by decide +kernel
theorem dX0_lowestFreeWheel_2 : decode cX0_lowestFreeWheel 2 = .ok (.iload_n 2, 1) := by decide +kernel
theorem dX0_lowestFreeWheel_3 : decode cX0_lowestFreeWheel 3 = .ok (.iconst 5, 1) := by decide +kernel
theorem dX0_lowestFreeWheel_4 : decode cX0_lowestFreeWheel 4 = .ok (.if_icmp .ge 22, 3) := by decide +kernel
theorem dX0_lowestFreeWheel_7 : decode cX0_lowestFreeWheel 7 = .ok (.aload_n 0, 1) := by decide +kernel
theorem dX0_lowestFreeWheel_8 : decode cX0_lowestFreeWheel 8 = .ok (.iload_n 2, 1) := by decide +kernel
theorem dX0_lowestFreeWheel_9 : decode cX0_lowestFreeWheel 9 = .ok (.iload_n 1, 1) := by decide +kernel
theorem dX0_lowestFreeWheel_10 : decode cX0_lowestFreeWheel 10 = .ok (.invokevirtual 43, 3) := by decide +kernel
theorem dX0_lowestFreeWheel_13 : decode cX0_lowestFreeWheel 13 = .ok (.bipush (-6), 2) := by decide +kernel
theorem dX0_lowestFreeWheel_15 : decode cX0_lowestFreeWheel 15 = .ok (.if_icmp .ne 5, 3) := by decide +kernel
theorem dX0_lowestFreeWheel_18 : decode cX0_lowestFreeWheel 18 = .ok (.iload_n 2, 1) := by decide +kernel
theorem dX0_lowestFreeWheel_19 : decode cX0_lowestFreeWheel 19 = .ok (.ireturn, 1) := by decide +kernel
theorem dX0_lowestFreeWheel_20 : decode cX0_lowestFreeWheel 20 = .ok (.iinc 2 1, 3) := by decide +kernel
theorem dX0_lowestFreeWheel_23 : decode cX0_lowestFreeWheel 23 = .ok (.goto (-21), 3) := by decide +kernel
theorem dX0_lowestFreeWheel_26 : decode cX0_lowestFreeWheel 26 = .ok (.bipush (-6), 2) := by decide +kernel
theorem dX0_lowestFreeWheel_28 : decode cX0_lowestFreeWheel 28 = .ok (.ireturn, 1) := by decide +kernel
set_option maxRecDepth 20000 in
theorem ggX0_bookingsOf_X0_wheelOf : GoodIn wsX0_bookingsOf wsX0_wheelOf := goodIn_r _ [5, 6, 7, 8, 4, 9, 10, 11, 12, 13, 14, 15, 16, 17, 18, 19, 20, 21, 22, 23, 24, 25] (by decide +kernel) (by decide +kernel)
set_option maxRecDepth 20000 in
theorem gX0_bookingsOf_X0_wheelOf : GoodIn wsX0_bookingsOf (wsV RX0 46 RX0 yX0_wheelOf wsX0_wheelOf) := goodIn_app (goodIn_of _ (by decide +kernel)) ggX0_bookingsOf_X0_wheelOf
theorem dX0_bookingsOf_0 : decode cX0_bookingsOf 0 = .ok (.iconst 0, 1) := by decide +kernel
theorem dX0_bookingsOf_1 : decode cX0_bookingsOf 1 = .ok (.istore_n 2, 1) := by decide +kernel
theorem dX0_bookingsOf_2 : decode cX0_bookingsOf 2 = .ok (.iconst 0, 1) := by decide +kernel
theorem dX0_bookingsOf_3 : decode cX0_bookingsOf 3 = .ok (.istore_n 3, 1) := by decide +kernel
theorem dX0_bookingsOf_4 : decode cX0_bookingsOf 4 = .ok (.iload_n 3, 1) := by decide +kernel
theorem dX0_bookingsOf_5 : decode cX0_bookingsOf 5 = .ok (.bipush 20, 2) := by decide +kernel
theorem dX0_bookingsOf_7 : decode cX0_bookingsOf 7 = .ok (.if_icmp .gt 23, 3) := by decide +kernel
theorem dX0_bookingsOf_10 : decode cX0_bookingsOf 10 = .ok (.aload_n 0, 1) := by decide +kernel
theorem dX0_bookingsOf_11 : decode cX0_bookingsOf 11 = .ok (.iload_n 1, 1) := by decide +kernel
theorem dX0_bookingsOf_12 : decode cX0_bookingsOf 12 = .ok (.iload_n 3, 1) := by decide +kernel
theorem dX0_bookingsOf_13 : decode cX0_bookingsOf 13 = .ok (.invokevirtual 46, 3) := by decide +kernel
theorem dX0_bookingsOf_16 : decode cX0_bookingsOf 16 = .ok (.bipush (-6), 2) := by decide +kernel
theorem dX0_bookingsOf_18 : decode cX0_bookingsOf 18 = .ok (.if_icmp .eq 6, 3) := by decide +kernel
theorem dX0_bookingsOf_21 : decode cX0_bookingsOf 21 = .ok (.iinc 2 1, 3) := by decide +kernel
theorem dX0_bookingsOf_24 : decode cX0_bookingsOf 24 = .ok (.iinc 3 1, 3) := by decide +kernel
theorem dX0_bookingsOf_27 : decode cX0_bookingsOf 27 = .ok (.goto (-23), 3) := by decide +kernel
theorem dX0_bookingsOf_30 : decode cX0_bookingsOf 30 = .ok (.iload_n 2, 1) := by decide +kernel
theorem dX0_bookingsOf_31 : decode cX0_bookingsOf 31 = .ok (.ireturn, 1) := by decide +kernel
theorem dX0_hasThrownTonight_0 : decode cX0_hasThrownTonight 0 = .ok (.aload_n 0, 1) := by decide +kernel
theorem dX0_hasThrownTonight_1 : decode cX0_hasThrownTonight 1 = .ok (.getfield 28, 3) := by decide +kernel
theorem dX0_hasThrownTonight_4 : decode cX0_hasThrownTonight 4 = .ok (.iload_n 1, 1) := by decide +kernel
theorem dX0_hasThrownTonight_5 : decode cX0_hasThrownTonight 5 = .ok (.ishr, 1) := by decide +kernel
theorem dX0_hasThrownTonight_6 : decode cX0_hasThrownTonight 6 = .ok (.iconst 1, 1) := by decide +kernel
theorem dX0_hasThrownTonight_7 : decode cX0_hasThrownTonight 7 = .ok (.iand, 1) := by decide +kernel
theorem dX0_hasThrownTonight_8 : decode cX0_hasThrownTonight 8 = .ok (.ifCond .eq 7, 3) := by decide +kernel
theorem dX0_hasThrownTonight_11 : decode cX0_hasThrownTonight 11 = .ok (.iconst 1, 1) := by decide +kernel
theorem dX0_hasThrownTonight_12 : decode cX0_hasThrownTonight 12 = .ok (.goto 4, 3) := by decide +kernel
theorem dX0_hasThrownTonight_15 : decode cX0_hasThrownTonight 15 = .ok (.iconst 0, 1) := by decide +kernel
theorem dX0_hasThrownTonight_16 : decode cX0_hasThrownTonight 16 = .ok (.ireturn, 1) := by decide +kernel
theorem dX0_noteThrower_0 : decode cX0_noteThrower 0 = .ok (.aload_n 0, 1) := by decide +kernel
theorem dX0_noteThrower_1 : decode cX0_noteThrower 1 = .ok (.dup, 1) := by decide +kernel
theorem dX0_noteThrower_2 : decode cX0_noteThrower 2 = .ok (.getfield 28, 3) := by decide +kernel
theorem dX0_noteThrower_5 : decode cX0_noteThrower 5 = .ok (.iconst 1, 1) := by decide +kernel
theorem dX0_noteThrower_6 : decode cX0_noteThrower 6 = .ok (.iload_n 1, 1) := by decide +kernel
theorem dX0_noteThrower_7 : decode cX0_noteThrower 7 = .ok (.ishl, 1) := by decide +kernel
theorem dX0_noteThrower_8 : decode cX0_noteThrower 8 = .ok (.ior, 1) := by decide +kernel
theorem dX0_noteThrower_9 : decode cX0_noteThrower 9 = .ok (.putfield 28, 3) := by decide +kernel
theorem dX0_noteThrower_12 : decode cX0_noteThrower 12 = .ok (.return_, 1) := by decide +kernel
set_option maxRecDepth 20000 in
theorem ggX0_passOneNight_X0_cross : GoodIn wsX0_passOneNight wsX0_cross := goodIn_r _ [7, 8, 9, 10, 11, 6, 12, 2, 13, 14, 15, 16, 17, 18, 19, 20, 21, 22] (by decide +kernel) (by decide +kernel)
set_option maxRecDepth 20000 in
theorem gX0_passOneNight_X0_cross : GoodIn wsX0_passOneNight (wsV RX0 49 RX0 yX0_cross wsX0_cross) := goodIn_app (goodIn_of _ (by decide +kernel)) ggX0_passOneNight_X0_cross
theorem dX0_passOneNight_0 : decode cX0_passOneNight 0 = .ok (.iconst 0, 1) := by decide +kernel
theorem dX0_passOneNight_1 : decode cX0_passOneNight 1 = .ok (.istore_n 1, 1) := by decide +kernel
theorem dX0_passOneNight_2 : decode cX0_passOneNight 2 = .ok (.iload_n 1, 1) := by decide +kernel
theorem dX0_passOneNight_3 : decode cX0_passOneNight 3 = .ok (.iconst 5, 1) := by decide +kernel
theorem dX0_passOneNight_4 : decode cX0_passOneNight 4 = .ok (.if_icmp .ge 15, 3) := by decide +kernel
theorem dX0_passOneNight_7 : decode cX0_passOneNight 7 = .ok (.aload_n 0, 1) := by decide +kernel
theorem dX0_passOneNight_8 : decode cX0_passOneNight 8 = .ok (.iload_n 1, 1) := by decide +kernel
theorem dX0_passOneNight_9 : decode cX0_passOneNight 9 = .ok (.iconst 0, 1) := by decide +kernel
theorem dX0_passOneNight_10 : decode cX0_passOneNight 10 = .ok (.invokevirtual 49, 3) := by decide +kernel
theorem dX0_passOneNight_13 : decode cX0_passOneNight 13 = .ok (.iinc 1 1, 3) := by decide +kernel
theorem dX0_passOneNight_16 : decode cX0_passOneNight 16 = .ok (.goto (-14), 3) := by decide +kernel
theorem dX0_passOneNight_19 : decode cX0_passOneNight 19 = .ok (.aload_n 0, 1) := by decide +kernel
theorem dX0_passOneNight_20 : decode cX0_passOneNight 20 = .ok (.iconst 0, 1) := by decide +kernel
theorem dX0_passOneNight_21 : decode cX0_passOneNight 21 = .ok (.putfield 28, 3) := by decide +kernel
theorem dX0_passOneNight_24 : decode cX0_passOneNight 24 = .ok (.aload_n 0, 1) := by decide +kernel
theorem dX0_passOneNight_25 : decode cX0_passOneNight 25 = .ok (.dup, 1) := by decide +kernel
theorem dX0_passOneNight_26 : decode cX0_passOneNight 26 = .ok (.getfield 24, 3) := by decide +kernel
theorem dX0_passOneNight_29 : decode cX0_passOneNight 29 = .ok (.iconst 1, 1) := by decide +kernel
theorem dX0_passOneNight_30 : decode cX0_passOneNight 30 = .ok (.iadd, 1) := by decide +kernel
theorem dX0_passOneNight_31 : decode cX0_passOneNight 31 = .ok (.putfield 24, 3) := by decide +kernel
theorem dX0_passOneNight_34 : decode cX0_passOneNight 34 = .ok (.return_, 1) := by decide +kernel
set_option maxRecDepth 20000 in
theorem ggX1_init_X5_init : GoodIn wsX1_init wsX5_init := goodIn_r _ [10, 11, 2, 3, 12, 13, 14, 15, 16, 17, 18, 19, 20, 21, 22, 23, 24, 25, 26, 27, 28, 29, 30, 31, 32, 33, 34, 35, 36, 37, 38, 39, 40, 41, 42, 43, 44, 45, 46, 47, 48, 49, 50, 51, 52, 53, 54, 55, 56, 57, 58, 59, 71, 63, 64, 65, 66, 67, 68, 69, 70, 72, 73, 74, 75, 76, 77, 78, 79, 80, 81, 82, 83] (by decide +kernel) (by decide +kernel)
set_option maxRecDepth 20000 in
theorem gX1_init_X5_init : GoodIn wsX1_init (wsX5_init) := ggX1_init_X5_init
theorem dX1_init_0 : decode cX1_init 0 = .ok (.aload_n 0, 1) := by decide +kernel
theorem dX1_init_1 : decode cX1_init 1 = .ok (.invokespecial 3, 3) := by decide +kernel
theorem dX1_init_4 : decode cX1_init 4 = .ok (.aload_n 0, 1) := by decide +kernel
theorem dX1_init_5 : decode cX1_init 5 = .ok (.bipush 7, 2) := by decide +kernel
theorem dX1_init_7 : decode cX1_init 7 = .ok (.anewarray 11, 3) := by decide +kernel
theorem dX1_init_10 : decode cX1_init 10 = .ok (.putfield 13, 3) := by decide +kernel
theorem dX1_init_13 : decode cX1_init 13 = .ok (.iconst 0, 1) := by decide +kernel
theorem dX1_init_14 : decode cX1_init 14 = .ok (.istore_n 1, 1) := by decide +kernel
theorem dX1_init_15 : decode cX1_init 15 = .ok (.iload_n 1, 1) := by decide +kernel
theorem dX1_init_16 : decode cX1_init 16 = .ok (.aload_n 0, 1) := by decide +kernel
theorem dX1_init_17 : decode cX1_init 17 = .ok (.getfield 13, 3) := by decide +kernel
theorem dX1_init_20 : decode cX1_init 20 = .ok (.arraylength, 1) := by decide +kernel
theorem dX1_init_21 : decode cX1_init 21 = .ok (.if_icmp .ge 22, 3) := by decide +kernel
theorem dX1_init_24 : decode cX1_init 24 = .ok (.aload_n 0, 1) := by decide +kernel
theorem dX1_init_25 : decode cX1_init 25 = .ok (.getfield 13, 3) := by decide +kernel
theorem dX1_init_28 : decode cX1_init 28 = .ok (.iload_n 1, 1) := by decide +kernel
theorem dX1_init_29 : decode cX1_init 29 = .ok (.new 11, 3) := by decide +kernel
theorem dX1_init_32 : decode cX1_init 32 = .ok (.dup, 1) := by decide +kernel
theorem dX1_init_33 : decode cX1_init 33 = .ok (.invokespecial 17, 3) := by decide +kernel
theorem dX1_init_36 : decode cX1_init 36 = .ok (.aastore, 1) := by decide +kernel
theorem dX1_init_37 : decode cX1_init 37 = .ok (.iinc 1 1, 3) := by decide +kernel
theorem dX1_init_40 : decode cX1_init 40 = .ok (.goto (-25), 3) := by decide +kernel
theorem dX1_init_43 : decode cX1_init 43 = .ok (.return_, 1) := by decide +kernel
theorem dX1_kept_0 : decode cX1_kept 0 = .ok (.aload_n 0, 1) := by decide +kernel
theorem dX1_kept_1 : decode cX1_kept 1 = .ok (.getfield 18, 3) := by decide +kernel
theorem dX1_kept_4 : decode cX1_kept 4 = .ok (.ireturn, 1) := by decide +kernel
theorem dX1_stateAt_0 : decode cX1_stateAt 0 = .ok (.iload_n 1, 1) := by decide +kernel
theorem dX1_stateAt_1 : decode cX1_stateAt 1 = .ok (.ifCond .lt 21, 3) := by decide +kernel
theorem dX1_stateAt_4 : decode cX1_stateAt 4 = .ok (.iload_n 1, 1) := by decide +kernel
theorem dX1_stateAt_5 : decode cX1_stateAt 5 = .ok (.aload_n 0, 1) := by decide +kernel
theorem dX1_stateAt_6 : decode cX1_stateAt 6 = .ok (.getfield 13, 3) := by decide +kernel
theorem dX1_stateAt_9 : decode cX1_stateAt 9 = .ok (.arraylength, 1) := by decide +kernel
theorem dX1_stateAt_10 : decode cX1_stateAt 10 = .ok (.if_icmp .ge 12, 3) := by decide +kernel
theorem dX1_stateAt_13 : decode cX1_stateAt 13 = .ok (.aload_n 0, 1) := by decide +kernel
theorem dX1_stateAt_14 : decode cX1_stateAt 14 = .ok (.getfield 13, 3) := by decide +kernel
theorem dX1_stateAt_17 : decode cX1_stateAt 17 = .ok (.iload_n 1, 1) := by decide +kernel
theorem dX1_stateAt_18 : decode cX1_stateAt 18 = .ok (.aaload, 1) := by decide +kernel
theorem dX1_stateAt_19 : decode cX1_stateAt 19 = .ok (.goto 4, 3) := by decide +kernel
theorem dX1_stateAt_22 : decode cX1_stateAt 22 = .ok (.aconst_null, 1) := by decide +kernel
theorem dX1_stateAt_23 : decode cX1_stateAt 23 = .ok (.areturn, 1) := by decide +kernel
set_option maxRecDepth 20000 in
theorem ggX1_prepare_X1_stateAt : GoodIn wsX1_prepare wsX1_stateAt := goodIn_r _ [6, 7, 59, 60, 61] (by decide +kernel) (by decide +kernel)
set_option maxRecDepth 20000 in
theorem gX1_prepare_X1_stateAt : GoodIn wsX1_prepare (wsV RX1 25 RX1 yX1_stateAt wsX1_stateAt) := goodIn_app (goodIn_of _ (by decide +kernel)) ggX1_prepare_X1_stateAt
set_option maxRecDepth 20000 in
theorem ggX1_prepare_X5_copyFrom : GoodIn wsX1_prepare wsX5_copyFrom := goodIn_r _ [12, 13, 14, 15, 16, 17, 18, 19, 20, 21, 22, 23, 24, 25, 26, 27, 28, 29, 30, 31, 32, 33, 34, 35, 36, 37, 38, 39, 40, 41, 42, 43, 44, 45, 46, 47, 48, 49, 50, 51, 52, 53, 54, 55, 56, 57, 58, 62, 63, 64, 65, 66, 67, 68, 69, 70, 71, 72, 73, 74, 75, 76, 77, 78, 79, 80, 81, 82] (by decide +kernel) (by decide +kernel)
set_option maxRecDepth 20000 in
theorem gX1_prepare_X5_copyFrom : GoodIn wsX1_prepare (wsV RX1 29 RX5 yX5_copyFrom wsX5_copyFrom) := goodIn_app (goodIn_of _ (by decide +kernel)) ggX1_prepare_X5_copyFrom
theorem dX1_prepare_0 : decode cX1_prepare 0 = .ok (.aload_n 0, 1) := by decide +kernel
theorem dX1_prepare_1 : decode cX1_prepare 1 = .ok (.aload_n 0, 1) := by decide +kernel
theorem dX1_prepare_2 : decode cX1_prepare 2 = .ok (.getfield 22, 3) := by decide +kernel
theorem dX1_prepare_5 : decode cX1_prepare 5 = .ok (.invokevirtual 25, 3) := by decide +kernel
theorem dX1_prepare_8 : decode cX1_prepare 8 = .ok (.astore_n 2, 1) := by decide +kernel
theorem dX1_prepare_9 : decode cX1_prepare 9 = .ok (.aload_n 2, 1) := by decide +kernel
theorem dX1_prepare_10 : decode cX1_prepare 10 = .ok (.ifnull 8, 3) := by decide +kernel
theorem dX1_prepare_13 : decode cX1_prepare 13 = .ok (.aload_n 2, 1) := by decide +kernel
theorem dX1_prepare_14 : decode cX1_prepare 14 = .ok (.aload_n 1, 1) := by decide +kernel
theorem dX1_prepare_15 : decode cX1_prepare 15 = .ok (.invokevirtual 29, 3) := by decide +kernel
theorem dX1_prepare_18 : decode cX1_prepare 18 = .ok (.return_, 1) := by decide +kernel
theorem dX1_record_0 : decode cX1_record 0 = .ok (.iload_n 1, 1) := by decide +kernel
theorem dX1_record_1 : decode cX1_record 1 = .ok (.ifCond .lt 31, 3) := by decide +kernel
theorem dX1_record_4 : decode cX1_record 4 = .ok (.aload_n 0, 1) := by decide +kernel
theorem dX1_record_5 : decode cX1_record 5 = .ok (.aload_n 0, 1) := by decide +kernel
theorem dX1_record_6 : decode cX1_record 6 = .ok (.getfield 22, 3) := by decide +kernel
theorem dX1_record_9 : decode cX1_record 9 = .ok (.iconst 1, 1) := by decide +kernel
theorem dX1_record_10 : decode cX1_record 10 = .ok (.iadd, 1) := by decide +kernel
theorem dX1_record_11 : decode cX1_record 11 = .ok (.bipush 7, 2) := by decide +kernel
theorem dX1_record_13 : decode cX1_record 13 = .ok (.irem, 1) := by decide +kernel
theorem dX1_record_14 : decode cX1_record 14 = .ok (.putfield 22, 3) := by decide +kernel
theorem dX1_record_17 : decode cX1_record 17 = .ok (.aload_n 0, 1) := by decide +kernel
theorem dX1_record_18 : decode cX1_record 18 = .ok (.aload_n 0, 1) := by decide +kernel
theorem dX1_record_19 : decode cX1_record 19 = .ok (.getfield 18, 3) := by decide +kernel
theorem dX1_record_22 : decode cX1_record 22 = .ok (.iconst 1, 1) := by decide +kernel
theorem dX1_record_23 : decode cX1_record 23 = .ok (.iadd, 1) := by decide +kernel
theorem dX1_record_24 : decode cX1_record 24 = .ok (.bipush 6, 2) := by decide +kernel
theorem dX1_record_26 : decode cX1_record 26 = .ok (.invokestatic 33, 3) := by decide +kernel
theorem dX1_record_29 : decode cX1_record 29 = .ok (.putfield 18, 3) := by decide +kernel
theorem dX1_record_32 : decode cX1_record 32 = .ok (.iload_n 1, 1) := by decide +kernel
theorem dX1_record_33 : decode cX1_record 33 = .ok (.ireturn, 1) := by decide +kernel
theorem dX2_init_0 : decode cX2_init 0 = .ok (.aload_n 0, 1) := by decide +kernel
theorem dX2_init_1 : decode cX2_init 1 = .ok (.invokespecial 3, 3) := by decide +kernel
theorem dX2_init_4 : decode cX2_init 4 = .ok (.aload_n 0, 1) := by decide +kernel
theorem dX2_init_5 : decode cX2_init 5 = .ok (.bipush 80, 2) := by decide +kernel
theorem dX2_init_7 : decode cX2_init 7 = .ok (.newarray .int, 2) := by decide +kernel
theorem dX2_init_9 : decode cX2_init 9 = .ok (.putfield 9, 3) := by decide +kernel
theorem dX2_init_12 : decode cX2_init 12 = .ok (.return_, 1) := by decide +kernel
theorem dX2_length_0 : decode cX2_length 0 = .ok (.aload_n 0, 1) := by decide +kernel
theorem dX2_length_1 : decode cX2_length 1 = .ok (.getfield 15, 3) := by decide +kernel
theorem dX2_length_4 : decode cX2_length 4 = .ok (.ireturn, 1) := by decide +kernel
set_option maxRecDepth 20000 in
theorem ggX3_init_X4_init : GoodIn wsX3_init wsX4_init := goodIn_r _ [17, 18, 2, 3, 19, 20, 21, 22, 23, 24, 25] (by decide +kernel) (by decide +kernel)
set_option maxRecDepth 20000 in
theorem gX3_init_X4_init : GoodIn wsX3_init (wsX4_init) := ggX3_init_X4_init
theorem dX3_init_0 : decode cX3_init 0 = .ok (.aload_n 0, 1) := by decide +kernel
theorem dX3_init_1 : decode cX3_init 1 = .ok (.invokespecial 3, 3) := by decide +kernel
theorem dX3_init_4 : decode cX3_init 4 = .ok (.aload_n 0, 1) := by decide +kernel
theorem dX3_init_5 : decode cX3_init 5 = .ok (.new 9, 3) := by decide +kernel
theorem dX3_init_8 : decode cX3_init 8 = .ok (.dup, 1) := by decide +kernel
theorem dX3_init_9 : decode cX3_init 9 = .ok (.bipush 20, 2) := by decide +kernel
theorem dX3_init_11 : decode cX3_init 11 = .ok (.invokespecial 11, 3) := by decide +kernel
theorem dX3_init_14 : decode cX3_init 14 = .ok (.putfield 14, 3) := by decide +kernel
theorem dX3_init_17 : decode cX3_init 17 = .ok (.aload_n 0, 1) := by decide +kernel
theorem dX3_init_18 : decode cX3_init 18 = .ok (.new 9, 3) := by decide +kernel
theorem dX3_init_21 : decode cX3_init 21 = .ok (.dup, 1) := by decide +kernel
theorem dX3_init_22 : decode cX3_init 22 = .ok (.bipush 20, 2) := by decide +kernel
theorem dX3_init_24 : decode cX3_init 24 = .ok (.invokespecial 11, 3) := by decide +kernel
theorem dX3_init_27 : decode cX3_init 27 = .ok (.putfield 20, 3) := by decide +kernel
theorem dX3_init_30 : decode cX3_init 30 = .ok (.aload_n 0, 1) := by decide +kernel
theorem dX3_init_31 : decode cX3_init 31 = .ok (.new 9, 3) := by decide +kernel
theorem dX3_init_34 : decode cX3_init 34 = .ok (.dup, 1) := by decide +kernel
theorem dX3_init_35 : decode cX3_init 35 = .ok (.bipush 20, 2) := by decide +kernel
theorem dX3_init_37 : decode cX3_init 37 = .ok (.invokespecial 11, 3) := by decide +kernel
theorem dX3_init_40 : decode cX3_init 40 = .ok (.putfield 23, 3) := by decide +kernel
theorem dX3_init_43 : decode cX3_init 43 = .ok (.aload_n 0, 1) := by decide +kernel
theorem dX3_init_44 : decode cX3_init 44 = .ok (.new 9, 3) := by decide +kernel
theorem dX3_init_47 : decode cX3_init 47 = .ok (.dup, 1) := by decide +kernel
theorem dX3_init_48 : decode cX3_init 48 = .ok (.bipush 20, 2) := by decide +kernel
theorem dX3_init_50 : decode cX3_init 50 = .ok (.invokespecial 11, 3) := by decide +kernel
theorem dX3_init_53 : decode cX3_init 53 = .ok (.putfield 26, 3) := by decide +kernel
theorem dX3_init_56 : decode cX3_init 56 = .ok (.aload_n 0, 1) := by decide +kernel
theorem dX3_init_57 : decode cX3_init 57 = .ok (.new 9, 3) := by decide +kernel
theorem dX3_init_60 : decode cX3_init 60 = .ok (.dup, 1) := by decide +kernel
theorem dX3_init_61 : decode cX3_init 61 = .ok (.bipush 20, 2) := by decide +kernel
theorem dX3_init_63 : decode cX3_init 63 = .ok (.invokespecial 11, 3) := by decide +kernel
theorem dX3_init_66 : decode cX3_init 66 = .ok (.putfield 29, 3) := by decide +kernel
theorem dX3_init_69 : decode cX3_init 69 = .ok (.aload_n 0, 1) := by decide +kernel
theorem dX3_init_70 : decode cX3_init 70 = .ok (.new 9, 3) := by decide +kernel
theorem dX3_init_73 : decode cX3_init 73 = .ok (.dup, 1) := by decide +kernel
theorem dX3_init_74 : decode cX3_init 74 = .ok (.bipush 20, 2) := by decide +kernel
theorem dX3_init_76 : decode cX3_init 76 = .ok (.invokespecial 11, 3) := by decide +kernel
theorem dX3_init_79 : decode cX3_init 79 = .ok (.putfield 32, 3) := by decide +kernel
theorem dX3_init_82 : decode cX3_init 82 = .ok (.aload_n 0, 1) := by decide +kernel
theorem dX3_init_83 : decode cX3_init 83 = .ok (.new 9, 3) := by decide +kernel
theorem dX3_init_86 : decode cX3_init 86 = .ok (.dup, 1) := by decide +kernel
theorem dX3_init_87 : decode cX3_init 87 = .ok (.bipush 20, 2) := by decide +kernel
theorem dX3_init_89 : decode cX3_init 89 = .ok (.invokespecial 11, 3) := by decide +kernel
theorem dX3_init_92 : decode cX3_init 92 = .ok (.putfield 35, 3) := by decide +kernel
theorem dX3_init_95 : decode cX3_init 95 = .ok (.aload_n 0, 1) := by decide +kernel
theorem dX3_init_96 : decode cX3_init 96 = .ok (.new 9, 3) := by decide +kernel
theorem dX3_init_99 : decode cX3_init 99 = .ok (.dup, 1) := by decide +kernel
theorem dX3_init_100 : decode cX3_init 100 = .ok (.bipush 20, 2) := by decide +kernel
theorem dX3_init_102 : decode cX3_init 102 = .ok (.invokespecial 11, 3) := by decide +kernel
theorem dX3_init_105 : decode cX3_init 105 = .ok (.putfield 38, 3) := by decide +kernel
theorem dX3_init_108 : decode cX3_init 108 = .ok (.return_, 1) := by decide +kernel
set_option maxRecDepth 20000 in
theorem ggX3_copyFrom_X4_copyFrom : GoodIn wsX3_copyFrom wsX4_copyFrom := goodIn_r _ [14, 15, 16, 17, 18, 19, 20, 21, 22, 23, 33] (by decide +kernel) (by decide +kernel)
set_option maxRecDepth 20000 in
theorem gX3_copyFrom_X4_copyFrom : GoodIn wsX3_copyFrom (wsV RX3 41 RX4 yX4_copyFrom wsX4_copyFrom) := goodIn_app (goodIn_of _ (by decide +kernel)) ggX3_copyFrom_X4_copyFrom
theorem dX3_copyFrom_0 : decode cX3_copyFrom 0 = .ok (.aload_n 1, 1) := by decide +kernel
theorem dX3_copyFrom_1 : decode cX3_copyFrom 1 = .ok (.ifnonnull 4, 3) := by decide +kernel
theorem dX3_copyFrom_4 : decode cX3_copyFrom 4 = .ok (.return_, 1) := by decide +kernel
theorem dX3_copyFrom_5 : decode cX3_copyFrom 5 = .ok (.aload_n 0, 1) := by decide +kernel
theorem dX3_copyFrom_6 : decode cX3_copyFrom 6 = .ok (.getfield 14, 3) := by decide +kernel
theorem dX3_copyFrom_9 : decode cX3_copyFrom 9 = .ok (.aload_n 1, 1) := by decide +kernel
theorem dX3_copyFrom_10 : decode cX3_copyFrom 10 = .ok (.getfield 14, 3) := by decide +kernel
theorem dX3_copyFrom_13 : decode cX3_copyFrom 13 = .ok (.invokevirtual 41, 3) := by decide +kernel
theorem dX3_copyFrom_16 : decode cX3_copyFrom 16 = .ok (.aload_n 0, 1) := by decide +kernel
theorem dX3_copyFrom_17 : decode cX3_copyFrom 17 = .ok (.getfield 20, 3) := by decide +kernel
theorem dX3_copyFrom_20 : decode cX3_copyFrom 20 = .ok (.aload_n 1, 1) := by decide +kernel
theorem dX3_copyFrom_21 : decode cX3_copyFrom 21 = .ok (.getfield 20, 3) := by decide +kernel
theorem dX3_copyFrom_24 : decode cX3_copyFrom 24 = .ok (.invokevirtual 41, 3) := by decide +kernel
theorem dX3_copyFrom_27 : decode cX3_copyFrom 27 = .ok (.aload_n 0, 1) := by decide +kernel
theorem dX3_copyFrom_28 : decode cX3_copyFrom 28 = .ok (.getfield 23, 3) := by decide +kernel
theorem dX3_copyFrom_31 : decode cX3_copyFrom 31 = .ok (.aload_n 1, 1) := by decide +kernel
theorem dX3_copyFrom_32 : decode cX3_copyFrom 32 = .ok (.getfield 23, 3) := by decide +kernel
theorem dX3_copyFrom_35 : decode cX3_copyFrom 35 = .ok (.invokevirtual 41, 3) := by decide +kernel
theorem dX3_copyFrom_38 : decode cX3_copyFrom 38 = .ok (.aload_n 0, 1) := by decide +kernel
theorem dX3_copyFrom_39 : decode cX3_copyFrom 39 = .ok (.getfield 26, 3) := by decide +kernel
theorem dX3_copyFrom_42 : decode cX3_copyFrom 42 = .ok (.aload_n 1, 1) := by decide +kernel
theorem dX3_copyFrom_43 : decode cX3_copyFrom 43 = .ok (.getfield 26, 3) := by decide +kernel
theorem dX3_copyFrom_46 : decode cX3_copyFrom 46 = .ok (.invokevirtual 41, 3) := by decide +kernel
theorem dX3_copyFrom_49 : decode cX3_copyFrom 49 = .ok (.aload_n 0, 1) := by decide +kernel
theorem dX3_copyFrom_50 : decode cX3_copyFrom 50 = .ok (.getfield 29, 3) := by decide +kernel
theorem dX3_copyFrom_53 : decode cX3_copyFrom 53 = .ok (.aload_n 1, 1) := by decide +kernel
theorem dX3_copyFrom_54 : decode cX3_copyFrom 54 = .ok (.getfield 29, 3) := by decide +kernel
theorem dX3_copyFrom_57 : decode cX3_copyFrom 57 = .ok (.invokevirtual 41, 3) := by decide +kernel
theorem dX3_copyFrom_60 : decode cX3_copyFrom 60 = .ok (.aload_n 0, 1) := by decide +kernel
theorem dX3_copyFrom_61 : decode cX3_copyFrom 61 = .ok (.getfield 32, 3) := by decide +kernel
theorem dX3_copyFrom_64 : decode cX3_copyFrom 64 = .ok (.aload_n 1, 1) := by decide +kernel
theorem dX3_copyFrom_65 : decode cX3_copyFrom 65 = .ok (.getfield 32, 3) := by decide +kernel
theorem dX3_copyFrom_68 : decode cX3_copyFrom 68 = .ok (.invokevirtual 41, 3) := by decide +kernel
theorem dX3_copyFrom_71 : decode cX3_copyFrom 71 = .ok (.aload_n 0, 1) := by decide +kernel
theorem dX3_copyFrom_72 : decode cX3_copyFrom 72 = .ok (.getfield 35, 3) := by decide +kernel
theorem dX3_copyFrom_75 : decode cX3_copyFrom 75 = .ok (.aload_n 1, 1) := by decide +kernel
theorem dX3_copyFrom_76 : decode cX3_copyFrom 76 = .ok (.getfield 35, 3) := by decide +kernel
theorem dX3_copyFrom_79 : decode cX3_copyFrom 79 = .ok (.invokevirtual 41, 3) := by decide +kernel
theorem dX3_copyFrom_82 : decode cX3_copyFrom 82 = .ok (.aload_n 0, 1) := by decide +kernel
theorem dX3_copyFrom_83 : decode cX3_copyFrom 83 = .ok (.getfield 38, 3) := by decide +kernel
theorem dX3_copyFrom_86 : decode cX3_copyFrom 86 = .ok (.aload_n 1, 1) := by decide +kernel
theorem dX3_copyFrom_87 : decode cX3_copyFrom 87 = .ok (.getfield 38, 3) := by decide +kernel
theorem dX3_copyFrom_90 : decode cX3_copyFrom 90 = .ok (.invokevirtual 41, 3) := by decide +kernel
theorem dX3_copyFrom_93 : decode cX3_copyFrom 93 = .ok (.aload_n 0, 1) := by decide +kernel
theorem dX3_copyFrom_94 : decode cX3_copyFrom 94 = .ok (.aload_n 1, 1) := by decide +kernel
theorem dX3_copyFrom_95 : decode cX3_copyFrom 95 = .ok (.getfield 45, 3) := by decide +kernel
theorem dX3_copyFrom_98 : decode cX3_copyFrom 98 = .ok (.putfield 45, 3) := by decide +kernel
theorem dX3_copyFrom_101 : decode cX3_copyFrom 101 = .ok (.return_, 1) := by decide +kernel
theorem dX3_has_0 : decode cX3_has 0 = .ok (.iload_n 1, 1) := by decide +kernel
theorem dX3_has_1 : decode cX3_has 1 = .ok (.ifCond .lt 15, 3) := by decide +kernel
theorem dX3_has_4 : decode cX3_has 4 = .ok (.iload_n 1, 1) := by decide +kernel
theorem dX3_has_5 : decode cX3_has 5 = .ok (.aload_n 0, 1) := by decide +kernel
theorem dX3_has_6 : decode cX3_has 6 = .ok (.getfield 45, 3) := by decide +kernel
theorem dX3_has_9 : decode cX3_has 9 = .ok (.if_icmp .ge 7, 3) := by decide +kernel
theorem dX3_has_12 : decode cX3_has 12 = .ok (.iconst 1, 1) := by decide +kernel
theorem dX3_has_13 : decode cX3_has 13 = .ok (.goto 4, 3) := by decide +kernel
theorem dX3_has_16 : decode cX3_has 16 = .ok (.iconst 0, 1) := by decide +kernel
theorem dX3_has_17 : decode cX3_has 17 = .ok (.ireturn, 1) := by decide +kernel
set_option maxRecDepth 20000 in
theorem ggX3_isKind_X4_at : GoodIn wsX3_isKind wsX4_at := goodIn_r _ [6, 7, 17] (by decide +kernel) (by decide +kernel)
set_option maxRecDepth 20000 in
theorem gX3_isKind_X4_at : GoodIn wsX3_isKind (wsV RX3 49 RX4 yX4_at wsX4_at) := goodIn_app (goodIn_of _ (by decide +kernel)) ggX3_isKind_X4_at
theorem dX3_isKind_0 : decode cX3_isKind 0 = .ok (.aload_n 0, 1) := by decide +kernel
theorem dX3_isKind_1 : decode cX3_isKind 1 = .ok (.getfield 26, 3) := by decide +kernel
theorem dX3_isKind_4 : decode cX3_isKind 4 = .ok (.iload_n 1, 1) := by decide +kernel
theorem dX3_isKind_5 : decode cX3_isKind 5 = .ok (.invokevirtual 49, 3) := by decide +kernel
theorem dX3_isKind_8 : decode cX3_isKind 8 = .ok (.iload_n 2, 1) := by decide +kernel
theorem dX3_isKind_9 : decode cX3_isKind 9 = .ok (.if_icmp .ne 7, 3) := by decide +kernel
theorem dX3_isKind_12 : decode cX3_isKind 12 = .ok (.iconst 1, 1) := by decide +kernel
theorem dX3_isKind_13 : decode cX3_isKind 13 = .ok (.goto 4, 3) := by decide +kernel
theorem dX3_isKind_16 : decode cX3_isKind 16 = .ok (.iconst 0, 1) := by decide +kernel
theorem dX3_isKind_17 : decode cX3_isKind 17 = .ok (.ireturn, 1) := by decide +kernel
set_option maxRecDepth 20000 in
theorem ggX3_isOnRack_X4_at : GoodIn wsX3_isOnRack wsX4_at := goodIn_r _ [6, 7, 17] (by decide +kernel) (by decide +kernel)
set_option maxRecDepth 20000 in
theorem gX3_isOnRack_X4_at : GoodIn wsX3_isOnRack (wsV RX3 49 RX4 yX4_at wsX4_at) := goodIn_app (goodIn_of _ (by decide +kernel)) ggX3_isOnRack_X4_at
theorem dX3_isOnRack_0 : decode cX3_isOnRack 0 = .ok (.aload_n 0, 1) := by decide +kernel
theorem dX3_isOnRack_1 : decode cX3_isOnRack 1 = .ok (.getfield 29, 3) := by decide +kernel
theorem dX3_isOnRack_4 : decode cX3_isOnRack 4 = .ok (.iload_n 1, 1) := by decide +kernel
theorem dX3_isOnRack_5 : decode cX3_isOnRack 5 = .ok (.invokevirtual 49, 3) := by decide +kernel
theorem dX3_isOnRack_8 : decode cX3_isOnRack 8 = .ok (.bipush 24, 2) := by decide +kernel
theorem dX3_isOnRack_10 : decode cX3_isOnRack 10 = .ok (.if_icmp .ge 7, 3) := by decide +kernel
theorem dX3_isOnRack_13 : decode cX3_isOnRack 13 = .ok (.iconst 1, 1) := by decide +kernel
theorem dX3_isOnRack_14 : decode cX3_isOnRack 14 = .ok (.goto 4, 3) := by decide +kernel
theorem dX3_isOnRack_17 : decode cX3_isOnRack 17 = .ok (.iconst 0, 1) := by decide +kernel
theorem dX3_isOnRack_18 : decode cX3_isOnRack 18 = .ok (.ireturn, 1) := by decide +kernel
set_option maxRecDepth 20000 in
theorem ggX3_isBesideKiln_X4_at : GoodIn wsX3_isBesideKiln wsX4_at := goodIn_r _ [6, 7, 17] (by decide +kernel) (by decide +kernel)
set_option maxRecDepth 20000 in
theorem gX3_isBesideKiln_X4_at : GoodIn wsX3_isBesideKiln (wsV RX3 49 RX4 yX4_at wsX4_at) := goodIn_app (goodIn_of _ (by decide +kernel)) ggX3_isBesideKiln_X4_at
theorem dX3_isBesideKiln_0 : decode cX3_isBesideKiln 0 = .ok (.aload_n 0, 1) := by decide +kernel
theorem dX3_isBesideKiln_1 : decode cX3_isBesideKiln 1 = .ok (.getfield 29, 3) := by decide +kernel
theorem dX3_isBesideKiln_4 : decode cX3_isBesideKiln 4 = .ok (.iload_n 1, 1) := by decide +kernel
theorem dX3_isBesideKiln_5 : decode cX3_isBesideKiln 5 = .ok (.invokevirtual 49, 3) := by decide +kernel
theorem dX3_isBesideKiln_8 : decode cX3_isBesideKiln 8 = .ok (.bipush 8, 2) := by decide +kernel
theorem dX3_isBesideKiln_10 : decode cX3_isBesideKiln 10 = .ok (.if_icmp .ge 7, 3) := by decide +kernel
theorem dX3_isBesideKiln_13 : decode cX3_isBesideKiln 13 = .ok (.iconst 1, 1) := by decide +kernel
theorem dX3_isBesideKiln_14 : decode cX3_isBesideKiln 14 = .ok (.goto 4, 3) := by decide +kernel
theorem dX3_isBesideKiln_17 : decode cX3_isBesideKiln 17 = .ok (.iconst 0, 1) := by decide +kernel
theorem dX3_isBesideKiln_18 : decode cX3_isBesideKiln 18 = .ok (.ireturn, 1) := by decide +kernel
set_option maxRecDepth 20000 in
theorem ggX3_isInKiln_X4_at : GoodIn wsX3_isInKiln wsX4_at := goodIn_r _ [6, 7, 17] (by decide +kernel) (by decide +kernel)
set_option maxRecDepth 20000 in
theorem gX3_isInKiln_X4_at : GoodIn wsX3_isInKiln (wsV RX3 49 RX4 yX4_at wsX4_at) := goodIn_app (goodIn_of _ (by decide +kernel)) ggX3_isInKiln_X4_at
theorem dX3_isInKiln_0 : decode cX3_isInKiln 0 = .ok (.aload_n 0, 1) := by decide +kernel
theorem dX3_isInKiln_1 : decode cX3_isInKiln 1 = .ok (.getfield 29, 3) := by decide +kernel
theorem dX3_isInKiln_4 : decode cX3_isInKiln 4 = .ok (.iload_n 1, 1) := by decide +kernel
theorem dX3_isInKiln_5 : decode cX3_isInKiln 5 = .ok (.invokevirtual 49, 3) := by decide +kernel
theorem dX3_isInKiln_8 : decode cX3_isInKiln 8 = .ok (.bipush 24, 2) := by decide +kernel
theorem dX3_isInKiln_10 : decode cX3_isInKiln 10 = .ok (.if_icmp .ne 7, 3) := by decide +kernel
theorem dX3_isInKiln_13 : decode cX3_isInKiln 13 = .ok (.iconst 1, 1) := by decide +kernel
theorem dX3_isInKiln_14 : decode cX3_isInKiln 14 = .ok (.goto 4, 3) := by decide +kernel
theorem dX3_isInKiln_17 : decode cX3_isInKiln 17 = .ok (.iconst 0, 1) := by decide +kernel
theorem dX3_isInKiln_18 : decode cX3_isInKiln 18 = .ok (.ireturn, 1) := by decide +kernel
set_option maxRecDepth 20000 in
theorem ggX3_addClay_X4_write : GoodIn wsX3_addClay wsX4_write := goodIn_r _ [12, 13, 37] (by decide +kernel) (by decide +kernel)
set_option maxRecDepth 20000 in
theorem gX3_addClay_X4_write : GoodIn wsX3_addClay (wsV RX3 53 RX4 yX4_write wsX4_write) := goodIn_app (goodIn_of _ (by decide +kernel)) ggX3_addClay_X4_write
set_option maxRecDepth 20000 in
theorem ggX3_addClay_X3_putOnRack : GoodIn wsX3_addClay wsX3_putOnRack := goodIn_r _ [18, 19, 20, 21, 22, 17, 23, 1, 24, 25, 26, 11, 27, 13, 8, 9, 10, 12, 28, 29, 30, 31, 32, 33, 34, 35, 36, 37] (by decide +kernel) (by decide +kernel)
set_option maxRecDepth 20000 in
theorem gX3_addClay_X3_putOnRack : GoodIn wsX3_addClay (wsV RX3 57 RX3 yX3_putOnRack wsX3_putOnRack) := goodIn_app (goodIn_of _ (by decide +kernel)) ggX3_addClay_X3_putOnRack
theorem dX3_addClay_0 : decode cX3_addClay 0 = .ok (.aload_n 0, 1) := by decide +kernel
theorem dX3_addClay_1 : decode cX3_addClay 1 = .ok (.getfield 45, 3) := by decide +kernel
theorem dX3_addClay_4 : decode cX3_addClay 4 = .ok (.istore 4, 2) := by decide +kernel
theorem dX3_addClay_6 : decode cX3_addClay 6 = .ok (.aload_n 0, 1) := by decide +kernel
theorem dX3_addClay_7 : decode cX3_addClay 7 = .ok (.getfield 14, 3) := by decide +kernel
theorem dX3_addClay_10 : decode cX3_addClay 10 = .ok (.iload 4, 2) := by decide +kernel
theorem dX3_addClay_12 : decode cX3_addClay 12 = .ok (.iload_n 1, 1) := by decide +kernel
theorem dX3_addClay_13 : decode cX3_addClay 13 = .ok (.invokevirtual 53, 3) := by decide +kernel
theorem dX3_addClay_16 : decode cX3_addClay 16 = .ok (.aload_n 0, 1) := by decide +kernel
theorem dX3_addClay_17 : decode cX3_addClay 17 = .ok (.getfield 20, 3) := by decide +kernel
theorem dX3_addClay_20 : decode cX3_addClay 20 = .ok (.iload 4, 2) := by decide +kernel
theorem dX3_addClay_22 : decode cX3_addClay 22 = .ok (.iload_n 2, 1) := by decide +kernel
theorem dX3_addClay_23 : decode cX3_addClay 23 = .ok (.invokevirtual 53, 3) := by decide +kernel
theorem dX3_addClay_26 : decode cX3_addClay 26 = .ok (.aload_n 0, 1) := by decide +kernel
theorem dX3_addClay_27 : decode cX3_addClay 27 = .ok (.getfield 23, 3) := by decide +kernel
theorem dX3_addClay_30 : decode cX3_addClay 30 = .ok (.iload 4, 2) := by decide +kernel
theorem dX3_addClay_32 : decode cX3_addClay 32 = .ok (.iload_n 3, 1) := by decide +kernel
theorem dX3_addClay_33 : decode cX3_addClay 33 = .ok (.invokevirtual 53, 3) := by decide +kernel
theorem dX3_addClay_36 : decode cX3_addClay 36 = .ok (.aload_n 0, 1) := by decide +kernel
theorem dX3_addClay_37 : decode cX3_addClay 37 = .ok (.getfield 26, 3) := by decide +kernel
theorem dX3_addClay_40 : decode cX3_addClay 40 = .ok (.iload 4, 2) := by decide +kernel
theorem dX3_addClay_42 : decode cX3_addClay 42 = .ok (.iconst 0, 1) := by decide +kernel
theorem dX3_addClay_43 : decode cX3_addClay 43 = .ok (.invokevirtual 53, 3) := by decide +kernel
theorem dX3_addClay_46 : decode cX3_addClay 46 = .ok (.aload_n 0, 1) := by decide +kernel
theorem dX3_addClay_47 : decode cX3_addClay 47 = .ok (.getfield 32, 3) := by decide +kernel
theorem dX3_addClay_50 : decode cX3_addClay 50 = .ok (.iload 4, 2) := by decide +kernel
theorem dX3_addClay_52 : decode cX3_addClay 52 = .ok (.iconst 0, 1) := by decide +kernel
theorem dX3_addClay_53 : decode cX3_addClay 53 = .ok (.invokevirtual 53, 3) := by decide +kernel
theorem dX3_addClay_56 : decode cX3_addClay 56 = .ok (.aload_n 0, 1) := by decide +kernel
theorem dX3_addClay_57 : decode cX3_addClay 57 = .ok (.getfield 38, 3) := by decide +kernel
theorem dX3_addClay_60 : decode cX3_addClay 60 = .ok (.iload 4, 2) := by decide +kernel
theorem dX3_addClay_62 : decode cX3_addClay 62 = .ok (.iconst 0, 1) := by decide +kernel
theorem dX3_addClay_63 : decode cX3_addClay 63 = .ok (.invokevirtual 53, 3) := by decide +kernel
theorem dX3_addClay_66 : decode cX3_addClay 66 = .ok (.aload_n 0, 1) := by decide +kernel
theorem dX3_addClay_67 : decode cX3_addClay 67 = .ok (.iload 4, 2) := by decide +kernel
theorem dX3_addClay_69 : decode cX3_addClay 69 = .ok (.invokevirtual 57, 3) := by decide +kernel
theorem dX3_addClay_72 : decode cX3_addClay 72 = .ok (.aload_n 0, 1) := by decide +kernel
theorem dX3_addClay_73 : decode cX3_addClay 73 = .ok (.dup, 1) := by decide +kernel
theorem dX3_addClay_74 : decode cX3_addClay 74 = .ok (.getfield 45, 3) := by decide +kernel
theorem dX3_addClay_77 : decode cX3_addClay 77 = .ok (.iconst 1, 1) := by decide +kernel
theorem dX3_addClay_78 : decode cX3_addClay 78 = .ok (.iadd, 1) := by decide +kernel
theorem dX3_addClay_79 : decode cX3_addClay 79 = .ok (.putfield 45, 3) := by decide +kernel
theorem dX3_addClay_82 : decode cX3_addClay 82 = .ok (.iload 4, 2) := by decide +kernel
theorem dX3_addClay_84 : decode cX3_addClay 84 = .ok (.ireturn, 1) := by decide +kernel
set_option maxRecDepth 20000 in
theorem ggX3_putOnRack_X3_placesTaken : GoodIn wsX3_putOnRack wsX3_placesTaken := goodIn_r _ [6, 7, 1, 8, 9, 10, 11, 12, 13, 18, 19, 20, 21, 22, 23, 24, 25, 26, 27] (by decide +kernel) (by decide +kernel)
set_option maxRecDepth 20000 in
theorem gX3_putOnRack_X3_placesTaken : GoodIn wsX3_putOnRack (wsV RX3 60 RX3 yX3_placesTaken wsX3_placesTaken) := goodIn_app (goodIn_of _ (by decide +kernel)) ggX3_putOnRack_X3_placesTaken
set_option maxRecDepth 20000 in
theorem ggX3_putOnRack_X4_write : GoodIn wsX3_putOnRack wsX4_write := goodIn_r _ [17, 13, 27] (by decide +kernel) (by decide +kernel)
set_option maxRecDepth 20000 in
theorem gX3_putOnRack_X4_write : GoodIn wsX3_putOnRack (wsV RX3 53 RX4 yX4_write wsX4_write) := goodIn_app (goodIn_of _ (by decide +kernel)) ggX3_putOnRack_X4_write
theorem dX3_putOnRack_0 : decode cX3_putOnRack 0 = .ok (.aload_n 0, 1) := by decide +kernel
theorem dX3_putOnRack_1 : decode cX3_putOnRack 1 = .ok (.invokevirtual 60, 3) := by decide +kernel
theorem dX3_putOnRack_4 : decode cX3_putOnRack 4 = .ok (.istore_n 2, 1) := by decide +kernel
theorem dX3_putOnRack_5 : decode cX3_putOnRack 5 = .ok (.iconst 0, 1) := by decide +kernel
theorem dX3_putOnRack_6 : decode cX3_putOnRack 6 = .ok (.istore_n 3, 1) := by decide +kernel
theorem dX3_putOnRack_7 : decode cX3_putOnRack 7 = .ok (.iload_n 3, 1) := by decide +kernel
theorem dX3_putOnRack_8 : decode cX3_putOnRack 8 = .ok (.bipush 23, 2) := by decide +kernel
theorem dX3_putOnRack_10 : decode cX3_putOnRack 10 = .ok (.if_icmp .ge 17, 3) := by decide +kernel
theorem dX3_putOnRack_13 : decode cX3_putOnRack 13 = .ok (.iload_n 2, 1) := by decide +kernel
theorem dX3_putOnRack_14 : decode cX3_putOnRack 14 = .ok (.iload_n 3, 1) := by decide +kernel
theorem dX3_putOnRack_15 : decode cX3_putOnRack 15 = .ok (.ishr, 1) := by decide +kernel
theorem dX3_putOnRack_16 : decode cX3_putOnRack 16 = .ok (.iconst 1, 1) := by decide +kernel
theorem dX3_putOnRack_17 : decode cX3_putOnRack 17 = .ok (.iand, 1) := by decide +kernel
theorem dX3_putOnRack_18 : decode cX3_putOnRack 18 = .ok (.ifCond .eq 9, 3) := by decide +kernel
theorem dX3_putOnRack_21 : decode cX3_putOnRack 21 = .ok (.iinc 3 1, 3) := by decide +kernel
theorem dX3_putOnRack_24 : decode cX3_putOnRack 24 = .ok (.goto (-17), 3) := by decide +kernel
theorem dX3_putOnRack_27 : decode cX3_putOnRack 27 = .ok (.aload_n 0, 1) := by decide +kernel
theorem dX3_putOnRack_28 : decode cX3_putOnRack 28 = .ok (.getfield 29, 3) := by decide +kernel
theorem dX3_putOnRack_31 : decode cX3_putOnRack 31 = .ok (.iload_n 1, 1) := by decide +kernel
theorem dX3_putOnRack_32 : decode cX3_putOnRack 32 = .ok (.iload_n 3, 1) := by decide +kernel
theorem dX3_putOnRack_33 : decode cX3_putOnRack 33 = .ok (.invokevirtual 53, 3) := by decide +kernel
theorem dX3_putOnRack_36 : decode cX3_putOnRack 36 = .ok (.return_, 1) := by decide +kernel
set_option maxRecDepth 20000 in
theorem ggX3_placesTaken_X4_at : GoodIn wsX3_placesTaken wsX4_at := goodIn_r _ [7, 8, 18] (by decide +kernel) (by decide +kernel)
set_option maxRecDepth 20000 in
theorem gX3_placesTaken_X4_at : GoodIn wsX3_placesTaken (wsV RX3 49 RX4 yX4_at wsX4_at) := goodIn_app (goodIn_of _ (by decide +kernel)) ggX3_placesTaken_X4_at
theorem dX3_placesTaken_0 : decode cX3_placesTaken 0 = .ok (.iconst 0, 1) := by decide +kernel
theorem dX3_placesTaken_1 : decode cX3_placesTaken 1 = .ok (.istore_n 1, 1) := by decide +kernel
theorem dX3_placesTaken_2 : decode cX3_placesTaken 2 = .ok (.iconst 0, 1) := by decide +kernel
theorem dX3_placesTaken_3 : decode cX3_placesTaken 3 = .ok (.istore_n 2, 1) := by decide +kernel
theorem dX3_placesTaken_4 : decode cX3_placesTaken 4 = .ok (.iload_n 2, 1) := by decide +kernel
theorem dX3_placesTaken_5 : decode cX3_placesTaken 5 = .ok (.aload_n 0, 1) := by decide +kernel
theorem dX3_placesTaken_6 : decode cX3_placesTaken 6 = .ok (.getfield 45, 3) := by decide +kernel
theorem dX3_placesTaken_9 : decode cX3_placesTaken 9 = .ok (.if_icmp .ge 30, 3) := by decide +kernel
theorem dX3_placesTaken_12 : decode cX3_placesTaken 12 = .ok (.aload_n 0, 1) := by decide +kernel
theorem dX3_placesTaken_13 : decode cX3_placesTaken 13 = .ok (.getfield 29, 3) := by decide +kernel
theorem dX3_placesTaken_16 : decode cX3_placesTaken 16 = .ok (.iload_n 2, 1) := by decide +kernel
theorem dX3_placesTaken_17 : decode cX3_placesTaken 17 = .ok (.invokevirtual 49, 3) := by decide +kernel
theorem dX3_placesTaken_20 : decode cX3_placesTaken 20 = .ok (.istore_n 3, 1) := by decide +kernel
theorem dX3_placesTaken_21 : decode cX3_placesTaken 21 = .ok (.iload_n 3, 1) := by decide +kernel
theorem dX3_placesTaken_22 : decode cX3_placesTaken 22 = .ok (.bipush 24, 2) := by decide +kernel
theorem dX3_placesTaken_24 : decode cX3_placesTaken 24 = .ok (.if_icmp .ge 9, 3) := by decide +kernel
theorem dX3_placesTaken_27 : decode cX3_placesTaken 27 = .ok (.iload_n 1, 1) := by decide +kernel
theorem dX3_placesTaken_28 : decode cX3_placesTaken 28 = .ok (.iconst 1, 1) := by decide +kernel
theorem dX3_placesTaken_29 : decode cX3_placesTaken 29 = .ok (.iload_n 3, 1) := by decide +kernel
theorem dX3_placesTaken_30 : decode cX3_placesTaken 30 = .ok (.ishl, 1) := by decide +kernel
theorem dX3_placesTaken_31 : decode cX3_placesTaken 31 = .ok (.ior, 1) := by decide +kernel
theorem dX3_placesTaken_32 : decode cX3_placesTaken 32 = .ok (.istore_n 1, 1) := by decide +kernel
theorem dX3_placesTaken_33 : decode cX3_placesTaken 33 = .ok (.iinc 2 1, 3) := by decide +kernel
theorem dX3_placesTaken_36 : decode cX3_placesTaken 36 = .ok (.goto (-32), 3) := by decide +kernel
theorem dX3_placesTaken_39 : decode cX3_placesTaken 39 = .ok (.iload_n 1, 1) := by decide +kernel
theorem dX3_placesTaken_40 : decode cX3_placesTaken 40 = .ok (.ireturn, 1) := by decide +kernel
set_option maxRecDepth 20000 in
theorem ggX3_freePlaces_X3_placesTaken : GoodIn wsX3_freePlaces wsX3_placesTaken := goodIn_r _ [5, 6, 7, 8, 9, 10, 11, 12, 13, 21, 22, 23, 24, 25, 26, 27, 28, 29, 30] (by decide +kernel) (by decide +kernel)
set_option maxRecDepth 20000 in
theorem gX3_freePlaces_X3_placesTaken : GoodIn wsX3_freePlaces (wsV RX3 60 RX3 yX3_placesTaken wsX3_placesTaken) := goodIn_app (goodIn_of _ (by decide +kernel)) ggX3_freePlaces_X3_placesTaken
set_option maxRecDepth 20000 in
theorem ggX3_freePlaces_J6_bitCount_0f7a4 : GoodIn wsX3_freePlaces wsJ6_bitCount_0f7a4 := goodIn_r _ [17, 18, 19, 20] (by decide +kernel) (by decide +kernel)
set_option maxRecDepth 20000 in
theorem gX3_freePlaces_J6_bitCount_0f7a4 : GoodIn wsX3_freePlaces (va_wsS RX3 64 yJ6_bitCount_0f7a4 wsJ6_bitCount_0f7a4) := goodIn_app (goodIn_of _ (by decide +kernel)) ggX3_freePlaces_J6_bitCount_0f7a4
theorem dX3_freePlaces_0 : decode cX3_freePlaces 0 = .ok (.bipush 24, 2) := by decide +kernel
theorem dX3_freePlaces_2 : decode cX3_freePlaces 2 = .ok (.aload_n 0, 1) := by decide +kernel
theorem dX3_freePlaces_3 : decode cX3_freePlaces 3 = .ok (.invokevirtual 60, 3) := by decide +kernel
theorem dX3_freePlaces_6 : decode cX3_freePlaces 6 = .ok (.invokestatic 64, 3) := by decide +kernel
theorem dX3_freePlaces_9 : decode cX3_freePlaces 9 = .ok (.isub, 1) := by decide +kernel
theorem dX3_freePlaces_10 : decode cX3_freePlaces 10 = .ok (.ireturn, 1) := by decide +kernel
set_option maxRecDepth 20000 in
theorem ggX3_onRacks_X3_isOnRack : GoodIn wsX3_onRacks wsX3_isOnRack := goodIn_r _ [6, 7, 8, 9, 10, 11, 12, 13, 14, 15, 16, 17, 18, 19, 20, 21, 22, 23] (by decide +kernel) (by decide +kernel)
set_option maxRecDepth 20000 in
theorem gX3_onRacks_X3_isOnRack : GoodIn wsX3_onRacks (wsV RX3 69 RX3 yX3_isOnRack wsX3_isOnRack) := goodIn_app (goodIn_of _ (by decide +kernel)) ggX3_onRacks_X3_isOnRack
theorem dX3_onRacks_0 : decode cX3_onRacks 0 = .ok (.iconst 0, 1) := by decide +kernel
theorem dX3_onRacks_1 : decode cX3_onRacks 1 = .ok (.istore_n 1, 1) := by decide +kernel
theorem dX3_onRacks_2 : decode cX3_onRacks 2 = .ok (.iconst 0, 1) := by decide +kernel
theorem dX3_onRacks_3 : decode cX3_onRacks 3 = .ok (.istore_n 2, 1) := by decide +kernel
theorem dX3_onRacks_4 : decode cX3_onRacks 4 = .ok (.iload_n 2, 1) := by decide +kernel
theorem dX3_onRacks_5 : decode cX3_onRacks 5 = .ok (.aload_n 0, 1) := by decide +kernel
theorem dX3_onRacks_6 : decode cX3_onRacks 6 = .ok (.getfield 45, 3) := by decide +kernel
theorem dX3_onRacks_9 : decode cX3_onRacks 9 = .ok (.if_icmp .ge 23, 3) := by decide +kernel
theorem dX3_onRacks_12 : decode cX3_onRacks 12 = .ok (.aload_n 0, 1) := by decide +kernel
theorem dX3_onRacks_13 : decode cX3_onRacks 13 = .ok (.iload_n 2, 1) := by decide +kernel
theorem dX3_onRacks_14 : decode cX3_onRacks 14 = .ok (.invokevirtual 69, 3) := by decide +kernel
theorem dX3_onRacks_17 : decode cX3_onRacks 17 = .ok (.ifCond .eq 9, 3) := by decide +kernel
theorem dX3_onRacks_20 : decode cX3_onRacks 20 = .ok (.iload_n 1, 1) := by decide +kernel
theorem dX3_onRacks_21 : decode cX3_onRacks 21 = .ok (.iconst 1, 1) := by decide +kernel
theorem dX3_onRacks_22 : decode cX3_onRacks 22 = .ok (.iload_n 2, 1) := by decide +kernel
theorem dX3_onRacks_23 : decode cX3_onRacks 23 = .ok (.ishl, 1) := by decide +kernel
theorem dX3_onRacks_24 : decode cX3_onRacks 24 = .ok (.ior, 1) := by decide +kernel
theorem dX3_onRacks_25 : decode cX3_onRacks 25 = .ok (.istore_n 1, 1) := by decide +kernel
theorem dX3_onRacks_26 : decode cX3_onRacks 26 = .ok (.iinc 2 1, 3) := by decide +kernel
theorem dX3_onRacks_29 : decode cX3_onRacks 29 = .ok (.goto (-25), 3) := by decide +kernel
theorem dX3_onRacks_32 : decode cX3_onRacks 32 = .ok (.iload_n 1, 1) := by decide +kernel
theorem dX3_onRacks_33 : decode cX3_onRacks 33 = .ok (.ireturn, 1) := by decide +kernel
set_option maxRecDepth 20000 in
theorem ggX3_inKiln_X4_indexesOf : GoodIn wsX3_inKiln wsX4_indexesOf := goodIn_r _ [7, 8, 18] (by decide +kernel) (by decide +kernel)
set_option maxRecDepth 20000 in
theorem gX3_inKiln_X4_indexesOf : GoodIn wsX3_inKiln (wsV RX3 73 RX4 yX4_indexesOf wsX4_indexesOf) := goodIn_app (goodIn_of _ (by decide +kernel)) ggX3_inKiln_X4_indexesOf
theorem dX3_inKiln_0 : decode cX3_inKiln 0 = .ok (.aload_n 0, 1) := by decide +kernel
theorem dX3_inKiln_1 : decode cX3_inKiln 1 = .ok (.getfield 29, 3) := by decide +kernel
theorem dX3_inKiln_4 : decode cX3_inKiln 4 = .ok (.bipush 24, 2) := by decide +kernel
theorem dX3_inKiln_6 : decode cX3_inKiln 6 = .ok (.aload_n 0, 1) := by decide +kernel
theorem dX3_inKiln_7 : decode cX3_inKiln 7 = .ok (.getfield 45, 3) := by decide +kernel
theorem dX3_inKiln_10 : decode cX3_inKiln 10 = .ok (.invokevirtual 73, 3) := by decide +kernel
theorem dX3_inKiln_13 : decode cX3_inKiln 13 = .ok (.ireturn, 1) := by decide +kernel
set_option maxRecDepth 20000 in
theorem ggX3_thrownBy_X4_indexesOf : GoodIn wsX3_thrownBy wsX4_indexesOf := goodIn_r _ [7, 8, 18] (by decide +kernel) (by decide +kernel)
set_option maxRecDepth 20000 in
theorem gX3_thrownBy_X4_indexesOf : GoodIn wsX3_thrownBy (wsV RX3 73 RX4 yX4_indexesOf wsX4_indexesOf) := goodIn_app (goodIn_of _ (by decide +kernel)) ggX3_thrownBy_X4_indexesOf
theorem dX3_thrownBy_0 : decode cX3_thrownBy 0 = .ok (.aload_n 0, 1) := by decide +kernel
theorem dX3_thrownBy_1 : decode cX3_thrownBy 1 = .ok (.getfield 14, 3) := by decide +kernel
theorem dX3_thrownBy_4 : decode cX3_thrownBy 4 = .ok (.iload_n 1, 1) := by decide +kernel
theorem dX3_thrownBy_5 : decode cX3_thrownBy 5 = .ok (.aload_n 0, 1) := by decide +kernel
theorem dX3_thrownBy_6 : decode cX3_thrownBy 6 = .ok (.getfield 45, 3) := by decide +kernel
theorem dX3_thrownBy_9 : decode cX3_thrownBy 9 = .ok (.invokevirtual 73, 3) := by decide +kernel
theorem dX3_thrownBy_12 : decode cX3_thrownBy 12 = .ok (.ireturn, 1) := by decide +kernel
set_option maxRecDepth 20000 in
theorem ggX3_ofKind_X4_indexesOf : GoodIn wsX3_ofKind wsX4_indexesOf := goodIn_r _ [7, 8, 18] (by decide +kernel) (by decide +kernel)
set_option maxRecDepth 20000 in
theorem gX3_ofKind_X4_indexesOf : GoodIn wsX3_ofKind (wsV RX3 73 RX4 yX4_indexesOf wsX4_indexesOf) := goodIn_app (goodIn_of _ (by decide +kernel)) ggX3_ofKind_X4_indexesOf
theorem dX3_ofKind_0 : decode cX3_ofKind 0 = .ok (.aload_n 0, 1) := by decide +kernel
theorem dX3_ofKind_1 : decode cX3_ofKind 1 = .ok (.getfield 26, 3) := by decide +kernel
theorem dX3_ofKind_4 : decode cX3_ofKind 4 = .ok (.iload_n 1, 1) := by decide +kernel
theorem dX3_ofKind_5 : decode cX3_ofKind 5 = .ok (.aload_n 0, 1) := by decide +kernel
theorem dX3_ofKind_6 : decode cX3_ofKind 6 = .ok (.getfield 45, 3) := by decide +kernel
theorem dX3_ofKind_9 : decode cX3_ofKind 9 = .ok (.invokevirtual 73, 3) := by decide +kernel
theorem dX3_ofKind_12 : decode cX3_ofKind 12 = .ok (.ireturn, 1) := by decide +kernel
set_option maxRecDepth 20000 in
theorem ggX3_sizesInKiln_X3_isInKiln : GoodIn wsX3_sizesInKiln wsX3_isInKiln := goodIn_r _ [7, 8, 9, 10, 11, 12, 13, 14, 15, 16, 17, 18, 19, 20, 21, 22, 23, 24] (by decide +kernel) (by decide +kernel)
set_option maxRecDepth 20000 in
theorem gX3_sizesInKiln_X3_isInKiln : GoodIn wsX3_sizesInKiln (wsV RX3 77 RX3 yX3_isInKiln wsX3_isInKiln) := goodIn_app (goodIn_of _ (by decide +kernel)) ggX3_sizesInKiln_X3_isInKiln
set_option maxRecDepth 20000 in
theorem ggX3_sizesInKiln_X4_at : GoodIn wsX3_sizesInKiln wsX4_at := goodIn_r _ [13, 14, 24] (by decide +kernel) (by decide +kernel)
set_option maxRecDepth 20000 in
theorem gX3_sizesInKiln_X4_at : GoodIn wsX3_sizesInKiln (wsV RX3 49 RX4 yX4_at wsX4_at) := goodIn_app (goodIn_of _ (by decide +kernel)) ggX3_sizesInKiln_X4_at
theorem dX3_sizesInKiln_0 : decode cX3_sizesInKiln 0 = .ok (.iconst 0, 1) := by decide +kernel
theorem dX3_sizesInKiln_1 : decode cX3_sizesInKiln 1 = .ok (.istore_n 1, 1) := by decide +kernel
theorem dX3_sizesInKiln_2 : decode cX3_sizesInKiln 2 = .ok (.iconst 0, 1) := by decide +kernel
theorem dX3_sizesInKiln_3 : decode cX3_sizesInKiln 3 = .ok (.istore_n 2, 1) := by decide +kernel
theorem dX3_sizesInKiln_4 : decode cX3_sizesInKiln 4 = .ok (.iload_n 2, 1) := by decide +kernel
theorem dX3_sizesInKiln_5 : decode cX3_sizesInKiln 5 = .ok (.aload_n 0, 1) := by decide +kernel
theorem dX3_sizesInKiln_6 : decode cX3_sizesInKiln 6 = .ok (.getfield 45, 3) := by decide +kernel
theorem dX3_sizesInKiln_9 : decode cX3_sizesInKiln 9 = .ok (.if_icmp .ge 28, 3) := by decide +kernel
theorem dX3_sizesInKiln_12 : decode cX3_sizesInKiln 12 = .ok (.aload_n 0, 1) := by decide +kernel
theorem dX3_sizesInKiln_13 : decode cX3_sizesInKiln 13 = .ok (.iload_n 2, 1) := by decide +kernel
theorem dX3_sizesInKiln_14 : decode cX3_sizesInKiln 14 = .ok (.invokevirtual 77, 3) := by decide +kernel
theorem dX3_sizesInKiln_17 : decode cX3_sizesInKiln 17 = .ok (.ifCond .eq 14, 3) := by decide +kernel
theorem dX3_sizesInKiln_20 : decode cX3_sizesInKiln 20 = .ok (.iload_n 1, 1) := by decide +kernel
theorem dX3_sizesInKiln_21 : decode cX3_sizesInKiln 21 = .ok (.aload_n 0, 1) := by decide +kernel
theorem dX3_sizesInKiln_22 : decode cX3_sizesInKiln 22 = .ok (.getfield 20, 3) := by decide +kernel
theorem dX3_sizesInKiln_25 : decode cX3_sizesInKiln 25 = .ok (.iload_n 2, 1) := by decide +kernel
theorem dX3_sizesInKiln_26 : decode cX3_sizesInKiln 26 = .ok (.invokevirtual 49, 3) := by decide +kernel
theorem dX3_sizesInKiln_29 : decode cX3_sizesInKiln 29 = .ok (.iadd, 1) := by decide +kernel
theorem dX3_sizesInKiln_30 : decode cX3_sizesInKiln 30 = .ok (.istore_n 1, 1) := by decide +kernel
theorem dX3_sizesInKiln_31 : decode cX3_sizesInKiln 31 = .ok (.iinc 2 1, 3) := by decide +kernel
theorem dX3_sizesInKiln_34 : decode cX3_sizesInKiln 34 = .ok (.goto (-30), 3) := by decide +kernel
theorem dX3_sizesInKiln_37 : decode cX3_sizesInKiln 37 = .ok (.iload_n 1, 1) := by decide +kernel
theorem dX3_sizesInKiln_38 : decode cX3_sizesInKiln 38 = .ok (.ireturn, 1) := by decide +kernel
set_option maxRecDepth 20000 in
theorem ggX3_isKilnForOtherThan_X3_inKiln : GoodIn wsX3_isKilnForOtherThan wsX3_inKiln := goodIn_r _ [5, 6, 7, 8, 9, 10, 11, 12, 13, 19, 20, 21, 22, 23, 24, 25, 26, 27, 28] (by decide +kernel) (by decide +kernel)
set_option maxRecDepth 20000 in
theorem gX3_isKilnForOtherThan_X3_inKiln : GoodIn wsX3_isKilnForOtherThan (wsV RX3 80 RX3 yX3_inKiln wsX3_inKiln) := goodIn_app (goodIn_of _ (by decide +kernel)) ggX3_isKilnForOtherThan_X3_inKiln
set_option maxRecDepth 20000 in
theorem ggX3_isKilnForOtherThan_X3_ofKind : GoodIn wsX3_isKilnForOtherThan wsX3_ofKind := goodIn_r _ [17, 18, 7, 8, 9, 10, 11, 12, 13, 19, 20, 21, 22, 23, 24, 25, 26, 27, 28] (by decide +kernel) (by decide +kernel)
set_option maxRecDepth 20000 in
theorem gX3_isKilnForOtherThan_X3_ofKind : GoodIn wsX3_isKilnForOtherThan (wsV RX3 83 RX3 yX3_ofKind wsX3_ofKind) := goodIn_app (goodIn_of _ (by decide +kernel)) ggX3_isKilnForOtherThan_X3_ofKind
theorem dX3_isKilnForOtherThan_0 : decode cX3_isKilnForOtherThan 0 = .ok (.aload_n 0, 1) := by decide +kernel
theorem dX3_isKilnForOtherThan_1 : decode cX3_isKilnForOtherThan 1 = .ok (.invokevirtual 80, 3) := by decide +kernel
theorem dX3_isKilnForOtherThan_4 : decode cX3_isKilnForOtherThan 4 = .ok (.aload_n 0, 1) := by decide +kernel
theorem dX3_isKilnForOtherThan_5 : decode cX3_isKilnForOtherThan 5 = .ok (.iload_n 1, 1) := by decide +kernel
theorem dX3_isKilnForOtherThan_6 : decode cX3_isKilnForOtherThan 6 = .ok (.invokevirtual 83, 3) := by decide +kernel
theorem dX3_isKilnForOtherThan_9 : decode cX3_isKilnForOtherThan 9 = .ok (.iconst (-1), 1) := by decide +kernel
theorem dX3_isKilnForOtherThan_10 : decode cX3_isKilnForOtherThan 10 = .ok (.ixor, 1) := by decide +kernel
theorem dX3_isKilnForOtherThan_11 : decode cX3_isKilnForOtherThan 11 = .ok (.iand, 1) := by decide +kernel
theorem dX3_isKilnForOtherThan_12 : decode cX3_isKilnForOtherThan 12 = .ok (.ifCond .eq 7, 3) := by decide +kernel
theorem dX3_isKilnForOtherThan_15 : decode cX3_isKilnForOtherThan 15 = .ok (.iconst 1, 1) := by decide +kernel
theorem dX3_isKilnForOtherThan_16 : decode cX3_isKilnForOtherThan 16 = .ok (.goto 4, 3) := by decide +kernel
theorem dX3_isKilnForOtherThan_19 : decode cX3_isKilnForOtherThan 19 = .ok (.iconst 0, 1) := by decide +kernel
theorem dX3_isKilnForOtherThan_20 : decode cX3_isKilnForOtherThan 20 = .ok (.ireturn, 1) := by decide +kernel
set_option maxRecDepth 20000 in
theorem ggX3_dryOneNight_X3_isOnRack : GoodIn wsX3_dryOneNight wsX3_isOnRack := goodIn_r _ [7, 8, 9, 10, 11, 12, 13, 14, 33, 34, 35, 36, 37, 38, 39, 40, 41, 42] (by decide +kernel) (by decide +kernel)
set_option maxRecDepth 20000 in
theorem gX3_dryOneNight_X3_isOnRack : GoodIn wsX3_dryOneNight (wsV RX3 69 RX3 yX3_isOnRack wsX3_isOnRack) := goodIn_app (goodIn_of _ (by decide +kernel)) ggX3_dryOneNight_X3_isOnRack
set_option maxRecDepth 20000 in
theorem ggX3_dryOneNight_X3_isKind : GoodIn wsX3_dryOneNight wsX3_isKind := goodIn_r _ [18, 19, 9, 10, 11, 12, 13, 14, 33, 34, 35, 36, 37, 38, 39, 40, 41, 42] (by decide +kernel) (by decide +kernel)
set_option maxRecDepth 20000 in
theorem gX3_dryOneNight_X3_isKind : GoodIn wsX3_dryOneNight (wsV RX3 86 RX3 yX3_isKind wsX3_isKind) := goodIn_app (goodIn_of _ (by decide +kernel)) ggX3_dryOneNight_X3_isKind
set_option maxRecDepth 20000 in
theorem ggX3_dryOneNight_X3_isBesideKiln : GoodIn wsX3_dryOneNight wsX3_isBesideKiln := goodIn_r _ [23, 8, 9, 10, 11, 12, 13, 14, 33, 34, 35, 36, 37, 38, 39, 40, 41, 42] (by decide +kernel) (by decide +kernel)
set_option maxRecDepth 20000 in
theorem gX3_dryOneNight_X3_isBesideKiln : GoodIn wsX3_dryOneNight (wsV RX3 90 RX3 yX3_isBesideKiln wsX3_isBesideKiln) := goodIn_app (goodIn_of _ (by decide +kernel)) ggX3_dryOneNight_X3_isBesideKiln
set_option maxRecDepth 20000 in
theorem ggX3_dryOneNight_X4_add : GoodIn wsX3_dryOneNight wsX4_add := goodIn_r _ [27, 28, 10, 11, 12, 13, 14, 29, 30, 31, 32, 42] (by decide +kernel) (by decide +kernel)
set_option maxRecDepth 20000 in
theorem gX3_dryOneNight_X4_add : GoodIn wsX3_dryOneNight (wsV RX3 93 RX4 yX4_add wsX4_add) := goodIn_app (goodIn_of _ (by decide +kernel)) ggX3_dryOneNight_X4_add
theorem dX3_dryOneNight_0 : decode cX3_dryOneNight 0 = .ok (.iconst 0, 1) := by decide +kernel
theorem dX3_dryOneNight_1 : decode cX3_dryOneNight 1 = .ok (.istore_n 1, 1) := by decide +kernel
theorem dX3_dryOneNight_2 : decode cX3_dryOneNight 2 = .ok (.iload_n 1, 1) := by decide +kernel
theorem dX3_dryOneNight_3 : decode cX3_dryOneNight 3 = .ok (.aload_n 0, 1) := by decide +kernel
theorem dX3_dryOneNight_4 : decode cX3_dryOneNight 4 = .ok (.getfield 45, 3) := by decide +kernel
theorem dX3_dryOneNight_7 : decode cX3_dryOneNight 7 = .ok (.if_icmp .ge 47, 3) := by decide +kernel
theorem dX3_dryOneNight_10 : decode cX3_dryOneNight 10 = .ok (.aload_n 0, 1) := by decide +kernel
theorem dX3_dryOneNight_11 : decode cX3_dryOneNight 11 = .ok (.iload_n 1, 1) := by decide +kernel
theorem dX3_dryOneNight_12 : decode cX3_dryOneNight 12 = .ok (.invokevirtual 69, 3) := by decide +kernel
theorem dX3_dryOneNight_15 : decode cX3_dryOneNight 15 = .ok (.ifCond .eq 33, 3) := by decide +kernel
theorem dX3_dryOneNight_18 : decode cX3_dryOneNight 18 = .ok (.aload_n 0, 1) := by decide +kernel
theorem dX3_dryOneNight_19 : decode cX3_dryOneNight 19 = .ok (.iload_n 1, 1) := by decide +kernel
theorem dX3_dryOneNight_20 : decode cX3_dryOneNight 20 = .ok (.iconst 0, 1) := by decide +kernel
theorem dX3_dryOneNight_21 : decode cX3_dryOneNight 21 = .ok (.invokevirtual 86, 3) := by decide +kernel
theorem dX3_dryOneNight_24 : decode cX3_dryOneNight 24 = .ok (.ifCond .eq 24, 3) := by decide +kernel
theorem dX3_dryOneNight_27 : decode cX3_dryOneNight 27 = .ok (.aload_n 0, 1) := by decide +kernel
theorem dX3_dryOneNight_28 : decode cX3_dryOneNight 28 = .ok (.getfield 32, 3) := by decide +kernel
theorem dX3_dryOneNight_31 : decode cX3_dryOneNight 31 = .ok (.iload_n 1, 1) := by decide +kernel
theorem dX3_dryOneNight_32 : decode cX3_dryOneNight 32 = .ok (.aload_n 0, 1) := by decide +kernel
theorem dX3_dryOneNight_33 : decode cX3_dryOneNight 33 = .ok (.iload_n 1, 1) := by decide +kernel
theorem dX3_dryOneNight_34 : decode cX3_dryOneNight 34 = .ok (.invokevirtual 90, 3) := by decide +kernel
theorem dX3_dryOneNight_37 : decode cX3_dryOneNight 37 = .ok (.ifCond .eq 7, 3) := by decide +kernel
theorem dX3_dryOneNight_40 : decode cX3_dryOneNight 40 = .ok (.iconst 2, 1) := by decide +kernel
theorem dX3_dryOneNight_41 : decode cX3_dryOneNight 41 = .ok (.goto 4, 3) := by decide +kernel
theorem dX3_dryOneNight_44 : decode cX3_dryOneNight 44 = .ok (.iconst 1, 1) := by decide +kernel
theorem dX3_dryOneNight_45 : decode cX3_dryOneNight 45 = .ok (.invokevirtual 93, 3) := by decide +kernel
theorem dX3_dryOneNight_48 : decode cX3_dryOneNight 48 = .ok (.iinc 1 1, 3) := by decide +kernel
theorem dX3_dryOneNight_51 : decode cX3_dryOneNight 51 = .ok (.goto (-49), 3) := by decide +kernel
theorem dX3_dryOneNight_54 : decode cX3_dryOneNight 54 = .ok (.return_, 1) := by decide +kernel
set_option maxRecDepth 20000 in
theorem ggX3_heatOfGlazeOn_X4_at : GoodIn wsX3_heatOfGlazeOn wsX4_at := goodIn_r _ [6, 7, 17] (by decide +kernel) (by decide +kernel)
set_option maxRecDepth 20000 in
theorem gX3_heatOfGlazeOn_X4_at : GoodIn wsX3_heatOfGlazeOn (wsV RX3 49 RX4 yX4_at wsX4_at) := goodIn_app (goodIn_of _ (by decide +kernel)) ggX3_heatOfGlazeOn_X4_at
theorem dX3_heatOfGlazeOn_0 : decode cX3_heatOfGlazeOn 0 = .ok (.bipush 100, 2) := by decide +kernel
theorem dX3_heatOfGlazeOn_2 : decode cX3_heatOfGlazeOn 2 = .ok (.iconst 5, 1) := by decide +kernel
theorem dX3_heatOfGlazeOn_3 : decode cX3_heatOfGlazeOn 3 = .ok (.aload_n 0, 1) := by decide +kernel
theorem dX3_heatOfGlazeOn_4 : decode cX3_heatOfGlazeOn 4 = .ok (.getfield 35, 3) := by decide +kernel
theorem dX3_heatOfGlazeOn_7 : decode cX3_heatOfGlazeOn 7 = .ok (.iload_n 1, 1) := by decide +kernel
theorem dX3_heatOfGlazeOn_8 : decode cX3_heatOfGlazeOn 8 = .ok (.invokevirtual 49, 3) := by decide +kernel
theorem dX3_heatOfGlazeOn_11 : decode cX3_heatOfGlazeOn 11 = .ok (.imul, 1) := by decide +kernel
theorem dX3_heatOfGlazeOn_12 : decode cX3_heatOfGlazeOn 12 = .ok (.iadd, 1) := by decide +kernel
theorem dX3_heatOfGlazeOn_13 : decode cX3_heatOfGlazeOn 13 = .ok (.ireturn, 1) := by decide +kernel
set_option maxRecDepth 20000 in
theorem ggX3_kindFired_X4_at : GoodIn wsX3_kindFired wsX4_at := goodIn_r _ [6, 7, 28] (by decide +kernel) (by decide +kernel)
set_option maxRecDepth 20000 in
theorem gX3_kindFired_X4_at : GoodIn wsX3_kindFired (wsV RX3 49 RX4 yX4_at wsX4_at) := goodIn_app (goodIn_of _ (by decide +kernel)) ggX3_kindFired_X4_at
set_option maxRecDepth 20000 in
theorem ggX3_kindFired_X3_isKind : GoodIn wsX3_kindFired wsX3_isKind := goodIn_r _ [12, 13, 2, 3, 4, 5, 6, 7, 19, 20, 21, 22, 23, 24, 25, 26, 27, 28] (by decide +kernel) (by decide +kernel)
set_option maxRecDepth 20000 in
theorem gX3_kindFired_X3_isKind : GoodIn wsX3_kindFired (wsV RX3 86 RX3 yX3_isKind wsX3_isKind) := goodIn_app (goodIn_of _ (by decide +kernel)) ggX3_kindFired_X3_isKind
set_option maxRecDepth 20000 in
theorem ggX3_kindFired_X3_heatOfGlazeOn : GoodIn wsX3_kindFired wsX3_heatOfGlazeOn := goodIn_r _ [17, 18, 2, 3, 4, 5, 6, 7, 19, 20, 21, 22, 23, 24, 25, 26, 27, 28] (by decide +kernel) (by decide +kernel)
set_option maxRecDepth 20000 in
theorem gX3_kindFired_X3_heatOfGlazeOn : GoodIn wsX3_kindFired (wsV RX3 96 RX3 yX3_heatOfGlazeOn wsX3_heatOfGlazeOn) := goodIn_app (goodIn_of _ (by decide +kernel)) ggX3_kindFired_X3_heatOfGlazeOn
theorem dX3_kindFired_0 : decode cX3_kindFired 0 = .ok (.iload_n 2, 1) := by decide +kernel
theorem dX3_kindFired_1 : decode cX3_kindFired 1 = .ok (.aload_n 0, 1) := by decide +kernel
theorem dX3_kindFired_2 : decode cX3_kindFired 2 = .ok (.getfield 23, 3) := by decide +kernel
theorem dX3_kindFired_5 : decode cX3_kindFired 5 = .ok (.iload_n 1, 1) := by decide +kernel
theorem dX3_kindFired_6 : decode cX3_kindFired 6 = .ok (.invokevirtual 49, 3) := by decide +kernel
theorem dX3_kindFired_9 : decode cX3_kindFired 9 = .ok (.iadd, 1) := by decide +kernel
theorem dX3_kindFired_10 : decode cX3_kindFired 10 = .ok (.iload_n 3, 1) := by decide +kernel
theorem dX3_kindFired_11 : decode cX3_kindFired 11 = .ok (.if_icmp .le 5, 3) := by decide +kernel
theorem dX3_kindFired_14 : decode cX3_kindFired 14 = .ok (.iconst 4, 1) := by decide +kernel
theorem dX3_kindFired_15 : decode cX3_kindFired 15 = .ok (.ireturn, 1) := by decide +kernel
theorem dX3_kindFired_16 : decode cX3_kindFired 16 = .ok (.aload_n 0, 1) := by decide +kernel
theorem dX3_kindFired_17 : decode cX3_kindFired 17 = .ok (.iload_n 1, 1) := by decide +kernel
theorem dX3_kindFired_18 : decode cX3_kindFired 18 = .ok (.iconst 0, 1) := by decide +kernel
theorem dX3_kindFired_19 : decode cX3_kindFired 19 = .ok (.invokevirtual 86, 3) := by decide +kernel
theorem dX3_kindFired_22 : decode cX3_kindFired 22 = .ok (.ifCond .eq 15, 3) := by decide +kernel
theorem dX3_kindFired_25 : decode cX3_kindFired 25 = .ok (.iload_n 2, 1) := by decide +kernel
theorem dX3_kindFired_26 : decode cX3_kindFired 26 = .ok (.bipush 95, 2) := by decide +kernel
theorem dX3_kindFired_28 : decode cX3_kindFired 28 = .ok (.if_icmp .lt 7, 3) := by decide +kernel
theorem dX3_kindFired_31 : decode cX3_kindFired 31 = .ok (.iconst 1, 1) := by decide +kernel
theorem dX3_kindFired_32 : decode cX3_kindFired 32 = .ok (.goto 4, 3) := by decide +kernel
theorem dX3_kindFired_35 : decode cX3_kindFired 35 = .ok (.iconst 0, 1) := by decide +kernel
theorem dX3_kindFired_36 : decode cX3_kindFired 36 = .ok (.ireturn, 1) := by decide +kernel
theorem dX3_kindFired_37 : decode cX3_kindFired 37 = .ok (.iload_n 2, 1) := by decide +kernel
theorem dX3_kindFired_38 : decode cX3_kindFired 38 = .ok (.aload_n 0, 1) := by decide +kernel
theorem dX3_kindFired_39 : decode cX3_kindFired 39 = .ok (.iload_n 1, 1) := by decide +kernel
theorem dX3_kindFired_40 : decode cX3_kindFired 40 = .ok (.invokevirtual 96, 3) := by decide +kernel
theorem dX3_kindFired_43 : decode cX3_kindFired 43 = .ok (.isub, 1) := by decide +kernel
theorem dX3_kindFired_44 : decode cX3_kindFired 44 = .ok (.istore 4, 2) := by decide +kernel
theorem dX3_kindFired_46 : decode cX3_kindFired 46 = .ok (.iload 4, 2) := by decide +kernel
theorem dX3_kindFired_48 : decode cX3_kindFired 48 = .ok (.ifCond .ge 5, 3) := by decide +kernel
theorem dX3_kindFired_51 : decode cX3_kindFired 51 = .ok (.iconst 2, 1) := by decide +kernel
theorem dX3_kindFired_52 : decode cX3_kindFired 52 = .ok (.ireturn, 1) := by decide +kernel
theorem dX3_kindFired_53 : decode cX3_kindFired 53 = .ok (.iload 4, 2) := by decide +kernel
theorem dX3_kindFired_55 : decode cX3_kindFired 55 = .ok (.bipush 10, 2) := by decide +kernel
theorem dX3_kindFired_57 : decode cX3_kindFired 57 = .ok (.if_icmp .gt 7, 3) := by decide +kernel
theorem dX3_kindFired_60 : decode cX3_kindFired 60 = .ok (.iconst 3, 1) := by decide +kernel
theorem dX3_kindFired_61 : decode cX3_kindFired 61 = .ok (.goto 4, 3) := by decide +kernel
theorem dX3_kindFired_64 : decode cX3_kindFired 64 = .ok (.iconst 1, 1) := by decide +kernel
theorem dX3_kindFired_65 : decode cX3_kindFired 65 = .ok (.ireturn, 1) := by decide +kernel
theorem dX4_init_0 : decode cX4_init 0 = .ok (.aload_n 0, 1) := by decide +kernel
theorem dX4_init_1 : decode cX4_init 1 = .ok (.invokespecial 1, 3) := by decide +kernel
theorem dX4_init_4 : decode cX4_init 4 = .ok (.aload_n 0, 1) := by decide +kernel
theorem dX4_init_5 : decode cX4_init 5 = .ok (.iload_n 1, 1) := by decide +kernel
theorem dX4_init_6 : decode cX4_init 6 = .ok (.iconst 0, 1) := by decide +kernel
theorem dX4_init_7 : decode cX4_init 7 = .ok (.invokestatic 7, 3) := by decide +kernel
theorem dX4_init_10 : decode cX4_init 10 = .ok (.newarray .int, 2) := by decide +kernel
theorem dX4_init_12 : decode cX4_init 12 = .ok (.putfield 13, 3) := by decide +kernel
theorem dX4_init_15 : decode cX4_init 15 = .ok (.return_, 1) := by decide +kernel
theorem dX4_at_0 : decode cX4_at 0 = .ok (.iload_n 1, 1) := by decide +kernel
theorem dX4_at_1 : decode cX4_at 1 = .ok (.ifCond .lt 21, 3) := by decide +kernel
theorem dX4_at_4 : decode cX4_at 4 = .ok (.iload_n 1, 1) := by decide +kernel
theorem dX4_at_5 : decode cX4_at 5 = .ok (.aload_n 0, 1) := by decide +kernel
theorem dX4_at_6 : decode cX4_at 6 = .ok (.getfield 13, 3) := by decide +kernel
theorem dX4_at_9 : decode cX4_at 9 = .ok (.arraylength, 1) := by decide +kernel
theorem dX4_at_10 : decode cX4_at 10 = .ok (.if_icmp .ge 12, 3) := by decide +kernel
theorem dX4_at_13 : decode cX4_at 13 = .ok (.aload_n 0, 1) := by decide +kernel
theorem dX4_at_14 : decode cX4_at 14 = .ok (.getfield 13, 3) := by decide +kernel
theorem dX4_at_17 : decode cX4_at 17 = .ok (.iload_n 1, 1) := by decide +kernel
theorem dX4_at_18 : decode cX4_at 18 = .ok (.iaload, 1) := by decide +kernel
theorem dX4_at_19 : decode cX4_at 19 = .ok (.goto 4, 3) := by decide +kernel
theorem dX4_at_22 : decode cX4_at 22 = .ok (.iconst 0, 1) := by decide +kernel
theorem dX4_at_23 : decode cX4_at 23 = .ok (.ireturn, 1) := by decide +kernel
theorem dX4_write_0 : decode cX4_write 0 = .ok (.iload_n 1, 1) := by decide +kernel
theorem dX4_write_1 : decode cX4_write 1 = .ok (.ifCond .lt 19, 3) := by decide +kernel
theorem dX4_write_4 : decode cX4_write 4 = .ok (.iload_n 1, 1) := by decide +kernel
theorem dX4_write_5 : decode cX4_write 5 = .ok (.aload_n 0, 1) := by decide +kernel
theorem dX4_write_6 : decode cX4_write 6 = .ok (.getfield 13, 3) := by decide +kernel
theorem dX4_write_9 : decode cX4_write 9 = .ok (.arraylength, 1) := by decide +kernel
theorem dX4_write_10 : decode cX4_write 10 = .ok (.if_icmp .ge 10, 3) := by decide +kernel
theorem dX4_write_13 : decode cX4_write 13 = .ok (.aload_n 0, 1) := by decide +kernel
theorem dX4_write_14 : decode cX4_write 14 = .ok (.getfield 13, 3) := by decide +kernel
theorem dX4_write_17 : decode cX4_write 17 = .ok (.iload_n 1, 1) := by decide +kernel
theorem dX4_write_18 : decode cX4_write 18 = .ok (.iload_n 2, 1) := by decide +kernel
theorem dX4_write_19 : decode cX4_write 19 = .ok (.iastore, 1) := by decide +kernel
theorem dX4_write_20 : decode cX4_write 20 = .ok (.return_, 1) := by decide +kernel
set_option maxRecDepth 20000 in
theorem ggX4_add_X4_at : GoodIn wsX4_add wsX4_at := goodIn_r _ [5, 6, 11] (by decide +kernel) (by decide +kernel)
set_option maxRecDepth 20000 in
theorem gX4_add_X4_at : GoodIn wsX4_add (wsV RX4 19 RX4 yX4_at wsX4_at) := goodIn_app (goodIn_of _ (by decide +kernel)) ggX4_add_X4_at
set_option maxRecDepth 20000 in
theorem ggX4_add_X4_write : GoodIn wsX4_add wsX4_write := goodIn_r _ [10, 6, 11] (by decide +kernel) (by decide +kernel)
set_option maxRecDepth 20000 in
theorem gX4_add_X4_write : GoodIn wsX4_add (wsV RX4 23 RX4 yX4_write wsX4_write) := goodIn_app (goodIn_of _ (by decide +kernel)) ggX4_add_X4_write
theorem dX4_add_0 : decode cX4_add 0 = .ok (.aload_n 0, 1) := by decide +kernel
theorem dX4_add_1 : decode cX4_add 1 = .ok (.iload_n 1, 1) := by decide +kernel
theorem dX4_add_2 : decode cX4_add 2 = .ok (.aload_n 0, 1) := by decide +kernel
theorem dX4_add_3 : decode cX4_add 3 = .ok (.iload_n 1, 1) := by decide +kernel
theorem dX4_add_4 : decode cX4_add 4 = .ok (.invokevirtual 19, 3) := by decide +kernel
theorem dX4_add_7 : decode cX4_add 7 = .ok (.iload_n 2, 1) := by decide +kernel
theorem dX4_add_8 : decode cX4_add 8 = .ok (.iadd, 1) := by decide +kernel
theorem dX4_add_9 : decode cX4_add 9 = .ok (.invokevirtual 23, 3) := by decide +kernel
theorem dX4_add_12 : decode cX4_add 12 = .ok (.return_, 1) := by decide +kernel
theorem dX4_indexesOf_0 : decode cX4_indexesOf 0 = .ok (.iconst 0, 1) := by decide +kernel
theorem dX4_indexesOf_1 : decode cX4_indexesOf 1 = .ok (.istore_n 3, 1) := by decide +kernel
theorem dX4_indexesOf_2 : decode cX4_indexesOf 2 = .ok (.iconst 0, 1) := by decide +kernel
theorem dX4_indexesOf_3 : decode cX4_indexesOf 3 = .ok (.istore 4, 2) := by decide +kernel
theorem dX4_indexesOf_5 : decode cX4_indexesOf 5 = .ok (.iload 4, 2) := by decide +kernel
theorem dX4_indexesOf_7 : decode cX4_indexesOf 7 = .ok (.iload_n 2, 1) := by decide +kernel
theorem dX4_indexesOf_8 : decode cX4_indexesOf 8 = .ok (.if_icmp .ge 37, 3) := by decide +kernel
theorem dX4_indexesOf_11 : decode cX4_indexesOf 11 = .ok (.iload 4, 2) := by decide +kernel
theorem dX4_indexesOf_13 : decode cX4_indexesOf 13 = .ok (.aload_n 0, 1) := by decide +kernel
theorem dX4_indexesOf_14 : decode cX4_indexesOf 14 = .ok (.getfield 13, 3) := by decide +kernel
theorem dX4_indexesOf_17 : decode cX4_indexesOf 17 = .ok (.arraylength, 1) := by decide +kernel
theorem dX4_indexesOf_18 : decode cX4_indexesOf 18 = .ok (.if_icmp .ge 27, 3) := by decide +kernel
theorem dX4_indexesOf_21 : decode cX4_indexesOf 21 = .ok (.aload_n 0, 1) := by decide +kernel
theorem dX4_indexesOf_22 : decode cX4_indexesOf 22 = .ok (.getfield 13, 3) := by decide +kernel
theorem dX4_indexesOf_25 : decode cX4_indexesOf 25 = .ok (.iload 4, 2) := by decide +kernel
theorem dX4_indexesOf_27 : decode cX4_indexesOf 27 = .ok (.iaload, 1) := by decide +kernel
theorem dX4_indexesOf_28 : decode cX4_indexesOf 28 = .ok (.iload_n 1, 1) := by decide +kernel
theorem dX4_indexesOf_29 : decode cX4_indexesOf 29 = .ok (.if_icmp .ne 10, 3) := by decide +kernel
theorem dX4_indexesOf_32 : decode cX4_indexesOf 32 = .ok (.iload_n 3, 1) := by decide +kernel
theorem dX4_indexesOf_33 : decode cX4_indexesOf 33 = .ok (.iconst 1, 1) := by decide +kernel
theorem dX4_indexesOf_34 : decode cX4_indexesOf 34 = .ok (.iload 4, 2) := by decide +kernel
theorem dX4_indexesOf_36 : decode cX4_indexesOf 36 = .ok (.ishl, 1) := by decide +kernel
theorem dX4_indexesOf_37 : decode cX4_indexesOf 37 = .ok (.ior, 1) := by decide +kernel
theorem dX4_indexesOf_38 : decode cX4_indexesOf 38 = .ok (.istore_n 3, 1) := by decide +kernel
theorem dX4_indexesOf_39 : decode cX4_indexesOf 39 = .ok (.iinc 4 1, 3) := by decide +kernel
theorem dX4_indexesOf_42 : decode cX4_indexesOf 42 = .ok (.goto (-37), 3) := by decide +kernel
theorem dX4_indexesOf_45 : decode cX4_indexesOf 45 = .ok (.iload_n 3, 1) := by decide +kernel
theorem dX4_indexesOf_46 : decode cX4_indexesOf 46 = .ok (.ireturn, 1) := by decide +kernel
theorem dX4_sum_0 : decode cX4_sum 0 = .ok (.iconst 0, 1) := by decide +kernel
theorem dX4_sum_1 : decode cX4_sum 1 = .ok (.istore_n 1, 1) := by decide +kernel
theorem dX4_sum_2 : decode cX4_sum 2 = .ok (.aload_n 0, 1) := by decide +kernel
theorem dX4_sum_3 : decode cX4_sum 3 = .ok (.getfield 13, 3) := by decide +kernel
theorem dX4_sum_6 : decode cX4_sum 6 = .ok (.astore_n 2, 1) := by decide +kernel
theorem dX4_sum_7 : decode cX4_sum 7 = .ok (.aload_n 2, 1) := by decide +kernel
theorem dX4_sum_8 : decode cX4_sum 8 = .ok (.arraylength, 1) := by decide +kernel
theorem dX4_sum_9 : decode cX4_sum 9 = .ok (.istore_n 3, 1) := by decide +kernel
theorem dX4_sum_10 : decode cX4_sum 10 = .ok (.iconst 0, 1) := by decide +kernel
theorem dX4_sum_11 : decode cX4_sum 11 = .ok (.istore 4, 2) := by decide +kernel
theorem dX4_sum_13 : decode cX4_sum 13 = .ok (.iload 4, 2) := by decide +kernel
theorem dX4_sum_15 : decode cX4_sum 15 = .ok (.iload_n 3, 1) := by decide +kernel
theorem dX4_sum_16 : decode cX4_sum 16 = .ok (.if_icmp .ge 20, 3) := by decide +kernel
theorem dX4_sum_19 : decode cX4_sum 19 = .ok (.aload_n 2, 1) := by decide +kernel
theorem dX4_sum_20 : decode cX4_sum 20 = .ok (.iload 4, 2) := by decide +kernel
theorem dX4_sum_22 : decode cX4_sum 22 = .ok (.iaload, 1) := by decide +kernel
theorem dX4_sum_23 : decode cX4_sum 23 = .ok (.istore 5, 2) := by decide +kernel
theorem dX4_sum_25 : decode cX4_sum 25 = .ok (.iload_n 1, 1) := by decide +kernel
theorem dX4_sum_26 : decode cX4_sum 26 = .ok (.iload 5, 2) := by decide +kernel
theorem dX4_sum_28 : decode cX4_sum 28 = .ok (.iadd, 1) := by decide +kernel
theorem dX4_sum_29 : decode cX4_sum 29 = .ok (.istore_n 1, 1) := by decide +kernel
theorem dX4_sum_30 : decode cX4_sum 30 = .ok (.iinc 4 1, 3) := by decide +kernel
theorem dX4_sum_33 : decode cX4_sum 33 = .ok (.goto (-20), 3) := by decide +kernel
theorem dX4_sum_36 : decode cX4_sum 36 = .ok (.iload_n 1, 1) := by decide +kernel
theorem dX4_sum_37 : decode cX4_sum 37 = .ok (.ireturn, 1) := by decide +kernel
theorem dX4_copyFrom_0 : decode cX4_copyFrom 0 = .ok (.aload_n 1, 1) := by decide +kernel
theorem dX4_copyFrom_1 : decode cX4_copyFrom 1 = .ok (.ifnull 29, 3) := by decide +kernel
theorem dX4_copyFrom_4 : decode cX4_copyFrom 4 = .ok (.aload_n 1, 1) := by decide +kernel
theorem dX4_copyFrom_5 : decode cX4_copyFrom 5 = .ok (.getfield 13, 3) := by decide +kernel
theorem dX4_copyFrom_8 : decode cX4_copyFrom 8 = .ok (.iconst 0, 1) := by decide +kernel
theorem dX4_copyFrom_9 : decode cX4_copyFrom 9 = .ok (.aload_n 0, 1) := by decide +kernel
theorem dX4_copyFrom_10 : decode cX4_copyFrom 10 = .ok (.getfield 13, 3) := by decide +kernel
theorem dX4_copyFrom_13 : decode cX4_copyFrom 13 = .ok (.iconst 0, 1) := by decide +kernel
theorem dX4_copyFrom_14 : decode cX4_copyFrom 14 = .ok (.aload_n 0, 1) := by decide +kernel
theorem dX4_copyFrom_15 : decode cX4_copyFrom 15 = .ok (.getfield 13, 3) := by decide +kernel
theorem dX4_copyFrom_18 : decode cX4_copyFrom 18 = .ok (.arraylength, 1) := by decide +kernel
theorem dX4_copyFrom_19 : decode cX4_copyFrom 19 = .ok (.aload_n 1, 1) := by decide +kernel
theorem dX4_copyFrom_20 : decode cX4_copyFrom 20 = .ok (.getfield 13, 3) := by decide +kernel
theorem dX4_copyFrom_23 : decode cX4_copyFrom 23 = .ok (.arraylength, 1) := by decide +kernel
theorem dX4_copyFrom_24 : decode cX4_copyFrom 24 = .ok (.invokestatic 27, 3) := by decide +kernel
theorem dX4_copyFrom_27 : decode cX4_copyFrom 27 = .ok (.invokestatic 30, 3) := by decide +kernel
theorem dX4_copyFrom_30 : decode cX4_copyFrom 30 = .ok (.return_, 1) := by decide +kernel
set_option maxRecDepth 20000 in
theorem ggX5_init_X4_init : GoodIn wsX5_init wsX4_init := goodIn_r _ [21, 22, 2, 3, 23, 24, 25, 26, 27, 28, 52] (by decide +kernel) (by decide +kernel)
set_option maxRecDepth 20000 in
theorem gX5_init_X4_init : GoodIn wsX5_init (wsX4_init) := ggX5_init_X4_init
set_option maxRecDepth 20000 in
theorem ggX5_init_X0_init : GoodIn wsX5_init wsX0_init := goodIn_r _ [30, 31, 2, 3, 32, 5, 6, 33, 34, 20, 21, 22, 23, 24, 25, 26, 27, 28, 52, 61, 62, 63] (by decide +kernel) (by decide +kernel)
set_option maxRecDepth 20000 in
theorem gX5_init_X0_init_n22 : GoodIn wsX5_init (wsX0_init) := ggX5_init_X0_init
set_option maxRecDepth 20000 in
theorem ggX5_init_X3_init : GoodIn wsX5_init wsX3_init := goodIn_r _ [36, 37, 2, 3, 38, 5, 6, 39, 40, 41, 42, 43, 44, 45, 46, 47, 20, 21, 22, 23, 24, 25, 26, 27, 28, 52, 64, 65, 66, 67, 68, 69, 70, 71, 72] (by decide +kernel) (by decide +kernel)
set_option maxRecDepth 20000 in
theorem gX5_init_X3_init_n29 : GoodIn wsX5_init (wsX3_init) := ggX5_init_X3_init
set_option maxRecDepth 20000 in
theorem ggX5_init_X4_write : GoodIn wsX5_init wsX4_write := goodIn_r _ [51, 28, 52] (by decide +kernel) (by decide +kernel)
set_option maxRecDepth 20000 in
theorem gX5_init_X4_write : GoodIn wsX5_init (wsV RX5 44 RX4 yX4_write wsX4_write) := goodIn_app (goodIn_of _ (by decide +kernel)) ggX5_init_X4_write
theorem dX5_init_0 : decode cX5_init 0 = .ok (.aload_n 0, 1) := by decide +kernel
theorem dX5_init_1 : decode cX5_init 1 = .ok (.invokespecial 3, 3) := by decide +kernel
theorem dX5_init_4 : decode cX5_init 4 = .ok (.aload_n 0, 1) := by decide +kernel
theorem dX5_init_5 : decode cX5_init 5 = .ok (.new 9, 3) := by decide +kernel
theorem dX5_init_8 : decode cX5_init 8 = .ok (.dup, 1) := by decide +kernel
theorem dX5_init_9 : decode cX5_init 9 = .ok (.iconst 4, 1) := by decide +kernel
theorem dX5_init_10 : decode cX5_init 10 = .ok (.invokespecial 11, 3) := by decide +kernel
theorem dX5_init_13 : decode cX5_init 13 = .ok (.putfield 14, 3) := by decide +kernel
theorem dX5_init_16 : decode cX5_init 16 = .ok (.aload_n 0, 1) := by decide +kernel
theorem dX5_init_17 : decode cX5_init 17 = .ok (.new 20, 3) := by decide +kernel
theorem dX5_init_20 : decode cX5_init 20 = .ok (.dup, 1) := by decide +kernel
theorem dX5_init_21 : decode cX5_init 21 = .ok (.invokespecial 22, 3) := by decide +kernel
theorem dX5_init_24 : decode cX5_init 24 = .ok (.putfield 23, 3) := by decide +kernel
theorem dX5_init_27 : decode cX5_init 27 = .ok (.aload_n 0, 1) := by decide +kernel
theorem dX5_init_28 : decode cX5_init 28 = .ok (.new 27, 3) := by decide +kernel
theorem dX5_init_31 : decode cX5_init 31 = .ok (.dup, 1) := by decide +kernel
theorem dX5_init_32 : decode cX5_init 32 = .ok (.invokespecial 29, 3) := by decide +kernel
theorem dX5_init_35 : decode cX5_init 35 = .ok (.putfield 30, 3) := by decide +kernel
theorem dX5_init_38 : decode cX5_init 38 = .ok (.aload_n 0, 1) := by decide +kernel
theorem dX5_init_39 : decode cX5_init 39 = .ok (.new 9, 3) := by decide +kernel
theorem dX5_init_42 : decode cX5_init 42 = .ok (.dup, 1) := by decide +kernel
theorem dX5_init_43 : decode cX5_init 43 = .ok (.iconst 4, 1) := by decide +kernel
theorem dX5_init_44 : decode cX5_init 44 = .ok (.invokespecial 11, 3) := by decide +kernel
theorem dX5_init_47 : decode cX5_init 47 = .ok (.putfield 34, 3) := by decide +kernel
theorem dX5_init_50 : decode cX5_init 50 = .ok (.aload_n 0, 1) := by decide +kernel
theorem dX5_init_51 : decode cX5_init 51 = .ok (.new 9, 3) := by decide +kernel
theorem dX5_init_54 : decode cX5_init 54 = .ok (.dup, 1) := by decide +kernel
theorem dX5_init_55 : decode cX5_init 55 = .ok (.bipush 10, 2) := by decide +kernel
theorem dX5_init_57 : decode cX5_init 57 = .ok (.invokespecial 11, 3) := by decide +kernel
theorem dX5_init_60 : decode cX5_init 60 = .ok (.putfield 37, 3) := by decide +kernel
theorem dX5_init_63 : decode cX5_init 63 = .ok (.aload_n 0, 1) := by decide +kernel
theorem dX5_init_64 : decode cX5_init 64 = .ok (.iconst 1, 1) := by decide +kernel
theorem dX5_init_65 : decode cX5_init 65 = .ok (.putfield 40, 3) := by decide +kernel
theorem dX5_init_68 : decode cX5_init 68 = .ok (.aload_n 0, 1) := by decide +kernel
theorem dX5_init_69 : decode cX5_init 69 = .ok (.getfield 14, 3) := by decide +kernel
