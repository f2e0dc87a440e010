set_option maxRecDepth 20000 in
theorem ggX0_init_X4_init : GoodIn wsX0_init wsX4_init := goodIn_r _ [10, 11, 2, 3, 12, 13, 14, 15, 16, 17, 18] (by decide +kernel) (by decide +kernel)
set_option maxRecDepth 20000 in
theorem gX0_init_X4_init : GoodIn wsX0_init (wsX4_init) := ggX0_init_X4_init
theorem dX0_init_0 : decode cX0_init 0 = .ok (.aload_n 0, 1) := by decide +kernel
theorem dX0_init_1 : decode cX0_init 1 = .ok (.invokespecial 3, 3) := by decide +kernel
theorem dX0_init_4 : decode cX0_init 4 = .ok (.aload_n 0, 1) := by decide +kernel
theorem dX0_init_5 : decode cX0_init 5 = .ok (.new 9, 3) := by decide +kernel
theorem dX0_init_8 : decode cX0_init 8 = .ok (.dup, 1) := by decide +kernel
theorem dX0_init_9 : decode cX0_init 9 = .ok (.bipush 105, 2) := by decide +kernel
theorem dX0_init_11 : decode cX0_init 11 = .ok (.invokespecial 11, 3) := by decide +kernel
theorem dX0_init_14 : decode cX0_init 14 = .ok (.putfield 14, 3) := by decide +kernel
theorem dX0_init_17 : decode cX0_init 17 = .ok (.return_, 1) := by decide +kernel
set_option maxRecDepth 20000 in
theorem ggX0_copyFrom_X4_copyFrom : GoodIn wsX0_copyFrom wsX4_copyFrom := goodIn_r _ [8, 9, 10, 11, 12, 13, 14, 15, 16, 17, 21] (by decide +kernel) (by decide +kernel)
set_option maxRecDepth 20000 in
theorem gX0_copyFrom_X4_copyFrom : GoodIn wsX0_copyFrom (wsV RX0 20 RX4 yX4_copyFrom wsX4_copyFrom) := goodIn_app (goodIn_of _ (by decide +kernel)) ggX0_copyFrom_X4_copyFrom
theorem dX0_copyFrom_0 : decode cX0_copyFrom 0 = .ok (.aload_n 1, 1) := by decide +kernel
theorem dX0_copyFrom_1 : decode cX0_copyFrom 1 = .ok (.ifnonnull 4, 3) := by decide +kernel
theorem dX0_copyFrom_4 : decode cX0_copyFrom 4 = .ok (.return_, 1) := by decide +kernel
theorem dX0_copyFrom_5 : decode cX0_copyFrom 5 = .ok (.aload_n 0, 1) := by decide +kernel
theorem dX0_copyFrom_6 : decode cX0_copyFrom 6 = .ok (.getfield 14, 3) := by decide +kernel
theorem dX0_copyFrom_9 : decode cX0_copyFrom 9 = .ok (.aload_n 1, 1) := by decide +kernel
theorem dX0_copyFrom_10 : decode cX0_copyFrom 10 = .ok (.getfield 14, 3) := by decide +kernel
theorem dX0_copyFrom_13 : decode cX0_copyFrom 13 = .ok (.invokevirtual 20, 3) := by decide +kernel
theorem dX0_copyFrom_16 : decode cX0_copyFrom 16 = .ok (.aload_n 0, 1) := by decide +kernel
theorem dX0_copyFrom_17 : decode cX0_copyFrom 17 = .ok (.aload_n 1, 1) := by decide +kernel
theorem dX0_copyFrom_18 : decode cX0_copyFrom 18 = .ok (.getfield 24, 3) := by decide +kernel
theorem dX0_copyFrom_21 : decode cX0_copyFrom 21 = .ok (.putfield 24, 3) := by decide +kernel
theorem dX0_copyFrom_24 : decode cX0_copyFrom 24 = .ok (.aload_n 0, 1) := by decide +kernel
theorem dX0_copyFrom_25 : decode cX0_copyFrom 25 = .ok (.aload_n 1, 1) := by decide +kernel
theorem dX0_copyFrom_26 : decode cX0_copyFrom 26 = .ok (.getfield 28, 3) := by decide +kernel
theorem dX0_copyFrom_29 : decode cX0_copyFrom 29 = .ok (.putfield 28, 3) := by decide +kernel
theorem dX0_copyFrom_32 : decode cX0_copyFrom 32 = .ok (.return_, 1) := by decide +kernel
theorem dX0_cellOf_0 : decode cX0_cellOf 0 = .ok (.iconst 5, 1) := by decide +kernel
theorem dX0_cellOf_1 : decode cX0_cellOf 1 = .ok (.aload_n 0, 1) := by decide +kernel
theorem dX0_cellOf_2 : decode cX0_cellOf 2 = .ok (.getfield 24, 3) := by decide +kernel
theorem dX0_cellOf_5 : decode cX0_cellOf 5 = .ok (.iload_n 2, 1) := by decide +kernel
theorem dX0_cellOf_6 : decode cX0_cellOf 6 = .ok (.iadd, 1) := by decide +kernel
theorem dX0_cellOf_7 : decode cX0_cellOf 7 = .ok (.bipush 21, 2) := by decide +kernel
theorem dX0_cellOf_9 : decode cX0_cellOf 9 = .ok (.irem, 1) := by decide +kernel
theorem dX0_cellOf_10 : decode cX0_cellOf 10 = .ok (.imul, 1) := by decide +kernel
theorem dX0_cellOf_11 : decode cX0_cellOf 11 = .ok (.iload_n 1, 1) := by decide +kernel
theorem dX0_cellOf_12 : decode cX0_cellOf 12 = .ok (.iadd, 1) := by decide +kernel
theorem dX0_cellOf_13 : decode cX0_cellOf 13 = .ok (.ireturn, 1) := by decide +kernel
set_option maxRecDepth 20000 in
theorem ggX0_bookerOf_X0_cellOf : GoodIn wsX0_bookerOf wsX0_cellOf := goodIn_r _ [6, 7, 14, 15, 16] (by decide +kernel) (by decide +kernel)
set_option maxRecDepth 20000 in
theorem gX0_bookerOf_X0_cellOf : GoodIn wsX0_bookerOf (wsV RX0 31 RX0 yX0_cellOf wsX0_cellOf) := goodIn_app (goodIn_of _ (by decide +kernel)) ggX0_bookerOf_X0_cellOf
set_option maxRecDepth 20000 in
theorem ggX0_bookerOf_X4_at : GoodIn wsX0_bookerOf wsX4_at := goodIn_r _ [12, 13, 17] (by decide +kernel) (by decide +kernel)
set_option maxRecDepth 20000 in
theorem gX0_bookerOf_X4_at : GoodIn wsX0_bookerOf (wsV RX0 35 RX4 yX4_at wsX4_at) := goodIn_app (goodIn_of _ (by decide +kernel)) ggX0_bookerOf_X4_at
theorem dX0_bookerOf_0 : decode cX0_bookerOf 0 = .ok (.aload_n 0, 1) := by decide +kernel
theorem dX0_bookerOf_1 : decode cX0_bookerOf 1 = .ok (.getfield 14, 3) := by decide +kernel
theorem dX0_bookerOf_4 : decode cX0_bookerOf 4 = .ok (.aload_n 0, 1) := by decide +kernel
theorem dX0_bookerOf_5 : decode cX0_bookerOf 5 = .ok (.iload_n 1, 1) := by decide +kernel
theorem dX0_bookerOf_6 : decode cX0_bookerOf 6 = .ok (.iload_n 2, 1) := by decide +kernel
theorem dX0_bookerOf_7 : decode cX0_bookerOf 7 = .ok (.invokevirtual 31, 3) := by decide +kernel
theorem dX0_bookerOf_10 : decode cX0_bookerOf 10 = .ok (.invokevirtual 35, 3) := by decide +kernel
theorem dX0_bookerOf_13 : decode cX0_bookerOf 13 = .ok (.istore_n 3, 1) := by decide +kernel
theorem dX0_bookerOf_14 : decode cX0_bookerOf 14 = .ok (.iload_n 3, 1) := by decide +kernel
theorem dX0_bookerOf_15 : decode cX0_bookerOf 15 = .ok (.ifCond .ne 8, 3) := by decide +kernel
theorem dX0_bookerOf_18 : decode cX0_bookerOf 18 = .ok (.bipush (-6), 2) := by decide +kernel
theorem dX0_bookerOf_20 : decode cX0_bookerOf 20 = .ok (.goto 6, 3) := by decide +kernel
theorem dX0_bookerOf_23 : decode cX0_bookerOf 23 = .ok (.iload_n 3, 1) := by decide +kernel
theorem dX0_bookerOf_24 : decode cX0_bookerOf 24 = .ok (.iconst 1, 1) := by decide +kernel
theorem dX0_bookerOf_25 : decode cX0_bookerOf 25 = .ok (.isub, 1) := by decide +kernel
theorem dX0_bookerOf_26 : decode cX0_bookerOf 26 = .ok (.ireturn, 1) := by decide +kernel
set_option maxRecDepth 20000 in
theorem ggX0_enter_X0_cellOf : GoodIn wsX0_enter wsX0_cellOf := goodIn_r _ [6, 7, 14, 15, 16] (by decide +kernel) (by decide +kernel)
set_option maxRecDepth 20000 in
theorem gX0_enter_X0_cellOf : GoodIn wsX0_enter (wsV RX0 31 RX0 yX0_cellOf wsX0_cellOf) := goodIn_app (goodIn_of _ (by decide +kernel)) ggX0_enter_X0_cellOf
set_option maxRecDepth 20000 in
theorem ggX0_enter_X4_write : GoodIn wsX0_enter wsX4_write := goodIn_r _ [12, 13, 17] (by decide +kernel) (by decide +kernel)
set_option maxRecDepth 20000 in
theorem gX0_enter_X4_write : GoodIn wsX0_enter (wsV RX0 39 RX4 yX4_write wsX4_write) := goodIn_app (goodIn_of _ (by decide +kernel)) ggX0_enter_X4_write
theorem dX0_enter_0 : decode cX0_enter 0 = .ok (.aload_n 0, 1) := by decide +kernel
theorem dX0_enter_1 : decode cX0_enter 1 = .ok (.getfield 14, 3) := by decide +kernel
theorem dX0_enter_4 : decode cX0_enter 4 = .ok (.aload_n 0, 1) := by decide +kernel
theorem dX0_enter_5 : decode cX0_enter 5 = .ok (.iload_n 1, 1) := by decide +kernel
theorem dX0_enter_6 : decode cX0_enter 6 = .ok (.iload_n 2, 1) := by decide +kernel
theorem dX0_enter_7 : decode cX0_enter 7 = .ok (.invokevirtual 31, 3) := by decide +kernel
theorem dX0_enter_10 : decode cX0_enter 10 = .ok (.iload_n 3, 1) := by decide +kernel
theorem dX0_enter_11 : decode cX0_enter 11 = .ok (.iconst 1, 1) := by decide +kernel
theorem dX0_enter_12 : decode cX0_enter 12 = .ok (.iadd, 1) := by decide +kernel
theorem dX0_enter_13 : decode cX0_enter 13 = .ok (.invokevirtual 39, 3) := by decide +kernel
theorem dX0_enter_16 : decode cX0_enter 16 = .ok (.return_, 1) := by decide +kernel
set_option maxRecDepth 20000 in
theorem ggX0_cross_X0_cellOf : GoodIn wsX0_cross wsX0_cellOf := goodIn_r _ [6, 7, 14, 15, 16] (by decide +kernel) (by decide +kernel)
set_option maxRecDepth 20000 in
theorem gX0_cross_X0_cellOf : GoodIn wsX0_cross (wsV RX0 31 RX0 yX0_cellOf wsX0_cellOf) := goodIn_app (goodIn_of _ (by decide +kernel)) ggX0_cross_X0_cellOf
set_option maxRecDepth 20000 in
theorem ggX0_cross_X4_write : GoodIn wsX0_cross wsX4_write := goodIn_r _ [12, 13, 17] (by decide +kernel) (by decide +kernel)
set_option maxRecDepth 20000 in
theorem gX0_cross_X4_write : GoodIn wsX0_cross (wsV RX0 39 RX4 yX4_write wsX4_write) := goodIn_app (goodIn_of _ (by decide +kernel)) ggX0_cross_X4_write
theorem dX0_cross_0 : decode cX0_cross 0 = .ok (.aload_n 0, 1) := by decide +kernel
theorem dX0_cross_1 : decode cX0_cross 1 = .ok (.getfield 14, 3) := by decide +kernel
theorem dX0_cross_4 : decode cX0_cross 4 = .ok (.aload_n 0, 1) := by decide +kernel
theorem dX0_cross_5 : decode cX0_cross 5 = .ok (.iload_n 1, 1) := by decide +kernel
theorem dX0_cross_6 : decode cX0_cross 6 = .ok (.iload_n 2, 1) := by decide +kernel
theorem dX0_cross_7 : decode cX0_cross 7 = .ok (.invokevirtual 31, 3) := by decide +kernel
theorem dX0_cross_10 : decode cX0_cross 10 = .ok (.iconst 0, 1) := by decide +kernel
theorem dX0_cross_11 : decode cX0_cross 11 = .ok (.invokevirtual 39, 3) := by decide +kernel
theorem dX0_cross_14 : decode cX0_cross 14 = .ok (.return_, 1) := by decide +kernel
set_option maxRecDepth 20000 in
theorem ggX0_wheelOf_X0_bookerOf : GoodIn wsX0_wheelOf wsX0_bookerOf := goodIn_r _ [5, 6, 7, 8, 9, 4, 10, 11, 12, 13, 14, 15, 16, 17, 18, 19, 20, 21] (by decide +kernel) (by decide +kernel)
set_option maxRecDepth 20000 in
theorem gX0_wheelOf_X0_bookerOf : GoodIn wsX0_wheelOf (wsV RX0 43 RX0 yX0_bookerOf wsX0_bookerOf) := goodIn_app (goodIn_of _ (by decide +kernel)) ggX0_wheelOf_X0_bookerOf
theorem dX0_wheelOf_0 : decode cX0_wheelOf 0 = .ok (.iconst 0, 1) := by decide +kernel
theorem dX0_wheelOf_1 : decode cX0_wheelOf 1 = .ok (.istore_n 3, 1) := by decide +kernel
theorem dX0_wheelOf_2 : decode cX0_wheelOf 2 = .ok (.iload_n 3, 1) := by decide +kernel
theorem dX0_wheelOf_3 : decode cX0_wheelOf 3 = .ok (.iconst 5, 1) := by decide +kernel
theorem dX0_wheelOf_4 : decode cX0_wheelOf 4 = .ok (.if_icmp .ge 21, 3) := by decide +kernel
theorem dX0_wheelOf_7 : decode cX0_wheelOf 7 = .ok (.aload_n 0, 1) := by decide +kernel
theorem dX0_wheelOf_8 : decode cX0_wheelOf 8 = .ok (.iload_n 3, 1) := by decide +kernel
theorem dX0_wheelOf_9 : decode cX0_wheelOf 9 = .ok (.iload_n 2, 1) := by decide +kernel
theorem dX0_wheelOf_10 : decode cX0_wheelOf 10 = .ok (.invokevirtual 43, 3) := by decide +kernel
theorem dX0_wheelOf_13 : decode cX0_wheelOf 13 = .ok (.iload_n 1, 1) := by decide +kernel
theorem dX0_wheelOf_14 : decode cX0_wheelOf 14 = .ok (.if_icmp .ne 5, 3) := by decide +kernel
theorem dX0_wheelOf_17 : decode cX0_wheelOf 17 = .ok (.iload_n 3, 1) := by decide +kernel
theorem dX0_wheelOf_18 : decode cX0_wheelOf 18 = .ok (.ireturn, 1) := by decide +kernel
theorem dX0_wheelOf_19 : decode cX0_wheelOf 19 = .ok (.iinc 3 1, 3) := by decide +kernel
theorem dX0_wheelOf_22 : decode cX0_wheelOf 22 = .ok (.goto (-20), 3) := by decide +kernel
theorem dX0_wheelOf_25 : decode cX0_wheelOf 25 = .ok (.bipush (-6), 2) := by decide +kernel
theorem dX0_wheelOf_27 : decode cX0_wheelOf 27 = .ok (.ireturn, 1) := by decide +kernel
set_option maxRecDepth 20000 in
theorem ggX0_lowestFreeWheel_X0_bookerOf : GoodIn wsX0_lowestFreeWheel wsX0_bookerOf := goodIn_r _ [5, 6, 7, 8, 9, 4, 10, 11, 12, 13, 14, 15, 16, 17, 18, 19, 20, 21] (by decide +kernel) (by decide +kernel)
set_option maxRecDepth 20000 in
theorem gX0_lowestFreeWheel_X0_bookerOf : GoodIn wsX0_lowestFreeWheel (wsV RX0 43 RX0 yX0_bookerOf wsX0_bookerOf) := goodIn_app (goodIn_of _ (by decide +kernel)) ggX0_lowestFreeWheel_X0_bookerOf
theorem dX0_lowestFreeWheel_0 : decode cX0_lowestFreeWheel 0 = .ok (.iconst 0, 1) := by decide +kernel
theorem dX0_lowestFreeWheel_1 : decode cX0_lowestFreeWheel 1 = .ok (.istore_n 2, 1) := by decide +kernel
theorem dX0_lowestFreeWheel_2 : decode cX0_lowestFreeWheel 2 = .ok (.iload_n 2, 1) := by decide +kernel
theorem dX0_lowestFreeWheel_3 : decode cX0_lowestFreeWheel 3 = .ok (.iconst 5, 1) := by decide +kernel
theorem dX0_lowestFreeWheel_4 : decode cX0_lowestFreeWheel 4 = .ok (.if_icmp .ge 22, 3) := by decide +kernel
theorem dX0_lowestFreeWheel_7 : decode cX0_lowestFreeWheel 7 = .ok (.aload_n 0, 1) := by decide +kernel
theorem dX0_lowestFreeWheel_8 : decode cX0_lowestFreeWheel 8 = .ok (.iload_n 2, 1) := by decide +kernel
theorem dX0_lowestFreeWheel_9 : decode cX0_lowestFreeWheel 9 = .ok (.iload_n 1, 1) := by decide +kernel
theorem dX0_lowestFreeWheel_10 : decode cX0_lowestFreeWheel 10 = .ok (.invokevirtual 43, 3) := by decide +kernel
theorem dX0_lowestFreeWheel_13 : decode cX0_lowestFreeWheel 13 = .ok (.bipush (-6), 2) := by decide +kernel
theorem dX0_lowestFreeWheel_15 : decode cX0_lowestFreeWheel 15 = .ok (.if_icmp .ne 5, 3) := by decide +kernel
theorem dX0_lowestFreeWheel_18 : decode cX0_lowestFreeWheel 18 = .ok (.iload_n 2, 1) := by decide +kernel
theorem dX0_lowestFreeWheel_19 : decode cX0_lowestFreeWheel 19 = .ok (.ireturn, 1) := by decide +kernel
theorem dX0_lowestFreeWheel_20 : decode cX0_lowestFreeWheel 20 = .ok (.iinc 2 1, 3) := by decide +kernel
theorem dX0_lowestFreeWheel_23 : decode cX0_lowestFreeWheel 23 = .ok (.goto (-21), 3) := by decide +kernel
theorem dX0_lowestFreeWheel_26 : decode cX0_lowestFreeWheel 26 = .ok (.bipush (-6), 2) := by decide +kernel
theorem dX0_lowestFreeWheel_28 : decode cX0_lowestFreeWheel 28 = .ok (.ireturn, 1) := by decide +kernel
set_option maxRecDepth 20000 in
theorem ggX0_bookingsOf_X0_wheelOf : GoodIn wsX0_bookingsOf wsX0_wheelOf := goodIn_r _ [5, 6, 7, 8, 4, 9, 10, 11, 12, 13, 14, 15, 16, 17, 18, 19, 20, 21, 22, 23, 24, 25] (by decide +kernel) (by decide +kernel)
set_option maxRecDepth 20000 in
theorem gX0_bookingsOf_X0_wheelOf : GoodIn wsX0_bookingsOf (wsV RX0 46 RX0 yX0_wheelOf wsX0_wheelOf) := goodIn_app (goodIn_of _ (by decide +kernel)) ggX0_bookingsOf_X0_wheelOf
theorem dX0_bookingsOf_0 : decode cX0_bookingsOf 0 = .ok (.iconst 0, 1) := by decide +kernel
theorem dX0_bookingsOf_1 : decode cX0_bookingsOf 1 = .ok (.istore_n 2, 1) := by decide +kernel
theorem dX0_bookingsOf_2 : decode cX0_bookingsOf 2 = .ok (.iconst 0, 1) := by decide +kernel
theorem dX0_bookingsOf_3 : decode cX0_bookingsOf 3 = .ok (.istore_n 3, 1) := by decide +kernel
theorem dX0_bookingsOf_4 : decode cX0_bookingsOf 4 = .ok (.iload_n 3, 1) := by decide +kernel
theorem dX0_bookingsOf_5 : decode cX0_bookingsOf 5 = .ok (.bipush 20, 2) := by decide +kernel
theorem dX0_bookingsOf_7 : decode cX0_bookingsOf 7 = .ok (.if_icmp .gt 23, 3) := by decide +kernel
theorem dX0_bookingsOf_10 : decode cX0_bookingsOf 10 = .ok (.aload_n 0, 1) := by decide +kernel
theorem dX0_bookingsOf_11 : decode cX0_bookingsOf 11 = .ok (.iload_n 1, 1) := by decide +kernel
theorem dX0_bookingsOf_12 : decode cX0_bookingsOf 12 = .ok (.iload_n 3, 1) := by decide +kernel
theorem dX0_bookingsOf_13 : decode cX0_bookingsOf 13 = .ok (.invokevirtual 46, 3) := by decide +kernel
theorem dX0_bookingsOf_16 : decode cX0_bookingsOf 16 = .ok (.bipush (-6), 2) := by decide +kernel
theorem dX0_bookingsOf_18 : decode cX0_bookingsOf 18 = .ok (.if_icmp .eq 6, 3) := by decide +kernel
theorem dX0_bookingsOf_21 : decode cX0_bookingsOf 21 = .ok (.iinc 2 1, 3) := by decide +kernel
theorem dX0_bookingsOf_24 : decode cX0_bookingsOf 24 = .ok (.iinc 3 1, 3) := by decide +kernel
theorem dX0_bookingsOf_27 : decode cX0_bookingsOf 27 = .ok (.goto (-23), 3) := by decide +kernel
theorem dX0_bookingsOf_30 : decode cX0_bookingsOf 30 = .ok (.iload_n 2, 1) := by decide +kernel
theorem dX0_bookingsOf_31 : decode cX0_bookingsOf 31 = .ok (.ireturn, 1) := by decide +kernel
theorem dX0_hasThrownTonight_0 : decode cX0_hasThrownTonight 0 = .ok (.aload_n 0, 1) := by decide +kernel
theorem dX0_hasThrownTonight_1 : decode cX0_hasThrownTonight 1 = .ok (.getfield 28, 3) := by decide +kernel
theorem dX0_hasThrownTonight_4 : decode cX0_hasThrownTonight 4 = .ok (.iload_n 1, 1) := by decide +kernel
theorem dX0_hasThrownTonight_5 : decode cX0_hasThrownTonight 5 = .ok (.ishr, 1) := by decide +kernel
theorem dX0_hasThrownTonight_6 : decode cX0_hasThrownTonight 6 = .ok (.iconst 1, 1) := by decide +kernel
theorem dX0_hasThrownTonight_7 : decode cX0_hasThrownTonight 7 = .ok (.iand, 1) := by decide +kernel
theorem dX0_hasThrownTonight_8 : decode cX0_hasThrownTonight 8 = .ok (.ifCond .eq 7, 3) := by decide +kernel
theorem dX0_hasThrownTonight_11 : decode cX0_hasThrownTonight 11 = .ok (.iconst 1, 1) := by decide +kernel
theorem dX0_hasThrownTonight_12 : decode cX0_hasThrownTonight 12 = .ok (.goto 4, 3) := by decide +kernel
theorem dX0_hasThrownTonight_15 : decode cX0_hasThrownTonight 15 = .ok (.iconst 0, 1) := by decide +kernel
theorem dX0_hasThrownTonight_16 : decode cX0_hasThrownTonight 16 = .ok (.ireturn, 1) := by decide +kernel
theorem dX0_noteThrower_0 : decode cX0_noteThrower 0 = .ok (.aload_n 0, 1) := by decide +kernel
theorem dX0_noteThrower_1 : decode cX0_noteThrower 1 = .ok (.dup, 1) := by decide +kernel
theorem dX0_noteThrower_2 : decode cX0_noteThrower 2 = .ok (.getfield 28, 3) := by decide +kernel
theorem dX0_noteThrower_5 : decode cX0_noteThrower 5 = .ok (.iconst 1, 1) := by decide +kernel
theorem dX0_noteThrower_6 : decode cX0_noteThrower 6 = .ok (.iload_n 1, 1) := by decide +kernel
theorem dX0_noteThrower_7 : decode cX0_noteThrower 7 = .ok (.ishl, 1) := by decide +kernel
theorem dX0_noteThrower_8 : decode cX0_noteThrower 8 = .ok (.ior, 1) := by decide +kernel
theorem dX0_noteThrower_9 : decode cX0_noteThrower 9 = .ok (.putfield 28, 3) := by decide +kernel
theorem dX0_noteThrower_12 : decode cX0_noteThrower 12 = .ok (.return_, 1) := by decide +kernel
set_option maxRecDepth 20000 in
theorem ggX0_passOneNight_X0_cross : GoodIn wsX0_passOneNight wsX0_cross := goodIn_r _ [7, 8, 9, 10, 11, 6, 12, 2, 13, 14, 15, 16, 17, 18, 19, 20, 21, 22] (by decide +kernel) (by decide +kernel)
set_option maxRecDepth 20000 in
theorem gX0_passOneNight_X0_cross : GoodIn wsX0_passOneNight (wsV RX0 49 RX0 yX0_cross wsX0_cross) := goodIn_app (goodIn_of _ (by decide +kernel)) ggX0_passOneNight_X0_cross
theorem dX0_passOneNight_0 : decode cX0_passOneNight 0 = .ok (.iconst 0, 1) := by decide +kernel
theorem dX0_passOneNight_1 : decode cX0_passOneNight 1 = .ok (.istore_n 1, 1) := by decide +kernel
theorem dX0_passOneNight_2 : decode cX0_passOneNight 2 = .ok (.iload_n 1, 1) := by decide +kernel
theorem dX0_passOneNight_3 : decode cX0_passOneNight 3 = .ok (.iconst 5, 1) := by decide +kernel
theorem dX0_passOneNight_4 : decode cX0_passOneNight 4 = .ok (.if_icmp .ge 15, 3) := by decide +kernel
theorem dX0_passOneNight_7 : decode cX0_passOneNight 7 = .ok (.aload_n 0, 1) := by decide +kernel
theorem dX0_passOneNight_8 : decode cX0_passOneNight 8 = .ok (.iload_n 1, 1) := by decide +kernel
theorem dX0_passOneNight_9 : decode cX0_passOneNight 9 = .ok (.iconst 0, 1) := by decide +kernel
theorem dX0_passOneNight_10 : decode cX0_passOneNight 10 = .ok (.invokevirtual 49, 3) := by decide +kernel
theorem dX0_passOneNight_13 : decode cX0_passOneNight 13 = .ok (.iinc 1 1, 3) := by decide +kernel
theorem dX0_passOneNight_16 : decode cX0_passOneNight 16 = .ok (.goto (-14), 3) := by decide +kernel
theorem dX0_passOneNight_19 : decode cX0_passOneNight 19 = .ok (.aload_n 0, 1) := by decide +kernel
theorem dX0_passOneNight_20 : decode cX0_passOneNight 20 = .ok (.iconst 0, 1) := by decide +kernel
theorem dX0_passOneNight_21 : decode cX0_passOneNight 21 = .ok (.putfield 28, 3) := by decide +kernel
theorem dX0_passOneNight_24 : decode cX0_passOneNight 24 = .ok (.aload_n 0, 1) := by decide +kernel
theorem dX0_passOneNight_25 : decode cX0_passOneNight 25 = .ok (.dup, 1) := by decide +kernel
theorem dX0_passOneNight_26 : decode cX0_passOneNight 26 = .ok (.getfield 24, 3) := by decide +kernel
theorem dX0_passOneNight_29 : decode cX0_passOneNight 29 = .ok (.iconst 1, 1) := by decide +kernel
theorem dX0_passOneNight_30 : decode cX0_passOneNight 30 = .ok (.iadd, 1) := by decide +kernel
theorem dX0_passOneNight_31 : decode cX0_passOneNight 31 = .ok (.putfield 24, 3) := by decide +kernel
theorem dX0_passOneNight_34 : decode cX0_passOneNight 34 = .ok (.return_, 1) := by decide +kernel
set_option maxRecDepth 20000 in
theorem ggX1_init_X5_init : GoodIn wsX1_init wsX5_init := goodIn_r _ [10, 11, 2, 3, 12, 13, 14, 15, 16, 17, 18, 19, 20, 21, 22, 23, 24, 25, 26, 27, 28, 29, 30, 31, 32, 33, 34, 35, 36, 37, 38, 39, 40, 41, 42, 43, 44, 45, 46, 47, 48, 49, 50, 51, 52, 53, 54, 55, 56, 57, 58, 59, 71, 63, 64, 65, 66, 67, 68, 69, 70, 72, 73, 74, 75, 76, 77, 78, 79, 80, 81, 82, 83] (by decide +kernel) (by decide +kernel)
set_option maxRecDepth 20000 in
theorem gX1_init_X5_init : GoodIn wsX1_init (wsX5_init) := ggX1_init_X5_init
theorem dX1_init_0 : decode cX1_init 0 = .ok (.aload_n 0, 1) := by decide +kernel
theorem dX1_init_1 : decode cX1_init 1 = .ok (.invokespecial 3, 3) := by decide +kernel
theorem dX1_init_4 : decode cX1_init 4 = .ok (.aload_n 0, 1) := by decide +kernel
theorem dX1_init_5 : decode cX1_init 5 = .ok (.bipush 7, 2) := by decide +kernel
theorem dX1_init_7 : decode cX1_init 7 = .ok (.anewarray 11, 3) := by decide +kernel
theorem dX1_init_10 : decode cX1_init 10 = .ok (.putfield 13, 3) := by decide +kernel
theorem dX1_init_13 : decode cX1_init 13 = .ok (.iconst 0, 1) := by decide +kernel
theorem dX1_init_14 : decode cX1_init 14 = .ok (.istore_n 1, 1) := by decide +kernel
theorem dX1_init_15 : decode cX1_init 15 = .ok (.iload_n 1, 1) := by decide +kernel
theorem dX1_init_16 : decode cX1_init 16 = .ok (.aload_n 0, 1) := by decide +kernel
theorem dX1_init_17 : decode cX1_init 17 = .ok (.getfield 13, 3) := by decide +kernel
theorem dX1_init_20 : decode cX1_init 20 = .ok (.arraylength, 1) := by decide +kernel
theorem dX1_init_21 : decode cX1_init 21 = .ok (.if_icmp .ge 22, 3) := by decide +kernel
theorem dX1_init_24 : decode cX1_init 24 = .ok (.aload_n 0, 1) := by decide +kernel
theorem dX1_init_25 : decode cX1_init 25 = .ok (.getfield 13, 3) := by decide +kernel
theorem dX1_init_28 : decode cX1_init 28 = .ok (.iload_n 1, 1) := by decide +kernel
theorem dX1_init_29 : decode cX1_init 29 = .ok (.new 11, 3) := by decide +kernel
theorem dX1_init_32 : decode cX1_init 32 = .ok (.dup, 1) := by decide +kernel
theorem dX1_init_33 : decode cX1_init 33 = .ok (.invokespecial 17, 3) := by decide +kernel
theorem dX1_init_36 : decode cX1_init 36 = .ok (.aastore, 1) := by decide +kernel
theorem dX1_init_37 : decode cX1_init 37 = .ok (.iinc 1 1, 3) := by decide +kernel
theorem dX1_init_40 : decode cX1_init 40 = .ok (.goto (-25), 3) := by decide +kernel
theorem dX1_init_43 : decode cX1_init 43 = .ok (.return_, 1) := by decide +kernel
theorem dX1_kept_0 : decode cX1_kept 0 = .ok (.aload_n 0, 1) := by decide +kernel
theorem dX1_kept_1 : decode cX1_kept 1 = .ok (.getfield 18, 3) := by decide +kernel
theorem dX1_kept_4 : decode cX1_kept 4 = .ok (.ireturn, 1) := by decide +kernel
theorem dX1_stateAt_0 : decode cX1_stateAt 0 = .ok (.iload_n 1, 1) := by decide +kernel
theorem dX1_stateAt_1 : decode cX1_stateAt 1 = .ok (.ifCond .lt 21, 3) := by decide +kernel
theorem dX1_stateAt_4 : decode cX1_stateAt 4 = .ok (.iload_n 1, 1) := by decide +kernel
theorem dX1_stateAt_5 : decode cX1_stateAt 5 = .ok (.aload_n 0, 1) := by decide +kernel
theorem dX1_stateAt_6 : decode cX1_stateAt 6 = .ok (.getfield 13, 3) := by decide +kernel
theorem dX1_stateAt_9 : decode cX1_stateAt 9 = .ok (.arraylength, 1) := by decide +kernel
theorem dX1_stateAt_10 : decode cX1_stateAt 10 = .ok (.if_icmp .ge 12, 3) := by decide +kernel
theorem dX1_stateAt_13 : decode cX1_stateAt 13 = .ok (.aload_n 0, 1) := by decide +kernel
theorem dX1_stateAt_14 : decode cX1_stateAt 14 = .ok (.getfield 13, 3) := by decide +kernel
theorem dX1_stateAt_17 : decode cX1_stateAt 17 = .ok (.iload_n 1, 1) := by decide +kernel
theorem dX1_stateAt_18 : decode cX1_stateAt 18 = .ok (.aaload, 1) := by decide +kernel
theorem dX1_stateAt_19 : decode cX1_stateAt 19 = .ok (.goto 4, 3) := by decide +kernel
theorem dX1_stateAt_22 : decode cX1_stateAt 22 = .ok (.aconst_null, 1) := by decide +kernel
theorem dX1_stateAt_23 : decode cX1_stateAt 23 = .ok (.areturn, 1) := by decide +kernel
set_option maxRecDepth 20000 in
theorem ggX1_prepare_X1_stateAt : GoodIn wsX1_prepare wsX1_stateAt := goodIn_r _ [6, 7, 59, 60, 61] (by decide +kernel) (by decide +kernel)
set_option maxRecDepth 20000 in
theorem gX1_prepare_X1_stateAt : GoodIn wsX1_prepare (wsV RX1 25 RX1 yX1_stateAt wsX1_stateAt) := goodIn_app (goodIn_of _ (by decide +kernel)) ggX1_prepare_X1_stateAt
set_option maxRecDepth 20000 in
theorem ggX1_prepare_X5_copyFrom : GoodIn wsX1_prepare wsX5_copyFrom := goodIn_r _ [12, 13, 14, 15, 16, 17, 18, 19, 20, 21, 22, 23, 24, 25, 26, 27, 28, 29, 30, 31, 32, 33, 34, 35, 36, 37, 38, 39, 40, 41, 42, 43, 44, 45, 46, 47, 48, 49, 50, 51, 52, 53, 54, 55, 56, 57, 58, 62, 63, 64, 65, 66, 67, 68, 69, 70, 71, 72, 73, 74, 75, 76, 77, 78, 79, 80, 81, 82] (by decide +kernel) (by decide +kernel)
set_option maxRecDepth 20000 in
theorem gX1_prepare_X5_copyFrom : GoodIn wsX1_prepare (wsV RX1 29 RX5 yX5_copyFrom wsX5_copyFrom) := goodIn_app (goodIn_of _ (by decide +kernel)) ggX1_prepare_X5_copyFrom
theorem dX1_prepare_0 : decode cX1_prepare 0 = .ok (.aload_n 0, 1) := by decide +kernel
theorem dX1_prepare_1 : decode cX1_prepare 1 = .ok (.aload_n 0, 1) := by decide +kernel
theorem dX1_prepare_2 : decode cX1_prepare 2 = .ok (.getfield 22, 3) := by decide +kernel
theorem dX1_prepare_5 : decode cX1_prepare 5 = .ok (.invokevirtual 25, 3) := by decide +kernel
theorem dX1_prepare_8 : decode cX1_prepare 8 = .ok (.astore_n 2, 1) := by decide +kernel
theorem dX1_prepare_9 : decode cX1_prepare 9 = .ok (.aload_n 2, 1) := by decide +kernel
theorem dX1_prepare_10 : decode cX1_prepare 10 = .ok (.ifnull 8, 3) := by decide +kernel
theorem dX1_prepare_13 : decode cX1_prepare 13 = .ok (.aload_n 2, 1) := by decide +kernel
theorem dX1_prepare_14 : decode cX1_prepare 14 = .ok (.aload_n 1, 1) := by decide +kernel
theorem dX1_prepare_15 : decode cX1_prepare 15 = .ok (.invokevirtual 29, 3) := by decide +kernel
theorem dX1_prepare_18 : decode cX1_prepare 18 = .ok (.return_, 1) := by decide +kernel
theorem dX1_record_0 : decode cX1_record 0 = .ok (.iload_n 1, 1) := by decide +kernel
theorem dX1_record_1 : decode cX1_record 1 = .ok (.ifCond .lt 31, 3) := by decide +kernel
theorem dX1_record_4 : decode cX1_record 4 = .ok (.aload_n 0, 1) := by decide +kernel
theorem dX1_record_5 : decode cX1_record 5 = .ok (.aload_n 0, 1) := by decide +kernel
theorem dX1_record_6 : decode cX1_record 6 = .ok (.getfield 22, 3) := by decide +kernel
theorem dX1_record_9 : decode cX1_record 9 = .ok (.iconst 1, 1) := by decide +kernel
theorem dX1_record_10 : decode cX1_record 10 = .ok (.iadd, 1) := by decide +kernel
theorem dX1_record_11 : decode cX1_record 11 = .ok (.bipush 7, 2) := by decide +kernel
theorem dX1_record_13 : decode cX1_record 13 = .ok (.irem, 1) := by decide +kernel
theorem dX1_record_14 : decode cX1_record 14 = .ok (.putfield 22, 3) := by decide +kernel
theorem dX1_record_17 : decode cX1_record 17 = .ok (.aload_n 0, 1) := by decide +kernel
theorem dX1_record_18 : decode cX1_record 18 = .ok (.aload_n 0, 1) := by decide +kernel
theorem dX1_record_19 : decode cX1_record 19 = .ok (.getfield 18, 3) := by decide +kernel
theorem dX1_record_22 : decode cX1_record 22 = .ok (.iconst 1, 1) := by decide +kernel
theorem dX1_record_23 : decode cX1_record 23 = .ok (.iadd, 1) := by decide +kernel
theorem dX1_record_24 : decode cX1_record 24 = .ok (.bipush 6, 2) := by decide +kernel
theorem dX1_record_26 : decode cX1_record 26 = .ok (.invokestatic 33, 3) := by decide +kernel
theorem dX1_record_29 : decode cX1_record 29 = .ok (.putfield 18, 3) := by decide +kernel
theorem dX1_record_32 : decode cX1_record 32 = .ok (.iload_n 1, 1) := by decide +kernel
theorem dX1_record_33 : decode cX1_record 33 = .ok (.ireturn, 1) := by decide +kernel
set_option maxRecDepth 20000 in
theorem ggX1_stepBack_X1_stateAt : GoodIn wsX1_stepBack wsX1_stateAt := goodIn_r _ [7, 8, 60, 61, 62] (by decide +kernel) (by decide +kernel)
set_option maxRecDepth 20000 in
theorem gX1_stepBack_X1_stateAt : GoodIn wsX1_stepBack (wsV RX1 25 RX1 yX1_stateAt wsX1_stateAt) := goodIn_app (goodIn_of _ (by decide +kernel)) ggX1_stepBack_X1_stateAt
set_option maxRecDepth 20000 in
theorem ggX1_stepBack_X5_copyFrom : GoodIn wsX1_stepBack wsX5_copyFrom := goodIn_r _ [13, 14, 15, 16, 17, 18, 19, 20, 21, 22, 23, 24, 25, 26, 27, 28, 29, 30, 31, 32, 33, 34, 35, 36, 37, 38, 39, 40, 41, 42, 43, 44, 45, 46, 47, 48, 49, 50, 51, 52, 53, 54, 55, 56, 57, 58, 59, 63, 64, 65, 66, 67, 68, 69, 70, 71, 72, 73, 74, 75, 76, 77, 78, 79, 80, 81, 82, 83] (by decide +kernel) (by decide +kernel)
set_option maxRecDepth 20000 in
theorem gX1_stepBack_X5_copyFrom : GoodIn wsX1_stepBack (wsV RX1 29 RX5 yX5_copyFrom wsX5_copyFrom) := goodIn_app (goodIn_of _ (by decide +kernel)) ggX1_stepBack_X5_copyFrom
theorem dX1_stepBack_0 : decode cX1_stepBack 0 = .ok (.aload_n 0, 1) := by decide +kernel
theorem dX1_stepBack_1 : decode cX1_stepBack 1 = .ok (.getfield 18, 3) := by decide +kernel
theorem dX1_stepBack_4 : decode cX1_stepBack 4 = .ok (.ifCond .eq 7, 3) := by decide +kernel
theorem dX1_stepBack_7 : decode cX1_stepBack 7 = .ok (.aload_n 1, 1) := by decide +kernel
theorem dX1_stepBack_8 : decode cX1_stepBack 8 = .ok (.ifnonnull 6, 3) := by decide +kernel
theorem dX1_stepBack_11 : decode cX1_stepBack 11 = .ok (.bipush (-5), 2) := by decide +kernel
theorem dX1_stepBack_13 : decode cX1_stepBack 13 = .ok (.ireturn, 1) := by decide +kernel
theorem dX1_stepBack_14 : decode cX1_stepBack 14 = .ok (.aload_n 0, 1) := by decide +kernel
theorem dX1_stepBack_15 : decode cX1_stepBack 15 = .ok (.aload_n 0, 1) := by decide +kernel
theorem dX1_stepBack_16 : decode cX1_stepBack 16 = .ok (.getfield 22, 3) := by decide +kernel
theorem dX1_stepBack_19 : decode cX1_stepBack 19 = .ok (.bipush 7, 2) := by decide +kernel
theorem dX1_stepBack_21 : decode cX1_stepBack 21 = .ok (.iadd, 1) := by decide +kernel
theorem dX1_stepBack_22 : decode cX1_stepBack 22 = .ok (.iconst 1, 1) := by decide +kernel
theorem dX1_stepBack_23 : decode cX1_stepBack 23 = .ok (.isub, 1) := by decide +kernel
theorem dX1_stepBack_24 : decode cX1_stepBack 24 = .ok (.bipush 7, 2) := by decide +kernel
theorem dX1_stepBack_26 : decode cX1_stepBack 26 = .ok (.irem, 1) := by decide +kernel
theorem dX1_stepBack_27 : decode cX1_stepBack 27 = .ok (.putfield 22, 3) := by decide +kernel
theorem dX1_stepBack_30 : decode cX1_stepBack 30 = .ok (.aload_n 0, 1) := by decide +kernel
theorem dX1_stepBack_31 : decode cX1_stepBack 31 = .ok (.dup, 1) := by decide +kernel
theorem dX1_stepBack_32 : decode cX1_stepBack 32 = .ok (.getfield 18, 3) := by decide +kernel
theorem dX1_stepBack_35 : decode cX1_stepBack 35 = .ok (.iconst 1, 1) := by decide +kernel
theorem dX1_stepBack_36 : decode cX1_stepBack 36 = .ok (.isub, 1) := by decide +kernel
theorem dX1_stepBack_37 : decode cX1_stepBack 37 = .ok (.putfield 18, 3) := by decide +kernel
theorem dX1_stepBack_40 : decode cX1_stepBack 40 = .ok (.aload_n 1, 1) := by decide +kernel
theorem dX1_stepBack_41 : decode cX1_stepBack 41 = .ok (.aload_n 0, 1) := by decide +kernel
theorem dX1_stepBack_42 : decode cX1_stepBack 42 = .ok (.aload_n 0, 1) := by decide +kernel
theorem dX1_stepBack_43 : decode cX1_stepBack 43 = .ok (.getfield 22, 3) := by decide +kernel
theorem dX1_stepBack_46 : decode cX1_stepBack 46 = .ok (.invokevirtual 25, 3) := by decide +kernel
theorem dX1_stepBack_49 : decode cX1_stepBack 49 = .ok (.invokevirtual 29, 3) := by decide +kernel
theorem dX1_stepBack_52 : decode cX1_stepBack 52 = .ok (.aload_n 0, 1) := by decide +kernel
theorem dX1_stepBack_53 : decode cX1_stepBack 53 = .ok (.getfield 18, 3) := by decide +kernel
theorem dX1_stepBack_56 : decode cX1_stepBack 56 = .ok (.ireturn, 1) := by decide +kernel
theorem dX2_init_0 : decode cX2_init 0 = .ok (.aload_n 0, 1) := by decide +kernel
theorem dX2_init_1 : decode cX2_init 1 = .ok (.invokespecial 3, 3) := by decide +kernel
theorem dX2_init_4 : decode cX2_init 4 = .ok (.aload_n 0, 1) := by decide +kernel
theorem dX2_init_5 : decode cX2_init 5 = .ok (.bipush 80, 2) := by decide +kernel
theorem dX2_init_7 : decode cX2_init 7 = .ok (.newarray .int, 2) := by decide +kernel
theorem dX2_init_9 : decode cX2_init 9 = .ok (.putfield 9, 3) := by decide +kernel
theorem dX2_init_12 : decode cX2_init 12 = .ok (.return_, 1) := by decide +kernel
theorem dX2_length_0 : decode cX2_length 0 = .ok (.aload_n 0, 1) := by decide +kernel
theorem dX2_length_1 : decode cX2_length 1 = .ok (.getfield 15, 3) := by decide +kernel
theorem dX2_length_4 : decode cX2_length 4 = .ok (.ireturn, 1) := by decide +kernel
theorem dX2_kind_0 : decode cX2_kind 0 = .ok (.aload_n 0, 1) := by decide +kernel
theorem dX2_kind_1 : decode cX2_kind 1 = .ok (.getfield 19, 3) := by decide +kernel
theorem dX2_kind_4 : decode cX2_kind 4 = .ok (.ireturn, 1) := by decide +kernel
theorem dX2_first_0 : decode cX2_first 0 = .ok (.aload_n 0, 1) := by decide +kernel
theorem dX2_first_1 : decode cX2_first 1 = .ok (.getfield 22, 3) := by decide +kernel
theorem dX2_first_4 : decode cX2_first 4 = .ok (.ireturn, 1) := by decide +kernel
theorem dX2_second_0 : decode cX2_second 0 = .ok (.aload_n 0, 1) := by decide +kernel
theorem dX2_second_1 : decode cX2_second 1 = .ok (.getfield 25, 3) := by decide +kernel
theorem dX2_second_4 : decode cX2_second 4 = .ok (.ireturn, 1) := by decide +kernel
theorem dX2_third_0 : decode cX2_third 0 = .ok (.aload_n 0, 1) := by decide +kernel
theorem dX2_third_1 : decode cX2_third 1 = .ok (.getfield 28, 3) := by decide +kernel
theorem dX2_third_4 : decode cX2_third 4 = .ok (.ireturn, 1) := by decide +kernel
theorem dX2_clear_0 : decode cX2_clear 0 = .ok (.aload_n 0, 1) := by decide +kernel
theorem dX2_clear_1 : decode cX2_clear 1 = .ok (.getfield 15, 3) := by decide +kernel
theorem dX2_clear_4 : decode cX2_clear 4 = .ok (.istore_n 1, 1) := by decide +kernel
theorem dX2_clear_5 : decode cX2_clear 5 = .ok (.aload_n 0, 1) := by decide +kernel
theorem dX2_clear_6 : decode cX2_clear 6 = .ok (.iconst 0, 1) := by decide +kernel
theorem dX2_clear_7 : decode cX2_clear 7 = .ok (.putfield 15, 3) := by decide +kernel
theorem dX2_clear_10 : decode cX2_clear 10 = .ok (.iload_n 1, 1) := by decide +kernel
theorem dX2_clear_11 : decode cX2_clear 11 = .ok (.ireturn, 1) := by decide +kernel
set_option maxRecDepth 20000 in
theorem ggX2_append_X2_charactersIn : GoodIn wsX2_append wsX2_charactersIn := goodIn_r _ [6, 7, 8, 5, 9, 10, 11, 12, 13] (by decide +kernel) (by decide +kernel)
set_option maxRecDepth 20000 in
theorem gX2_append_X2_charactersIn : GoodIn wsX2_append (va_wsS RX2 31 yX2_charactersIn wsX2_charactersIn) := goodIn_app (goodIn_of _ (by decide +kernel)) ggX2_append_X2_charactersIn
set_option maxRecDepth 20000 in
theorem ggX2_append_X2_codeIn : GoodIn wsX2_append wsX2_codeIn := goodIn_r _ [9, 10] (by decide +kernel) (by decide +kernel)
set_option maxRecDepth 20000 in
theorem gX2_append_X2_codeIn : GoodIn wsX2_append (va_wsS RX2 35 yX2_codeIn wsX2_codeIn) := goodIn_app (goodIn_of _ (by decide +kernel)) ggX2_append_X2_codeIn
theorem dX2_append_0 : decode cX2_append 0 = .ok (.lload_n 1, 1) := by decide +kernel
theorem dX2_append_1 : decode cX2_append 1 = .ok (.invokestatic 31, 3) := by decide +kernel
theorem dX2_append_4 : decode cX2_append 4 = .ok (.istore_n 3, 1) := by decide +kernel
theorem dX2_append_5 : decode cX2_append 5 = .ok (.iload_n 3, 1) := by decide +kernel
theorem dX2_append_6 : decode cX2_append 6 = .ok (.ifCond .ne 6, 3) := by decide +kernel
theorem dX2_append_9 : decode cX2_append 9 = .ok (.bipush (-2), 2) := by decide +kernel
theorem dX2_append_11 : decode cX2_append 11 = .ok (.ireturn, 1) := by decide +kernel
theorem dX2_append_12 : decode cX2_append 12 = .ok (.aload_n 0, 1) := by decide +kernel
theorem dX2_append_13 : decode cX2_append 13 = .ok (.getfield 15, 3) := by decide +kernel
theorem dX2_append_16 : decode cX2_append 16 = .ok (.iload_n 3, 1) := by decide +kernel
theorem dX2_append_17 : decode cX2_append 17 = .ok (.iadd, 1) := by decide +kernel
theorem dX2_append_18 : decode cX2_append 18 = .ok (.aload_n 0, 1) := by decide +kernel
theorem dX2_append_19 : decode cX2_append 19 = .ok (.getfield 9, 3) := by decide +kernel
theorem dX2_append_22 : decode cX2_append 22 = .ok (.arraylength, 1) := by decide +kernel
theorem dX2_append_23 : decode cX2_append 23 = .ok (.if_icmp .le 6, 3) := by decide +kernel
theorem dX2_append_26 : decode cX2_append 26 = .ok (.bipush (-4), 2) := by decide +kernel
theorem dX2_append_28 : decode cX2_append 28 = .ok (.ireturn, 1) := by decide +kernel
theorem dX2_append_29 : decode cX2_append 29 = .ok (.iload_n 3, 1) := by decide +kernel
theorem dX2_append_30 : decode cX2_append 30 = .ok (.iconst 1, 1) := by decide +kernel
theorem dX2_append_31 : decode cX2_append 31 = .ok (.isub, 1) := by decide +kernel
theorem dX2_append_32 : decode cX2_append 32 = .ok (.istore 4, 2) := by decide +kernel
theorem dX2_append_34 : decode cX2_append 34 = .ok (.iload 4, 2) := by decide +kernel
theorem dX2_append_36 : decode cX2_append 36 = .ok (.ifCond .lt 53, 3) := by decide +kernel
theorem dX2_append_39 : decode cX2_append 39 = .ok (.aload_n 0, 1) := by decide +kernel
theorem dX2_append_40 : decode cX2_append 40 = .ok (.getfield 15, 3) := by decide +kernel
theorem dX2_append_43 : decode cX2_append 43 = .ok (.ifCond .lt 46, 3) := by decide +kernel
theorem dX2_append_46 : decode cX2_append 46 = .ok (.aload_n 0, 1) := by decide +kernel
theorem dX2_append_47 : decode cX2_append 47 = .ok (.getfield 15, 3) := by decide +kernel
theorem dX2_append_50 : decode cX2_append 50 = .ok (.aload_n 0, 1) := by decide +kernel
theorem dX2_append_51 : decode cX2_append 51 = .ok (.getfield 9, 3) := by decide +kernel
theorem dX2_append_54 : decode cX2_append 54 = .ok (.arraylength, 1) := by decide +kernel
theorem dX2_append_55 : decode cX2_append 55 = .ok (.if_icmp .ge 34, 3) := by decide +kernel
theorem dX2_append_58 : decode cX2_append 58 = .ok (.aload_n 0, 1) := by decide +kernel
theorem dX2_append_59 : decode cX2_append 59 = .ok (.getfield 9, 3) := by decide +kernel
theorem dX2_append_62 : decode cX2_append 62 = .ok (.aload_n 0, 1) := by decide +kernel
theorem dX2_append_63 : decode cX2_append 63 = .ok (.getfield 15, 3) := by decide +kernel
theorem dX2_append_66 : decode cX2_append 66 = .ok (.lload_n 1, 1) := by decide +kernel
theorem dX2_append_67 : decode cX2_append 67 = .ok (.iload 4, 2) := by decide +kernel
theorem dX2_append_69 : decode cX2_append 69 = .ok (.invokestatic 35, 3) := by decide +kernel
theorem dX2_append_72 : decode cX2_append 72 = .ok (.iastore, 1) := by decide +kernel
theorem dX2_append_73 : decode cX2_append 73 = .ok (.aload_n 0, 1) := by decide +kernel
theorem dX2_append_74 : decode cX2_append 74 = .ok (.dup, 1) := by decide +kernel
theorem dX2_append_75 : decode cX2_append 75 = .ok (.getfield 15, 3) := by decide +kernel
theorem dX2_append_78 : decode cX2_append 78 = .ok (.iconst 1, 1) := by decide +kernel
theorem dX2_append_79 : decode cX2_append 79 = .ok (.iadd, 1) := by decide +kernel
theorem dX2_append_80 : decode cX2_append 80 = .ok (.putfield 15, 3) := by decide +kernel
theorem dX2_append_83 : decode cX2_append 83 = .ok (.iinc 4 (-1), 3) := by decide +kernel
theorem dX2_append_86 : decode cX2_append 86 = .ok (.goto (-52), 3) := by decide +kernel
theorem dX2_append_89 : decode cX2_append 89 = .ok (.aload_n 0, 1) := by decide +kernel
theorem dX2_append_90 : decode cX2_append 90 = .ok (.getfield 15, 3) := by decide +kernel
theorem dX2_append_93 : decode cX2_append 93 = .ok (.ireturn, 1) := by decide +kernel
theorem dX2_codeIn_0 : decode cX2_codeIn 0 = .ok (.lload_n 0, 1) := by decide +kernel
theorem dX2_codeIn_1 : decode cX2_codeIn 1 = .ok (.bipush 8, 2) := by decide +kernel
theorem dX2_codeIn_3 : decode cX2_codeIn 3 = .ok (.iload_n 2, 1) := by decide +kernel
theorem dX2_codeIn_4 : decode cX2_codeIn 4 = .ok (.imul, 1) := by decide +kernel
theorem dX2_codeIn_5 : decode cX2_codeIn 5 = .ok (.lushr, 1) := by decide +kernel
theorem dX2_codeIn_6 : decode cX2_codeIn 6 = .ok (.ldc2_w 39, 3) := by decide +kernel
theorem dX2_codeIn_9 : decode cX2_codeIn 9 = .ok (.land, 1) := by decide +kernel
theorem dX2_codeIn_10 : decode cX2_codeIn 10 = .ok (.l2i, 1) := by decide +kernel
theorem dX2_codeIn_11 : decode cX2_codeIn 11 = .ok (.ireturn, 1) := by decide +kernel
set_option maxRecDepth 20000 in
theorem ggX2_charactersIn_X2_codeIn : GoodIn wsX2_charactersIn wsX2_codeIn := goodIn_r _ [4, 5] (by decide +kernel) (by decide +kernel)
set_option maxRecDepth 20000 in
theorem gX2_charactersIn_X2_codeIn : GoodIn wsX2_charactersIn (va_wsS RX2 35 yX2_codeIn wsX2_codeIn) := goodIn_app (goodIn_of _ (by decide +kernel)) ggX2_charactersIn_X2_codeIn
set_option maxRecDepth 20000 in
theorem ggX2_charactersIn_X6_isWithin : GoodIn wsX2_charactersIn wsX6_isWithin := goodIn_r _ [8] (by decide +kernel) (by decide +kernel)
set_option maxRecDepth 20000 in
theorem gX2_charactersIn_X6_isWithin_n41 : GoodIn wsX2_charactersIn (wsX6_isWithin) := ggX2_charactersIn_X6_isWithin
theorem dX2_charactersIn_0 : decode cX2_charactersIn 0 = .ok (.iconst 0, 1) := by decide +kernel
theorem dX2_charactersIn_1 : decode cX2_charactersIn 1 = .ok (.istore_n 2, 1) := by decide +kernel
theorem dX2_charactersIn_2 : decode cX2_charactersIn 2 = .ok (.iload_n 2, 1) := by decide +kernel
theorem dX2_charactersIn_3 : decode cX2_charactersIn 3 = .ok (.bipush 8, 2) := by decide +kernel
theorem dX2_charactersIn_5 : decode cX2_charactersIn 5 = .ok (.if_icmp .ge 49, 3) := by decide +kernel
theorem dX2_charactersIn_8 : decode cX2_charactersIn 8 = .ok (.lload_n 0, 1) := by decide +kernel
theorem dX2_charactersIn_9 : decode cX2_charactersIn 9 = .ok (.iload_n 2, 1) := by decide +kernel
theorem dX2_charactersIn_10 : decode cX2_charactersIn 10 = .ok (.invokestatic 35, 3) := by decide +kernel
theorem dX2_charactersIn_13 : decode cX2_charactersIn 13 = .ok (.istore_n 3, 1) := by decide +kernel
theorem dX2_charactersIn_14 : decode cX2_charactersIn 14 = .ok (.iload_n 3, 1) := by decide +kernel
theorem dX2_charactersIn_15 : decode cX2_charactersIn 15 = .ok (.ifCond .ne 20, 3) := by decide +kernel
theorem dX2_charactersIn_18 : decode cX2_charactersIn 18 = .ok (.lload_n 0, 1) := by decide +kernel
theorem dX2_charactersIn_19 : decode cX2_charactersIn 19 = .ok (.bipush 8, 2) := by decide +kernel
theorem dX2_charactersIn_21 : decode cX2_charactersIn 21 = .ok (.iload_n 2, 1) := by decide +kernel
theorem dX2_charactersIn_22 : decode cX2_charactersIn 22 = .ok (.imul, 1) := by decide +kernel
theorem dX2_charactersIn_23 : decode cX2_charactersIn 23 = .ok (.lushr, 1) := by decide +kernel
theorem dX2_charactersIn_24 : decode cX2_charactersIn 24 = .ok (.lconst 0, 1) := by decide +kernel
theorem dX2_charactersIn_25 : decode cX2_charactersIn 25 = .ok (.lcmp, 1) := by decide +kernel
theorem dX2_charactersIn_26 : decode cX2_charactersIn 26 = .ok (.ifCond .ne 7, 3) := by decide +kernel
theorem dX2_charactersIn_29 : decode cX2_charactersIn 29 = .ok (.iload_n 2, 1) := by decide +kernel
theorem dX2_charactersIn_30 : decode cX2_charactersIn 30 = .ok (.goto 4, 3) := by decide +kernel
theorem dX2_charactersIn_33 : decode cX2_charactersIn 33 = .ok (.iconst 0, 1) := by decide +kernel
theorem dX2_charactersIn_34 : decode cX2_charactersIn 34 = .ok (.ireturn, 1) := by decide +kernel
theorem dX2_charactersIn_35 : decode cX2_charactersIn 35 = .ok (.iload_n 3, 1) := by decide +kernel
theorem dX2_charactersIn_36 : decode cX2_charactersIn 36 = .ok (.bipush 33, 2) := by decide +kernel
theorem dX2_charactersIn_38 : decode cX2_charactersIn 38 = .ok (.bipush 126, 2) := by decide +kernel
theorem dX2_charactersIn_40 : decode cX2_charactersIn 40 = .ok (.invokestatic 41, 3) := by decide +kernel
theorem dX2_charactersIn_43 : decode cX2_charactersIn 43 = .ok (.ifCond .ne 5, 3) := by decide +kernel
theorem dX2_charactersIn_46 : decode cX2_charactersIn 46 = .ok (.iconst 0, 1) := by decide +kernel
theorem dX2_charactersIn_47 : decode cX2_charactersIn 47 = .ok (.ireturn, 1) := by decide +kernel
theorem dX2_charactersIn_48 : decode cX2_charactersIn 48 = .ok (.iinc 2 1, 3) := by decide +kernel
theorem dX2_charactersIn_51 : decode cX2_charactersIn 51 = .ok (.goto (-49), 3) := by decide +kernel
theorem dX2_charactersIn_54 : decode cX2_charactersIn 54 = .ok (.bipush 8, 2) := by decide +kernel
theorem dX2_charactersIn_56 : decode cX2_charactersIn 56 = .ok (.ireturn, 1) := by decide +kernel
set_option maxRecDepth 20000 in
theorem ggX2_findFault_X2_rewind : GoodIn wsX2_findFault wsX2_rewind := goodIn_r _ [7, 1, 52, 53, 54, 55, 56, 57, 58] (by decide +kernel) (by decide +kernel)
set_option maxRecDepth 20000 in
theorem gX2_findFault_X2_rewind : GoodIn wsX2_findFault (wsV RX2 45 RX2 yX2_rewind wsX2_rewind) := goodIn_app (goodIn_of _ (by decide +kernel)) ggX2_findFault_X2_rewind
set_option maxRecDepth 20000 in
theorem ggX2_findFault_X2_readOrder : GoodIn wsX2_findFault wsX2_readOrder := goodIn_r _ [11, 12, 13, 14, 15, 16, 17, 18, 6, 19, 1, 2, 20, 21, 22, 23, 24, 25, 26, 27, 28, 29, 30, 31, 32, 33, 34, 35, 36, 37, 38, 39, 40, 41, 42, 43, 44, 45, 46, 47, 48, 49, 50, 51, 52, 53, 54, 55, 56, 57, 58] (by decide +kernel) (by decide +kernel)
set_option maxRecDepth 20000 in
theorem gX2_findFault_X2_readOrder : GoodIn wsX2_findFault (wsV RX2 48 RX2 yX2_readOrder wsX2_readOrder) := goodIn_app (goodIn_of _ (by decide +kernel)) ggX2_findFault_X2_readOrder
set_option maxRecDepth 20000 in
theorem ggX2_findFault_X2_skip : GoodIn wsX2_findFault wsX2_skip := goodIn_r _ [24, 1, 16, 17, 18, 6, 19, 2, 20, 52, 53, 54, 55, 56, 57, 58] (by decide +kernel) (by decide +kernel)
set_option maxRecDepth 20000 in
theorem gX2_findFault_X2_skip : GoodIn wsX2_findFault (wsV RX2 55 RX2 yX2_skip wsX2_skip) := goodIn_app (goodIn_of _ (by decide +kernel)) ggX2_findFault_X2_skip
theorem dX2_findFault_0 : decode cX2_findFault 0 = .ok (.aload_n 0, 1) := by decide +kernel
theorem dX2_findFault_1 : decode cX2_findFault 1 = .ok (.invokevirtual 45, 3) := by decide +kernel
theorem dX2_findFault_4 : decode cX2_findFault 4 = .ok (.iconst 0, 1) := by decide +kernel
theorem dX2_findFault_5 : decode cX2_findFault 5 = .ok (.istore_n 1, 1) := by decide +kernel
theorem dX2_findFault_6 : decode cX2_findFault 6 = .ok (.iload_n 1, 1) := by decide +kernel
theorem dX2_findFault_7 : decode cX2_findFault 7 = .ok (.bipush 80, 2) := by decide +kernel
theorem dX2_findFault_9 : decode cX2_findFault 9 = .ok (.if_icmp .ge 44, 3) := by decide +kernel
theorem dX2_findFault_12 : decode cX2_findFault 12 = .ok (.aload_n 0, 1) := by decide +kernel
theorem dX2_findFault_13 : decode cX2_findFault 13 = .ok (.invokevirtual 48, 3) := by decide +kernel
theorem dX2_findFault_16 : decode cX2_findFault 16 = .ok (.ifCond .eq 37, 3) := by decide +kernel
theorem dX2_findFault_19 : decode cX2_findFault 19 = .ok (.aload_n 0, 1) := by decide +kernel
theorem dX2_findFault_20 : decode cX2_findFault 20 = .ok (.getfield 52, 3) := by decide +kernel
theorem dX2_findFault_23 : decode cX2_findFault 23 = .ok (.aload_n 0, 1) := by decide +kernel
theorem dX2_findFault_24 : decode cX2_findFault 24 = .ok (.getfield 15, 3) := by decide +kernel
theorem dX2_findFault_27 : decode cX2_findFault 27 = .ok (.if_icmp .ne 6, 3) := by decide +kernel
theorem dX2_findFault_30 : decode cX2_findFault 30 = .ok (.bipush (-6), 2) := by decide +kernel
theorem dX2_findFault_32 : decode cX2_findFault 32 = .ok (.ireturn, 1) := by decide +kernel
theorem dX2_findFault_33 : decode cX2_findFault 33 = .ok (.aload_n 0, 1) := by decide +kernel
theorem dX2_findFault_34 : decode cX2_findFault 34 = .ok (.bipush 59, 2) := by decide +kernel
theorem dX2_findFault_36 : decode cX2_findFault 36 = .ok (.invokevirtual 55, 3) := by decide +kernel
theorem dX2_findFault_39 : decode cX2_findFault 39 = .ok (.ifCond .ne 8, 3) := by decide +kernel
theorem dX2_findFault_42 : decode cX2_findFault 42 = .ok (.aload_n 0, 1) := by decide +kernel
theorem dX2_findFault_43 : decode cX2_findFault 43 = .ok (.getfield 52, 3) := by decide +kernel
theorem dX2_findFault_46 : decode cX2_findFault 46 = .ok (.ireturn, 1) := by decide +kernel
theorem dX2_findFault_47 : decode cX2_findFault 47 = .ok (.iinc 1 1, 3) := by decide +kernel
theorem dX2_findFault_50 : decode cX2_findFault 50 = .ok (.goto (-44), 3) := by decide +kernel
theorem dX2_findFault_53 : decode cX2_findFault 53 = .ok (.aload_n 0, 1) := by decide +kernel
theorem dX2_findFault_54 : decode cX2_findFault 54 = .ok (.getfield 52, 3) := by decide +kernel
theorem dX2_findFault_57 : decode cX2_findFault 57 = .ok (.ireturn, 1) := by decide +kernel
theorem dX2_rewind_0 : decode cX2_rewind 0 = .ok (.aload_n 0, 1) := by decide +kernel
theorem dX2_rewind_1 : decode cX2_rewind 1 = .ok (.iconst 0, 1) := by decide +kernel
theorem dX2_rewind_2 : decode cX2_rewind 2 = .ok (.putfield 52, 3) := by decide +kernel
theorem dX2_rewind_5 : decode cX2_rewind 5 = .ok (.return_, 1) := by decide +kernel
theorem dX2_nextCode_0 : decode cX2_nextCode 0 = .ok (.aload_n 0, 1) := by decide +kernel
theorem dX2_nextCode_1 : decode cX2_nextCode 1 = .ok (.getfield 52, 3) := by decide +kernel
theorem dX2_nextCode_4 : decode cX2_nextCode 4 = .ok (.ifCond .lt 38, 3) := by decide +kernel
theorem dX2_nextCode_7 : decode cX2_nextCode 7 = .ok (.aload_n 0, 1) := by decide +kernel
theorem dX2_nextCode_8 : decode cX2_nextCode 8 = .ok (.getfield 52, 3) := by decide +kernel
theorem dX2_nextCode_11 : decode cX2_nextCode 11 = .ok (.aload_n 0, 1) := by decide +kernel
theorem dX2_nextCode_12 : decode cX2_nextCode 12 = .ok (.getfield 15, 3) := by decide +kernel
theorem dX2_nextCode_15 : decode cX2_nextCode 15 = .ok (.if_icmp .ge 27, 3) := by decide +kernel
theorem dX2_nextCode_18 : decode cX2_nextCode 18 = .ok (.aload_n 0, 1) := by decide +kernel
theorem dX2_nextCode_19 : decode cX2_nextCode 19 = .ok (.getfield 52, 3) := by decide +kernel
theorem dX2_nextCode_22 : decode cX2_nextCode 22 = .ok (.aload_n 0, 1) := by decide +kernel
theorem dX2_nextCode_23 : decode cX2_nextCode 23 = .ok (.getfield 9, 3) := by decide +kernel
theorem dX2_nextCode_26 : decode cX2_nextCode 26 = .ok (.arraylength, 1) := by decide +kernel
theorem dX2_nextCode_27 : decode cX2_nextCode 27 = .ok (.if_icmp .ge 15, 3) := by decide +kernel
theorem dX2_nextCode_30 : decode cX2_nextCode 30 = .ok (.aload_n 0, 1) := by decide +kernel
theorem dX2_nextCode_31 : decode cX2_nextCode 31 = .ok (.getfield 9, 3) := by decide +kernel
theorem dX2_nextCode_34 : decode cX2_nextCode 34 = .ok (.aload_n 0, 1) := by decide +kernel
theorem dX2_nextCode_35 : decode cX2_nextCode 35 = .ok (.getfield 52, 3) := by decide +kernel
theorem dX2_nextCode_38 : decode cX2_nextCode 38 = .ok (.iaload, 1) := by decide +kernel
theorem dX2_nextCode_39 : decode cX2_nextCode 39 = .ok (.goto 4, 3) := by decide +kernel
theorem dX2_nextCode_42 : decode cX2_nextCode 42 = .ok (.iconst 0, 1) := by decide +kernel
theorem dX2_nextCode_43 : decode cX2_nextCode 43 = .ok (.ireturn, 1) := by decide +kernel
set_option maxRecDepth 20000 in
theorem ggX2_skip_X2_nextCode : GoodIn wsX2_skip wsX2_nextCode := goodIn_r _ [6, 1, 7, 8, 9, 10, 11, 12, 13, 14, 15] (by decide +kernel) (by decide +kernel)
set_option maxRecDepth 20000 in
theorem gX2_skip_X2_nextCode : GoodIn wsX2_skip (wsV RX2 59 RX2 yX2_nextCode wsX2_nextCode) := goodIn_app (goodIn_of _ (by decide +kernel)) ggX2_skip_X2_nextCode
theorem dX2_skip_0 : decode cX2_skip 0 = .ok (.aload_n 0, 1) := by decide +kernel
theorem dX2_skip_1 : decode cX2_skip 1 = .ok (.invokevirtual 59, 3) := by decide +kernel
theorem dX2_skip_4 : decode cX2_skip 4 = .ok (.iload_n 1, 1) := by decide +kernel
theorem dX2_skip_5 : decode cX2_skip 5 = .ok (.if_icmp .eq 5, 3) := by decide +kernel
theorem dX2_skip_8 : decode cX2_skip 8 = .ok (.iconst 0, 1) := by decide +kernel
theorem dX2_skip_9 : decode cX2_skip 9 = .ok (.ireturn, 1) := by decide +kernel
theorem dX2_skip_10 : decode cX2_skip 10 = .ok (.aload_n 0, 1) := by decide +kernel
theorem dX2_skip_11 : decode cX2_skip 11 = .ok (.dup, 1) := by decide +kernel
theorem dX2_skip_12 : decode cX2_skip 12 = .ok (.getfield 52, 3) := by decide +kernel
theorem dX2_skip_15 : decode cX2_skip 15 = .ok (.iconst 1, 1) := by decide +kernel
theorem dX2_skip_16 : decode cX2_skip 16 = .ok (.iadd, 1) := by decide +kernel
theorem dX2_skip_17 : decode cX2_skip 17 = .ok (.putfield 52, 3) := by decide +kernel
theorem dX2_skip_20 : decode cX2_skip 20 = .ok (.iconst 1, 1) := by decide +kernel
theorem dX2_skip_21 : decode cX2_skip 21 = .ok (.ireturn, 1) := by decide +kernel
set_option maxRecDepth 20000 in
theorem ggX2_readOrder_X2_nextCode : GoodIn wsX2_readOrder wsX2_nextCode := goodIn_r _ [9, 10, 11, 12, 44, 45, 46, 47, 48, 49, 50] (by decide +kernel) (by decide +kernel)
set_option maxRecDepth 20000 in
theorem gX2_readOrder_X2_nextCode : GoodIn wsX2_readOrder (wsV RX2 59 RX2 yX2_nextCode wsX2_nextCode) := goodIn_app (goodIn_of _ (by decide +kernel)) ggX2_readOrder_X2_nextCode
set_option maxRecDepth 20000 in
theorem ggX2_readOrder_X2_skip : GoodIn wsX2_readOrder wsX2_skip := goodIn_r _ [16, 10, 5, 6, 7, 8, 9, 11, 12, 44, 45, 46, 47, 48, 49, 50] (by decide +kernel) (by decide +kernel)
set_option maxRecDepth 20000 in
theorem gX2_readOrder_X2_skip : GoodIn wsX2_readOrder (wsV RX2 55 RX2 yX2_skip wsX2_skip) := goodIn_app (goodIn_of _ (by decide +kernel)) ggX2_readOrder_X2_skip
set_option maxRecDepth 20000 in
theorem ggX2_readOrder_X2_readBooking : GoodIn wsX2_readOrder wsX2_readBooking := goodIn_r _ [20, 2, 3, 4, 21, 22, 23, 8, 24, 10, 5, 6, 7, 9, 11, 12, 25, 26, 27, 13, 14, 15, 16, 28, 29, 30, 31, 44, 45, 46, 47, 48, 49, 50] (by decide +kernel) (by decide +kernel)
set_option maxRecDepth 20000 in
theorem gX2_readOrder_X2_readBooking : GoodIn wsX2_readOrder (wsV RX2 63 RX2 yX2_readBooking wsX2_readBooking) := goodIn_app (goodIn_of _ (by decide +kernel)) ggX2_readOrder_X2_readBooking
set_option maxRecDepth 20000 in
theorem ggX2_readOrder_X2_readThrow : GoodIn wsX2_readOrder wsX2_readThrow := goodIn_r _ [35, 2, 3, 21, 22, 23, 8, 24, 10, 5, 6, 7, 9, 11, 12, 25, 26, 27, 13, 14, 15, 16, 44, 45, 46, 47, 48, 49, 50] (by decide +kernel) (by decide +kernel)
set_option maxRecDepth 20000 in
theorem gX2_readOrder_X2_readThrow : GoodIn wsX2_readOrder (wsV RX2 66 RX2 yX2_readThrow wsX2_readThrow) := goodIn_app (goodIn_of _ (by decide +kernel)) ggX2_readOrder_X2_readThrow
set_option maxRecDepth 20000 in
theorem ggX2_readOrder_X2_readOneNumber : GoodIn wsX2_readOrder wsX2_readOneNumber := goodIn_r _ [39, 2, 28, 29, 30, 8, 31, 21, 22, 23, 24, 10, 5, 6, 7, 9, 11, 12, 25, 26, 27, 44, 45, 46, 47, 48, 49, 50] (by decide +kernel) (by decide +kernel)
set_option maxRecDepth 20000 in
theorem gX2_readOrder_X2_readOneNumber : GoodIn wsX2_readOrder (wsV RX2 69 RX2 yX2_readOneNumber wsX2_readOneNumber) := goodIn_app (goodIn_of _ (by decide +kernel)) ggX2_readOrder_X2_readOneNumber
set_option maxRecDepth 20000 in
theorem ggX2_readOrder_X2_readGlazing : GoodIn wsX2_readOrder wsX2_readGlazing := goodIn_r _ [43, 2, 3, 28, 29, 30, 8, 31, 21, 22, 23, 24, 10, 5, 6, 7, 9, 11, 12, 25, 26, 27, 13, 14, 15, 16, 44, 45, 46, 47, 48, 49, 50] (by decide +kernel) (by decide +kernel)
set_option maxRecDepth 20000 in
theorem gX2_readOrder_X2_readGlazing : GoodIn wsX2_readOrder (wsV RX2 72 RX2 yX2_readGlazing wsX2_readGlazing) := goodIn_app (goodIn_of _ (by decide +kernel)) ggX2_readOrder_X2_readGlazing
theorem dX2_readOrder_0 : decode cX2_readOrder 0 = .ok (.aload_n 0, 1) := by decide +kernel
theorem dX2_readOrder_1 : decode cX2_readOrder 1 = .ok (.aload_n 0, 1) := by decide +kernel
theorem dX2_readOrder_2 : decode cX2_readOrder 2 = .ok (.invokevirtual 59, 3) := by decide +kernel
theorem dX2_readOrder_5 : decode cX2_readOrder 5 = .ok (.putfield 19, 3) := by decide +kernel
theorem dX2_readOrder_8 : decode cX2_readOrder 8 = .ok (.aload_n 0, 1) := by decide +kernel
theorem dX2_readOrder_9 : decode cX2_readOrder 9 = .ok (.iconst 0, 1) := by decide +kernel
theorem dX2_readOrder_10 : decode cX2_readOrder 10 = .ok (.putfield 22, 3) := by decide +kernel
theorem dX2_readOrder_13 : decode cX2_readOrder 13 = .ok (.aload_n 0, 1) := by decide +kernel
theorem dX2_readOrder_14 : decode cX2_readOrder 14 = .ok (.iconst 0, 1) := by decide +kernel
theorem dX2_readOrder_15 : decode cX2_readOrder 15 = .ok (.putfield 25, 3) := by decide +kernel
theorem dX2_readOrder_18 : decode cX2_readOrder 18 = .ok (.aload_n 0, 1) := by decide +kernel
theorem dX2_readOrder_19 : decode cX2_readOrder 19 = .ok (.iconst 0, 1) := by decide +kernel
theorem dX2_readOrder_20 : decode cX2_readOrder 20 = .ok (.putfield 28, 3) := by decide +kernel
theorem dX2_readOrder_23 : decode cX2_readOrder 23 = .ok (.aload_n 0, 1) := by decide +kernel
theorem dX2_readOrder_24 : decode cX2_readOrder 24 = .ok (.getfield 19, 3) := by decide +kernel
theorem dX2_readOrder_27 : decode cX2_readOrder 27 = .ok (.tableswitch 250 98 116 #[96, 250, 250, 250, 162, 184, 228, 250, 250, 250, 140, 250, 206, 250, 89, 250, 250, 250, 118], 89) := by decide +kernel
theorem dX2_readOrder_116 : decode cX2_readOrder 116 = .ok (.aload_n 0, 1) := by decide +kernel
theorem dX2_readOrder_117 : decode cX2_readOrder 117 = .ok (.bipush 112, 2) := by decide +kernel
theorem dX2_readOrder_119 : decode cX2_readOrder 119 = .ok (.invokevirtual 55, 3) := by decide +kernel
theorem dX2_readOrder_122 : decode cX2_readOrder 122 = .ok (.ireturn, 1) := by decide +kernel
theorem dX2_readOrder_123 : decode cX2_readOrder 123 = .ok (.aload_n 0, 1) := by decide +kernel
theorem dX2_readOrder_124 : decode cX2_readOrder 124 = .ok (.bipush 98, 2) := by decide +kernel
theorem dX2_readOrder_126 : decode cX2_readOrder 126 = .ok (.invokevirtual 55, 3) := by decide +kernel
theorem dX2_readOrder_129 : decode cX2_readOrder 129 = .ok (.ifCond .eq 14, 3) := by decide +kernel
theorem dX2_readOrder_132 : decode cX2_readOrder 132 = .ok (.aload_n 0, 1) := by decide +kernel
theorem dX2_readOrder_133 : decode cX2_readOrder 133 = .ok (.invokevirtual 63, 3) := by decide +kernel
theorem dX2_readOrder_136 : decode cX2_readOrder 136 = .ok (.ifCond .eq 7, 3) := by decide +kernel
theorem dX2_readOrder_139 : decode cX2_readOrder 139 = .ok (.iconst 1, 1) := by decide +kernel
theorem dX2_readOrder_140 : decode cX2_readOrder 140 = .ok (.goto 4, 3) := by decide +kernel
theorem dX2_readOrder_143 : decode cX2_readOrder 143 = .ok (.iconst 0, 1) := by decide +kernel
theorem dX2_readOrder_144 : decode cX2_readOrder 144 = .ok (.ireturn, 1) := by decide +kernel
theorem dX2_readOrder_145 : decode cX2_readOrder 145 = .ok (.aload_n 0, 1) := by decide +kernel
theorem dX2_readOrder_146 : decode cX2_readOrder 146 = .ok (.bipush 116, 2) := by decide +kernel
theorem dX2_readOrder_148 : decode cX2_readOrder 148 = .ok (.invokevirtual 55, 3) := by decide +kernel
theorem dX2_readOrder_151 : decode cX2_readOrder 151 = .ok (.ifCond .eq 14, 3) := by decide +kernel
theorem dX2_readOrder_154 : decode cX2_readOrder 154 = .ok (.aload_n 0, 1) := by decide +kernel
theorem dX2_readOrder_155 : decode cX2_readOrder 155 = .ok (.invokevirtual 66, 3) := by decide +kernel
theorem dX2_readOrder_158 : decode cX2_readOrder 158 = .ok (.ifCond .eq 7, 3) := by decide +kernel
theorem dX2_readOrder_161 : decode cX2_readOrder 161 = .ok (.iconst 1, 1) := by decide +kernel
theorem dX2_readOrder_162 : decode cX2_readOrder 162 = .ok (.goto 4, 3) := by decide +kernel
theorem dX2_readOrder_165 : decode cX2_readOrder 165 = .ok (.iconst 0, 1) := by decide +kernel
theorem dX2_readOrder_166 : decode cX2_readOrder 166 = .ok (.ireturn, 1) := by decide +kernel
theorem dX2_readOrder_167 : decode cX2_readOrder 167 = .ok (.aload_n 0, 1) := by decide +kernel
theorem dX2_readOrder_168 : decode cX2_readOrder 168 = .ok (.bipush 108, 2) := by decide +kernel
theorem dX2_readOrder_170 : decode cX2_readOrder 170 = .ok (.invokevirtual 55, 3) := by decide +kernel
theorem dX2_readOrder_173 : decode cX2_readOrder 173 = .ok (.ifCond .eq 14, 3) := by decide +kernel
theorem dX2_readOrder_176 : decode cX2_readOrder 176 = .ok (.aload_n 0, 1) := by decide +kernel
theorem dX2_readOrder_177 : decode cX2_readOrder 177 = .ok (.invokevirtual 69, 3) := by decide +kernel
theorem dX2_readOrder_180 : decode cX2_readOrder 180 = .ok (.ifCond .eq 7, 3) := by decide +kernel
theorem dX2_readOrder_183 : decode cX2_readOrder 183 = .ok (.iconst 1, 1) := by decide +kernel
theorem dX2_readOrder_184 : decode cX2_readOrder 184 = .ok (.goto 4, 3) := by decide +kernel
theorem dX2_readOrder_187 : decode cX2_readOrder 187 = .ok (.iconst 0, 1) := by decide +kernel
theorem dX2_readOrder_188 : decode cX2_readOrder 188 = .ok (.ireturn, 1) := by decide +kernel
theorem dX2_readOrder_189 : decode cX2_readOrder 189 = .ok (.aload_n 0, 1) := by decide +kernel
theorem dX2_readOrder_190 : decode cX2_readOrder 190 = .ok (.bipush 102, 2) := by decide +kernel
theorem dX2_readOrder_192 : decode cX2_readOrder 192 = .ok (.invokevirtual 55, 3) := by decide +kernel
theorem dX2_readOrder_195 : decode cX2_readOrder 195 = .ok (.ifCond .eq 14, 3) := by decide +kernel
theorem dX2_readOrder_198 : decode cX2_readOrder 198 = .ok (.aload_n 0, 1) := by decide +kernel
theorem dX2_readOrder_199 : decode cX2_readOrder 199 = .ok (.invokevirtual 69, 3) := by decide +kernel
theorem dX2_readOrder_202 : decode cX2_readOrder 202 = .ok (.ifCond .eq 7, 3) := by decide +kernel
theorem dX2_readOrder_205 : decode cX2_readOrder 205 = .ok (.iconst 1, 1) := by decide +kernel
theorem dX2_readOrder_206 : decode cX2_readOrder 206 = .ok (.goto 4, 3) := by decide +kernel
theorem dX2_readOrder_209 : decode cX2_readOrder 209 = .ok (.iconst 0, 1) := by decide +kernel
theorem dX2_readOrder_210 : decode cX2_readOrder 210 = .ok (.ireturn, 1) := by decide +kernel
theorem dX2_readOrder_211 : decode cX2_readOrder 211 = .ok (.aload_n 0, 1) := by decide +kernel
theorem dX2_readOrder_212 : decode cX2_readOrder 212 = .ok (.bipush 103, 2) := by decide +kernel
theorem dX2_readOrder_214 : decode cX2_readOrder 214 = .ok (.invokevirtual 55, 3) := by decide +kernel
theorem dX2_readOrder_217 : decode cX2_readOrder 217 = .ok (.ifCond .eq 14, 3) := by decide +kernel
theorem dX2_readOrder_220 : decode cX2_readOrder 220 = .ok (.aload_n 0, 1) := by decide +kernel
theorem dX2_readOrder_221 : decode cX2_readOrder 221 = .ok (.invokevirtual 72, 3) := by decide +kernel
theorem dX2_readOrder_224 : decode cX2_readOrder 224 = .ok (.ifCond .eq 7, 3) := by decide +kernel
theorem dX2_readOrder_227 : decode cX2_readOrder 227 = .ok (.iconst 1, 1) := by decide +kernel
theorem dX2_readOrder_228 : decode cX2_readOrder 228 = .ok (.goto 4, 3) := by decide +kernel
theorem dX2_readOrder_231 : decode cX2_readOrder 231 = .ok (.iconst 0, 1) := by decide +kernel
theorem dX2_readOrder_232 : decode cX2_readOrder 232 = .ok (.ireturn, 1) := by decide +kernel
theorem dX2_readOrder_233 : decode cX2_readOrder 233 = .ok (.aload_n 0, 1) := by decide +kernel
theorem dX2_readOrder_234 : decode cX2_readOrder 234 = .ok (.bipush 110, 2) := by decide +kernel
theorem dX2_readOrder_236 : decode cX2_readOrder 236 = .ok (.invokevirtual 55, 3) := by decide +kernel
theorem dX2_readOrder_239 : decode cX2_readOrder 239 = .ok (.ifCond .eq 14, 3) := by decide +kernel
theorem dX2_readOrder_242 : decode cX2_readOrder 242 = .ok (.aload_n 0, 1) := by decide +kernel
theorem dX2_readOrder_243 : decode cX2_readOrder 243 = .ok (.invokevirtual 69, 3) := by decide +kernel
theorem dX2_readOrder_246 : decode cX2_readOrder 246 = .ok (.ifCond .eq 7, 3) := by decide +kernel
theorem dX2_readOrder_249 : decode cX2_readOrder 249 = .ok (.iconst 1, 1) := by decide +kernel
theorem dX2_readOrder_250 : decode cX2_readOrder 250 = .ok (.goto 4, 3) := by decide +kernel
theorem dX2_readOrder_253 : decode cX2_readOrder 253 = .ok (.iconst 0, 1) := by decide +kernel
theorem dX2_readOrder_254 : decode cX2_readOrder 254 = .ok (.ireturn, 1) := by decide +kernel
theorem dX2_readOrder_255 : decode cX2_readOrder 255 = .ok (.aload_n 0, 1) := by decide +kernel
theorem dX2_readOrder_256 : decode cX2_readOrder 256 = .ok (.bipush 104, 2) := by decide +kernel
theorem dX2_readOrder_258 : decode cX2_readOrder 258 = .ok (.invokevirtual 55, 3) := by decide +kernel
theorem dX2_readOrder_261 : decode cX2_readOrder 261 = .ok (.ifCond .eq 14, 3) := by decide +kernel
theorem dX2_readOrder_264 : decode cX2_readOrder 264 = .ok (.aload_n 0, 1) := by decide +kernel
theorem dX2_readOrder_265 : decode cX2_readOrder 265 = .ok (.invokevirtual 69, 3) := by decide +kernel
theorem dX2_readOrder_268 : decode cX2_readOrder 268 = .ok (.ifCond .eq 7, 3) := by decide +kernel
theorem dX2_readOrder_271 : decode cX2_readOrder 271 = .ok (.iconst 1, 1) := by decide +kernel
theorem dX2_readOrder_272 : decode cX2_readOrder 272 = .ok (.goto 4, 3) := by decide +kernel
theorem dX2_readOrder_275 : decode cX2_readOrder 275 = .ok (.iconst 0, 1) := by decide +kernel
theorem dX2_readOrder_276 : decode cX2_readOrder 276 = .ok (.ireturn, 1) := by decide +kernel
theorem dX2_readOrder_277 : decode cX2_readOrder 277 = .ok (.iconst 0, 1) := by decide +kernel
theorem dX2_readOrder_278 : decode cX2_readOrder 278 = .ok (.ireturn, 1) := by decide +kernel
set_option maxRecDepth 20000 in
theorem ggX2_readBooking_X2_readDigit : GoodIn wsX2_readBooking wsX2_readDigit := goodIn_r _ [8, 9, 10, 11, 12, 7, 13, 14, 15, 16, 17, 18, 27, 28, 29, 30, 31, 32, 33] (by decide +kernel) (by decide +kernel)
set_option maxRecDepth 20000 in
theorem gX2_readBooking_X2_readDigit : GoodIn wsX2_readBooking (wsV RX2 75 RX2 yX2_readDigit wsX2_readDigit) := goodIn_app (goodIn_of _ (by decide +kernel)) ggX2_readBooking_X2_readDigit
set_option maxRecDepth 20000 in
theorem ggX2_readBooking_X2_skip : GoodIn wsX2_readBooking wsX2_skip := goodIn_r _ [22, 9, 10, 11, 12, 7, 13, 14, 15, 27, 28, 29, 30, 31, 32, 33] (by decide +kernel) (by decide +kernel)
set_option maxRecDepth 20000 in
theorem gX2_readBooking_X2_skip : GoodIn wsX2_readBooking (wsV RX2 55 RX2 yX2_skip wsX2_skip) := goodIn_app (goodIn_of _ (by decide +kernel)) ggX2_readBooking_X2_skip
set_option maxRecDepth 20000 in
theorem ggX2_readBooking_X2_readNumber : GoodIn wsX2_readBooking wsX2_readNumber := goodIn_r _ [26, 4, 5, 6, 7, 8, 9, 10, 11, 12, 13, 14, 15, 16, 17, 18, 27, 28, 29, 30, 31, 32, 33] (by decide +kernel) (by decide +kernel)
set_option maxRecDepth 20000 in
theorem gX2_readBooking_X2_readNumber : GoodIn wsX2_readBooking (wsV RX2 78 RX2 yX2_readNumber wsX2_readNumber) := goodIn_app (goodIn_of _ (by decide +kernel)) ggX2_readBooking_X2_readNumber
theorem dX2_readBooking_0 : decode cX2_readBooking 0 = .ok (.aload_n 0, 1) := by decide +kernel
theorem dX2_readBooking_1 : decode cX2_readBooking 1 = .ok (.aload_n 0, 1) := by decide +kernel
theorem dX2_readBooking_2 : decode cX2_readBooking 2 = .ok (.invokevirtual 75, 3) := by decide +kernel
theorem dX2_readBooking_5 : decode cX2_readBooking 5 = .ok (.putfield 22, 3) := by decide +kernel
theorem dX2_readBooking_8 : decode cX2_readBooking 8 = .ok (.aload_n 0, 1) := by decide +kernel
theorem dX2_readBooking_9 : decode cX2_readBooking 9 = .ok (.getfield 22, 3) := by decide +kernel
theorem dX2_readBooking_12 : decode cX2_readBooking 12 = .ok (.ifCond .ge 5, 3) := by decide +kernel
theorem dX2_readBooking_15 : decode cX2_readBooking 15 = .ok (.iconst 0, 1) := by decide +kernel
theorem dX2_readBooking_16 : decode cX2_readBooking 16 = .ok (.ireturn, 1) := by decide +kernel
theorem dX2_readBooking_17 : decode cX2_readBooking 17 = .ok (.aload_n 0, 1) := by decide +kernel
theorem dX2_readBooking_18 : decode cX2_readBooking 18 = .ok (.aload_n 0, 1) := by decide +kernel
theorem dX2_readBooking_19 : decode cX2_readBooking 19 = .ok (.invokevirtual 75, 3) := by decide +kernel
theorem dX2_readBooking_22 : decode cX2_readBooking 22 = .ok (.putfield 25, 3) := by decide +kernel
theorem dX2_readBooking_25 : decode cX2_readBooking 25 = .ok (.aload_n 0, 1) := by decide +kernel
theorem dX2_readBooking_26 : decode cX2_readBooking 26 = .ok (.getfield 25, 3) := by decide +kernel
theorem dX2_readBooking_29 : decode cX2_readBooking 29 = .ok (.ifCond .ge 5, 3) := by decide +kernel
theorem dX2_readBooking_32 : decode cX2_readBooking 32 = .ok (.iconst 0, 1) := by decide +kernel
theorem dX2_readBooking_33 : decode cX2_readBooking 33 = .ok (.ireturn, 1) := by decide +kernel
theorem dX2_readBooking_34 : decode cX2_readBooking 34 = .ok (.aload_n 0, 1) := by decide +kernel
theorem dX2_readBooking_35 : decode cX2_readBooking 35 = .ok (.bipush 43, 2) := by decide +kernel
theorem dX2_readBooking_37 : decode cX2_readBooking 37 = .ok (.invokevirtual 55, 3) := by decide +kernel
theorem dX2_readBooking_40 : decode cX2_readBooking 40 = .ok (.ifCond .eq 11, 3) := by decide +kernel
theorem dX2_readBooking_43 : decode cX2_readBooking 43 = .ok (.aload_n 0, 1) := by decide +kernel
theorem dX2_readBooking_44 : decode cX2_readBooking 44 = .ok (.aload_n 0, 1) := by decide +kernel
theorem dX2_readBooking_45 : decode cX2_readBooking 45 = .ok (.invokevirtual 78, 3) := by decide +kernel
theorem dX2_readBooking_48 : decode cX2_readBooking 48 = .ok (.putfield 28, 3) := by decide +kernel
theorem dX2_readBooking_51 : decode cX2_readBooking 51 = .ok (.aload_n 0, 1) := by decide +kernel
theorem dX2_readBooking_52 : decode cX2_readBooking 52 = .ok (.getfield 28, 3) := by decide +kernel
theorem dX2_readBooking_55 : decode cX2_readBooking 55 = .ok (.ifCond .lt 7, 3) := by decide +kernel
theorem dX2_readBooking_58 : decode cX2_readBooking 58 = .ok (.iconst 1, 1) := by decide +kernel
theorem dX2_readBooking_59 : decode cX2_readBooking 59 = .ok (.goto 4, 3) := by decide +kernel
theorem dX2_readBooking_62 : decode cX2_readBooking 62 = .ok (.iconst 0, 1) := by decide +kernel
theorem dX2_readBooking_63 : decode cX2_readBooking 63 = .ok (.ireturn, 1) := by decide +kernel
set_option maxRecDepth 20000 in
theorem ggX2_readThrow_X2_readDigit : GoodIn wsX2_readThrow wsX2_readDigit := goodIn_r _ [7, 8, 9, 10, 11, 6, 12, 13, 14, 15, 16, 17, 22, 23, 24, 25, 26, 27, 28] (by decide +kernel) (by decide +kernel)
set_option maxRecDepth 20000 in
theorem gX2_readThrow_X2_readDigit : GoodIn wsX2_readThrow (wsV RX2 75 RX2 yX2_readDigit wsX2_readDigit) := goodIn_app (goodIn_of _ (by decide +kernel)) ggX2_readThrow_X2_readDigit
set_option maxRecDepth 20000 in
theorem ggX2_readThrow_X2_skip : GoodIn wsX2_readThrow wsX2_skip := goodIn_r _ [21, 8, 9, 10, 11, 6, 12, 13, 14, 22, 23, 24, 25, 26, 27, 28] (by decide +kernel) (by decide +kernel)
set_option maxRecDepth 20000 in
theorem gX2_readThrow_X2_skip : GoodIn wsX2_readThrow (wsV RX2 55 RX2 yX2_skip wsX2_skip) := goodIn_app (goodIn_of _ (by decide +kernel)) ggX2_readThrow_X2_skip
theorem dX2_readThrow_0 : decode cX2_readThrow 0 = .ok (.aload_n 0, 1) := by decide +kernel
theorem dX2_readThrow_1 : decode cX2_readThrow 1 = .ok (.aload_n 0, 1) := by decide +kernel
theorem dX2_readThrow_2 : decode cX2_readThrow 2 = .ok (.invokevirtual 75, 3) := by decide +kernel
theorem dX2_readThrow_5 : decode cX2_readThrow 5 = .ok (.putfield 22, 3) := by decide +kernel
theorem dX2_readThrow_8 : decode cX2_readThrow 8 = .ok (.aload_n 0, 1) := by decide +kernel
theorem dX2_readThrow_9 : decode cX2_readThrow 9 = .ok (.getfield 22, 3) := by decide +kernel
theorem dX2_readThrow_12 : decode cX2_readThrow 12 = .ok (.ifCond .lt 12, 3) := by decide +kernel
theorem dX2_readThrow_15 : decode cX2_readThrow 15 = .ok (.aload_n 0, 1) := by decide +kernel
theorem dX2_readThrow_16 : decode cX2_readThrow 16 = .ok (.bipush 42, 2) := by decide +kernel
theorem dX2_readThrow_18 : decode cX2_readThrow 18 = .ok (.invokevirtual 55, 3) := by decide +kernel
theorem dX2_readThrow_21 : decode cX2_readThrow 21 = .ok (.ifCond .ne 5, 3) := by decide +kernel
theorem dX2_readThrow_24 : decode cX2_readThrow 24 = .ok (.iconst 0, 1) := by decide +kernel
theorem dX2_readThrow_25 : decode cX2_readThrow 25 = .ok (.ireturn, 1) := by decide +kernel
theorem dX2_readThrow_26 : decode cX2_readThrow 26 = .ok (.aload_n 0, 1) := by decide +kernel
theorem dX2_readThrow_27 : decode cX2_readThrow 27 = .ok (.aload_n 0, 1) := by decide +kernel
theorem dX2_readThrow_28 : decode cX2_readThrow 28 = .ok (.invokevirtual 75, 3) := by decide +kernel
theorem dX2_readThrow_31 : decode cX2_readThrow 31 = .ok (.putfield 25, 3) := by decide +kernel
theorem dX2_readThrow_34 : decode cX2_readThrow 34 = .ok (.aload_n 0, 1) := by decide +kernel
theorem dX2_readThrow_35 : decode cX2_readThrow 35 = .ok (.getfield 25, 3) := by decide +kernel
theorem dX2_readThrow_38 : decode cX2_readThrow 38 = .ok (.ifCond .lt 7, 3) := by decide +kernel
theorem dX2_readThrow_41 : decode cX2_readThrow 41 = .ok (.iconst 1, 1) := by decide +kernel
theorem dX2_readThrow_42 : decode cX2_readThrow 42 = .ok (.goto 4, 3) := by decide +kernel
theorem dX2_readThrow_45 : decode cX2_readThrow 45 = .ok (.iconst 0, 1) := by decide +kernel
theorem dX2_readThrow_46 : decode cX2_readThrow 46 = .ok (.ireturn, 1) := by decide +kernel
set_option maxRecDepth 20000 in
theorem ggX2_readGlazing_X2_readNumber : GoodIn wsX2_readGlazing wsX2_readNumber := goodIn_r _ [7, 8, 9, 10, 6, 11, 12, 13, 14, 15, 16, 17, 18, 19, 20, 21, 26, 27, 28, 29, 30, 31, 32] (by decide +kernel) (by decide +kernel)
set_option maxRecDepth 20000 in
theorem gX2_readGlazing_X2_readNumber : GoodIn wsX2_readGlazing (wsV RX2 78 RX2 yX2_readNumber wsX2_readNumber) := goodIn_app (goodIn_of _ (by decide +kernel)) ggX2_readGlazing_X2_readNumber
set_option maxRecDepth 20000 in
theorem ggX2_readGlazing_X2_skip : GoodIn wsX2_readGlazing wsX2_skip := goodIn_r _ [25, 12, 13, 14, 15, 6, 16, 17, 18, 26, 27, 28, 29, 30, 31, 32] (by decide +kernel) (by decide +kernel)
set_option maxRecDepth 20000 in
theorem gX2_readGlazing_X2_skip : GoodIn wsX2_readGlazing (wsV RX2 55 RX2 yX2_skip wsX2_skip) := goodIn_app (goodIn_of _ (by decide +kernel)) ggX2_readGlazing_X2_skip
set_option maxRecDepth 20000 in
theorem ggX2_readGlazing_X2_readDigit : GoodIn wsX2_readGlazing wsX2_readDigit := goodIn_r _ [11, 12, 13, 14, 15, 6, 16, 17, 18, 19, 20, 21, 26, 27, 28, 29, 30, 31, 32] (by decide +kernel) (by decide +kernel)
set_option maxRecDepth 20000 in
theorem gX2_readGlazing_X2_readDigit : GoodIn wsX2_readGlazing (wsV RX2 75 RX2 yX2_readDigit wsX2_readDigit) := goodIn_app (goodIn_of _ (by decide +kernel)) ggX2_readGlazing_X2_readDigit
theorem dX2_readGlazing_0 : decode cX2_readGlazing 0 = .ok (.aload_n 0, 1) := by decide +kernel
theorem dX2_readGlazing_1 : decode cX2_readGlazing 1 = .ok (.aload_n 0, 1) := by decide +kernel
theorem dX2_readGlazing_2 : decode cX2_readGlazing 2 = .ok (.invokevirtual 78, 3) := by decide +kernel
theorem dX2_readGlazing_5 : decode cX2_readGlazing 5 = .ok (.putfield 22, 3) := by decide +kernel
theorem dX2_readGlazing_8 : decode cX2_readGlazing 8 = .ok (.aload_n 0, 1) := by decide +kernel
theorem dX2_readGlazing_9 : decode cX2_readGlazing 9 = .ok (.getfield 22, 3) := by decide +kernel
theorem dX2_readGlazing_12 : decode cX2_readGlazing 12 = .ok (.ifCond .lt 12, 3) := by decide +kernel
theorem dX2_readGlazing_15 : decode cX2_readGlazing 15 = .ok (.aload_n 0, 1) := by decide +kernel
theorem dX2_readGlazing_16 : decode cX2_readGlazing 16 = .ok (.bipush 46, 2) := by decide +kernel
theorem dX2_readGlazing_18 : decode cX2_readGlazing 18 = .ok (.invokevirtual 55, 3) := by decide +kernel
theorem dX2_readGlazing_21 : decode cX2_readGlazing 21 = .ok (.ifCond .ne 5, 3) := by decide +kernel
theorem dX2_readGlazing_24 : decode cX2_readGlazing 24 = .ok (.iconst 0, 1) := by decide +kernel
theorem dX2_readGlazing_25 : decode cX2_readGlazing 25 = .ok (.ireturn, 1) := by decide +kernel
theorem dX2_readGlazing_26 : decode cX2_readGlazing 26 = .ok (.aload_n 0, 1) := by decide +kernel
theorem dX2_readGlazing_27 : decode cX2_readGlazing 27 = .ok (.aload_n 0, 1) := by decide +kernel
theorem dX2_readGlazing_28 : decode cX2_readGlazing 28 = .ok (.invokevirtual 75, 3) := by decide +kernel
theorem dX2_readGlazing_31 : decode cX2_readGlazing 31 = .ok (.putfield 25, 3) := by decide +kernel
theorem dX2_readGlazing_34 : decode cX2_readGlazing 34 = .ok (.aload_n 0, 1) := by decide +kernel
theorem dX2_readGlazing_35 : decode cX2_readGlazing 35 = .ok (.getfield 25, 3) := by decide +kernel
theorem dX2_readGlazing_38 : decode cX2_readGlazing 38 = .ok (.ifCond .lt 7, 3) := by decide +kernel
theorem dX2_readGlazing_41 : decode cX2_readGlazing 41 = .ok (.iconst 1, 1) := by decide +kernel
theorem dX2_readGlazing_42 : decode cX2_readGlazing 42 = .ok (.goto 4, 3) := by decide +kernel
theorem dX2_readGlazing_45 : decode cX2_readGlazing 45 = .ok (.iconst 0, 1) := by decide +kernel
theorem dX2_readGlazing_46 : decode cX2_readGlazing 46 = .ok (.ireturn, 1) := by decide +kernel
set_option maxRecDepth 20000 in
theorem ggX2_readOneNumber_X2_readNumber : GoodIn wsX2_readOneNumber wsX2_readNumber := goodIn_r _ [6, 7, 8, 9, 5, 10, 11, 12, 13, 14, 15, 16, 17, 18, 19, 20, 21, 22, 23, 24, 25, 26, 27] (by decide +kernel) (by decide +kernel)
set_option maxRecDepth 20000 in
theorem gX2_readOneNumber_X2_readNumber : GoodIn wsX2_readOneNumber (wsV RX2 78 RX2 yX2_readNumber wsX2_readNumber) := goodIn_app (goodIn_of _ (by decide +kernel)) ggX2_readOneNumber_X2_readNumber
theorem dX2_readOneNumber_0 : decode cX2_readOneNumber 0 = .ok (.aload_n 0, 1) := by decide +kernel
theorem dX2_readOneNumber_1 : decode cX2_readOneNumber 1 = .ok (.aload_n 0, 1) := by decide +kernel
theorem dX2_readOneNumber_2 : decode cX2_readOneNumber 2 = .ok (.invokevirtual 78, 3) := by decide +kernel
theorem dX2_readOneNumber_5 : decode cX2_readOneNumber 5 = .ok (.putfield 22, 3) := by decide +kernel
theorem dX2_readOneNumber_8 : decode cX2_readOneNumber 8 = .ok (.aload_n 0, 1) := by decide +kernel
theorem dX2_readOneNumber_9 : decode cX2_readOneNumber 9 = .ok (.getfield 22, 3) := by decide +kernel
theorem dX2_readOneNumber_12 : decode cX2_readOneNumber 12 = .ok (.ifCond .lt 7, 3) := by decide +kernel
theorem dX2_readOneNumber_15 : decode cX2_readOneNumber 15 = .ok (.iconst 1, 1) := by decide +kernel
theorem dX2_readOneNumber_16 : decode cX2_readOneNumber 16 = .ok (.goto 4, 3) := by decide +kernel
theorem dX2_readOneNumber_19 : decode cX2_readOneNumber 19 = .ok (.iconst 0, 1) := by decide +kernel
theorem dX2_readOneNumber_20 : decode cX2_readOneNumber 20 = .ok (.ireturn, 1) := by decide +kernel
set_option maxRecDepth 20000 in
theorem ggX2_readDigit_X2_nextCode : GoodIn wsX2_readDigit wsX2_nextCode := goodIn_r _ [6, 1, 7, 8, 12, 13, 14, 15, 16, 17, 18] (by decide +kernel) (by decide +kernel)
set_option maxRecDepth 20000 in
theorem gX2_readDigit_X2_nextCode : GoodIn wsX2_readDigit (wsV RX2 59 RX2 yX2_nextCode wsX2_nextCode) := goodIn_app (goodIn_of _ (by decide +kernel)) ggX2_readDigit_X2_nextCode
set_option maxRecDepth 20000 in
theorem ggX2_readDigit_X6_isWithin : GoodIn wsX2_readDigit wsX6_isWithin := goodIn_r _ [11] (by decide +kernel) (by decide +kernel)
set_option maxRecDepth 20000 in
theorem gX2_readDigit_X6_isWithin_n41 : GoodIn wsX2_readDigit (wsX6_isWithin) := ggX2_readDigit_X6_isWithin
theorem dX2_readDigit_0 : decode cX2_readDigit 0 = .ok (.aload_n 0, 1) := by decide +kernel
theorem dX2_readDigit_1 : decode cX2_readDigit 1 = .ok (.invokevirtual 59, 3) := by decide +kernel
theorem dX2_readDigit_4 : decode cX2_readDigit 4 = .ok (.istore_n 1, 1) := by decide +kernel
theorem dX2_readDigit_5 : decode cX2_readDigit 5 = .ok (.iload_n 1, 1) := by decide +kernel
theorem dX2_readDigit_6 : decode cX2_readDigit 6 = .ok (.bipush 48, 2) := by decide +kernel
theorem dX2_readDigit_8 : decode cX2_readDigit 8 = .ok (.bipush 57, 2) := by decide +kernel
theorem dX2_readDigit_10 : decode cX2_readDigit 10 = .ok (.invokestatic 41, 3) := by decide +kernel
theorem dX2_readDigit_13 : decode cX2_readDigit 13 = .ok (.ifCond .ne 5, 3) := by decide +kernel
theorem dX2_readDigit_16 : decode cX2_readDigit 16 = .ok (.iconst (-1), 1) := by decide +kernel
theorem dX2_readDigit_17 : decode cX2_readDigit 17 = .ok (.ireturn, 1) := by decide +kernel
theorem dX2_readDigit_18 : decode cX2_readDigit 18 = .ok (.aload_n 0, 1) := by decide +kernel
theorem dX2_readDigit_19 : decode cX2_readDigit 19 = .ok (.dup, 1) := by decide +kernel
theorem dX2_readDigit_20 : decode cX2_readDigit 20 = .ok (.getfield 52, 3) := by decide +kernel
theorem dX2_readDigit_23 : decode cX2_readDigit 23 = .ok (.iconst 1, 1) := by decide +kernel
theorem dX2_readDigit_24 : decode cX2_readDigit 24 = .ok (.iadd, 1) := by decide +kernel
theorem dX2_readDigit_25 : decode cX2_readDigit 25 = .ok (.putfield 52, 3) := by decide +kernel
theorem dX2_readDigit_28 : decode cX2_readDigit 28 = .ok (.iload_n 1, 1) := by decide +kernel
theorem dX2_readDigit_29 : decode cX2_readDigit 29 = .ok (.bipush 48, 2) := by decide +kernel
theorem dX2_readDigit_31 : decode cX2_readDigit 31 = .ok (.isub, 1) := by decide +kernel
theorem dX2_readDigit_32 : decode cX2_readDigit 32 = .ok (.ireturn, 1) := by decide +kernel
set_option maxRecDepth 20000 in
theorem ggX2_readNumber_X2_readDigit : GoodIn wsX2_readNumber wsX2_readDigit := goodIn_r _ [5, 6, 7, 8, 9, 4, 10, 11, 12, 13, 14, 15, 16, 17, 18, 19, 20, 21, 22] (by decide +kernel) (by decide +kernel)
set_option maxRecDepth 20000 in
theorem gX2_readNumber_X2_readDigit : GoodIn wsX2_readNumber (wsV RX2 75 RX2 yX2_readDigit wsX2_readDigit) := goodIn_app (goodIn_of _ (by decide +kernel)) ggX2_readNumber_X2_readDigit
theorem dX2_readNumber_0 : decode cX2_readNumber 0 = .ok (.aload_n 0, 1) := by decide +kernel
theorem dX2_readNumber_1 : decode cX2_readNumber 1 = .ok (.invokevirtual 75, 3) := by decide +kernel
theorem dX2_readNumber_4 : decode cX2_readNumber 4 = .ok (.istore_n 1, 1) := by decide +kernel
theorem dX2_readNumber_5 : decode cX2_readNumber 5 = .ok (.iconst 1, 1) := by decide +kernel
theorem dX2_readNumber_6 : decode cX2_readNumber 6 = .ok (.istore_n 2, 1) := by decide +kernel
theorem dX2_readNumber_7 : decode cX2_readNumber 7 = .ok (.iload_n 2, 1) := by decide +kernel
theorem dX2_readNumber_8 : decode cX2_readNumber 8 = .ok (.iconst 3, 1) := by decide +kernel
theorem dX2_readNumber_9 : decode cX2_readNumber 9 = .ok (.if_icmp .ge 31, 3) := by decide +kernel
theorem dX2_readNumber_12 : decode cX2_readNumber 12 = .ok (.iload_n 1, 1) := by decide +kernel
theorem dX2_readNumber_13 : decode cX2_readNumber 13 = .ok (.ifCond .le 27, 3) := by decide +kernel
theorem dX2_readNumber_16 : decode cX2_readNumber 16 = .ok (.aload_n 0, 1) := by decide +kernel
theorem dX2_readNumber_17 : decode cX2_readNumber 17 = .ok (.invokevirtual 75, 3) := by decide +kernel
theorem dX2_readNumber_20 : decode cX2_readNumber 20 = .ok (.istore_n 3, 1) := by decide +kernel
theorem dX2_readNumber_21 : decode cX2_readNumber 21 = .ok (.iload_n 3, 1) := by decide +kernel
theorem dX2_readNumber_22 : decode cX2_readNumber 22 = .ok (.ifCond .ge 5, 3) := by decide +kernel
theorem dX2_readNumber_25 : decode cX2_readNumber 25 = .ok (.iload_n 1, 1) := by decide +kernel
theorem dX2_readNumber_26 : decode cX2_readNumber 26 = .ok (.ireturn, 1) := by decide +kernel
theorem dX2_readNumber_27 : decode cX2_readNumber 27 = .ok (.bipush 10, 2) := by decide +kernel
theorem dX2_readNumber_29 : decode cX2_readNumber 29 = .ok (.iload_n 1, 1) := by decide +kernel
theorem dX2_readNumber_30 : decode cX2_readNumber 30 = .ok (.imul, 1) := by decide +kernel
theorem dX2_readNumber_31 : decode cX2_readNumber 31 = .ok (.iload_n 3, 1) := by decide +kernel
theorem dX2_readNumber_32 : decode cX2_readNumber 32 = .ok (.iadd, 1) := by decide +kernel
theorem dX2_readNumber_33 : decode cX2_readNumber 33 = .ok (.istore_n 1, 1) := by decide +kernel
theorem dX2_readNumber_34 : decode cX2_readNumber 34 = .ok (.iinc 2 1, 3) := by decide +kernel
theorem dX2_readNumber_37 : decode cX2_readNumber 37 = .ok (.goto (-30), 3) := by decide +kernel
theorem dX2_readNumber_40 : decode cX2_readNumber 40 = .ok (.iload_n 1, 1) := by decide +kernel
theorem dX2_readNumber_41 : decode cX2_readNumber 41 = .ok (.ireturn, 1) := by decide +kernel
set_option maxRecDepth 20000 in
theorem ggX3_init_X4_init : GoodIn wsX3_init wsX4_init := goodIn_r _ [17, 18, 2, 3, 19, 20, 21, 22, 23, 24, 25] (by decide +kernel) (by decide +kernel)
set_option maxRecDepth 20000 in
theorem gX3_init_X4_init : GoodIn wsX3_init (wsX4_init) := ggX3_init_X4_init
theorem dX3_init_0 : decode cX3_init 0 = .ok (.aload_n 0, 1) := by decide +kernel
theorem dX3_init_1 : decode cX3_init 1 = .ok (.invokespecial 3, 3) := by decide +kernel
theorem dX3_init_4 : decode cX3_init 4 = .ok (.aload_n 0, 1) := by decide +kernel
theorem dX3_init_5 : decode cX3_init 5 = .ok (.new 9, 3) := by decide +kernel
theorem dX3_init_8 : decode cX3_init 8 = .ok (.dup, 1) := by decide +kernel
theorem dX3_init_9 : decode cX3_init 9 = .ok (.bipush 20, 2) := by decide +kernel
theorem dX3_init_11 : decode cX3_init 11 = .ok (.invokespecial 11, 3) := by decide +kernel
theorem dX3_init_14 : decode cX3_init 14 = .ok (.putfield 14, 3) := by decide +kernel
theorem dX3_init_17 : decode cX3_init 17 = .ok (.aload_n 0, 1) := by decide +kernel
theorem dX3_init_18 : decode cX3_init 18 = .ok (.new 9, 3) := by decide +kernel
theorem dX3_init_21 : decode cX3_init 21 = .ok (.dup, 1) := by decide +kernel
theorem dX3_init_22 : decode cX3_init 22 = .ok (.bipush 20, 2) := by decide +kernel
theorem dX3_init_24 : decode cX3_init 24 = .ok (.invokespecial 11, 3) := by decide +kernel
theorem dX3_init_27 : decode cX3_init 27 = .ok (.putfield 20, 3) := by decide +kernel
theorem dX3_init_30 : decode cX3_init 30 = .ok (.aload_n 0, 1) := by decide +kernel
theorem dX3_init_31 : decode cX3_init 31 = .ok (.new 9, 3) := by decide +kernel
theorem dX3_init_34 : decode cX3_init 34 = .ok (.dup, 1) := by decide +kernel
theorem dX3_init_35 : decode cX3_init 35 = .ok (.bipush 20, 2) := by decide +kernel
theorem dX3_init_37 : decode cX3_init 37 = .ok (.invokespecial 11, 3) := by decide +kernel
theorem dX3_init_40 : decode cX3_init 40 = .ok (.putfield 23, 3) := by decide +kernel
theorem dX3_init_43 : decode cX3_init 43 = .ok (.aload_n 0, 1) := by decide +kernel
theorem dX3_init_44 : decode cX3_init 44 = .ok (.new 9, 3) := by decide +kernel
theorem dX3_init_47 : decode cX3_init 47 = .ok (.dup, 1) := by decide +kernel
theorem dX3_init_48 : decode cX3_init 48 = .ok (.bipush 20, 2) := by decide +kernel
theorem dX3_init_50 : decode cX3_init 50 = .ok (.invokespecial 11, 3) := by decide +kernel
theorem dX3_init_53 : decode cX3_init 53 = .ok (.putfield 26, 3) := by decide +kernel
theorem dX3_init_56 : decode cX3_init 56 = .ok (.aload_n 0, 1) := by decide +kernel
theorem dX3_init_57 : decode cX3_init 57 = .ok (.new 9, 3) := by decide +kernel
theorem dX3_init_60 : decode cX3_init 60 = .ok (.dup, 1) := by decide +kernel
theorem dX3_init_61 : decode cX3_init 61 = .ok (.bipush 20, 2) := by decide +kernel
theorem dX3_init_63 : decode cX3_init 63 = .ok (.invokespecial 11, 3) := by decide +kernel
theorem dX3_init_66 : decode cX3_init 66 = .ok (.putfield 29, 3) := by decide +kernel
theorem dX3_init_69 : decode cX3_init 69 = .ok (.aload_n 0, 1) := by decide +kernel
theorem dX3_init_70 : decode cX3_init 70 = .ok (.new 9, 3) := by decide +kernel
theorem dX3_init_73 : decode cX3_init 73 = .ok (.dup, 1) := by decide +kernel
theorem dX3_init_74 : decode cX3_init 74 = .ok (.bipush 20, 2) := by decide +kernel
theorem dX3_init_76 : decode cX3_init 76 = .ok (.invokespecial 11, 3) := by decide +kernel
theorem dX3_init_79 : decode cX3_init 79 = .ok (.putfield 32, 3) := by decide +kernel
theorem dX3_init_82 : decode cX3_init 82 = .ok (.aload_n 0, 1) := by decide +kernel
theorem dX3_init_83 : decode cX3_init 83 = .ok (.new 9, 3) := by decide +kernel
theorem dX3_init_86 : decode cX3_init 86 = .ok (.dup, 1) := by decide +kernel
theorem dX3_init_87 : decode cX3_init 87 = .ok (.bipush 20, 2) := by decide +kernel
theorem dX3_init_89 : decode cX3_init 89 = .ok (.invokespecial 11, 3) := by decide +kernel
theorem dX3_init_92 : decode cX3_init 92 = .ok (.putfield 35, 3) := by decide +kernel
theorem dX3_init_95 : decode cX3_init 95 = .ok (.aload_n 0, 1) := by decide +kernel
theorem dX3_init_96 : decode cX3_init 96 = .ok (.new 9, 3) := by decide +kernel
theorem dX3_init_99 : decode cX3_init 99 = .ok (.dup, 1) := by decide +kernel
theorem dX3_init_100 : decode cX3_init 100 = .ok (.bipush 20, 2) := by decide +kernel
theorem dX3_init_102 : decode cX3_init 102 = .ok (.invokespecial 11, 3) := by decide +kernel
theorem dX3_init_105 : decode cX3_init 105 = .ok (.putfield 38, 3) := by decide +kernel
theorem dX3_init_108 : decode cX3_init 108 = .ok (.return_, 1) := by decide +kernel
set_option maxRecDepth 20000 in
theorem ggX3_copyFrom_X4_copyFrom : GoodIn wsX3_copyFrom wsX4_copyFrom := goodIn_r _ [14, 15, 16, 17, 18, 19, 20, 21, 22, 23, 33] (by decide +kernel) (by decide +kernel)
set_option maxRecDepth 20000 in
theorem gX3_copyFrom_X4_copyFrom : GoodIn wsX3_copyFrom (wsV RX3 41 RX4 yX4_copyFrom wsX4_copyFrom) := goodIn_app (goodIn_of _ (by decide +kernel)) ggX3_copyFrom_X4_copyFrom
theorem dX3_copyFrom_0 : decode cX3_copyFrom 0 = .ok (.aload_n 1, 1) := by decide +kernel
theorem dX3_copyFrom_1 : decode cX3_copyFrom 1 = .ok (.ifnonnull 4, 3) := by decide +kernel
theorem dX3_copyFrom_4 : decode cX3_copyFrom 4 = .ok (.return_, 1) := by decide +kernel
theorem dX3_copyFrom_5 : decode cX3_copyFrom 5 = .ok (.aload_n 0, 1) := by decide +kernel
theorem dX3_copyFrom_6 : decode cX3_copyFrom 6 = .ok (.getfield 14, 3) := by decide +kernel
theorem dX3_copyFrom_9 : decode cX3_copyFrom 9 = .ok (.aload_n 1, 1) := by decide +kernel
theorem dX3_copyFrom_10 : decode cX3_copyFrom 10 = .ok (.getfield 14, 3) := by decide +kernel
theorem dX3_copyFrom_13 : decode cX3_copyFrom 13 = .ok (.invokevirtual 41, 3) := by decide +kernel
theorem dX3_copyFrom_16 : decode cX3_copyFrom 16 = .ok (.aload_n 0, 1) := by decide +kernel
theorem dX3_copyFrom_17 : decode cX3_copyFrom 17 = .ok (.getfield 20, 3) := by decide +kernel
theorem dX3_copyFrom_20 : decode cX3_copyFrom 20 = .ok (.aload_n 1, 1) := by decide +kernel
theorem dX3_copyFrom_21 : decode cX3_copyFrom 21 = .ok (.getfield 20, 3) := by decide +kernel
theorem dX3_copyFrom_24 : decode cX3_copyFrom 24 = .ok (.invokevirtual 41, 3) := by decide +kernel
theorem dX3_copyFrom_27 : decode cX3_copyFrom 27 = .ok (.aload_n 0, 1) := by decide +kernel
theorem dX3_copyFrom_28 : decode cX3_copyFrom 28 = .ok (.getfield 23, 3) := by decide +kernel
theorem dX3_copyFrom_31 : decode cX3_copyFrom 31 = .ok (.aload_n 1, 1) := by decide +kernel
theorem dX3_copyFrom_32 : decode cX3_copyFrom 32 = .ok (.getfield 23, 3) := by decide +kernel
theorem dX3_copyFrom_35 : decode cX3_copyFrom 35 = .ok (.invokevirtual 41, 3) := by decide +kernel
theorem dX3_copyFrom_38 : decode cX3_copyFrom 38 = .ok (.aload_n 0, 1) := by decide +kernel
theorem dX3_copyFrom_39 : decode cX3_copyFrom 39 = .ok (.getfield 26, 3) := by decide +kernel
theorem dX3_copyFrom_42 : decode cX3_copyFrom 42 = .ok (.aload_n 1, 1) := by decide +kernel
theorem dX3_copyFrom_43 : decode cX3_copyFrom 43 = .ok (.getfield 26, 3) := by decide +kernel
theorem dX3_copyFrom_46 : decode cX3_copyFrom 46 = .ok (.invokevirtual 41, 3) := by decide +kernel
theorem dX3_copyFrom_49 : decode cX3_copyFrom 49 = .ok (.aload_n 0, 1) := by decide +kernel
theorem dX3_copyFrom_50 : decode cX3_copyFrom 50 = .ok (.getfield 29, 3) := by decide +kernel
theorem dX3_copyFrom_53 : decode cX3_copyFrom 53 = .ok (.aload_n 1, 1) := by decide +kernel
theorem dX3_copyFrom_54 : decode cX3_copyFrom 54 = .ok (.getfield 29, 3) := by decide +kernel
theorem dX3_copyFrom_57 : decode cX3_copyFrom 57 = .ok (.invokevirtual 41, 3) := by decide +kernel
theorem dX3_copyFrom_60 : decode cX3_copyFrom 60 = .ok (.aload_n 0, 1) := by decide +kernel
theorem dX3_copyFrom_61 : decode cX3_copyFrom 61 = .ok (.getfield 32, 3) := by decide +kernel
theorem dX3_copyFrom_64 : decode cX3_copyFrom 64 = .ok (.aload_n 1, 1) := by decide +kernel
theorem dX3_copyFrom_65 : decode cX3_copyFrom 65 = .ok (.getfield 32, 3) := by decide +kernel
theorem dX3_copyFrom_68 : decode cX3_copyFrom 68 = .ok (.invokevirtual 41, 3) := by decide +kernel
theorem dX3_copyFrom_71 : decode cX3_copyFrom 71 = .ok (.aload_n 0, 1) := by decide +kernel
theorem dX3_copyFrom_72 : decode cX3_copyFrom 72 = .ok (.getfield 35, 3) := by decide +kernel
theorem dX3_copyFrom_75 : decode cX3_copyFrom 75 = .ok (.aload_n 1, 1) := by decide +kernel
theorem dX3_copyFrom_76 : decode cX3_copyFrom 76 = .ok (.getfield 35, 3) := by decide +kernel
theorem dX3_copyFrom_79 : decode cX3_copyFrom 79 = .ok (.invokevirtual 41, 3) := by decide +kernel
theorem dX3_copyFrom_82 : decode cX3_copyFrom 82 = .ok (.aload_n 0, 1) := by decide +kernel
theorem dX3_copyFrom_83 : decode cX3_copyFrom 83 = .ok (.getfield 38, 3) := by decide +kernel
theorem dX3_copyFrom_86 : decode cX3_copyFrom 86 = .ok (.aload_n 1, 1) := by decide +kernel
theorem dX3_copyFrom_87 : decode cX3_copyFrom 87 = .ok (.getfield 38, 3) := by decide +kernel
theorem dX3_copyFrom_90 : decode cX3_copyFrom 90 = .ok (.invokevirtual 41, 3) := by decide +kernel
theorem dX3_copyFrom_93 : decode cX3_copyFrom 93 = .ok (.aload_n 0, 1) := by decide +kernel
theorem dX3_copyFrom_94 : decode cX3_copyFrom 94 = .ok (.aload_n 1, 1) := by decide +kernel
theorem dX3_copyFrom_95 : decode cX3_copyFrom 95 = .ok (.getfield 45, 3) := by decide +kernel
theorem dX3_copyFrom_98 : decode cX3_copyFrom 98 = .ok (.putfield 45, 3) := by decide +kernel
theorem dX3_copyFrom_101 : decode cX3_copyFrom 101 = .ok (.return_, 1) := by decide +kernel
theorem dX3_has_0 : decode cX3_has 0 = .ok (.iload_n 1, 1) := by decide +kernel
theorem dX3_has_1 : decode cX3_has 1 = .ok (.ifCond .lt 15, 3) := by decide +kernel
theorem dX3_has_4 : decode cX3_has 4 = .ok (.iload_n 1, 1) := by decide +kernel
theorem dX3_has_5 : decode cX3_has 5 = .ok (.aload_n 0, 1) := by decide +kernel
theorem dX3_has_6 : decode cX3_has 6 = .ok (.getfield 45, 3) := by decide +kernel
theorem dX3_has_9 : decode cX3_has 9 = .ok (.if_icmp .ge 7, 3) := by decide +kernel
theorem dX3_has_12 : decode cX3_has 12 = .ok (.iconst 1, 1) := by decide +kernel
theorem dX3_has_13 : decode cX3_has 13 = .ok (.goto 4, 3) := by decide +kernel
theorem dX3_has_16 : decode cX3_has 16 = .ok (.iconst 0, 1) := by decide +kernel
theorem dX3_has_17 : decode cX3_has 17 = .ok (.ireturn, 1) := by decide +kernel
set_option maxRecDepth 20000 in
theorem ggX3_isKind_X4_at : GoodIn wsX3_isKind wsX4_at := goodIn_r _ [6, 7, 17] (by decide +kernel) (by decide +kernel)
set_option maxRecDepth 20000 in
theorem gX3_isKind_X4_at : GoodIn wsX3_isKind (wsV RX3 49 RX4 yX4_at wsX4_at) := goodIn_app (goodIn_of _ (by decide +kernel)) ggX3_isKind_X4_at
theorem dX3_isKind_0 : decode cX3_isKind 0 = .ok (.aload_n 0, 1) := by decide +kernel
theorem dX3_isKind_1 : decode cX3_isKind 1 = .ok (.getfield 26, 3) := by decide +kernel
theorem dX3_isKind_4 : decode cX3_isKind 4 = .ok (.iload_n 1, 1) := by decide +kernel
theorem dX3_isKind_5 : decode cX3_isKind 5 = .ok (.invokevirtual 49, 3) := by decide +kernel
theorem dX3_isKind_8 : decode cX3_isKind 8 = .ok (.iload_n 2, 1) := by decide +kernel
theorem dX3_isKind_9 : decode cX3_isKind 9 = .ok (.if_icmp .ne 7, 3) := by decide +kernel
theorem dX3_isKind_12 : decode cX3_isKind 12 = .ok (.iconst 1, 1) := by decide +kernel
theorem dX3_isKind_13 : decode cX3_isKind 13 = .ok (.goto 4, 3) := by decide +kernel
theorem dX3_isKind_16 : decode cX3_isKind 16 = .ok (.iconst 0, 1) := by decide +kernel
theorem dX3_isKind_17 : decode cX3_isKind 17 = .ok (.ireturn, 1) := by decide +kernel
