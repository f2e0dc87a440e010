theorem dX5_init_72 : decode cX5_init 72 = .ok (.iconst 0, 1) := by decide +kernel
theorem dX5_init_73 : decode cX5_init 73 = .ok (.iconst 2, 1) := by decide +kernel
theorem dX5_init_74 : decode cX5_init 74 = .ok (.invokevirtual 44, 3) := by decide +kernel
theorem dX5_init_77 : decode cX5_init 77 = .ok (.aload_n 0, 1) := by decide +kernel
theorem dX5_init_78 : decode cX5_init 78 = .ok (.getfield 14, 3) := by decide +kernel
theorem dX5_init_81 : decode cX5_init 81 = .ok (.iconst 1, 1) := by decide +kernel
theorem dX5_init_82 : decode cX5_init 82 = .ok (.bipush 8, 2) := by decide +kernel
theorem dX5_init_84 : decode cX5_init 84 = .ok (.invokevirtual 44, 3) := by decide +kernel
theorem dX5_init_87 : decode cX5_init 87 = .ok (.aload_n 0, 1) := by decide +kernel
theorem dX5_init_88 : decode cX5_init 88 = .ok (.getfield 14, 3) := by decide +kernel
theorem dX5_init_91 : decode cX5_init 91 = .ok (.iconst 2, 1) := by decide +kernel
theorem dX5_init_92 : decode cX5_init 92 = .ok (.bipush 120, 2) := by decide +kernel
theorem dX5_init_94 : decode cX5_init 94 = .ok (.invokevirtual 44, 3) := by decide +kernel
theorem dX5_init_97 : decode cX5_init 97 = .ok (.aload_n 0, 1) := by decide +kernel
theorem dX5_init_98 : decode cX5_init 98 = .ok (.getfield 14, 3) := by decide +kernel
theorem dX5_init_101 : decode cX5_init 101 = .ok (.iconst 3, 1) := by decide +kernel
theorem dX5_init_102 : decode cX5_init 102 = .ok (.iconst 3, 1) := by decide +kernel
theorem dX5_init_103 : decode cX5_init 103 = .ok (.invokevirtual 44, 3) := by decide +kernel
theorem dX5_init_106 : decode cX5_init 106 = .ok (.iconst 0, 1) := by decide +kernel
theorem dX5_init_107 : decode cX5_init 107 = .ok (.istore_n 1, 1) := by decide +kernel
theorem dX5_init_108 : decode cX5_init 108 = .ok (.iload_n 1, 1) := by decide +kernel
theorem dX5_init_109 : decode cX5_init 109 = .ok (.iconst 4, 1) := by decide +kernel
theorem dX5_init_110 : decode cX5_init 110 = .ok (.if_icmp .ge 19, 3) := by decide +kernel
theorem dX5_init_113 : decode cX5_init 113 = .ok (.aload_n 0, 1) := by decide +kernel
theorem dX5_init_114 : decode cX5_init 114 = .ok (.getfield 34, 3) := by decide +kernel
theorem dX5_init_117 : decode cX5_init 117 = .ok (.iload_n 1, 1) := by decide +kernel
theorem dX5_init_118 : decode cX5_init 118 = .ok (.bipush 20, 2) := by decide +kernel
theorem dX5_init_120 : decode cX5_init 120 = .ok (.invokevirtual 44, 3) := by decide +kernel
theorem dX5_init_123 : decode cX5_init 123 = .ok (.iinc 1 1, 3) := by decide +kernel
theorem dX5_init_126 : decode cX5_init 126 = .ok (.goto (-18), 3) := by decide +kernel
theorem dX5_init_129 : decode cX5_init 129 = .ok (.return_, 1) := by decide +kernel
set_option maxRecDepth 20000 in
theorem ggX5_copyFrom_X4_copyFrom : GoodIn wsX5_copyFrom wsX4_copyFrom := goodIn_r _ [13, 14, 15, 16, 17, 18, 19, 20, 21, 22, 55] (by decide +kernel) (by decide +kernel)
set_option maxRecDepth 20000 in
theorem gX5_copyFrom_X4_copyFrom : GoodIn wsX5_copyFrom (wsV RX5 48 RX4 yX4_copyFrom wsX4_copyFrom) := goodIn_app (goodIn_of _ (by decide +kernel)) ggX5_copyFrom_X4_copyFrom
set_option maxRecDepth 20000 in
theorem ggX5_copyFrom_X0_copyFrom : GoodIn wsX5_copyFrom wsX0_copyFrom := goodIn_r _ [27, 28, 29, 30, 31, 10, 11, 12, 13, 14, 15, 16, 17, 18, 19, 20, 21, 22, 56, 57, 58, 55] (by decide +kernel) (by decide +kernel)
set_option maxRecDepth 20000 in
theorem gX5_copyFrom_X0_copyFrom : GoodIn wsX5_copyFrom (wsV RX5 52 RX0 yX0_copyFrom wsX0_copyFrom) := goodIn_app (goodIn_of _ (by decide +kernel)) ggX5_copyFrom_X0_copyFrom
set_option maxRecDepth 20000 in
theorem ggX5_copyFrom_X3_copyFrom : GoodIn wsX5_copyFrom wsX3_copyFrom := goodIn_r _ [36, 37, 38, 39, 40, 41, 42, 43, 44, 45, 46, 10, 11, 12, 13, 14, 15, 16, 17, 18, 19, 20, 21, 22, 59, 60, 61, 62, 63, 64, 65, 66, 67, 55] (by decide +kernel) (by decide +kernel)
set_option maxRecDepth 20000 in
theorem gX5_copyFrom_X3_copyFrom : GoodIn wsX5_copyFrom (wsV RX5 55 RX3 yX3_copyFrom wsX3_copyFrom) := goodIn_app (goodIn_of _ (by decide +kernel)) ggX5_copyFrom_X3_copyFrom
theorem dX5_copyFrom_0 : decode cX5_copyFrom 0 = .ok (.aload_n 1, 1) := by decide +kernel
theorem dX5_copyFrom_1 : decode cX5_copyFrom 1 = .ok (.ifnonnull 4, 3) := by decide +kernel
theorem dX5_copyFrom_4 : decode cX5_copyFrom 4 = .ok (.return_, 1) := by decide +kernel
theorem dX5_copyFrom_5 : decode cX5_copyFrom 5 = .ok (.aload_n 0, 1) := by decide +kernel
theorem dX5_copyFrom_6 : decode cX5_copyFrom 6 = .ok (.getfield 14, 3) := by decide +kernel
theorem dX5_copyFrom_9 : decode cX5_copyFrom 9 = .ok (.aload_n 1, 1) := by decide +kernel
theorem dX5_copyFrom_10 : decode cX5_copyFrom 10 = .ok (.getfield 14, 3) := by decide +kernel
theorem dX5_copyFrom_13 : decode cX5_copyFrom 13 = .ok (.invokevirtual 48, 3) := by decide +kernel
theorem dX5_copyFrom_16 : decode cX5_copyFrom 16 = .ok (.aload_n 0, 1) := by decide +kernel
theorem dX5_copyFrom_17 : decode cX5_copyFrom 17 = .ok (.getfield 23, 3) := by decide +kernel
theorem dX5_copyFrom_20 : decode cX5_copyFrom 20 = .ok (.aload_n 1, 1) := by decide +kernel
theorem dX5_copyFrom_21 : decode cX5_copyFrom 21 = .ok (.getfield 23, 3) := by decide +kernel
theorem dX5_copyFrom_24 : decode cX5_copyFrom 24 = .ok (.invokevirtual 52, 3) := by decide +kernel
theorem dX5_copyFrom_27 : decode cX5_copyFrom 27 = .ok (.aload_n 0, 1) := by decide +kernel
theorem dX5_copyFrom_28 : decode cX5_copyFrom 28 = .ok (.getfield 30, 3) := by decide +kernel
theorem dX5_copyFrom_31 : decode cX5_copyFrom 31 = .ok (.aload_n 1, 1) := by decide +kernel
theorem dX5_copyFrom_32 : decode cX5_copyFrom 32 = .ok (.getfield 30, 3) := by decide +kernel
theorem dX5_copyFrom_35 : decode cX5_copyFrom 35 = .ok (.invokevirtual 55, 3) := by decide +kernel
theorem dX5_copyFrom_38 : decode cX5_copyFrom 38 = .ok (.aload_n 0, 1) := by decide +kernel
theorem dX5_copyFrom_39 : decode cX5_copyFrom 39 = .ok (.getfield 34, 3) := by decide +kernel
theorem dX5_copyFrom_42 : decode cX5_copyFrom 42 = .ok (.aload_n 1, 1) := by decide +kernel
theorem dX5_copyFrom_43 : decode cX5_copyFrom 43 = .ok (.getfield 34, 3) := by decide +kernel
theorem dX5_copyFrom_46 : decode cX5_copyFrom 46 = .ok (.invokevirtual 48, 3) := by decide +kernel
theorem dX5_copyFrom_49 : decode cX5_copyFrom 49 = .ok (.aload_n 0, 1) := by decide +kernel
theorem dX5_copyFrom_50 : decode cX5_copyFrom 50 = .ok (.getfield 37, 3) := by decide +kernel
theorem dX5_copyFrom_53 : decode cX5_copyFrom 53 = .ok (.aload_n 1, 1) := by decide +kernel
theorem dX5_copyFrom_54 : decode cX5_copyFrom 54 = .ok (.getfield 37, 3) := by decide +kernel
theorem dX5_copyFrom_57 : decode cX5_copyFrom 57 = .ok (.invokevirtual 48, 3) := by decide +kernel
theorem dX5_copyFrom_60 : decode cX5_copyFrom 60 = .ok (.aload_n 0, 1) := by decide +kernel
theorem dX5_copyFrom_61 : decode cX5_copyFrom 61 = .ok (.aload_n 1, 1) := by decide +kernel
theorem dX5_copyFrom_62 : decode cX5_copyFrom 62 = .ok (.getfield 58, 3) := by decide +kernel
theorem dX5_copyFrom_65 : decode cX5_copyFrom 65 = .ok (.putfield 58, 3) := by decide +kernel
theorem dX5_copyFrom_68 : decode cX5_copyFrom 68 = .ok (.aload_n 0, 1) := by decide +kernel
theorem dX5_copyFrom_69 : decode cX5_copyFrom 69 = .ok (.aload_n 1, 1) := by decide +kernel
theorem dX5_copyFrom_70 : decode cX5_copyFrom 70 = .ok (.getfield 40, 3) := by decide +kernel
theorem dX5_copyFrom_73 : decode cX5_copyFrom 73 = .ok (.putfield 40, 3) := by decide +kernel
theorem dX5_copyFrom_76 : decode cX5_copyFrom 76 = .ok (.aload_n 0, 1) := by decide +kernel
theorem dX5_copyFrom_77 : decode cX5_copyFrom 77 = .ok (.aload_n 1, 1) := by decide +kernel
theorem dX5_copyFrom_78 : decode cX5_copyFrom 78 = .ok (.getfield 61, 3) := by decide +kernel
theorem dX5_copyFrom_81 : decode cX5_copyFrom 81 = .ok (.putfield 61, 3) := by decide +kernel
theorem dX5_copyFrom_84 : decode cX5_copyFrom 84 = .ok (.return_, 1) := by decide +kernel
theorem dX5_hasPupil_0 : decode cX5_hasPupil 0 = .ok (.iload_n 1, 1) := by decide +kernel
theorem dX5_hasPupil_1 : decode cX5_hasPupil 1 = .ok (.ifCond .lt 15, 3) := by decide +kernel
theorem dX5_hasPupil_4 : decode cX5_hasPupil 4 = .ok (.iload_n 1, 1) := by decide +kernel
theorem dX5_hasPupil_5 : decode cX5_hasPupil 5 = .ok (.aload_n 0, 1) := by decide +kernel
theorem dX5_hasPupil_6 : decode cX5_hasPupil 6 = .ok (.getfield 58, 3) := by decide +kernel
theorem dX5_hasPupil_9 : decode cX5_hasPupil 9 = .ok (.if_icmp .ge 7, 3) := by decide +kernel
theorem dX5_hasPupil_12 : decode cX5_hasPupil 12 = .ok (.iconst 1, 1) := by decide +kernel
theorem dX5_hasPupil_13 : decode cX5_hasPupil 13 = .ok (.goto 4, 3) := by decide +kernel
theorem dX5_hasPupil_16 : decode cX5_hasPupil 16 = .ok (.iconst 0, 1) := by decide +kernel
theorem dX5_hasPupil_17 : decode cX5_hasPupil 17 = .ok (.ireturn, 1) := by decide +kernel
set_option maxRecDepth 20000 in
theorem ggX5_isInRange_X6_isWithin : GoodIn wsX5_isInRange wsX6_isWithin := goodIn_r _ [3] (by decide +kernel) (by decide +kernel)
set_option maxRecDepth 20000 in
theorem gX5_isInRange_X6_isWithin_n67 : GoodIn wsX5_isInRange (wsX6_isWithin) := ggX5_isInRange_X6_isWithin
theorem dX5_isInRange_0 : decode cX5_isInRange 0 = .ok (.iload_n 0, 1) := by decide +kernel
theorem dX5_isInRange_1 : decode cX5_isInRange 1 = .ok (.tableswitch 65 0 3 #[31, 39, 47, 57], 31) := by decide +kernel
theorem dX5_isInRange_32 : decode cX5_isInRange 32 = .ok (.iload_n 1, 1) := by decide +kernel
theorem dX5_isInRange_33 : decode cX5_isInRange 33 = .ok (.iconst 1, 1) := by decide +kernel
theorem dX5_isInRange_34 : decode cX5_isInRange 34 = .ok (.bipush 9, 2) := by decide +kernel
theorem dX5_isInRange_36 : decode cX5_isInRange 36 = .ok (.invokestatic 67, 3) := by decide +kernel
theorem dX5_isInRange_39 : decode cX5_isInRange 39 = .ok (.ireturn, 1) := by decide +kernel
theorem dX5_isInRange_40 : decode cX5_isInRange 40 = .ok (.iload_n 1, 1) := by decide +kernel
theorem dX5_isInRange_41 : decode cX5_isInRange 41 = .ok (.iconst 3, 1) := by decide +kernel
theorem dX5_isInRange_42 : decode cX5_isInRange 42 = .ok (.bipush 24, 2) := by decide +kernel
theorem dX5_isInRange_44 : decode cX5_isInRange 44 = .ok (.invokestatic 67, 3) := by decide +kernel
theorem dX5_isInRange_47 : decode cX5_isInRange 47 = .ok (.ireturn, 1) := by decide +kernel
theorem dX5_isInRange_48 : decode cX5_isInRange 48 = .ok (.iload_n 1, 1) := by decide +kernel
theorem dX5_isInRange_49 : decode cX5_isInRange 49 = .ok (.bipush 100, 2) := by decide +kernel
theorem dX5_isInRange_51 : decode cX5_isInRange 51 = .ok (.sipush 140, 3) := by decide +kernel
theorem dX5_isInRange_54 : decode cX5_isInRange 54 = .ok (.invokestatic 67, 3) := by decide +kernel
theorem dX5_isInRange_57 : decode cX5_isInRange 57 = .ok (.ireturn, 1) := by decide +kernel
theorem dX5_isInRange_58 : decode cX5_isInRange 58 = .ok (.iload_n 1, 1) := by decide +kernel
theorem dX5_isInRange_59 : decode cX5_isInRange 59 = .ok (.iconst 0, 1) := by decide +kernel
theorem dX5_isInRange_60 : decode cX5_isInRange 60 = .ok (.bipush 20, 2) := by decide +kernel
theorem dX5_isInRange_62 : decode cX5_isInRange 62 = .ok (.invokestatic 67, 3) := by decide +kernel
theorem dX5_isInRange_65 : decode cX5_isInRange 65 = .ok (.ireturn, 1) := by decide +kernel
theorem dX5_isInRange_66 : decode cX5_isInRange 66 = .ok (.iconst 0, 1) := by decide +kernel
theorem dX5_isInRange_67 : decode cX5_isInRange 67 = .ok (.ireturn, 1) := by decide +kernel
set_option maxRecDepth 20000 in
theorem ggX5_changeSetting_X5_isInRange : GoodIn wsX5_changeSetting wsX5_isInRange := goodIn_r _ [5, 6, 7, 8] (by decide +kernel) (by decide +kernel)
set_option maxRecDepth 20000 in
theorem gX5_changeSetting_X5_isInRange : GoodIn wsX5_changeSetting (va_wsS RX5 71 yX5_isInRange wsX5_isInRange) := goodIn_app (goodIn_of _ (by decide +kernel)) ggX5_changeSetting_X5_isInRange
set_option maxRecDepth 20000 in
theorem ggX5_changeSetting_X4_at : GoodIn wsX5_changeSetting wsX4_at := goodIn_r _ [13, 14, 27] (by decide +kernel) (by decide +kernel)
set_option maxRecDepth 20000 in
theorem gX5_changeSetting_X4_at : GoodIn wsX5_changeSetting (wsV RX5 75 RX4 yX4_at wsX4_at) := goodIn_app (goodIn_of _ (by decide +kernel)) ggX5_changeSetting_X4_at
set_option maxRecDepth 20000 in
theorem ggX5_changeSetting_X4_write : GoodIn wsX5_changeSetting wsX4_write := goodIn_r _ [18, 14, 27] (by decide +kernel) (by decide +kernel)
set_option maxRecDepth 20000 in
theorem gX5_changeSetting_X4_write : GoodIn wsX5_changeSetting (wsV RX5 44 RX4 yX4_write wsX4_write) := goodIn_app (goodIn_of _ (by decide +kernel)) ggX5_changeSetting_X4_write
theorem dX5_changeSetting_0 : decode cX5_changeSetting 0 = .ok (.iload_n 1, 1) := by decide +kernel
theorem dX5_changeSetting_1 : decode cX5_changeSetting 1 = .ok (.iload_n 2, 1) := by decide +kernel
theorem dX5_changeSetting_2 : decode cX5_changeSetting 2 = .ok (.invokestatic 71, 3) := by decide +kernel
theorem dX5_changeSetting_5 : decode cX5_changeSetting 5 = .ok (.ifCond .ne 6, 3) := by decide +kernel
theorem dX5_changeSetting_8 : decode cX5_changeSetting 8 = .ok (.bipush (-2), 2) := by decide +kernel
theorem dX5_changeSetting_10 : decode cX5_changeSetting 10 = .ok (.ireturn, 1) := by decide +kernel
theorem dX5_changeSetting_11 : decode cX5_changeSetting 11 = .ok (.aload_n 0, 1) := by decide +kernel
theorem dX5_changeSetting_12 : decode cX5_changeSetting 12 = .ok (.getfield 14, 3) := by decide +kernel
theorem dX5_changeSetting_15 : decode cX5_changeSetting 15 = .ok (.iload_n 1, 1) := by decide +kernel
theorem dX5_changeSetting_16 : decode cX5_changeSetting 16 = .ok (.invokevirtual 75, 3) := by decide +kernel
theorem dX5_changeSetting_19 : decode cX5_changeSetting 19 = .ok (.istore_n 3, 1) := by decide +kernel
theorem dX5_changeSetting_20 : decode cX5_changeSetting 20 = .ok (.aload_n 0, 1) := by decide +kernel
theorem dX5_changeSetting_21 : decode cX5_changeSetting 21 = .ok (.getfield 14, 3) := by decide +kernel
theorem dX5_changeSetting_24 : decode cX5_changeSetting 24 = .ok (.iload_n 1, 1) := by decide +kernel
theorem dX5_changeSetting_25 : decode cX5_changeSetting 25 = .ok (.iload_n 2, 1) := by decide +kernel
theorem dX5_changeSetting_26 : decode cX5_changeSetting 26 = .ok (.invokevirtual 44, 3) := by decide +kernel
theorem dX5_changeSetting_29 : decode cX5_changeSetting 29 = .ok (.iload_n 3, 1) := by decide +kernel
theorem dX5_changeSetting_30 : decode cX5_changeSetting 30 = .ok (.ireturn, 1) := by decide +kernel
theorem dX5_admitPupil_0 : decode cX5_admitPupil 0 = .ok (.aload_n 0, 1) := by decide +kernel
theorem dX5_admitPupil_1 : decode cX5_admitPupil 1 = .ok (.getfield 58, 3) := by decide +kernel
theorem dX5_admitPupil_4 : decode cX5_admitPupil 4 = .ok (.bipush 10, 2) := by decide +kernel
theorem dX5_admitPupil_6 : decode cX5_admitPupil 6 = .ok (.if_icmp .lt 6, 3) := by decide +kernel
theorem dX5_admitPupil_9 : decode cX5_admitPupil 9 = .ok (.bipush (-4), 2) := by decide +kernel
theorem dX5_admitPupil_11 : decode cX5_admitPupil 11 = .ok (.ireturn, 1) := by decide +kernel
theorem dX5_admitPupil_12 : decode cX5_admitPupil 12 = .ok (.aload_n 0, 1) := by decide +kernel
theorem dX5_admitPupil_13 : decode cX5_admitPupil 13 = .ok (.dup, 1) := by decide +kernel
theorem dX5_admitPupil_14 : decode cX5_admitPupil 14 = .ok (.getfield 58, 3) := by decide +kernel
theorem dX5_admitPupil_17 : decode cX5_admitPupil 17 = .ok (.dup_x1, 1) := by decide +kernel
theorem dX5_admitPupil_18 : decode cX5_admitPupil 18 = .ok (.iconst 1, 1) := by decide +kernel
theorem dX5_admitPupil_19 : decode cX5_admitPupil 19 = .ok (.iadd, 1) := by decide +kernel
theorem dX5_admitPupil_20 : decode cX5_admitPupil 20 = .ok (.putfield 58, 3) := by decide +kernel
theorem dX5_admitPupil_23 : decode cX5_admitPupil 23 = .ok (.ireturn, 1) := by decide +kernel
set_option maxRecDepth 20000 in
theorem ggX5_bookWheel_X5_hasPupil : GoodIn wsX5_bookWheel wsX5_hasPupil := goodIn_r _ [6, 7, 46, 47, 48, 49, 50, 51, 52, 53] (by decide +kernel) (by decide +kernel)
set_option maxRecDepth 20000 in
theorem gX5_bookWheel_X5_hasPupil : GoodIn wsX5_bookWheel (wsV RX5 79 RX5 yX5_hasPupil wsX5_hasPupil) := goodIn_app (goodIn_of _ (by decide +kernel)) ggX5_bookWheel_X5_hasPupil
set_option maxRecDepth 20000 in
theorem ggX5_bookWheel_X6_isWheel : GoodIn wsX5_bookWheel wsX6_isWheel := goodIn_r _ [10, 11, 12, 9, 13] (by decide +kernel) (by decide +kernel)
set_option maxRecDepth 20000 in
theorem gX5_bookWheel_X6_isWheel_n83 : GoodIn wsX5_bookWheel (wsX6_isWheel) := ggX5_bookWheel_X6_isWheel
set_option maxRecDepth 20000 in
theorem ggX5_bookWheel_X6_isAhead : GoodIn wsX5_bookWheel wsX6_isAhead := goodIn_r _ [15, 11, 12, 9, 13] (by decide +kernel) (by decide +kernel)
set_option maxRecDepth 20000 in
theorem gX5_bookWheel_X6_isAhead_n86 : GoodIn wsX5_bookWheel (wsX6_isAhead) := ggX5_bookWheel_X6_isAhead
set_option maxRecDepth 20000 in
theorem ggX5_bookWheel_X0_bookerOf : GoodIn wsX5_bookWheel wsX0_bookerOf := goodIn_r _ [20, 21, 22, 23, 24, 19, 25, 26, 27, 28, 29, 30, 31, 32, 54, 55, 56, 57] (by decide +kernel) (by decide +kernel)
set_option maxRecDepth 20000 in
theorem gX5_bookWheel_X0_bookerOf : GoodIn wsX5_bookWheel (wsV RX5 89 RX0 yX0_bookerOf wsX0_bookerOf) := goodIn_app (goodIn_of _ (by decide +kernel)) ggX5_bookWheel_X0_bookerOf
set_option maxRecDepth 20000 in
theorem ggX5_bookWheel_X0_wheelOf : GoodIn wsX5_bookWheel wsX0_wheelOf := goodIn_r _ [36, 37, 17, 18, 19, 20, 21, 22, 23, 24, 25, 26, 27, 28, 29, 30, 31, 32, 54, 55, 56, 57] (by decide +kernel) (by decide +kernel)
set_option maxRecDepth 20000 in
theorem gX5_bookWheel_X0_wheelOf : GoodIn wsX5_bookWheel (wsV RX5 93 RX0 yX0_wheelOf wsX0_wheelOf) := goodIn_app (goodIn_of _ (by decide +kernel)) ggX5_bookWheel_X0_wheelOf
set_option maxRecDepth 20000 in
theorem ggX5_bookWheel_X0_enter : GoodIn wsX5_bookWheel wsX0_enter := goodIn_r _ [41, 21, 22, 23, 24, 19, 25, 26, 42, 43, 44, 30, 45, 32, 54, 55, 56, 57] (by decide +kernel) (by decide +kernel)
set_option maxRecDepth 20000 in
theorem gX5_bookWheel_X0_enter : GoodIn wsX5_bookWheel (wsV RX5 96 RX0 yX0_enter wsX0_enter) := goodIn_app (goodIn_of _ (by decide +kernel)) ggX5_bookWheel_X0_enter
theorem dX5_bookWheel_0 : decode cX5_bookWheel 0 = .ok (.aload_n 0, 1) := by decide +kernel
theorem dX5_bookWheel_1 : decode cX5_bookWheel 1 = .ok (.iload_n 1, 1) := by decide +kernel
theorem dX5_bookWheel_2 : decode cX5_bookWheel 2 = .ok (.invokevirtual 79, 3) := by decide +kernel
theorem dX5_bookWheel_5 : decode cX5_bookWheel 5 = .ok (.ifCond .eq 10, 3) := by decide +kernel
theorem dX5_bookWheel_8 : decode cX5_bookWheel 8 = .ok (.iload_n 2, 1) := by decide +kernel
theorem dX5_bookWheel_9 : decode cX5_bookWheel 9 = .ok (.invokestatic 83, 3) := by decide +kernel
theorem dX5_bookWheel_12 : decode cX5_bookWheel 12 = .ok (.ifCond .ne 5, 3) := by decide +kernel
theorem dX5_bookWheel_15 : decode cX5_bookWheel 15 = .ok (.iconst (-1), 1) := by decide +kernel
theorem dX5_bookWheel_16 : decode cX5_bookWheel 16 = .ok (.ireturn, 1) := by decide +kernel
theorem dX5_bookWheel_17 : decode cX5_bookWheel 17 = .ok (.iload_n 3, 1) := by decide +kernel
theorem dX5_bookWheel_18 : decode cX5_bookWheel 18 = .ok (.invokestatic 86, 3) := by decide +kernel
theorem dX5_bookWheel_21 : decode cX5_bookWheel 21 = .ok (.ifCond .ne 6, 3) := by decide +kernel
theorem dX5_bookWheel_24 : decode cX5_bookWheel 24 = .ok (.bipush (-2), 2) := by decide +kernel
theorem dX5_bookWheel_26 : decode cX5_bookWheel 26 = .ok (.ireturn, 1) := by decide +kernel
theorem dX5_bookWheel_27 : decode cX5_bookWheel 27 = .ok (.aload_n 0, 1) := by decide +kernel
theorem dX5_bookWheel_28 : decode cX5_bookWheel 28 = .ok (.getfield 23, 3) := by decide +kernel
theorem dX5_bookWheel_31 : decode cX5_bookWheel 31 = .ok (.iload_n 2, 1) := by decide +kernel
theorem dX5_bookWheel_32 : decode cX5_bookWheel 32 = .ok (.iload_n 3, 1) := by decide +kernel
theorem dX5_bookWheel_33 : decode cX5_bookWheel 33 = .ok (.invokevirtual 89, 3) := by decide +kernel
theorem dX5_bookWheel_36 : decode cX5_bookWheel 36 = .ok (.bipush (-6), 2) := by decide +kernel
theorem dX5_bookWheel_38 : decode cX5_bookWheel 38 = .ok (.if_icmp .ne 17, 3) := by decide +kernel
theorem dX5_bookWheel_41 : decode cX5_bookWheel 41 = .ok (.aload_n 0, 1) := by decide +kernel
theorem dX5_bookWheel_42 : decode cX5_bookWheel 42 = .ok (.getfield 23, 3) := by decide +kernel
theorem dX5_bookWheel_45 : decode cX5_bookWheel 45 = .ok (.iload_n 1, 1) := by decide +kernel
theorem dX5_bookWheel_46 : decode cX5_bookWheel 46 = .ok (.iload_n 3, 1) := by decide +kernel
theorem dX5_bookWheel_47 : decode cX5_bookWheel 47 = .ok (.invokevirtual 93, 3) := by decide +kernel
theorem dX5_bookWheel_50 : decode cX5_bookWheel 50 = .ok (.bipush (-6), 2) := by decide +kernel
theorem dX5_bookWheel_52 : decode cX5_bookWheel 52 = .ok (.if_icmp .eq 6, 3) := by decide +kernel
theorem dX5_bookWheel_55 : decode cX5_bookWheel 55 = .ok (.bipush (-5), 2) := by decide +kernel
theorem dX5_bookWheel_57 : decode cX5_bookWheel 57 = .ok (.ireturn, 1) := by decide +kernel
theorem dX5_bookWheel_58 : decode cX5_bookWheel 58 = .ok (.aload_n 0, 1) := by decide +kernel
theorem dX5_bookWheel_59 : decode cX5_bookWheel 59 = .ok (.getfield 23, 3) := by decide +kernel
theorem dX5_bookWheel_62 : decode cX5_bookWheel 62 = .ok (.iload_n 2, 1) := by decide +kernel
theorem dX5_bookWheel_63 : decode cX5_bookWheel 63 = .ok (.iload_n 3, 1) := by decide +kernel
theorem dX5_bookWheel_64 : decode cX5_bookWheel 64 = .ok (.iload_n 1, 1) := by decide +kernel
theorem dX5_bookWheel_65 : decode cX5_bookWheel 65 = .ok (.invokevirtual 96, 3) := by decide +kernel
theorem dX5_bookWheel_68 : decode cX5_bookWheel 68 = .ok (.aload_n 0, 1) := by decide +kernel
theorem dX5_bookWheel_69 : decode cX5_bookWheel 69 = .ok (.getfield 23, 3) := by decide +kernel
theorem dX5_bookWheel_72 : decode cX5_bookWheel 72 = .ok (.getfield 100, 3) := by decide +kernel
theorem dX5_bookWheel_75 : decode cX5_bookWheel 75 = .ok (.iload_n 3, 1) := by decide +kernel
theorem dX5_bookWheel_76 : decode cX5_bookWheel 76 = .ok (.iadd, 1) := by decide +kernel
theorem dX5_bookWheel_77 : decode cX5_bookWheel 77 = .ok (.ireturn, 1) := by decide +kernel
set_option maxRecDepth 20000 in
theorem ggX5_cancelBooking_X5_hasPupil : GoodIn wsX5_cancelBooking wsX5_hasPupil := goodIn_r _ [6, 7, 48, 49, 50, 51, 52, 53, 54, 55] (by decide +kernel) (by decide +kernel)
set_option maxRecDepth 20000 in
theorem gX5_cancelBooking_X5_hasPupil : GoodIn wsX5_cancelBooking (wsV RX5 79 RX5 yX5_hasPupil wsX5_hasPupil) := goodIn_app (goodIn_of _ (by decide +kernel)) ggX5_cancelBooking_X5_hasPupil
set_option maxRecDepth 20000 in
theorem ggX5_cancelBooking_X6_isAhead : GoodIn wsX5_cancelBooking wsX6_isAhead := goodIn_r _ [10, 11, 12, 9, 13] (by decide +kernel) (by decide +kernel)
set_option maxRecDepth 20000 in
theorem gX5_cancelBooking_X6_isAhead_n86 : GoodIn wsX5_cancelBooking (wsX6_isAhead) := ggX5_cancelBooking_X6_isAhead
set_option maxRecDepth 20000 in
theorem ggX5_cancelBooking_X0_wheelOf : GoodIn wsX5_cancelBooking wsX0_wheelOf := goodIn_r _ [18, 19, 20, 21, 17, 22, 23, 24, 25, 26, 27, 28, 29, 30, 31, 32, 33, 34, 56, 57, 58, 59] (by decide +kernel) (by decide +kernel)
set_option maxRecDepth 20000 in
theorem gX5_cancelBooking_X0_wheelOf : GoodIn wsX5_cancelBooking (wsV RX5 93 RX0 yX0_wheelOf wsX0_wheelOf) := goodIn_app (goodIn_of _ (by decide +kernel)) ggX5_cancelBooking_X0_wheelOf
set_option maxRecDepth 20000 in
theorem ggX5_cancelBooking_X0_hasThrownTonight : GoodIn wsX5_cancelBooking wsX0_hasThrownTonight := goodIn_r _ [38, 39, 56, 57, 58] (by decide +kernel) (by decide +kernel)
set_option maxRecDepth 20000 in
theorem gX5_cancelBooking_X0_hasThrownTonight : GoodIn wsX5_cancelBooking (wsV RX5 103 RX0 yX0_hasThrownTonight wsX0_hasThrownTonight) := goodIn_app (goodIn_of _ (by decide +kernel)) ggX5_cancelBooking_X0_hasThrownTonight
set_option maxRecDepth 20000 in
theorem ggX5_cancelBooking_X0_cross : GoodIn wsX5_cancelBooking wsX0_cross := goodIn_r _ [43, 23, 24, 25, 26, 17, 27, 28, 44, 45, 46, 32, 47, 34, 56, 57, 58, 59] (by decide +kernel) (by decide +kernel)
set_option maxRecDepth 20000 in
theorem gX5_cancelBooking_X0_cross : GoodIn wsX5_cancelBooking (wsV RX5 106 RX0 yX0_cross wsX0_cross) := goodIn_app (goodIn_of _ (by decide +kernel)) ggX5_cancelBooking_X0_cross
theorem dX5_cancelBooking_0 : decode cX5_cancelBooking 0 = .ok (.aload_n 0, 1) := by decide +kernel
theorem dX5_cancelBooking_1 : decode cX5_cancelBooking 1 = .ok (.iload_n 1, 1) := by decide +kernel
theorem dX5_cancelBooking_2 : decode cX5_cancelBooking 2 = .ok (.invokevirtual 79, 3) := by decide +kernel
theorem dX5_cancelBooking_5 : decode cX5_cancelBooking 5 = .ok (.ifCond .ne 5, 3) := by decide +kernel
theorem dX5_cancelBooking_8 : decode cX5_cancelBooking 8 = .ok (.iconst (-1), 1) := by decide +kernel
theorem dX5_cancelBooking_9 : decode cX5_cancelBooking 9 = .ok (.ireturn, 1) := by decide +kernel
theorem dX5_cancelBooking_10 : decode cX5_cancelBooking 10 = .ok (.iload_n 2, 1) := by decide +kernel
theorem dX5_cancelBooking_11 : decode cX5_cancelBooking 11 = .ok (.invokestatic 86, 3) := by decide +kernel
theorem dX5_cancelBooking_14 : decode cX5_cancelBooking 14 = .ok (.ifCond .ne 6, 3) := by decide +kernel
theorem dX5_cancelBooking_17 : decode cX5_cancelBooking 17 = .ok (.bipush (-2), 2) := by decide +kernel
theorem dX5_cancelBooking_19 : decode cX5_cancelBooking 19 = .ok (.ireturn, 1) := by decide +kernel
theorem dX5_cancelBooking_20 : decode cX5_cancelBooking 20 = .ok (.aload_n 0, 1) := by decide +kernel
theorem dX5_cancelBooking_21 : decode cX5_cancelBooking 21 = .ok (.getfield 23, 3) := by decide +kernel
theorem dX5_cancelBooking_24 : decode cX5_cancelBooking 24 = .ok (.iload_n 1, 1) := by decide +kernel
theorem dX5_cancelBooking_25 : decode cX5_cancelBooking 25 = .ok (.iload_n 2, 1) := by decide +kernel
theorem dX5_cancelBooking_26 : decode cX5_cancelBooking 26 = .ok (.invokevirtual 93, 3) := by decide +kernel
theorem dX5_cancelBooking_29 : decode cX5_cancelBooking 29 = .ok (.istore_n 3, 1) := by decide +kernel
theorem dX5_cancelBooking_30 : decode cX5_cancelBooking 30 = .ok (.iload_n 3, 1) := by decide +kernel
theorem dX5_cancelBooking_31 : decode cX5_cancelBooking 31 = .ok (.bipush (-6), 2) := by decide +kernel
theorem dX5_cancelBooking_33 : decode cX5_cancelBooking 33 = .ok (.if_icmp .eq 18, 3) := by decide +kernel
theorem dX5_cancelBooking_36 : decode cX5_cancelBooking 36 = .ok (.iload_n 2, 1) := by decide +kernel
theorem dX5_cancelBooking_37 : decode cX5_cancelBooking 37 = .ok (.ifCond .ne 17, 3) := by decide +kernel
theorem dX5_cancelBooking_40 : decode cX5_cancelBooking 40 = .ok (.aload_n 0, 1) := by decide +kernel
theorem dX5_cancelBooking_41 : decode cX5_cancelBooking 41 = .ok (.getfield 23, 3) := by decide +kernel
theorem dX5_cancelBooking_44 : decode cX5_cancelBooking 44 = .ok (.iload_n 1, 1) := by decide +kernel
theorem dX5_cancelBooking_45 : decode cX5_cancelBooking 45 = .ok (.invokevirtual 103, 3) := by decide +kernel
theorem dX5_cancelBooking_48 : decode cX5_cancelBooking 48 = .ok (.ifCond .eq 6, 3) := by decide +kernel
theorem dX5_cancelBooking_51 : decode cX5_cancelBooking 51 = .ok (.bipush (-5), 2) := by decide +kernel
theorem dX5_cancelBooking_53 : decode cX5_cancelBooking 53 = .ok (.ireturn, 1) := by decide +kernel
theorem dX5_cancelBooking_54 : decode cX5_cancelBooking 54 = .ok (.aload_n 0, 1) := by decide +kernel
theorem dX5_cancelBooking_55 : decode cX5_cancelBooking 55 = .ok (.getfield 23, 3) := by decide +kernel
theorem dX5_cancelBooking_58 : decode cX5_cancelBooking 58 = .ok (.iload_n 3, 1) := by decide +kernel
theorem dX5_cancelBooking_59 : decode cX5_cancelBooking 59 = .ok (.iload_n 2, 1) := by decide +kernel
theorem dX5_cancelBooking_60 : decode cX5_cancelBooking 60 = .ok (.invokevirtual 106, 3) := by decide +kernel
theorem dX5_cancelBooking_63 : decode cX5_cancelBooking 63 = .ok (.iload_n 3, 1) := by decide +kernel
theorem dX5_cancelBooking_64 : decode cX5_cancelBooking 64 = .ok (.ireturn, 1) := by decide +kernel
set_option maxRecDepth 20000 in
theorem ggX5_bookerOf_X6_isWheel : GoodIn wsX5_bookerOf wsX6_isWheel := goodIn_r _ [4, 5, 6, 3, 7] (by decide +kernel) (by decide +kernel)
set_option maxRecDepth 20000 in
theorem gX5_bookerOf_X6_isWheel_n83 : GoodIn wsX5_bookerOf (wsX6_isWheel) := ggX5_bookerOf_X6_isWheel
set_option maxRecDepth 20000 in
theorem ggX5_bookerOf_X6_isAhead : GoodIn wsX5_bookerOf wsX6_isAhead := goodIn_r _ [9, 5, 6, 3, 7] (by decide +kernel) (by decide +kernel)
set_option maxRecDepth 20000 in
theorem gX5_bookerOf_X6_isAhead_n86 : GoodIn wsX5_bookerOf (wsX6_isAhead) := ggX5_bookerOf_X6_isAhead
set_option maxRecDepth 20000 in
theorem ggX5_bookerOf_X0_bookerOf : GoodIn wsX5_bookerOf wsX0_bookerOf := goodIn_r _ [14, 15, 16, 17, 18, 13, 19, 20, 21, 22, 23, 24, 25, 26, 35, 36, 37, 38] (by decide +kernel) (by decide +kernel)
set_option maxRecDepth 20000 in
theorem gX5_bookerOf_X0_bookerOf : GoodIn wsX5_bookerOf (wsV RX5 89 RX0 yX0_bookerOf wsX0_bookerOf) := goodIn_app (goodIn_of _ (by decide +kernel)) ggX5_bookerOf_X0_bookerOf
theorem dX5_bookerOf_0 : decode cX5_bookerOf 0 = .ok (.iload_n 1, 1) := by decide +kernel
theorem dX5_bookerOf_1 : decode cX5_bookerOf 1 = .ok (.invokestatic 83, 3) := by decide +kernel
theorem dX5_bookerOf_4 : decode cX5_bookerOf 4 = .ok (.ifCond .ne 5, 3) := by decide +kernel
theorem dX5_bookerOf_7 : decode cX5_bookerOf 7 = .ok (.iconst (-1), 1) := by decide +kernel
theorem dX5_bookerOf_8 : decode cX5_bookerOf 8 = .ok (.ireturn, 1) := by decide +kernel
theorem dX5_bookerOf_9 : decode cX5_bookerOf 9 = .ok (.iload_n 2, 1) := by decide +kernel
theorem dX5_bookerOf_10 : decode cX5_bookerOf 10 = .ok (.invokestatic 86, 3) := by decide +kernel
theorem dX5_bookerOf_13 : decode cX5_bookerOf 13 = .ok (.ifCond .eq 15, 3) := by decide +kernel
theorem dX5_bookerOf_16 : decode cX5_bookerOf 16 = .ok (.aload_n 0, 1) := by decide +kernel
theorem dX5_bookerOf_17 : decode cX5_bookerOf 17 = .ok (.getfield 23, 3) := by decide +kernel
theorem dX5_bookerOf_20 : decode cX5_bookerOf 20 = .ok (.iload_n 1, 1) := by decide +kernel
theorem dX5_bookerOf_21 : decode cX5_bookerOf 21 = .ok (.iload_n 2, 1) := by decide +kernel
theorem dX5_bookerOf_22 : decode cX5_bookerOf 22 = .ok (.invokevirtual 89, 3) := by decide +kernel
theorem dX5_bookerOf_25 : decode cX5_bookerOf 25 = .ok (.goto 5, 3) := by decide +kernel
theorem dX5_bookerOf_28 : decode cX5_bookerOf 28 = .ok (.bipush (-2), 2) := by decide +kernel
theorem dX5_bookerOf_30 : decode cX5_bookerOf 30 = .ok (.ireturn, 1) := by decide +kernel
set_option maxRecDepth 20000 in
theorem ggX5_firstFreeNight_X5_hasPupil : GoodIn wsX5_firstFreeNight wsX5_hasPupil := goodIn_r _ [6, 7, 33, 34, 35, 36, 37, 38, 39, 40] (by decide +kernel) (by decide +kernel)
set_option maxRecDepth 20000 in
theorem gX5_firstFreeNight_X5_hasPupil : GoodIn wsX5_firstFreeNight (wsV RX5 79 RX5 yX5_hasPupil wsX5_hasPupil) := goodIn_app (goodIn_of _ (by decide +kernel)) ggX5_firstFreeNight_X5_hasPupil
set_option maxRecDepth 20000 in
theorem ggX5_firstFreeNight_X0_lowestFreeWheel : GoodIn wsX5_firstFreeNight wsX0_lowestFreeWheel := goodIn_r _ [12, 13, 14, 15, 11, 16, 17, 18, 19, 20, 21, 22, 23, 24, 25, 26, 27, 28, 41, 42, 43, 44] (by decide +kernel) (by decide +kernel)
set_option maxRecDepth 20000 in
theorem gX5_firstFreeNight_X0_lowestFreeWheel : GoodIn wsX5_firstFreeNight (wsV RX5 109 RX0 yX0_lowestFreeWheel wsX0_lowestFreeWheel) := goodIn_app (goodIn_of _ (by decide +kernel)) ggX5_firstFreeNight_X0_lowestFreeWheel
set_option maxRecDepth 20000 in
theorem ggX5_firstFreeNight_X0_wheelOf : GoodIn wsX5_firstFreeNight wsX0_wheelOf := goodIn_r _ [32, 13, 14, 15, 11, 16, 17, 18, 19, 20, 21, 22, 23, 24, 25, 26, 27, 28, 41, 42, 43, 44] (by decide +kernel) (by decide +kernel)
set_option maxRecDepth 20000 in
theorem gX5_firstFreeNight_X0_wheelOf : GoodIn wsX5_firstFreeNight (wsV RX5 93 RX0 yX0_wheelOf wsX0_wheelOf) := goodIn_app (goodIn_of _ (by decide +kernel)) ggX5_firstFreeNight_X0_wheelOf
theorem dX5_firstFreeNight_0 : decode cX5_firstFreeNight 0 = .ok (.aload_n 0, 1) := by decide +kernel
theorem dX5_firstFreeNight_1 : decode cX5_firstFreeNight 1 = .ok (.iload_n 1, 1) := by decide +kernel
theorem dX5_firstFreeNight_2 : decode cX5_firstFreeNight 2 = .ok (.invokevirtual 79, 3) := by decide +kernel
theorem dX5_firstFreeNight_5 : decode cX5_firstFreeNight 5 = .ok (.ifCond .ne 5, 3) := by decide +kernel
theorem dX5_firstFreeNight_8 : decode cX5_firstFreeNight 8 = .ok (.iconst (-1), 1) := by decide +kernel
theorem dX5_firstFreeNight_9 : decode cX5_firstFreeNight 9 = .ok (.ireturn, 1) := by decide +kernel
theorem dX5_firstFreeNight_10 : decode cX5_firstFreeNight 10 = .ok (.iload_n 2, 1) := by decide +kernel
theorem dX5_firstFreeNight_11 : decode cX5_firstFreeNight 11 = .ok (.ifCond .eq 11, 3) := by decide +kernel
theorem dX5_firstFreeNight_14 : decode cX5_firstFreeNight 14 = .ok (.iload_n 2, 1) := by decide +kernel
theorem dX5_firstFreeNight_15 : decode cX5_firstFreeNight 15 = .ok (.iconst 1, 1) := by decide +kernel
theorem dX5_firstFreeNight_16 : decode cX5_firstFreeNight 16 = .ok (.if_icmp .eq 6, 3) := by decide +kernel
theorem dX5_firstFreeNight_19 : decode cX5_firstFreeNight 19 = .ok (.bipush (-2), 2) := by decide +kernel
theorem dX5_firstFreeNight_21 : decode cX5_firstFreeNight 21 = .ok (.ireturn, 1) := by decide +kernel
theorem dX5_firstFreeNight_22 : decode cX5_firstFreeNight 22 = .ok (.iconst 0, 1) := by decide +kernel
theorem dX5_firstFreeNight_23 : decode cX5_firstFreeNight 23 = .ok (.istore_n 3, 1) := by decide +kernel
theorem dX5_firstFreeNight_24 : decode cX5_firstFreeNight 24 = .ok (.iload_n 3, 1) := by decide +kernel
theorem dX5_firstFreeNight_25 : decode cX5_firstFreeNight 25 = .ok (.bipush 20, 2) := by decide +kernel
theorem dX5_firstFreeNight_27 : decode cX5_firstFreeNight 27 = .ok (.if_icmp .gt 59, 3) := by decide +kernel
theorem dX5_firstFreeNight_30 : decode cX5_firstFreeNight 30 = .ok (.aload_n 0, 1) := by decide +kernel
theorem dX5_firstFreeNight_31 : decode cX5_firstFreeNight 31 = .ok (.getfield 23, 3) := by decide +kernel
theorem dX5_firstFreeNight_34 : decode cX5_firstFreeNight 34 = .ok (.iload_n 3, 1) := by decide +kernel
theorem dX5_firstFreeNight_35 : decode cX5_firstFreeNight 35 = .ok (.invokevirtual 109, 3) := by decide +kernel
theorem dX5_firstFreeNight_38 : decode cX5_firstFreeNight 38 = .ok (.istore 4, 2) := by decide +kernel
theorem dX5_firstFreeNight_40 : decode cX5_firstFreeNight 40 = .ok (.iload 4, 2) := by decide +kernel
theorem dX5_firstFreeNight_42 : decode cX5_firstFreeNight 42 = .ok (.bipush (-6), 2) := by decide +kernel
theorem dX5_firstFreeNight_44 : decode cX5_firstFreeNight 44 = .ok (.if_icmp .eq 36, 3) := by decide +kernel
theorem dX5_firstFreeNight_47 : decode cX5_firstFreeNight 47 = .ok (.aload_n 0, 1) := by decide +kernel
theorem dX5_firstFreeNight_48 : decode cX5_firstFreeNight 48 = .ok (.getfield 23, 3) := by decide +kernel
theorem dX5_firstFreeNight_51 : decode cX5_firstFreeNight 51 = .ok (.iload_n 1, 1) := by decide +kernel
theorem dX5_firstFreeNight_52 : decode cX5_firstFreeNight 52 = .ok (.iload_n 3, 1) := by decide +kernel
theorem dX5_firstFreeNight_53 : decode cX5_firstFreeNight 53 = .ok (.invokevirtual 93, 3) := by decide +kernel
theorem dX5_firstFreeNight_56 : decode cX5_firstFreeNight 56 = .ok (.bipush (-6), 2) := by decide +kernel
theorem dX5_firstFreeNight_58 : decode cX5_firstFreeNight 58 = .ok (.if_icmp .ne 22, 3) := by decide +kernel
theorem dX5_firstFreeNight_61 : decode cX5_firstFreeNight 61 = .ok (.iload_n 2, 1) := by decide +kernel
theorem dX5_firstFreeNight_62 : decode cX5_firstFreeNight 62 = .ok (.ifCond .ne 15, 3) := by decide +kernel
theorem dX5_firstFreeNight_65 : decode cX5_firstFreeNight 65 = .ok (.aload_n 0, 1) := by decide +kernel
theorem dX5_firstFreeNight_66 : decode cX5_firstFreeNight 66 = .ok (.getfield 23, 3) := by decide +kernel
theorem dX5_firstFreeNight_69 : decode cX5_firstFreeNight 69 = .ok (.getfield 100, 3) := by decide +kernel
theorem dX5_firstFreeNight_72 : decode cX5_firstFreeNight 72 = .ok (.iload_n 3, 1) := by decide +kernel
theorem dX5_firstFreeNight_73 : decode cX5_firstFreeNight 73 = .ok (.iadd, 1) := by decide +kernel
theorem dX5_firstFreeNight_74 : decode cX5_firstFreeNight 74 = .ok (.goto 5, 3) := by decide +kernel
theorem dX5_firstFreeNight_77 : decode cX5_firstFreeNight 77 = .ok (.iload 4, 2) := by decide +kernel
theorem dX5_firstFreeNight_79 : decode cX5_firstFreeNight 79 = .ok (.ireturn, 1) := by decide +kernel
theorem dX5_firstFreeNight_80 : decode cX5_firstFreeNight 80 = .ok (.iinc 3 1, 3) := by decide +kernel
theorem dX5_firstFreeNight_83 : decode cX5_firstFreeNight 83 = .ok (.goto (-59), 3) := by decide +kernel
theorem dX5_firstFreeNight_86 : decode cX5_firstFreeNight 86 = .ok (.bipush (-6), 2) := by decide +kernel
theorem dX5_firstFreeNight_88 : decode cX5_firstFreeNight 88 = .ok (.ireturn, 1) := by decide +kernel
set_option maxRecDepth 20000 in
theorem ggX5_passNights_X6_isWithin : GoodIn wsX5_passNights wsX6_isWithin := goodIn_r _ [5] (by decide +kernel) (by decide +kernel)
set_option maxRecDepth 20000 in
theorem gX5_passNights_X6_isWithin_n67 : GoodIn wsX5_passNights (wsX6_isWithin) := ggX5_passNights_X6_isWithin
set_option maxRecDepth 20000 in
theorem ggX5_passNights_X3_dryOneNight : GoodIn wsX5_passNights wsX3_dryOneNight := goodIn_r _ [10, 11, 12, 13, 14, 15, 9, 16, 17, 18, 19, 20, 21, 22, 23, 24, 25, 26, 27, 28, 29, 30, 31, 32, 33, 34, 35, 36, 37, 38, 39, 40, 41, 70, 71, 72, 73, 74, 75, 76, 77, 78, 79] (by decide +kernel) (by decide +kernel)
set_option maxRecDepth 20000 in
theorem gX5_passNights_X3_dryOneNight : GoodIn wsX5_passNights (wsV RX5 112 RX3 yX3_dryOneNight wsX3_dryOneNight) := goodIn_app (goodIn_of _ (by decide +kernel)) ggX5_passNights_X3_dryOneNight
set_option maxRecDepth 20000 in
theorem ggX5_passNights_X0_passOneNight : GoodIn wsX5_passNights wsX0_passOneNight := goodIn_r _ [46, 47, 48, 49, 50, 51, 45, 52, 53, 54, 55, 56, 57, 58, 39, 40, 21, 41, 23, 67, 68, 69, 79] (by decide +kernel) (by decide +kernel)
set_option maxRecDepth 20000 in
theorem gX5_passNights_X0_passOneNight : GoodIn wsX5_passNights (wsV RX5 115 RX0 yX0_passOneNight wsX0_passOneNight) := goodIn_app (goodIn_of _ (by decide +kernel)) ggX5_passNights_X0_passOneNight
theorem dX5_passNights_0 : decode cX5_passNights 0 = .ok (.iload_n 1, 1) := by decide +kernel
theorem dX5_passNights_1 : decode cX5_passNights 1 = .ok (.iconst 1, 1) := by decide +kernel
theorem dX5_passNights_2 : decode cX5_passNights 2 = .ok (.bipush 20, 2) := by decide +kernel
theorem dX5_passNights_4 : decode cX5_passNights 4 = .ok (.invokestatic 67, 3) := by decide +kernel
theorem dX5_passNights_7 : decode cX5_passNights 7 = .ok (.ifCond .ne 6, 3) := by decide +kernel
theorem dX5_passNights_10 : decode cX5_passNights 10 = .ok (.bipush (-2), 2) := by decide +kernel
theorem dX5_passNights_12 : decode cX5_passNights 12 = .ok (.ireturn, 1) := by decide +kernel
theorem dX5_passNights_13 : decode cX5_passNights 13 = .ok (.aload_n 0, 1) := by decide +kernel
theorem dX5_passNights_14 : decode cX5_passNights 14 = .ok (.getfield 23, 3) := by decide +kernel
theorem dX5_passNights_17 : decode cX5_passNights 17 = .ok (.getfield 100, 3) := by decide +kernel
theorem dX5_passNights_20 : decode cX5_passNights 20 = .ok (.iload_n 1, 1) := by decide +kernel
theorem dX5_passNights_21 : decode cX5_passNights 21 = .ok (.iadd, 1) := by decide +kernel
theorem dX5_passNights_22 : decode cX5_passNights 22 = .ok (.sipush 999, 3) := by decide +kernel
theorem dX5_passNights_25 : decode cX5_passNights 25 = .ok (.if_icmp .le 6, 3) := by decide +kernel
theorem dX5_passNights_28 : decode cX5_passNights 28 = .ok (.bipush (-5), 2) := by decide +kernel
theorem dX5_passNights_30 : decode cX5_passNights 30 = .ok (.ireturn, 1) := by decide +kernel
theorem dX5_passNights_31 : decode cX5_passNights 31 = .ok (.iconst 0, 1) := by decide +kernel
theorem dX5_passNights_32 : decode cX5_passNights 32 = .ok (.istore_n 2, 1) := by decide +kernel
theorem dX5_passNights_33 : decode cX5_passNights 33 = .ok (.iload_n 2, 1) := by decide +kernel
theorem dX5_passNights_34 : decode cX5_passNights 34 = .ok (.iload_n 1, 1) := by decide +kernel
theorem dX5_passNights_35 : decode cX5_passNights 35 = .ok (.if_icmp .ge 23, 3) := by decide +kernel
theorem dX5_passNights_38 : decode cX5_passNights 38 = .ok (.aload_n 0, 1) := by decide +kernel
theorem dX5_passNights_39 : decode cX5_passNights 39 = .ok (.getfield 30, 3) := by decide +kernel
theorem dX5_passNights_42 : decode cX5_passNights 42 = .ok (.invokevirtual 112, 3) := by decide +kernel
theorem dX5_passNights_45 : decode cX5_passNights 45 = .ok (.aload_n 0, 1) := by decide +kernel
theorem dX5_passNights_46 : decode cX5_passNights 46 = .ok (.getfield 23, 3) := by decide +kernel
theorem dX5_passNights_49 : decode cX5_passNights 49 = .ok (.invokevirtual 115, 3) := by decide +kernel
theorem dX5_passNights_52 : decode cX5_passNights 52 = .ok (.iinc 2 1, 3) := by decide +kernel
theorem dX5_passNights_55 : decode cX5_passNights 55 = .ok (.goto (-22), 3) := by decide +kernel
theorem dX5_passNights_58 : decode cX5_passNights 58 = .ok (.aload_n 0, 1) := by decide +kernel
theorem dX5_passNights_59 : decode cX5_passNights 59 = .ok (.getfield 23, 3) := by decide +kernel
theorem dX5_passNights_62 : decode cX5_passNights 62 = .ok (.getfield 100, 3) := by decide +kernel
theorem dX5_passNights_65 : decode cX5_passNights 65 = .ok (.ireturn, 1) := by decide +kernel
set_option maxRecDepth 20000 in
theorem ggX5_throwClay_X5_hasPupil : GoodIn wsX5_throwClay wsX5_hasPupil := goodIn_r _ [7, 8, 85, 86, 87, 88, 89, 90, 91, 92] (by decide +kernel) (by decide +kernel)
set_option maxRecDepth 20000 in
theorem gX5_throwClay_X5_hasPupil : GoodIn wsX5_throwClay (wsV RX5 79 RX5 yX5_hasPupil wsX5_hasPupil) := goodIn_app (goodIn_of _ (by decide +kernel)) ggX5_throwClay_X5_hasPupil
set_option maxRecDepth 20000 in
theorem ggX5_throwClay_X6_isWithin : GoodIn wsX5_throwClay wsX6_isWithin := goodIn_r _ [11] (by decide +kernel) (by decide +kernel)
set_option maxRecDepth 20000 in
theorem gX5_throwClay_X6_isWithin_n67 : GoodIn wsX5_throwClay (wsX6_isWithin) := ggX5_throwClay_X6_isWithin
set_option maxRecDepth 20000 in
theorem ggX5_throwClay_X0_wheelOf : GoodIn wsX5_throwClay wsX0_wheelOf := goodIn_r _ [16, 17, 18, 19, 15, 20, 21, 22, 23, 24, 25, 26, 27, 28, 29, 30, 31, 32, 102, 103, 104, 105] (by decide +kernel) (by decide +kernel)
set_option maxRecDepth 20000 in
theorem gX5_throwClay_X0_wheelOf : GoodIn wsX5_throwClay (wsV RX5 93 RX0 yX0_wheelOf wsX0_wheelOf) := goodIn_app (goodIn_of _ (by decide +kernel)) ggX5_throwClay_X0_wheelOf
set_option maxRecDepth 20000 in
theorem ggX5_throwClay_X0_hasThrownTonight : GoodIn wsX5_throwClay wsX0_hasThrownTonight := goodIn_r _ [36, 37, 102, 103, 104] (by decide +kernel) (by decide +kernel)
set_option maxRecDepth 20000 in
theorem gX5_throwClay_X0_hasThrownTonight : GoodIn wsX5_throwClay (wsV RX5 103 RX0 yX0_hasThrownTonight wsX0_hasThrownTonight) := goodIn_app (goodIn_of _ (by decide +kernel)) ggX5_throwClay_X0_hasThrownTonight
set_option maxRecDepth 20000 in
theorem ggX5_throwClay_X3_freePlaces : GoodIn wsX5_throwClay wsX3_freePlaces := goodIn_r _ [42, 43, 44, 45, 41, 46, 47, 48, 49, 28, 29, 30, 31, 32, 50, 51, 52, 53, 54, 55, 56, 93, 94, 95, 96, 97, 98, 99, 100, 101, 105] (by decide +kernel) (by decide +kernel)
set_option maxRecDepth 20000 in
theorem gX5_throwClay_X3_freePlaces : GoodIn wsX5_throwClay (wsV RX5 118 RX3 yX3_freePlaces wsX3_freePlaces) := goodIn_app (goodIn_of _ (by decide +kernel)) ggX5_throwClay_X3_freePlaces
set_option maxRecDepth 20000 in
theorem ggX5_throwClay_X0_noteThrower : GoodIn wsX5_throwClay wsX0_noteThrower := goodIn_r _ [60, 37, 102, 103, 104] (by decide +kernel) (by decide +kernel)
set_option maxRecDepth 20000 in
theorem gX5_throwClay_X0_noteThrower : GoodIn wsX5_throwClay (wsV RX5 122 RX0 yX0_noteThrower wsX0_noteThrower) := goodIn_app (goodIn_of _ (by decide +kernel)) ggX5_throwClay_X0_noteThrower
set_option maxRecDepth 20000 in
theorem ggX5_throwClay_X5_drawFault : GoodIn wsX5_throwClay wsX5_drawFault := goodIn_r _ [64, 65, 66, 85, 86, 87, 88, 89, 90, 91, 92] (by decide +kernel) (by decide +kernel)
set_option maxRecDepth 20000 in
theorem gX5_throwClay_X5_drawFault : GoodIn wsX5_throwClay (wsV RX5 125 RX5 yX5_drawFault wsX5_drawFault) := goodIn_app (goodIn_of _ (by decide +kernel)) ggX5_throwClay_X5_drawFault
set_option maxRecDepth 20000 in
theorem ggX5_throwClay_X3_addClay : GoodIn wsX5_throwClay wsX3_addClay := goodIn_r _ [70, 47, 71, 72, 73, 74, 75, 76, 77, 78, 79, 30, 80, 32, 81, 82, 83, 41, 84, 48, 43, 44, 45, 46, 49, 28, 29, 31, 93, 94, 95, 96, 97, 98, 99, 100, 101, 105] (by decide +kernel) (by decide +kernel)
set_option maxRecDepth 20000 in
theorem gX5_throwClay_X3_addClay : GoodIn wsX5_throwClay (wsV RX5 128 RX3 yX3_addClay wsX3_addClay) := goodIn_app (goodIn_of _ (by decide +kernel)) ggX5_throwClay_X3_addClay
theorem dX5_throwClay_0 : decode cX5_throwClay 0 = .ok (.aload_n 0, 1) := by decide +kernel
theorem dX5_throwClay_1 : decode cX5_throwClay 1 = .ok (.iload_n 1, 1) := by decide +kernel
theorem dX5_throwClay_2 : decode cX5_throwClay 2 = .ok (.invokevirtual 79, 3) := by decide +kernel
theorem dX5_throwClay_5 : decode cX5_throwClay 5 = .ok (.ifCond .ne 5, 3) := by decide +kernel
theorem dX5_throwClay_8 : decode cX5_throwClay 8 = .ok (.iconst (-1), 1) := by decide +kernel
theorem dX5_throwClay_9 : decode cX5_throwClay 9 = .ok (.ireturn, 1) := by decide +kernel
theorem dX5_throwClay_10 : decode cX5_throwClay 10 = .ok (.iload_n 2, 1) := by decide +kernel
theorem dX5_throwClay_11 : decode cX5_throwClay 11 = .ok (.iconst 1, 1) := by decide +kernel
theorem dX5_throwClay_12 : decode cX5_throwClay 12 = .ok (.iconst 3, 1) := by decide +kernel
theorem dX5_throwClay_13 : decode cX5_throwClay 13 = .ok (.invokestatic 67, 3) := by decide +kernel
theorem dX5_throwClay_16 : decode cX5_throwClay 16 = .ok (.ifCond .ne 6, 3) := by decide +kernel
theorem dX5_throwClay_19 : decode cX5_throwClay 19 = .ok (.bipush (-2), 2) := by decide +kernel
theorem dX5_throwClay_21 : decode cX5_throwClay 21 = .ok (.ireturn, 1) := by decide +kernel
theorem dX5_throwClay_22 : decode cX5_throwClay 22 = .ok (.aload_n 0, 1) := by decide +kernel
theorem dX5_throwClay_23 : decode cX5_throwClay 23 = .ok (.getfield 23, 3) := by decide +kernel
theorem dX5_throwClay_26 : decode cX5_throwClay 26 = .ok (.iload_n 1, 1) := by decide +kernel
theorem dX5_throwClay_27 : decode cX5_throwClay 27 = .ok (.iconst 0, 1) := by decide +kernel
theorem dX5_throwClay_28 : decode cX5_throwClay 28 = .ok (.invokevirtual 93, 3) := by decide +kernel
theorem dX5_throwClay_31 : decode cX5_throwClay 31 = .ok (.bipush (-6), 2) := by decide +kernel
theorem dX5_throwClay_33 : decode cX5_throwClay 33 = .ok (.if_icmp .eq 14, 3) := by decide +kernel
theorem dX5_throwClay_36 : decode cX5_throwClay 36 = .ok (.aload_n 0, 1) := by decide +kernel
theorem dX5_throwClay_37 : decode cX5_throwClay 37 = .ok (.getfield 23, 3) := by decide +kernel
theorem dX5_throwClay_40 : decode cX5_throwClay 40 = .ok (.iload_n 1, 1) := by decide +kernel
theorem dX5_throwClay_41 : decode cX5_throwClay 41 = .ok (.invokevirtual 103, 3) := by decide +kernel
theorem dX5_throwClay_44 : decode cX5_throwClay 44 = .ok (.ifCond .eq 6, 3) := by decide +kernel
theorem dX5_throwClay_47 : decode cX5_throwClay 47 = .ok (.bipush (-5), 2) := by decide +kernel
theorem dX5_throwClay_49 : decode cX5_throwClay 49 = .ok (.ireturn, 1) := by decide +kernel
theorem dX5_throwClay_50 : decode cX5_throwClay 50 = .ok (.aload_n 0, 1) := by decide +kernel
theorem dX5_throwClay_51 : decode cX5_throwClay 51 = .ok (.getfield 30, 3) := by decide +kernel
theorem dX5_throwClay_54 : decode cX5_throwClay 54 = .ok (.getfield 64, 3) := by decide +kernel
theorem dX5_throwClay_57 : decode cX5_throwClay 57 = .ok (.bipush 20, 2) := by decide +kernel
theorem dX5_throwClay_59 : decode cX5_throwClay 59 = .ok (.if_icmp .ge 13, 3) := by decide +kernel
theorem dX5_throwClay_62 : decode cX5_throwClay 62 = .ok (.aload_n 0, 1) := by decide +kernel
theorem dX5_throwClay_63 : decode cX5_throwClay 63 = .ok (.getfield 30, 3) := by decide +kernel
theorem dX5_throwClay_66 : decode cX5_throwClay 66 = .ok (.invokevirtual 118, 3) := by decide +kernel
theorem dX5_throwClay_69 : decode cX5_throwClay 69 = .ok (.ifCond .ne 6, 3) := by decide +kernel
theorem dX5_throwClay_72 : decode cX5_throwClay 72 = .ok (.bipush (-4), 2) := by decide +kernel
theorem dX5_throwClay_74 : decode cX5_throwClay 74 = .ok (.ireturn, 1) := by decide +kernel
theorem dX5_throwClay_75 : decode cX5_throwClay 75 = .ok (.aload_n 0, 1) := by decide +kernel
theorem dX5_throwClay_76 : decode cX5_throwClay 76 = .ok (.getfield 23, 3) := by decide +kernel
theorem dX5_throwClay_79 : decode cX5_throwClay 79 = .ok (.iload_n 1, 1) := by decide +kernel
theorem dX5_throwClay_80 : decode cX5_throwClay 80 = .ok (.invokevirtual 122, 3) := by decide +kernel
theorem dX5_throwClay_83 : decode cX5_throwClay 83 = .ok (.aload_n 0, 1) := by decide +kernel
theorem dX5_throwClay_84 : decode cX5_throwClay 84 = .ok (.getfield 30, 3) := by decide +kernel
theorem dX5_throwClay_87 : decode cX5_throwClay 87 = .ok (.iload_n 1, 1) := by decide +kernel
theorem dX5_throwClay_88 : decode cX5_throwClay 88 = .ok (.iload_n 2, 1) := by decide +kernel
theorem dX5_throwClay_89 : decode cX5_throwClay 89 = .ok (.aload_n 0, 1) := by decide +kernel
theorem dX5_throwClay_90 : decode cX5_throwClay 90 = .ok (.invokevirtual 125, 3) := by decide +kernel
theorem dX5_throwClay_93 : decode cX5_throwClay 93 = .ok (.invokevirtual 128, 3) := by decide +kernel
theorem dX5_throwClay_96 : decode cX5_throwClay 96 = .ok (.ireturn, 1) := by decide +kernel
theorem dX5_drawFault_0 : decode cX5_drawFault 0 = .ok (.aload_n 0, 1) := by decide +kernel
theorem dX5_drawFault_1 : decode cX5_drawFault 1 = .ok (.bipush 75, 2) := by decide +kernel
theorem dX5_drawFault_3 : decode cX5_drawFault 3 = .ok (.aload_n 0, 1) := by decide +kernel
theorem dX5_drawFault_4 : decode cX5_drawFault 4 = .ok (.getfield 40, 3) := by decide +kernel
theorem dX5_drawFault_7 : decode cX5_drawFault 7 = .ok (.imul, 1) := by decide +kernel
theorem dX5_drawFault_8 : decode cX5_drawFault 8 = .ok (.bipush 74, 2) := by decide +kernel
theorem dX5_drawFault_10 : decode cX5_drawFault 10 = .ok (.iadd, 1) := by decide +kernel
theorem dX5_drawFault_11 : decode cX5_drawFault 11 = .ok (.ldc 132, 2) := by decide +kernel
theorem dX5_drawFault_13 : decode cX5_drawFault 13 = .ok (.irem, 1) := by decide +kernel
theorem dX5_drawFault_14 : decode cX5_drawFault 14 = .ok (.putfield 40, 3) := by decide +kernel
theorem dX5_drawFault_17 : decode cX5_drawFault 17 = .ok (.aload_n 0, 1) := by decide +kernel
theorem dX5_drawFault_18 : decode cX5_drawFault 18 = .ok (.getfield 40, 3) := by decide +kernel
theorem dX5_drawFault_21 : decode cX5_drawFault 21 = .ok (.bipush 8, 2) := by decide +kernel
theorem dX5_drawFault_23 : decode cX5_drawFault 23 = .ok (.idiv, 1) := by decide +kernel
theorem dX5_drawFault_24 : decode cX5_drawFault 24 = .ok (.bipush 10, 2) := by decide +kernel
theorem dX5_drawFault_26 : decode cX5_drawFault 26 = .ok (.irem, 1) := by decide +kernel
theorem dX5_drawFault_27 : decode cX5_drawFault 27 = .ok (.ireturn, 1) := by decide +kernel
set_option maxRecDepth 20000 in
theorem ggX5_glazePot_X3_has : GoodIn wsX5_glazePot wsX3_has := goodIn_r _ [7, 8, 50, 51, 52, 53, 54, 55, 56, 57, 58] (by decide +kernel) (by decide +kernel)
set_option maxRecDepth 20000 in
theorem gX5_glazePot_X3_has : GoodIn wsX5_glazePot (wsV RX5 133 RX3 yX3_has wsX3_has) := goodIn_app (goodIn_of _ (by decide +kernel)) ggX5_glazePot_X3_has
set_option maxRecDepth 20000 in
theorem ggX5_glazePot_X6_isGlaze : GoodIn wsX5_glazePot wsX6_isGlaze := goodIn_r _ [11, 12, 13, 10, 14] (by decide +kernel) (by decide +kernel)
set_option maxRecDepth 20000 in
theorem gX5_glazePot_X6_isGlaze_n136 : GoodIn wsX5_glazePot (wsX6_isGlaze) := ggX5_glazePot_X6_isGlaze
set_option maxRecDepth 20000 in
theorem ggX5_glazePot_X4_at : GoodIn wsX5_glazePot wsX4_at := goodIn_r _ [19, 20, 59] (by decide +kernel) (by decide +kernel)
set_option maxRecDepth 20000 in
theorem gX5_glazePot_X4_at : GoodIn wsX5_glazePot (wsV RX5 75 RX4 yX4_at wsX4_at) := goodIn_app (goodIn_of _ (by decide +kernel)) ggX5_glazePot_X4_at
set_option maxRecDepth 20000 in
theorem ggX5_glazePot_X3_isKind : GoodIn wsX5_glazePot wsX3_isKind := goodIn_r _ [24, 25, 26, 16, 17, 18, 19, 20, 50, 51, 52, 53, 54, 55, 56, 57, 58, 59] (by decide +kernel) (by decide +kernel)
set_option maxRecDepth 20000 in
theorem gX5_glazePot_X3_isKind : GoodIn wsX5_glazePot (wsV RX5 142 RX3 yX3_isKind wsX3_isKind) := goodIn_app (goodIn_of _ (by decide +kernel)) ggX5_glazePot_X3_isKind
set_option maxRecDepth 20000 in
theorem ggX5_glazePot_X3_isOnRack : GoodIn wsX5_glazePot wsX3_isOnRack := goodIn_r _ [30, 31, 26, 16, 17, 18, 19, 20, 50, 51, 52, 53, 54, 55, 56, 57, 58, 59] (by decide +kernel) (by decide +kernel)
set_option maxRecDepth 20000 in
theorem gX5_glazePot_X3_isOnRack : GoodIn wsX5_glazePot (wsV RX5 145 RX3 yX3_isOnRack wsX3_isOnRack) := goodIn_app (goodIn_of _ (by decide +kernel)) ggX5_glazePot_X3_isOnRack
set_option maxRecDepth 20000 in
theorem ggX5_glazePot_X4_add : GoodIn wsX5_glazePot wsX4_add := goodIn_r _ [35, 36, 16, 17, 18, 19, 20, 37, 38, 39, 40, 59] (by decide +kernel) (by decide +kernel)
set_option maxRecDepth 20000 in
theorem gX5_glazePot_X4_add : GoodIn wsX5_glazePot (wsV RX5 148 RX4 yX4_add wsX4_add) := goodIn_app (goodIn_of _ (by decide +kernel)) ggX5_glazePot_X4_add
set_option maxRecDepth 20000 in
theorem ggX5_glazePot_X4_write : GoodIn wsX5_glazePot wsX4_write := goodIn_r _ [40, 20, 59] (by decide +kernel) (by decide +kernel)
set_option maxRecDepth 20000 in
theorem gX5_glazePot_X4_write : GoodIn wsX5_glazePot (wsV RX5 44 RX4 yX4_write wsX4_write) := goodIn_app (goodIn_of _ (by decide +kernel)) ggX5_glazePot_X4_write
theorem dX5_glazePot_0 : decode cX5_glazePot 0 = .ok (.aload_n 0, 1) := by decide +kernel
theorem dX5_glazePot_1 : decode cX5_glazePot 1 = .ok (.getfield 30, 3) := by decide +kernel
theorem dX5_glazePot_4 : decode cX5_glazePot 4 = .ok (.iload_n 1, 1) := by decide +kernel
theorem dX5_glazePot_5 : decode cX5_glazePot 5 = .ok (.invokevirtual 133, 3) := by decide +kernel
theorem dX5_glazePot_8 : decode cX5_glazePot 8 = .ok (.ifCond .eq 10, 3) := by decide +kernel
theorem dX5_glazePot_11 : decode cX5_glazePot 11 = .ok (.iload_n 2, 1) := by decide +kernel
theorem dX5_glazePot_12 : decode cX5_glazePot 12 = .ok (.invokestatic 136, 3) := by decide +kernel
theorem dX5_glazePot_15 : decode cX5_glazePot 15 = .ok (.ifCond .ne 5, 3) := by decide +kernel
theorem dX5_glazePot_18 : decode cX5_glazePot 18 = .ok (.iconst (-1), 1) := by decide +kernel
theorem dX5_glazePot_19 : decode cX5_glazePot 19 = .ok (.ireturn, 1) := by decide +kernel
theorem dX5_glazePot_20 : decode cX5_glazePot 20 = .ok (.aload_n 0, 1) := by decide +kernel
theorem dX5_glazePot_21 : decode cX5_glazePot 21 = .ok (.getfield 30, 3) := by decide +kernel
theorem dX5_glazePot_24 : decode cX5_glazePot 24 = .ok (.getfield 139, 3) := by decide +kernel
theorem dX5_glazePot_27 : decode cX5_glazePot 27 = .ok (.iload_n 1, 1) := by decide +kernel
theorem dX5_glazePot_28 : decode cX5_glazePot 28 = .ok (.invokevirtual 75, 3) := by decide +kernel
theorem dX5_glazePot_31 : decode cX5_glazePot 31 = .ok (.istore_n 3, 1) := by decide +kernel
theorem dX5_glazePot_32 : decode cX5_glazePot 32 = .ok (.aload_n 0, 1) := by decide +kernel
theorem dX5_glazePot_33 : decode cX5_glazePot 33 = .ok (.getfield 30, 3) := by decide +kernel
theorem dX5_glazePot_36 : decode cX5_glazePot 36 = .ok (.iload_n 1, 1) := by decide +kernel
theorem dX5_glazePot_37 : decode cX5_glazePot 37 = .ok (.iconst 1, 1) := by decide +kernel
theorem dX5_glazePot_38 : decode cX5_glazePot 38 = .ok (.invokevirtual 142, 3) := by decide +kernel
theorem dX5_glazePot_41 : decode cX5_glazePot 41 = .ok (.ifCond .eq 26, 3) := by decide +kernel
theorem dX5_glazePot_44 : decode cX5_glazePot 44 = .ok (.aload_n 0, 1) := by decide +kernel
theorem dX5_glazePot_45 : decode cX5_glazePot 45 = .ok (.getfield 30, 3) := by decide +kernel
theorem dX5_glazePot_48 : decode cX5_glazePot 48 = .ok (.iload_n 1, 1) := by decide +kernel
theorem dX5_glazePot_49 : decode cX5_glazePot 49 = .ok (.invokevirtual 145, 3) := by decide +kernel
theorem dX5_glazePot_52 : decode cX5_glazePot 52 = .ok (.ifCond .eq 15, 3) := by decide +kernel
theorem dX5_glazePot_55 : decode cX5_glazePot 55 = .ok (.aload_n 0, 1) := by decide +kernel
theorem dX5_glazePot_56 : decode cX5_glazePot 56 = .ok (.getfield 34, 3) := by decide +kernel
theorem dX5_glazePot_59 : decode cX5_glazePot 59 = .ok (.iload_n 2, 1) := by decide +kernel
theorem dX5_glazePot_60 : decode cX5_glazePot 60 = .ok (.invokevirtual 75, 3) := by decide +kernel
theorem dX5_glazePot_63 : decode cX5_glazePot 63 = .ok (.iload_n 3, 1) := by decide +kernel
theorem dX5_glazePot_64 : decode cX5_glazePot 64 = .ok (.if_icmp .ge 6, 3) := by decide +kernel
theorem dX5_glazePot_67 : decode cX5_glazePot 67 = .ok (.bipush (-5), 2) := by decide +kernel
theorem dX5_glazePot_69 : decode cX5_glazePot 69 = .ok (.ireturn, 1) := by decide +kernel
theorem dX5_glazePot_70 : decode cX5_glazePot 70 = .ok (.aload_n 0, 1) := by decide +kernel
theorem dX5_glazePot_71 : decode cX5_glazePot 71 = .ok (.getfield 34, 3) := by decide +kernel
theorem dX5_glazePot_74 : decode cX5_glazePot 74 = .ok (.iload_n 2, 1) := by decide +kernel
theorem dX5_glazePot_75 : decode cX5_glazePot 75 = .ok (.iload_n 3, 1) := by decide +kernel
theorem dX5_glazePot_76 : decode cX5_glazePot 76 = .ok (.ineg, 1) := by decide +kernel
theorem dX5_glazePot_77 : decode cX5_glazePot 77 = .ok (.invokevirtual 148, 3) := by decide +kernel
theorem dX5_glazePot_80 : decode cX5_glazePot 80 = .ok (.aload_n 0, 1) := by decide +kernel
theorem dX5_glazePot_81 : decode cX5_glazePot 81 = .ok (.getfield 30, 3) := by decide +kernel
theorem dX5_glazePot_84 : decode cX5_glazePot 84 = .ok (.getfield 151, 3) := by decide +kernel
theorem dX5_glazePot_87 : decode cX5_glazePot 87 = .ok (.iload_n 1, 1) := by decide +kernel
theorem dX5_glazePot_88 : decode cX5_glazePot 88 = .ok (.iconst 2, 1) := by decide +kernel
theorem dX5_glazePot_89 : decode cX5_glazePot 89 = .ok (.invokevirtual 44, 3) := by decide +kernel
theorem dX5_glazePot_92 : decode cX5_glazePot 92 = .ok (.aload_n 0, 1) := by decide +kernel
theorem dX5_glazePot_93 : decode cX5_glazePot 93 = .ok (.getfield 30, 3) := by decide +kernel
theorem dX5_glazePot_96 : decode cX5_glazePot 96 = .ok (.getfield 154, 3) := by decide +kernel
theorem dX5_glazePot_99 : decode cX5_glazePot 99 = .ok (.iload_n 1, 1) := by decide +kernel
theorem dX5_glazePot_100 : decode cX5_glazePot 100 = .ok (.iload_n 2, 1) := by decide +kernel
theorem dX5_glazePot_101 : decode cX5_glazePot 101 = .ok (.invokevirtual 44, 3) := by decide +kernel
theorem dX5_glazePot_104 : decode cX5_glazePot 104 = .ok (.aload_n 0, 1) := by decide +kernel
theorem dX5_glazePot_105 : decode cX5_glazePot 105 = .ok (.getfield 34, 3) := by decide +kernel
theorem dX5_glazePot_108 : decode cX5_glazePot 108 = .ok (.iload_n 2, 1) := by decide +kernel
theorem dX5_glazePot_109 : decode cX5_glazePot 109 = .ok (.invokevirtual 75, 3) := by decide +kernel
theorem dX5_glazePot_112 : decode cX5_glazePot 112 = .ok (.ireturn, 1) := by decide +kernel
set_option maxRecDepth 20000 in
theorem ggX5_fillGlaze_X6_isGlaze : GoodIn wsX5_fillGlaze wsX6_isGlaze := goodIn_r _ [8, 9, 10, 7, 11] (by decide +kernel) (by decide +kernel)
set_option maxRecDepth 20000 in
theorem gX5_fillGlaze_X6_isGlaze_n136 : GoodIn wsX5_fillGlaze (wsX6_isGlaze) := ggX5_fillGlaze_X6_isGlaze
set_option maxRecDepth 20000 in
theorem ggX5_fillGlaze_X6_isWithin : GoodIn wsX5_fillGlaze wsX6_isWithin := goodIn_r _ [11] (by decide +kernel) (by decide +kernel)
set_option maxRecDepth 20000 in
theorem gX5_fillGlaze_X6_isWithin_n67 : GoodIn wsX5_fillGlaze (wsX6_isWithin) := ggX5_fillGlaze_X6_isWithin
set_option maxRecDepth 20000 in
theorem ggX5_fillGlaze_X4_at : GoodIn wsX5_fillGlaze wsX4_at := goodIn_r _ [16, 17, 30] (by decide +kernel) (by decide +kernel)
set_option maxRecDepth 20000 in
theorem gX5_fillGlaze_X4_at : GoodIn wsX5_fillGlaze (wsV RX5 75 RX4 yX4_at wsX4_at) := goodIn_app (goodIn_of _ (by decide +kernel)) ggX5_fillGlaze_X4_at
set_option maxRecDepth 20000 in
theorem ggX5_fillGlaze_X4_write : GoodIn wsX5_fillGlaze wsX4_write := goodIn_r _ [21, 17, 30] (by decide +kernel) (by decide +kernel)
set_option maxRecDepth 20000 in
theorem gX5_fillGlaze_X4_write : GoodIn wsX5_fillGlaze (wsV RX5 44 RX4 yX4_write wsX4_write) := goodIn_app (goodIn_of _ (by decide +kernel)) ggX5_fillGlaze_X4_write
theorem dX5_fillGlaze_0 : decode cX5_fillGlaze 0 = .ok (.iload_n 1, 1) := by decide +kernel
theorem dX5_fillGlaze_1 : decode cX5_fillGlaze 1 = .ok (.invokestatic 136, 3) := by decide +kernel
theorem dX5_fillGlaze_4 : decode cX5_fillGlaze 4 = .ok (.ifCond .ne 5, 3) := by decide +kernel
theorem dX5_fillGlaze_7 : decode cX5_fillGlaze 7 = .ok (.iconst (-1), 1) := by decide +kernel
theorem dX5_fillGlaze_8 : decode cX5_fillGlaze 8 = .ok (.ireturn, 1) := by decide +kernel
theorem dX5_fillGlaze_9 : decode cX5_fillGlaze 9 = .ok (.iload_n 2, 1) := by decide +kernel
theorem dX5_fillGlaze_10 : decode cX5_fillGlaze 10 = .ok (.iconst 1, 1) := by decide +kernel
theorem dX5_fillGlaze_11 : decode cX5_fillGlaze 11 = .ok (.bipush 99, 2) := by decide +kernel
theorem dX5_fillGlaze_13 : decode cX5_fillGlaze 13 = .ok (.invokestatic 67, 3) := by decide +kernel
theorem dX5_fillGlaze_16 : decode cX5_fillGlaze 16 = .ok (.ifCond .ne 6, 3) := by decide +kernel
theorem dX5_fillGlaze_19 : decode cX5_fillGlaze 19 = .ok (.bipush (-2), 2) := by decide +kernel
theorem dX5_fillGlaze_21 : decode cX5_fillGlaze 21 = .ok (.ireturn, 1) := by decide +kernel
theorem dX5_fillGlaze_22 : decode cX5_fillGlaze 22 = .ok (.aload_n 0, 1) := by decide +kernel
theorem dX5_fillGlaze_23 : decode cX5_fillGlaze 23 = .ok (.getfield 34, 3) := by decide +kernel
theorem dX5_fillGlaze_26 : decode cX5_fillGlaze 26 = .ok (.iload_n 1, 1) := by decide +kernel
theorem dX5_fillGlaze_27 : decode cX5_fillGlaze 27 = .ok (.aload_n 0, 1) := by decide +kernel
theorem dX5_fillGlaze_28 : decode cX5_fillGlaze 28 = .ok (.getfield 34, 3) := by decide +kernel
theorem dX5_fillGlaze_31 : decode cX5_fillGlaze 31 = .ok (.iload_n 1, 1) := by decide +kernel
theorem dX5_fillGlaze_32 : decode cX5_fillGlaze 32 = .ok (.invokevirtual 75, 3) := by decide +kernel
theorem dX5_fillGlaze_35 : decode cX5_fillGlaze 35 = .ok (.iload_n 2, 1) := by decide +kernel
theorem dX5_fillGlaze_36 : decode cX5_fillGlaze 36 = .ok (.iadd, 1) := by decide +kernel
theorem dX5_fillGlaze_37 : decode cX5_fillGlaze 37 = .ok (.bipush 99, 2) := by decide +kernel
theorem dX5_fillGlaze_39 : decode cX5_fillGlaze 39 = .ok (.invokestatic 157, 3) := by decide +kernel
theorem dX5_fillGlaze_42 : decode cX5_fillGlaze 42 = .ok (.invokevirtual 44, 3) := by decide +kernel
theorem dX5_fillGlaze_45 : decode cX5_fillGlaze 45 = .ok (.aload_n 0, 1) := by decide +kernel
theorem dX5_fillGlaze_46 : decode cX5_fillGlaze 46 = .ok (.getfield 34, 3) := by decide +kernel
theorem dX5_fillGlaze_49 : decode cX5_fillGlaze 49 = .ok (.iload_n 1, 1) := by decide +kernel
theorem dX5_fillGlaze_50 : decode cX5_fillGlaze 50 = .ok (.invokevirtual 75, 3) := by decide +kernel
theorem dX5_fillGlaze_53 : decode cX5_fillGlaze 53 = .ok (.ireturn, 1) := by decide +kernel
set_option maxRecDepth 20000 in
theorem ggX5_handOver_X3_has : GoodIn wsX5_handOver wsX3_has := goodIn_r _ [8, 9, 45, 46, 47, 48, 49, 50, 51, 52, 53] (by decide +kernel) (by decide +kernel)
set_option maxRecDepth 20000 in
theorem gX5_handOver_X3_has : GoodIn wsX5_handOver (wsV RX5 133 RX3 yX3_has wsX3_has) := goodIn_app (goodIn_of _ (by decide +kernel)) ggX5_handOver_X3_has
set_option maxRecDepth 20000 in
theorem ggX5_handOver_X3_isKind : GoodIn wsX5_handOver wsX3_isKind := goodIn_r _ [13, 14, 15, 16, 17, 18, 19, 20, 45, 46, 47, 48, 49, 50, 51, 52, 53, 54] (by decide +kernel) (by decide +kernel)
set_option maxRecDepth 20000 in
theorem gX5_handOver_X3_isKind : GoodIn wsX5_handOver (wsV RX5 142 RX3 yX3_isKind wsX3_isKind) := goodIn_app (goodIn_of _ (by decide +kernel)) ggX5_handOver_X3_isKind
set_option maxRecDepth 20000 in
theorem ggX5_handOver_X3_isOnRack : GoodIn wsX5_handOver wsX3_isOnRack := goodIn_r _ [24, 25, 15, 16, 17, 18, 19, 20, 45, 46, 47, 48, 49, 50, 51, 52, 53, 54] (by decide +kernel) (by decide +kernel)
set_option maxRecDepth 20000 in
theorem gX5_handOver_X3_isOnRack : GoodIn wsX5_handOver (wsV RX5 145 RX3 yX3_isOnRack wsX3_isOnRack) := goodIn_app (goodIn_of _ (by decide +kernel)) ggX5_handOver_X3_isOnRack
set_option maxRecDepth 20000 in
theorem ggX5_handOver_X4_at : GoodIn wsX5_handOver wsX4_at := goodIn_r _ [19, 20, 54] (by decide +kernel) (by decide +kernel)
set_option maxRecDepth 20000 in
theorem gX5_handOver_X4_at : GoodIn wsX5_handOver (wsV RX5 75 RX4 yX4_at wsX4_at) := goodIn_app (goodIn_of _ (by decide +kernel)) ggX5_handOver_X4_at
set_option maxRecDepth 20000 in
theorem ggX5_handOver_X4_add : GoodIn wsX5_handOver wsX4_add := goodIn_r _ [30, 31, 16, 17, 18, 19, 20, 32, 33, 34, 35, 54] (by decide +kernel) (by decide +kernel)
set_option maxRecDepth 20000 in
theorem gX5_handOver_X4_add : GoodIn wsX5_handOver (wsV RX5 148 RX4 yX4_add wsX4_add) := goodIn_app (goodIn_of _ (by decide +kernel)) ggX5_handOver_X4_add
set_option maxRecDepth 20000 in
theorem ggX5_handOver_X4_write : GoodIn wsX5_handOver wsX4_write := goodIn_r _ [35, 20, 54] (by decide +kernel) (by decide +kernel)
set_option maxRecDepth 20000 in
theorem gX5_handOver_X4_write : GoodIn wsX5_handOver (wsV RX5 44 RX4 yX4_write wsX4_write) := goodIn_app (goodIn_of _ (by decide +kernel)) ggX5_handOver_X4_write
theorem dX5_handOver_0 : decode cX5_handOver 0 = .ok (.aload_n 0, 1) := by decide +kernel
theorem dX5_handOver_1 : decode cX5_handOver 1 = .ok (.getfield 30, 3) := by decide +kernel
theorem dX5_handOver_4 : decode cX5_handOver 4 = .ok (.iload_n 1, 1) := by decide +kernel
theorem dX5_handOver_5 : decode cX5_handOver 5 = .ok (.invokevirtual 133, 3) := by decide +kernel
theorem dX5_handOver_8 : decode cX5_handOver 8 = .ok (.ifCond .ne 5, 3) := by decide +kernel
theorem dX5_handOver_11 : decode cX5_handOver 11 = .ok (.iconst (-1), 1) := by decide +kernel
theorem dX5_handOver_12 : decode cX5_handOver 12 = .ok (.ireturn, 1) := by decide +kernel
theorem dX5_handOver_13 : decode cX5_handOver 13 = .ok (.aload_n 0, 1) := by decide +kernel
theorem dX5_handOver_14 : decode cX5_handOver 14 = .ok (.getfield 30, 3) := by decide +kernel
theorem dX5_handOver_17 : decode cX5_handOver 17 = .ok (.iload_n 1, 1) := by decide +kernel
theorem dX5_handOver_18 : decode cX5_handOver 18 = .ok (.iconst 3, 1) := by decide +kernel
theorem dX5_handOver_19 : decode cX5_handOver 19 = .ok (.invokevirtual 142, 3) := by decide +kernel
theorem dX5_handOver_22 : decode cX5_handOver 22 = .ok (.ifCond .eq 14, 3) := by decide +kernel
theorem dX5_handOver_25 : decode cX5_handOver 25 = .ok (.aload_n 0, 1) := by decide +kernel
theorem dX5_handOver_26 : decode cX5_handOver 26 = .ok (.getfield 30, 3) := by decide +kernel
theorem dX5_handOver_29 : decode cX5_handOver 29 = .ok (.iload_n 1, 1) := by decide +kernel
theorem dX5_handOver_30 : decode cX5_handOver 30 = .ok (.invokevirtual 145, 3) := by decide +kernel
theorem dX5_handOver_33 : decode cX5_handOver 33 = .ok (.ifCond .ne 6, 3) := by decide +kernel
theorem dX5_handOver_36 : decode cX5_handOver 36 = .ok (.bipush (-5), 2) := by decide +kernel
theorem dX5_handOver_38 : decode cX5_handOver 38 = .ok (.ireturn, 1) := by decide +kernel
theorem dX5_handOver_39 : decode cX5_handOver 39 = .ok (.aload_n 0, 1) := by decide +kernel
theorem dX5_handOver_40 : decode cX5_handOver 40 = .ok (.getfield 14, 3) := by decide +kernel
theorem dX5_handOver_43 : decode cX5_handOver 43 = .ok (.iconst 3, 1) := by decide +kernel
theorem dX5_handOver_44 : decode cX5_handOver 44 = .ok (.invokevirtual 75, 3) := by decide +kernel
theorem dX5_handOver_47 : decode cX5_handOver 47 = .ok (.aload_n 0, 1) := by decide +kernel
theorem dX5_handOver_48 : decode cX5_handOver 48 = .ok (.getfield 30, 3) := by decide +kernel
theorem dX5_handOver_51 : decode cX5_handOver 51 = .ok (.getfield 139, 3) := by decide +kernel
theorem dX5_handOver_54 : decode cX5_handOver 54 = .ok (.iload_n 1, 1) := by decide +kernel
theorem dX5_handOver_55 : decode cX5_handOver 55 = .ok (.invokevirtual 75, 3) := by decide +kernel
theorem dX5_handOver_58 : decode cX5_handOver 58 = .ok (.imul, 1) := by decide +kernel
theorem dX5_handOver_59 : decode cX5_handOver 59 = .ok (.istore_n 2, 1) := by decide +kernel
theorem dX5_handOver_60 : decode cX5_handOver 60 = .ok (.aload_n 0, 1) := by decide +kernel
theorem dX5_handOver_61 : decode cX5_handOver 61 = .ok (.getfield 37, 3) := by decide +kernel
theorem dX5_handOver_64 : decode cX5_handOver 64 = .ok (.aload_n 0, 1) := by decide +kernel
theorem dX5_handOver_65 : decode cX5_handOver 65 = .ok (.getfield 30, 3) := by decide +kernel
theorem dX5_handOver_68 : decode cX5_handOver 68 = .ok (.getfield 162, 3) := by decide +kernel
theorem dX5_handOver_71 : decode cX5_handOver 71 = .ok (.iload_n 1, 1) := by decide +kernel
theorem dX5_handOver_72 : decode cX5_handOver 72 = .ok (.invokevirtual 75, 3) := by decide +kernel
theorem dX5_handOver_75 : decode cX5_handOver 75 = .ok (.iload_n 2, 1) := by decide +kernel
theorem dX5_handOver_76 : decode cX5_handOver 76 = .ok (.invokevirtual 148, 3) := by decide +kernel
theorem dX5_handOver_79 : decode cX5_handOver 79 = .ok (.aload_n 0, 1) := by decide +kernel
theorem dX5_handOver_80 : decode cX5_handOver 80 = .ok (.getfield 30, 3) := by decide +kernel
theorem dX5_handOver_83 : decode cX5_handOver 83 = .ok (.getfield 164, 3) := by decide +kernel
theorem dX5_handOver_86 : decode cX5_handOver 86 = .ok (.iload_n 1, 1) := by decide +kernel
theorem dX5_handOver_87 : decode cX5_handOver 87 = .ok (.bipush 25, 2) := by decide +kernel
theorem dX5_handOver_89 : decode cX5_handOver 89 = .ok (.invokevirtual 44, 3) := by decide +kernel
theorem dX5_handOver_92 : decode cX5_handOver 92 = .ok (.iload_n 2, 1) := by decide +kernel
theorem dX5_handOver_93 : decode cX5_handOver 93 = .ok (.ireturn, 1) := by decide +kernel
set_option maxRecDepth 20000 in
theorem ggX5_nightsLacking_X4_at : GoodIn wsX5_nightsLacking wsX4_at := goodIn_r _ [11, 12, 30] (by decide +kernel) (by decide +kernel)
set_option maxRecDepth 20000 in
theorem gX5_nightsLacking_X4_at : GoodIn wsX5_nightsLacking (wsV RX5 75 RX4 yX4_at wsX4_at) := goodIn_app (goodIn_of _ (by decide +kernel)) ggX5_nightsLacking_X4_at
theorem dX5_nightsLacking_0 : decode cX5_nightsLacking 0 = .ok (.aload_n 0, 1) := by decide +kernel
theorem dX5_nightsLacking_1 : decode cX5_nightsLacking 1 = .ok (.getfield 14, 3) := by decide +kernel
theorem dX5_nightsLacking_4 : decode cX5_nightsLacking 4 = .ok (.iconst 0, 1) := by decide +kernel
theorem dX5_nightsLacking_5 : decode cX5_nightsLacking 5 = .ok (.invokevirtual 75, 3) := by decide +kernel
theorem dX5_nightsLacking_8 : decode cX5_nightsLacking 8 = .ok (.aload_n 0, 1) := by decide +kernel
theorem dX5_nightsLacking_9 : decode cX5_nightsLacking 9 = .ok (.getfield 30, 3) := by decide +kernel
theorem dX5_nightsLacking_12 : decode cX5_nightsLacking 12 = .ok (.getfield 139, 3) := by decide +kernel
theorem dX5_nightsLacking_15 : decode cX5_nightsLacking 15 = .ok (.iload_n 1, 1) := by decide +kernel
theorem dX5_nightsLacking_16 : decode cX5_nightsLacking 16 = .ok (.invokevirtual 75, 3) := by decide +kernel
theorem dX5_nightsLacking_19 : decode cX5_nightsLacking 19 = .ok (.imul, 1) := by decide +kernel
theorem dX5_nightsLacking_20 : decode cX5_nightsLacking 20 = .ok (.aload_n 0, 1) := by decide +kernel
theorem dX5_nightsLacking_21 : decode cX5_nightsLacking 21 = .ok (.getfield 30, 3) := by decide +kernel
theorem dX5_nightsLacking_24 : decode cX5_nightsLacking 24 = .ok (.getfield 167, 3) := by decide +kernel
theorem dX5_nightsLacking_27 : decode cX5_nightsLacking 27 = .ok (.iload_n 1, 1) := by decide +kernel
theorem dX5_nightsLacking_28 : decode cX5_nightsLacking 28 = .ok (.invokevirtual 75, 3) := by decide +kernel
theorem dX5_nightsLacking_31 : decode cX5_nightsLacking 31 = .ok (.isub, 1) := by decide +kernel
theorem dX5_nightsLacking_32 : decode cX5_nightsLacking 32 = .ok (.iconst 0, 1) := by decide +kernel
theorem dX5_nightsLacking_33 : decode cX5_nightsLacking 33 = .ok (.invokestatic 170, 3) := by decide +kernel
theorem dX5_nightsLacking_36 : decode cX5_nightsLacking 36 = .ok (.ireturn, 1) := by decide +kernel
set_option maxRecDepth 20000 in
theorem ggX5_nightsUntilDry_X3_has : GoodIn wsX5_nightsUntilDry wsX3_has := goodIn_r _ [6, 7, 47, 48, 49, 50, 51, 52, 53, 54, 55] (by decide +kernel) (by decide +kernel)
set_option maxRecDepth 20000 in
theorem gX5_nightsUntilDry_X3_has : GoodIn wsX5_nightsUntilDry (wsV RX5 133 RX3 yX3_has wsX3_has) := goodIn_app (goodIn_of _ (by decide +kernel)) ggX5_nightsUntilDry_X3_has
set_option maxRecDepth 20000 in
theorem ggX5_nightsUntilDry_X3_isKind : GoodIn wsX5_nightsUntilDry wsX3_isKind := goodIn_r _ [11, 12, 13, 14, 15, 16, 17, 18, 47, 48, 49, 50, 51, 52, 53, 54, 55, 56] (by decide +kernel) (by decide +kernel)
set_option maxRecDepth 20000 in
theorem gX5_nightsUntilDry_X3_isKind : GoodIn wsX5_nightsUntilDry (wsV RX5 142 RX3 yX3_isKind wsX3_isKind) := goodIn_app (goodIn_of _ (by decide +kernel)) ggX5_nightsUntilDry_X3_isKind
set_option maxRecDepth 20000 in
theorem ggX5_nightsUntilDry_X3_isInKiln : GoodIn wsX5_nightsUntilDry wsX3_isInKiln := goodIn_r _ [22, 23, 13, 14, 15, 16, 17, 18, 47, 48, 49, 50, 51, 52, 53, 54, 55, 56] (by decide +kernel) (by decide +kernel)
set_option maxRecDepth 20000 in
theorem gX5_nightsUntilDry_X3_isInKiln : GoodIn wsX5_nightsUntilDry (wsV RX5 173 RX3 yX3_isInKiln wsX3_isInKiln) := goodIn_app (goodIn_of _ (by decide +kernel)) ggX5_nightsUntilDry_X3_isInKiln
set_option maxRecDepth 20000 in
theorem ggX5_nightsUntilDry_X5_nightsLacking : GoodIn wsX5_nightsUntilDry wsX5_nightsLacking := goodIn_r _ [28, 29, 1, 30, 31, 32, 33, 34, 14, 15, 16, 17, 18, 39, 40, 41, 42, 43, 44, 45, 46, 47, 48, 49, 50, 51, 52, 53, 54, 55, 56] (by decide +kernel) (by decide +kernel)
set_option maxRecDepth 20000 in
theorem gX5_nightsUntilDry_X5_nightsLacking : GoodIn wsX5_nightsUntilDry (wsV RX5 176 RX5 yX5_nightsLacking wsX5_nightsLacking) := goodIn_app (goodIn_of _ (by decide +kernel)) ggX5_nightsUntilDry_X5_nightsLacking
set_option maxRecDepth 20000 in
theorem ggX5_nightsUntilDry_X3_isBesideKiln : GoodIn wsX5_nightsUntilDry wsX3_isBesideKiln := goodIn_r _ [38, 23, 13, 14, 15, 16, 17, 18, 47, 48, 49, 50, 51, 52, 53, 54, 55, 56] (by decide +kernel) (by decide +kernel)
set_option maxRecDepth 20000 in
theorem gX5_nightsUntilDry_X3_isBesideKiln : GoodIn wsX5_nightsUntilDry (wsV RX5 179 RX3 yX3_isBesideKiln wsX3_isBesideKiln) := goodIn_app (goodIn_of _ (by decide +kernel)) ggX5_nightsUntilDry_X3_isBesideKiln
theorem dX5_nightsUntilDry_0 : decode cX5_nightsUntilDry 0 = .ok (.aload_n 0, 1) := by decide +kernel
theorem dX5_nightsUntilDry_1 : decode cX5_nightsUntilDry 1 = .ok (.getfield 30, 3) := by decide +kernel
theorem dX5_nightsUntilDry_4 : decode cX5_nightsUntilDry 4 = .ok (.iload_n 1, 1) := by decide +kernel
theorem dX5_nightsUntilDry_5 : decode cX5_nightsUntilDry 5 = .ok (.invokevirtual 133, 3) := by decide +kernel
theorem dX5_nightsUntilDry_8 : decode cX5_nightsUntilDry 8 = .ok (.ifCond .ne 5, 3) := by decide +kernel
theorem dX5_nightsUntilDry_11 : decode cX5_nightsUntilDry 11 = .ok (.iconst (-1), 1) := by decide +kernel
theorem dX5_nightsUntilDry_12 : decode cX5_nightsUntilDry 12 = .ok (.ireturn, 1) := by decide +kernel
theorem dX5_nightsUntilDry_13 : decode cX5_nightsUntilDry 13 = .ok (.aload_n 0, 1) := by decide +kernel
theorem dX5_nightsUntilDry_14 : decode cX5_nightsUntilDry 14 = .ok (.getfield 30, 3) := by decide +kernel
theorem dX5_nightsUntilDry_17 : decode cX5_nightsUntilDry 17 = .ok (.iload_n 1, 1) := by decide +kernel
theorem dX5_nightsUntilDry_18 : decode cX5_nightsUntilDry 18 = .ok (.iconst 0, 1) := by decide +kernel
theorem dX5_nightsUntilDry_19 : decode cX5_nightsUntilDry 19 = .ok (.invokevirtual 142, 3) := by decide +kernel
theorem dX5_nightsUntilDry_22 : decode cX5_nightsUntilDry 22 = .ok (.ifCond .ne 5, 3) := by decide +kernel
theorem dX5_nightsUntilDry_25 : decode cX5_nightsUntilDry 25 = .ok (.iconst 0, 1) := by decide +kernel
theorem dX5_nightsUntilDry_26 : decode cX5_nightsUntilDry 26 = .ok (.ireturn, 1) := by decide +kernel
theorem dX5_nightsUntilDry_27 : decode cX5_nightsUntilDry 27 = .ok (.aload_n 0, 1) := by decide +kernel
theorem dX5_nightsUntilDry_28 : decode cX5_nightsUntilDry 28 = .ok (.getfield 30, 3) := by decide +kernel
theorem dX5_nightsUntilDry_31 : decode cX5_nightsUntilDry 31 = .ok (.iload_n 1, 1) := by decide +kernel
theorem dX5_nightsUntilDry_32 : decode cX5_nightsUntilDry 32 = .ok (.invokevirtual 173, 3) := by decide +kernel
theorem dX5_nightsUntilDry_35 : decode cX5_nightsUntilDry 35 = .ok (.ifCond .eq 6, 3) := by decide +kernel
theorem dX5_nightsUntilDry_38 : decode cX5_nightsUntilDry 38 = .ok (.bipush (-5), 2) := by decide +kernel
theorem dX5_nightsUntilDry_40 : decode cX5_nightsUntilDry 40 = .ok (.ireturn, 1) := by decide +kernel
theorem dX5_nightsUntilDry_41 : decode cX5_nightsUntilDry 41 = .ok (.aload_n 0, 1) := by decide +kernel
theorem dX5_nightsUntilDry_42 : decode cX5_nightsUntilDry 42 = .ok (.iload_n 1, 1) := by decide +kernel
theorem dX5_nightsUntilDry_43 : decode cX5_nightsUntilDry 43 = .ok (.invokevirtual 176, 3) := by decide +kernel
theorem dX5_nightsUntilDry_46 : decode cX5_nightsUntilDry 46 = .ok (.istore_n 2, 1) := by decide +kernel
theorem dX5_nightsUntilDry_47 : decode cX5_nightsUntilDry 47 = .ok (.aload_n 0, 1) := by decide +kernel
theorem dX5_nightsUntilDry_48 : decode cX5_nightsUntilDry 48 = .ok (.getfield 30, 3) := by decide +kernel
theorem dX5_nightsUntilDry_51 : decode cX5_nightsUntilDry 51 = .ok (.iload_n 1, 1) := by decide +kernel
theorem dX5_nightsUntilDry_52 : decode cX5_nightsUntilDry 52 = .ok (.invokevirtual 179, 3) := by decide +kernel
theorem dX5_nightsUntilDry_55 : decode cX5_nightsUntilDry 55 = .ok (.ifCond .eq 11, 3) := by decide +kernel
theorem dX5_nightsUntilDry_58 : decode cX5_nightsUntilDry 58 = .ok (.iload_n 2, 1) := by decide +kernel
theorem dX5_nightsUntilDry_59 : decode cX5_nightsUntilDry 59 = .ok (.iconst 1, 1) := by decide +kernel
theorem dX5_nightsUntilDry_60 : decode cX5_nightsUntilDry 60 = .ok (.iadd, 1) := by decide +kernel
theorem dX5_nightsUntilDry_61 : decode cX5_nightsUntilDry 61 = .ok (.iconst 2, 1) := by decide +kernel
theorem dX5_nightsUntilDry_62 : decode cX5_nightsUntilDry 62 = .ok (.idiv, 1) := by decide +kernel
theorem dX5_nightsUntilDry_63 : decode cX5_nightsUntilDry 63 = .ok (.goto 4, 3) := by decide +kernel
theorem dX5_nightsUntilDry_66 : decode cX5_nightsUntilDry 66 = .ok (.iload_n 2, 1) := by decide +kernel
theorem dX5_nightsUntilDry_67 : decode cX5_nightsUntilDry 67 = .ok (.ireturn, 1) := by decide +kernel
set_option maxRecDepth 20000 in
theorem ggX5_reasonAgainstLoading_X3_has : GoodIn wsX5_reasonAgainstLoading wsX3_has := goodIn_r _ [7, 8, 68, 69, 70, 71, 72, 73, 74, 75, 76] (by decide +kernel) (by decide +kernel)
set_option maxRecDepth 20000 in
theorem gX5_reasonAgainstLoading_X3_has : GoodIn wsX5_reasonAgainstLoading (wsV RX5 133 RX3 yX3_has wsX3_has) := goodIn_app (goodIn_of _ (by decide +kernel)) ggX5_reasonAgainstLoading_X3_has
set_option maxRecDepth 20000 in
theorem ggX5_reasonAgainstLoading_X3_isOnRack : GoodIn wsX5_reasonAgainstLoading wsX3_isOnRack := goodIn_r _ [12, 13, 14, 15, 16, 17, 18, 19, 68, 69, 70, 71, 72, 73, 74, 75, 76, 77] (by decide +kernel) (by decide +kernel)
set_option maxRecDepth 20000 in
theorem gX5_reasonAgainstLoading_X3_isOnRack : GoodIn wsX5_reasonAgainstLoading (wsV RX5 145 RX3 yX3_isOnRack wsX3_isOnRack) := goodIn_app (goodIn_of _ (by decide +kernel)) ggX5_reasonAgainstLoading_X3_isOnRack
set_option maxRecDepth 20000 in
theorem ggX5_reasonAgainstLoading_X3_isKind : GoodIn wsX5_reasonAgainstLoading wsX3_isKind := goodIn_r _ [23, 24, 14, 15, 16, 17, 18, 19, 68, 69, 70, 71, 72, 73, 74, 75, 76, 77] (by decide +kernel) (by decide +kernel)
set_option maxRecDepth 20000 in
theorem gX5_reasonAgainstLoading_X3_isKind : GoodIn wsX5_reasonAgainstLoading (wsV RX5 142 RX3 yX3_isKind wsX3_isKind) := goodIn_app (goodIn_of _ (by decide +kernel)) ggX5_reasonAgainstLoading_X3_isKind
set_option maxRecDepth 20000 in
theorem ggX5_reasonAgainstLoading_X5_nightsLacking : GoodIn wsX5_reasonAgainstLoading wsX5_nightsLacking := goodIn_r _ [29, 2, 1, 30, 31, 32, 33, 34, 15, 16, 17, 18, 19, 60, 61, 62, 63, 64, 65, 66, 67, 68, 69, 70, 71, 72, 73, 74, 75, 76, 77] (by decide +kernel) (by decide +kernel)
set_option maxRecDepth 20000 in
theorem gX5_reasonAgainstLoading_X5_nightsLacking : GoodIn wsX5_reasonAgainstLoading (wsV RX5 176 RX5 yX5_nightsLacking wsX5_nightsLacking) := goodIn_app (goodIn_of _ (by decide +kernel)) ggX5_reasonAgainstLoading_X5_nightsLacking
set_option maxRecDepth 20000 in
theorem ggX5_reasonAgainstLoading_X4_at : GoodIn wsX5_reasonAgainstLoading wsX4_at := goodIn_r _ [18, 19, 77] (by decide +kernel) (by decide +kernel)
set_option maxRecDepth 20000 in
theorem gX5_reasonAgainstLoading_X4_at : GoodIn wsX5_reasonAgainstLoading (wsV RX5 75 RX4 yX4_at wsX4_at) := goodIn_app (goodIn_of _ (by decide +kernel)) ggX5_reasonAgainstLoading_X4_at
set_option maxRecDepth 20000 in
theorem ggX5_reasonAgainstLoading_X3_isKilnForOtherThan : GoodIn wsX5_reasonAgainstLoading wsX3_isKilnForOtherThan := goodIn_r _ [38, 39, 40, 41, 6, 42, 13, 8, 43, 44, 45, 17, 46, 19, 47, 48, 49, 50, 24, 68, 69, 70, 71, 72, 73, 74, 75, 76, 77] (by decide +kernel) (by decide +kernel)
set_option maxRecDepth 20000 in
theorem gX5_reasonAgainstLoading_X3_isKilnForOtherThan : GoodIn wsX5_reasonAgainstLoading (wsV RX5 182 RX3 yX3_isKilnForOtherThan wsX3_isKilnForOtherThan) := goodIn_app (goodIn_of _ (by decide +kernel)) ggX5_reasonAgainstLoading_X3_isKilnForOtherThan
set_option maxRecDepth 20000 in
theorem ggX5_reasonAgainstLoading_X3_sizesInKiln : GoodIn wsX5_reasonAgainstLoading wsX3_sizesInKiln := goodIn_r _ [54, 8, 55, 56, 57, 58, 6, 59, 13, 14, 15, 16, 17, 18, 19, 68, 69, 70, 71, 72, 73, 74, 75, 76, 77] (by decide +kernel) (by decide +kernel)
set_option maxRecDepth 20000 in
theorem gX5_reasonAgainstLoading_X3_sizesInKiln : GoodIn wsX5_reasonAgainstLoading (wsV RX5 185 RX3 yX3_sizesInKiln wsX3_sizesInKiln) := goodIn_app (goodIn_of _ (by decide +kernel)) ggX5_reasonAgainstLoading_X3_sizesInKiln
theorem dX5_reasonAgainstLoading_0 : decode cX5_reasonAgainstLoading 0 = .ok (.aload_n 0, 1) := by decide +kernel
theorem dX5_reasonAgainstLoading_1 : decode cX5_reasonAgainstLoading 1 = .ok (.getfield 30, 3) := by decide +kernel
theorem dX5_reasonAgainstLoading_4 : decode cX5_reasonAgainstLoading 4 = .ok (.iload_n 1, 1) := by decide +kernel
theorem dX5_reasonAgainstLoading_5 : decode cX5_reasonAgainstLoading 5 = .ok (.invokevirtual 133, 3) := by decide +kernel
theorem dX5_reasonAgainstLoading_8 : decode cX5_reasonAgainstLoading 8 = .ok (.ifCond .ne 5, 3) := by decide +kernel
theorem dX5_reasonAgainstLoading_11 : decode cX5_reasonAgainstLoading 11 = .ok (.iconst (-1), 1) := by decide +kernel
theorem dX5_reasonAgainstLoading_12 : decode cX5_reasonAgainstLoading 12 = .ok (.ireturn, 1) := by decide +kernel
theorem dX5_reasonAgainstLoading_13 : decode cX5_reasonAgainstLoading 13 = .ok (.aload_n 0, 1) := by decide +kernel
theorem dX5_reasonAgainstLoading_14 : decode cX5_reasonAgainstLoading 14 = .ok (.getfield 30, 3) := by decide +kernel
theorem dX5_reasonAgainstLoading_17 : decode cX5_reasonAgainstLoading 17 = .ok (.iload_n 1, 1) := by decide +kernel
theorem dX5_reasonAgainstLoading_18 : decode cX5_reasonAgainstLoading 18 = .ok (.invokevirtual 145, 3) := by decide +kernel
theorem dX5_reasonAgainstLoading_21 : decode cX5_reasonAgainstLoading 21 = .ok (.ifCond .ne 5, 3) := by decide +kernel
theorem dX5_reasonAgainstLoading_24 : decode cX5_reasonAgainstLoading 24 = .ok (.iconst 1, 1) := by decide +kernel
theorem dX5_reasonAgainstLoading_25 : decode cX5_reasonAgainstLoading 25 = .ok (.ireturn, 1) := by decide +kernel
theorem dX5_reasonAgainstLoading_26 : decode cX5_reasonAgainstLoading 26 = .ok (.aload_n 0, 1) := by decide +kernel
theorem dX5_reasonAgainstLoading_27 : decode cX5_reasonAgainstLoading 27 = .ok (.getfield 30, 3) := by decide +kernel
theorem dX5_reasonAgainstLoading_30 : decode cX5_reasonAgainstLoading 30 = .ok (.iload_n 1, 1) := by decide +kernel
theorem dX5_reasonAgainstLoading_31 : decode cX5_reasonAgainstLoading 31 = .ok (.iconst 0, 1) := by decide +kernel
theorem dX5_reasonAgainstLoading_32 : decode cX5_reasonAgainstLoading 32 = .ok (.invokevirtual 142, 3) := by decide +kernel
theorem dX5_reasonAgainstLoading_35 : decode cX5_reasonAgainstLoading 35 = .ok (.istore_n 2, 1) := by decide +kernel
theorem dX5_reasonAgainstLoading_36 : decode cX5_reasonAgainstLoading 36 = .ok (.iload_n 2, 1) := by decide +kernel
theorem dX5_reasonAgainstLoading_37 : decode cX5_reasonAgainstLoading 37 = .ok (.ifCond .ne 17, 3) := by decide +kernel
theorem dX5_reasonAgainstLoading_40 : decode cX5_reasonAgainstLoading 40 = .ok (.aload_n 0, 1) := by decide +kernel
theorem dX5_reasonAgainstLoading_41 : decode cX5_reasonAgainstLoading 41 = .ok (.getfield 30, 3) := by decide +kernel
theorem dX5_reasonAgainstLoading_44 : decode cX5_reasonAgainstLoading 44 = .ok (.iload_n 1, 1) := by decide +kernel
theorem dX5_reasonAgainstLoading_45 : decode cX5_reasonAgainstLoading 45 = .ok (.iconst 2, 1) := by decide +kernel
theorem dX5_reasonAgainstLoading_46 : decode cX5_reasonAgainstLoading 46 = .ok (.invokevirtual 142, 3) := by decide +kernel
theorem dX5_reasonAgainstLoading_49 : decode cX5_reasonAgainstLoading 49 = .ok (.ifCond .ne 5, 3) := by decide +kernel
theorem dX5_reasonAgainstLoading_52 : decode cX5_reasonAgainstLoading 52 = .ok (.iconst 2, 1) := by decide +kernel
theorem dX5_reasonAgainstLoading_53 : decode cX5_reasonAgainstLoading 53 = .ok (.ireturn, 1) := by decide +kernel
theorem dX5_reasonAgainstLoading_54 : decode cX5_reasonAgainstLoading 54 = .ok (.iload_n 2, 1) := by decide +kernel
theorem dX5_reasonAgainstLoading_55 : decode cX5_reasonAgainstLoading 55 = .ok (.ifCond .eq 13, 3) := by decide +kernel
theorem dX5_reasonAgainstLoading_58 : decode cX5_reasonAgainstLoading 58 = .ok (.aload_n 0, 1) := by decide +kernel
theorem dX5_reasonAgainstLoading_59 : decode cX5_reasonAgainstLoading 59 = .ok (.iload_n 1, 1) := by decide +kernel
theorem dX5_reasonAgainstLoading_60 : decode cX5_reasonAgainstLoading 60 = .ok (.invokevirtual 176, 3) := by decide +kernel
theorem dX5_reasonAgainstLoading_63 : decode cX5_reasonAgainstLoading 63 = .ok (.ifCond .le 5, 3) := by decide +kernel
theorem dX5_reasonAgainstLoading_66 : decode cX5_reasonAgainstLoading 66 = .ok (.iconst 3, 1) := by decide +kernel
theorem dX5_reasonAgainstLoading_67 : decode cX5_reasonAgainstLoading 67 = .ok (.ireturn, 1) := by decide +kernel
theorem dX5_reasonAgainstLoading_68 : decode cX5_reasonAgainstLoading 68 = .ok (.aload_n 0, 1) := by decide +kernel
theorem dX5_reasonAgainstLoading_69 : decode cX5_reasonAgainstLoading 69 = .ok (.getfield 30, 3) := by decide +kernel
theorem dX5_reasonAgainstLoading_72 : decode cX5_reasonAgainstLoading 72 = .ok (.aload_n 0, 1) := by decide +kernel
theorem dX5_reasonAgainstLoading_73 : decode cX5_reasonAgainstLoading 73 = .ok (.getfield 30, 3) := by decide +kernel
theorem dX5_reasonAgainstLoading_76 : decode cX5_reasonAgainstLoading 76 = .ok (.getfield 151, 3) := by decide +kernel
theorem dX5_reasonAgainstLoading_79 : decode cX5_reasonAgainstLoading 79 = .ok (.iload_n 1, 1) := by decide +kernel
theorem dX5_reasonAgainstLoading_80 : decode cX5_reasonAgainstLoading 80 = .ok (.invokevirtual 75, 3) := by decide +kernel
theorem dX5_reasonAgainstLoading_83 : decode cX5_reasonAgainstLoading 83 = .ok (.invokevirtual 182, 3) := by decide +kernel
theorem dX5_reasonAgainstLoading_86 : decode cX5_reasonAgainstLoading 86 = .ok (.ifCond .eq 5, 3) := by decide +kernel
theorem dX5_reasonAgainstLoading_89 : decode cX5_reasonAgainstLoading 89 = .ok (.iconst 4, 1) := by decide +kernel
theorem dX5_reasonAgainstLoading_90 : decode cX5_reasonAgainstLoading 90 = .ok (.ireturn, 1) := by decide +kernel
theorem dX5_reasonAgainstLoading_91 : decode cX5_reasonAgainstLoading 91 = .ok (.aload_n 0, 1) := by decide +kernel
theorem dX5_reasonAgainstLoading_92 : decode cX5_reasonAgainstLoading 92 = .ok (.getfield 30, 3) := by decide +kernel
theorem dX5_reasonAgainstLoading_95 : decode cX5_reasonAgainstLoading 95 = .ok (.invokevirtual 185, 3) := by decide +kernel
theorem dX5_reasonAgainstLoading_98 : decode cX5_reasonAgainstLoading 98 = .ok (.aload_n 0, 1) := by decide +kernel
theorem dX5_reasonAgainstLoading_99 : decode cX5_reasonAgainstLoading 99 = .ok (.getfield 30, 3) := by decide +kernel
theorem dX5_reasonAgainstLoading_102 : decode cX5_reasonAgainstLoading 102 = .ok (.getfield 139, 3) := by decide +kernel
theorem dX5_reasonAgainstLoading_105 : decode cX5_reasonAgainstLoading 105 = .ok (.iload_n 1, 1) := by decide +kernel
theorem dX5_reasonAgainstLoading_106 : decode cX5_reasonAgainstLoading 106 = .ok (.invokevirtual 75, 3) := by decide +kernel
theorem dX5_reasonAgainstLoading_109 : decode cX5_reasonAgainstLoading 109 = .ok (.iadd, 1) := by decide +kernel
theorem dX5_reasonAgainstLoading_110 : decode cX5_reasonAgainstLoading 110 = .ok (.aload_n 0, 1) := by decide +kernel
theorem dX5_reasonAgainstLoading_111 : decode cX5_reasonAgainstLoading 111 = .ok (.getfield 14, 3) := by decide +kernel
theorem dX5_reasonAgainstLoading_114 : decode cX5_reasonAgainstLoading 114 = .ok (.iconst 1, 1) := by decide +kernel
theorem dX5_reasonAgainstLoading_115 : decode cX5_reasonAgainstLoading 115 = .ok (.invokevirtual 75, 3) := by decide +kernel
theorem dX5_reasonAgainstLoading_118 : decode cX5_reasonAgainstLoading 118 = .ok (.if_icmp .le 7, 3) := by decide +kernel
theorem dX5_reasonAgainstLoading_121 : decode cX5_reasonAgainstLoading 121 = .ok (.iconst 5, 1) := by decide +kernel
theorem dX5_reasonAgainstLoading_122 : decode cX5_reasonAgainstLoading 122 = .ok (.goto 4, 3) := by decide +kernel
theorem dX5_reasonAgainstLoading_125 : decode cX5_reasonAgainstLoading 125 = .ok (.iconst 0, 1) := by decide +kernel
theorem dX5_reasonAgainstLoading_126 : decode cX5_reasonAgainstLoading 126 = .ok (.ireturn, 1) := by decide +kernel
set_option maxRecDepth 20000 in
theorem ggX5_loadable_X5_reasonAgainstLoading : GoodIn wsX5_loadable wsX5_reasonAgainstLoading := goodIn_r _ [6, 1, 7, 8, 9, 10, 11, 12, 13, 14, 15, 16, 17, 18, 19, 20, 21, 22, 23, 24, 25, 26, 27, 28, 29, 30, 31, 32, 5, 33, 34, 35, 36, 37, 38, 39, 40, 41, 42, 43, 44, 45, 46, 47, 48, 49, 50, 51, 52, 53, 54, 55, 56, 57, 58, 59, 60, 61, 62, 63, 64, 65, 66, 67, 68, 69, 70, 71, 72, 73, 74, 75, 76, 77, 78, 79, 80, 81] (by decide +kernel) (by decide +kernel)
set_option maxRecDepth 20000 in
theorem gX5_loadable_X5_reasonAgainstLoading : GoodIn wsX5_loadable (wsV RX5 188 RX5 yX5_reasonAgainstLoading wsX5_reasonAgainstLoading) := goodIn_app (goodIn_of _ (by decide +kernel)) ggX5_loadable_X5_reasonAgainstLoading
theorem dX5_loadable_0 : decode cX5_loadable 0 = .ok (.iconst 0, 1) := by decide +kernel
theorem dX5_loadable_1 : decode cX5_loadable 1 = .ok (.istore_n 1, 1) := by decide +kernel
theorem dX5_loadable_2 : decode cX5_loadable 2 = .ok (.iconst 0, 1) := by decide +kernel
theorem dX5_loadable_3 : decode cX5_loadable 3 = .ok (.istore_n 2, 1) := by decide +kernel
theorem dX5_loadable_4 : decode cX5_loadable 4 = .ok (.iload_n 2, 1) := by decide +kernel
theorem dX5_loadable_5 : decode cX5_loadable 5 = .ok (.aload_n 0, 1) := by decide +kernel
theorem dX5_loadable_6 : decode cX5_loadable 6 = .ok (.getfield 30, 3) := by decide +kernel
theorem dX5_loadable_9 : decode cX5_loadable 9 = .ok (.getfield 64, 3) := by decide +kernel
theorem dX5_loadable_12 : decode cX5_loadable 12 = .ok (.if_icmp .ge 23, 3) := by decide +kernel
theorem dX5_loadable_15 : decode cX5_loadable 15 = .ok (.aload_n 0, 1) := by decide +kernel
theorem dX5_loadable_16 : decode cX5_loadable 16 = .ok (.iload_n 2, 1) := by decide +kernel
theorem dX5_loadable_17 : decode cX5_loadable 17 = .ok (.invokevirtual 188, 3) := by decide +kernel
theorem dX5_loadable_20 : decode cX5_loadable 20 = .ok (.ifCond .ne 9, 3) := by decide +kernel
theorem dX5_loadable_23 : decode cX5_loadable 23 = .ok (.iload_n 1, 1) := by decide +kernel
theorem dX5_loadable_24 : decode cX5_loadable 24 = .ok (.iconst 1, 1) := by decide +kernel
theorem dX5_loadable_25 : decode cX5_loadable 25 = .ok (.iload_n 2, 1) := by decide +kernel
theorem dX5_loadable_26 : decode cX5_loadable 26 = .ok (.ishl, 1) := by decide +kernel
theorem dX5_loadable_27 : decode cX5_loadable 27 = .ok (.ior, 1) := by decide +kernel
theorem dX5_loadable_28 : decode cX5_loadable 28 = .ok (.istore_n 1, 1) := by decide +kernel
theorem dX5_loadable_29 : decode cX5_loadable 29 = .ok (.iinc 2 1, 3) := by decide +kernel
theorem dX5_loadable_32 : decode cX5_loadable 32 = .ok (.goto (-28), 3) := by decide +kernel
theorem dX5_loadable_35 : decode cX5_loadable 35 = .ok (.iload_n 1, 1) := by decide +kernel
theorem dX5_loadable_36 : decode cX5_loadable 36 = .ok (.ireturn, 1) := by decide +kernel
set_option maxRecDepth 20000 in
theorem ggX5_moveIntoKiln_X5_reasonAgainstLoading : GoodIn wsX5_moveIntoKiln wsX5_reasonAgainstLoading := goodIn_r _ [6, 1, 7, 8, 9, 10, 11, 12, 13, 14, 15, 16, 17, 18, 19, 20, 21, 22, 23, 24, 25, 26, 27, 28, 29, 30, 31, 32, 5, 33, 34, 35, 36, 37, 38, 39, 40, 41, 42, 43, 44, 45, 46, 47, 48, 49, 50, 51, 52, 53, 54, 55, 56, 57, 58, 59, 60, 61, 62, 63, 68, 69, 70, 71, 72, 73, 74, 75, 76, 77, 78, 79, 80, 81, 82, 83, 84, 85] (by decide +kernel) (by decide +kernel)
set_option maxRecDepth 20000 in
theorem gX5_moveIntoKiln_X5_reasonAgainstLoading : GoodIn wsX5_moveIntoKiln (wsV RX5 188 RX5 yX5_reasonAgainstLoading wsX5_reasonAgainstLoading) := goodIn_app (goodIn_of _ (by decide +kernel)) ggX5_moveIntoKiln_X5_reasonAgainstLoading
set_option maxRecDepth 20000 in
theorem ggX5_moveIntoKiln_X4_write : GoodIn wsX5_moveIntoKiln wsX4_write := goodIn_r _ [67, 24, 85] (by decide +kernel) (by decide +kernel)
set_option maxRecDepth 20000 in
theorem gX5_moveIntoKiln_X4_write : GoodIn wsX5_moveIntoKiln (wsV RX5 44 RX4 yX4_write wsX4_write) := goodIn_app (goodIn_of _ (by decide +kernel)) ggX5_moveIntoKiln_X4_write
set_option maxRecDepth 20000 in
theorem ggX5_moveIntoKiln_X3_sizesInKiln : GoodIn wsX5_moveIntoKiln wsX3_sizesInKiln := goodIn_r _ [58, 13, 59, 60, 61, 62, 11, 63, 18, 19, 20, 21, 22, 23, 24, 76, 77, 78, 79, 80, 81, 82, 83, 84, 85] (by decide +kernel) (by decide +kernel)
set_option maxRecDepth 20000 in
theorem gX5_moveIntoKiln_X3_sizesInKiln : GoodIn wsX5_moveIntoKiln (wsV RX5 185 RX3 yX3_sizesInKiln wsX3_sizesInKiln) := goodIn_app (goodIn_of _ (by decide +kernel)) ggX5_moveIntoKiln_X3_sizesInKiln
theorem dX5_moveIntoKiln_0 : decode cX5_moveIntoKiln 0 = .ok (.aload_n 0, 1) := by decide +kernel
theorem dX5_moveIntoKiln_1 : decode cX5_moveIntoKiln 1 = .ok (.iload_n 1, 1) := by decide +kernel
theorem dX5_moveIntoKiln_2 : decode cX5_moveIntoKiln 2 = .ok (.invokevirtual 188, 3) := by decide +kernel
theorem dX5_moveIntoKiln_5 : decode cX5_moveIntoKiln 5 = .ok (.istore_n 2, 1) := by decide +kernel
theorem dX5_moveIntoKiln_6 : decode cX5_moveIntoKiln 6 = .ok (.iload_n 2, 1) := by decide +kernel
theorem dX5_moveIntoKiln_7 : decode cX5_moveIntoKiln 7 = .ok (.ifCond .eq 15, 3) := by decide +kernel
theorem dX5_moveIntoKiln_10 : decode cX5_moveIntoKiln 10 = .ok (.iload_n 2, 1) := by decide +kernel
theorem dX5_moveIntoKiln_11 : decode cX5_moveIntoKiln 11 = .ok (.iconst (-1), 1) := by decide +kernel
theorem dX5_moveIntoKiln_12 : decode cX5_moveIntoKiln 12 = .ok (.if_icmp .ne 7, 3) := by decide +kernel
theorem dX5_moveIntoKiln_15 : decode cX5_moveIntoKiln 15 = .ok (.iconst (-1), 1) := by decide +kernel
theorem dX5_moveIntoKiln_16 : decode cX5_moveIntoKiln 16 = .ok (.goto 5, 3) := by decide +kernel
theorem dX5_moveIntoKiln_19 : decode cX5_moveIntoKiln 19 = .ok (.bipush (-5), 2) := by decide +kernel
theorem dX5_moveIntoKiln_21 : decode cX5_moveIntoKiln 21 = .ok (.ireturn, 1) := by decide +kernel
theorem dX5_moveIntoKiln_22 : decode cX5_moveIntoKiln 22 = .ok (.aload_n 0, 1) := by decide +kernel
theorem dX5_moveIntoKiln_23 : decode cX5_moveIntoKiln 23 = .ok (.getfield 30, 3) := by decide +kernel
theorem dX5_moveIntoKiln_26 : decode cX5_moveIntoKiln 26 = .ok (.getfield 164, 3) := by decide +kernel
theorem dX5_moveIntoKiln_29 : decode cX5_moveIntoKiln 29 = .ok (.iload_n 1, 1) := by decide +kernel
theorem dX5_moveIntoKiln_30 : decode cX5_moveIntoKiln 30 = .ok (.bipush 24, 2) := by decide +kernel
theorem dX5_moveIntoKiln_32 : decode cX5_moveIntoKiln 32 = .ok (.invokevirtual 44, 3) := by decide +kernel
theorem dX5_moveIntoKiln_35 : decode cX5_moveIntoKiln 35 = .ok (.aload_n 0, 1) := by decide +kernel
theorem dX5_moveIntoKiln_36 : decode cX5_moveIntoKiln 36 = .ok (.getfield 30, 3) := by decide +kernel
theorem dX5_moveIntoKiln_39 : decode cX5_moveIntoKiln 39 = .ok (.invokevirtual 185, 3) := by decide +kernel
theorem dX5_moveIntoKiln_42 : decode cX5_moveIntoKiln 42 = .ok (.ireturn, 1) := by decide +kernel
set_option maxRecDepth 20000 in
theorem ggX5_moveOutOfKiln_X3_has : GoodIn wsX5_moveOutOfKiln wsX3_has := goodIn_r _ [6, 7, 51, 52, 53, 54, 55, 56, 57, 58, 59] (by decide +kernel) (by decide +kernel)
set_option maxRecDepth 20000 in
theorem gX5_moveOutOfKiln_X3_has : GoodIn wsX5_moveOutOfKiln (wsV RX5 133 RX3 yX3_has wsX3_has) := goodIn_app (goodIn_of _ (by decide +kernel)) ggX5_moveOutOfKiln_X3_has
set_option maxRecDepth 20000 in
theorem ggX5_moveOutOfKiln_X3_isInKiln : GoodIn wsX5_moveOutOfKiln wsX3_isInKiln := goodIn_r _ [11, 12, 13, 14, 15, 16, 17, 18, 51, 52, 53, 54, 55, 56, 57, 58, 59, 60] (by decide +kernel) (by decide +kernel)
set_option maxRecDepth 20000 in
theorem gX5_moveOutOfKiln_X3_isInKiln : GoodIn wsX5_moveOutOfKiln (wsV RX5 173 RX3 yX3_isInKiln wsX3_isInKiln) := goodIn_app (goodIn_of _ (by decide +kernel)) ggX5_moveOutOfKiln_X3_isInKiln
set_option maxRecDepth 20000 in
theorem ggX5_moveOutOfKiln_X3_freePlaces : GoodIn wsX5_moveOutOfKiln wsX3_freePlaces := goodIn_r _ [22, 23, 24, 25, 5, 26, 7, 12, 13, 14, 15, 16, 17, 18, 27, 28, 29, 30, 31, 32, 33, 51, 52, 53, 54, 55, 56, 57, 58, 59, 60] (by decide +kernel) (by decide +kernel)
set_option maxRecDepth 20000 in
theorem gX5_moveOutOfKiln_X3_freePlaces : GoodIn wsX5_moveOutOfKiln (wsV RX5 118 RX3 yX3_freePlaces wsX3_freePlaces) := goodIn_app (goodIn_of _ (by decide +kernel)) ggX5_moveOutOfKiln_X3_freePlaces
set_option maxRecDepth 20000 in
theorem ggX5_moveOutOfKiln_X3_putOnRack : GoodIn wsX5_moveOutOfKiln wsX3_putOnRack := goodIn_r _ [37, 12, 23, 24, 25, 5, 26, 7, 13, 14, 15, 16, 17, 18, 38, 39, 40, 41, 51, 52, 53, 54, 55, 56, 57, 58, 59, 60] (by decide +kernel) (by decide +kernel)
set_option maxRecDepth 20000 in
theorem gX5_moveOutOfKiln_X3_putOnRack : GoodIn wsX5_moveOutOfKiln (wsV RX5 191 RX3 yX3_putOnRack wsX3_putOnRack) := goodIn_app (goodIn_of _ (by decide +kernel)) ggX5_moveOutOfKiln_X3_putOnRack
set_option maxRecDepth 20000 in
theorem ggX5_moveOutOfKiln_X4_at : GoodIn wsX5_moveOutOfKiln wsX4_at := goodIn_r _ [17, 18, 60] (by decide +kernel) (by decide +kernel)
set_option maxRecDepth 20000 in
theorem gX5_moveOutOfKiln_X4_at : GoodIn wsX5_moveOutOfKiln (wsV RX5 75 RX4 yX4_at wsX4_at) := goodIn_app (goodIn_of _ (by decide +kernel)) ggX5_moveOutOfKiln_X4_at
theorem dX5_moveOutOfKiln_0 : decode cX5_moveOutOfKiln 0 = .ok (.aload_n 0, 1) := by decide +kernel
theorem dX5_moveOutOfKiln_1 : decode cX5_moveOutOfKiln 1 = .ok (.getfield 30, 3) := by decide +kernel
theorem dX5_moveOutOfKiln_4 : decode cX5_moveOutOfKiln 4 = .ok (.iload_n 1, 1) := by decide +kernel
theorem dX5_moveOutOfKiln_5 : decode cX5_moveOutOfKiln 5 = .ok (.invokevirtual 133, 3) := by decide +kernel
theorem dX5_moveOutOfKiln_8 : decode cX5_moveOutOfKiln 8 = .ok (.ifCond .ne 5, 3) := by decide +kernel
theorem dX5_moveOutOfKiln_11 : decode cX5_moveOutOfKiln 11 = .ok (.iconst (-1), 1) := by decide +kernel
theorem dX5_moveOutOfKiln_12 : decode cX5_moveOutOfKiln 12 = .ok (.ireturn, 1) := by decide +kernel
theorem dX5_moveOutOfKiln_13 : decode cX5_moveOutOfKiln 13 = .ok (.aload_n 0, 1) := by decide +kernel
theorem dX5_moveOutOfKiln_14 : decode cX5_moveOutOfKiln 14 = .ok (.getfield 30, 3) := by decide +kernel
theorem dX5_moveOutOfKiln_17 : decode cX5_moveOutOfKiln 17 = .ok (.iload_n 1, 1) := by decide +kernel
theorem dX5_moveOutOfKiln_18 : decode cX5_moveOutOfKiln 18 = .ok (.invokevirtual 173, 3) := by decide +kernel
theorem dX5_moveOutOfKiln_21 : decode cX5_moveOutOfKiln 21 = .ok (.ifCond .ne 6, 3) := by decide +kernel
theorem dX5_moveOutOfKiln_24 : decode cX5_moveOutOfKiln 24 = .ok (.bipush (-5), 2) := by decide +kernel
theorem dX5_moveOutOfKiln_26 : decode cX5_moveOutOfKiln 26 = .ok (.ireturn, 1) := by decide +kernel
theorem dX5_moveOutOfKiln_27 : decode cX5_moveOutOfKiln 27 = .ok (.aload_n 0, 1) := by decide +kernel
theorem dX5_moveOutOfKiln_28 : decode cX5_moveOutOfKiln 28 = .ok (.getfield 30, 3) := by decide +kernel
theorem dX5_moveOutOfKiln_31 : decode cX5_moveOutOfKiln 31 = .ok (.invokevirtual 118, 3) := by decide +kernel
theorem dX5_moveOutOfKiln_34 : decode cX5_moveOutOfKiln 34 = .ok (.ifCond .ne 6, 3) := by decide +kernel
theorem dX5_moveOutOfKiln_37 : decode cX5_moveOutOfKiln 37 = .ok (.bipush (-4), 2) := by decide +kernel
