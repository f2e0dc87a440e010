theorem dX5_factOfPot_185 : decode cX5_factOfPot 185 = .ok (.getfield 164, 3) := by decide +kernel
theorem dX5_factOfPot_188 : decode cX5_factOfPot 188 = .ok (.iload_n 1, 1) := by decide +kernel
theorem dX5_factOfPot_189 : decode cX5_factOfPot 189 = .ok (.invokevirtual 75, 3) := by decide +kernel
theorem dX5_factOfPot_192 : decode cX5_factOfPot 192 = .ok (.goto 5, 3) := by decide +kernel
theorem dX5_factOfPot_195 : decode cX5_factOfPot 195 = .ok (.bipush (-6), 2) := by decide +kernel
theorem dX5_factOfPot_197 : decode cX5_factOfPot 197 = .ok (.ireturn, 1) := by decide +kernel
theorem dX5_factOfPot_198 : decode cX5_factOfPot 198 = .ok (.aload_n 0, 1) := by decide +kernel
theorem dX5_factOfPot_199 : decode cX5_factOfPot 199 = .ok (.getfield 30, 3) := by decide +kernel
theorem dX5_factOfPot_202 : decode cX5_factOfPot 202 = .ok (.getfield 167, 3) := by decide +kernel
theorem dX5_factOfPot_205 : decode cX5_factOfPot 205 = .ok (.iload_n 1, 1) := by decide +kernel
theorem dX5_factOfPot_206 : decode cX5_factOfPot 206 = .ok (.invokevirtual 75, 3) := by decide +kernel
theorem dX5_factOfPot_209 : decode cX5_factOfPot 209 = .ok (.ireturn, 1) := by decide +kernel
theorem dX5_factOfPot_210 : decode cX5_factOfPot 210 = .ok (.iload 5, 2) := by decide +kernel
theorem dX5_factOfPot_212 : decode cX5_factOfPot 212 = .ok (.ifCond .ne 8, 3) := by decide +kernel
theorem dX5_factOfPot_215 : decode cX5_factOfPot 215 = .ok (.bipush (-6), 2) := by decide +kernel
theorem dX5_factOfPot_217 : decode cX5_factOfPot 217 = .ok (.goto 14, 3) := by decide +kernel
theorem dX5_factOfPot_220 : decode cX5_factOfPot 220 = .ok (.aload_n 0, 1) := by decide +kernel
theorem dX5_factOfPot_221 : decode cX5_factOfPot 221 = .ok (.getfield 30, 3) := by decide +kernel
theorem dX5_factOfPot_224 : decode cX5_factOfPot 224 = .ok (.getfield 219, 3) := by decide +kernel
theorem dX5_factOfPot_227 : decode cX5_factOfPot 227 = .ok (.iload_n 1, 1) := by decide +kernel
theorem dX5_factOfPot_228 : decode cX5_factOfPot 228 = .ok (.invokevirtual 75, 3) := by decide +kernel
theorem dX5_factOfPot_231 : decode cX5_factOfPot 231 = .ok (.ireturn, 1) := by decide +kernel
theorem dX5_factOfPot_232 : decode cX5_factOfPot 232 = .ok (.iload 4, 2) := by decide +kernel
theorem dX5_factOfPot_234 : decode cX5_factOfPot 234 = .ok (.ifCond .eq 17, 3) := by decide +kernel
theorem dX5_factOfPot_237 : decode cX5_factOfPot 237 = .ok (.aload_n 0, 1) := by decide +kernel
theorem dX5_factOfPot_238 : decode cX5_factOfPot 238 = .ok (.getfield 30, 3) := by decide +kernel
theorem dX5_factOfPot_241 : decode cX5_factOfPot 241 = .ok (.getfield 154, 3) := by decide +kernel
theorem dX5_factOfPot_244 : decode cX5_factOfPot 244 = .ok (.iload_n 1, 1) := by decide +kernel
theorem dX5_factOfPot_245 : decode cX5_factOfPot 245 = .ok (.invokevirtual 75, 3) := by decide +kernel
theorem dX5_factOfPot_248 : decode cX5_factOfPot 248 = .ok (.goto 5, 3) := by decide +kernel
theorem dX5_factOfPot_251 : decode cX5_factOfPot 251 = .ok (.bipush (-6), 2) := by decide +kernel
theorem dX5_factOfPot_253 : decode cX5_factOfPot 253 = .ok (.ireturn, 1) := by decide +kernel
theorem dX5_factOfPot_254 : decode cX5_factOfPot 254 = .ok (.iload 5, 2) := by decide +kernel
theorem dX5_factOfPot_256 : decode cX5_factOfPot 256 = .ok (.ireturn, 1) := by decide +kernel
theorem dX5_factOfPot_257 : decode cX5_factOfPot 257 = .ok (.bipush (-2), 2) := by decide +kernel
theorem dX5_factOfPot_259 : decode cX5_factOfPot 259 = .ok (.ireturn, 1) := by decide +kernel
set_option maxRecDepth 20000 in
theorem ggX5_factOfPupil_X5_hasPupil : GoodIn wsX5_factOfPupil wsX5_hasPupil := goodIn_r _ [8, 9, 53, 54, 55, 56, 57, 58, 59, 60] (by decide +kernel) (by decide +kernel)
set_option maxRecDepth 20000 in
theorem gX5_factOfPupil_X5_hasPupil : GoodIn wsX5_factOfPupil (wsV RX5 79 RX5 yX5_hasPupil wsX5_hasPupil) := goodIn_app (goodIn_of _ (by decide +kernel)) ggX5_factOfPupil_X5_hasPupil
set_option maxRecDepth 20000 in
theorem ggX5_factOfPupil_X0_wheelOf : GoodIn wsX5_factOfPupil wsX0_wheelOf := goodIn_r _ [14, 15, 16, 17, 13, 18, 19, 20, 21, 22, 23, 24, 25, 26, 27, 28, 29, 30, 61, 62, 63, 64] (by decide +kernel) (by decide +kernel)
set_option maxRecDepth 20000 in
theorem gX5_factOfPupil_X0_wheelOf : GoodIn wsX5_factOfPupil (wsV RX5 93 RX0 yX0_wheelOf wsX0_wheelOf) := goodIn_app (goodIn_of _ (by decide +kernel)) ggX5_factOfPupil_X0_wheelOf
set_option maxRecDepth 20000 in
theorem ggX5_factOfPupil_X3_thrownBy : GoodIn wsX5_factOfPupil wsX3_thrownBy := goodIn_r _ [35, 36, 37, 38, 39, 40, 28, 41, 30, 65, 66, 67, 68, 69, 70, 71, 72, 73, 64] (by decide +kernel) (by decide +kernel)
set_option maxRecDepth 20000 in
theorem gX5_factOfPupil_X3_thrownBy : GoodIn wsX5_factOfPupil (wsV RX5 222 RX3 yX3_thrownBy wsX3_thrownBy) := goodIn_app (goodIn_of _ (by decide +kernel)) ggX5_factOfPupil_X3_thrownBy
set_option maxRecDepth 20000 in
theorem ggX5_factOfPupil_X3_ofKind : GoodIn wsX5_factOfPupil wsX3_ofKind := goodIn_r _ [45, 46, 37, 38, 39, 40, 28, 41, 30, 65, 66, 67, 68, 69, 70, 71, 72, 73, 64] (by decide +kernel) (by decide +kernel)
set_option maxRecDepth 20000 in
theorem gX5_factOfPupil_X3_ofKind : GoodIn wsX5_factOfPupil (wsV RX5 225 RX3 yX3_ofKind wsX3_ofKind) := goodIn_app (goodIn_of _ (by decide +kernel)) ggX5_factOfPupil_X3_ofKind
set_option maxRecDepth 20000 in
theorem ggX5_factOfPupil_X4_at : GoodIn wsX5_factOfPupil wsX4_at := goodIn_r _ [29, 30, 64] (by decide +kernel) (by decide +kernel)
set_option maxRecDepth 20000 in
theorem gX5_factOfPupil_X4_at : GoodIn wsX5_factOfPupil (wsV RX5 75 RX4 yX4_at wsX4_at) := goodIn_app (goodIn_of _ (by decide +kernel)) ggX5_factOfPupil_X4_at
set_option maxRecDepth 20000 in
theorem ggX5_factOfPupil_X0_bookingsOf : GoodIn wsX5_factOfPupil wsX0_bookingsOf := goodIn_r _ [51, 52, 11, 12, 13, 14, 15, 16, 17, 18, 19, 20, 21, 22, 23, 24, 25, 26, 27, 28, 29, 30, 61, 62, 63, 64] (by decide +kernel) (by decide +kernel)
set_option maxRecDepth 20000 in
theorem gX5_factOfPupil_X0_bookingsOf : GoodIn wsX5_factOfPupil (wsV RX5 228 RX0 yX0_bookingsOf wsX0_bookingsOf) := goodIn_app (goodIn_of _ (by decide +kernel)) ggX5_factOfPupil_X0_bookingsOf
theorem dX5_factOfPupil_0 : decode cX5_factOfPupil 0 = .ok (.aload_n 0, 1) := by decide +kernel
theorem dX5_factOfPupil_1 : decode cX5_factOfPupil 1 = .ok (.iload_n 1, 1) := by decide +kernel
theorem dX5_factOfPupil_2 : decode cX5_factOfPupil 2 = .ok (.invokevirtual 79, 3) := by decide +kernel
theorem dX5_factOfPupil_5 : decode cX5_factOfPupil 5 = .ok (.ifCond .ne 5, 3) := by decide +kernel
theorem dX5_factOfPupil_8 : decode cX5_factOfPupil 8 = .ok (.iconst (-1), 1) := by decide +kernel
theorem dX5_factOfPupil_9 : decode cX5_factOfPupil 9 = .ok (.ireturn, 1) := by decide +kernel
theorem dX5_factOfPupil_10 : decode cX5_factOfPupil 10 = .ok (.iload_n 2, 1) := by decide +kernel
theorem dX5_factOfPupil_11 : decode cX5_factOfPupil 11 = .ok (.tableswitch 110 0 5 #[37, 47, 56, 74, 92, 101], 37) := by decide +kernel
theorem dX5_factOfPupil_48 : decode cX5_factOfPupil 48 = .ok (.aload_n 0, 1) := by decide +kernel
theorem dX5_factOfPupil_49 : decode cX5_factOfPupil 49 = .ok (.getfield 23, 3) := by decide +kernel
theorem dX5_factOfPupil_52 : decode cX5_factOfPupil 52 = .ok (.iload_n 1, 1) := by decide +kernel
theorem dX5_factOfPupil_53 : decode cX5_factOfPupil 53 = .ok (.iconst 0, 1) := by decide +kernel
theorem dX5_factOfPupil_54 : decode cX5_factOfPupil 54 = .ok (.invokevirtual 93, 3) := by decide +kernel
theorem dX5_factOfPupil_57 : decode cX5_factOfPupil 57 = .ok (.ireturn, 1) := by decide +kernel
theorem dX5_factOfPupil_58 : decode cX5_factOfPupil 58 = .ok (.aload_n 0, 1) := by decide +kernel
theorem dX5_factOfPupil_59 : decode cX5_factOfPupil 59 = .ok (.getfield 30, 3) := by decide +kernel
theorem dX5_factOfPupil_62 : decode cX5_factOfPupil 62 = .ok (.iload_n 1, 1) := by decide +kernel
theorem dX5_factOfPupil_63 : decode cX5_factOfPupil 63 = .ok (.invokevirtual 222, 3) := by decide +kernel
theorem dX5_factOfPupil_66 : decode cX5_factOfPupil 66 = .ok (.ireturn, 1) := by decide +kernel
theorem dX5_factOfPupil_67 : decode cX5_factOfPupil 67 = .ok (.aload_n 0, 1) := by decide +kernel
theorem dX5_factOfPupil_68 : decode cX5_factOfPupil 68 = .ok (.getfield 30, 3) := by decide +kernel
theorem dX5_factOfPupil_71 : decode cX5_factOfPupil 71 = .ok (.iload_n 1, 1) := by decide +kernel
theorem dX5_factOfPupil_72 : decode cX5_factOfPupil 72 = .ok (.invokevirtual 222, 3) := by decide +kernel
theorem dX5_factOfPupil_75 : decode cX5_factOfPupil 75 = .ok (.aload_n 0, 1) := by decide +kernel
theorem dX5_factOfPupil_76 : decode cX5_factOfPupil 76 = .ok (.getfield 30, 3) := by decide +kernel
theorem dX5_factOfPupil_79 : decode cX5_factOfPupil 79 = .ok (.iconst 3, 1) := by decide +kernel
theorem dX5_factOfPupil_80 : decode cX5_factOfPupil 80 = .ok (.invokevirtual 225, 3) := by decide +kernel
theorem dX5_factOfPupil_83 : decode cX5_factOfPupil 83 = .ok (.iand, 1) := by decide +kernel
theorem dX5_factOfPupil_84 : decode cX5_factOfPupil 84 = .ok (.ireturn, 1) := by decide +kernel
theorem dX5_factOfPupil_85 : decode cX5_factOfPupil 85 = .ok (.aload_n 0, 1) := by decide +kernel
theorem dX5_factOfPupil_86 : decode cX5_factOfPupil 86 = .ok (.getfield 30, 3) := by decide +kernel
theorem dX5_factOfPupil_89 : decode cX5_factOfPupil 89 = .ok (.iload_n 1, 1) := by decide +kernel
theorem dX5_factOfPupil_90 : decode cX5_factOfPupil 90 = .ok (.invokevirtual 222, 3) := by decide +kernel
theorem dX5_factOfPupil_93 : decode cX5_factOfPupil 93 = .ok (.aload_n 0, 1) := by decide +kernel
theorem dX5_factOfPupil_94 : decode cX5_factOfPupil 94 = .ok (.getfield 30, 3) := by decide +kernel
theorem dX5_factOfPupil_97 : decode cX5_factOfPupil 97 = .ok (.iconst 4, 1) := by decide +kernel
theorem dX5_factOfPupil_98 : decode cX5_factOfPupil 98 = .ok (.invokevirtual 225, 3) := by decide +kernel
theorem dX5_factOfPupil_101 : decode cX5_factOfPupil 101 = .ok (.iand, 1) := by decide +kernel
theorem dX5_factOfPupil_102 : decode cX5_factOfPupil 102 = .ok (.ireturn, 1) := by decide +kernel
theorem dX5_factOfPupil_103 : decode cX5_factOfPupil 103 = .ok (.aload_n 0, 1) := by decide +kernel
theorem dX5_factOfPupil_104 : decode cX5_factOfPupil 104 = .ok (.getfield 37, 3) := by decide +kernel
theorem dX5_factOfPupil_107 : decode cX5_factOfPupil 107 = .ok (.iload_n 1, 1) := by decide +kernel
theorem dX5_factOfPupil_108 : decode cX5_factOfPupil 108 = .ok (.invokevirtual 75, 3) := by decide +kernel
theorem dX5_factOfPupil_111 : decode cX5_factOfPupil 111 = .ok (.ireturn, 1) := by decide +kernel
theorem dX5_factOfPupil_112 : decode cX5_factOfPupil 112 = .ok (.aload_n 0, 1) := by decide +kernel
theorem dX5_factOfPupil_113 : decode cX5_factOfPupil 113 = .ok (.getfield 23, 3) := by decide +kernel
theorem dX5_factOfPupil_116 : decode cX5_factOfPupil 116 = .ok (.iload_n 1, 1) := by decide +kernel
theorem dX5_factOfPupil_117 : decode cX5_factOfPupil 117 = .ok (.invokevirtual 228, 3) := by decide +kernel
theorem dX5_factOfPupil_120 : decode cX5_factOfPupil 120 = .ok (.ireturn, 1) := by decide +kernel
theorem dX5_factOfPupil_121 : decode cX5_factOfPupil 121 = .ok (.bipush (-2), 2) := by decide +kernel
theorem dX5_factOfPupil_123 : decode cX5_factOfPupil 123 = .ok (.ireturn, 1) := by decide +kernel
set_option maxRecDepth 20000 in
theorem ggX5_figure_X6_isWithin : GoodIn wsX5_figure wsX6_isWithin := goodIn_r _ [10] (by decide +kernel) (by decide +kernel)
set_option maxRecDepth 20000 in
theorem gX5_figure_X6_isWithin_n67 : GoodIn wsX5_figure (wsX6_isWithin) := ggX5_figure_X6_isWithin
set_option maxRecDepth 20000 in
theorem ggX5_figure_X4_at : GoodIn wsX5_figure wsX4_at := goodIn_r _ [15, 16, 123] (by decide +kernel) (by decide +kernel)
set_option maxRecDepth 20000 in
theorem gX5_figure_X4_at : GoodIn wsX5_figure (wsV RX5 75 RX4 yX4_at wsX4_at) := goodIn_app (goodIn_of _ (by decide +kernel)) ggX5_figure_X4_at
set_option maxRecDepth 20000 in
theorem ggX5_figure_X3_onRacks : GoodIn wsX5_figure wsX3_onRacks := goodIn_r _ [21, 22, 23, 24, 25, 20, 26, 27, 28, 12, 13, 14, 15, 16, 114, 115, 116, 117, 118, 119, 120, 121, 122, 123] (by decide +kernel) (by decide +kernel)
set_option maxRecDepth 20000 in
theorem gX5_figure_X3_onRacks : GoodIn wsX5_figure (wsV RX5 231 RX3 yX3_onRacks wsX3_onRacks) := goodIn_app (goodIn_of _ (by decide +kernel)) ggX5_figure_X3_onRacks
set_option maxRecDepth 20000 in
theorem ggX5_figure_X3_inKiln : GoodIn wsX5_figure wsX3_inKiln := goodIn_r _ [32, 27, 22, 33, 34, 35, 14, 36, 16, 114, 115, 116, 117, 118, 119, 120, 121, 122, 123] (by decide +kernel) (by decide +kernel)
set_option maxRecDepth 20000 in
theorem gX5_figure_X3_inKiln : GoodIn wsX5_figure (wsV RX5 200 RX3 yX3_inKiln wsX3_inKiln) := goodIn_app (goodIn_of _ (by decide +kernel)) ggX5_figure_X3_inKiln
set_option maxRecDepth 20000 in
theorem ggX5_figure_X3_sizesInKiln : GoodIn wsX5_figure wsX3_sizesInKiln := goodIn_r _ [40, 22, 41, 42, 43, 44, 20, 45, 27, 28, 12, 13, 14, 15, 16, 114, 115, 116, 117, 118, 119, 120, 121, 122, 123] (by decide +kernel) (by decide +kernel)
set_option maxRecDepth 20000 in
theorem gX5_figure_X3_sizesInKiln : GoodIn wsX5_figure (wsV RX5 185 RX3 yX3_sizesInKiln wsX3_sizesInKiln) := goodIn_app (goodIn_of _ (by decide +kernel)) ggX5_figure_X3_sizesInKiln
set_option maxRecDepth 20000 in
theorem ggX5_figure_X3_freePlaces : GoodIn wsX5_figure wsX3_freePlaces := goodIn_r _ [49, 50, 51, 52, 20, 53, 22, 27, 28, 12, 13, 14, 15, 16, 54, 55, 56, 57, 58, 59, 60, 114, 115, 116, 117, 118, 119, 120, 121, 122, 123] (by decide +kernel) (by decide +kernel)
set_option maxRecDepth 20000 in
theorem gX5_figure_X3_freePlaces : GoodIn wsX5_figure (wsV RX5 118 RX3 yX3_freePlaces wsX3_freePlaces) := goodIn_app (goodIn_of _ (by decide +kernel)) ggX5_figure_X3_freePlaces
set_option maxRecDepth 20000 in
theorem ggX5_figure_X5_loadable : GoodIn wsX5_figure wsX5_loadable := goodIn_r _ [65, 5, 66, 67, 68, 64, 69, 2, 70, 71, 72, 20, 73, 22, 74, 24, 25, 26, 27, 28, 12, 13, 14, 15, 16, 75, 76, 77, 78, 79, 80, 81, 82, 83, 84, 85, 86, 87, 11, 88, 89, 90, 91, 92, 30, 31, 32, 33, 34, 35, 36, 93, 94, 95, 96, 37, 38, 39, 40, 41, 42, 43, 44, 45, 103, 104, 105, 106, 107, 108, 109, 110, 114, 115, 116, 117, 118, 119, 120, 121, 122, 123] (by decide +kernel) (by decide +kernel)
set_option maxRecDepth 20000 in
theorem gX5_figure_X5_loadable : GoodIn wsX5_figure (wsV RX5 234 RX5 yX5_loadable wsX5_loadable) := goodIn_app (goodIn_of _ (by decide +kernel)) ggX5_figure_X5_loadable
set_option maxRecDepth 20000 in
theorem ggX5_figure_X3_ofKind : GoodIn wsX5_figure wsX3_ofKind := goodIn_r _ [96, 79, 22, 33, 34, 35, 14, 36, 16, 114, 115, 116, 117, 118, 119, 120, 121, 122, 123] (by decide +kernel) (by decide +kernel)
set_option maxRecDepth 20000 in
theorem gX5_figure_X3_ofKind : GoodIn wsX5_figure (wsV RX5 225 RX3 yX3_ofKind wsX3_ofKind) := goodIn_app (goodIn_of _ (by decide +kernel)) ggX5_figure_X3_ofKind
set_option maxRecDepth 20000 in
theorem ggX5_figure_J6_bitCount_0f7a4 : GoodIn wsX5_figure wsJ6_bitCount_0f7a4 := goodIn_r _ [57, 58, 59, 60] (by decide +kernel) (by decide +kernel)
set_option maxRecDepth 20000 in
theorem gX5_figure_J6_bitCount_0f7a4 : GoodIn wsX5_figure (va_wsS RX5 206 yJ6_bitCount_0f7a4 wsJ6_bitCount_0f7a4) := goodIn_app (goodIn_of _ (by decide +kernel)) ggX5_figure_J6_bitCount_0f7a4
set_option maxRecDepth 20000 in
theorem ggX5_figure_X4_sum : GoodIn wsX5_figure wsX4_sum := goodIn_r _ [102, 16, 123] (by decide +kernel) (by decide +kernel)
set_option maxRecDepth 20000 in
theorem gX5_figure_X4_sum : GoodIn wsX5_figure (wsV RX5 237 RX4 yX4_sum wsX4_sum) := goodIn_app (goodIn_of _ (by decide +kernel)) ggX5_figure_X4_sum
theorem dX5_figure_0 : decode cX5_figure 0 = .ok (.iload_n 1, 1) := by decide +kernel
theorem dX5_figure_1 : decode cX5_figure 1 = .ok (.bipush 11, 2) := by decide +kernel
theorem dX5_figure_3 : decode cX5_figure 3 = .ok (.bipush 14, 2) := by decide +kernel
theorem dX5_figure_5 : decode cX5_figure 5 = .ok (.invokestatic 67, 3) := by decide +kernel
theorem dX5_figure_8 : decode cX5_figure 8 = .ok (.ifCond .eq 15, 3) := by decide +kernel
theorem dX5_figure_11 : decode cX5_figure 11 = .ok (.aload_n 0, 1) := by decide +kernel
theorem dX5_figure_12 : decode cX5_figure 12 = .ok (.getfield 34, 3) := by decide +kernel
theorem dX5_figure_15 : decode cX5_figure 15 = .ok (.iload_n 1, 1) := by decide +kernel
theorem dX5_figure_16 : decode cX5_figure 16 = .ok (.bipush 11, 2) := by decide +kernel
theorem dX5_figure_18 : decode cX5_figure 18 = .ok (.isub, 1) := by decide +kernel
theorem dX5_figure_19 : decode cX5_figure 19 = .ok (.invokevirtual 75, 3) := by decide +kernel
theorem dX5_figure_22 : decode cX5_figure 22 = .ok (.ireturn, 1) := by decide +kernel
theorem dX5_figure_23 : decode cX5_figure 23 = .ok (.iload_n 1, 1) := by decide +kernel
theorem dX5_figure_24 : decode cX5_figure 24 = .ok (.bipush 15, 2) := by decide +kernel
theorem dX5_figure_26 : decode cX5_figure 26 = .ok (.bipush 18, 2) := by decide +kernel
theorem dX5_figure_28 : decode cX5_figure 28 = .ok (.invokestatic 67, 3) := by decide +kernel
theorem dX5_figure_31 : decode cX5_figure 31 = .ok (.ifCond .eq 15, 3) := by decide +kernel
theorem dX5_figure_34 : decode cX5_figure 34 = .ok (.aload_n 0, 1) := by decide +kernel
theorem dX5_figure_35 : decode cX5_figure 35 = .ok (.getfield 14, 3) := by decide +kernel
theorem dX5_figure_38 : decode cX5_figure 38 = .ok (.iload_n 1, 1) := by decide +kernel
theorem dX5_figure_39 : decode cX5_figure 39 = .ok (.bipush 15, 2) := by decide +kernel
theorem dX5_figure_41 : decode cX5_figure 41 = .ok (.isub, 1) := by decide +kernel
theorem dX5_figure_42 : decode cX5_figure 42 = .ok (.invokevirtual 75, 3) := by decide +kernel
theorem dX5_figure_45 : decode cX5_figure 45 = .ok (.ireturn, 1) := by decide +kernel
theorem dX5_figure_46 : decode cX5_figure 46 = .ok (.iload_n 1, 1) := by decide +kernel
theorem dX5_figure_47 : decode cX5_figure 47 = .ok (.tableswitch 140 0 10 #[57, 65, 70, 78, 86, 94, 102, 110, 115, 120, 132], 57) := by decide +kernel
theorem dX5_figure_104 : decode cX5_figure 104 = .ok (.aload_n 0, 1) := by decide +kernel
theorem dX5_figure_105 : decode cX5_figure 105 = .ok (.getfield 23, 3) := by decide +kernel
theorem dX5_figure_108 : decode cX5_figure 108 = .ok (.getfield 100, 3) := by decide +kernel
theorem dX5_figure_111 : decode cX5_figure 111 = .ok (.ireturn, 1) := by decide +kernel
theorem dX5_figure_112 : decode cX5_figure 112 = .ok (.aload_n 0, 1) := by decide +kernel
theorem dX5_figure_113 : decode cX5_figure 113 = .ok (.getfield 58, 3) := by decide +kernel
theorem dX5_figure_116 : decode cX5_figure 116 = .ok (.ireturn, 1) := by decide +kernel
theorem dX5_figure_117 : decode cX5_figure 117 = .ok (.aload_n 0, 1) := by decide +kernel
theorem dX5_figure_118 : decode cX5_figure 118 = .ok (.getfield 30, 3) := by decide +kernel
theorem dX5_figure_121 : decode cX5_figure 121 = .ok (.getfield 64, 3) := by decide +kernel
theorem dX5_figure_124 : decode cX5_figure 124 = .ok (.ireturn, 1) := by decide +kernel
theorem dX5_figure_125 : decode cX5_figure 125 = .ok (.aload_n 0, 1) := by decide +kernel
theorem dX5_figure_126 : decode cX5_figure 126 = .ok (.getfield 30, 3) := by decide +kernel
theorem dX5_figure_129 : decode cX5_figure 129 = .ok (.invokevirtual 231, 3) := by decide +kernel
theorem dX5_figure_132 : decode cX5_figure 132 = .ok (.ireturn, 1) := by decide +kernel
theorem dX5_figure_133 : decode cX5_figure 133 = .ok (.aload_n 0, 1) := by decide +kernel
theorem dX5_figure_134 : decode cX5_figure 134 = .ok (.getfield 30, 3) := by decide +kernel
theorem dX5_figure_137 : decode cX5_figure 137 = .ok (.invokevirtual 200, 3) := by decide +kernel
theorem dX5_figure_140 : decode cX5_figure 140 = .ok (.ireturn, 1) := by decide +kernel
theorem dX5_figure_141 : decode cX5_figure 141 = .ok (.aload_n 0, 1) := by decide +kernel
theorem dX5_figure_142 : decode cX5_figure 142 = .ok (.getfield 30, 3) := by decide +kernel
theorem dX5_figure_145 : decode cX5_figure 145 = .ok (.invokevirtual 185, 3) := by decide +kernel
theorem dX5_figure_148 : decode cX5_figure 148 = .ok (.ireturn, 1) := by decide +kernel
theorem dX5_figure_149 : decode cX5_figure 149 = .ok (.aload_n 0, 1) := by decide +kernel
theorem dX5_figure_150 : decode cX5_figure 150 = .ok (.getfield 30, 3) := by decide +kernel
theorem dX5_figure_153 : decode cX5_figure 153 = .ok (.invokevirtual 118, 3) := by decide +kernel
theorem dX5_figure_156 : decode cX5_figure 156 = .ok (.ireturn, 1) := by decide +kernel
theorem dX5_figure_157 : decode cX5_figure 157 = .ok (.aload_n 0, 1) := by decide +kernel
theorem dX5_figure_158 : decode cX5_figure 158 = .ok (.invokevirtual 234, 3) := by decide +kernel
theorem dX5_figure_161 : decode cX5_figure 161 = .ok (.ireturn, 1) := by decide +kernel
theorem dX5_figure_162 : decode cX5_figure 162 = .ok (.aload_n 0, 1) := by decide +kernel
theorem dX5_figure_163 : decode cX5_figure 163 = .ok (.getfield 61, 3) := by decide +kernel
theorem dX5_figure_166 : decode cX5_figure 166 = .ok (.ireturn, 1) := by decide +kernel
theorem dX5_figure_167 : decode cX5_figure 167 = .ok (.aload_n 0, 1) := by decide +kernel
theorem dX5_figure_168 : decode cX5_figure 168 = .ok (.getfield 30, 3) := by decide +kernel
theorem dX5_figure_171 : decode cX5_figure 171 = .ok (.iconst 4, 1) := by decide +kernel
theorem dX5_figure_172 : decode cX5_figure 172 = .ok (.invokevirtual 225, 3) := by decide +kernel
theorem dX5_figure_175 : decode cX5_figure 175 = .ok (.invokestatic 206, 3) := by decide +kernel
theorem dX5_figure_178 : decode cX5_figure 178 = .ok (.ireturn, 1) := by decide +kernel
theorem dX5_figure_179 : decode cX5_figure 179 = .ok (.aload_n 0, 1) := by decide +kernel
theorem dX5_figure_180 : decode cX5_figure 180 = .ok (.getfield 37, 3) := by decide +kernel
theorem dX5_figure_183 : decode cX5_figure 183 = .ok (.invokevirtual 237, 3) := by decide +kernel
theorem dX5_figure_186 : decode cX5_figure 186 = .ok (.ireturn, 1) := by decide +kernel
theorem dX5_figure_187 : decode cX5_figure 187 = .ok (.bipush (-2), 2) := by decide +kernel
theorem dX5_figure_189 : decode cX5_figure 189 = .ok (.ireturn, 1) := by decide +kernel
set_option maxRecDepth 20000 in
theorem ggX6_init_X5_init : GoodIn wsX6_init wsX5_init := goodIn_r _ [19, 20, 2, 3, 21, 22, 23, 24, 25, 26, 27, 28, 29, 30, 31, 32, 33, 34, 35, 36, 37, 38, 39, 40, 41, 42, 43, 44, 45, 46, 47, 48, 49, 50, 51, 52, 53, 54, 55, 56, 57, 58, 59, 60, 61, 62, 63, 64, 65, 66, 67, 68, 102, 80, 81, 82, 83, 84, 85, 86, 87, 103, 104, 105, 106, 107, 108, 109, 110, 111, 112, 113, 114] (by decide +kernel) (by decide +kernel)
set_option maxRecDepth 20000 in
theorem gX6_init_X5_init : GoodIn wsX6_init (wsX5_init) := ggX6_init_X5_init
set_option maxRecDepth 20000 in
theorem ggX6_init_X1_init : GoodIn wsX6_init wsX1_init := goodIn_r _ [71, 72, 2, 3, 73, 74, 5, 6, 75, 18, 19, 20, 21, 22, 23, 24, 25, 26, 27, 28, 29, 30, 31, 32, 33, 34, 35, 36, 37, 38, 39, 40, 41, 42, 43, 44, 45, 46, 47, 48, 49, 50, 51, 52, 53, 54, 55, 56, 57, 58, 59, 60, 61, 62, 63, 64, 65, 66, 67, 68, 92, 93, 94, 80, 81, 82, 83, 84, 85, 86, 87, 102, 103, 104, 105, 106, 107, 108, 109, 110, 111, 112, 113, 114] (by decide +kernel) (by decide +kernel)
set_option maxRecDepth 20000 in
theorem gX6_init_X1_init : GoodIn wsX6_init (wsX1_init) := ggX6_init_X1_init
set_option maxRecDepth 20000 in
theorem ggX6_init_X2_init : GoodIn wsX6_init wsX2_init := goodIn_r _ [77, 78, 2, 3, 44, 79, 95, 96, 97, 98, 99, 100, 101] (by decide +kernel) (by decide +kernel)
set_option maxRecDepth 20000 in
theorem gX6_init_X2_init_n29 : GoodIn wsX6_init (wsX2_init) := ggX6_init_X2_init
theorem dX6_init_0 : decode cX6_init 0 = .ok (.aload_n 0, 1) := by decide +kernel
theorem dX6_init_1 : decode cX6_init 1 = .ok (.invokespecial 3, 3) := by decide +kernel
theorem dX6_init_4 : decode cX6_init 4 = .ok (.aload_n 0, 1) := by decide +kernel
theorem dX6_init_5 : decode cX6_init 5 = .ok (.new 9, 3) := by decide +kernel
theorem dX6_init_8 : decode cX6_init 8 = .ok (.dup, 1) := by decide +kernel
theorem dX6_init_9 : decode cX6_init 9 = .ok (.invokespecial 11, 3) := by decide +kernel
theorem dX6_init_12 : decode cX6_init 12 = .ok (.putfield 12, 3) := by decide +kernel
theorem dX6_init_15 : decode cX6_init 15 = .ok (.aload_n 0, 1) := by decide +kernel
theorem dX6_init_16 : decode cX6_init 16 = .ok (.new 16, 3) := by decide +kernel
theorem dX6_init_19 : decode cX6_init 19 = .ok (.dup, 1) := by decide +kernel
theorem dX6_init_20 : decode cX6_init 20 = .ok (.invokespecial 18, 3) := by decide +kernel
theorem dX6_init_23 : decode cX6_init 23 = .ok (.putfield 19, 3) := by decide +kernel
theorem dX6_init_26 : decode cX6_init 26 = .ok (.aload_n 0, 1) := by decide +kernel
theorem dX6_init_27 : decode cX6_init 27 = .ok (.iconst 2, 1) := by decide +kernel
theorem dX6_init_28 : decode cX6_init 28 = .ok (.anewarray 9, 3) := by decide +kernel
theorem dX6_init_31 : decode cX6_init 31 = .ok (.putfield 23, 3) := by decide +kernel
theorem dX6_init_34 : decode cX6_init 34 = .ok (.aload_n 0, 1) := by decide +kernel
theorem dX6_init_35 : decode cX6_init 35 = .ok (.new 27, 3) := by decide +kernel
theorem dX6_init_38 : decode cX6_init 38 = .ok (.dup, 1) := by decide +kernel
theorem dX6_init_39 : decode cX6_init 39 = .ok (.invokespecial 29, 3) := by decide +kernel
theorem dX6_init_42 : decode cX6_init 42 = .ok (.putfield 30, 3) := by decide +kernel
theorem dX6_init_45 : decode cX6_init 45 = .ok (.return_, 1) := by decide +kernel
set_option maxRecDepth 20000 in
theorem ggX6_set_X1_prepare : GoodIn wsX6_set wsX1_prepare := goodIn_r _ [7, 8, 9, 10, 11, 6, 12, 13, 14, 15, 16, 17, 18, 19, 20, 21, 22, 23, 24, 25, 26, 27, 28, 29, 30, 31, 32, 33, 34, 35, 36, 37, 38, 39, 40, 41, 42, 43, 44, 45, 46, 47, 48, 49, 50, 51, 52, 53, 54, 55, 56, 57, 58, 59, 60, 61, 62, 63, 64, 93, 94, 95, 96, 97, 98, 99, 100, 101, 102, 103, 104, 105, 106, 107, 108, 109, 110, 111, 112, 113, 114, 115, 116] (by decide +kernel) (by decide +kernel)
set_option maxRecDepth 20000 in
theorem gX6_set_X1_prepare : GoodIn wsX6_set (wsV RX6 34 RX1 yX1_prepare wsX1_prepare) := goodIn_app (goodIn_of _ (by decide +kernel)) ggX6_set_X1_prepare
set_option maxRecDepth 20000 in
theorem ggX6_set_X5_changeSetting : GoodIn wsX6_set wsX5_changeSetting := goodIn_r _ [68, 19, 69, 70, 17, 71, 72, 73, 74, 75, 76, 77, 30, 78, 32, 79, 80, 81, 82, 96, 97, 98, 99, 100, 101, 102, 103, 104] (by decide +kernel) (by decide +kernel)
set_option maxRecDepth 20000 in
theorem gX6_set_X5_changeSetting : GoodIn wsX6_set (wsV RX6 38 RX5 yX5_changeSetting wsX5_changeSetting) := goodIn_app (goodIn_of _ (by decide +kernel)) ggX6_set_X5_changeSetting
set_option maxRecDepth 20000 in
theorem ggX6_set_X1_record : GoodIn wsX6_set wsX1_record := goodIn_r _ [86, 8, 87, 88, 34, 35, 36, 93, 94, 95] (by decide +kernel) (by decide +kernel)
set_option maxRecDepth 20000 in
theorem gX6_set_X1_record : GoodIn wsX6_set (wsV RX6 42 RX1 yX1_record wsX1_record) := goodIn_app (goodIn_of _ (by decide +kernel)) ggX6_set_X1_record
theorem dX6_set_0 : decode cX6_set 0 = .ok (.aload_n 0, 1) := by decide +kernel
theorem dX6_set_1 : decode cX6_set 1 = .ok (.getfield 19, 3) := by decide +kernel
theorem dX6_set_4 : decode cX6_set 4 = .ok (.aload_n 0, 1) := by decide +kernel
theorem dX6_set_5 : decode cX6_set 5 = .ok (.getfield 12, 3) := by decide +kernel
theorem dX6_set_8 : decode cX6_set 8 = .ok (.invokevirtual 34, 3) := by decide +kernel
theorem dX6_set_11 : decode cX6_set 11 = .ok (.aload_n 0, 1) := by decide +kernel
theorem dX6_set_12 : decode cX6_set 12 = .ok (.getfield 19, 3) := by decide +kernel
theorem dX6_set_15 : decode cX6_set 15 = .ok (.aload_n 0, 1) := by decide +kernel
theorem dX6_set_16 : decode cX6_set 16 = .ok (.getfield 12, 3) := by decide +kernel
theorem dX6_set_19 : decode cX6_set 19 = .ok (.iload_n 1, 1) := by decide +kernel
theorem dX6_set_20 : decode cX6_set 20 = .ok (.iload_n 2, 1) := by decide +kernel
theorem dX6_set_21 : decode cX6_set 21 = .ok (.invokevirtual 38, 3) := by decide +kernel
theorem dX6_set_24 : decode cX6_set 24 = .ok (.invokevirtual 42, 3) := by decide +kernel
theorem dX6_set_27 : decode cX6_set 27 = .ok (.ireturn, 1) := by decide +kernel
set_option maxRecDepth 20000 in
theorem ggX6_pupil_X1_prepare : GoodIn wsX6_pupil wsX1_prepare := goodIn_r _ [7, 8, 9, 10, 11, 6, 12, 13, 14, 15, 16, 17, 18, 19, 20, 21, 22, 23, 24, 25, 26, 27, 28, 29, 30, 31, 32, 33, 34, 35, 36, 37, 38, 39, 40, 41, 42, 43, 44, 45, 46, 47, 48, 49, 50, 51, 52, 53, 54, 55, 56, 57, 58, 59, 60, 61, 62, 63, 64, 79, 80, 81, 82, 83, 84, 85, 86, 87, 88, 89, 90, 91, 92, 93, 94, 95, 96, 97, 98, 99, 100, 101, 102] (by decide +kernel) (by decide +kernel)
set_option maxRecDepth 20000 in
theorem gX6_pupil_X1_prepare : GoodIn wsX6_pupil (wsV RX6 34 RX1 yX1_prepare wsX1_prepare) := goodIn_app (goodIn_of _ (by decide +kernel)) ggX6_pupil_X1_prepare
set_option maxRecDepth 20000 in
theorem ggX6_pupil_X5_admitPupil : GoodIn wsX6_pupil wsX5_admitPupil := goodIn_r _ [68, 24, 82, 83, 84, 85, 86, 87, 88, 89] (by decide +kernel) (by decide +kernel)
set_option maxRecDepth 20000 in
theorem gX6_pupil_X5_admitPupil : GoodIn wsX6_pupil (wsV RX6 46 RX5 yX5_admitPupil wsX5_admitPupil) := goodIn_app (goodIn_of _ (by decide +kernel)) ggX6_pupil_X5_admitPupil
set_option maxRecDepth 20000 in
theorem ggX6_pupil_X1_record : GoodIn wsX6_pupil wsX1_record := goodIn_r _ [72, 8, 73, 74, 34, 35, 36, 79, 80, 81] (by decide +kernel) (by decide +kernel)
set_option maxRecDepth 20000 in
theorem gX6_pupil_X1_record : GoodIn wsX6_pupil (wsV RX6 42 RX1 yX1_record wsX1_record) := goodIn_app (goodIn_of _ (by decide +kernel)) ggX6_pupil_X1_record
theorem dX6_pupil_0 : decode cX6_pupil 0 = .ok (.aload_n 0, 1) := by decide +kernel
theorem dX6_pupil_1 : decode cX6_pupil 1 = .ok (.getfield 19, 3) := by decide +kernel
theorem dX6_pupil_4 : decode cX6_pupil 4 = .ok (.aload_n 0, 1) := by decide +kernel
theorem dX6_pupil_5 : decode cX6_pupil 5 = .ok (.getfield 12, 3) := by decide +kernel
theorem dX6_pupil_8 : decode cX6_pupil 8 = .ok (.invokevirtual 34, 3) := by decide +kernel
theorem dX6_pupil_11 : decode cX6_pupil 11 = .ok (.aload_n 0, 1) := by decide +kernel
theorem dX6_pupil_12 : decode cX6_pupil 12 = .ok (.getfield 19, 3) := by decide +kernel
theorem dX6_pupil_15 : decode cX6_pupil 15 = .ok (.aload_n 0, 1) := by decide +kernel
theorem dX6_pupil_16 : decode cX6_pupil 16 = .ok (.getfield 12, 3) := by decide +kernel
theorem dX6_pupil_19 : decode cX6_pupil 19 = .ok (.invokevirtual 46, 3) := by decide +kernel
theorem dX6_pupil_22 : decode cX6_pupil 22 = .ok (.invokevirtual 42, 3) := by decide +kernel
theorem dX6_pupil_25 : decode cX6_pupil 25 = .ok (.ireturn, 1) := by decide +kernel
set_option maxRecDepth 20000 in
theorem ggX6_book_X1_prepare : GoodIn wsX6_book wsX1_prepare := goodIn_r _ [7, 8, 9, 10, 11, 6, 12, 13, 14, 15, 16, 17, 18, 19, 20, 21, 22, 23, 24, 25, 26, 27, 28, 29, 30, 31, 32, 33, 34, 35, 36, 37, 38, 39, 40, 41, 42, 43, 44, 45, 46, 47, 48, 49, 50, 51, 52, 53, 54, 55, 56, 57, 58, 59, 60, 61, 62, 63, 64, 116, 117, 118, 119, 120, 121, 122, 123, 124, 125, 126, 127, 128, 129, 130, 131, 132, 133, 134, 135, 136, 137, 138, 139] (by decide +kernel) (by decide +kernel)
set_option maxRecDepth 20000 in
theorem gX6_book_X1_prepare : GoodIn wsX6_book (wsV RX6 34 RX1 yX1_prepare wsX1_prepare) := goodIn_app (goodIn_of _ (by decide +kernel)) ggX6_book_X1_prepare
set_option maxRecDepth 20000 in
theorem ggX6_book_X5_bookWheel : GoodIn wsX6_book wsX5_bookWheel := goodIn_r _ [68, 20, 69, 70, 71, 17, 72, 24, 73, 74, 75, 76, 77, 78, 79, 80, 81, 82, 83, 44, 84, 46, 85, 86, 87, 88, 47, 89, 90, 91, 30, 92, 32, 93, 94, 95, 96, 97, 98, 99, 100, 101, 102, 103, 104, 105, 119, 120, 121, 122, 123, 124, 125, 126, 128, 129, 130, 127] (by decide +kernel) (by decide +kernel)
set_option maxRecDepth 20000 in
theorem gX6_book_X5_bookWheel : GoodIn wsX6_book (wsV RX6 50 RX5 yX5_bookWheel wsX5_bookWheel) := goodIn_app (goodIn_of _ (by decide +kernel)) ggX6_book_X5_bookWheel
set_option maxRecDepth 20000 in
theorem ggX6_book_X1_record : GoodIn wsX6_book wsX1_record := goodIn_r _ [109, 8, 110, 111, 34, 35, 36, 116, 117, 118] (by decide +kernel) (by decide +kernel)
set_option maxRecDepth 20000 in
theorem gX6_book_X1_record : GoodIn wsX6_book (wsV RX6 42 RX1 yX1_record wsX1_record) := goodIn_app (goodIn_of _ (by decide +kernel)) ggX6_book_X1_record
theorem dX6_book_0 : decode cX6_book 0 = .ok (.aload_n 0, 1) := by decide +kernel
theorem dX6_book_1 : decode cX6_book 1 = .ok (.getfield 19, 3) := by decide +kernel
theorem dX6_book_4 : decode cX6_book 4 = .ok (.aload_n 0, 1) := by decide +kernel
theorem dX6_book_5 : decode cX6_book 5 = .ok (.getfield 12, 3) := by decide +kernel
theorem dX6_book_8 : decode cX6_book 8 = .ok (.invokevirtual 34, 3) := by decide +kernel
theorem dX6_book_11 : decode cX6_book 11 = .ok (.aload_n 0, 1) := by decide +kernel
theorem dX6_book_12 : decode cX6_book 12 = .ok (.getfield 19, 3) := by decide +kernel
theorem dX6_book_15 : decode cX6_book 15 = .ok (.aload_n 0, 1) := by decide +kernel
theorem dX6_book_16 : decode cX6_book 16 = .ok (.getfield 12, 3) := by decide +kernel
theorem dX6_book_19 : decode cX6_book 19 = .ok (.iload_n 1, 1) := by decide +kernel
theorem dX6_book_20 : decode cX6_book 20 = .ok (.iload_n 2, 1) := by decide +kernel
theorem dX6_book_21 : decode cX6_book 21 = .ok (.iload_n 3, 1) := by decide +kernel
theorem dX6_book_22 : decode cX6_book 22 = .ok (.invokevirtual 50, 3) := by decide +kernel
theorem dX6_book_25 : decode cX6_book 25 = .ok (.invokevirtual 42, 3) := by decide +kernel
theorem dX6_book_28 : decode cX6_book 28 = .ok (.ireturn, 1) := by decide +kernel
set_option maxRecDepth 20000 in
theorem ggX6_giveBack_X1_prepare : GoodIn wsX6_giveBack wsX1_prepare := goodIn_r _ [7, 8, 9, 10, 11, 6, 12, 13, 14, 15, 16, 17, 18, 19, 20, 21, 22, 23, 24, 25, 26, 27, 28, 29, 30, 31, 32, 33, 34, 35, 36, 37, 38, 39, 40, 41, 42, 43, 44, 45, 46, 47, 48, 49, 50, 51, 52, 53, 54, 55, 56, 57, 58, 59, 60, 61, 62, 63, 64, 117, 118, 119, 120, 121, 122, 123, 124, 125, 126, 127, 128, 129, 130, 131, 132, 133, 134, 135, 136, 137, 138, 139, 140] (by decide +kernel) (by decide +kernel)
set_option maxRecDepth 20000 in
theorem gX6_giveBack_X1_prepare : GoodIn wsX6_giveBack (wsV RX6 34 RX1 yX1_prepare wsX1_prepare) := goodIn_app (goodIn_of _ (by decide +kernel)) ggX6_giveBack_X1_prepare
set_option maxRecDepth 20000 in
theorem ggX6_giveBack_X5_cancelBooking : GoodIn wsX6_giveBack wsX5_cancelBooking := goodIn_r _ [68, 20, 69, 70, 71, 17, 72, 24, 73, 74, 75, 76, 77, 78, 79, 80, 81, 44, 82, 83, 84, 85, 86, 46, 87, 88, 89, 90, 47, 91, 92, 93, 30, 94, 32, 95, 96, 97, 98, 48, 99, 100, 101, 102, 103, 104, 105, 106, 120, 121, 122, 123, 124, 125, 126, 127, 129, 130, 131, 128] (by decide +kernel) (by decide +kernel)
set_option maxRecDepth 20000 in
theorem gX6_giveBack_X5_cancelBooking : GoodIn wsX6_giveBack (wsV RX6 54 RX5 yX5_cancelBooking wsX5_cancelBooking) := goodIn_app (goodIn_of _ (by decide +kernel)) ggX6_giveBack_X5_cancelBooking
set_option maxRecDepth 20000 in
theorem ggX6_giveBack_X1_record : GoodIn wsX6_giveBack wsX1_record := goodIn_r _ [110, 8, 111, 112, 34, 35, 36, 117, 118, 119] (by decide +kernel) (by decide +kernel)
set_option maxRecDepth 20000 in
theorem gX6_giveBack_X1_record : GoodIn wsX6_giveBack (wsV RX6 42 RX1 yX1_record wsX1_record) := goodIn_app (goodIn_of _ (by decide +kernel)) ggX6_giveBack_X1_record
theorem dX6_giveBack_0 : decode cX6_giveBack 0 = .ok (.aload_n 0, 1) := by decide +kernel
theorem dX6_giveBack_1 : decode cX6_giveBack 1 = .ok (.getfield 19, 3) := by decide +kernel
theorem dX6_giveBack_4 : decode cX6_giveBack 4 = .ok (.aload_n 0, 1) := by decide +kernel
theorem dX6_giveBack_5 : decode cX6_giveBack 5 = .ok (.getfield 12, 3) := by decide +kernel
theorem dX6_giveBack_8 : decode cX6_giveBack 8 = .ok (.invokevirtual 34, 3) := by decide +kernel
theorem dX6_giveBack_11 : decode cX6_giveBack 11 = .ok (.aload_n 0, 1) := by decide +kernel
theorem dX6_giveBack_12 : decode cX6_giveBack 12 = .ok (.getfield 19, 3) := by decide +kernel
theorem dX6_giveBack_15 : decode cX6_giveBack 15 = .ok (.aload_n 0, 1) := by decide +kernel
theorem dX6_giveBack_16 : decode cX6_giveBack 16 = .ok (.getfield 12, 3) := by decide +kernel
theorem dX6_giveBack_19 : decode cX6_giveBack 19 = .ok (.iload_n 1, 1) := by decide +kernel
theorem dX6_giveBack_20 : decode cX6_giveBack 20 = .ok (.iload_n 2, 1) := by decide +kernel
theorem dX6_giveBack_21 : decode cX6_giveBack 21 = .ok (.invokevirtual 54, 3) := by decide +kernel
theorem dX6_giveBack_24 : decode cX6_giveBack 24 = .ok (.invokevirtual 42, 3) := by decide +kernel
theorem dX6_giveBack_27 : decode cX6_giveBack 27 = .ok (.ireturn, 1) := by decide +kernel
set_option maxRecDepth 20000 in
theorem ggX6_throwPot_X1_prepare : GoodIn wsX6_throwPot wsX1_prepare := goodIn_r _ [7, 8, 9, 10, 11, 6, 12, 13, 14, 15, 16, 17, 18, 19, 20, 21, 22, 23, 24, 25, 26, 27, 28, 29, 30, 31, 32, 33, 34, 35, 36, 37, 38, 39, 40, 41, 42, 43, 44, 45, 46, 47, 48, 49, 50, 51, 52, 53, 54, 55, 56, 57, 58, 59, 60, 61, 62, 63, 64, 143, 144, 145, 146, 147, 148, 149, 150, 151, 152, 153, 154, 155, 156, 157, 158, 159, 160, 161, 162, 163, 164, 165, 166] (by decide +kernel) (by decide +kernel)
set_option maxRecDepth 20000 in
theorem gX6_throwPot_X1_prepare : GoodIn wsX6_throwPot (wsV RX6 34 RX1 yX1_prepare wsX1_prepare) := goodIn_app (goodIn_of _ (by decide +kernel)) ggX6_throwPot_X1_prepare
set_option maxRecDepth 20000 in
theorem ggX6_throwPot_X5_throwClay : GoodIn wsX6_throwPot wsX5_throwClay := goodIn_r _ [68, 20, 21, 69, 70, 71, 17, 72, 24, 73, 74, 75, 76, 77, 78, 44, 79, 80, 81, 82, 83, 46, 84, 85, 86, 87, 47, 88, 89, 90, 30, 91, 32, 92, 93, 94, 95, 48, 96, 97, 98, 53, 99, 100, 101, 102, 103, 63, 59, 104, 105, 106, 107, 108, 109, 110, 111, 112, 113, 114, 115, 116, 117, 118, 119, 25, 120, 121, 122, 123, 124, 55, 56, 57, 58, 60, 62, 125, 126, 127, 128, 129, 130, 131, 132, 146, 147, 148, 149, 150, 151, 152, 153, 158, 159, 160, 161, 162, 163, 164, 165, 166, 155, 156, 157, 154] (by decide +kernel) (by decide +kernel)
set_option maxRecDepth 20000 in
theorem gX6_throwPot_X5_throwClay : GoodIn wsX6_throwPot (wsV RX6 57 RX5 yX5_throwClay wsX5_throwClay) := goodIn_app (goodIn_of _ (by decide +kernel)) ggX6_throwPot_X5_throwClay
set_option maxRecDepth 20000 in
theorem ggX6_throwPot_X1_record : GoodIn wsX6_throwPot wsX1_record := goodIn_r _ [136, 8, 137, 138, 34, 35, 36, 143, 144, 145] (by decide +kernel) (by decide +kernel)
set_option maxRecDepth 20000 in
theorem gX6_throwPot_X1_record : GoodIn wsX6_throwPot (wsV RX6 42 RX1 yX1_record wsX1_record) := goodIn_app (goodIn_of _ (by decide +kernel)) ggX6_throwPot_X1_record
theorem dX6_throwPot_0 : decode cX6_throwPot 0 = .ok (.aload_n 0, 1) := by decide +kernel
theorem dX6_throwPot_1 : decode cX6_throwPot 1 = .ok (.getfield 19, 3) := by decide +kernel
theorem dX6_throwPot_4 : decode cX6_throwPot 4 = .ok (.aload_n 0, 1) := by decide +kernel
theorem dX6_throwPot_5 : decode cX6_throwPot 5 = .ok (.getfield 12, 3) := by decide +kernel
theorem dX6_throwPot_8 : decode cX6_throwPot 8 = .ok (.invokevirtual 34, 3) := by decide +kernel
theorem dX6_throwPot_11 : decode cX6_throwPot 11 = .ok (.aload_n 0, 1) := by decide +kernel
theorem dX6_throwPot_12 : decode cX6_throwPot 12 = .ok (.getfield 19, 3) := by decide +kernel
theorem dX6_throwPot_15 : decode cX6_throwPot 15 = .ok (.aload_n 0, 1) := by decide +kernel
theorem dX6_throwPot_16 : decode cX6_throwPot 16 = .ok (.getfield 12, 3) := by decide +kernel
theorem dX6_throwPot_19 : decode cX6_throwPot 19 = .ok (.iload_n 1, 1) := by decide +kernel
theorem dX6_throwPot_20 : decode cX6_throwPot 20 = .ok (.iload_n 2, 1) := by decide +kernel
theorem dX6_throwPot_21 : decode cX6_throwPot 21 = .ok (.invokevirtual 57, 3) := by decide +kernel
theorem dX6_throwPot_24 : decode cX6_throwPot 24 = .ok (.invokevirtual 42, 3) := by decide +kernel
theorem dX6_throwPot_27 : decode cX6_throwPot 27 = .ok (.ireturn, 1) := by decide +kernel
set_option maxRecDepth 20000 in
theorem ggX6_load_X1_prepare : GoodIn wsX6_load wsX1_prepare := goodIn_r _ [7, 8, 9, 10, 11, 6, 12, 13, 14, 15, 16, 17, 18, 19, 20, 21, 22, 23, 24, 25, 26, 27, 28, 29, 30, 31, 32, 33, 34, 35, 36, 37, 38, 39, 40, 41, 42, 43, 44, 45, 46, 47, 48, 49, 50, 51, 52, 53, 54, 55, 56, 57, 58, 59, 60, 61, 62, 63, 64, 135, 136, 137, 138, 139, 140, 141, 142, 143, 144, 145, 146, 147, 148, 149, 150, 151, 152, 153, 154, 155, 156, 157, 158] (by decide +kernel) (by decide +kernel)
set_option maxRecDepth 20000 in
theorem gX6_load_X1_prepare : GoodIn wsX6_load (wsV RX6 34 RX1 yX1_prepare wsX1_prepare) := goodIn_app (goodIn_of _ (by decide +kernel)) ggX6_load_X1_prepare
set_option maxRecDepth 20000 in
theorem ggX6_load_X5_moveIntoKiln : GoodIn wsX6_load wsX5_moveIntoKiln := goodIn_r _ [68, 21, 69, 70, 71, 17, 72, 19, 73, 74, 75, 53, 76, 63, 77, 78, 79, 80, 59, 81, 82, 83, 30, 84, 32, 85, 86, 87, 88, 58, 89, 90, 91, 92, 93, 94, 35, 95, 96, 97, 98, 99, 100, 101, 102, 103, 104, 105, 106, 107, 108, 109, 110, 111, 112, 113, 114, 115, 116, 56, 117, 118, 119, 120, 121, 122, 123, 124, 138, 139, 140, 141, 142, 143, 144, 145, 150, 151, 152, 153, 154, 155, 156, 157, 158, 146] (by decide +kernel) (by decide +kernel)
set_option maxRecDepth 20000 in
theorem gX6_load_X5_moveIntoKiln : GoodIn wsX6_load (wsV RX6 60 RX5 yX5_moveIntoKiln wsX5_moveIntoKiln) := goodIn_app (goodIn_of _ (by decide +kernel)) ggX6_load_X5_moveIntoKiln
set_option maxRecDepth 20000 in
theorem ggX6_load_X1_record : GoodIn wsX6_load wsX1_record := goodIn_r _ [128, 8, 129, 130, 34, 35, 36, 135, 136, 137] (by decide +kernel) (by decide +kernel)
set_option maxRecDepth 20000 in
theorem gX6_load_X1_record : GoodIn wsX6_load (wsV RX6 42 RX1 yX1_record wsX1_record) := goodIn_app (goodIn_of _ (by decide +kernel)) ggX6_load_X1_record
theorem dX6_load_0 : decode cX6_load 0 = .ok (.aload_n 0, 1) := by decide +kernel
theorem dX6_load_1 : decode cX6_load 1 = .ok (.getfield 19, 3) := by decide +kernel
theorem dX6_load_4 : decode cX6_load 4 = .ok (.aload_n 0, 1) := by decide +kernel
theorem dX6_load_5 : decode cX6_load 5 = .ok (.getfield 12, 3) := by decide +kernel
theorem dX6_load_8 : decode cX6_load 8 = .ok (.invokevirtual 34, 3) := by decide +kernel
theorem dX6_load_11 : decode cX6_load 11 = .ok (.aload_n 0, 1) := by decide +kernel
theorem dX6_load_12 : decode cX6_load 12 = .ok (.getfield 19, 3) := by decide +kernel
theorem dX6_load_15 : decode cX6_load 15 = .ok (.aload_n 0, 1) := by decide +kernel
theorem dX6_load_16 : decode cX6_load 16 = .ok (.getfield 12, 3) := by decide +kernel
theorem dX6_load_19 : decode cX6_load 19 = .ok (.iload_n 1, 1) := by decide +kernel
theorem dX6_load_20 : decode cX6_load 20 = .ok (.invokevirtual 60, 3) := by decide +kernel
theorem dX6_load_23 : decode cX6_load 23 = .ok (.invokevirtual 42, 3) := by decide +kernel
theorem dX6_load_26 : decode cX6_load 26 = .ok (.ireturn, 1) := by decide +kernel
set_option maxRecDepth 20000 in
theorem ggX6_unload_X1_prepare : GoodIn wsX6_unload wsX1_prepare := goodIn_r _ [7, 8, 9, 10, 11, 6, 12, 13, 14, 15, 16, 17, 18, 19, 20, 21, 22, 23, 24, 25, 26, 27, 28, 29, 30, 31, 32, 33, 34, 35, 36, 37, 38, 39, 40, 41, 42, 43, 44, 45, 46, 47, 48, 49, 50, 51, 52, 53, 54, 55, 56, 57, 58, 59, 60, 61, 62, 63, 64, 115, 116, 117, 118, 119, 120, 121, 122, 123, 124, 125, 126, 127, 128, 129, 130, 131, 132, 133, 134, 135, 136, 137, 138] (by decide +kernel) (by decide +kernel)
set_option maxRecDepth 20000 in
theorem gX6_unload_X1_prepare : GoodIn wsX6_unload (wsV RX6 34 RX1 yX1_prepare wsX1_prepare) := goodIn_app (goodIn_of _ (by decide +kernel)) ggX6_unload_X1_prepare
set_option maxRecDepth 20000 in
theorem ggX6_unload_X5_moveOutOfKiln : GoodIn wsX6_unload wsX5_moveOutOfKiln := goodIn_r _ [68, 21, 69, 70, 71, 53, 72, 63, 73, 74, 75, 76, 59, 77, 78, 79, 30, 80, 32, 81, 82, 83, 84, 85, 86, 87, 88, 89, 90, 91, 92, 93, 94, 95, 96, 97, 98, 99, 100, 101, 102, 103, 104, 118, 119, 120, 121, 122, 123, 124, 125, 130, 131, 132, 133, 134, 135, 136, 137, 138, 126] (by decide +kernel) (by decide +kernel)
set_option maxRecDepth 20000 in
theorem gX6_unload_X5_moveOutOfKiln : GoodIn wsX6_unload (wsV RX6 63 RX5 yX5_moveOutOfKiln wsX5_moveOutOfKiln) := goodIn_app (goodIn_of _ (by decide +kernel)) ggX6_unload_X5_moveOutOfKiln
set_option maxRecDepth 20000 in
theorem ggX6_unload_X1_record : GoodIn wsX6_unload wsX1_record := goodIn_r _ [108, 8, 109, 110, 34, 35, 36, 115, 116, 117] (by decide +kernel) (by decide +kernel)
set_option maxRecDepth 20000 in
theorem gX6_unload_X1_record : GoodIn wsX6_unload (wsV RX6 42 RX1 yX1_record wsX1_record) := goodIn_app (goodIn_of _ (by decide +kernel)) ggX6_unload_X1_record
theorem dX6_unload_0 : decode cX6_unload 0 = .ok (.aload_n 0, 1) := by decide +kernel
theorem dX6_unload_1 : decode cX6_unload 1 = .ok (.getfield 19, 3) := by decide +kernel
theorem dX6_unload_4 : decode cX6_unload 4 = .ok (.aload_n 0, 1) := by decide +kernel
theorem dX6_unload_5 : decode cX6_unload 5 = .ok (.getfield 12, 3) := by decide +kernel
theorem dX6_unload_8 : decode cX6_unload 8 = .ok (.invokevirtual 34, 3) := by decide +kernel
theorem dX6_unload_11 : decode cX6_unload 11 = .ok (.aload_n 0, 1) := by decide +kernel
theorem dX6_unload_12 : decode cX6_unload 12 = .ok (.getfield 19, 3) := by decide +kernel
theorem dX6_unload_15 : decode cX6_unload 15 = .ok (.aload_n 0, 1) := by decide +kernel
theorem dX6_unload_16 : decode cX6_unload 16 = .ok (.getfield 12, 3) := by decide +kernel
theorem dX6_unload_19 : decode cX6_unload 19 = .ok (.iload_n 1, 1) := by decide +kernel
theorem dX6_unload_20 : decode cX6_unload 20 = .ok (.invokevirtual 63, 3) := by decide +kernel
theorem dX6_unload_23 : decode cX6_unload 23 = .ok (.invokevirtual 42, 3) := by decide +kernel
theorem dX6_unload_26 : decode cX6_unload 26 = .ok (.ireturn, 1) := by decide +kernel
set_option maxRecDepth 20000 in
theorem ggX6_fire_X1_prepare : GoodIn wsX6_fire wsX1_prepare := goodIn_r _ [7, 8, 9, 10, 11, 6, 12, 13, 14, 15, 16, 17, 18, 19, 20, 21, 22, 23, 24, 25, 26, 27, 28, 29, 30, 31, 32, 33, 34, 35, 36, 37, 38, 39, 40, 41, 42, 43, 44, 45, 46, 47, 48, 49, 50, 51, 52, 53, 54, 55, 56, 57, 58, 59, 60, 61, 62, 63, 64, 154, 155, 156, 157, 158, 159, 160, 161, 162, 163, 164, 165, 166, 167, 168, 169, 170, 171, 172, 173, 174, 175, 176, 177] (by decide +kernel) (by decide +kernel)
set_option maxRecDepth 20000 in
theorem gX6_fire_X1_prepare : GoodIn wsX6_fire (wsV RX6 34 RX1 yX1_prepare wsX1_prepare) := goodIn_app (goodIn_of _ (by decide +kernel)) ggX6_fire_X1_prepare
set_option maxRecDepth 20000 in
theorem ggX6_fire_X5_fireKiln : GoodIn wsX6_fire wsX5_fireKiln := goodIn_r _ [68, 21, 26, 69, 70, 71, 72, 73, 74, 75, 76, 77, 53, 78, 59, 63, 79, 80, 81, 30, 82, 32, 83, 84, 85, 17, 86, 19, 87, 88, 89, 90, 91, 92, 93, 94, 95, 96, 97, 98, 99, 57, 100, 101, 102, 103, 58, 104, 105, 106, 107, 61, 108, 109, 110, 111, 112, 113, 114, 115, 116, 117, 118, 119, 120, 121, 122, 123, 124, 125, 126, 127, 128, 129, 130, 131, 132, 133, 134, 135, 136, 137, 138, 139, 140, 141, 142, 143, 157, 158, 159, 160, 161, 162, 163, 164, 169, 170, 171, 172, 173, 174, 175, 176, 177, 165] (by decide +kernel) (by decide +kernel)
set_option maxRecDepth 20000 in
theorem gX6_fire_X5_fireKiln : GoodIn wsX6_fire (wsV RX6 66 RX5 yX5_fireKiln wsX5_fireKiln) := goodIn_app (goodIn_of _ (by decide +kernel)) ggX6_fire_X5_fireKiln
set_option maxRecDepth 20000 in
theorem ggX6_fire_X1_record : GoodIn wsX6_fire wsX1_record := goodIn_r _ [147, 8, 148, 149, 34, 35, 36, 154, 155, 156] (by decide +kernel) (by decide +kernel)
set_option maxRecDepth 20000 in
theorem gX6_fire_X1_record : GoodIn wsX6_fire (wsV RX6 42 RX1 yX1_record wsX1_record) := goodIn_app (goodIn_of _ (by decide +kernel)) ggX6_fire_X1_record
theorem dX6_fire_0 : decode cX6_fire 0 = .ok (.aload_n 0, 1) := by decide +kernel
theorem dX6_fire_1 : decode cX6_fire 1 = .ok (.getfield 19, 3) := by decide +kernel
theorem dX6_fire_4 : decode cX6_fire 4 = .ok (.aload_n 0, 1) := by decide +kernel
theorem dX6_fire_5 : decode cX6_fire 5 = .ok (.getfield 12, 3) := by decide +kernel
theorem dX6_fire_8 : decode cX6_fire 8 = .ok (.invokevirtual 34, 3) := by decide +kernel
theorem dX6_fire_11 : decode cX6_fire 11 = .ok (.aload_n 0, 1) := by decide +kernel
theorem dX6_fire_12 : decode cX6_fire 12 = .ok (.getfield 19, 3) := by decide +kernel
theorem dX6_fire_15 : decode cX6_fire 15 = .ok (.aload_n 0, 1) := by decide +kernel
theorem dX6_fire_16 : decode cX6_fire 16 = .ok (.getfield 12, 3) := by decide +kernel
theorem dX6_fire_19 : decode cX6_fire 19 = .ok (.iload_n 1, 1) := by decide +kernel
theorem dX6_fire_20 : decode cX6_fire 20 = .ok (.invokevirtual 66, 3) := by decide +kernel
theorem dX6_fire_23 : decode cX6_fire 23 = .ok (.invokevirtual 42, 3) := by decide +kernel
theorem dX6_fire_26 : decode cX6_fire 26 = .ok (.ireturn, 1) := by decide +kernel
set_option maxRecDepth 20000 in
theorem ggX6_glaze_X1_prepare : GoodIn wsX6_glaze wsX1_prepare := goodIn_r _ [7, 8, 9, 10, 11, 6, 12, 13, 14, 15, 16, 17, 18, 19, 20, 21, 22, 23, 24, 25, 26, 27, 28, 29, 30, 31, 32, 33, 34, 35, 36, 37, 38, 39, 40, 41, 42, 43, 44, 45, 46, 47, 48, 49, 50, 51, 52, 53, 54, 55, 56, 57, 58, 59, 60, 61, 62, 63, 64, 112, 113, 114, 115, 116, 117, 118, 119, 120, 121, 122, 123, 124, 125, 126, 127, 128, 129, 130, 131, 132, 133, 134, 135] (by decide +kernel) (by decide +kernel)
set_option maxRecDepth 20000 in
theorem gX6_glaze_X1_prepare : GoodIn wsX6_glaze (wsV RX6 34 RX1 yX1_prepare wsX1_prepare) := goodIn_app (goodIn_of _ (by decide +kernel)) ggX6_glaze_X1_prepare
set_option maxRecDepth 20000 in
theorem ggX6_glaze_X5_glazePot : GoodIn wsX6_glaze wsX5_glazePot := goodIn_r _ [68, 21, 22, 69, 70, 71, 53, 72, 63, 73, 74, 75, 76, 77, 78, 79, 80, 81, 30, 82, 32, 83, 84, 85, 86, 58, 87, 88, 89, 90, 91, 59, 92, 93, 94, 95, 96, 97, 98, 99, 100, 101, 115, 116, 117, 118, 119, 120, 121, 122, 127, 128, 129, 130, 131, 132, 133, 134, 135, 123] (by decide +kernel) (by decide +kernel)
set_option maxRecDepth 20000 in
theorem gX6_glaze_X5_glazePot : GoodIn wsX6_glaze (wsV RX6 69 RX5 yX5_glazePot wsX5_glazePot) := goodIn_app (goodIn_of _ (by decide +kernel)) ggX6_glaze_X5_glazePot
set_option maxRecDepth 20000 in
theorem ggX6_glaze_X1_record : GoodIn wsX6_glaze wsX1_record := goodIn_r _ [105, 8, 106, 107, 34, 35, 36, 112, 113, 114] (by decide +kernel) (by decide +kernel)
set_option maxRecDepth 20000 in
theorem gX6_glaze_X1_record : GoodIn wsX6_glaze (wsV RX6 42 RX1 yX1_record wsX1_record) := goodIn_app (goodIn_of _ (by decide +kernel)) ggX6_glaze_X1_record
theorem dX6_glaze_0 : decode cX6_glaze 0 = .ok (.aload_n 0, 1) := by decide +kernel
theorem dX6_glaze_1 : decode cX6_glaze 1 = .ok (.getfield 19, 3) := by decide +kernel
theorem dX6_glaze_4 : decode cX6_glaze 4 = .ok (.aload_n 0, 1) := by decide +kernel
theorem dX6_glaze_5 : decode cX6_glaze 5 = .ok (.getfield 12, 3) := by decide +kernel
theorem dX6_glaze_8 : decode cX6_glaze 8 = .ok (.invokevirtual 34, 3) := by decide +kernel
theorem dX6_glaze_11 : decode cX6_glaze 11 = .ok (.aload_n 0, 1) := by decide +kernel
theorem dX6_glaze_12 : decode cX6_glaze 12 = .ok (.getfield 19, 3) := by decide +kernel
theorem dX6_glaze_15 : decode cX6_glaze 15 = .ok (.aload_n 0, 1) := by decide +kernel
theorem dX6_glaze_16 : decode cX6_glaze 16 = .ok (.getfield 12, 3) := by decide +kernel
theorem dX6_glaze_19 : decode cX6_glaze 19 = .ok (.iload_n 1, 1) := by decide +kernel
theorem dX6_glaze_20 : decode cX6_glaze 20 = .ok (.iload_n 2, 1) := by decide +kernel
theorem dX6_glaze_21 : decode cX6_glaze 21 = .ok (.invokevirtual 69, 3) := by decide +kernel
theorem dX6_glaze_24 : decode cX6_glaze 24 = .ok (.invokevirtual 42, 3) := by decide +kernel
theorem dX6_glaze_27 : decode cX6_glaze 27 = .ok (.ireturn, 1) := by decide +kernel
set_option maxRecDepth 20000 in
theorem ggX6_fill_X1_prepare : GoodIn wsX6_fill wsX1_prepare := goodIn_r _ [7, 8, 9, 10, 11, 6, 12, 13, 14, 15, 16, 17, 18, 19, 20, 21, 22, 23, 24, 25, 26, 27, 28, 29, 30, 31, 32, 33, 34, 35, 36, 37, 38, 39, 40, 41, 42, 43, 44, 45, 46, 47, 48, 49, 50, 51, 52, 53, 54, 55, 56, 57, 58, 59, 60, 61, 62, 63, 64, 94, 95, 96, 97, 98, 99, 100, 101, 102, 103, 104, 105, 106, 107, 108, 109, 110, 111, 112, 113, 114, 115, 116, 117] (by decide +kernel) (by decide +kernel)
set_option maxRecDepth 20000 in
theorem gX6_fill_X1_prepare : GoodIn wsX6_fill (wsV RX6 34 RX1 yX1_prepare wsX1_prepare) := goodIn_app (goodIn_of _ (by decide +kernel)) ggX6_fill_X1_prepare
set_option maxRecDepth 20000 in
theorem ggX6_fill_X5_fillGlaze : GoodIn wsX6_fill wsX5_fillGlaze := goodIn_r _ [68, 22, 69, 34, 35, 36, 70, 71, 72, 73, 74, 75, 76, 77, 78, 30, 79, 32, 80, 81, 82, 83, 97, 98, 99, 100, 101, 102, 103, 104, 105] (by decide +kernel) (by decide +kernel)
set_option maxRecDepth 20000 in
theorem gX6_fill_X5_fillGlaze : GoodIn wsX6_fill (wsV RX6 72 RX5 yX5_fillGlaze wsX5_fillGlaze) := goodIn_app (goodIn_of _ (by decide +kernel)) ggX6_fill_X5_fillGlaze
set_option maxRecDepth 20000 in
theorem ggX6_fill_X1_record : GoodIn wsX6_fill wsX1_record := goodIn_r _ [87, 8, 88, 89, 34, 35, 36, 94, 95, 96] (by decide +kernel) (by decide +kernel)
set_option maxRecDepth 20000 in
theorem gX6_fill_X1_record : GoodIn wsX6_fill (wsV RX6 42 RX1 yX1_record wsX1_record) := goodIn_app (goodIn_of _ (by decide +kernel)) ggX6_fill_X1_record
theorem dX6_fill_0 : decode cX6_fill 0 = .ok (.aload_n 0, 1) := by decide +kernel
theorem dX6_fill_1 : decode cX6_fill 1 = .ok (.getfield 19, 3) := by decide +kernel
theorem dX6_fill_4 : decode cX6_fill 4 = .ok (.aload_n 0, 1) := by decide +kernel
theorem dX6_fill_5 : decode cX6_fill 5 = .ok (.getfield 12, 3) := by decide +kernel
theorem dX6_fill_8 : decode cX6_fill 8 = .ok (.invokevirtual 34, 3) := by decide +kernel
theorem dX6_fill_11 : decode cX6_fill 11 = .ok (.aload_n 0, 1) := by decide +kernel
theorem dX6_fill_12 : decode cX6_fill 12 = .ok (.getfield 19, 3) := by decide +kernel
theorem dX6_fill_15 : decode cX6_fill 15 = .ok (.aload_n 0, 1) := by decide +kernel
theorem dX6_fill_16 : decode cX6_fill 16 = .ok (.getfield 12, 3) := by decide +kernel
theorem dX6_fill_19 : decode cX6_fill 19 = .ok (.iload_n 1, 1) := by decide +kernel
theorem dX6_fill_20 : decode cX6_fill 20 = .ok (.iload_n 2, 1) := by decide +kernel
theorem dX6_fill_21 : decode cX6_fill 21 = .ok (.invokevirtual 72, 3) := by decide +kernel
theorem dX6_fill_24 : decode cX6_fill 24 = .ok (.invokevirtual 42, 3) := by decide +kernel
theorem dX6_fill_27 : decode cX6_fill 27 = .ok (.ireturn, 1) := by decide +kernel
set_option maxRecDepth 20000 in
theorem ggX6_takeHome_X1_prepare : GoodIn wsX6_takeHome wsX1_prepare := goodIn_r _ [7, 8, 9, 10, 11, 6, 12, 13, 14, 15, 16, 17, 18, 19, 20, 21, 22, 23, 24, 25, 26, 27, 28, 29, 30, 31, 32, 33, 34, 35, 36, 37, 38, 39, 40, 41, 42, 43, 44, 45, 46, 47, 48, 49, 50, 51, 52, 53, 54, 55, 56, 57, 58, 59, 60, 61, 62, 63, 64, 106, 107, 108, 109, 110, 111, 112, 113, 114, 115, 116, 117, 118, 119, 120, 121, 122, 123, 124, 125, 126, 127, 128, 129] (by decide +kernel) (by decide +kernel)
set_option maxRecDepth 20000 in
theorem gX6_takeHome_X1_prepare : GoodIn wsX6_takeHome (wsV RX6 34 RX1 yX1_prepare wsX1_prepare) := goodIn_app (goodIn_of _ (by decide +kernel)) ggX6_takeHome_X1_prepare
set_option maxRecDepth 20000 in
theorem ggX6_takeHome_X5_handOver : GoodIn wsX6_takeHome wsX5_handOver := goodIn_r _ [68, 21, 19, 23, 69, 70, 71, 53, 72, 63, 73, 74, 75, 76, 58, 77, 78, 79, 30, 80, 32, 81, 82, 83, 84, 59, 85, 86, 87, 88, 89, 90, 91, 92, 93, 94, 95, 109, 110, 111, 112, 113, 114, 115, 116, 121, 122, 123, 124, 125, 126, 127, 128, 129, 117] (by decide +kernel) (by decide +kernel)
set_option maxRecDepth 20000 in
theorem gX6_takeHome_X5_handOver : GoodIn wsX6_takeHome (wsV RX6 75 RX5 yX5_handOver wsX5_handOver) := goodIn_app (goodIn_of _ (by decide +kernel)) ggX6_takeHome_X5_handOver
set_option maxRecDepth 20000 in
theorem ggX6_takeHome_X1_record : GoodIn wsX6_takeHome wsX1_record := goodIn_r _ [99, 8, 100, 101, 34, 35, 36, 106, 107, 108] (by decide +kernel) (by decide +kernel)
set_option maxRecDepth 20000 in
theorem gX6_takeHome_X1_record : GoodIn wsX6_takeHome (wsV RX6 42 RX1 yX1_record wsX1_record) := goodIn_app (goodIn_of _ (by decide +kernel)) ggX6_takeHome_X1_record
theorem dX6_takeHome_0 : decode cX6_takeHome 0 = .ok (.aload_n 0, 1) := by decide +kernel
theorem dX6_takeHome_1 : decode cX6_takeHome 1 = .ok (.getfield 19, 3) := by decide +kernel
theorem dX6_takeHome_4 : decode cX6_takeHome 4 = .ok (.aload_n 0, 1) := by decide +kernel
theorem dX6_takeHome_5 : decode cX6_takeHome 5 = .ok (.getfield 12, 3) := by decide +kernel
theorem dX6_takeHome_8 : decode cX6_takeHome 8 = .ok (.invokevirtual 34, 3) := by decide +kernel
theorem dX6_takeHome_11 : decode cX6_takeHome 11 = .ok (.aload_n 0, 1) := by decide +kernel
theorem dX6_takeHome_12 : decode cX6_takeHome 12 = .ok (.getfield 19, 3) := by decide +kernel
theorem dX6_takeHome_15 : decode cX6_takeHome 15 = .ok (.aload_n 0, 1) := by decide +kernel
theorem dX6_takeHome_16 : decode cX6_takeHome 16 = .ok (.getfield 12, 3) := by decide +kernel
theorem dX6_takeHome_19 : decode cX6_takeHome 19 = .ok (.iload_n 1, 1) := by decide +kernel
theorem dX6_takeHome_20 : decode cX6_takeHome 20 = .ok (.invokevirtual 75, 3) := by decide +kernel
theorem dX6_takeHome_23 : decode cX6_takeHome 23 = .ok (.invokevirtual 42, 3) := by decide +kernel
theorem dX6_takeHome_26 : decode cX6_takeHome 26 = .ok (.ireturn, 1) := by decide +kernel
set_option maxRecDepth 20000 in
theorem ggX6_pass_X1_prepare : GoodIn wsX6_pass wsX1_prepare := goodIn_r _ [7, 8, 9, 10, 11, 6, 12, 13, 14, 15, 16, 17, 18, 19, 20, 21, 22, 23, 24, 25, 26, 27, 28, 29, 30, 31, 32, 33, 34, 35, 36, 37, 38, 39, 40, 41, 42, 43, 44, 45, 46, 47, 48, 49, 50, 51, 52, 53, 54, 55, 56, 57, 58, 59, 60, 61, 62, 63, 64, 124, 125, 126, 127, 128, 129, 130, 131, 132, 133, 134, 135, 136, 137, 138, 139, 140, 141, 142, 143, 144, 145, 146, 147] (by decide +kernel) (by decide +kernel)
set_option maxRecDepth 20000 in
theorem gX6_pass_X1_prepare : GoodIn wsX6_pass (wsV RX6 34 RX1 yX1_prepare wsX1_prepare) := goodIn_app (goodIn_of _ (by decide +kernel)) ggX6_pass_X1_prepare
set_option maxRecDepth 20000 in
theorem ggX6_pass_X5_passNights : GoodIn wsX6_pass wsX5_passNights := goodIn_r _ [68, 20, 21, 69, 70, 71, 72, 73, 74, 53, 75, 63, 60, 76, 77, 78, 79, 59, 80, 81, 82, 30, 83, 32, 84, 85, 86, 87, 58, 88, 89, 90, 91, 92, 93, 94, 95, 96, 97, 98, 99, 100, 101, 102, 103, 44, 104, 48, 47, 105, 106, 107, 108, 46, 109, 110, 111, 112, 113, 127, 128, 129, 130, 131, 132, 133, 134, 136, 137, 138, 139, 140, 141, 142, 143, 144, 145, 146, 147, 135] (by decide +kernel) (by decide +kernel)
set_option maxRecDepth 20000 in
theorem gX6_pass_X5_passNights : GoodIn wsX6_pass (wsV RX6 78 RX5 yX5_passNights wsX5_passNights) := goodIn_app (goodIn_of _ (by decide +kernel)) ggX6_pass_X5_passNights
set_option maxRecDepth 20000 in
theorem ggX6_pass_X1_record : GoodIn wsX6_pass wsX1_record := goodIn_r _ [117, 8, 118, 119, 34, 35, 36, 124, 125, 126] (by decide +kernel) (by decide +kernel)
set_option maxRecDepth 20000 in
theorem gX6_pass_X1_record : GoodIn wsX6_pass (wsV RX6 42 RX1 yX1_record wsX1_record) := goodIn_app (goodIn_of _ (by decide +kernel)) ggX6_pass_X1_record
theorem dX6_pass_0 : decode cX6_pass 0 = .ok (.aload_n 0, 1) := by decide +kernel
theorem dX6_pass_1 : decode cX6_pass 1 = .ok (.getfield 19, 3) := by decide +kernel
theorem dX6_pass_4 : decode cX6_pass 4 = .ok (.aload_n 0, 1) := by decide +kernel
theorem dX6_pass_5 : decode cX6_pass 5 = .ok (.getfield 12, 3) := by decide +kernel
theorem dX6_pass_8 : decode cX6_pass 8 = .ok (.invokevirtual 34, 3) := by decide +kernel
theorem dX6_pass_11 : decode cX6_pass 11 = .ok (.aload_n 0, 1) := by decide +kernel
theorem dX6_pass_12 : decode cX6_pass 12 = .ok (.getfield 19, 3) := by decide +kernel
theorem dX6_pass_15 : decode cX6_pass 15 = .ok (.aload_n 0, 1) := by decide +kernel
theorem dX6_pass_16 : decode cX6_pass 16 = .ok (.getfield 12, 3) := by decide +kernel
theorem dX6_pass_19 : decode cX6_pass 19 = .ok (.iload_n 1, 1) := by decide +kernel
theorem dX6_pass_20 : decode cX6_pass 20 = .ok (.invokevirtual 78, 3) := by decide +kernel
theorem dX6_pass_23 : decode cX6_pass 23 = .ok (.invokevirtual 42, 3) := by decide +kernel
theorem dX6_pass_26 : decode cX6_pass 26 = .ok (.ireturn, 1) := by decide +kernel
set_option maxRecDepth 20000 in
theorem ggX6_of_X5_factOfPot : GoodIn wsX6_of wsX5_factOfPot := goodIn_r _ [6, 7, 8, 9, 10, 11, 12, 13, 14, 15, 16, 17, 18, 19, 20, 21, 22, 23, 24, 25, 26, 27, 28, 29, 30, 31, 32, 33, 34, 39, 40, 41, 42, 43, 44, 45, 46, 47, 48, 49, 50, 51, 52, 53, 54, 55, 56] (by decide +kernel) (by decide +kernel)
set_option maxRecDepth 20000 in
theorem gX6_of_X5_factOfPot : GoodIn wsX6_of (wsV RX6 81 RX5 yX5_factOfPot wsX5_factOfPot) := goodIn_app (goodIn_of _ (by decide +kernel)) ggX6_of_X5_factOfPot
theorem dX6_of_0 : decode cX6_of 0 = .ok (.aload_n 0, 1) := by decide +kernel
theorem dX6_of_1 : decode cX6_of 1 = .ok (.getfield 12, 3) := by decide +kernel
theorem dX6_of_4 : decode cX6_of 4 = .ok (.iload_n 1, 1) := by decide +kernel
theorem dX6_of_5 : decode cX6_of 5 = .ok (.iload_n 2, 1) := by decide +kernel
theorem dX6_of_6 : decode cX6_of 6 = .ok (.invokevirtual 81, 3) := by decide +kernel
theorem dX6_of_9 : decode cX6_of 9 = .ok (.ireturn, 1) := by decide +kernel
set_option maxRecDepth 20000 in
theorem ggX6_ofPupil_X5_factOfPupil : GoodIn wsX6_ofPupil wsX5_factOfPupil := goodIn_r _ [6, 7, 8, 9, 10, 11, 12, 5, 13, 14, 15, 16, 17, 18, 19, 20, 21, 22, 23, 24, 25, 26, 27, 28, 29, 30, 31, 32, 33, 34, 35, 36, 37, 38, 39, 40, 41, 42, 43, 44, 45, 46, 47, 48, 49, 50, 51, 52, 53, 54, 55, 56, 57, 62, 63, 64, 65, 66, 67, 68, 69, 70, 71, 72, 73, 74, 75, 76, 77, 78, 79, 80, 81, 82] (by decide +kernel) (by decide +kernel)
set_option maxRecDepth 20000 in
theorem gX6_ofPupil_X5_factOfPupil : GoodIn wsX6_ofPupil (wsV RX6 84 RX5 yX5_factOfPupil wsX5_factOfPupil) := goodIn_app (goodIn_of _ (by decide +kernel)) ggX6_ofPupil_X5_factOfPupil
theorem dX6_ofPupil_0 : decode cX6_ofPupil 0 = .ok (.aload_n 0, 1) := by decide +kernel
theorem dX6_ofPupil_1 : decode cX6_ofPupil 1 = .ok (.getfield 12, 3) := by decide +kernel
theorem dX6_ofPupil_4 : decode cX6_ofPupil 4 = .ok (.iload_n 1, 1) := by decide +kernel
theorem dX6_ofPupil_5 : decode cX6_ofPupil 5 = .ok (.iload_n 2, 1) := by decide +kernel
theorem dX6_ofPupil_6 : decode cX6_ofPupil 6 = .ok (.invokevirtual 84, 3) := by decide +kernel
theorem dX6_ofPupil_9 : decode cX6_ofPupil 9 = .ok (.ireturn, 1) := by decide +kernel
set_option maxRecDepth 20000 in
theorem ggX6_booked_X5_bookerOf : GoodIn wsX6_booked wsX5_bookerOf := goodIn_r _ [6, 7, 8, 9, 10, 11, 12, 13, 14, 15, 16, 17, 18, 19, 20, 21, 22, 23, 24, 25, 26, 27, 28, 29, 30, 31, 32, 37, 38, 39, 40, 41, 42, 43, 44, 45, 46, 47, 48] (by decide +kernel) (by decide +kernel)
set_option maxRecDepth 20000 in
theorem gX6_booked_X5_bookerOf : GoodIn wsX6_booked (wsV RX6 87 RX5 yX5_bookerOf wsX5_bookerOf) := goodIn_app (goodIn_of _ (by decide +kernel)) ggX6_booked_X5_bookerOf
theorem dX6_booked_0 : decode cX6_booked 0 = .ok (.aload_n 0, 1) := by decide +kernel
theorem dX6_booked_1 : decode cX6_booked 1 = .ok (.getfield 12, 3) := by decide +kernel
theorem dX6_booked_4 : decode cX6_booked 4 = .ok (.iload_n 1, 1) := by decide +kernel
theorem dX6_booked_5 : decode cX6_booked 5 = .ok (.iload_n 2, 1) := by decide +kernel
theorem dX6_booked_6 : decode cX6_booked 6 = .ok (.invokevirtual 87, 3) := by decide +kernel
theorem dX6_booked_9 : decode cX6_booked 9 = .ok (.ireturn, 1) := by decide +kernel
set_option maxRecDepth 20000 in
theorem ggX6_count_X2_length : GoodIn wsX6_count wsX2_length := goodIn_r _ [8, 9, 126, 127, 128, 129, 130, 131, 132] (by decide +kernel) (by decide +kernel)
set_option maxRecDepth 20000 in
theorem gX6_count_X2_length : GoodIn wsX6_count (wsV RX6 90 RX2 yX2_length wsX2_length) := goodIn_app (goodIn_of _ (by decide +kernel)) ggX6_count_X2_length
set_option maxRecDepth 20000 in
theorem ggX6_count_X1_kept : GoodIn wsX6_count wsX1_kept := goodIn_r _ [14, 15, 133, 134, 135] (by decide +kernel) (by decide +kernel)
set_option maxRecDepth 20000 in
theorem gX6_count_X1_kept : GoodIn wsX6_count (wsV RX6 93 RX1 yX1_kept wsX1_kept) := goodIn_app (goodIn_of _ (by decide +kernel)) ggX6_count_X1_kept
set_option maxRecDepth 20000 in
theorem ggX6_count_X5_figure : GoodIn wsX6_count wsX5_figure := goodIn_r _ [20, 21, 22, 23, 24, 25, 26, 27, 28, 29, 30, 31, 32, 33, 34, 35, 36, 37, 38, 39, 40, 41, 42, 43, 44, 45, 46, 47, 48, 49, 50, 51, 52, 53, 54, 55, 56, 57, 58, 59, 60, 61, 62, 63, 64, 65, 66, 67, 68, 69, 70, 71, 72, 73, 74, 75, 76, 77, 78, 79, 80, 81, 82, 83, 19, 84, 85, 86, 87, 88, 89, 90, 91, 92, 93, 94, 95, 96, 97, 98, 99, 100, 101, 102, 103, 104, 105, 106, 107, 108, 109, 110, 111, 112, 113, 114, 115, 116, 117, 118, 119, 120, 121, 136, 137, 138, 139, 140, 141, 142, 143, 144, 145, 146, 147, 148, 149, 150, 151, 152, 153, 154, 155, 156] (by decide +kernel) (by decide +kernel)
set_option maxRecDepth 20000 in
theorem gX6_count_X5_figure : GoodIn wsX6_count (wsV RX6 96 RX5 yX5_figure wsX5_figure) := goodIn_app (goodIn_of _ (by decide +kernel)) ggX6_count_X5_figure
theorem dX6_count_0 : decode cX6_count 0 = .ok (.iload_n 1, 1) := by decide +kernel
theorem dX6_count_1 : decode cX6_count 1 = .ok (.lookupswitch 43 #[(19, 27), (20, 35)], 27) := by decide +kernel
theorem dX6_count_28 : decode cX6_count 28 = .ok (.aload_n 0, 1) := by decide +kernel
theorem dX6_count_29 : decode cX6_count 29 = .ok (.getfield 30, 3) := by decide +kernel
theorem dX6_count_32 : decode cX6_count 32 = .ok (.invokevirtual 90, 3) := by decide +kernel
theorem dX6_count_35 : decode cX6_count 35 = .ok (.ireturn, 1) := by decide +kernel
theorem dX6_count_36 : decode cX6_count 36 = .ok (.aload_n 0, 1) := by decide +kernel
theorem dX6_count_37 : decode cX6_count 37 = .ok (.getfield 19, 3) := by decide +kernel
theorem dX6_count_40 : decode cX6_count 40 = .ok (.invokevirtual 93, 3) := by decide +kernel
theorem dX6_count_43 : decode cX6_count 43 = .ok (.ireturn, 1) := by decide +kernel
theorem dX6_count_44 : decode cX6_count 44 = .ok (.aload_n 0, 1) := by decide +kernel
theorem dX6_count_45 : decode cX6_count 45 = .ok (.getfield 12, 3) := by decide +kernel
theorem dX6_count_48 : decode cX6_count 48 = .ok (.iload_n 1, 1) := by decide +kernel
theorem dX6_count_49 : decode cX6_count 49 = .ok (.invokevirtual 96, 3) := by decide +kernel
theorem dX6_count_52 : decode cX6_count 52 = .ok (.ireturn, 1) := by decide +kernel
set_option maxRecDepth 20000 in
theorem ggX6_why_X5_reasonAgainstLoading : GoodIn wsX6_why wsX5_reasonAgainstLoading := goodIn_r _ [6, 7, 8, 9, 10, 11, 12, 13, 14, 15, 16, 17, 18, 19, 20, 21, 22, 23, 24, 25, 26, 27, 28, 29, 30, 31, 32, 33, 5, 34, 35, 36, 37, 38, 39, 40, 41, 42, 43, 44, 45, 46, 47, 48, 49, 50, 51, 52, 53, 54, 55, 56, 57, 58, 59, 60, 61, 62, 63, 64, 69, 70, 71, 72, 73, 74, 75, 76, 77, 78, 79, 80, 81, 82, 83, 84, 85, 86] (by decide +kernel) (by decide +kernel)
set_option maxRecDepth 20000 in
theorem gX6_why_X5_reasonAgainstLoading : GoodIn wsX6_why (wsV RX6 99 RX5 yX5_reasonAgainstLoading wsX5_reasonAgainstLoading) := goodIn_app (goodIn_of _ (by decide +kernel)) ggX6_why_X5_reasonAgainstLoading
theorem dX6_why_0 : decode cX6_why 0 = .ok (.aload_n 0, 1) := by decide +kernel
theorem dX6_why_1 : decode cX6_why 1 = .ok (.getfield 12, 3) := by decide +kernel
theorem dX6_why_4 : decode cX6_why 4 = .ok (.iload_n 1, 1) := by decide +kernel
theorem dX6_why_5 : decode cX6_why 5 = .ok (.invokevirtual 99, 3) := by decide +kernel
theorem dX6_why_8 : decode cX6_why 8 = .ok (.ireturn, 1) := by decide +kernel
set_option maxRecDepth 20000 in
theorem ggX6_dryIn_X5_nightsUntilDry : GoodIn wsX6_dryIn wsX5_nightsUntilDry := goodIn_r _ [6, 7, 8, 9, 10, 11, 12, 13, 14, 15, 16, 17, 18, 19, 20, 21, 22, 23, 24, 25, 26, 27, 28, 29, 30, 31, 32, 5, 33, 34, 35, 36, 37, 38, 39, 40, 41, 42, 43, 48, 49, 50, 51, 52, 53, 54, 55, 56, 57, 58, 59, 60, 61, 62, 63, 64, 65] (by decide +kernel) (by decide +kernel)
set_option maxRecDepth 20000 in
theorem gX6_dryIn_X5_nightsUntilDry : GoodIn wsX6_dryIn (wsV RX6 102 RX5 yX5_nightsUntilDry wsX5_nightsUntilDry) := goodIn_app (goodIn_of _ (by decide +kernel)) ggX6_dryIn_X5_nightsUntilDry
theorem dX6_dryIn_0 : decode cX6_dryIn 0 = .ok (.aload_n 0, 1) := by decide +kernel
theorem dX6_dryIn_1 : decode cX6_dryIn 1 = .ok (.getfield 12, 3) := by decide +kernel
theorem dX6_dryIn_4 : decode cX6_dryIn 4 = .ok (.iload_n 1, 1) := by decide +kernel
theorem dX6_dryIn_5 : decode cX6_dryIn 5 = .ok (.invokevirtual 102, 3) := by decide +kernel
theorem dX6_dryIn_8 : decode cX6_dryIn 8 = .ok (.ireturn, 1) := by decide +kernel
set_option maxRecDepth 20000 in
theorem ggX6_ifFired_X5_outcomeOfFiring : GoodIn wsX6_ifFired wsX5_outcomeOfFiring := goodIn_r _ [6, 7, 8, 9, 10, 11, 12, 13, 14, 15, 5, 16, 17, 18, 19, 20, 21, 22, 23, 24, 25, 26, 27, 28, 29, 30, 31, 32, 33, 34, 35, 36, 37, 38, 39, 40, 41, 42, 43, 44, 45, 46, 51, 52, 53, 54, 55, 56, 57, 58, 59, 60, 61, 62, 63, 64, 65, 66, 67, 68] (by decide +kernel) (by decide +kernel)
set_option maxRecDepth 20000 in
theorem gX6_ifFired_X5_outcomeOfFiring : GoodIn wsX6_ifFired (wsV RX6 105 RX5 yX5_outcomeOfFiring wsX5_outcomeOfFiring) := goodIn_app (goodIn_of _ (by decide +kernel)) ggX6_ifFired_X5_outcomeOfFiring
theorem dX6_ifFired_0 : decode cX6_ifFired 0 = .ok (.aload_n 0, 1) := by decide +kernel
theorem dX6_ifFired_1 : decode cX6_ifFired 1 = .ok (.getfield 12, 3) := by decide +kernel
theorem dX6_ifFired_4 : decode cX6_ifFired 4 = .ok (.iload_n 1, 1) := by decide +kernel
theorem dX6_ifFired_5 : decode cX6_ifFired 5 = .ok (.iload_n 2, 1) := by decide +kernel
theorem dX6_ifFired_6 : decode cX6_ifFired 6 = .ok (.invokevirtual 105, 3) := by decide +kernel
theorem dX6_ifFired_9 : decode cX6_ifFired 9 = .ok (.ireturn, 1) := by decide +kernel
set_option maxRecDepth 20000 in
theorem ggX6_bestHeat_X5_heatForMostPots : GoodIn wsX6_bestHeat wsX5_heatForMostPots := goodIn_r _ [6, 7, 8, 9, 10, 11, 12, 13, 14, 15, 16, 17, 18, 19, 20, 21, 22, 23, 5, 24, 25, 26, 27, 28, 29, 30, 31, 32, 33, 34, 35, 36, 37, 38, 39, 40, 41, 42, 43, 44, 45, 46, 47, 48, 49, 54, 55, 56, 57, 58, 59, 60, 61, 62, 63, 64, 65, 66, 67, 68, 69, 70, 71] (by decide +kernel) (by decide +kernel)
set_option maxRecDepth 20000 in
theorem gX6_bestHeat_X5_heatForMostPots : GoodIn wsX6_bestHeat (wsV RX6 108 RX5 yX5_heatForMostPots wsX5_heatForMostPots) := goodIn_app (goodIn_of _ (by decide +kernel)) ggX6_bestHeat_X5_heatForMostPots
theorem dX6_bestHeat_0 : decode cX6_bestHeat 0 = .ok (.aload_n 0, 1) := by decide +kernel
theorem dX6_bestHeat_1 : decode cX6_bestHeat 1 = .ok (.getfield 12, 3) := by decide +kernel
theorem dX6_bestHeat_4 : decode cX6_bestHeat 4 = .ok (.invokevirtual 108, 3) := by decide +kernel
theorem dX6_bestHeat_7 : decode cX6_bestHeat 7 = .ok (.ireturn, 1) := by decide +kernel
set_option maxRecDepth 20000 in
theorem ggX6_firstFree_X5_firstFreeNight : GoodIn wsX6_firstFree wsX5_firstFreeNight := goodIn_r _ [6, 7, 8, 9, 10, 5, 11, 12, 13, 14, 15, 16, 17, 18, 19, 20, 21, 22, 23, 24, 25, 26, 27, 28, 29, 30, 31, 32, 33, 34, 35, 36, 37, 42, 43, 44, 45, 46, 47, 48, 49, 50, 51, 52, 53] (by decide +kernel) (by decide +kernel)
set_option maxRecDepth 20000 in
theorem gX6_firstFree_X5_firstFreeNight : GoodIn wsX6_firstFree (wsV RX6 111 RX5 yX5_firstFreeNight wsX5_firstFreeNight) := goodIn_app (goodIn_of _ (by decide +kernel)) ggX6_firstFree_X5_firstFreeNight
theorem dX6_firstFree_0 : decode cX6_firstFree 0 = .ok (.aload_n 0, 1) := by decide +kernel
theorem dX6_firstFree_1 : decode cX6_firstFree 1 = .ok (.getfield 12, 3) := by decide +kernel
theorem dX6_firstFree_4 : decode cX6_firstFree 4 = .ok (.iload_n 1, 1) := by decide +kernel
theorem dX6_firstFree_5 : decode cX6_firstFree 5 = .ok (.iload_n 2, 1) := by decide +kernel
theorem dX6_firstFree_6 : decode cX6_firstFree 6 = .ok (.invokevirtual 111, 3) := by decide +kernel
theorem dX6_firstFree_9 : decode cX6_firstFree 9 = .ok (.ireturn, 1) := by decide +kernel
set_option maxRecDepth 20000 in
theorem ggX6_put_X2_append : GoodIn wsX6_put wsX2_append := goodIn_r _ [6, 7, 8, 9, 10, 5, 11, 12, 13, 14, 15, 16, 17, 18, 23, 24, 25, 26, 27, 28, 29] (by decide +kernel) (by decide +kernel)
set_option maxRecDepth 20000 in
theorem gX6_put_X2_append : GoodIn wsX6_put (wsV RX6 114 RX2 yX2_append wsX2_append) := goodIn_app (goodIn_of _ (by decide +kernel)) ggX6_put_X2_append
theorem dX6_put_0 : decode cX6_put 0 = .ok (.aload_n 0, 1) := by decide +kernel
theorem dX6_put_1 : decode cX6_put 1 = .ok (.getfield 30, 3) := by decide +kernel
theorem dX6_put_4 : decode cX6_put 4 = .ok (.lload_n 1, 1) := by decide +kernel
theorem dX6_put_5 : decode cX6_put 5 = .ok (.invokevirtual 114, 3) := by decide +kernel
theorem dX6_put_8 : decode cX6_put 8 = .ok (.ireturn, 1) := by decide +kernel
set_option maxRecDepth 20000 in
theorem ggX6_wipe_X2_clear : GoodIn wsX6_wipe wsX2_clear := goodIn_r _ [6, 7, 12, 13, 14, 15, 16, 17, 18] (by decide +kernel) (by decide +kernel)
set_option maxRecDepth 20000 in
theorem gX6_wipe_X2_clear : GoodIn wsX6_wipe (wsV RX6 118 RX2 yX2_clear wsX2_clear) := goodIn_app (goodIn_of _ (by decide +kernel)) ggX6_wipe_X2_clear
theorem dX6_wipe_0 : decode cX6_wipe 0 = .ok (.aload_n 0, 1) := by decide +kernel
theorem dX6_wipe_1 : decode cX6_wipe 1 = .ok (.getfield 30, 3) := by decide +kernel
theorem dX6_wipe_4 : decode cX6_wipe 4 = .ok (.invokevirtual 118, 3) := by decide +kernel
theorem dX6_wipe_7 : decode cX6_wipe 7 = .ok (.ireturn, 1) := by decide +kernel
set_option maxRecDepth 20000 in
theorem ggX6_fault_X2_findFault : GoodIn wsX6_fault wsX2_findFault := goodIn_r _ [6, 7, 8, 9, 10, 11, 5, 12, 13, 14, 15, 16, 17, 18, 19, 20, 21, 22, 23, 24, 25, 26, 27, 28, 29, 30, 31, 32, 33, 34, 35, 36, 37, 38, 39, 40, 41, 42, 43, 44, 45, 46, 47, 48, 49, 50, 51, 52, 53, 54, 55, 56, 61, 62, 63, 64, 65, 66, 67] (by decide +kernel) (by decide +kernel)
set_option maxRecDepth 20000 in
theorem gX6_fault_X2_findFault : GoodIn wsX6_fault (wsV RX6 121 RX2 yX2_findFault wsX2_findFault) := goodIn_app (goodIn_of _ (by decide +kernel)) ggX6_fault_X2_findFault
theorem dX6_fault_0 : decode cX6_fault 0 = .ok (.aload_n 0, 1) := by decide +kernel
theorem dX6_fault_1 : decode cX6_fault 1 = .ok (.getfield 30, 3) := by decide +kernel
theorem dX6_fault_4 : decode cX6_fault 4 = .ok (.invokevirtual 121, 3) := by decide +kernel
theorem dX6_fault_7 : decode cX6_fault 7 = .ok (.ireturn, 1) := by decide +kernel
set_option maxRecDepth 20000 in
theorem ggX6_carryOut_X2_findFault : GoodIn wsX6_carryOut wsX2_findFault := goodIn_r _ [8, 9, 10, 11, 12, 13, 7, 14, 15, 16, 17, 18, 19, 20, 21, 22, 23, 24, 25, 26, 27, 28, 29, 30, 31, 32, 33, 34, 35, 36, 37, 38, 39, 40, 41, 42, 43, 44, 45, 46, 47, 48, 49, 50, 51, 52, 53, 54, 55, 56, 57, 58, 360, 361, 362, 363, 364, 365, 366] (by decide +kernel) (by decide +kernel)
set_option maxRecDepth 20000 in
theorem gX6_carryOut_X2_findFault : GoodIn wsX6_carryOut (wsV RX6 121 RX2 yX2_findFault wsX2_findFault) := goodIn_app (goodIn_of _ (by decide +kernel)) ggX6_carryOut_X2_findFault
set_option maxRecDepth 20000 in
theorem ggX6_carryOut_X1_prepare : GoodIn wsX6_carryOut wsX1_prepare := goodIn_r _ [63, 64, 65, 66, 67, 62, 68, 69, 70, 71, 72, 73, 74, 75, 76, 77, 78, 79, 80, 81, 82, 83, 84, 85, 86, 87, 88, 89, 90, 91, 92, 93, 94, 95, 96, 97, 98, 99, 100, 101, 102, 103, 104, 105, 106, 107, 108, 109, 110, 111, 112, 113, 114, 115, 116, 117, 118, 119, 120, 367, 368, 369, 370, 371, 372, 373, 374, 375, 376, 377, 378, 379, 380, 381, 382, 383, 384, 385, 386, 387, 388, 389, 390] (by decide +kernel) (by decide +kernel)
set_option maxRecDepth 20000 in
theorem gX6_carryOut_X1_prepare : GoodIn wsX6_carryOut (wsV RX6 34 RX1 yX1_prepare wsX1_prepare) := goodIn_app (goodIn_of _ (by decide +kernel)) ggX6_carryOut_X1_prepare
set_option maxRecDepth 20000 in
theorem ggX6_carryOut_X2_rewind : GoodIn wsX6_carryOut wsX2_rewind := goodIn_r _ [14, 9, 360, 361, 362, 363, 364, 365, 366] (by decide +kernel) (by decide +kernel)
set_option maxRecDepth 20000 in
theorem gX6_carryOut_X2_rewind : GoodIn wsX6_carryOut (wsV RX6 124 RX2 yX2_rewind wsX2_rewind) := goodIn_app (goodIn_of _ (by decide +kernel)) ggX6_carryOut_X2_rewind
set_option maxRecDepth 20000 in
theorem ggX6_carryOut_X2_readOrder : GoodIn wsX6_carryOut wsX2_readOrder := goodIn_r _ [18, 19, 20, 21, 22, 23, 24, 25, 7, 26, 9, 10, 27, 28, 29, 30, 31, 32, 33, 34, 35, 36, 37, 38, 39, 40, 41, 42, 43, 44, 45, 46, 47, 48, 49, 50, 51, 52, 53, 54, 55, 56, 57, 58, 360, 361, 362, 363, 364, 365, 366] (by decide +kernel) (by decide +kernel)
set_option maxRecDepth 20000 in
theorem gX6_carryOut_X2_readOrder : GoodIn wsX6_carryOut (wsV RX6 127 RX2 yX2_readOrder wsX2_readOrder) := goodIn_app (goodIn_of _ (by decide +kernel)) ggX6_carryOut_X2_readOrder
set_option maxRecDepth 20000 in
theorem ggX6_carryOut_X6_carryOutOrder : GoodIn wsX6_carryOut wsX6_carryOutOrder := goodIn_r _ [126, 1, 3, 127, 128, 129, 7, 130, 19, 131, 132, 133, 73, 134, 80, 135, 136, 137, 138, 20, 139, 140, 141, 142, 21, 143, 144, 145, 146, 22, 147, 148, 149, 150, 76, 151, 152, 153, 154, 155, 41, 156, 157, 40, 42, 158, 159, 160, 161, 162, 100, 163, 102, 164, 165, 166, 167, 103, 168, 169, 170, 86, 171, 88, 172, 173, 174, 175, 176, 177, 178, 179, 180, 181, 182, 183, 184, 185, 186, 187, 188, 77, 189, 190, 191, 192, 104, 193, 194, 195, 109, 196, 197, 198, 199, 200, 119, 115, 201, 202, 203, 204, 205, 206, 207, 208, 209, 210, 211, 212, 213, 214, 215, 216, 81, 217, 218, 219, 220, 221, 111, 112, 113, 114, 116, 118, 222, 223, 224, 225, 226, 227, 228, 229, 230, 231, 232, 233, 234, 75, 235, 236, 237, 238, 239, 240, 241, 242, 243, 244, 245, 246, 247, 248, 249, 250, 251, 252, 91, 253, 254, 255, 256, 257, 258, 259, 260, 261, 262, 263, 264, 265, 266, 267, 268, 269, 270, 271, 272, 273, 274, 275, 276, 277, 278, 279, 280, 281, 282, 283, 82, 284, 285, 286, 287, 288, 289, 290, 291, 292, 293, 294, 295, 296, 297, 298, 299, 300, 117, 301, 302, 303, 304, 305, 306, 307, 308, 309, 310, 311, 312, 313, 314, 315, 316, 78, 317, 318, 319, 320, 321, 322, 323, 324, 325, 326, 327, 328, 329, 330, 331, 332, 333, 334, 335, 336, 337, 338, 339, 340, 341, 342, 343, 344, 79, 356, 357, 358, 359, 360, 361, 362, 363, 364, 365, 366, 370, 371, 372, 373, 374, 375, 376, 377, 379, 380, 381, 378, 382, 383, 384, 385, 386, 387, 388, 389, 390] (by decide +kernel) (by decide +kernel)
set_option maxRecDepth 20000 in
theorem gX6_carryOut_X6_carryOutOrder : GoodIn wsX6_carryOut (wsV RX6 131 RX6 yX6_carryOutOrder wsX6_carryOutOrder) := goodIn_app (goodIn_of _ (by decide +kernel)) ggX6_carryOut_X6_carryOutOrder
set_option maxRecDepth 20000 in
theorem ggX6_carryOut_X2_skip : GoodIn wsX6_carryOut wsX2_skip := goodIn_r _ [31, 9, 23, 24, 25, 7, 26, 10, 27, 360, 361, 362, 363, 364, 365, 366] (by decide +kernel) (by decide +kernel)
set_option maxRecDepth 20000 in
theorem gX6_carryOut_X2_skip : GoodIn wsX6_carryOut (wsV RX6 134 RX2 yX2_skip wsX2_skip) := goodIn_app (goodIn_of _ (by decide +kernel)) ggX6_carryOut_X2_skip
set_option maxRecDepth 20000 in
theorem ggX6_carryOut_X2_clear : GoodIn wsX6_carryOut wsX2_clear := goodIn_r _ [349, 10, 360, 361, 362, 363, 364, 365, 366] (by decide +kernel) (by decide +kernel)
set_option maxRecDepth 20000 in
theorem gX6_carryOut_X2_clear : GoodIn wsX6_carryOut (wsV RX6 118 RX2 yX2_clear wsX2_clear) := goodIn_app (goodIn_of _ (by decide +kernel)) ggX6_carryOut_X2_clear
set_option maxRecDepth 20000 in
theorem ggX6_carryOut_X1_record : GoodIn wsX6_carryOut wsX1_record := goodIn_r _ [353, 64, 354, 355, 90, 91, 92, 367, 368, 369] (by decide +kernel) (by decide +kernel)
set_option maxRecDepth 20000 in
theorem gX6_carryOut_X1_record : GoodIn wsX6_carryOut (wsV RX6 42 RX1 yX1_record wsX1_record) := goodIn_app (goodIn_of _ (by decide +kernel)) ggX6_carryOut_X1_record
theorem dX6_carryOut_0 : decode cX6_carryOut 0 = .ok (.aload_n 0, 1) := by decide +kernel
theorem dX6_carryOut_1 : decode cX6_carryOut 1 = .ok (.getfield 30, 3) := by decide +kernel
theorem dX6_carryOut_4 : decode cX6_carryOut 4 = .ok (.invokevirtual 121, 3) := by decide +kernel
theorem dX6_carryOut_7 : decode cX6_carryOut 7 = .ok (.bipush (-6), 2) := by decide +kernel
theorem dX6_carryOut_9 : decode cX6_carryOut 9 = .ok (.if_icmp .eq 6, 3) := by decide +kernel
theorem dX6_carryOut_12 : decode cX6_carryOut 12 = .ok (.bipush (-3), 2) := by decide +kernel
theorem dX6_carryOut_14 : decode cX6_carryOut 14 = .ok (.ireturn, 1) := by decide +kernel
theorem dX6_carryOut_15 : decode cX6_carryOut 15 = .ok (.aload_n 0, 1) := by decide +kernel
theorem dX6_carryOut_16 : decode cX6_carryOut 16 = .ok (.getfield 19, 3) := by decide +kernel
theorem dX6_carryOut_19 : decode cX6_carryOut 19 = .ok (.aload_n 0, 1) := by decide +kernel
theorem dX6_carryOut_20 : decode cX6_carryOut 20 = .ok (.getfield 12, 3) := by decide +kernel
theorem dX6_carryOut_23 : decode cX6_carryOut 23 = .ok (.invokevirtual 34, 3) := by decide +kernel
theorem dX6_carryOut_26 : decode cX6_carryOut 26 = .ok (.iconst 0, 1) := by decide +kernel
theorem dX6_carryOut_27 : decode cX6_carryOut 27 = .ok (.istore_n 1, 1) := by decide +kernel
theorem dX6_carryOut_28 : decode cX6_carryOut 28 = .ok (.aload_n 0, 1) := by decide +kernel
theorem dX6_carryOut_29 : decode cX6_carryOut 29 = .ok (.getfield 30, 3) := by decide +kernel
theorem dX6_carryOut_32 : decode cX6_carryOut 32 = .ok (.invokevirtual 124, 3) := by decide +kernel
theorem dX6_carryOut_35 : decode cX6_carryOut 35 = .ok (.iload_n 1, 1) := by decide +kernel
theorem dX6_carryOut_36 : decode cX6_carryOut 36 = .ok (.bipush 80, 2) := by decide +kernel
theorem dX6_carryOut_38 : decode cX6_carryOut 38 = .ok (.if_icmp .ge 36, 3) := by decide +kernel
theorem dX6_carryOut_41 : decode cX6_carryOut 41 = .ok (.aload_n 0, 1) := by decide +kernel
theorem dX6_carryOut_42 : decode cX6_carryOut 42 = .ok (.getfield 30, 3) := by decide +kernel
theorem dX6_carryOut_45 : decode cX6_carryOut 45 = .ok (.invokevirtual 127, 3) := by decide +kernel
theorem dX6_carryOut_48 : decode cX6_carryOut 48 = .ok (.ifCond .eq 26, 3) := by decide +kernel
theorem dX6_carryOut_51 : decode cX6_carryOut 51 = .ok (.aload_n 0, 1) := by decide +kernel
theorem dX6_carryOut_52 : decode cX6_carryOut 52 = .ok (.invokevirtual 131, 3) := by decide +kernel
theorem dX6_carryOut_55 : decode cX6_carryOut 55 = .ok (.ifCond .lt 19, 3) := by decide +kernel
theorem dX6_carryOut_58 : decode cX6_carryOut 58 = .ok (.iinc 1 1, 3) := by decide +kernel
theorem dX6_carryOut_61 : decode cX6_carryOut 61 = .ok (.aload_n 0, 1) := by decide +kernel
theorem dX6_carryOut_62 : decode cX6_carryOut 62 = .ok (.getfield 30, 3) := by decide +kernel
theorem dX6_carryOut_65 : decode cX6_carryOut 65 = .ok (.bipush 59, 2) := by decide +kernel
theorem dX6_carryOut_67 : decode cX6_carryOut 67 = .ok (.invokevirtual 134, 3) := by decide +kernel
theorem dX6_carryOut_70 : decode cX6_carryOut 70 = .ok (.pop, 1) := by decide +kernel
theorem dX6_carryOut_71 : decode cX6_carryOut 71 = .ok (.goto (-36), 3) := by decide +kernel
theorem dX6_carryOut_74 : decode cX6_carryOut 74 = .ok (.aload_n 0, 1) := by decide +kernel
theorem dX6_carryOut_75 : decode cX6_carryOut 75 = .ok (.getfield 30, 3) := by decide +kernel
theorem dX6_carryOut_78 : decode cX6_carryOut 78 = .ok (.invokevirtual 118, 3) := by decide +kernel
theorem dX6_carryOut_81 : decode cX6_carryOut 81 = .ok (.pop, 1) := by decide +kernel
theorem dX6_carryOut_82 : decode cX6_carryOut 82 = .ok (.aload_n 0, 1) := by decide +kernel
theorem dX6_carryOut_83 : decode cX6_carryOut 83 = .ok (.getfield 19, 3) := by decide +kernel
theorem dX6_carryOut_86 : decode cX6_carryOut 86 = .ok (.iload_n 1, 1) := by decide +kernel
theorem dX6_carryOut_87 : decode cX6_carryOut 87 = .ok (.invokevirtual 42, 3) := by decide +kernel
theorem dX6_carryOut_90 : decode cX6_carryOut 90 = .ok (.ireturn, 1) := by decide +kernel
set_option maxRecDepth 20000 in
theorem ggX6_carryOutOrder_X2_kind : GoodIn wsX6_carryOutOrder wsX2_kind := goodIn_r _ [7, 8, 259, 260, 261, 262, 263, 264, 265] (by decide +kernel) (by decide +kernel)
set_option maxRecDepth 20000 in
theorem gX6_carryOutOrder_X2_kind : GoodIn wsX6_carryOutOrder (wsV RX6 138 RX2 yX2_kind wsX2_kind) := goodIn_app (goodIn_of _ (by decide +kernel)) ggX6_carryOutOrder_X2_kind
set_option maxRecDepth 20000 in
theorem ggX6_carryOutOrder_X5_admitPupil : GoodIn wsX6_carryOutOrder wsX5_admitPupil := goodIn_r _ [13, 14, 266, 267, 268, 269, 270, 271, 272, 273] (by decide +kernel) (by decide +kernel)
set_option maxRecDepth 20000 in
theorem gX6_carryOutOrder_X5_admitPupil : GoodIn wsX6_carryOutOrder (wsV RX6 46 RX5 yX5_admitPupil wsX5_admitPupil) := goodIn_app (goodIn_of _ (by decide +kernel)) ggX6_carryOutOrder_X5_admitPupil
set_option maxRecDepth 20000 in
theorem ggX6_carryOutOrder_X2_first : GoodIn wsX6_carryOutOrder wsX2_first := goodIn_r _ [18, 19, 259, 260, 261, 262, 263, 264, 265] (by decide +kernel) (by decide +kernel)
set_option maxRecDepth 20000 in
theorem gX6_carryOutOrder_X2_first : GoodIn wsX6_carryOutOrder (wsV RX6 141 RX2 yX2_first wsX2_first) := goodIn_app (goodIn_of _ (by decide +kernel)) ggX6_carryOutOrder_X2_first
set_option maxRecDepth 20000 in
theorem ggX6_carryOutOrder_X2_second : GoodIn wsX6_carryOutOrder wsX2_second := goodIn_r _ [23, 24, 259, 260, 261, 262, 263, 264, 265] (by decide +kernel) (by decide +kernel)
set_option maxRecDepth 20000 in
theorem gX6_carryOutOrder_X2_second : GoodIn wsX6_carryOutOrder (wsV RX6 144 RX2 yX2_second wsX2_second) := goodIn_app (goodIn_of _ (by decide +kernel)) ggX6_carryOutOrder_X2_second
set_option maxRecDepth 20000 in
theorem ggX6_carryOutOrder_X2_third : GoodIn wsX6_carryOutOrder wsX2_third := goodIn_r _ [28, 29, 259, 260, 261, 262, 263, 264, 265] (by decide +kernel) (by decide +kernel)
set_option maxRecDepth 20000 in
theorem gX6_carryOutOrder_X2_third : GoodIn wsX6_carryOutOrder (wsV RX6 147 RX2 yX2_third wsX2_third) := goodIn_app (goodIn_of _ (by decide +kernel)) ggX6_carryOutOrder_X2_third
set_option maxRecDepth 20000 in
theorem ggX6_carryOutOrder_X5_bookWheel : GoodIn wsX6_carryOutOrder wsX5_bookWheel := goodIn_r _ [33, 34, 35, 36, 37, 12, 38, 14, 39, 40, 41, 42, 43, 44, 45, 46, 47, 48, 49, 50, 51, 52, 53, 54, 55, 56, 57, 58, 59, 60, 61, 62, 63, 64, 65, 66, 67, 68, 69, 70, 71, 72, 73, 74, 75, 76, 266, 267, 268, 269, 270, 271, 272, 273, 274, 275, 276, 277] (by decide +kernel) (by decide +kernel)
set_option maxRecDepth 20000 in
theorem gX6_carryOutOrder_X5_bookWheel : GoodIn wsX6_carryOutOrder (wsV RX6 50 RX5 yX5_bookWheel wsX5_bookWheel) := goodIn_app (goodIn_of _ (by decide +kernel)) ggX6_carryOutOrder_X5_bookWheel
set_option maxRecDepth 20000 in
theorem ggX6_carryOutOrder_X5_throwClay : GoodIn wsX6_carryOutOrder wsX5_throwClay := goodIn_r _ [80, 34, 81, 35, 36, 37, 12, 38, 14, 43, 40, 44, 64, 65, 66, 50, 67, 68, 48, 49, 51, 52, 53, 54, 55, 56, 57, 58, 59, 60, 61, 62, 63, 82, 83, 84, 85, 86, 87, 88, 89, 90, 91, 92, 93, 94, 95, 96, 97, 98, 99, 100, 101, 102, 103, 104, 105, 106, 107, 108, 109, 110, 111, 112, 113, 114, 115, 116, 117, 118, 119, 120, 121, 122, 123, 124, 125, 126, 74, 75, 76, 127, 128, 129, 130, 266, 267, 268, 269, 270, 271, 272, 273, 278, 279, 280, 281, 282, 283, 284, 285, 286, 274, 275, 276, 277] (by decide +kernel) (by decide +kernel)
set_option maxRecDepth 20000 in
theorem gX6_carryOutOrder_X5_throwClay : GoodIn wsX6_carryOutOrder (wsV RX6 57 RX5 yX5_throwClay wsX5_throwClay) := goodIn_app (goodIn_of _ (by decide +kernel)) ggX6_carryOutOrder_X5_throwClay
set_option maxRecDepth 20000 in
theorem ggX6_carryOutOrder_X5_moveIntoKiln : GoodIn wsX6_carryOutOrder wsX5_moveIntoKiln := goodIn_r _ [134, 81, 135, 136, 137, 12, 138, 139, 140, 141, 142, 90, 143, 96, 144, 145, 146, 147, 97, 98, 59, 60, 61, 62, 63, 148, 149, 150, 151, 123, 152, 153, 154, 155, 156, 157, 158, 159, 160, 161, 162, 163, 164, 165, 166, 167, 168, 169, 170, 171, 172, 173, 174, 175, 176, 177, 178, 179, 180, 121, 181, 182, 183, 184, 185, 74, 75, 76, 266, 267, 268, 269, 270, 271, 272, 273, 278, 279, 280, 281, 282, 283, 284, 285, 286, 277] (by decide +kernel) (by decide +kernel)
set_option maxRecDepth 20000 in
theorem gX6_carryOutOrder_X5_moveIntoKiln : GoodIn wsX6_carryOutOrder (wsV RX6 60 RX5 yX5_moveIntoKiln wsX5_moveIntoKiln) := goodIn_app (goodIn_of _ (by decide +kernel)) ggX6_carryOutOrder_X5_moveIntoKiln
set_option maxRecDepth 20000 in
theorem ggX6_carryOutOrder_X5_fireKiln : GoodIn wsX6_carryOutOrder wsX5_fireKiln := goodIn_r _ [189, 81, 190, 191, 40, 192, 42, 43, 44, 193, 166, 167, 90, 168, 97, 96, 169, 170, 171, 61, 172, 63, 194, 195, 196, 12, 197, 139, 198, 182, 183, 184, 98, 59, 60, 62, 160, 199, 200, 201, 202, 122, 203, 149, 150, 151, 123, 204, 205, 206, 207, 208, 209, 100, 101, 102, 103, 104, 105, 87, 88, 89, 91, 92, 93, 94, 95, 99, 210, 211, 212, 213, 185, 74, 75, 76, 214, 215, 216, 217, 218, 219, 148, 220, 128, 129, 130, 126, 266, 267, 268, 269, 270, 271, 272, 273, 278, 279, 280, 281, 282, 283, 284, 285, 286, 277] (by decide +kernel) (by decide +kernel)
set_option maxRecDepth 20000 in
theorem gX6_carryOutOrder_X5_fireKiln : GoodIn wsX6_carryOutOrder (wsV RX6 66 RX5 yX5_fireKiln wsX5_fireKiln) := goodIn_app (goodIn_of _ (by decide +kernel)) ggX6_carryOutOrder_X5_fireKiln
set_option maxRecDepth 20000 in
theorem ggX6_carryOutOrder_X5_glazePot : GoodIn wsX6_carryOutOrder wsX5_glazePot := goodIn_r _ [224, 81, 225, 140, 141, 142, 90, 143, 96, 226, 40, 227, 42, 43, 44, 160, 59, 60, 61, 62, 63, 148, 149, 150, 151, 123, 98, 144, 145, 146, 147, 97, 214, 215, 216, 217, 218, 219, 74, 75, 76, 185, 266, 267, 268, 269, 270, 271, 272, 273, 278, 279, 280, 281, 282, 283, 284, 285, 286, 277] (by decide +kernel) (by decide +kernel)
set_option maxRecDepth 20000 in
theorem gX6_carryOutOrder_X5_glazePot : GoodIn wsX6_carryOutOrder (wsV RX6 69 RX5 yX5_glazePot wsX5_glazePot) := goodIn_app (goodIn_of _ (by decide +kernel)) ggX6_carryOutOrder_X5_glazePot
set_option maxRecDepth 20000 in
theorem ggX6_carryOutOrder_X5_passNights : GoodIn wsX6_carryOutOrder wsX5_passNights := goodIn_r _ [231, 34, 81, 43, 40, 44, 232, 233, 234, 90, 235, 96, 124, 236, 145, 146, 147, 97, 98, 59, 60, 61, 62, 63, 203, 149, 150, 151, 123, 237, 238, 239, 240, 241, 215, 216, 217, 218, 219, 74, 75, 76, 242, 243, 244, 50, 245, 86, 57, 246, 247, 248, 249, 52, 53, 54, 55, 56, 73, 266, 267, 268, 269, 270, 271, 272, 273, 274, 275, 276, 278, 279, 280, 281, 282, 283, 284, 285, 286, 277] (by decide +kernel) (by decide +kernel)
set_option maxRecDepth 20000 in
theorem gX6_carryOutOrder_X5_passNights : GoodIn wsX6_carryOutOrder (wsV RX6 78 RX5 yX5_passNights wsX5_passNights) := goodIn_app (goodIn_of _ (by decide +kernel)) ggX6_carryOutOrder_X5_passNights
set_option maxRecDepth 20000 in
theorem ggX6_carryOutOrder_X5_handOver : GoodIn wsX6_carryOutOrder wsX5_handOver := goodIn_r _ [253, 81, 139, 254, 140, 141, 142, 90, 143, 96, 148, 149, 150, 151, 123, 98, 59, 60, 61, 62, 63, 144, 145, 146, 147, 97, 160, 214, 215, 216, 217, 218, 219, 74, 75, 76, 185, 266, 267, 268, 269, 270, 271, 272, 273, 278, 279, 280, 281, 282, 283, 284, 285, 286, 277] (by decide +kernel) (by decide +kernel)
set_option maxRecDepth 20000 in
theorem gX6_carryOutOrder_X5_handOver : GoodIn wsX6_carryOutOrder (wsV RX6 75 RX5 yX5_handOver wsX5_handOver) := goodIn_app (goodIn_of _ (by decide +kernel)) ggX6_carryOutOrder_X5_handOver
theorem dX6_carryOutOrder_0 : decode cX6_carryOutOrder 0 = .ok (.aload_n 0, 1) := by decide +kernel
theorem dX6_carryOutOrder_1 : decode cX6_carryOutOrder 1 = .ok (.getfield 30, 3) := by decide +kernel
theorem dX6_carryOutOrder_4 : decode cX6_carryOutOrder 4 = .ok (.invokevirtual 138, 3) := by decide +kernel
theorem dX6_carryOutOrder_7 : decode cX6_carryOutOrder 7 = .ok (.tableswitch 230 98 116 #[97, 230, 230, 230, 163, 178, 215, 230, 230, 230, 148, 230, 200, 230, 89, 230, 230, 230, 126], 89) := by decide +kernel
theorem dX6_carryOutOrder_96 : decode cX6_carryOutOrder 96 = .ok (.aload_n 0, 1) := by decide +kernel
theorem dX6_carryOutOrder_97 : decode cX6_carryOutOrder 97 = .ok (.getfield 12, 3) := by decide +kernel
theorem dX6_carryOutOrder_100 : decode cX6_carryOutOrder 100 = .ok (.invokevirtual 46, 3) := by decide +kernel
theorem dX6_carryOutOrder_103 : decode cX6_carryOutOrder 103 = .ok (.ireturn, 1) := by decide +kernel
theorem dX6_carryOutOrder_104 : decode cX6_carryOutOrder 104 = .ok (.aload_n 0, 1) := by decide +kernel
theorem dX6_carryOutOrder_105 : decode cX6_carryOutOrder 105 = .ok (.getfield 12, 3) := by decide +kernel
theorem dX6_carryOutOrder_108 : decode cX6_carryOutOrder 108 = .ok (.aload_n 0, 1) := by decide +kernel
theorem dX6_carryOutOrder_109 : decode cX6_carryOutOrder 109 = .ok (.getfield 30, 3) := by decide +kernel
theorem dX6_carryOutOrder_112 : decode cX6_carryOutOrder 112 = .ok (.invokevirtual 141, 3) := by decide +kernel
theorem dX6_carryOutOrder_115 : decode cX6_carryOutOrder 115 = .ok (.aload_n 0, 1) := by decide +kernel
theorem dX6_carryOutOrder_116 : decode cX6_carryOutOrder 116 = .ok (.getfield 30, 3) := by decide +kernel
theorem dX6_carryOutOrder_119 : decode cX6_carryOutOrder 119 = .ok (.invokevirtual 144, 3) := by decide +kernel
theorem dX6_carryOutOrder_122 : decode cX6_carryOutOrder 122 = .ok (.aload_n 0, 1) := by decide +kernel
theorem dX6_carryOutOrder_123 : decode cX6_carryOutOrder 123 = .ok (.getfield 30, 3) := by decide +kernel
theorem dX6_carryOutOrder_126 : decode cX6_carryOutOrder 126 = .ok (.invokevirtual 147, 3) := by decide +kernel
theorem dX6_carryOutOrder_129 : decode cX6_carryOutOrder 129 = .ok (.invokevirtual 50, 3) := by decide +kernel
theorem dX6_carryOutOrder_132 : decode cX6_carryOutOrder 132 = .ok (.ireturn, 1) := by decide +kernel
theorem dX6_carryOutOrder_133 : decode cX6_carryOutOrder 133 = .ok (.aload_n 0, 1) := by decide +kernel
theorem dX6_carryOutOrder_134 : decode cX6_carryOutOrder 134 = .ok (.getfield 12, 3) := by decide +kernel
theorem dX6_carryOutOrder_137 : decode cX6_carryOutOrder 137 = .ok (.aload_n 0, 1) := by decide +kernel
theorem dX6_carryOutOrder_138 : decode cX6_carryOutOrder 138 = .ok (.getfield 30, 3) := by decide +kernel
theorem dX6_carryOutOrder_141 : decode cX6_carryOutOrder 141 = .ok (.invokevirtual 141, 3) := by decide +kernel
theorem dX6_carryOutOrder_144 : decode cX6_carryOutOrder 144 = .ok (.aload_n 0, 1) := by decide +kernel
theorem dX6_carryOutOrder_145 : decode cX6_carryOutOrder 145 = .ok (.getfield 30, 3) := by decide +kernel
theorem dX6_carryOutOrder_148 : decode cX6_carryOutOrder 148 = .ok (.invokevirtual 144, 3) := by decide +kernel
theorem dX6_carryOutOrder_151 : decode cX6_carryOutOrder 151 = .ok (.invokevirtual 57, 3) := by decide +kernel
theorem dX6_carryOutOrder_154 : decode cX6_carryOutOrder 154 = .ok (.ireturn, 1) := by decide +kernel
theorem dX6_carryOutOrder_155 : decode cX6_carryOutOrder 155 = .ok (.aload_n 0, 1) := by decide +kernel
theorem dX6_carryOutOrder_156 : decode cX6_carryOutOrder 156 = .ok (.getfield 12, 3) := by decide +kernel
theorem dX6_carryOutOrder_159 : decode cX6_carryOutOrder 159 = .ok (.aload_n 0, 1) := by decide +kernel
theorem dX6_carryOutOrder_160 : decode cX6_carryOutOrder 160 = .ok (.getfield 30, 3) := by decide +kernel
theorem dX6_carryOutOrder_163 : decode cX6_carryOutOrder 163 = .ok (.invokevirtual 141, 3) := by decide +kernel
theorem dX6_carryOutOrder_166 : decode cX6_carryOutOrder 166 = .ok (.invokevirtual 60, 3) := by decide +kernel
theorem dX6_carryOutOrder_169 : decode cX6_carryOutOrder 169 = .ok (.ireturn, 1) := by decide +kernel
theorem dX6_carryOutOrder_170 : decode cX6_carryOutOrder 170 = .ok (.aload_n 0, 1) := by decide +kernel
theorem dX6_carryOutOrder_171 : decode cX6_carryOutOrder 171 = .ok (.getfield 12, 3) := by decide +kernel
theorem dX6_carryOutOrder_174 : decode cX6_carryOutOrder 174 = .ok (.aload_n 0, 1) := by decide +kernel
theorem dX6_carryOutOrder_175 : decode cX6_carryOutOrder 175 = .ok (.getfield 30, 3) := by decide +kernel
theorem dX6_carryOutOrder_178 : decode cX6_carryOutOrder 178 = .ok (.invokevirtual 141, 3) := by decide +kernel
theorem dX6_carryOutOrder_181 : decode cX6_carryOutOrder 181 = .ok (.invokevirtual 66, 3) := by decide +kernel
theorem dX6_carryOutOrder_184 : decode cX6_carryOutOrder 184 = .ok (.ireturn, 1) := by decide +kernel
theorem dX6_carryOutOrder_185 : decode cX6_carryOutOrder 185 = .ok (.aload_n 0, 1) := by decide +kernel
theorem dX6_carryOutOrder_186 : decode cX6_carryOutOrder 186 = .ok (.getfield 12, 3) := by decide +kernel
theorem dX6_carryOutOrder_189 : decode cX6_carryOutOrder 189 = .ok (.aload_n 0, 1) := by decide +kernel
theorem dX6_carryOutOrder_190 : decode cX6_carryOutOrder 190 = .ok (.getfield 30, 3) := by decide +kernel
theorem dX6_carryOutOrder_193 : decode cX6_carryOutOrder 193 = .ok (.invokevirtual 141, 3) := by decide +kernel
theorem dX6_carryOutOrder_196 : decode cX6_carryOutOrder 196 = .ok (.aload_n 0, 1) := by decide +kernel
theorem dX6_carryOutOrder_197 : decode cX6_carryOutOrder 197 = .ok (.getfield 30, 3) := by decide +kernel
theorem dX6_carryOutOrder_200 : decode cX6_carryOutOrder 200 = .ok (.invokevirtual 144, 3) := by decide +kernel
theorem dX6_carryOutOrder_203 : decode cX6_carryOutOrder 203 = .ok (.invokevirtual 69, 3) := by decide +kernel
theorem dX6_carryOutOrder_206 : decode cX6_carryOutOrder 206 = .ok (.ireturn, 1) := by decide +kernel
theorem dX6_carryOutOrder_207 : decode cX6_carryOutOrder 207 = .ok (.aload_n 0, 1) := by decide +kernel
theorem dX6_carryOutOrder_208 : decode cX6_carryOutOrder 208 = .ok (.getfield 12, 3) := by decide +kernel
theorem dX6_carryOutOrder_211 : decode cX6_carryOutOrder 211 = .ok (.aload_n 0, 1) := by decide +kernel
theorem dX6_carryOutOrder_212 : decode cX6_carryOutOrder 212 = .ok (.getfield 30, 3) := by decide +kernel
theorem dX6_carryOutOrder_215 : decode cX6_carryOutOrder 215 = .ok (.invokevirtual 141, 3) := by decide +kernel
theorem dX6_carryOutOrder_218 : decode cX6_carryOutOrder 218 = .ok (.invokevirtual 78, 3) := by decide +kernel
theorem dX6_carryOutOrder_221 : decode cX6_carryOutOrder 221 = .ok (.ireturn, 1) := by decide +kernel
theorem dX6_carryOutOrder_222 : decode cX6_carryOutOrder 222 = .ok (.aload_n 0, 1) := by decide +kernel
theorem dX6_carryOutOrder_223 : decode cX6_carryOutOrder 223 = .ok (.getfield 12, 3) := by decide +kernel
theorem dX6_carryOutOrder_226 : decode cX6_carryOutOrder 226 = .ok (.aload_n 0, 1) := by decide +kernel
theorem dX6_carryOutOrder_227 : decode cX6_carryOutOrder 227 = .ok (.getfield 30, 3) := by decide +kernel
theorem dX6_carryOutOrder_230 : decode cX6_carryOutOrder 230 = .ok (.invokevirtual 141, 3) := by decide +kernel
theorem dX6_carryOutOrder_233 : decode cX6_carryOutOrder 233 = .ok (.invokevirtual 75, 3) := by decide +kernel
theorem dX6_carryOutOrder_236 : decode cX6_carryOutOrder 236 = .ok (.ireturn, 1) := by decide +kernel
theorem dX6_carryOutOrder_237 : decode cX6_carryOutOrder 237 = .ok (.bipush (-3), 2) := by decide +kernel
theorem dX6_carryOutOrder_239 : decode cX6_carryOutOrder 239 = .ok (.ireturn, 1) := by decide +kernel
set_option maxRecDepth 20000 in
theorem ggX6_undo_X1_stepBack : GoodIn wsX6_undo wsX1_stepBack := goodIn_r _ [7, 8, 9, 10, 11, 12, 6, 13, 14, 15, 16, 17, 18, 19, 20, 21, 22, 23, 24, 25, 26, 27, 28, 29, 30, 31, 32, 33, 34, 35, 36, 37, 38, 39, 40, 41, 42, 43, 44, 45, 46, 47, 48, 49, 50, 51, 52, 53, 54, 55, 56, 57, 58, 59, 60, 61, 62, 63, 64, 65, 70, 71, 72, 73, 74, 75, 76, 77, 78, 79, 80, 81, 82, 83, 84, 85, 86, 87, 88, 89, 90, 91, 92, 93] (by decide +kernel) (by decide +kernel)
set_option maxRecDepth 20000 in
theorem gX6_undo_X1_stepBack : GoodIn wsX6_undo (wsV RX6 150 RX1 yX1_stepBack wsX1_stepBack) := goodIn_app (goodIn_of _ (by decide +kernel)) ggX6_undo_X1_stepBack
theorem dX6_undo_0 : decode cX6_undo 0 = .ok (.aload_n 0, 1) := by decide +kernel
theorem dX6_undo_1 : decode cX6_undo 1 = .ok (.getfield 19, 3) := by decide +kernel
theorem dX6_undo_4 : decode cX6_undo 4 = .ok (.aload_n 0, 1) := by decide +kernel
theorem dX6_undo_5 : decode cX6_undo 5 = .ok (.getfield 12, 3) := by decide +kernel
theorem dX6_undo_8 : decode cX6_undo 8 = .ok (.invokevirtual 150, 3) := by decide +kernel
theorem dX6_undo_11 : decode cX6_undo 11 = .ok (.ireturn, 1) := by decide +kernel
set_option maxRecDepth 20000 in
theorem ggX6_save_X5_init : GoodIn wsX6_save wsX5_init := goodIn_r _ [8, 9, 10, 11, 12, 13, 14, 15, 16, 17, 18, 19, 20, 21, 22, 23, 24, 25, 26, 27, 28, 29, 30, 31, 32, 33, 34, 35, 36, 37, 38, 39, 40, 41, 42, 43, 44, 45, 46, 47, 48, 49, 50, 51, 52, 53, 54, 55, 56, 57, 58, 59, 106, 98, 99, 100, 101, 102, 103, 104, 105, 107, 108, 109, 110, 111, 112, 113, 114, 115, 116, 117, 118] (by decide +kernel) (by decide +kernel)
set_option maxRecDepth 20000 in
theorem gX6_save_X5_init : GoodIn wsX6_save (wsX5_init) := ggX6_save_X5_init
set_option maxRecDepth 20000 in
theorem ggX6_save_X5_copyFrom : GoodIn wsX6_save wsX5_copyFrom := goodIn_r _ [63, 15, 19, 23, 24, 25, 64, 26, 65, 66, 67, 68, 14, 69, 36, 70, 71, 33, 72, 73, 74, 75, 76, 77, 78, 79, 18, 80, 41, 81, 82, 83, 84, 85, 86, 22, 87, 47, 48, 49, 50, 51, 52, 53, 54, 88, 89, 98, 99, 100, 101, 102, 103, 104, 105, 106, 107, 108, 109, 110, 111, 112, 113, 114, 115, 116, 117, 118] (by decide +kernel) (by decide +kernel)
set_option maxRecDepth 20000 in
theorem gX6_save_X5_copyFrom : GoodIn wsX6_save (wsV RX6 154 RX5 yX5_copyFrom wsX5_copyFrom) := goodIn_app (goodIn_of _ (by decide +kernel)) ggX6_save_X5_copyFrom
set_option maxRecDepth 20000 in
theorem ggX6_save_X5_potsSoFar : GoodIn wsX6_save wsX5_potsSoFar := goodIn_r _ [93, 23, 98, 99, 100, 101, 102, 103, 104, 105, 110, 111, 112, 113, 114, 115, 116, 117, 118] (by decide +kernel) (by decide +kernel)
set_option maxRecDepth 20000 in
theorem gX6_save_X5_potsSoFar : GoodIn wsX6_save (wsV RX6 157 RX5 yX5_potsSoFar wsX5_potsSoFar) := goodIn_app (goodIn_of _ (by decide +kernel)) ggX6_save_X5_potsSoFar
theorem dX6_save_0 : decode cX6_save 0 = .ok (.iload_n 1, 1) := by decide +kernel
theorem dX6_save_1 : decode cX6_save 1 = .ok (.ifCond .lt 12, 3) := by decide +kernel
theorem dX6_save_4 : decode cX6_save 4 = .ok (.iload_n 1, 1) := by decide +kernel
theorem dX6_save_5 : decode cX6_save 5 = .ok (.aload_n 0, 1) := by decide +kernel
theorem dX6_save_6 : decode cX6_save 6 = .ok (.getfield 23, 3) := by decide +kernel
theorem dX6_save_9 : decode cX6_save 9 = .ok (.arraylength, 1) := by decide +kernel
theorem dX6_save_10 : decode cX6_save 10 = .ok (.if_icmp .lt 6, 3) := by decide +kernel
theorem dX6_save_13 : decode cX6_save 13 = .ok (.bipush (-2), 2) := by decide +kernel
theorem dX6_save_15 : decode cX6_save 15 = .ok (.ireturn, 1) := by decide +kernel
theorem dX6_save_16 : decode cX6_save 16 = .ok (.aload_n 0, 1) := by decide +kernel
theorem dX6_save_17 : decode cX6_save 17 = .ok (.getfield 23, 3) := by decide +kernel
theorem dX6_save_20 : decode cX6_save 20 = .ok (.iload_n 1, 1) := by decide +kernel
theorem dX6_save_21 : decode cX6_save 21 = .ok (.aaload, 1) := by decide +kernel
theorem dX6_save_22 : decode cX6_save 22 = .ok (.astore_n 2, 1) := by decide +kernel
theorem dX6_save_23 : decode cX6_save 23 = .ok (.aload_n 2, 1) := by decide +kernel
theorem dX6_save_24 : decode cX6_save 24 = .ok (.ifnonnull 18, 3) := by decide +kernel
theorem dX6_save_27 : decode cX6_save 27 = .ok (.new 9, 3) := by decide +kernel
theorem dX6_save_30 : decode cX6_save 30 = .ok (.dup, 1) := by decide +kernel
theorem dX6_save_31 : decode cX6_save 31 = .ok (.invokespecial 11, 3) := by decide +kernel
theorem dX6_save_34 : decode cX6_save 34 = .ok (.astore_n 2, 1) := by decide +kernel
theorem dX6_save_35 : decode cX6_save 35 = .ok (.aload_n 0, 1) := by decide +kernel
theorem dX6_save_36 : decode cX6_save 36 = .ok (.getfield 23, 3) := by decide +kernel
theorem dX6_save_39 : decode cX6_save 39 = .ok (.iload_n 1, 1) := by decide +kernel
theorem dX6_save_40 : decode cX6_save 40 = .ok (.aload_n 2, 1) := by decide +kernel
theorem dX6_save_41 : decode cX6_save 41 = .ok (.aastore, 1) := by decide +kernel
theorem dX6_save_42 : decode cX6_save 42 = .ok (.aload_n 2, 1) := by decide +kernel
theorem dX6_save_43 : decode cX6_save 43 = .ok (.aload_n 0, 1) := by decide +kernel
theorem dX6_save_44 : decode cX6_save 44 = .ok (.getfield 12, 3) := by decide +kernel
theorem dX6_save_47 : decode cX6_save 47 = .ok (.invokevirtual 154, 3) := by decide +kernel
theorem dX6_save_50 : decode cX6_save 50 = .ok (.aload_n 0, 1) := by decide +kernel
theorem dX6_save_51 : decode cX6_save 51 = .ok (.getfield 12, 3) := by decide +kernel
theorem dX6_save_54 : decode cX6_save 54 = .ok (.invokevirtual 157, 3) := by decide +kernel
theorem dX6_save_57 : decode cX6_save 57 = .ok (.ireturn, 1) := by decide +kernel
set_option maxRecDepth 20000 in
theorem ggX6_restore_X1_prepare : GoodIn wsX6_restore wsX1_prepare := goodIn_r _ [8, 9, 10, 11, 12, 7, 13, 14, 15, 16, 17, 18, 19, 20, 21, 22, 23, 24, 25, 26, 27, 28, 29, 30, 31, 32, 33, 34, 35, 36, 37, 38, 39, 40, 41, 42, 43, 44, 45, 46, 47, 48, 49, 50, 51, 52, 53, 54, 55, 56, 57, 58, 59, 60, 61, 62, 63, 64, 65, 81, 82, 83, 84, 85, 86, 87, 88, 89, 90, 91, 92, 93, 94, 95, 96, 97, 98, 99, 100, 101, 102, 103, 104] (by decide +kernel) (by decide +kernel)
set_option maxRecDepth 20000 in
theorem gX6_restore_X1_prepare : GoodIn wsX6_restore (wsV RX6 34 RX1 yX1_prepare wsX1_prepare) := goodIn_app (goodIn_of _ (by decide +kernel)) ggX6_restore_X1_prepare
set_option maxRecDepth 20000 in
theorem ggX6_restore_X5_copyFrom : GoodIn wsX6_restore wsX5_copyFrom := goodIn_r _ [19, 20, 21, 22, 23, 24, 25, 26, 27, 28, 29, 30, 31, 32, 33, 34, 35, 36, 37, 38, 39, 40, 41, 42, 43, 44, 45, 46, 47, 48, 49, 50, 51, 52, 53, 54, 55, 56, 57, 58, 59, 60, 61, 62, 63, 64, 65, 84, 85, 86, 87, 88, 89, 90, 91, 92, 93, 94, 95, 96, 97, 98, 99, 100, 101, 102, 103, 104] (by decide +kernel) (by decide +kernel)
set_option maxRecDepth 20000 in
theorem gX6_restore_X5_copyFrom : GoodIn wsX6_restore (wsV RX6 154 RX5 yX5_copyFrom wsX5_copyFrom) := goodIn_app (goodIn_of _ (by decide +kernel)) ggX6_restore_X5_copyFrom
set_option maxRecDepth 20000 in
theorem ggX6_restore_X5_potsSoFar : GoodIn wsX6_restore wsX5_potsSoFar := goodIn_r _ [70, 22, 84, 85, 86, 87, 88, 89, 90, 91, 96, 97, 98, 99, 100, 101, 102, 103, 104] (by decide +kernel) (by decide +kernel)
set_option maxRecDepth 20000 in
theorem gX6_restore_X5_potsSoFar : GoodIn wsX6_restore (wsV RX6 157 RX5 yX5_potsSoFar wsX5_potsSoFar) := goodIn_app (goodIn_of _ (by decide +kernel)) ggX6_restore_X5_potsSoFar
set_option maxRecDepth 20000 in
theorem ggX6_restore_X1_record : GoodIn wsX6_restore wsX1_record := goodIn_r _ [74, 9, 75, 76, 35, 36, 37, 81, 82, 83] (by decide +kernel) (by decide +kernel)
set_option maxRecDepth 20000 in
theorem gX6_restore_X1_record : GoodIn wsX6_restore (wsV RX6 42 RX1 yX1_record wsX1_record) := goodIn_app (goodIn_of _ (by decide +kernel)) ggX6_restore_X1_record
theorem dX6_restore_0 : decode cX6_restore 0 = .ok (.iload_n 1, 1) := by decide +kernel
theorem dX6_restore_1 : decode cX6_restore 1 = .ok (.ifCond .lt 12, 3) := by decide +kernel
theorem dX6_restore_4 : decode cX6_restore 4 = .ok (.iload_n 1, 1) := by decide +kernel
theorem dX6_restore_5 : decode cX6_restore 5 = .ok (.aload_n 0, 1) := by decide +kernel
theorem dX6_restore_6 : decode cX6_restore 6 = .ok (.getfield 23, 3) := by decide +kernel
theorem dX6_restore_9 : decode cX6_restore 9 = .ok (.arraylength, 1) := by decide +kernel
theorem dX6_restore_10 : decode cX6_restore 10 = .ok (.if_icmp .lt 6, 3) := by decide +kernel
theorem dX6_restore_13 : decode cX6_restore 13 = .ok (.bipush (-2), 2) := by decide +kernel
theorem dX6_restore_15 : decode cX6_restore 15 = .ok (.ireturn, 1) := by decide +kernel
theorem dX6_restore_16 : decode cX6_restore 16 = .ok (.aload_n 0, 1) := by decide +kernel
theorem dX6_restore_17 : decode cX6_restore 17 = .ok (.getfield 23, 3) := by decide +kernel
theorem dX6_restore_20 : decode cX6_restore 20 = .ok (.iload_n 1, 1) := by decide +kernel
theorem dX6_restore_21 : decode cX6_restore 21 = .ok (.aaload, 1) := by decide +kernel
theorem dX6_restore_22 : decode cX6_restore 22 = .ok (.astore_n 2, 1) := by decide +kernel
theorem dX6_restore_23 : decode cX6_restore 23 = .ok (.aload_n 2, 1) := by decide +kernel
theorem dX6_restore_24 : decode cX6_restore 24 = .ok (.ifnonnull 6, 3) := by decide +kernel
theorem dX6_restore_27 : decode cX6_restore 27 = .ok (.bipush (-5), 2) := by decide +kernel
theorem dX6_restore_29 : decode cX6_restore 29 = .ok (.ireturn, 1) := by decide +kernel
theorem dX6_restore_30 : decode cX6_restore 30 = .ok (.aload_n 0, 1) := by decide +kernel
theorem dX6_restore_31 : decode cX6_restore 31 = .ok (.getfield 19, 3) := by decide +kernel
theorem dX6_restore_34 : decode cX6_restore 34 = .ok (.aload_n 0, 1) := by decide +kernel
theorem dX6_restore_35 : decode cX6_restore 35 = .ok (.getfield 12, 3) := by decide +kernel
theorem dX6_restore_38 : decode cX6_restore 38 = .ok (.invokevirtual 34, 3) := by decide +kernel
theorem dX6_restore_41 : decode cX6_restore 41 = .ok (.aload_n 0, 1) := by decide +kernel
theorem dX6_restore_42 : decode cX6_restore 42 = .ok (.getfield 12, 3) := by decide +kernel
theorem dX6_restore_45 : decode cX6_restore 45 = .ok (.aload_n 2, 1) := by decide +kernel
theorem dX6_restore_46 : decode cX6_restore 46 = .ok (.invokevirtual 154, 3) := by decide +kernel
theorem dX6_restore_49 : decode cX6_restore 49 = .ok (.aload_n 0, 1) := by decide +kernel
theorem dX6_restore_50 : decode cX6_restore 50 = .ok (.getfield 19, 3) := by decide +kernel
theorem dX6_restore_53 : decode cX6_restore 53 = .ok (.aload_n 0, 1) := by decide +kernel
theorem dX6_restore_54 : decode cX6_restore 54 = .ok (.getfield 12, 3) := by decide +kernel
theorem dX6_restore_57 : decode cX6_restore 57 = .ok (.invokevirtual 157, 3) := by decide +kernel
theorem dX6_restore_60 : decode cX6_restore 60 = .ok (.invokevirtual 42, 3) := by decide +kernel
theorem dX6_restore_63 : decode cX6_restore 63 = .ok (.ireturn, 1) := by decide +kernel
theorem dX6_isWithin_0 : decode cX6_isWithin 0 = .ok (.iload_n 0, 1) := by decide +kernel
theorem dX6_isWithin_1 : decode cX6_isWithin 1 = .ok (.iload_n 1, 1) := by decide +kernel
theorem dX6_isWithin_2 : decode cX6_isWithin 2 = .ok (.if_icmp .lt 12, 3) := by decide +kernel
theorem dX6_isWithin_5 : decode cX6_isWithin 5 = .ok (.iload_n 0, 1) := by decide +kernel
theorem dX6_isWithin_6 : decode cX6_isWithin 6 = .ok (.iload_n 2, 1) := by decide +kernel
theorem dX6_isWithin_7 : decode cX6_isWithin 7 = .ok (.if_icmp .gt 7, 3) := by decide +kernel
theorem dX6_isWithin_10 : decode cX6_isWithin 10 = .ok (.iconst 1, 1) := by decide +kernel
theorem dX6_isWithin_11 : decode cX6_isWithin 11 = .ok (.goto 4, 3) := by decide +kernel
theorem dX6_isWithin_14 : decode cX6_isWithin 14 = .ok (.iconst 0, 1) := by decide +kernel
theorem dX6_isWithin_15 : decode cX6_isWithin 15 = .ok (.ireturn, 1) := by decide +kernel
set_option maxRecDepth 20000 in
theorem ggX6_isAhead_X6_isWithin : GoodIn wsX6_isAhead wsX6_isWithin := goodIn_r _ [4] (by decide +kernel) (by decide +kernel)
