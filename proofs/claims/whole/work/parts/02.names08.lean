theorem dX7_readOrder_88 : decode cX7_readOrder 88 = .ok (.if_icmp .ne 7, 3) := by decide +kernel
theorem dX7_readOrder_91 : decode cX7_readOrder 91 = .ok (.iconst 1, 1) := by decide +kernel
theorem dX7_readOrder_92 : decode cX7_readOrder 92 = .ok (.goto 4, 3) := by decide +kernel
theorem dX7_readOrder_95 : decode cX7_readOrder 95 = .ok (.iconst 0, 1) := by decide +kernel
theorem dX7_readOrder_96 : decode cX7_readOrder 96 = .ok (.invokevirtual 193, 3) := by decide +kernel
theorem dX7_readOrder_99 : decode cX7_readOrder 99 = .ok (.aload_n 0, 1) := by decide +kernel
theorem dX7_readOrder_100 : decode cX7_readOrder 100 = .ok (.getfield 186, 3) := by decide +kernel
theorem dX7_readOrder_103 : decode cX7_readOrder 103 = .ok (.ifCond .ne 12, 3) := by decide +kernel
theorem dX7_readOrder_106 : decode cX7_readOrder 106 = .ok (.aload_n 0, 1) := by decide +kernel
theorem dX7_readOrder_107 : decode cX7_readOrder 107 = .ok (.getfield 200, 3) := by decide +kernel
theorem dX7_readOrder_110 : decode cX7_readOrder 110 = .ok (.bipush 112, 2) := by decide +kernel
theorem dX7_readOrder_112 : decode cX7_readOrder 112 = .ok (.if_icmp .ne 4, 3) := by decide +kernel
theorem dX7_readOrder_115 : decode cX7_readOrder 115 = .ok (.return_, 1) := by decide +kernel
theorem dX7_readOrder_116 : decode cX7_readOrder 116 = .ok (.aload_n 0, 1) := by decide +kernel
theorem dX7_readOrder_117 : decode cX7_readOrder 117 = .ok (.aload_n 0, 1) := by decide +kernel
theorem dX7_readOrder_118 : decode cX7_readOrder 118 = .ok (.getfield 200, 3) := by decide +kernel
theorem dX7_readOrder_121 : decode cX7_readOrder 121 = .ok (.bipush 98, 2) := by decide +kernel
theorem dX7_readOrder_123 : decode cX7_readOrder 123 = .ok (.if_icmp .eq 12, 3) := by decide +kernel
theorem dX7_readOrder_126 : decode cX7_readOrder 126 = .ok (.aload_n 0, 1) := by decide +kernel
theorem dX7_readOrder_127 : decode cX7_readOrder 127 = .ok (.getfield 200, 3) := by decide +kernel
theorem dX7_readOrder_130 : decode cX7_readOrder 130 = .ok (.bipush 116, 2) := by decide +kernel
theorem dX7_readOrder_132 : decode cX7_readOrder 132 = .ok (.if_icmp .ne 10, 3) := by decide +kernel
theorem dX7_readOrder_135 : decode cX7_readOrder 135 = .ok (.aload_n 0, 1) := by decide +kernel
theorem dX7_readOrder_136 : decode cX7_readOrder 136 = .ok (.invokevirtual 197, 3) := by decide +kernel
theorem dX7_readOrder_139 : decode cX7_readOrder 139 = .ok (.goto 7, 3) := by decide +kernel
theorem dX7_readOrder_142 : decode cX7_readOrder 142 = .ok (.aload_n 0, 1) := by decide +kernel
theorem dX7_readOrder_143 : decode cX7_readOrder 143 = .ok (.invokevirtual 209, 3) := by decide +kernel
theorem dX7_readOrder_146 : decode cX7_readOrder 146 = .ok (.putfield 212, 3) := by decide +kernel
theorem dX7_readOrder_149 : decode cX7_readOrder 149 = .ok (.aload_n 0, 1) := by decide +kernel
theorem dX7_readOrder_150 : decode cX7_readOrder 150 = .ok (.getfield 200, 3) := by decide +kernel
theorem dX7_readOrder_153 : decode cX7_readOrder 153 = .ok (.bipush 98, 2) := by decide +kernel
theorem dX7_readOrder_155 : decode cX7_readOrder 155 = .ok (.if_icmp .ne 59, 3) := by decide +kernel
theorem dX7_readOrder_158 : decode cX7_readOrder 158 = .ok (.aload_n 0, 1) := by decide +kernel
theorem dX7_readOrder_159 : decode cX7_readOrder 159 = .ok (.aload_n 0, 1) := by decide +kernel
theorem dX7_readOrder_160 : decode cX7_readOrder 160 = .ok (.getfield 186, 3) := by decide +kernel
theorem dX7_readOrder_163 : decode cX7_readOrder 163 = .ok (.ifCond .eq 7, 3) := by decide +kernel
theorem dX7_readOrder_166 : decode cX7_readOrder 166 = .ok (.iconst 0, 1) := by decide +kernel
theorem dX7_readOrder_167 : decode cX7_readOrder 167 = .ok (.goto 7, 3) := by decide +kernel
theorem dX7_readOrder_170 : decode cX7_readOrder 170 = .ok (.aload_n 0, 1) := by decide +kernel
theorem dX7_readOrder_171 : decode cX7_readOrder 171 = .ok (.invokevirtual 197, 3) := by decide +kernel
theorem dX7_readOrder_174 : decode cX7_readOrder 174 = .ok (.putfield 203, 3) := by decide +kernel
theorem dX7_readOrder_177 : decode cX7_readOrder 177 = .ok (.aload_n 0, 1) := by decide +kernel
theorem dX7_readOrder_178 : decode cX7_readOrder 178 = .ok (.getfield 186, 3) := by decide +kernel
theorem dX7_readOrder_181 : decode cX7_readOrder 181 = .ok (.ifCond .ne 102, 3) := by decide +kernel
theorem dX7_readOrder_184 : decode cX7_readOrder 184 = .ok (.aload_n 0, 1) := by decide +kernel
theorem dX7_readOrder_185 : decode cX7_readOrder 185 = .ok (.invokevirtual 190, 3) := by decide +kernel
theorem dX7_readOrder_188 : decode cX7_readOrder 188 = .ok (.bipush 43, 2) := by decide +kernel
theorem dX7_readOrder_190 : decode cX7_readOrder 190 = .ok (.if_icmp .ne 93, 3) := by decide +kernel
theorem dX7_readOrder_193 : decode cX7_readOrder 193 = .ok (.aload_n 0, 1) := by decide +kernel
theorem dX7_readOrder_194 : decode cX7_readOrder 194 = .ok (.dup, 1) := by decide +kernel
theorem dX7_readOrder_195 : decode cX7_readOrder 195 = .ok (.getfield 183, 3) := by decide +kernel
theorem dX7_readOrder_198 : decode cX7_readOrder 198 = .ok (.iconst 1, 1) := by decide +kernel
theorem dX7_readOrder_199 : decode cX7_readOrder 199 = .ok (.iadd, 1) := by decide +kernel
theorem dX7_readOrder_200 : decode cX7_readOrder 200 = .ok (.putfield 183, 3) := by decide +kernel
theorem dX7_readOrder_203 : decode cX7_readOrder 203 = .ok (.aload_n 0, 1) := by decide +kernel
theorem dX7_readOrder_204 : decode cX7_readOrder 204 = .ok (.aload_n 0, 1) := by decide +kernel
theorem dX7_readOrder_205 : decode cX7_readOrder 205 = .ok (.invokevirtual 209, 3) := by decide +kernel
theorem dX7_readOrder_208 : decode cX7_readOrder 208 = .ok (.putfield 206, 3) := by decide +kernel
theorem dX7_readOrder_211 : decode cX7_readOrder 211 = .ok (.goto 72, 3) := by decide +kernel
theorem dX7_readOrder_214 : decode cX7_readOrder 214 = .ok (.aload_n 0, 1) := by decide +kernel
theorem dX7_readOrder_215 : decode cX7_readOrder 215 = .ok (.getfield 200, 3) := by decide +kernel
theorem dX7_readOrder_218 : decode cX7_readOrder 218 = .ok (.bipush 116, 2) := by decide +kernel
theorem dX7_readOrder_220 : decode cX7_readOrder 220 = .ok (.if_icmp .eq 12, 3) := by decide +kernel
theorem dX7_readOrder_223 : decode cX7_readOrder 223 = .ok (.aload_n 0, 1) := by decide +kernel
theorem dX7_readOrder_224 : decode cX7_readOrder 224 = .ok (.getfield 200, 3) := by decide +kernel
theorem dX7_readOrder_227 : decode cX7_readOrder 227 = .ok (.bipush 103, 2) := by decide +kernel
theorem dX7_readOrder_229 : decode cX7_readOrder 229 = .ok (.if_icmp .ne 54, 3) := by decide +kernel
theorem dX7_readOrder_232 : decode cX7_readOrder 232 = .ok (.aload_n 0, 1) := by decide +kernel
theorem dX7_readOrder_233 : decode cX7_readOrder 233 = .ok (.aload_n 0, 1) := by decide +kernel
theorem dX7_readOrder_234 : decode cX7_readOrder 234 = .ok (.invokevirtual 190, 3) := by decide +kernel
theorem dX7_readOrder_237 : decode cX7_readOrder 237 = .ok (.aload_n 0, 1) := by decide +kernel
theorem dX7_readOrder_238 : decode cX7_readOrder 238 = .ok (.getfield 200, 3) := by decide +kernel
theorem dX7_readOrder_241 : decode cX7_readOrder 241 = .ok (.bipush 116, 2) := by decide +kernel
theorem dX7_readOrder_243 : decode cX7_readOrder 243 = .ok (.if_icmp .ne 8, 3) := by decide +kernel
theorem dX7_readOrder_246 : decode cX7_readOrder 246 = .ok (.bipush 42, 2) := by decide +kernel
theorem dX7_readOrder_248 : decode cX7_readOrder 248 = .ok (.goto 5, 3) := by decide +kernel
theorem dX7_readOrder_251 : decode cX7_readOrder 251 = .ok (.bipush 46, 2) := by decide +kernel
theorem dX7_readOrder_253 : decode cX7_readOrder 253 = .ok (.if_icmp .ne 7, 3) := by decide +kernel
theorem dX7_readOrder_256 : decode cX7_readOrder 256 = .ok (.iconst 1, 1) := by decide +kernel
theorem dX7_readOrder_257 : decode cX7_readOrder 257 = .ok (.goto 4, 3) := by decide +kernel
theorem dX7_readOrder_260 : decode cX7_readOrder 260 = .ok (.iconst 0, 1) := by decide +kernel
theorem dX7_readOrder_261 : decode cX7_readOrder 261 = .ok (.invokevirtual 193, 3) := by decide +kernel
theorem dX7_readOrder_264 : decode cX7_readOrder 264 = .ok (.aload_n 0, 1) := by decide +kernel
theorem dX7_readOrder_265 : decode cX7_readOrder 265 = .ok (.aload_n 0, 1) := by decide +kernel
theorem dX7_readOrder_266 : decode cX7_readOrder 266 = .ok (.getfield 186, 3) := by decide +kernel
theorem dX7_readOrder_269 : decode cX7_readOrder 269 = .ok (.ifCond .eq 7, 3) := by decide +kernel
theorem dX7_readOrder_272 : decode cX7_readOrder 272 = .ok (.iconst 0, 1) := by decide +kernel
theorem dX7_readOrder_273 : decode cX7_readOrder 273 = .ok (.goto 7, 3) := by decide +kernel
theorem dX7_readOrder_276 : decode cX7_readOrder 276 = .ok (.aload_n 0, 1) := by decide +kernel
theorem dX7_readOrder_277 : decode cX7_readOrder 277 = .ok (.invokevirtual 197, 3) := by decide +kernel
theorem dX7_readOrder_280 : decode cX7_readOrder 280 = .ok (.putfield 203, 3) := by decide +kernel
theorem dX7_readOrder_283 : decode cX7_readOrder 283 = .ok (.return_, 1) := by decide +kernel
set_option maxRecDepth 20000 in
theorem ggX7_findFault_X7_readOrder : GoodIn wsX7_findFault wsX7_readOrder := goodIn_r _ [8, 9, 10, 11, 2, 12, 1, 13, 14, 15, 7, 16, 3, 17, 18, 19, 20, 21, 22, 23, 24, 25, 26, 27, 28, 29, 30, 31, 32, 33, 34, 35, 36, 37, 38, 39, 40, 41, 42, 43, 44, 45] (by decide +kernel) (by decide +kernel)
set_option maxRecDepth 20000 in
theorem gX7_findFault_X7_readOrder : GoodIn wsX7_findFault (wsV RX7 215 RX7 yX7_readOrder wsX7_readOrder) := goodIn_app (goodIn_of _ (by decide +kernel)) ggX7_findFault_X7_readOrder
set_option maxRecDepth 20000 in
theorem ggX7_findFault_X7_sign : GoodIn wsX7_findFault wsX7_sign := goodIn_r _ [16, 1, 3, 17, 33, 34, 35, 36, 37, 38, 39, 40, 41, 42, 43, 44, 45] (by decide +kernel) (by decide +kernel)
set_option maxRecDepth 20000 in
theorem gX7_findFault_X7_sign : GoodIn wsX7_findFault (wsV RX7 190 RX7 yX7_sign wsX7_sign) := goodIn_app (goodIn_of _ (by decide +kernel)) ggX7_findFault_X7_sign
set_option maxRecDepth 20000 in
theorem ggX7_findFault_X7_take : GoodIn wsX7_findFault wsX7_take := goodIn_r _ [21, 2, 1, 33, 34, 35, 36, 37, 38, 39, 40, 41, 42, 43, 44, 45] (by decide +kernel) (by decide +kernel)
set_option maxRecDepth 20000 in
theorem gX7_findFault_X7_take : GoodIn wsX7_findFault (wsV RX7 193 RX7 yX7_take wsX7_take) := goodIn_app (goodIn_of _ (by decide +kernel)) ggX7_findFault_X7_take
theorem dX7_findFault_0 : decode cX7_findFault 0 = .ok (.aload_n 0, 1) := by decide +kernel
theorem dX7_findFault_1 : decode cX7_findFault 1 = .ok (.iconst 0, 1) := by decide +kernel
theorem dX7_findFault_2 : decode cX7_findFault 2 = .ok (.putfield 183, 3) := by decide +kernel
theorem dX7_findFault_5 : decode cX7_findFault 5 = .ok (.aload_n 0, 1) := by decide +kernel
theorem dX7_findFault_6 : decode cX7_findFault 6 = .ok (.iconst 0, 1) := by decide +kernel
theorem dX7_findFault_7 : decode cX7_findFault 7 = .ok (.putfield 186, 3) := by decide +kernel
theorem dX7_findFault_10 : decode cX7_findFault 10 = .ok (.aload_n 0, 1) := by decide +kernel
theorem dX7_findFault_11 : decode cX7_findFault 11 = .ok (.invokevirtual 215, 3) := by decide +kernel
theorem dX7_findFault_14 : decode cX7_findFault 14 = .ok (.aload_n 0, 1) := by decide +kernel
theorem dX7_findFault_15 : decode cX7_findFault 15 = .ok (.getfield 186, 3) := by decide +kernel
theorem dX7_findFault_18 : decode cX7_findFault 18 = .ok (.ifCond .eq 8, 3) := by decide +kernel
theorem dX7_findFault_21 : decode cX7_findFault 21 = .ok (.aload_n 0, 1) := by decide +kernel
theorem dX7_findFault_22 : decode cX7_findFault 22 = .ok (.getfield 183, 3) := by decide +kernel
theorem dX7_findFault_25 : decode cX7_findFault 25 = .ok (.ireturn, 1) := by decide +kernel
theorem dX7_findFault_26 : decode cX7_findFault 26 = .ok (.aload_n 0, 1) := by decide +kernel
theorem dX7_findFault_27 : decode cX7_findFault 27 = .ok (.getfield 183, 3) := by decide +kernel
theorem dX7_findFault_30 : decode cX7_findFault 30 = .ok (.aload_n 0, 1) := by decide +kernel
theorem dX7_findFault_31 : decode cX7_findFault 31 = .ok (.getfield 175, 3) := by decide +kernel
theorem dX7_findFault_34 : decode cX7_findFault 34 = .ok (.if_icmp .ne 6, 3) := by decide +kernel
theorem dX7_findFault_37 : decode cX7_findFault 37 = .ok (.bipush (-6), 2) := by decide +kernel
theorem dX7_findFault_39 : decode cX7_findFault 39 = .ok (.ireturn, 1) := by decide +kernel
theorem dX7_findFault_40 : decode cX7_findFault 40 = .ok (.aload_n 0, 1) := by decide +kernel
theorem dX7_findFault_41 : decode cX7_findFault 41 = .ok (.aload_n 0, 1) := by decide +kernel
theorem dX7_findFault_42 : decode cX7_findFault 42 = .ok (.invokevirtual 190, 3) := by decide +kernel
theorem dX7_findFault_45 : decode cX7_findFault 45 = .ok (.bipush 59, 2) := by decide +kernel
theorem dX7_findFault_47 : decode cX7_findFault 47 = .ok (.if_icmp .ne 7, 3) := by decide +kernel
theorem dX7_findFault_50 : decode cX7_findFault 50 = .ok (.iconst 1, 1) := by decide +kernel
theorem dX7_findFault_51 : decode cX7_findFault 51 = .ok (.goto 4, 3) := by decide +kernel
theorem dX7_findFault_54 : decode cX7_findFault 54 = .ok (.iconst 0, 1) := by decide +kernel
theorem dX7_findFault_55 : decode cX7_findFault 55 = .ok (.invokevirtual 193, 3) := by decide +kernel
theorem dX7_findFault_58 : decode cX7_findFault 58 = .ok (.aload_n 0, 1) := by decide +kernel
theorem dX7_findFault_59 : decode cX7_findFault 59 = .ok (.getfield 186, 3) := by decide +kernel
theorem dX7_findFault_62 : decode cX7_findFault 62 = .ok (.ifCond .eq (-52), 3) := by decide +kernel
theorem dX7_findFault_65 : decode cX7_findFault 65 = .ok (.aload_n 0, 1) := by decide +kernel
theorem dX7_findFault_66 : decode cX7_findFault 66 = .ok (.getfield 183, 3) := by decide +kernel
theorem dX7_findFault_69 : decode cX7_findFault 69 = .ok (.ireturn, 1) := by decide +kernel
set_option maxRecDepth 20000 in
theorem ggX7_fault_X7_findFault : GoodIn wsX7_fault wsX7_findFault := goodIn_r _ [5, 6, 7, 8, 9, 10, 11, 4, 12, 13, 14, 15, 16, 17, 18, 19, 20, 21, 22, 23, 24, 25, 26, 27, 28, 29, 30, 31, 32, 33, 34, 35, 36, 37, 38, 39, 40, 41, 42, 43, 44, 45, 46, 47, 48, 49] (by decide +kernel) (by decide +kernel)
set_option maxRecDepth 20000 in
theorem gX7_fault_X7_findFault : GoodIn wsX7_fault (wsV RX7 218 RX7 yX7_findFault wsX7_findFault) := goodIn_app (goodIn_of _ (by decide +kernel)) ggX7_fault_X7_findFault
theorem dX7_fault_0 : decode cX7_fault 0 = .ok (.aload_n 0, 1) := by decide +kernel
theorem dX7_fault_1 : decode cX7_fault 1 = .ok (.invokevirtual 218, 3) := by decide +kernel
theorem dX7_fault_4 : decode cX7_fault 4 = .ok (.ireturn, 1) := by decide +kernel
set_option maxRecDepth 20000 in
theorem ggX7_noOrder_X7_noPupil : GoodIn wsX7_noOrder wsX7_noPupil := goodIn_r _ [9, 10, 109, 110, 111, 112, 113, 114, 115, 116, 117, 118, 119, 120, 121] (by decide +kernel) (by decide +kernel)
set_option maxRecDepth 20000 in
theorem gX7_noOrder_X7_noPupil : GoodIn wsX7_noOrder (wsV RX7 81 RX7 yX7_noPupil wsX7_noPupil) := goodIn_app (goodIn_of _ (by decide +kernel)) ggX7_noOrder_X7_noPupil
set_option maxRecDepth 20000 in
theorem ggX7_noOrder_X7_noBook : GoodIn wsX7_noOrder wsX7_noBook := goodIn_r _ [14, 15, 16, 17, 8, 18, 10, 19, 20, 21, 22, 23, 24, 25, 26, 27, 28, 29, 30, 31, 32, 33, 34, 35, 109, 110, 111, 112, 113, 114, 115, 116, 117, 118, 119, 120, 121] (by decide +kernel) (by decide +kernel)
set_option maxRecDepth 20000 in
theorem gX7_noOrder_X7_noBook : GoodIn wsX7_noOrder (wsV RX7 99 RX7 yX7_noBook wsX7_noBook) := goodIn_app (goodIn_of _ (by decide +kernel)) ggX7_noOrder_X7_noBook
set_option maxRecDepth 20000 in
theorem ggX7_noOrder_X7_noThrow : GoodIn wsX7_noOrder wsX7_noThrow := goodIn_r _ [39, 10, 15, 16, 17, 8, 18, 19, 20, 21, 32, 33, 34, 35, 28, 29, 30, 31, 40, 41, 42, 43, 44, 45, 46, 47, 48, 49, 50, 51, 52, 53, 54, 109, 110, 111, 112, 113, 114, 115, 116, 117, 118, 119, 120, 121] (by decide +kernel) (by decide +kernel)
set_option maxRecDepth 20000 in
theorem gX7_noOrder_X7_noThrow : GoodIn wsX7_noOrder (wsV RX7 114 RX7 yX7_noThrow wsX7_noThrow) := goodIn_app (goodIn_of _ (by decide +kernel)) ggX7_noOrder_X7_noThrow
set_option maxRecDepth 20000 in
theorem ggX7_noOrder_X7_noLoad : GoodIn wsX7_noOrder wsX7_noLoad := goodIn_r _ [58, 59, 60, 61, 8, 62, 10, 19, 20, 21, 63, 64, 65, 66, 48, 49, 50, 51, 67, 68, 69, 70, 71, 72, 73, 74, 75, 76, 77, 78, 109, 110, 111, 112, 113, 114, 115, 116, 117, 118, 119, 120, 121] (by decide +kernel) (by decide +kernel)
set_option maxRecDepth 20000 in
theorem gX7_noOrder_X7_noLoad : GoodIn wsX7_noOrder (wsV RX7 126 RX7 yX7_noLoad wsX7_noLoad) := goodIn_app (goodIn_of _ (by decide +kernel)) ggX7_noOrder_X7_noLoad
set_option maxRecDepth 20000 in
theorem ggX7_noOrder_X7_noFire : GoodIn wsX7_noOrder wsX7_noFire := goodIn_r _ [82, 19, 20, 8, 21, 44, 45, 46, 47, 10, 48, 49, 50, 51, 52, 53, 54, 83, 84, 85, 86, 87, 88, 89, 90, 91, 92, 93, 40, 41, 42, 43, 109, 110, 111, 112, 113, 114, 115, 116, 117, 118, 119, 120, 121] (by decide +kernel) (by decide +kernel)
set_option maxRecDepth 20000 in
theorem gX7_noOrder_X7_noFire : GoodIn wsX7_noOrder (wsV RX7 136 RX7 yX7_noFire wsX7_noFire) := goodIn_app (goodIn_of _ (by decide +kernel)) ggX7_noOrder_X7_noFire
set_option maxRecDepth 20000 in
theorem ggX7_noOrder_X7_noGlaze : GoodIn wsX7_noOrder wsX7_noGlaze := goodIn_r _ [97, 10, 59, 60, 61, 8, 62, 19, 20, 21, 98, 99, 100, 48, 49, 50, 51, 109, 110, 111, 112, 113, 114, 115, 116, 117, 118, 119, 120, 121] (by decide +kernel) (by decide +kernel)
set_option maxRecDepth 20000 in
theorem gX7_noOrder_X7_noGlaze : GoodIn wsX7_noOrder (wsV RX7 145 RX7 yX7_noGlaze wsX7_noGlaze) := goodIn_app (goodIn_of _ (by decide +kernel)) ggX7_noOrder_X7_noGlaze
set_option maxRecDepth 20000 in
theorem ggX7_noOrder_X7_noPass : GoodIn wsX7_noOrder wsX7_noPass := goodIn_r _ [104, 10, 19, 20, 8, 21, 109, 110, 111, 112, 113, 114, 115, 116, 117, 118, 119, 120, 121] (by decide +kernel) (by decide +kernel)
set_option maxRecDepth 20000 in
theorem gX7_noOrder_X7_noPass : GoodIn wsX7_noOrder (wsV RX7 160 RX7 yX7_noPass wsX7_noPass) := goodIn_app (goodIn_of _ (by decide +kernel)) ggX7_noOrder_X7_noPass
set_option maxRecDepth 20000 in
theorem ggX7_noOrder_X7_noTakeHome : GoodIn wsX7_noOrder wsX7_noTakeHome := goodIn_r _ [108, 59, 60, 61, 8, 62, 10, 19, 20, 21, 48, 49, 50, 51, 109, 110, 111, 112, 113, 114, 115, 116, 117, 118, 119, 120, 121] (by decide +kernel) (by decide +kernel)
set_option maxRecDepth 20000 in
theorem gX7_noOrder_X7_noTakeHome : GoodIn wsX7_noOrder (wsV RX7 151 RX7 yX7_noTakeHome wsX7_noTakeHome) := goodIn_app (goodIn_of _ (by decide +kernel)) ggX7_noOrder_X7_noTakeHome
theorem dX7_noOrder_0 : decode cX7_noOrder 0 = .ok (.aload_n 0, 1) := by decide +kernel
theorem dX7_noOrder_1 : decode cX7_noOrder 1 = .ok (.getfield 200, 3) := by decide +kernel
theorem dX7_noOrder_4 : decode cX7_noOrder 4 = .ok (.tableswitch 167 98 116 #[97, 167, 167, 167, 136, 145, 167, 167, 167, 167, 127, 167, 158, 167, 92, 167, 167, 167, 114], 92) := by decide +kernel
theorem dX7_noOrder_96 : decode cX7_noOrder 96 = .ok (.aload_n 0, 1) := by decide +kernel
theorem dX7_noOrder_97 : decode cX7_noOrder 97 = .ok (.invokevirtual 81, 3) := by decide +kernel
theorem dX7_noOrder_100 : decode cX7_noOrder 100 = .ok (.ireturn, 1) := by decide +kernel
theorem dX7_noOrder_101 : decode cX7_noOrder 101 = .ok (.aload_n 0, 1) := by decide +kernel
theorem dX7_noOrder_102 : decode cX7_noOrder 102 = .ok (.aload_n 0, 1) := by decide +kernel
theorem dX7_noOrder_103 : decode cX7_noOrder 103 = .ok (.getfield 212, 3) := by decide +kernel
theorem dX7_noOrder_106 : decode cX7_noOrder 106 = .ok (.aload_n 0, 1) := by decide +kernel
theorem dX7_noOrder_107 : decode cX7_noOrder 107 = .ok (.getfield 203, 3) := by decide +kernel
theorem dX7_noOrder_110 : decode cX7_noOrder 110 = .ok (.aload_n 0, 1) := by decide +kernel
theorem dX7_noOrder_111 : decode cX7_noOrder 111 = .ok (.getfield 206, 3) := by decide +kernel
theorem dX7_noOrder_114 : decode cX7_noOrder 114 = .ok (.invokevirtual 99, 3) := by decide +kernel
theorem dX7_noOrder_117 : decode cX7_noOrder 117 = .ok (.ireturn, 1) := by decide +kernel
theorem dX7_noOrder_118 : decode cX7_noOrder 118 = .ok (.aload_n 0, 1) := by decide +kernel
theorem dX7_noOrder_119 : decode cX7_noOrder 119 = .ok (.aload_n 0, 1) := by decide +kernel
theorem dX7_noOrder_120 : decode cX7_noOrder 120 = .ok (.getfield 212, 3) := by decide +kernel
theorem dX7_noOrder_123 : decode cX7_noOrder 123 = .ok (.aload_n 0, 1) := by decide +kernel
theorem dX7_noOrder_124 : decode cX7_noOrder 124 = .ok (.getfield 203, 3) := by decide +kernel
theorem dX7_noOrder_127 : decode cX7_noOrder 127 = .ok (.invokevirtual 114, 3) := by decide +kernel
theorem dX7_noOrder_130 : decode cX7_noOrder 130 = .ok (.ireturn, 1) := by decide +kernel
theorem dX7_noOrder_131 : decode cX7_noOrder 131 = .ok (.aload_n 0, 1) := by decide +kernel
theorem dX7_noOrder_132 : decode cX7_noOrder 132 = .ok (.aload_n 0, 1) := by decide +kernel
theorem dX7_noOrder_133 : decode cX7_noOrder 133 = .ok (.getfield 212, 3) := by decide +kernel
theorem dX7_noOrder_136 : decode cX7_noOrder 136 = .ok (.invokevirtual 126, 3) := by decide +kernel
theorem dX7_noOrder_139 : decode cX7_noOrder 139 = .ok (.ireturn, 1) := by decide +kernel
theorem dX7_noOrder_140 : decode cX7_noOrder 140 = .ok (.aload_n 0, 1) := by decide +kernel
theorem dX7_noOrder_141 : decode cX7_noOrder 141 = .ok (.aload_n 0, 1) := by decide +kernel
theorem dX7_noOrder_142 : decode cX7_noOrder 142 = .ok (.getfield 212, 3) := by decide +kernel
theorem dX7_noOrder_145 : decode cX7_noOrder 145 = .ok (.invokevirtual 136, 3) := by decide +kernel
theorem dX7_noOrder_148 : decode cX7_noOrder 148 = .ok (.ireturn, 1) := by decide +kernel
theorem dX7_noOrder_149 : decode cX7_noOrder 149 = .ok (.aload_n 0, 1) := by decide +kernel
theorem dX7_noOrder_150 : decode cX7_noOrder 150 = .ok (.aload_n 0, 1) := by decide +kernel
theorem dX7_noOrder_151 : decode cX7_noOrder 151 = .ok (.getfield 212, 3) := by decide +kernel
theorem dX7_noOrder_154 : decode cX7_noOrder 154 = .ok (.aload_n 0, 1) := by decide +kernel
theorem dX7_noOrder_155 : decode cX7_noOrder 155 = .ok (.getfield 203, 3) := by decide +kernel
theorem dX7_noOrder_158 : decode cX7_noOrder 158 = .ok (.invokevirtual 145, 3) := by decide +kernel
theorem dX7_noOrder_161 : decode cX7_noOrder 161 = .ok (.ireturn, 1) := by decide +kernel
theorem dX7_noOrder_162 : decode cX7_noOrder 162 = .ok (.aload_n 0, 1) := by decide +kernel
theorem dX7_noOrder_163 : decode cX7_noOrder 163 = .ok (.aload_n 0, 1) := by decide +kernel
theorem dX7_noOrder_164 : decode cX7_noOrder 164 = .ok (.getfield 212, 3) := by decide +kernel
theorem dX7_noOrder_167 : decode cX7_noOrder 167 = .ok (.invokevirtual 160, 3) := by decide +kernel
theorem dX7_noOrder_170 : decode cX7_noOrder 170 = .ok (.ireturn, 1) := by decide +kernel
theorem dX7_noOrder_171 : decode cX7_noOrder 171 = .ok (.aload_n 0, 1) := by decide +kernel
theorem dX7_noOrder_172 : decode cX7_noOrder 172 = .ok (.aload_n 0, 1) := by decide +kernel
theorem dX7_noOrder_173 : decode cX7_noOrder 173 = .ok (.getfield 212, 3) := by decide +kernel
theorem dX7_noOrder_176 : decode cX7_noOrder 176 = .ok (.invokevirtual 151, 3) := by decide +kernel
theorem dX7_noOrder_179 : decode cX7_noOrder 179 = .ok (.ireturn, 1) := by decide +kernel
set_option maxRecDepth 20000 in
theorem ggX7_doOrder_X7_doPupil : GoodIn wsX7_doOrder wsX7_doPupil := goodIn_r _ [9, 10, 75, 76, 77, 78, 79, 80, 81, 82, 83, 84, 85, 86, 87] (by decide +kernel) (by decide +kernel)
set_option maxRecDepth 20000 in
theorem gX7_doOrder_X7_doPupil : GoodIn wsX7_doOrder (wsV RX7 84 RX7 yX7_doPupil wsX7_doPupil) := goodIn_app (goodIn_of _ (by decide +kernel)) ggX7_doOrder_X7_doPupil
set_option maxRecDepth 20000 in
theorem ggX7_doOrder_X7_doBook : GoodIn wsX7_doOrder wsX7_doBook := goodIn_r _ [14, 10, 75, 76, 77, 78, 79, 80, 81, 82, 83, 84, 85, 86, 87] (by decide +kernel) (by decide +kernel)
set_option maxRecDepth 20000 in
theorem gX7_doOrder_X7_doBook : GoodIn wsX7_doOrder (wsV RX7 103 RX7 yX7_doBook wsX7_doBook) := goodIn_app (goodIn_of _ (by decide +kernel)) ggX7_doOrder_X7_doBook
set_option maxRecDepth 20000 in
theorem ggX7_doOrder_X7_doThrow : GoodIn wsX7_doOrder wsX7_doThrow := goodIn_r _ [18, 10, 19, 20, 21, 22, 8, 23, 24, 25, 26, 27, 28, 29, 30, 31, 32, 33, 34, 35, 75, 76, 77, 78, 79, 80, 81, 82, 83, 84, 85, 86, 87] (by decide +kernel) (by decide +kernel)
set_option maxRecDepth 20000 in
theorem gX7_doOrder_X7_doThrow : GoodIn wsX7_doOrder (wsV RX7 117 RX7 yX7_doThrow wsX7_doThrow) := goodIn_app (goodIn_of _ (by decide +kernel)) ggX7_doOrder_X7_doThrow
set_option maxRecDepth 20000 in
theorem ggX7_doOrder_X7_doLoad : GoodIn wsX7_doOrder wsX7_doLoad := goodIn_r _ [39, 20, 21, 22, 8, 23, 10, 40, 41, 42, 43, 32, 33, 34, 35, 75, 76, 77, 78, 79, 80, 81, 82, 83, 84, 85, 86, 87] (by decide +kernel) (by decide +kernel)
set_option maxRecDepth 20000 in
theorem gX7_doOrder_X7_doLoad : GoodIn wsX7_doOrder (wsV RX7 129 RX7 yX7_doLoad wsX7_doLoad) := goodIn_app (goodIn_of _ (by decide +kernel)) ggX7_doOrder_X7_doLoad
set_option maxRecDepth 20000 in
theorem ggX7_doOrder_X7_doFire : GoodIn wsX7_doOrder wsX7_doFire := goodIn_r _ [47, 10, 32, 33, 34, 8, 35, 48, 49, 50, 51, 52, 53, 54, 20, 21, 22, 23, 24, 25, 26, 27, 28, 29, 30, 31, 75, 76, 77, 78, 79, 80, 81, 82, 83, 84, 85, 86, 87] (by decide +kernel) (by decide +kernel)
set_option maxRecDepth 20000 in
theorem gX7_doOrder_X7_doFire : GoodIn wsX7_doOrder (wsV RX7 139 RX7 yX7_doFire wsX7_doFire) := goodIn_app (goodIn_of _ (by decide +kernel)) ggX7_doOrder_X7_doFire
set_option maxRecDepth 20000 in
theorem ggX7_doOrder_X7_doGlaze : GoodIn wsX7_doOrder wsX7_doGlaze := goodIn_r _ [58, 10, 32, 33, 34, 8, 35, 20, 21, 22, 23, 75, 76, 77, 78, 79, 80, 81, 82, 83, 84, 85, 86, 87] (by decide +kernel) (by decide +kernel)
set_option maxRecDepth 20000 in
theorem gX7_doOrder_X7_doGlaze : GoodIn wsX7_doOrder (wsV RX7 148 RX7 yX7_doGlaze wsX7_doGlaze) := goodIn_app (goodIn_of _ (by decide +kernel)) ggX7_doOrder_X7_doGlaze
set_option maxRecDepth 20000 in
theorem ggX7_doOrder_X7_doPass : GoodIn wsX7_doOrder wsX7_doPass := goodIn_r _ [62, 10, 63, 64, 65, 8, 66, 32, 33, 34, 35, 20, 21, 22, 23, 67, 68, 69, 70, 75, 76, 77, 78, 79, 80, 81, 82, 83, 84, 85, 86, 87] (by decide +kernel) (by decide +kernel)
set_option maxRecDepth 20000 in
theorem gX7_doOrder_X7_doPass : GoodIn wsX7_doOrder (wsV RX7 163 RX7 yX7_doPass wsX7_doPass) := goodIn_app (goodIn_of _ (by decide +kernel)) ggX7_doOrder_X7_doPass
set_option maxRecDepth 20000 in
theorem ggX7_doOrder_X7_doTakeHome : GoodIn wsX7_doOrder wsX7_doTakeHome := goodIn_r _ [74, 10, 32, 33, 34, 8, 35, 20, 21, 22, 23, 75, 76, 77, 78, 79, 80, 81, 82, 83, 84, 85, 86, 87] (by decide +kernel) (by decide +kernel)
set_option maxRecDepth 20000 in
theorem gX7_doOrder_X7_doTakeHome : GoodIn wsX7_doOrder (wsV RX7 154 RX7 yX7_doTakeHome wsX7_doTakeHome) := goodIn_app (goodIn_of _ (by decide +kernel)) ggX7_doOrder_X7_doTakeHome
theorem dX7_doOrder_0 : decode cX7_doOrder 0 = .ok (.aload_n 0, 1) := by decide +kernel
theorem dX7_doOrder_1 : decode cX7_doOrder 1 = .ok (.getfield 200, 3) := by decide +kernel
theorem dX7_doOrder_4 : decode cX7_doOrder 4 = .ok (.tableswitch 167 98 116 #[97, 167, 167, 167, 136, 145, 167, 167, 167, 167, 127, 167, 158, 167, 92, 167, 167, 167, 114], 92) := by decide +kernel
theorem dX7_doOrder_96 : decode cX7_doOrder 96 = .ok (.aload_n 0, 1) := by decide +kernel
theorem dX7_doOrder_97 : decode cX7_doOrder 97 = .ok (.invokevirtual 84, 3) := by decide +kernel
theorem dX7_doOrder_100 : decode cX7_doOrder 100 = .ok (.ireturn, 1) := by decide +kernel
theorem dX7_doOrder_101 : decode cX7_doOrder 101 = .ok (.aload_n 0, 1) := by decide +kernel
theorem dX7_doOrder_102 : decode cX7_doOrder 102 = .ok (.aload_n 0, 1) := by decide +kernel
theorem dX7_doOrder_103 : decode cX7_doOrder 103 = .ok (.getfield 212, 3) := by decide +kernel
theorem dX7_doOrder_106 : decode cX7_doOrder 106 = .ok (.aload_n 0, 1) := by decide +kernel
theorem dX7_doOrder_107 : decode cX7_doOrder 107 = .ok (.getfield 203, 3) := by decide +kernel
theorem dX7_doOrder_110 : decode cX7_doOrder 110 = .ok (.aload_n 0, 1) := by decide +kernel
theorem dX7_doOrder_111 : decode cX7_doOrder 111 = .ok (.getfield 206, 3) := by decide +kernel
theorem dX7_doOrder_114 : decode cX7_doOrder 114 = .ok (.invokevirtual 103, 3) := by decide +kernel
theorem dX7_doOrder_117 : decode cX7_doOrder 117 = .ok (.ireturn, 1) := by decide +kernel
theorem dX7_doOrder_118 : decode cX7_doOrder 118 = .ok (.aload_n 0, 1) := by decide +kernel
theorem dX7_doOrder_119 : decode cX7_doOrder 119 = .ok (.aload_n 0, 1) := by decide +kernel
theorem dX7_doOrder_120 : decode cX7_doOrder 120 = .ok (.getfield 212, 3) := by decide +kernel
theorem dX7_doOrder_123 : decode cX7_doOrder 123 = .ok (.aload_n 0, 1) := by decide +kernel
theorem dX7_doOrder_124 : decode cX7_doOrder 124 = .ok (.getfield 203, 3) := by decide +kernel
theorem dX7_doOrder_127 : decode cX7_doOrder 127 = .ok (.invokevirtual 117, 3) := by decide +kernel
theorem dX7_doOrder_130 : decode cX7_doOrder 130 = .ok (.ireturn, 1) := by decide +kernel
theorem dX7_doOrder_131 : decode cX7_doOrder 131 = .ok (.aload_n 0, 1) := by decide +kernel
theorem dX7_doOrder_132 : decode cX7_doOrder 132 = .ok (.aload_n 0, 1) := by decide +kernel
theorem dX7_doOrder_133 : decode cX7_doOrder 133 = .ok (.getfield 212, 3) := by decide +kernel
theorem dX7_doOrder_136 : decode cX7_doOrder 136 = .ok (.invokevirtual 129, 3) := by decide +kernel
theorem dX7_doOrder_139 : decode cX7_doOrder 139 = .ok (.ireturn, 1) := by decide +kernel
theorem dX7_doOrder_140 : decode cX7_doOrder 140 = .ok (.aload_n 0, 1) := by decide +kernel
theorem dX7_doOrder_141 : decode cX7_doOrder 141 = .ok (.aload_n 0, 1) := by decide +kernel
theorem dX7_doOrder_142 : decode cX7_doOrder 142 = .ok (.getfield 212, 3) := by decide +kernel
theorem dX7_doOrder_145 : decode cX7_doOrder 145 = .ok (.invokevirtual 139, 3) := by decide +kernel
theorem dX7_doOrder_148 : decode cX7_doOrder 148 = .ok (.ireturn, 1) := by decide +kernel
theorem dX7_doOrder_149 : decode cX7_doOrder 149 = .ok (.aload_n 0, 1) := by decide +kernel
theorem dX7_doOrder_150 : decode cX7_doOrder 150 = .ok (.aload_n 0, 1) := by decide +kernel
theorem dX7_doOrder_151 : decode cX7_doOrder 151 = .ok (.getfield 212, 3) := by decide +kernel
theorem dX7_doOrder_154 : decode cX7_doOrder 154 = .ok (.aload_n 0, 1) := by decide +kernel
theorem dX7_doOrder_155 : decode cX7_doOrder 155 = .ok (.getfield 203, 3) := by decide +kernel
theorem dX7_doOrder_158 : decode cX7_doOrder 158 = .ok (.invokevirtual 148, 3) := by decide +kernel
theorem dX7_doOrder_161 : decode cX7_doOrder 161 = .ok (.ireturn, 1) := by decide +kernel
theorem dX7_doOrder_162 : decode cX7_doOrder 162 = .ok (.aload_n 0, 1) := by decide +kernel
theorem dX7_doOrder_163 : decode cX7_doOrder 163 = .ok (.aload_n 0, 1) := by decide +kernel
theorem dX7_doOrder_164 : decode cX7_doOrder 164 = .ok (.getfield 212, 3) := by decide +kernel
theorem dX7_doOrder_167 : decode cX7_doOrder 167 = .ok (.invokevirtual 163, 3) := by decide +kernel
theorem dX7_doOrder_170 : decode cX7_doOrder 170 = .ok (.ireturn, 1) := by decide +kernel
theorem dX7_doOrder_171 : decode cX7_doOrder 171 = .ok (.aload_n 0, 1) := by decide +kernel
theorem dX7_doOrder_172 : decode cX7_doOrder 172 = .ok (.aload_n 0, 1) := by decide +kernel
theorem dX7_doOrder_173 : decode cX7_doOrder 173 = .ok (.getfield 212, 3) := by decide +kernel
theorem dX7_doOrder_176 : decode cX7_doOrder 176 = .ok (.invokevirtual 154, 3) := by decide +kernel
theorem dX7_doOrder_179 : decode cX7_doOrder 179 = .ok (.ireturn, 1) := by decide +kernel
set_option maxRecDepth 20000 in
theorem ggX7_carryOut_X7_findFault : GoodIn wsX7_carryOut wsX7_findFault := goodIn_r _ [7, 1, 8, 2, 9, 10, 11, 6, 12, 13, 14, 15, 16, 17, 18, 19, 20, 21, 22, 23, 24, 25, 26, 27, 28, 29, 30, 31, 32, 33, 34, 35, 36, 200, 201, 202, 203, 204, 205, 206, 207, 208, 209, 210, 211, 212] (by decide +kernel) (by decide +kernel)
set_option maxRecDepth 20000 in
theorem gX7_carryOut_X7_findFault : GoodIn wsX7_carryOut (wsV RX7 218 RX7 yX7_findFault wsX7_findFault) := goodIn_app (goodIn_of _ (by decide +kernel)) ggX7_carryOut_X7_findFault
set_option maxRecDepth 20000 in
theorem ggX7_carryOut_X7_record : GoodIn wsX7_carryOut wsX7_record := goodIn_r _ [40, 41, 42, 43, 200, 201, 202, 203, 204, 205, 206, 207, 208, 209, 210, 211, 212] (by decide +kernel) (by decide +kernel)
set_option maxRecDepth 20000 in
theorem gX7_carryOut_X7_record : GoodIn wsX7_carryOut (wsV RX7 34 RX7 yX7_record wsX7_record) := goodIn_app (goodIn_of _ (by decide +kernel)) ggX7_carryOut_X7_record
set_option maxRecDepth 20000 in
theorem ggX7_carryOut_X7_readOrder : GoodIn wsX7_carryOut wsX7_readOrder := goodIn_r _ [12, 13, 14, 15, 8, 16, 1, 17, 18, 19, 6, 20, 2, 21, 22, 23, 24, 25, 26, 27, 28, 29, 30, 31, 32, 33, 34, 35, 36, 200, 201, 202, 203, 204, 205, 206, 207, 208, 209, 210, 211, 212] (by decide +kernel) (by decide +kernel)
set_option maxRecDepth 20000 in
theorem gX7_carryOut_X7_readOrder : GoodIn wsX7_carryOut (wsV RX7 215 RX7 yX7_readOrder wsX7_readOrder) := goodIn_app (goodIn_of _ (by decide +kernel)) ggX7_carryOut_X7_readOrder
set_option maxRecDepth 20000 in
theorem ggX7_carryOut_X7_noOrder : GoodIn wsX7_carryOut wsX7_noOrder := goodIn_r _ [47, 13, 16, 14, 15, 48, 49, 50, 6, 51, 43, 52, 53, 54, 55, 56, 57, 58, 59, 30, 31, 32, 60, 61, 62, 63, 64, 65, 66, 67, 68, 69, 70, 71, 72, 73, 74, 75, 76, 77, 78, 79, 80, 81, 82, 83, 84, 85, 86, 87, 88, 89, 90, 91, 92, 93, 94, 95, 96, 97, 98, 99, 100, 101, 102, 103, 104, 105, 106, 107, 108, 109, 110, 111, 112, 113, 114, 115, 116, 117, 118, 119, 120, 121, 122, 123, 124, 125, 126, 127, 128, 129, 130, 131, 132, 133, 134, 135, 136, 137, 138, 139, 140, 141, 142, 143, 144, 145, 146, 200, 201, 202, 203, 204, 205, 206, 207, 208, 209, 210, 211, 212] (by decide +kernel) (by decide +kernel)
set_option maxRecDepth 20000 in
theorem gX7_carryOut_X7_noOrder : GoodIn wsX7_carryOut (wsV RX7 221 RX7 yX7_noOrder wsX7_noOrder) := goodIn_app (goodIn_of _ (by decide +kernel)) ggX7_carryOut_X7_noOrder
set_option maxRecDepth 20000 in
theorem ggX7_carryOut_X7_doOrder : GoodIn wsX7_carryOut wsX7_doOrder := goodIn_r _ [150, 13, 16, 14, 15, 151, 152, 153, 6, 154, 43, 155, 156, 157, 158, 159, 160, 161, 162, 163, 164, 165, 166, 167, 168, 169, 170, 171, 172, 173, 174, 175, 86, 87, 88, 89, 176, 177, 178, 179, 113, 114, 115, 116, 180, 181, 182, 183, 125, 126, 127, 128, 129, 130, 131, 184, 185, 186, 187, 188, 189, 190, 191, 192, 193, 194, 195, 66, 67, 68, 69, 196, 197, 198, 199, 200, 201, 202, 203, 204, 205, 206, 207, 208, 209, 210, 211, 212] (by decide +kernel) (by decide +kernel)
set_option maxRecDepth 20000 in
theorem gX7_carryOut_X7_doOrder : GoodIn wsX7_carryOut (wsV RX7 224 RX7 yX7_doOrder wsX7_doOrder) := goodIn_app (goodIn_of _ (by decide +kernel)) ggX7_carryOut_X7_doOrder
theorem dX7_carryOut_0 : decode cX7_carryOut 0 = .ok (.aload_n 0, 1) := by decide +kernel
theorem dX7_carryOut_1 : decode cX7_carryOut 1 = .ok (.invokevirtual 218, 3) := by decide +kernel
theorem dX7_carryOut_4 : decode cX7_carryOut 4 = .ok (.ifCond .lt 6, 3) := by decide +kernel
theorem dX7_carryOut_7 : decode cX7_carryOut 7 = .ok (.bipush (-3), 2) := by decide +kernel
theorem dX7_carryOut_9 : decode cX7_carryOut 9 = .ok (.ireturn, 1) := by decide +kernel
theorem dX7_carryOut_10 : decode cX7_carryOut 10 = .ok (.aload_n 0, 1) := by decide +kernel
theorem dX7_carryOut_11 : decode cX7_carryOut 11 = .ok (.invokevirtual 34, 3) := by decide +kernel
theorem dX7_carryOut_14 : decode cX7_carryOut 14 = .ok (.iconst 0, 1) := by decide +kernel
theorem dX7_carryOut_15 : decode cX7_carryOut 15 = .ok (.istore_n 1, 1) := by decide +kernel
theorem dX7_carryOut_16 : decode cX7_carryOut 16 = .ok (.aload_n 0, 1) := by decide +kernel
theorem dX7_carryOut_17 : decode cX7_carryOut 17 = .ok (.iconst 0, 1) := by decide +kernel
theorem dX7_carryOut_18 : decode cX7_carryOut 18 = .ok (.putfield 183, 3) := by decide +kernel
theorem dX7_carryOut_21 : decode cX7_carryOut 21 = .ok (.iconst 1, 1) := by decide +kernel
theorem dX7_carryOut_22 : decode cX7_carryOut 22 = .ok (.istore_n 2, 1) := by decide +kernel
theorem dX7_carryOut_23 : decode cX7_carryOut 23 = .ok (.iload_n 2, 1) := by decide +kernel
theorem dX7_carryOut_24 : decode cX7_carryOut 24 = .ok (.ifCond .eq 56, 3) := by decide +kernel
theorem dX7_carryOut_27 : decode cX7_carryOut 27 = .ok (.aload_n 0, 1) := by decide +kernel
theorem dX7_carryOut_28 : decode cX7_carryOut 28 = .ok (.getfield 183, 3) := by decide +kernel
theorem dX7_carryOut_31 : decode cX7_carryOut 31 = .ok (.aload_n 0, 1) := by decide +kernel
theorem dX7_carryOut_32 : decode cX7_carryOut 32 = .ok (.getfield 175, 3) := by decide +kernel
theorem dX7_carryOut_35 : decode cX7_carryOut 35 = .ok (.if_icmp .ge 45, 3) := by decide +kernel
theorem dX7_carryOut_38 : decode cX7_carryOut 38 = .ok (.aload_n 0, 1) := by decide +kernel
theorem dX7_carryOut_39 : decode cX7_carryOut 39 = .ok (.invokevirtual 215, 3) := by decide +kernel
theorem dX7_carryOut_42 : decode cX7_carryOut 42 = .ok (.aload_n 0, 1) := by decide +kernel
theorem dX7_carryOut_43 : decode cX7_carryOut 43 = .ok (.dup, 1) := by decide +kernel
theorem dX7_carryOut_44 : decode cX7_carryOut 44 = .ok (.getfield 183, 3) := by decide +kernel
theorem dX7_carryOut_47 : decode cX7_carryOut 47 = .ok (.iconst 1, 1) := by decide +kernel
theorem dX7_carryOut_48 : decode cX7_carryOut 48 = .ok (.iadd, 1) := by decide +kernel
theorem dX7_carryOut_49 : decode cX7_carryOut 49 = .ok (.putfield 183, 3) := by decide +kernel
theorem dX7_carryOut_52 : decode cX7_carryOut 52 = .ok (.aload_n 0, 1) := by decide +kernel
theorem dX7_carryOut_53 : decode cX7_carryOut 53 = .ok (.invokevirtual 221, 3) := by decide +kernel
theorem dX7_carryOut_56 : decode cX7_carryOut 56 = .ok (.ifCond .ne 7, 3) := by decide +kernel
theorem dX7_carryOut_59 : decode cX7_carryOut 59 = .ok (.iconst 1, 1) := by decide +kernel
theorem dX7_carryOut_60 : decode cX7_carryOut 60 = .ok (.goto 4, 3) := by decide +kernel
theorem dX7_carryOut_63 : decode cX7_carryOut 63 = .ok (.iconst 0, 1) := by decide +kernel
theorem dX7_carryOut_64 : decode cX7_carryOut 64 = .ok (.istore_n 2, 1) := by decide +kernel
theorem dX7_carryOut_65 : decode cX7_carryOut 65 = .ok (.iload_n 2, 1) := by decide +kernel
theorem dX7_carryOut_66 : decode cX7_carryOut 66 = .ok (.ifCond .eq (-43), 3) := by decide +kernel
theorem dX7_carryOut_69 : decode cX7_carryOut 69 = .ok (.aload_n 0, 1) := by decide +kernel
theorem dX7_carryOut_70 : decode cX7_carryOut 70 = .ok (.invokevirtual 224, 3) := by decide +kernel
theorem dX7_carryOut_73 : decode cX7_carryOut 73 = .ok (.pop, 1) := by decide +kernel
theorem dX7_carryOut_74 : decode cX7_carryOut 74 = .ok (.iinc 1 1, 3) := by decide +kernel
theorem dX7_carryOut_77 : decode cX7_carryOut 77 = .ok (.goto (-54), 3) := by decide +kernel
theorem dX7_carryOut_80 : decode cX7_carryOut 80 = .ok (.aload_n 0, 1) := by decide +kernel
theorem dX7_carryOut_81 : decode cX7_carryOut 81 = .ok (.iconst 0, 1) := by decide +kernel
theorem dX7_carryOut_82 : decode cX7_carryOut 82 = .ok (.putfield 175, 3) := by decide +kernel
theorem dX7_carryOut_85 : decode cX7_carryOut 85 = .ok (.iload_n 1, 1) := by decide +kernel
theorem dX7_carryOut_86 : decode cX7_carryOut 86 = .ok (.ireturn, 1) := by decide +kernel
theorem dJ6_bitCount_0f7a4_0 : decode cJ6_bitCount_0f7a4 0 = .ok (.iload_n 0, 1) := by decide +kernel
theorem dJ6_bitCount_0f7a4_1 : decode cJ6_bitCount_0f7a4 1 = .ok (.iload_n 0, 1) := by decide +kernel
theorem dJ6_bitCount_0f7a4_2 : decode cJ6_bitCount_0f7a4 2 = .ok (.iconst 1, 1) := by decide +kernel
theorem dJ6_bitCount_0f7a4_3 : decode cJ6_bitCount_0f7a4 3 = .ok (.iushr, 1) := by decide +kernel
theorem dJ6_bitCount_0f7a4_4 : decode cJ6_bitCount_0f7a4 4 = .ok (.ldc_w 265, 3) := by decide +kernel
theorem dJ6_bitCount_0f7a4_7 : decode cJ6_bitCount_0f7a4 7 = .ok (.iand, 1) := by decide +kernel
theorem dJ6_bitCount_0f7a4_8 : decode cJ6_bitCount_0f7a4 8 = .ok (.isub, 1) := by decide +kernel
theorem dJ6_bitCount_0f7a4_9 : decode cJ6_bitCount_0f7a4 9 = .ok (.istore_n 0, 1) := by decide +kernel
theorem dJ6_bitCount_0f7a4_10 : decode cJ6_bitCount_0f7a4 10 = .ok (.iload_n 0, 1) := by decide +kernel
theorem dJ6_bitCount_0f7a4_11 : decode cJ6_bitCount_0f7a4 11 = .ok (.ldc_w 266, 3) := by decide +kernel
theorem dJ6_bitCount_0f7a4_14 : decode cJ6_bitCount_0f7a4 14 = .ok (.iand, 1) := by decide +kernel
theorem dJ6_bitCount_0f7a4_15 : decode cJ6_bitCount_0f7a4 15 = .ok (.iload_n 0, 1) := by decide +kernel
theorem dJ6_bitCount_0f7a4_16 : decode cJ6_bitCount_0f7a4 16 = .ok (.iconst 2, 1) := by decide +kernel
theorem dJ6_bitCount_0f7a4_17 : decode cJ6_bitCount_0f7a4 17 = .ok (.iushr, 1) := by decide +kernel
theorem dJ6_bitCount_0f7a4_18 : decode cJ6_bitCount_0f7a4 18 = .ok (.ldc_w 266, 3) := by decide +kernel
theorem dJ6_bitCount_0f7a4_21 : decode cJ6_bitCount_0f7a4 21 = .ok (.iand, 1) := by decide +kernel
theorem dJ6_bitCount_0f7a4_22 : decode cJ6_bitCount_0f7a4 22 = .ok (.iadd, 1) := by decide +kernel
theorem dJ6_bitCount_0f7a4_23 : decode cJ6_bitCount_0f7a4 23 = .ok (.istore_n 0, 1) := by decide +kernel
theorem dJ6_bitCount_0f7a4_24 : decode cJ6_bitCount_0f7a4 24 = .ok (.iload_n 0, 1) := by decide +kernel
theorem dJ6_bitCount_0f7a4_25 : decode cJ6_bitCount_0f7a4 25 = .ok (.iload_n 0, 1) := by decide +kernel
theorem dJ6_bitCount_0f7a4_26 : decode cJ6_bitCount_0f7a4 26 = .ok (.iconst 4, 1) := by decide +kernel
theorem dJ6_bitCount_0f7a4_27 : decode cJ6_bitCount_0f7a4 27 = .ok (.iushr, 1) := by decide +kernel
theorem dJ6_bitCount_0f7a4_28 : decode cJ6_bitCount_0f7a4 28 = .ok (.iadd, 1) := by decide +kernel
theorem dJ6_bitCount_0f7a4_29 : decode cJ6_bitCount_0f7a4 29 = .ok (.ldc_w 267, 3) := by decide +kernel
theorem dJ6_bitCount_0f7a4_32 : decode cJ6_bitCount_0f7a4 32 = .ok (.iand, 1) := by decide +kernel
theorem dJ6_bitCount_0f7a4_33 : decode cJ6_bitCount_0f7a4 33 = .ok (.istore_n 0, 1) := by decide +kernel
theorem dJ6_bitCount_0f7a4_34 : decode cJ6_bitCount_0f7a4 34 = .ok (.iload_n 0, 1) := by decide +kernel
theorem dJ6_bitCount_0f7a4_35 : decode cJ6_bitCount_0f7a4 35 = .ok (.iload_n 0, 1) := by decide +kernel
theorem dJ6_bitCount_0f7a4_36 : decode cJ6_bitCount_0f7a4 36 = .ok (.bipush 8, 2) := by decide +kernel
theorem dJ6_bitCount_0f7a4_38 : decode cJ6_bitCount_0f7a4 38 = .ok (.iushr, 1) := by decide +kernel
theorem dJ6_bitCount_0f7a4_39 : decode cJ6_bitCount_0f7a4 39 = .ok (.iadd, 1) := by decide +kernel
theorem dJ6_bitCount_0f7a4_40 : decode cJ6_bitCount_0f7a4 40 = .ok (.istore_n 0, 1) := by decide +kernel
theorem dJ6_bitCount_0f7a4_41 : decode cJ6_bitCount_0f7a4 41 = .ok (.iload_n 0, 1) := by decide +kernel
theorem dJ6_bitCount_0f7a4_42 : decode cJ6_bitCount_0f7a4 42 = .ok (.iload_n 0, 1) := by decide +kernel
theorem dJ6_bitCount_0f7a4_43 : decode cJ6_bitCount_0f7a4 43 = .ok (.bipush 16, 2) := by decide +kernel
theorem dJ6_bitCount_0f7a4_45 : decode cJ6_bitCount_0f7a4 45 = .ok (.iushr, 1) := by decide +kernel
theorem dJ6_bitCount_0f7a4_46 : decode cJ6_bitCount_0f7a4 46 = .ok (.iadd, 1) := by decide +kernel
theorem dJ6_bitCount_0f7a4_47 : decode cJ6_bitCount_0f7a4 47 = .ok (.istore_n 0, 1) := by decide +kernel
theorem dJ6_bitCount_0f7a4_48 : decode cJ6_bitCount_0f7a4 48 = .ok (.iload_n 0, 1) := by decide +kernel
theorem dJ6_bitCount_0f7a4_49 : decode cJ6_bitCount_0f7a4 49 = .ok (.bipush 63, 2) := by decide +kernel
theorem dJ6_bitCount_0f7a4_51 : decode cJ6_bitCount_0f7a4 51 = .ok (.iand, 1) := by decide +kernel
theorem dJ6_bitCount_0f7a4_52 : decode cJ6_bitCount_0f7a4 52 = .ok (.ireturn, 1) := by decide +kernel
theorem dJ9_max_7cf53_0 : decode cJ9_max_7cf53 0 = .ok (.iload_n 0, 1) := by decide +kernel
theorem dJ9_max_7cf53_1 : decode cJ9_max_7cf53 1 = .ok (.iload_n 1, 1) := by decide +kernel
theorem dJ9_max_7cf53_2 : decode cJ9_max_7cf53 2 = .ok (.if_icmp .lt 7, 3) := by decide +kernel
theorem dJ9_max_7cf53_5 : decode cJ9_max_7cf53 5 = .ok (.iload_n 0, 1) := by decide +kernel
theorem dJ9_max_7cf53_6 : decode cJ9_max_7cf53 6 = .ok (.goto 4, 3) := by decide +kernel
theorem dJ9_max_7cf53_9 : decode cJ9_max_7cf53 9 = .ok (.iload_n 1, 1) := by decide +kernel
theorem dJ9_max_7cf53_10 : decode cJ9_max_7cf53 10 = .ok (.ireturn, 1) := by decide +kernel
theorem dJ9_min_7cf53_0 : decode cJ9_min_7cf53 0 = .ok (.iload_n 0, 1) := by decide +kernel
theorem dJ9_min_7cf53_1 : decode cJ9_min_7cf53 1 = .ok (.iload_n 1, 1) := by decide +kernel
theorem dJ9_min_7cf53_2 : decode cJ9_min_7cf53 2 = .ok (.if_icmp .gt 7, 3) := by decide +kernel
theorem dJ9_min_7cf53_5 : decode cJ9_min_7cf53 5 = .ok (.iload_n 0, 1) := by decide +kernel
theorem dJ9_min_7cf53_6 : decode cJ9_min_7cf53 6 = .ok (.goto 4, 3) := by decide +kernel
theorem dJ9_min_7cf53_9 : decode cJ9_min_7cf53 9 = .ok (.iload_n 1, 1) := by decide +kernel
theorem dJ9_min_7cf53_10 : decode cJ9_min_7cf53 10 = .ok (.ireturn, 1) := by decide +kernel
