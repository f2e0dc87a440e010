theorem dX7_readOrder_88 : decode cX7_readOrder 88 = .ok (.if_icmp .ne 7, 3) := by decide +kernel
theorem dX7_readOrder_91 : decode cX7_readOrder 91 = .ok (.iconst 1, 1) := by decide +kernel
theorem dX7_readOrder_92 : decode cX7_readOrder 92 = .ok (.goto 4, 3) := by decide +kernel
theorem dX7_readOrder_95 : decode cX7_readOrder 95 = .ok (.iconst 0, 1) := by decide +kernel
theorem dX7_readOrder_96 : decode cX7_readOrder 96 = .ok (.invokevirtual 193, 3) := by decide +kernel
theorem dX7_readOrder_99 : decode cX7_readOrder 99 = .ok (.aload_n 0, 1) := by decide +kernel
theorem dX7_readOrder_100 : decode cX7_readOrder 100 = .ok (.getfield 186, 3) := by decide +kernel
theorem dX7_readOrder_103 : decode cX7_readOrder 103 = .ok (.ifCond .ne 12, 3) := by decide +kernel
theorem dX7_readOrder_106 : decode cX7_readOrder 106 = .ok (.aload_n 0, 1) := by decide +kernel
theorem dX7_readOrder_107 : decode cX7_readOrder 107 = .ok (.getfield 200, 3) := by decide +kernel
theorem dX7_readOrder_110 : decode cX7_readOrder 110 = .ok (.bipush 112, 2) := by decide +kernel
theorem dX7_readOrder_112 : decode cX7_readOrder 112 = .ok (.if_icmp .ne 4, 3) := by decide +kernel
theorem dX7_readOrder_115 : decode cX7_readOrder 115 = .ok (.return_, 1) := by decide +kernel
theorem dX7_readOrder_116 : decode cX7_readOrder 116 = .ok (.aload_n 0, 1) := by decide +kernel
theorem dX7_readOrder_117 : decode cX7_readOrder 117 = .ok (.aload_n 0, 1) := by decide +kernel
theorem dX7_readOrder_118 : decode cX7_readOrder 118 = .ok (.getfield 200, 3) := by decide +kernel
theorem dX7_readOrder_121 : decode cX7_readOrder 121 = .ok (.bipush 98, 2) := by decide +kernel
theorem dX7_readOrder_123 : decode cX7_readOrder 123 = .ok (.if_icmp .eq 12, 3) := by decide +kernel
theorem dX7_readOrder_126 : decode cX7_readOrder 126 = .ok (.aload_n 0, 1) := by decide +kernel
theorem dX7_readOrder_127 : decode cX7_readOrder 127 = .ok (.getfield 200, 3) := by decide +kernel
theorem dX7_readOrder_130 : decode cX7_readOrder 130 = .ok (.bipush 116, 2) := by decide +kernel
theorem dX7_readOrder_132 : decode cX7_readOrder 132 = .ok (.if_icmp .ne 10, 3) := by decide +kernel
theorem dX7_readOrder_135 : decode cX7_readOrder 135 = .ok (.aload_n 0, 1) := by decide +kernel
theorem dX7_readOrder_136 : decode cX7_readOrder 136 = .ok (.invokevirtual 197, 3) := by decide +kernel
theorem dX7_readOrder_139 : decode cX7_readOrder 139 = .ok (.goto 7, 3) := by decide +kernel
theorem dX7_readOrder_142 : decode cX7_readOrder 142 = .ok (.aload_n 0, 1) := by decide +kernel
theorem dX7_readOrder_143 : decode cX7_readOrder 143 = .ok (.invokevirtual 209, 3) := by decide +kernel
theorem dX7_readOrder_146 : decode cX7_readOrder 146 = .ok (.putfield 212, 3) := by decide +kernel
theorem dX7_readOrder_149 : decode cX7_readOrder 149 = .ok (.aload_n 0, 1) := by decide +kernel
theorem dX7_readOrder_150 : decode cX7_readOrder 150 = .ok (.getfield 200, 3) := by decide +kernel
theorem dX7_readOrder_153 : decode cX7_readOrder 153 = .ok (.bipush 98, 2) := by decide +kernel
theorem dX7_readOrder_155 : decode cX7_readOrder 155 = .ok (.if_icmp .ne 59, 3) := by decide +kernel
theorem dX7_readOrder_158 : decode cX7_readOrder 158 = .ok (.aload_n 0, 1) := by decide +kernel
theorem dX7_readOrder_159 : decode cX7_readOrder 159 = .ok (.aload_n 0, 1) := by decide +kernel
theorem dX7_readOrder_160 : decode cX7_readOrder 160 = .ok (.getfield 186, 3) := by decide +kernel
theorem dX7_readOrder_163 : decode cX7_readOrder 163 = .ok (.ifCond .eq 7, 3) := by decide +kernel
theorem dX7_readOrder_166 : decode cX7_readOrder 166 = .ok (.iconst 0, 1) := by decide +kernel
theorem dX7_readOrder_167 : decode cX7_readOrder 167 = .ok (.goto 7, 3) := by decide +kernel
theorem dX7_readOrder_170 : decode cX7_readOrder 170 = .ok (.aload_n 0, 1) := by decide +kernel
theorem dX7_readOrder_171 : decode cX7_readOrder 171 = .ok (.invokevirtual 197, 3) := by decide +kernel
theorem dX7_readOrder_174 : decode cX7_readOrder 174 = .ok (.putfield 203, 3) := by decide +kernel
theorem dX7_readOrder_177 : decode cX7_readOrder 177 = .ok (.aload_n 0, 1) := by decide +kernel
theorem dX7_readOrder_178 : decode cX7_readOrder 178 = .ok (.getfield 186, 3) := by decide +kernel
theorem dX7_readOrder_181 : decode cX7_readOrder 181 = .ok (.ifCond .ne 102, 3) := by decide +kernel
theorem dX7_readOrder_184 : decode cX7_readOrder 184 = .ok (.aload_n 0, 1) := by decide +kernel
theorem dX7_readOrder_185 : decode cX7_readOrder 185 = .ok (.invokevirtual 190, 3) := by decide +kernel
theorem dX7_readOrder_188 : decode cX7_readOrder 188 = .ok (.bipush 43, 2) := by decide +kernel
theorem dX7_readOrder_190 : decode cX7_readOrder 190 = .ok (.if_icmp .ne 93, 3) := by decide +kernel
theorem dX7_readOrder_193 : decode cX7_readOrder 193 = .ok (.aload_n 0, 1) := by decide +kernel
theorem dX7_readOrder_194 : decode cX7_readOrder 194 = .ok (.dup, 1) := by decide +kernel
theorem dX7_readOrder_195 : decode cX7_readOrder 195 = .ok (.getfield 183, 3) := by decide +kernel
theorem dX7_readOrder_198 : decode cX7_readOrder 198 = .ok (.iconst 1, 1) := by decide +kernel
theorem dX7_readOrder_199 : decode cX7_readOrder 199 = .ok (.iadd, 1) := by decide +kernel
theorem dX7_readOrder_200 : decode cX7_readOrder 200 = .ok (.putfield 183, 3) := by decide +kernel
theorem dX7_readOrder_203 : decode cX7_readOrder 203 = .ok (.aload_n 0, 1) := by decide +kernel
theorem dX7_readOrder_204 : decode cX7_readOrder 204 = .ok (.aload_n 0, 1) := by decide +kernel
theorem dX7_readOrder_205 : decode cX7_readOrder 205 = .ok (.invokevirtual 209, 3) := by decide +kernel
theorem dX7_readOrder_208 : decode cX7_readOrder 208 = .ok (.putfield 206, 3) := by decide +kernel
theorem dX7_readOrder_211 : decode cX7_readOrder 211 = .ok (.goto 72, 3) := by decide +kernel
theorem dX7_readOrder_214 : decode cX7_readOrder 214 = .ok (.aload_n 0, 1) := by decide +kernel
theorem dX7_readOrder_215 : decode cX7_readOrder 215 = .ok (.getfield 200, 3) := by decide +kernel
theorem dX7_readOrder_218 : decode cX7_readOrder 218 = .ok (.bipush 116, 2) := by decide +kernel
theorem dX7_readOrder_220 : decode cX7_readOrder 220 = .ok (.if_icmp .eq 12, 3) := by decide +kernel
theorem dX7_readOrder_223 : decode cX7_readOrder 223 = .ok (.aload_n 0, 1) := by decide +kernel
theorem dX7_readOrder_224 : decode cX7_readOrder 224 = .ok (.getfield 200, 3) := by decide +kernel
theorem dX7_readOrder_227 : decode cX7_readOrder 227 = .ok (.bipush 103, 2) := by decide +kernel
theorem dX7_readOrder_229 : decode cX7_readOrder 229 = .ok (.if_icmp .ne 54, 3) := by decide +kernel
theorem dX7_readOrder_232 : decode cX7_readOrder 232 = .ok (.aload_n 0, 1) := by decide +kernel
theorem dX7_readOrder_233 : decode cX7_readOrder 233 = .ok (.aload_n 0, 1) := by decide +kernel
theorem dX7_readOrder_234 : decode cX7_readOrder 234 = .ok (.invokevirtual 190, 3) := by decide +kernel
theorem dX7_readOrder_237 : decode cX7_readOrder 237 = .ok (.aload_n 0, 1) := by decide +kernel
theorem dX7_readOrder_238 : decode cX7_readOrder 238 = .ok (.getfield 200, 3) := by decide +kernel
theorem dX7_readOrder_241 : decode cX7_readOrder 241 = .ok (.bipush 116, 2) := by decide +kernel
theorem dX7_readOrder_243 : decode cX7_readOrder 243 = .ok (.if_icmp .ne 8, 3) := by decide +kernel
theorem dX7_readOrder_246 : decode cX7_readOrder 246 = .ok (.bipush 42, 2) := by decide +kernel
theorem dX7_readOrder_248 : decode cX7_readOrder 248 = .ok (.goto 5, 3) := by decide +kernel
theorem dX7_readOrder_251 : decode cX7_readOrder 251 = .ok (.bipush 46, 2) := by decide +kernel
theorem dX7_readOrder_253 : decode cX7_readOrder 253 = .ok (.if_icmp .ne 7, 3) := by decide +kernel
theorem dX7_readOrder_256 : decode cX7_readOrder 256 = .ok (.iconst 1, 1) := by decide +kernel
theorem dX7_readOrder_257 : decode cX7_readOrder 257 = .ok (.goto 4, 3) := by decide +kernel
theorem dX7_readOrder_260 : decode cX7_readOrder 260 = .ok (.iconst 0, 1) := by decide +kernel
theorem dX7_readOrder_261 : decode cX7_readOrder 261 = .ok (.invokevirtual 193, 3) := by decide +kernel
theorem dX7_readOrder_264 : decode cX7_readOrder 264 = .ok (.aload_n 0, 1) := by decide +kernel
theorem dX7_readOrder_265 : decode cX7_readOrder 265 = .ok (.aload_n 0, 1) := by decide +kernel
theorem dX7_readOrder_266 : decode cX7_readOrder 266 = .ok (.getfield 186, 3) := by decide +kernel
theorem dX7_readOrder_269 : decode cX7_readOrder 269 = .ok (.ifCond .eq 7, 3) := by decide +kernel
theorem dX7_readOrder_272 : decode cX7_readOrder 272 = .ok (.iconst 0, 1) := by decide +kernel
theorem dX7_readOrder_273 : decode cX7_readOrder 273 = .ok (.goto 7, 3) := by decide +kernel
theorem dX7_readOrder_276 : decode cX7_readOrder 276 = .ok (.aload_n 0, 1) := by decide +kernel
theorem dX7_readOrder_277 : decode cX7_readOrder 277 = .ok (.invokevirtual 197, 3) := by decide +kernel
theorem dX7_readOrder_280 : decode cX7_readOrder 280 = .ok (.putfield 203, 3) := by decide +kernel
theorem dX7_readOrder_283 : decode cX7_readOrder 283 = .ok (.return_, 1) := by decide +kernel
set_option maxRecDepth 20000 in
theorem ggX7_findFault_X7_readOrder : GoodIn wsX7_findFault wsX7_readOrder := goodIn_r _ [8, 9, 10, 11, 2, 12, 1, 13, 14, 15, 7, 16, 3, 17, 18, 19, 20, 21, 22, 23, 24, 25, 26, 27, 28, 29, 30, 31, 32, 33, 34, 35, 36, 37, 38, 39, 40, 41, 42, 43, 44, 45] (by decide +kernel) (by decide +kernel)
set_option maxRecDepth 20000 in
theorem gX7_findFault_X7_readOrder : GoodIn wsX7_findFault (wsV RX7 215 RX7 yX7_readOrder wsX7_readOrder) := goodIn_app (goodIn_of _ (by decide +kernel)) ggX7_findFault_X7_readOrder
set_option maxRecDepth 20000 in
theorem ggX7_findFault_X7_sign : GoodIn wsX7_findFault wsX7_sign := goodIn_r _ [16, 1, 3, 17, 33, 34, 35, 36, 37, 38, 39, 40, 41, 42, 43, 44, 45] (by decide +kernel) (by decide +kernel)
set_option maxRecDepth 20000 in
theorem gX7_findFault_X7_sign : GoodIn wsX7_findFault (wsV RX7 190 RX7 yX7_sign wsX7_sign) := goodIn_app (goodIn_of _ (by decide +kernel)) ggX7_findFault_X7_sign
set_option maxRecDepth 20000 in
theorem ggX7_findFault_X7_take : GoodIn wsX7_findFault wsX7_take := goodIn_r _ [21, 2, 1, 33, 34, 35, 36, 37, 38, 39, 40, 41, 42, 43, 44, 45] (by decide +kernel) (by decide +kernel)
set_option maxRecDepth 20000 in
theorem gX7_findFault_X7_take : GoodIn wsX7_findFault (wsV RX7 193 RX7 yX7_take wsX7_take) := goodIn_app (goodIn_of _ (by decide +kernel)) ggX7_findFault_X7_take
theorem dX7_findFault_0 : decode cX7_findFault 0 = .ok (.aload_n 0, 1) := by decide +kernel
theorem dX7_findFault_1 : decode cX7_findFault 1 = .ok (.iconst 0, 1) := by decide +kernel
theorem dX7_findFault_2 : decode cX7_findFault 2 = .ok (.putfield 183, 3) := by decide +kernel
theorem dX7_findFault_5 : decode cX7_findFault 5 = .ok (.aload_n 0, 1) := by decide +kernel
theorem dX7_findFault_6 : decode cX7_findFault 6 = .ok (.iconst 0, 1) := by decide +kernel
theorem dX7_findFault_7 : decode cX7_findFault 7 = .ok (.putfield 186, 3) := by decide +kernel
theorem dX7_findFault_10 : decode cX7_findFault 10 = .ok (.aload_n 0, 1) := by decide +kernel
theorem dX7_findFault_11 : decode cX7_findFault 11 = .ok (.invokevirtual 215, 3) := by decide +kernel
theorem dX7_findFault_14 : decode cX7_findFault 14 = .ok (.aload_n 0, 1) := by decide +kernel
theorem dX7_findFault_15 : decode cX7_findFault 15 = .ok (.getfield 186, 3) := by decide +kernel
theorem dX7_findFault_18 : decode cX7_findFault 18 = .ok (.ifCond .eq 8, 3) := by decide +kernel
theorem dX7_findFault_21 : decode cX7_findFault 21 = .ok (.aload_n 0, 1) := by decide +kernel
theorem dX7_findFault_22 : decode cX7_findFault 22 = .ok (.getfield 183, 3) := by decide +kernel
theorem dX7_findFault_25 : decode cX7_findFault 25 = .ok (.ireturn, 1) := by decide +kernel
theorem dX7_findFault_26 : decode cX7_findFault 26 = .ok (.aload_n 0, 1) := by decide +kernel
theorem dX7_findFault_27 : decode cX7_findFault 27 = .ok (.getfield 183, 3) := by decide +kernel
theorem dX7_findFault_30 : decode cX7_findFault 30 = .ok (.aload_n 0, 1) := by decide +kernel
theorem dX7_findFault_31 : decode cX7_findFault 31 = .ok (.getfield 175, 3) := by decide +kernel
theorem dX7_findFault_34 : decode cX7_findFault 34 = .ok (.if_icmp .ne 6, 3) := by decide +kernel
theorem dX7_findFault_37 : decode cX7_findFault 37 = .ok (.bipush (-6), 2) := by decide +kernel
theorem dX7_findFault_39 : decode cX7_findFault 39 = .ok (.ireturn, 1) := by decide +kernel
theorem dX7_findFault_40 : decode cX7_findFault 40 = .ok (.aload_n 0, 1) := by decide +kernel
theorem dX7_findFault_41 : decode cX7_findFault 41 = .ok (.aload_n 0, 1) := by decide +kernel
theorem dX7_findFault_42 : decode cX7_findFault 42 = .ok (.invokevirtual 190, 3) := by decide +kernel
theorem dX7_findFault_45 : decode cX7_findFault 45 = .ok (.bipush 59, 2) := by decide +kernel
theorem dX7_findFault_47 : decode cX7_findFault 47 = .ok (.if_icmp .ne 7, 3) := by decide +kernel
theorem dX7_findFault_50 : decode cX7_findFault 50 = .ok (.iconst 1, 1) := by decide +kernel
theorem dX7_findFault_51 : decode cX7_findFault 51 = .ok (.goto 4, 3) := by decide +kernel
theorem dX7_findFault_54 : decode cX7_findFault 54 = .ok (.iconst 0, 1) := by decide +kernel
theorem dX7_findFault_55 : decode cX7_findFault 55 = .ok (.invokevirtual 193, 3) := by decide +kernel
theorem dX7_findFault_58 : decode cX7_findFault 58 = .ok (.aload_n 0, 1) := by decide +kernel
theorem dX7_findFault_59 : decode cX7_findFault 59 = .ok (.getfield 186, 3) := by decide +kernel
theorem dX7_findFault_62 : decode cX7_findFault 62 = .ok (.ifCond .eq (-52), 3) := by decide +kernel
theorem dX7_findFault_65 : decode cX7_findFault 65 = .ok (.aload_n 0, 1) := by decide +kernel
theorem dX7_findFault_66 : decode cX7_findFault 66 = .ok (.getfield 183, 3) := by decide +kernel
theorem dX7_findFault_69 : decode cX7_findFault 69 = .ok (.ireturn, 1) := by decide +kernel
set_option maxRecDepth 20000 in
theorem ggX7_fault_X7_findFault : GoodIn wsX7_fault wsX7_findFault := goodIn_r _ [5, 6, 7, 8, 9, 10, 11, 4, 12, 13, 14, 15, 16, 17, 18, 19, 20, 21, 22, 23, 24, 25, 26, 27, 28, 29, 30, 31, 32, 33, 34, 35, 36, 37, 38, 39, 40, 41, 42, 43, 44, 45, 46, 47, 48, 49] (by decide +kernel) (by decide +kernel)
set_option maxRecDepth 20000 in
theorem gX7_fault_X7_findFault : GoodIn wsX7_fault (wsV RX7 218 RX7 yX7_findFault wsX7_findFault) := goodIn_app (goodIn_of _ (by decide +kernel)) ggX7_fault_X7_findFault
theorem dX7_fault_0 : decode cX7_fault 0 = .ok (.aload_n 0, 1) := by decide +kernel
theorem dX7_fault_1 : decode cX7_fault 1 = .ok (.invokevirtual 218, 3) := by decide +kernel
theorem dX7_fault_4 : decode cX7_fault 4 = .ok (.ireturn, 1) := by decide +kernel
set_option maxRecDepth 20000 in
theorem ggX7_noOrder_X7_noPupil : GoodIn wsX7_noOrder wsX7_noPupil := goodIn_r _ [9, 10, 109, 110, 111, 112, 113, 114, 115, 116, 117, 118, 119, 120, 121] (by decide +kernel) (by decide +kernel)
set_option maxRecDepth 20000 in
theorem gX7_noOrder_X7_noPupil : GoodIn wsX7_noOrder (wsV RX7 81 RX7 yX7_noPupil wsX7_noPupil) := goodIn_app (goodIn_of _ (by decide +kernel)) ggX7_noOrder_X7_noPupil
set_option maxRecDepth 20000 in
theorem ggX7_noOrder_X7_noBook : GoodIn wsX7_noOrder wsX7_noBook := goodIn_r _ [14, 15, 16, 17, 8, 18, 10, 19, 20, 21, 22, 23, 24, 25, 26, 27, 28, 29, 30, 31, 32, 33, 34, 35, 109, 110, 111, 112, 113, 114, 115, 116, 117, 118, 119, 120, 121] (by decide +kernel) (by decide +kernel)
set_option maxRecDepth 20000 in
theorem gX7_noOrder_X7_noBook : GoodIn wsX7_noOrder (wsV RX7 99 RX7 yX7_noBook wsX7_noBook) := goodIn_app (goodIn_of _ (by decide +kernel)) ggX7_noOrder_X7_noBook
set_option maxRecDepth 20000 in
theorem ggX7_noOrder_X7_noThrow : GoodIn wsX7_noOrder wsX7_noThrow := goodIn_r _ [39, 10, 15, 16, 17, 8, 18, 19, 20, 21, 32, 33, 34, 35, 28, 29, 30, 31, 40, 41, 42, 43, 44, 45, 46, 47, 48, 49, 50, 51, 52, 53, 54, 109, 110, 111, 112, 113, 114, 115, 116, 117, 118, 119, 120, 121] (by decide +kernel) (by decide +kernel)
set_option maxRecDepth 20000 in
theorem gX7_noOrder_X7_noThrow : GoodIn wsX7_noOrder (wsV RX7 114 RX7 yX7_noThrow wsX7_noThrow) := goodIn_app (goodIn_of _ (by decide +kernel)) ggX7_noOrder_X7_noThrow
set_option maxRecDepth 20000 in
theorem ggX7_noOrder_X7_noLoad : GoodIn wsX7_noOrder wsX7_noLoad := goodIn_r _ [58, 59, 60, 61, 8, 62, 10, 19, 20, 21, 63, 64, 65, 66, 48, 49, 50, 51, 67, 68, 69, 70, 71, 72, 73, 74, 75, 76, 77, 78, 109, 110, 111, 112, 113, 114, 115, 116, 117, 118, 119, 120, 121] (by decide +kernel) (by decide +kernel)
set_option maxRecDepth 20000 in
theorem gX7_noOrder_X7_noLoad : GoodIn wsX7_noOrder (wsV RX7 126 RX7 yX7_noLoad wsX7_noLoad) := goodIn_app (goodIn_of _ (by decide +kernel)) ggX7_noOrder_X7_noLoad
set_option maxRecDepth 20000 in
theorem ggX7_noOrder_X7_noFire : GoodIn wsX7_noOrder wsX7_noFire := goodIn_r _ [82, 19, 20, 8, 21, 44, 45, 46, 47, 10, 48, 49, 50, 51, 52, 53, 54, 83, 84, 85, 86, 87, 88, 89, 90, 91, 92, 93, 40, 41, 42, 43, 109, 110, 111, 112, 113, 114, 115, 116, 117, 118, 119, 120, 121] (by decide +kernel) (by decide +kernel)
set_option maxRecDepth 20000 in
theorem gX7_noOrder_X7_noFire : GoodIn wsX7_noOrder (wsV RX7 136 RX7 yX7_noFire wsX7_noFire) := goodIn_app (goodIn_of _ (by decide +kernel)) ggX7_noOrder_X7_noFire
set_option maxRecDepth 20000 in
theorem ggX7_noOrder_X7_noGlaze : GoodIn wsX7_noOrder wsX7_noGlaze := goodIn_r _ [97, 10, 59, 60, 61, 8, 62, 19, 20, 21, 98, 99, 100, 48, 49, 50, 51, 109, 110, 111, 112, 113, 114, 115, 116, 117, 118, 119, 120, 121] (by decide +kernel) (by decide +kernel)
set_option maxRecDepth 20000 in
theorem gX7_noOrder_X7_noGlaze : GoodIn wsX7_noOrder (wsV RX7 145 RX7 yX7_noGlaze wsX7_noGlaze) := goodIn_app (goodIn_of _ (by decide +kernel)) ggX7_noOrder_X7_noGlaze
set_option maxRecDepth 20000 in
theorem ggX7_noOrder_X7_noPass : GoodIn wsX7_noOrder wsX7_noPass := goodIn_r _ [104, 10, 19, 20, 8, 21, 109, 110, 111, 112, 113, 114, 115, 116, 117, 118, 119, 120, 121] (by decide +kernel) (by decide +kernel)
set_option maxRecDepth 20000 in
theorem gX7_noOrder_X7_noPass : GoodIn wsX7_noOrder (wsV RX7 160 RX7 yX7_noPass wsX7_noPass) := goodIn_app (goodIn_of _ (by decide +kernel)) ggX7_noOrder_X7_noPass
set_option maxRecDepth 20000 in
theorem ggX7_noOrder_X7_noTakeHome : GoodIn wsX7_noOrder wsX7_noTakeHome := goodIn_r _ [108, 59, 60, 61, 8, 62, 10, 19, 20, 21, 48, 49, 50, 51, 109, 110, 111, 112, 113, 114, 115, 116, 117, 118, 119, 120, 121] (by decide +kernel) (by decide +kernel)
set_option maxRecDepth 20000 in
theorem gX7_noOrder_X7_noTakeHome : GoodIn wsX7_noOrder (wsV RX7 151 RX7 yX7_noTakeHome wsX7_noTakeHome) := goodIn_app (goodIn_of _ (by decide +kernel)) ggX7_noOrder_X7_noTakeHome
theorem dX7_noOrder_0 : decode cX7_noOrder 0 = .ok (.aload_n 0, 1) := by decide +kernel
theorem dX7_noOrder_1 : decode cX7_noOrder 1 = .ok (.getfield 200, 3) := by decide +kernel
theorem dX7_noOrder_4 : decode cX7_noOrder 4 = .ok (.tableswitch 167 98 116 #[97, 167, 167, 167, 136, 145, 167, 167, 167, 167, 127, 167, 158, 167, 92, 167, 167, 167, 114], 92) := by decide +kernel
theorem dX7_noOrder_96 : decode cX7_noOrder 96 = .ok (.aload_n 0, 1) := by decide +kernel
theorem dX7_noOrder_97 : decode cX7_noOrder 97 = .ok (.invokevirtual 81, 3) := by decide +kernel
theorem dX7_noOrder_100 : decode cX7_noOrder 100 = .ok (.ireturn, 1) := by decide +kernel
theorem dX7_noOrder_101 : decode cX7_noOrder 101 = .ok (.aload_n 0, 1) := by decide +kernel
theorem dX7_noOrder_102 : decode cX7_noOrder 102 = .ok (.aload_n 0, 1) := by decide +kernel
theorem dX7_noOrder_103 : decode cX7_noOrder 103 = .ok (.getfield 212, 3) := by decide +kernel
theorem dX7_noOrder_106 : decode cX7_noOrder 106 = .ok (.aload_n 0, 1) := by decide +kernel
theorem dX7_noOrder_107 : decode cX7_noOrder 107 = .ok (.getfield 203, 3) := by decide +kernel
theorem dX7_noOrder_110 : decode cX7_noOrder 110 = .ok (.aload_n 0, 1) := by decide +kernel
theorem dX7_noOrder_111 : decode cX7_noOrder 111 = .ok (.getfield 206, 3) := by decide +kernel
theorem dX7_noOrder_114 : decode cX7_noOrder 114 = .ok (.invokevirtual 99, 3) := by decide +kernel
theorem dX7_noOrder_117 : decode cX7_noOrder 117 = .ok (.ireturn, 1) := by decide +kernel
theorem dX7_noOrder_118 : decode cX7_noOrder 118 = .ok (.aload_n 0, 1) := by decide +kernel
theorem dX7_noOrder_119 : decode cX7_noOrder 119 = .ok (.aload_n 0, 1) := by decide +kernel
theorem dX7_noOrder_120 : decode cX7_noOrder 120 = .ok (.getfield 212, 3) := by decide +kernel
theorem dX7_noOrder_123 : decode cX7_noOrder 123 = .ok (.aload_n 0, 1) := by decide +kernel
theorem dX7_noOrder_124 : decode cX7_noOrder 124 = .ok (.getfield 203, 3) := by decide +kernel
theorem dX7_noOrder_127 : decode cX7_noOrder 127 = .ok (.invokevirtual 114, 3) := by decide +kernel
theorem dX7_noOrder_130 : decode cX7_noOrder 130 = .ok (.ireturn, 1) := by decide +kernel
theorem dX7_noOrder_131 : decode cX7_noOrder 131 = .ok (.aload_n 0, 1) := by decide +kernel
theorem dX7_noOrder_132 : decode cX7_noOrder 132 = .ok (.aload_n 0, 1) := by decide +kernel
theorem dX7_noOrder_133 : decode cX7_noOrder 133 = .ok (.getfield 212, 3) := by decide +kernel
theorem dX7_noOrder_136 : decode cX7_noOrder 136 = .ok (.invokevirtual 126, 3) := by decide +kernel
theorem dX7_noOrder_139 : decode cX7_noOrder 139 = .ok (.ireturn, 1) := by decide +kernel
theorem dX7_noOrder_140 : decode cX7_noOrder 140 = .ok (.aload_n 0, 1) := by decide +kernel
theorem dX7_noOrder_141 : decode cX7_noOrder 141 = .ok (.aload_n 0, 1) := by decide +kernel
theorem dX7_noOrder_142 : decode cX7_noOrder 142 = .ok (.getfield 212, 3) := by decide +kernel
theorem dX7_noOrder_145 : decode cX7_noOrder 145 = .ok (.invokevirtual 136, 3) := by decide +kernel
theorem dX7_noOrder_148 : decode cX7_noOrder 148 = .ok (.ireturn, 1) := by decide +kernel
theorem dX7_noOrder_149 : decode cX7_noOrder 149 = .ok (.aload_n 0, 1) := by decide +kernel
theorem dX7_noOrder_150 : decode cX7_noOrder 150 = .ok (.aload_n 0, 1) := by decide +kernel
theorem dX7_noOrder_151 : decode cX7_noOrder 151 = .ok (.getfield 212, 3) := by decide +kernel
theorem dX7_noOrder_154 : decode cX7_noOrder 154 = .ok (.aload_n 0, 1) := by decide +kernel
theorem dX7_noOrder_155 : decode cX7_noOrder 155 = .ok (.getfield 203, 3) := by decide +kernel
theorem dX7_noOrder_158 : decode cX7_noOrder 158 = .ok (.invokevirtual 145, 3) := by decide +kernel
theorem dX7_noOrder_161 : decode cX7_noOrder 161 = .ok (.ireturn, 1) := by decide +kernel
theorem dX7_noOrder_162 : decode cX7_noOrder 162 = .ok (.aload_n 0, 1) := by decide +kernel
theorem dX7_noOrder_163 : decode cX7_noOrder 163 = .ok (.aload_n 0, 1) := by decide +kernel
theorem dX7_noOrder_164 : decode cX7_noOrder 164 = .ok (.getfield 212, 3) := by decide +kernel
theorem dX7_noOrder_167 : decode cX7_noOrder 167 = .ok (.invokevirtual 160, 3) := by decide +kernel
theorem dX7_noOrder_170 : decode cX7_noOrder 170 = .ok (.ireturn, 1) := by decide +kernel
theorem dX7_noOrder_171 : decode cX7_noOrder 171 = .ok (.aload_n 0, 1) := by decide +kernel
theorem dX7_noOrder_172 : decode cX7_noOrder 172 = .ok (.aload_n 0, 1) := by decide +kernel
theorem dX7_noOrder_173 : decode cX7_noOrder 173 = .ok (.getfield 212, 3) := by decide +kernel
theorem dX7_noOrder_176 : decode cX7_noOrder 176 = .ok (.invokevirtual 151, 3) := by decide +kernel
theorem dX7_noOrder_179 : decode cX7_noOrder 179 = .ok (.ireturn, 1) := by decide +kernel
set_option maxRecDepth 20000 in
theorem ggX7_doOrder_X7_doPupil : GoodIn wsX7_doOrder wsX7_doPupil := goodIn_r _ [9, 10, 75, 76, 77, 78, 79, 80, 81, 82, 83, 84, 85, 86, 87] (by decide +kernel) (by decide +kernel)
set_option maxRecDepth 20000 in
theorem gX7_doOrder_X7_doPupil : GoodIn wsX7_doOrder (wsV RX7 84 RX7 yX7_doPupil wsX7_doPupil) := goodIn_app (goodIn_of _ (by decide +kernel)) ggX7_doOrder_X7_doPupil
set_option maxRecDepth 20000 in
theorem ggX7_doOrder_X7_doBook : GoodIn wsX7_doOrder wsX7_doBook := goodIn_r _ [14, 10, 75, 76, 77, 78, 79, 80, 81, 82, 83, 84, 85, 86, 87] (by decide +kernel) (by decide +kernel)
set_option maxRecDepth 20000 in
theorem gX7_doOrder_X7_doBook : GoodIn wsX7_doOrder (wsV RX7 103 RX7 yX7_doBook wsX7_doBook) := goodIn_app (goodIn_of _ (by decide +kernel)) ggX7_doOrder_X7_doBook
set_option maxRecDepth 20000 in
theorem ggX7_doOrder_X7_doThrow : GoodIn wsX7_doOrder wsX7_doThrow := goodIn_r _ [18, 10, 19, 20, 21, 22, 8, 23, 24, 25, 26, 27, 28, 29, 30, 31, 32, 33, 34, 35, 75, 76, 77, 78, 79, 80, 81, 82, 83, 84, 85, 86, 87] (by decide +kernel) (by decide +kernel)
set_option maxRecDepth 20000 in
theorem gX7_doOrder_X7_doThrow : GoodIn wsX7_doOrder (wsV RX7 117 RX7 yX7_doThrow wsX7_doThrow) := goodIn_app (goodIn_of _ (by decide +kernel)) ggX7_doOrder_X7_doThrow
set_option maxRecDepth 20000 in
theorem ggX7_doOrder_X7_doLoad : GoodIn wsX7_doOrder wsX7_doLoad := goodIn_r _ [39, 20, 21, 22, 8, 23, 10, 40, 41, 42, 43, 32, 33, 34, 35, 75, 76, 77, 78, 79, 80, 81, 82, 83, 84, 85, 86, 87] (by decide +kernel) (by decide +kernel)
set_option maxRecDepth 20000 in
theorem gX7_doOrder_X7_doLoad : GoodIn wsX7_doOrder (wsV RX7 129 RX7 yX7_doLoad wsX7_doLoad) := goodIn_app (goodIn_of _ (by decide +kernel)) ggX7_doOrder_X7_doLoad
set_option maxRecDepth 20000 in
theorem ggX7_doOrder_X7_doFire : GoodIn wsX7_doOrder wsX7_doFire := goodIn_r _ [47, 10, 32, 33, 34, 8, 35, 48, 49, 50, 51, 52, 53, 54, 20, 21, 22, 23, 24, 25, 26, 27, 28, 29, 30, 31, 75, 76, 77, 78, 79, 80, 81, 82, 83, 84, 85, 86, 87] (by decide +kernel) (by decide +kernel)
set_option maxRecDepth 20000 in
theorem gX7_doOrder_X7_doFire : GoodIn wsX7_doOrder (wsV RX7 139 RX7 yX7_doFire wsX7_doFire) := goodIn_app (goodIn_of _ (by decide +kernel)) ggX7_doOrder_X7_doFire
set_option maxRecDepth 20000 in
theorem ggX7_doOrder_X7_doGlaze : GoodIn wsX7_doOrder wsX7_doGlaze := goodIn_r _ [58, 10, 32, 33, 34, 8, 35, 20, 21, 22, 23, 75, 76, 77, 78, 79, 80, 81, 82, 83, 84, 85, 86, 87] (by decide +kernel) (by decide +kernel)
set_option maxRecDepth 20000 in
theorem gX7_doOrder_X7_doGlaze : GoodIn wsX7_doOrder (wsV RX7 148 RX7 yX7_doGlaze wsX7_doGlaze) := goodIn_app (goodIn_of _ (by decide +kernel)) ggX7_doOrder_X7_doGlaze
set_option maxRecDepth 20000 in
theorem ggX7_doOrder_X7_doPass : GoodIn wsX7_doOrder wsX7_doPass := goodIn_r _ [62, 10, 63, 64, 65, 8, 66, 32, 33, 34, 35, 20, 21, 22, 23, 67, 68, 69, 70, 75, 76, 77, 78, 79, 80, 81, 82, 83, 84, 85, 86, 87] (by decide +kernel) (by decide +kernel)
set_option maxRecDepth 20000 in
theorem gX7_doOrder_X7_doPass : GoodIn wsX7_doOrder (wsV RX7 163 RX7 yX7_doPass wsX7_doPass) := goodIn_app (goodIn_of _ (by decide +kernel)) ggX7_doOrder_X7_doPass
set_option maxRecDepth 20000 in
theorem ggX7_doOrder_X7_doTakeHome : GoodIn wsX7_doOrder wsX7_doTakeHome := goodIn_r _ [74, 10, 32, 33, 34, 8, 35, 20, 21, 22, 23, 75, 76, 77, 78, 79, 80, 81, 82, 83, 84, 85, 86, 87] (by decide +kernel) (by decide +kernel)
set_option maxRecDepth 20000 in
theorem gX7_doOrder_X7_doTakeHome : GoodIn wsX7_doOrder (wsV RX7 154 RX7 yX7_doTakeHome wsX7_doTakeHome) := goodIn_app (goodIn_of _ (by decide +kernel)) ggX7_doOrder_X7_doTakeHome
theorem dX7_doOrder_0 : decode cX7_doOrder 0 = .ok (.aload_n 0, 1) := by decide +kernel
theorem dX7_doOrder_1 : decode cX7_doOrder 1 = .ok (.getfield 200, 3) := by decide +kernel
theorem dX7_doOrder_4 : decode cX7_doOrder 4 = .ok (.tableswitch 167 98 116 #[97, 167, 167, 167, 136, 145, 167, 167, 167, 167, 127, 167, 158, 167, 92, 167, 167, 167, 114], 92) := by decide +kernel
theorem dX7_doOrder_96 : decode cX7_doOrder 96 = .ok (.aload_n 0, 1) := by decide +kernel
theorem dX7_doOrder_97 : decode cX7_doOrder 97 = .ok (.invokevirtual 84, 3) := by decide +kernel
theorem dX7_doOrder_100 : decode cX7_doOrder 100 = .ok (.ireturn, 1) := by decide +kernel
theorem dX7_doOrder_101 : decode cX7_doOrder 101 = .ok (.aload_n 0, 1) := by decide +kernel
theorem dX7_doOrder_102 : decode cX7_doOrder 102 = .ok (.aload_n 0, 1) := by decide +kernel
theorem dX7_doOrder_103 : decode cX7_doOrder 103 = .ok (.getfield 212, 3) := by decide +kernel
theorem dX7_doOrder_106 : decode cX7_doOrder 106 = .ok (.aload_n 0, 1) := by decide +kernel
theorem dX7_doOrder_107 : decode cX7_doOrder 107 = .ok (.getfield 203, 3) := by decide +kernel
theorem dX7_doOrder_110 : decode cX7_doOrder 110 = .ok (.aload_n 0, 1) := by decide +kernel
theorem dX7_doOrder_111 : decode cX7_doOrder 111 = .ok (.getfield 206, 3) := by decide +kernel
theorem dX7_doOrder_114 : decode cX7_doOrder 114 = .ok (.invokevirtual 103, 3) := by decide +kernel
theorem dX7_doOrder_117 : decode cX7_doOrder 117 = .ok (.ireturn, 1) := by decide +kernel
theorem dX7_doOrder_118 : decode cX7_doOrder 118 = .ok (.aload_n 0, 1) := by decide +kernel
theorem dX7_doOrder_119 : decode cX7_doOrder 119 = .ok (.aload_n 0, 1) := by decide +kernel
theorem dX7_doOrder_120 : decode cX7_doOrder 120 = .ok (.getfield 212, 3) := by decide +kernel
theorem dX7_doOrder_123 : decode cX7_doOrder 123 = .ok (.aload_n 0, 1) := by decide +kernel
theorem dX7_doOrder_124 : decode cX7_doOrder 124 = .ok (.getfield 203, 3) := by decide +kernel
theorem dX7_doOrder_127 : decode cX7_doOrder 127 = .ok (.invokevirtual 117, 3) := by decide +kernel
theorem dX7_doOrder_130 : decode cX7_doOrder 130 = .ok (.ireturn, 1) := by decide +kernel
theorem dX7_doOrder_131 : decode cX7_doOrder 131 = .ok (.aload_n 0, 1) := by decide +kernel
theorem dX7_doOrder_132 : decode cX7_doOrder 132 = .ok (.aload_n 0, 1) := by decide +kernel
theorem dX7_doOrder_133 : decode cX7_doOrder 133 = .ok (.getfield 212, 3) := by decide +kernel
theorem dX7_doOrder_136 : decode cX7_doOrder 136 = .ok (.invokevirtual 129, 3) := by decide +kernel
theorem dX7_doOrder_139 : decode cX7_doOrder 139 = .ok (.ireturn, 1) := by decide +kernel
theorem dX7_doOrder_140 : decode cX7_doOrder 140 = .ok (.aload_n 0, 1) := by decide +kernel
theorem dX7_doOrder_141 : decode cX7_doOrder 141 = .ok (.aload_n 0, 1) := by decide +kernel
theorem dX7_doOrder_142 : decode cX7_doOrder 142 = .ok (.getfield 212, 3) := by decide +kernel
theorem dX7_doOrder_145 : decode cX7_doOrder 145 = .ok (.invokevirtual 139, 3) := by decide +kernel
theorem dX7_doOrder_148 : decode cX7_doOrder 148 = .ok (.ireturn, 1) := by decide +kernel
theorem dX7_doOrder_149 : decode cX7_doOrder 149 = .ok (.aload_n 0, 1) := by decide +kernel
theorem dX7_doOrder_150 : decode cX7_doOrder 150 = .ok (.aload_n 0, 1) := by decide +kernel
theorem dX7_doOrder_151 : decode cX7_doOrder 151 = .ok (.getfield 212, 3) := by decide +kernel
theorem dX7_doOrder_154 : decode cX7_doOrder 154 = .ok (.aload_n 0, 1) := by decide +kernel
theorem dX7_doOrder_155 : decode cX7_doOrder 155 = .ok (.getfield 203, 3) := by decide +kernel
theorem dX7_doOrder_158 : decode cX7_doOrder 158 = .ok (.invokevirtual 148, 3) := by decide +kernel
theorem dX7_doOrder_161 : decode cX7_doOrder 161 = .ok (.ireturn, 1) := by decide +kernel
theorem dX7_doOrder_162 : decode cX7_doOrder 162 = .ok (.aload_n 0, 1) := by decide +kernel
theorem dX7_doOrder_163 : decode cX7_doOrder 163 = .ok (.aload_n 0, 1) := by decide +kernel
theorem dX7_doOrder_164 : decode cX7_doOrder 164 = .ok (.getfield 212, 3) := by decide +kernel
theorem dX7_doOrder_167 : decode cX7_doOrder 167 = .ok (.invokevirtual 163, 3) := by decide +kernel
theorem dX7_doOrder_170 : decode cX7_doOrder 170 = .ok (.ireturn, 1) := by decide +kernel
theorem dX7_doOrder_171 : decode cX7_doOrder 171 = .ok (.aload_n 0, 1) := by decide +kernel
theorem dX7_doOrder_172 : decode cX7_doOrder 172 = .ok (.aload_n 0, 1) := by decide +kernel
theorem dX7_doOrder_173 : decode cX7_doOrder 173 = .ok (.getfield 212, 3) := by decide +kernel
theorem dX7_doOrder_176 : decode cX7_doOrder 176 = .ok (.invokevirtual 154, 3) := by decide +kernel
theorem dX7_doOrder_179 : decode cX7_doOrder 179 = .ok (.ireturn, 1) := by decide +kernel
set_option maxRecDepth 20000 in
theorem ggX7_carryOut_X7_findFault : GoodIn wsX7_carryOut wsX7_findFault := goodIn_r _ [7, 1, 8, 2, 9, 10, 11, 6, 12, 13, 14, 15, 16, 17, 18, 19, 20, 21, 22, 23, 24, 25, 26, 27, 28, 29, 30, 31, 32, 33, 34, 35, 36, 200, 201, 202, 203, 204, 205, 206, 207, 208, 209, 210, 211, 212] (by decide +kernel) (by decide +kernel)
set_option maxRecDepth 20000 in
theorem gX7_carryOut_X7_findFault : GoodIn wsX7_carryOut (wsV RX7 218 RX7 yX7_findFault wsX7_findFault) := goodIn_app (goodIn_of _ (by decide +kernel)) ggX7_carryOut_X7_findFault
set_option maxRecDepth 20000 in
theorem ggX7_carryOut_X7_record : GoodIn wsX7_carryOut wsX7_record := goodIn_r _ [40, 41, 42, 43, 200, 201, 202, 203, 204, 205, 206, 207, 208, 209, 210, 211, 212] (by decide +kernel) (by decide +kernel)
set_option maxRecDepth 20000 in
theorem gX7_carryOut_X7_record : GoodIn wsX7_carryOut (wsV RX7 34 RX7 yX7_record wsX7_record) := goodIn_app (goodIn_of _ (by decide +kernel)) ggX7_carryOut_X7_record
set_option maxRecDepth 20000 in
theorem ggX7_carryOut_X7_readOrder : GoodIn wsX7_carryOut wsX7_readOrder := goodIn_r _ [12, 13, 14, 15, 8, 16, 1, 17, 18, 19, 6, 20, 2, 21, 22, 23, 24, 25, 26, 27, 28, 29, 30, 31, 32, 33, 34, 35, 36, 200, 201, 202, 203, 204, 205, 206, 207, 208, 209, 210, 211, 212] (by decide +kernel) (by decide +kernel)
set_option maxRecDepth 20000 in
theorem gX7_carryOut_X7_readOrder : GoodIn wsX7_carryOut (wsV RX7 215 RX7 yX7_readOrder wsX7_readOrder) := goodIn_app (goodIn_of _ (by decide +kernel)) ggX7_carryOut_X7_readOrder
set_option maxRecDepth 20000 in
theorem ggX7_carryOut_X7_noOrder : GoodIn wsX7_carryOut wsX7_noOrder := goodIn_r _ [47, 13, 16, 14, 15, 48, 49, 50, 6, 51, 43, 52, 53, 54, 55, 56, 57, 58, 59, 30, 31, 32, 60, 61, 62, 63, 64, 65, 66, 67, 68, 69, 70, 71, 72, 73, 74, 75, 76, 77, 78, 79, 80, 81, 82, 83, 84, 85, 86, 87, 88, 89, 90, 91, 92, 93, 94, 95, 96, 97, 98, 99, 100, 101, 102, 103, 104, 105, 106, 107, 108, 109, 110, 111, 112, 113, 114, 115, 116, 117, 118, 119, 120, 121, 122, 123, 124, 125, 126, 127, 128, 129, 130, 131, 132, 133, 134, 135, 136, 137, 138, 139, 140, 141, 142, 143, 144, 145, 146, 200, 201, 202, 203, 204, 205, 206, 207, 208, 209, 210, 211, 212] (by decide +kernel) (by decide +kernel)
set_option maxRecDepth 20000 in
theorem gX7_carryOut_X7_noOrder : GoodIn wsX7_carryOut (wsV RX7 221 RX7 yX7_noOrder wsX7_noOrder) := goodIn_app (goodIn_of _ (by decide +kernel)) ggX7_carryOut_X7_noOrder
set_option maxRecDepth 20000 in
theorem ggX7_carryOut_X7_doOrder : GoodIn wsX7_carryOut wsX7_doOrder := goodIn_r _ [150, 13, 16, 14, 15, 151, 152, 153, 6, 154, 43, 155, 156, 157, 158, 159, 160, 161, 162, 163, 164, 165, 166, 167, 168, 169, 170, 171, 172, 173, 174, 175, 86, 87, 88, 89, 176, 177, 178, 179, 113, 114, 115, 116, 180, 181, 182, 183, 125, 126, 127, 128, 129, 130, 131, 184, 185, 186, 187, 188, 189, 190, 191, 192, 193, 194, 195, 66, 67, 68, 69, 196, 197, 198, 199, 200, 201, 202, 203, 204, 205, 206, 207, 208, 209, 210, 211, 212] (by decide +kernel) (by decide +kernel)
set_option maxRecDepth 20000 in
theorem gX7_carryOut_X7_doOrder : GoodIn wsX7_carryOut (wsV RX7 224 RX7 yX7_doOrder wsX7_doOrder) := goodIn_app (goodIn_of _ (by decide +kernel)) ggX7_carryOut_X7_doOrder
theorem dX7_carryOut_0 : decode cX7_carryOut 0 = .ok (.aload_n 0, 1) := by decide +kernel
theorem dX7_carryOut_1 : decode cX7_carryOut 1 = .ok (.invokevirtual 218, 3) := by decide +kernel
theorem dX7_carryOut_4 : decode cX7_carryOut 4 = .ok (.ifCond .lt 6, 3) := by decide +kernel
theorem dX7_carryOut_7 : decode cX7_carryOut 7 = .ok (.bipush (-3), 2) := by decide +kernel
theorem dX7_carryOut_9 : decode cX7_carryOut 9 = .ok (.ireturn, 1) := by decide +kernel
theorem dX7_carryOut_10 : decode cX7_carryOut 10 = .ok (.aload_n 0, 1) := by decide +kernel
theorem dX7_carryOut_11 : decode cX7_carryOut 11 = .ok (.invokevirtual 34, 3) := by decide +kernel
theorem dX7_carryOut_14 : decode cX7_carryOut 14 = .ok (.iconst 0, 1) := by decide +kernel
theorem dX7_carryOut_15 : decode cX7_carryOut 15 = .ok (.istore_n 1, 1) := by decide +kernel
theorem dX7_carryOut_16 : decode cX7_carryOut 16 = .ok (.aload_n 0, 1) := by decide +kernel
theorem dX7_carryOut_17 : decode cX7_carryOut 17 = .ok (.iconst 0, 1) := by decide +kernel
theorem dX7_carryOut_18 : decode cX7_carryOut 18 = .ok (.putfield 183, 3) := by decide +kernel
theorem dX7_carryOut_21 : decode cX7_carryOut 21 = .ok (.iconst 1, 1) := by decide +kernel
theorem dX7_carryOut_22 : decode cX7_carryOut 22 = .ok (.istore_n 2, 1) := by decide +kernel
theorem dX7_carryOut_23 : decode cX7_carryOut 23 = .ok (.iload_n 2, 1) := by decide +kernel
theorem dX7_carryOut_24 : decode cX7_carryOut 24 = .ok (.ifCond .eq 56, 3) := by decide +kernel
theorem dX7_carryOut_27 : decode cX7_carryOut 27 = .ok (.aload_n 0, 1) := by decide +kernel
theorem dX7_carryOut_28 : decode cX7_carryOut 28 = .ok (.getfield 183, 3) := by decide +kernel
theorem dX7_carryOut_31 : decode cX7_carryOut 31 = .ok (.aload_n 0, 1) := by decide +kernel
theorem dX7_carryOut_32 : decode cX7_carryOut 32 = .ok (.getfield 175, 3) := by decide +kernel
theorem dX7_carryOut_35 : decode cX7_carryOut 35 = .ok (.if_icmp .ge 45, 3) := by decide +kernel
theorem dX7_carryOut_38 : decode cX7_carryOut 38 = .ok (.aload_n 0, 1) := by decide +kernel
theorem dX7_carryOut_39 : decode cX7_carryOut 39 = .ok (.invokevirtual 215, 3) := by decide +kernel
theorem dX7_carryOut_42 : decode cX7_carryOut 42 = .ok (.aload_n 0, 1) := by decide +kernel
theorem dX7_carryOut_43 : decode cX7_carryOut 43 = .ok (.dup, 1) := by decide +kernel
theorem dX7_carryOut_44 : decode cX7_carryOut 44 = .ok (.getfield 183, 3) := by decide +kernel
theorem dX7_carryOut_47 : decode cX7_carryOut 47 = .ok (.iconst 1, 1) := by decide +kernel
theorem dX7_carryOut_48 : decode cX7_carryOut 48 = .ok (.iadd, 1) := by decide +kernel
theorem dX7_carryOut_49 : decode cX7_carryOut 49 = .ok (.putfield 183, 3) := by decide +kernel
theorem dX7_carryOut_52 : decode cX7_carryOut 52 = .ok (.aload_n 0, 1) := by decide +kernel
theorem dX7_carryOut_53 : decode cX7_carryOut 53 = .ok (.invokevirtual 221, 3) := by decide +kernel
theorem dX7_carryOut_56 : decode cX7_carryOut 56 = .ok (.ifCond .ne 7, 3) := by decide +kernel
theorem dX7_carryOut_59 : decode cX7_carryOut 59 = .ok (.iconst 1, 1) := by decide +kernel
theorem dX7_carryOut_60 : decode cX7_carryOut 60 = .ok (.goto 4, 3) := by decide +kernel
theorem dX7_carryOut_63 : decode cX7_carryOut 63 = .ok (.iconst 0, 1) := by decide +kernel
theorem dX7_carryOut_64 : decode cX7_carryOut 64 = .ok (.istore_n 2, 1) := by decide +kernel
theorem dX7_carryOut_65 : decode cX7_carryOut 65 = .ok (.iload_n 2, 1) := by decide +kernel
theorem dX7_carryOut_66 : decode cX7_carryOut 66 = .ok (.ifCond .eq (-43), 3) := by decide +kernel
theorem dX7_carryOut_69 : decode cX7_carryOut 69 = .ok (.aload_n 0, 1) := by decide +kernel
theorem dX7_carryOut_70 : decode cX7_carryOut 70 = .ok (.invokevirtual 224, 3) := by decide +kernel
theorem dX7_carryOut_73 : decode cX7_carryOut 73 = .ok (.pop, 1) := by decide +kernel
theorem dX7_carryOut_74 : decode cX7_carryOut 74 = .ok (.iinc 1 1, 3) := by decide +kernel
theorem dX7_carryOut_77 : decode cX7_carryOut 77 = .ok (.goto (-54), 3) := by decide +kernel
theorem dX7_carryOut_80 : decode cX7_carryOut 80 = .ok (.aload_n 0, 1) := by decide +kernel
theorem dX7_carryOut_81 : decode cX7_carryOut 81 = .ok (.iconst 0, 1) := by decide +kernel
theorem dX7_carryOut_82 : decode cX7_carryOut 82 = .ok (.putfield 175, 3) := by decide +kernel
theorem dX7_carryOut_85 : decode cX7_carryOut 85 = .ok (.iload_n 1, 1) := by decide +kernel
theorem dX7_carryOut_86 : decode cX7_carryOut 86 = .ok (.ireturn, 1) := by decide +kernel
theorem dJ6_bitCount_0f7a4_0 : decode cJ6_bitCount_0f7a4 0 = .ok (.iload_n 0, 1) := by decide +kernel
theorem dJ6_bitCount_0f7a4_1 : decode cJ6_bitCount_0f7a4 1 = .ok (.iload_n 0, 1) := by decide +kernel
theorem dJ6_bitCount_0f7a4_2 : decode cJ6_bitCount_0f7a4 2 = .ok (.iconst 1, 1) := by decide +kernel
theorem dJ6_bitCount_0f7a4_3 : decode cJ6_bitCount_0f7a4 3 = .ok (.iushr, 1) := by decide +kernel
theorem dJ6_bitCount_0f7a4_4 : decode cJ6_bitCount_0f7a4 4 = .ok (.ldc_w 265, 3) := by decide +kernel
theorem dJ6_bitCount_0f7a4_7 : decode cJ6_bitCount_0f7a4 7 = .ok (.iand, 1) := by decide +kernel
theorem dJ6_bitCount_0f7a4_8 : decode cJ6_bitCount_0f7a4 8 = .ok (.isub, 1) := by decide +kernel
theorem dJ6_bitCount_0f7a4_9 : decode cJ6_bitCount_0f7a4 9 = .ok (.istore_n 0, 1) := by decide +kernel
theorem dJ6_bitCount_0f7a4_10 : decode cJ6_bitCount_0f7a4 10 = .ok (.iload_n 0, 1) := by decide +kernel
theorem dJ6_bitCount_0f7a4_11 : decode cJ6_bitCount_0f7a4 11 = .ok (.ldc_w 266, 3) := by decide +kernel
theorem dJ6_bitCount_0f7a4_14 : decode cJ6_bitCount_0f7a4 14 = .ok (.iand, 1) := by decide +kernel
theorem dJ6_bitCount_0f7a4_15 : decode cJ6_bitCount_0f7a4 15 = .ok (.iload_n 0, 1) := by decide +kernel
theorem dJ6_bitCount_0f7a4_16 : decode cJ6_bitCount_0f7a4 16 = .ok (.iconst 2, 1) := by decide +kernel
theorem dJ6_bitCount_0f7a4_17 : decode cJ6_bitCount_0f7a4 17 = .ok (.iushr, 1) := by decide +kernel
theorem dJ6_bitCount_0f7a4_18 : decode cJ6_bitCount_0f7a4 18 = .ok (.ldc_w 266, 3) := by decide +kernel
theorem dJ6_bitCount_0f7a4_21 : decode cJ6_bitCount_0f7a4 21 = .ok (.iand, 1) := by decide +kernel
theorem dJ6_bitCount_0f7a4_22 : decode cJ6_bitCount_0f7a4 22 = .ok (.iadd, 1) := by decide +kernel
theorem dJ6_bitCount_0f7a4_23 : decode cJ6_bitCount_0f7a4 23 = .ok (.istore_n 0, 1) := by decide +kernel
theorem dJ6_bitCount_0f7a4_24 : decode cJ6_bitCount_0f7a4 24 = .ok (.iload_n 0, 1) := by decide +kernel
theorem dJ6_bitCount_0f7a4_25 : decode cJ6_bitCount_0f7a4 25 = .ok (.iload_n 0, 1) := by decide +kernel
theorem dJ6_bitCount_0f7a4_26 : decode cJ6_bitCount_0f7a4 26 = .ok (.iconst 4, 1) := by decide +kernel
theorem dJ6_bitCount_0f7a4_27 : decode cJ6_bitCount_0f7a4 27 = .ok (.iushr, 1) := by decide +kernel
theorem dJ6_bitCount_0f7a4_28 : decode cJ6_bitCount_0f7a4 28 = .ok (.iadd, 1) := by decide +kernel
theorem dJ6_bitCount_0f7a4_29 : decode cJ6_bitCount_0f7a4 29 = .ok (.ldc_w 267, 3) := by decide +kernel
theorem dJ6_bitCount_0f7a4_32 : decode cJ6_bitCount_0f7a4 32 = .ok (.iand, 1) := by decide +kernel
theorem dJ6_bitCount_0f7a4_33 : decode cJ6_bitCount_0f7a4 33 = .ok (.istore_n 0, 1) := by decide +kernel
theorem dJ6_bitCount_0f7a4_34 : decode cJ6_bitCount_0f7a4 34 = .ok (.iload_n 0, 1) := by decide +kernel
theorem dJ6_bitCount_0f7a4_35 : decode cJ6_bitCount_0f7a4 35 = .ok (.iload_n 0, 1) := by decide +kernel
theorem dJ6_bitCount_0f7a4_36 : decode cJ6_bitCount_0f7a4 36 = .ok (.bipush 8, 2) := by decide +kernel
theorem dJ6_bitCount_0f7a4_38 : decode cJ6_bitCount_0f7a4 38 = .ok (.iushr, 1) := by decide +kernel
theorem dJ6_bitCount_0f7a4_39 : decode cJ6_bitCount_0f7a4 39 = .ok (.iadd, 1) := by decide +kernel
theorem dJ6_bitCount_0f7a4_40 : decode cJ6_bitCount_0f7a4 40 = .ok (.istore_n 0, 1) := by decide +kernel
theorem dJ6_bitCount_0f7a4_41 : decode cJ6_bitCount_0f7a4 41 = .ok (.iload_n 0, 1) := by decide +kernel
theorem dJ6_bitCount_0f7a4_42 : decode cJ6_bitCount_0f7a4 42 = .ok (.iload_n 0, 1) := by decide +kernel
theorem dJ6_bitCount_0f7a4_43 : decode cJ6_bitCount_0f7a4 43 = .ok (.bipush 16, 2) := by decide +kernel
theorem dJ6_bitCount_0f7a4_45 : decode cJ6_bitCount_0f7a4 45 = .ok (.iushr, 1) := by decide +kernel
theorem dJ6_bitCount_0f7a4_46 : decode cJ6_bitCount_0f7a4 46 = .ok (.iadd, 1) := by decide +kernel
theorem dJ6_bitCount_0f7a4_47 : decode cJ6_bitCount_0f7a4 47 = .ok (.istore_n 0, 1) := by decide +kernel
theorem dJ6_bitCount_0f7a4_48 : decode cJ6_bitCount_0f7a4 48 = .ok (.iload_n 0, 1) := by decide +kernel
theorem dJ6_bitCount_0f7a4_49 : decode cJ6_bitCount_0f7a4 49 = .ok (.bipush 63, 2) := by decide +kernel
theorem dJ6_bitCount_0f7a4_51 : decode cJ6_bitCount_0f7a4 51 = .ok (.iand, 1) := by decide +kernel
theorem dJ6_bitCount_0f7a4_52 : decode cJ6_bitCount_0f7a4 52 = .ok (.ireturn, 1) := by decide +kernel
theorem dJ9_max_7cf53_0 : decode cJ9_max_7cf53 0 = .ok (.iload_n 0, 1) := by decide +kernel
theorem dJ9_max_7cf53_1 : decode cJ9_max_7cf53 1 = .ok (.iload_n 1, 1) := by decide +kernel
theorem dJ9_max_7cf53_2 : decode cJ9_max_7cf53 2 = .ok (.if_icmp .lt 7, 3) := by decide +kernel
theorem dJ9_max_7cf53_5 : decode cJ9_max_7cf53 5 = .ok (.iload_n 0, 1) := by decide +kernel
theorem dJ9_max_7cf53_6 : decode cJ9_max_7cf53 6 = .ok (.goto 4, 3) := by decide +kernel
theorem dJ9_max_7cf53_9 : decode cJ9_max_7cf53 9 = .ok (.iload_n 1, 1) := by decide +kernel
theorem dJ9_max_7cf53_10 : decode cJ9_max_7cf53 10 = .ok (.ireturn, 1) := by decide +kernel
theorem dJ9_min_7cf53_0 : decode cJ9_min_7cf53 0 = .ok (.iload_n 0, 1) := by decide +kernel
theorem dJ9_min_7cf53_1 : decode cJ9_min_7cf53 1 = .ok (.iload_n 1, 1) := by decide +kernel
theorem dJ9_min_7cf53_2 : decode cJ9_min_7cf53 2 = .ok (.if_icmp .gt 7, 3) := by decide +kernel
theorem dJ9_min_7cf53_5 : decode cJ9_min_7cf53 5 = .ok (.iload_n 0, 1) := by decide +kernel
theorem dJ9_min_7cf53_6 : decode cJ9_min_7cf53 6 = .ok (.goto 4, 3) := by decide +kernel
theorem dJ9_min_7cf53_9 : decode cJ9_min_7cf53 9 = .ok (.iload_n 1, 1) := by decide +kernel
theorem dJ9_min_7cf53_10 : decode cJ9_min_7cf53 10 = .ok (.ireturn, 1) := by decide +kernel
set_option maxRecDepth 20000 in
theorem ggL_law_X6_init : GoodIn wsL_law wsX6_init := goodIn_r _ [9, 10, 11, 12, 13, 14, 15, 16, 17, 18, 19, 20, 21, 22, 23, 24, 25, 26, 27, 28, 29, 30, 31, 32, 33, 34, 35, 36, 37, 38, 39, 40, 41, 42, 43, 44, 45, 46, 47, 48, 49, 50, 51, 52, 53, 54, 55, 56, 57, 58, 59, 60, 61, 62, 63, 64, 65, 66, 67, 68, 69, 70, 71, 72, 73, 74, 75, 76, 77, 78, 79, 80, 81, 82, 83, 84, 85, 86, 87, 88, 991, 992, 993, 994, 995, 996, 997, 998, 974, 975, 976, 977, 999, 1000, 1001, 1002, 1003, 1004, 1005, 1006, 1007, 1008, 1009, 1010, 1011, 1012, 1013, 1014, 1015, 1016, 1017, 1018, 1019, 1020, 1021] (by decide +kernel) (by decide +kernel)
set_option maxRecDepth 20000 in
theorem gL_law_X6_init : GoodIn wsL_law (wsX6_init) := ggL_law_X6_init
set_option maxRecDepth 20000 in
theorem ggL_law_X7_init : GoodIn wsL_law wsX7_init := goodIn_r _ [91, 92, 11, 12, 53, 93, 94, 95, 96, 97, 98, 978, 979, 980, 981, 982, 983, 984, 985, 986, 987, 988, 989, 990] (by decide +kernel) (by decide +kernel)
set_option maxRecDepth 20000 in
theorem gL_law_X7_init : GoodIn wsL_law (wsX7_init) := ggL_law_X7_init
set_option maxRecDepth 20000 in
theorem ggL_law_X6_set : GoodIn wsL_law wsX6_set := goodIn_r _ [102, 20, 16, 103, 104, 105, 19, 106, 107, 108, 109, 110, 111, 83, 112, 113, 114, 15, 115, 33, 37, 41, 42, 43, 116, 44, 117, 118, 119, 120, 32, 121, 54, 122, 123, 51, 124, 125, 126, 127, 128, 129, 130, 131, 36, 132, 59, 133, 134, 135, 136, 137, 138, 40, 139, 65, 66, 67, 68, 69, 70, 71, 72, 140, 141, 142, 143, 144, 145, 146, 147, 148, 149, 2, 150, 151, 152, 153, 154, 74, 75, 76, 77, 155, 156, 157, 158, 159, 160, 974, 975, 976, 977, 999, 1000, 1001, 991, 992, 993, 994, 995, 996, 997, 998, 1009, 1010, 1011, 1012, 1013, 1014, 1015, 1016, 1017, 1018, 1019, 1020, 1021] (by decide +kernel) (by decide +kernel)
set_option maxRecDepth 20000 in
theorem gL_law_X6_set : GoodIn wsL_law (wsV RL 13 RX6 yX6_set wsX6_set) := goodIn_app (goodIn_of _ (by decide +kernel)) ggL_law_X6_set
set_option maxRecDepth 20000 in
theorem ggL_law_X7_set : GoodIn wsL_law wsX7_set := goodIn_r _ [164, 93, 165, 166, 5, 167, 168, 169, 170, 171, 172, 173, 174, 175, 176, 177, 178, 94, 978, 979, 980, 981, 982, 983, 984, 985, 986, 987, 988, 989, 990] (by decide +kernel) (by decide +kernel)
set_option maxRecDepth 20000 in
theorem gL_law_X7_set : GoodIn wsL_law (wsV RL 17 RX7 yX7_set wsX7_set) := goodIn_app (goodIn_of _ (by decide +kernel)) ggL_law_X7_set
set_option maxRecDepth 20000 in
theorem ggL_law_X6_pupil : GoodIn wsL_law wsX6_pupil := goodIn_r _ [182, 20, 16, 103, 104, 105, 19, 106, 107, 108, 109, 110, 111, 83, 112, 113, 114, 15, 115, 33, 37, 41, 42, 43, 116, 44, 117, 118, 119, 120, 32, 121, 54, 122, 123, 51, 124, 125, 126, 127, 128, 129, 130, 131, 36, 132, 59, 133, 134, 135, 136, 137, 138, 40, 139, 65, 66, 67, 68, 69, 70, 71, 72, 140, 141, 183, 184, 185, 186, 155, 156, 157, 158, 159, 160, 974, 975, 976, 977, 999, 1000, 1001, 991, 992, 993, 994, 995, 996, 997, 998, 1009, 1010, 1011, 1012, 1013, 1014, 1015, 1016, 1017, 1018, 1019, 1020, 1021] (by decide +kernel) (by decide +kernel)
set_option maxRecDepth 20000 in
theorem gL_law_X6_pupil : GoodIn wsL_law (wsV RL 18 RX6 yX6_pupil wsX6_pupil) := goodIn_app (goodIn_of _ (by decide +kernel)) ggL_law_X6_pupil
set_option maxRecDepth 20000 in
theorem ggL_law_X7_pupil : GoodIn wsL_law wsX7_pupil := goodIn_r _ [190, 191, 192, 193, 5, 194, 93, 174, 175, 176, 177, 178, 94, 195, 196, 197, 198, 978, 979, 980, 981, 982, 983, 984, 985, 986, 987, 988, 989, 990] (by decide +kernel) (by decide +kernel)
set_option maxRecDepth 20000 in
theorem gL_law_X7_pupil : GoodIn wsL_law (wsV RL 22 RX7 yX7_pupil wsX7_pupil) := goodIn_app (goodIn_of _ (by decide +kernel)) ggL_law_X7_pupil
set_option maxRecDepth 20000 in
theorem ggL_law_X6_book : GoodIn wsL_law wsX6_book := goodIn_r _ [202, 20, 16, 103, 104, 105, 19, 106, 107, 108, 109, 110, 111, 83, 112, 113, 114, 15, 115, 33, 37, 41, 42, 43, 116, 44, 117, 118, 119, 120, 32, 121, 54, 122, 123, 51, 124, 125, 126, 127, 128, 129, 130, 131, 36, 132, 59, 133, 134, 135, 136, 137, 138, 40, 139, 65, 66, 67, 68, 69, 70, 71, 72, 140, 141, 203, 204, 205, 206, 207, 208, 209, 210, 211, 2, 212, 213, 149, 150, 214, 215, 216, 217, 218, 219, 220, 221, 222, 223, 224, 152, 153, 154, 225, 226, 227, 228, 229, 230, 231, 232, 233, 234, 75, 76, 77, 155, 156, 157, 158, 159, 160, 974, 975, 976, 977, 999, 1000, 1001, 991, 992, 993, 994, 995, 996, 997, 998, 1009, 1010, 1011, 1012, 1013, 1014, 1015, 1016, 1017, 1018, 1019, 1020, 1021] (by decide +kernel) (by decide +kernel)
set_option maxRecDepth 20000 in
theorem gL_law_X6_book : GoodIn wsL_law (wsV RL 23 RX6 yX6_book wsX6_book) := goodIn_app (goodIn_of _ (by decide +kernel)) ggL_law_X6_book
set_option maxRecDepth 20000 in
theorem ggL_law_X7_book : GoodIn wsL_law wsX7_book := goodIn_r _ [238, 239, 240, 241, 5, 242, 243, 244, 245, 246, 93, 165, 166, 167, 247, 248, 249, 250, 251, 252, 253, 254, 255, 256, 257, 258, 259, 260, 174, 175, 176, 177, 178, 94, 261, 262, 263, 264, 978, 979, 980, 981, 982, 983, 984, 985, 986, 987, 988, 989, 990] (by decide +kernel) (by decide +kernel)
set_option maxRecDepth 20000 in
theorem gL_law_X7_book : GoodIn wsL_law (wsV RL 27 RX7 yX7_book wsX7_book) := goodIn_app (goodIn_of _ (by decide +kernel)) ggL_law_X7_book
set_option maxRecDepth 20000 in
theorem ggL_law_X6_giveBack : GoodIn wsL_law wsX6_giveBack := goodIn_r _ [268, 20, 16, 103, 104, 105, 19, 106, 107, 108, 109, 110, 111, 83, 112, 113, 114, 15, 115, 33, 37, 41, 42, 43, 116, 44, 117, 118, 119, 120, 32, 121, 54, 122, 123, 51, 124, 125, 126, 127, 128, 129, 130, 131, 36, 132, 59, 133, 134, 135, 136, 137, 138, 40, 139, 65, 66, 67, 68, 69, 70, 71, 72, 140, 141, 269, 270, 271, 272, 207, 208, 209, 210, 214, 2, 215, 213, 149, 150, 225, 226, 227, 228, 229, 217, 218, 219, 220, 221, 222, 223, 224, 152, 153, 154, 273, 274, 275, 276, 277, 278, 279, 280, 234, 75, 76, 77, 155, 156, 157, 158, 159, 160, 974, 975, 976, 977, 999, 1000, 1001, 991, 992, 993, 994, 995, 996, 997, 998, 1009, 1010, 1011, 1012, 1013, 1014, 1015, 1016, 1017, 1018, 1019, 1020, 1021] (by decide +kernel) (by decide +kernel)
set_option maxRecDepth 20000 in
theorem gL_law_X6_giveBack : GoodIn wsL_law (wsV RL 28 RX6 yX6_giveBack wsX6_giveBack) := goodIn_app (goodIn_of _ (by decide +kernel)) ggL_law_X6_giveBack
set_option maxRecDepth 20000 in
theorem ggL_law_X7_giveBack : GoodIn wsL_law wsX7_giveBack := goodIn_r _ [284, 93, 243, 244, 245, 5, 246, 165, 166, 167, 250, 251, 252, 257, 258, 259, 260, 253, 254, 255, 256, 174, 175, 176, 177, 178, 94, 978, 979, 980, 981, 982, 983, 984, 985, 986, 987, 988, 989, 990] (by decide +kernel) (by decide +kernel)
set_option maxRecDepth 20000 in
theorem gL_law_X7_giveBack : GoodIn wsL_law (wsV RL 31 RX7 yX7_giveBack wsX7_giveBack) := goodIn_app (goodIn_of _ (by decide +kernel)) ggL_law_X7_giveBack
set_option maxRecDepth 20000 in
theorem ggL_law_X6_throwPot : GoodIn wsL_law wsX6_throwPot := goodIn_r _ [288, 20, 16, 103, 104, 105, 19, 106, 107, 108, 109, 110, 111, 83, 112, 113, 114, 15, 115, 33, 37, 41, 42, 43, 116, 44, 117, 118, 119, 120, 32, 121, 54, 122, 123, 51, 124, 125, 126, 127, 128, 129, 130, 131, 36, 132, 59, 133, 134, 135, 136, 137, 138, 40, 139, 65, 66, 67, 68, 69, 70, 71, 72, 140, 141, 289, 290, 291, 292, 207, 208, 209, 210, 149, 2, 150, 225, 226, 227, 228, 229, 217, 218, 219, 220, 221, 222, 223, 224, 152, 153, 154, 273, 274, 275, 276, 293, 294, 295, 296, 297, 298, 299, 300, 301, 302, 303, 304, 305, 306, 307, 308, 309, 310, 311, 312, 313, 314, 315, 316, 317, 318, 319, 320, 321, 322, 75, 76, 77, 323, 324, 325, 326, 155, 156, 157, 158, 159, 160, 974, 975, 976, 977, 999, 1000, 1001, 991, 992, 993, 994, 995, 996, 997, 998, 1009, 1010, 1011, 1012, 1013, 1014, 1015, 1016, 1017, 1018, 1019, 1020, 1021] (by decide +kernel) (by decide +kernel)
set_option maxRecDepth 20000 in
theorem gL_law_X6_throwPot : GoodIn wsL_law (wsV RL 32 RX6 yX6_throwPot wsX6_throwPot) := goodIn_app (goodIn_of _ (by decide +kernel)) ggL_law_X6_throwPot
set_option maxRecDepth 20000 in
theorem ggL_law_X7_throwPot : GoodIn wsL_law wsX7_throwPot := goodIn_r _ [330, 331, 332, 333, 5, 334, 93, 243, 244, 245, 246, 165, 166, 167, 257, 258, 259, 260, 253, 254, 255, 256, 335, 336, 337, 338, 339, 340, 341, 342, 343, 344, 345, 346, 347, 348, 349, 174, 175, 176, 177, 178, 94, 350, 351, 352, 353, 354, 355, 356, 357, 358, 359, 360, 361, 362, 363, 364, 365, 366, 978, 979, 980, 981, 982, 983, 984, 985, 986, 987, 988, 989, 990] (by decide +kernel) (by decide +kernel)
set_option maxRecDepth 20000 in
theorem gL_law_X7_throwPot : GoodIn wsL_law (wsV RL 35 RX7 yX7_throwPot wsX7_throwPot) := goodIn_app (goodIn_of _ (by decide +kernel)) ggL_law_X7_throwPot
set_option maxRecDepth 20000 in
theorem ggL_law_X6_load : GoodIn wsL_law wsX6_load := goodIn_r _ [370, 20, 16, 103, 104, 105, 19, 106, 107, 108, 109, 110, 111, 83, 112, 113, 114, 15, 115, 33, 37, 41, 42, 43, 116, 44, 117, 118, 119, 120, 32, 121, 54, 122, 123, 51, 124, 125, 126, 127, 128, 129, 130, 131, 36, 132, 59, 133, 134, 135, 136, 137, 138, 40, 139, 65, 66, 67, 68, 69, 70, 71, 72, 140, 141, 371, 372, 373, 374, 375, 376, 377, 378, 379, 380, 381, 382, 383, 384, 385, 386, 301, 152, 153, 154, 387, 388, 389, 390, 391, 392, 393, 394, 395, 50, 52, 151, 396, 397, 398, 399, 400, 401, 402, 403, 404, 405, 406, 407, 408, 409, 410, 411, 412, 413, 414, 415, 416, 417, 418, 419, 74, 75, 76, 77, 155, 156, 157, 158, 159, 160, 974, 975, 976, 977, 999, 1000, 1001, 991, 992, 993, 994, 995, 996, 997, 998, 1009, 1010, 1011, 1012, 1013, 1014, 1015, 1016, 1017, 1018, 1019, 1020, 1021] (by decide +kernel) (by decide +kernel)
set_option maxRecDepth 20000 in
theorem gL_law_X6_load : GoodIn wsL_law (wsV RL 36 RX6 yX6_load wsX6_load) := goodIn_app (goodIn_of _ (by decide +kernel)) ggL_law_X6_load
set_option maxRecDepth 20000 in
theorem ggL_law_X7_load : GoodIn wsL_law wsX7_load := goodIn_r _ [423, 424, 425, 426, 5, 427, 428, 429, 430, 431, 93, 165, 166, 167, 432, 433, 434, 435, 343, 344, 345, 346, 436, 437, 438, 439, 440, 441, 442, 443, 444, 445, 446, 447, 174, 175, 176, 177, 178, 94, 448, 449, 450, 451, 355, 356, 357, 358, 978, 979, 980, 981, 982, 983, 984, 985, 986, 987, 988, 989, 990] (by decide +kernel) (by decide +kernel)
set_option maxRecDepth 20000 in
theorem gL_law_X7_load : GoodIn wsL_law (wsV RL 40 RX7 yX7_load wsX7_load) := goodIn_app (goodIn_of _ (by decide +kernel)) ggL_law_X7_load
set_option maxRecDepth 20000 in
theorem ggL_law_X6_unload : GoodIn wsL_law wsX6_unload := goodIn_r _ [455, 20, 16, 103, 104, 105, 19, 106, 107, 108, 109, 110, 111, 83, 112, 113, 114, 15, 115, 33, 37, 41, 42, 43, 116, 44, 117, 118, 119, 120, 32, 121, 54, 122, 123, 51, 124, 125, 126, 127, 128, 129, 130, 131, 36, 132, 59, 133, 134, 135, 136, 137, 138, 40, 139, 65, 66, 67, 68, 69, 70, 71, 72, 140, 141, 456, 457, 458, 459, 379, 380, 381, 382, 460, 417, 418, 419, 301, 152, 153, 154, 293, 294, 295, 296, 297, 298, 299, 300, 302, 303, 304, 305, 306, 307, 308, 461, 324, 325, 326, 322, 75, 76, 77, 151, 155, 156, 157, 158, 159, 160, 974, 975, 976, 977, 999, 1000, 1001, 991, 992, 993, 994, 995, 996, 997, 998, 1009, 1010, 1011, 1012, 1013, 1014, 1015, 1016, 1017, 1018, 1019, 1020, 1021] (by decide +kernel) (by decide +kernel)
set_option maxRecDepth 20000 in
theorem gL_law_X6_unload : GoodIn wsL_law (wsV RL 41 RX6 yX6_unload wsX6_unload) := goodIn_app (goodIn_of _ (by decide +kernel)) ggL_law_X6_unload
set_option maxRecDepth 20000 in
theorem ggL_law_X7_unload : GoodIn wsL_law wsX7_unload := goodIn_r _ [465, 428, 429, 430, 5, 431, 93, 165, 166, 167, 343, 344, 345, 346, 335, 336, 337, 338, 339, 340, 341, 342, 347, 348, 349, 174, 175, 176, 177, 178, 94, 359, 360, 361, 362, 363, 364, 365, 366, 355, 356, 357, 358, 978, 979, 980, 981, 982, 983, 984, 985, 986, 987, 988, 989, 990] (by decide +kernel) (by decide +kernel)
set_option maxRecDepth 20000 in
theorem gL_law_X7_unload : GoodIn wsL_law (wsV RL 44 RX7 yX7_unload wsX7_unload) := goodIn_app (goodIn_of _ (by decide +kernel)) ggL_law_X7_unload
set_option maxRecDepth 20000 in
theorem ggL_law_X6_fire : GoodIn wsL_law wsX6_fire := goodIn_r _ [469, 20, 16, 103, 104, 105, 19, 106, 107, 108, 109, 110, 111, 83, 112, 113, 114, 15, 115, 33, 37, 41, 42, 43, 116, 44, 117, 118, 119, 120, 32, 121, 54, 122, 123, 51, 124, 125, 126, 127, 128, 129, 130, 131, 36, 132, 59, 133, 134, 135, 136, 137, 138, 40, 139, 65, 66, 67, 68, 69, 70, 71, 72, 140, 141, 470, 471, 472, 473, 474, 2, 475, 213, 149, 150, 476, 401, 402, 403, 404, 405, 406, 407, 477, 478, 479, 480, 460, 417, 418, 419, 301, 152, 153, 154, 151, 481, 482, 483, 484, 485, 388, 389, 390, 486, 487, 488, 489, 490, 303, 304, 305, 306, 307, 308, 293, 294, 295, 296, 297, 298, 299, 300, 302, 491, 492, 493, 494, 74, 75, 76, 77, 495, 496, 497, 498, 499, 500, 387, 461, 324, 325, 326, 322, 155, 156, 157, 158, 159, 160, 974, 975, 976, 977, 999, 1000, 1001, 991, 992, 993, 994, 995, 996, 997, 998, 1009, 1010, 1011, 1012, 1013, 1014, 1015, 1016, 1017, 1018, 1019, 1020, 1021] (by decide +kernel) (by decide +kernel)
set_option maxRecDepth 20000 in
theorem gL_law_X6_fire : GoodIn wsL_law (wsV RL 45 RX6 yX6_fire wsX6_fire) := goodIn_app (goodIn_of _ (by decide +kernel)) ggL_law_X6_fire
set_option maxRecDepth 20000 in
theorem ggL_law_X7_fire : GoodIn wsL_law wsX7_fire := goodIn_r _ [504, 505, 506, 507, 5, 508, 165, 166, 167, 339, 340, 341, 342, 93, 343, 344, 345, 346, 347, 348, 349, 509, 510, 511, 512, 513, 514, 515, 516, 517, 518, 519, 335, 336, 337, 338, 174, 175, 176, 177, 178, 94, 520, 521, 522, 523, 355, 356, 357, 358, 359, 360, 361, 362, 363, 364, 365, 366, 978, 979, 980, 981, 982, 983, 984, 985, 986, 987, 988, 989, 990] (by decide +kernel) (by decide +kernel)
set_option maxRecDepth 20000 in
theorem gL_law_X7_fire : GoodIn wsL_law (wsV RL 48 RX7 yX7_fire wsX7_fire) := goodIn_app (goodIn_of _ (by decide +kernel)) ggL_law_X7_fire
set_option maxRecDepth 20000 in
theorem ggL_law_X6_glaze : GoodIn wsL_law wsX6_glaze := goodIn_r _ [527, 20, 16, 103, 104, 105, 19, 106, 107, 108, 109, 110, 111, 83, 112, 113, 114, 15, 115, 33, 37, 41, 42, 43, 116, 44, 117, 118, 119, 120, 32, 121, 54, 122, 123, 51, 124, 125, 126, 127, 128, 129, 130, 131, 36, 132, 59, 133, 134, 135, 136, 137, 138, 40, 139, 65, 66, 67, 68, 69, 70, 71, 72, 140, 141, 528, 529, 530, 531, 379, 380, 381, 382, 532, 2, 533, 213, 149, 150, 151, 152, 153, 154, 387, 388, 389, 390, 301, 383, 384, 385, 386, 495, 496, 497, 498, 499, 500, 75, 76, 77, 74, 155, 156, 157, 158, 159, 160, 974, 975, 976, 977, 999, 1000, 1001, 991, 992, 993, 994, 995, 996, 997, 998, 1009, 1010, 1011, 1012, 1013, 1014, 1015, 1016, 1017, 1018, 1019, 1020, 1021] (by decide +kernel) (by decide +kernel)
set_option maxRecDepth 20000 in
theorem gL_law_X6_glaze : GoodIn wsL_law (wsV RL 49 RX6 yX6_glaze wsX6_glaze) := goodIn_app (goodIn_of _ (by decide +kernel)) ggL_law_X6_glaze
set_option maxRecDepth 20000 in
theorem ggL_law_X7_glaze : GoodIn wsL_law wsX7_glaze := goodIn_r _ [537, 538, 539, 540, 5, 541, 93, 428, 429, 430, 431, 165, 166, 167, 542, 543, 544, 343, 344, 345, 346, 174, 175, 176, 177, 178, 94, 545, 546, 547, 548, 355, 356, 357, 358, 978, 979, 980, 981, 982, 983, 984, 985, 986, 987, 988, 989, 990] (by decide +kernel) (by decide +kernel)
set_option maxRecDepth 20000 in
theorem gL_law_X7_glaze : GoodIn wsL_law (wsV RL 52 RX7 yX7_glaze wsX7_glaze) := goodIn_app (goodIn_of _ (by decide +kernel)) ggL_law_X7_glaze
set_option maxRecDepth 20000 in
theorem ggL_law_X6_fill : GoodIn wsL_law wsX6_fill := goodIn_r _ [552, 20, 16, 103, 104, 105, 19, 106, 107, 108, 109, 110, 111, 83, 112, 113, 114, 15, 115, 33, 37, 41, 42, 43, 116, 44, 117, 118, 119, 120, 32, 121, 54, 122, 123, 51, 124, 125, 126, 127, 128, 129, 130, 131, 36, 132, 59, 133, 134, 135, 136, 137, 138, 40, 139, 65, 66, 67, 68, 69, 70, 71, 72, 140, 141, 553, 554, 555, 556, 557, 532, 2, 533, 213, 149, 150, 151, 152, 153, 154, 74, 75, 76, 77, 155, 156, 157, 158, 159, 160, 974, 975, 976, 977, 999, 1000, 1001, 991, 992, 993, 994, 995, 996, 997, 998, 1009, 1010, 1011, 1012, 1013, 1014, 1015, 1016, 1017, 1018, 1019, 1020, 1021] (by decide +kernel) (by decide +kernel)
set_option maxRecDepth 20000 in
theorem gL_law_X6_fill : GoodIn wsL_law (wsV RL 53 RX6 yX6_fill wsX6_fill) := goodIn_app (goodIn_of _ (by decide +kernel)) ggL_law_X6_fill
set_option maxRecDepth 20000 in
theorem ggL_law_X7_fill : GoodIn wsL_law wsX7_fill := goodIn_r _ [561, 93, 542, 543, 5, 544, 165, 166, 167, 174, 175, 176, 177, 178, 94, 978, 979, 980, 981, 982, 983, 984, 985, 986, 987, 988, 989, 990] (by decide +kernel) (by decide +kernel)
set_option maxRecDepth 20000 in
theorem gL_law_X7_fill : GoodIn wsL_law (wsV RL 56 RX7 yX7_fill wsX7_fill) := goodIn_app (goodIn_of _ (by decide +kernel)) ggL_law_X7_fill
set_option maxRecDepth 20000 in
theorem ggL_law_X6_takeHome : GoodIn wsL_law wsX6_takeHome := goodIn_r _ [565, 20, 16, 103, 104, 105, 19, 106, 107, 108, 109, 110, 111, 83, 112, 113, 114, 15, 115, 33, 37, 41, 42, 43, 116, 44, 117, 118, 119, 120, 32, 121, 54, 122, 123, 51, 124, 125, 126, 127, 128, 129, 130, 131, 36, 132, 59, 133, 134, 135, 136, 137, 138, 40, 139, 65, 66, 67, 68, 69, 70, 71, 72, 140, 141, 566, 567, 568, 569, 379, 380, 381, 382, 387, 388, 389, 390, 301, 152, 153, 154, 383, 384, 385, 386, 151, 495, 496, 497, 498, 499, 500, 75, 76, 77, 74, 155, 156, 157, 158, 159, 160, 974, 975, 976, 977, 999, 1000, 1001, 991, 992, 993, 994, 995, 996, 997, 998, 1009, 1010, 1011, 1012, 1013, 1014, 1015, 1016, 1017, 1018, 1019, 1020, 1021] (by decide +kernel) (by decide +kernel)
set_option maxRecDepth 20000 in
theorem gL_law_X6_takeHome : GoodIn wsL_law (wsV RL 57 RX6 yX6_takeHome wsX6_takeHome) := goodIn_app (goodIn_of _ (by decide +kernel)) ggL_law_X6_takeHome
set_option maxRecDepth 20000 in
theorem ggL_law_X7_takeHome : GoodIn wsL_law wsX7_takeHome := goodIn_r _ [573, 574, 575, 576, 5, 577, 428, 429, 430, 431, 93, 165, 166, 167, 343, 344, 345, 346, 174, 175, 176, 177, 178, 94, 578, 579, 580, 581, 355, 356, 357, 358, 978, 979, 980, 981, 982, 983, 984, 985, 986, 987, 988, 989, 990] (by decide +kernel) (by decide +kernel)
set_option maxRecDepth 20000 in
theorem gL_law_X7_takeHome : GoodIn wsL_law (wsV RL 60 RX7 yX7_takeHome wsX7_takeHome) := goodIn_app (goodIn_of _ (by decide +kernel)) ggL_law_X7_takeHome
set_option maxRecDepth 20000 in
theorem ggL_law_X6_pass : GoodIn wsL_law wsX6_pass := goodIn_r _ [585, 20, 16, 103, 104, 105, 19, 106, 107, 108, 109, 110, 111, 83, 112, 113, 114, 15, 115, 33, 37, 41, 42, 43, 116, 44, 117, 118, 119, 120, 32, 121, 54, 122, 123, 51, 124, 125, 126, 127, 128, 129, 130, 131, 36, 132, 59, 133, 134, 135, 136, 137, 138, 40, 139, 65, 66, 67, 68, 69, 70, 71, 72, 140, 141, 586, 587, 588, 589, 149, 2, 150, 590, 591, 592, 593, 594, 384, 385, 386, 301, 152, 153, 154, 485, 388, 389, 390, 595, 596, 597, 598, 599, 496, 497, 498, 499, 500, 75, 76, 77, 600, 601, 602, 603, 604, 278, 279, 280, 220, 221, 222, 223, 234, 155, 156, 157, 158, 159, 160, 974, 975, 976, 977, 999, 1000, 1001, 991, 992, 993, 994, 995, 996, 997, 998, 1009, 1010, 1011, 1012, 1013, 1014, 1015, 1016, 1017, 1018, 1019, 1020, 1021] (by decide +kernel) (by decide +kernel)
set_option maxRecDepth 20000 in
theorem gL_law_X6_pass : GoodIn wsL_law (wsV RL 61 RX6 yX6_pass wsX6_pass) := goodIn_app (goodIn_of _ (by decide +kernel)) ggL_law_X6_pass
set_option maxRecDepth 20000 in
theorem ggL_law_X7_pass : GoodIn wsL_law wsX7_pass := goodIn_r _ [608, 609, 610, 611, 5, 612, 93, 165, 166, 167, 174, 175, 176, 177, 178, 94, 613, 614, 615, 616, 617, 618, 619, 620, 343, 344, 345, 346, 355, 356, 357, 358, 253, 254, 255, 256, 978, 979, 980, 981, 982, 983, 984, 985, 986, 987, 988, 989, 990] (by decide +kernel) (by decide +kernel)
set_option maxRecDepth 20000 in
theorem gL_law_X7_pass : GoodIn wsL_law (wsV RL 64 RX7 yX7_pass wsX7_pass) := goodIn_app (goodIn_of _ (by decide +kernel)) ggL_law_X7_pass
set_option maxRecDepth 20000 in
theorem ggL_law_X6_of : GoodIn wsL_law wsX6_of := goodIn_r _ [624, 16, 625, 626, 627, 15, 628, 41, 379, 380, 381, 40, 382, 140, 383, 384, 385, 386, 69, 301, 152, 153, 32, 154, 54, 387, 388, 389, 390, 68, 151, 460, 417, 418, 419, 974, 975, 976, 977, 991, 992, 993, 994, 995, 996, 997, 998, 1013, 1014, 1015, 1016, 1017, 1018, 1019, 1020, 1021, 1009] (by decide +kernel) (by decide +kernel)
set_option maxRecDepth 20000 in
theorem gL_law_X6_of : GoodIn wsL_law (wsV RL 65 RX6 yX6_of wsX6_of) := goodIn_app (goodIn_of _ (by decide +kernel)) ggL_law_X6_of
set_option maxRecDepth 20000 in
theorem ggL_law_X7_of : GoodIn wsL_law wsX7_of := goodIn_r _ [632, 428, 429, 430, 5, 431, 93, 165, 166, 167, 343, 344, 345, 346, 978, 979, 980, 981, 982, 983, 984, 985, 986, 987, 988, 989, 990] (by decide +kernel) (by decide +kernel)
set_option maxRecDepth 20000 in
theorem gL_law_X7_of : GoodIn wsL_law (wsV RL 68 RX7 yX7_of wsX7_of) := goodIn_app (goodIn_of _ (by decide +kernel)) ggL_law_X7_of
set_option maxRecDepth 20000 in
theorem ggL_law_X6_ofPupil : GoodIn wsL_law wsX6_ofPupil := goodIn_r _ [636, 16, 637, 638, 639, 15, 640, 37, 41, 43, 207, 208, 209, 210, 116, 225, 226, 227, 36, 228, 229, 217, 218, 219, 59, 220, 221, 222, 223, 133, 224, 152, 153, 32, 154, 54, 641, 642, 643, 40, 644, 65, 140, 404, 405, 406, 407, 645, 409, 410, 411, 68, 151, 646, 647, 648, 649, 650, 974, 975, 976, 977, 991, 992, 993, 994, 995, 996, 997, 998, 1010, 1011, 1012, 1009, 1013, 1014, 1015, 1016, 1017, 1018, 1019, 1020, 1021] (by decide +kernel) (by decide +kernel)
set_option maxRecDepth 20000 in
theorem gL_law_X6_ofPupil : GoodIn wsL_law (wsV RL 69 RX6 yX6_ofPupil wsX6_ofPupil) := goodIn_app (goodIn_of _ (by decide +kernel)) ggL_law_X6_ofPupil
set_option maxRecDepth 20000 in
theorem ggL_law_X7_ofPupil : GoodIn wsL_law wsX7_ofPupil := goodIn_r _ [654, 93, 243, 244, 245, 5, 246, 165, 166, 167, 257, 258, 259, 260, 253, 254, 255, 256, 655, 656, 657, 658, 343, 344, 345, 346, 659, 660, 661, 662, 978, 979, 980, 981, 982, 983, 984, 985, 986, 987, 988, 989, 990] (by decide +kernel) (by decide +kernel)
set_option maxRecDepth 20000 in
theorem gL_law_X7_ofPupil : GoodIn wsL_law (wsV RL 72 RX7 yX7_ofPupil wsX7_ofPupil) := goodIn_app (goodIn_of _ (by decide +kernel)) ggL_law_X7_ofPupil
set_option maxRecDepth 20000 in
theorem ggL_law_X6_booked : GoodIn wsL_law wsX6_booked := goodIn_r _ [666, 16, 667, 668, 669, 15, 670, 37, 211, 2, 212, 213, 149, 150, 214, 215, 216, 217, 218, 36, 219, 59, 220, 221, 222, 223, 133, 224, 152, 153, 32, 154, 54, 974, 975, 976, 977, 991, 992, 993, 994, 995, 996, 997, 998, 1010, 1011, 1012, 1009] (by decide +kernel) (by decide +kernel)
set_option maxRecDepth 20000 in
theorem gL_law_X6_booked : GoodIn wsL_law (wsV RL 73 RX6 yX6_booked wsX6_booked) := goodIn_app (goodIn_of _ (by decide +kernel)) ggL_law_X6_booked
set_option maxRecDepth 20000 in
theorem ggL_law_X7_booked : GoodIn wsL_law wsX7_booked := goodIn_r _ [674, 247, 248, 5, 249, 165, 166, 167, 250, 251, 252, 253, 254, 255, 256, 93, 978, 979, 980, 981, 982, 983, 984, 985, 986, 987, 988, 989, 990] (by decide +kernel) (by decide +kernel)
set_option maxRecDepth 20000 in
theorem gL_law_X7_booked : GoodIn wsL_law (wsV RL 76 RX7 yX7_booked wsX7_booked) := goodIn_app (goodIn_of _ (by decide +kernel)) ggL_law_X7_booked
set_option maxRecDepth 20000 in
theorem ggL_law_X6_count : GoodIn wsL_law wsX6_count := goodIn_r _ [678, 25, 20, 16, 679, 680, 681, 24, 682, 683, 684, 685, 686, 19, 687, 159, 688, 689, 690, 15, 691, 42, 33, 37, 116, 41, 117, 43, 149, 2, 150, 151, 152, 153, 32, 154, 54, 692, 693, 694, 40, 695, 140, 594, 384, 385, 386, 69, 301, 476, 401, 402, 403, 404, 405, 406, 407, 412, 413, 414, 415, 66, 416, 417, 418, 419, 293, 294, 295, 296, 297, 298, 299, 300, 302, 303, 304, 305, 306, 307, 308, 696, 697, 698, 699, 375, 376, 377, 378, 379, 380, 381, 382, 383, 387, 388, 389, 390, 68, 391, 392, 393, 394, 395, 50, 51, 52, 396, 397, 398, 399, 400, 408, 409, 410, 411, 645, 490, 700, 701, 702, 703, 974, 975, 976, 977, 1002, 1003, 1004, 1005, 1006, 1007, 1008, 999, 1000, 1001, 991, 992, 993, 994, 995, 996, 997, 998, 1010, 1011, 1012, 1013, 1014, 1015, 1016, 1017, 1018, 1019, 1020, 1021, 1009] (by decide +kernel) (by decide +kernel)
set_option maxRecDepth 20000 in
theorem gL_law_X6_count : GoodIn wsL_law (wsV RL 77 RX6 yX6_count wsX6_count) := goodIn_app (goodIn_of _ (by decide +kernel)) ggL_law_X6_count
set_option maxRecDepth 20000 in
theorem ggL_law_X7_count : GoodIn wsL_law wsX7_count := goodIn_r _ [707, 93, 708, 178, 165, 166, 5, 167, 339, 340, 341, 342, 343, 344, 345, 346, 444, 445, 446, 447, 335, 336, 337, 338, 347, 348, 349, 709, 710, 711, 712, 432, 433, 434, 435, 436, 437, 438, 439, 440, 441, 442, 443, 978, 979, 980, 981, 982, 983, 984, 985, 986, 987, 988, 989, 990] (by decide +kernel) (by decide +kernel)
set_option maxRecDepth 20000 in
theorem gL_law_X7_count : GoodIn wsL_law (wsV RL 80 RX7 yX7_count wsX7_count) := goodIn_app (goodIn_of _ (by decide +kernel)) ggL_law_X7_count
set_option maxRecDepth 20000 in
theorem ggL_law_X6_why : GoodIn wsL_law wsX6_why := goodIn_r _ [716, 16, 717, 376, 377, 15, 378, 41, 33, 379, 380, 381, 40, 382, 140, 383, 384, 385, 386, 69, 301, 152, 153, 32, 154, 54, 387, 388, 389, 390, 68, 391, 392, 393, 394, 395, 50, 51, 52, 151, 396, 397, 398, 399, 400, 401, 402, 403, 404, 405, 406, 407, 408, 409, 410, 411, 412, 413, 414, 415, 66, 416, 417, 418, 419, 974, 975, 976, 977, 991, 992, 993, 994, 995, 996, 997, 998, 1013, 1014, 1015, 1016, 1017, 1018, 1019, 1020, 1021, 1009] (by decide +kernel) (by decide +kernel)
set_option maxRecDepth 20000 in
theorem gL_law_X6_why : GoodIn wsL_law (wsV RL 81 RX6 yX6_why wsX6_why) := goodIn_app (goodIn_of _ (by decide +kernel)) ggL_law_X6_why
set_option maxRecDepth 20000 in
theorem ggL_law_X7_why : GoodIn wsL_law wsX7_why := goodIn_r _ [721, 428, 429, 430, 5, 431, 93, 165, 166, 167, 432, 433, 434, 435, 343, 344, 345, 346, 436, 437, 438, 439, 440, 441, 442, 443, 444, 445, 446, 447, 978, 979, 980, 981, 982, 983, 984, 985, 986, 987, 988, 989, 990] (by decide +kernel) (by decide +kernel)
set_option maxRecDepth 20000 in
theorem gL_law_X7_why : GoodIn wsL_law (wsV RL 84 RX7 yX7_why wsX7_why) := goodIn_app (goodIn_of _ (by decide +kernel)) ggL_law_X7_why
set_option maxRecDepth 20000 in
theorem ggL_law_X6_dryIn : GoodIn wsL_law wsX6_dryIn := goodIn_r _ [725, 16, 726, 727, 728, 15, 729, 41, 379, 380, 381, 40, 382, 140, 387, 388, 389, 390, 68, 301, 152, 153, 32, 154, 54, 460, 417, 418, 419, 69, 391, 392, 393, 394, 33, 395, 50, 51, 52, 151, 730, 596, 597, 598, 974, 975, 976, 977, 991, 992, 993, 994, 995, 996, 997, 998, 1013, 1014, 1015, 1016, 1017, 1018, 1019, 1020, 1021, 1009] (by decide +kernel) (by decide +kernel)
set_option maxRecDepth 20000 in
theorem gL_law_X6_dryIn : GoodIn wsL_law (wsV RL 85 RX6 yX6_dryIn wsX6_dryIn) := goodIn_app (goodIn_of _ (by decide +kernel)) ggL_law_X6_dryIn
set_option maxRecDepth 20000 in
theorem ggL_law_X7_dryIn : GoodIn wsL_law wsX7_dryIn := goodIn_r _ [734, 428, 429, 430, 5, 431, 93, 165, 166, 167, 343, 344, 345, 346, 436, 437, 438, 439, 978, 979, 980, 981, 982, 983, 984, 985, 986, 987, 988, 989, 990] (by decide +kernel) (by decide +kernel)
set_option maxRecDepth 20000 in
theorem gL_law_X7_dryIn : GoodIn wsL_law (wsV RL 88 RX7 yX7_dryIn wsX7_dryIn) := goodIn_app (goodIn_of _ (by decide +kernel)) ggL_law_X7_dryIn
set_option maxRecDepth 20000 in
theorem ggL_law_X6_ifFired : GoodIn wsL_law wsX6_ifFired := goodIn_r _ [738, 16, 739, 740, 741, 15, 742, 474, 2, 475, 213, 149, 150, 477, 478, 479, 480, 41, 33, 460, 417, 418, 40, 419, 69, 301, 152, 153, 32, 154, 54, 151, 481, 482, 483, 484, 67, 485, 388, 389, 390, 68, 486, 487, 488, 489, 71, 974, 975, 976, 977, 991, 992, 993, 994, 995, 996, 997, 998, 1013, 1014, 1015, 1016, 1017, 1018, 1019, 1020, 1021, 1009] (by decide +kernel) (by decide +kernel)
set_option maxRecDepth 20000 in
theorem gL_law_X6_ifFired : GoodIn wsL_law (wsV RL 89 RX6 yX6_ifFired wsX6_ifFired) := goodIn_app (goodIn_of _ (by decide +kernel)) ggL_law_X6_ifFired
set_option maxRecDepth 20000 in
theorem ggL_law_X7_ifFired : GoodIn wsL_law wsX7_ifFired := goodIn_r _ [746, 165, 166, 5, 167, 509, 510, 511, 512, 93, 343, 344, 345, 346, 513, 514, 515, 516, 517, 518, 519, 339, 340, 341, 342, 978, 979, 980, 981, 982, 983, 984, 985, 986, 987, 988, 989, 990] (by decide +kernel) (by decide +kernel)
set_option maxRecDepth 20000 in
theorem gL_law_X7_ifFired : GoodIn wsL_law (wsV RL 92 RX7 yX7_ifFired wsX7_ifFired) := goodIn_app (goodIn_of _ (by decide +kernel)) ggL_law_X7_ifFired
set_option maxRecDepth 20000 in
theorem ggL_law_X6_bestHeat : GoodIn wsL_law wsX6_bestHeat := goodIn_r _ [750, 16, 751, 752, 753, 15, 754, 41, 476, 401, 402, 40, 403, 69, 140, 404, 405, 406, 32, 407, 54, 755, 756, 757, 758, 33, 460, 417, 418, 419, 301, 152, 153, 154, 151, 481, 482, 483, 484, 67, 485, 388, 389, 390, 68, 486, 487, 488, 489, 71, 974, 975, 976, 977, 991, 992, 993, 994, 995, 996, 997, 998, 1013, 1014, 1015, 1016, 1017, 1018, 1019, 1020, 1021, 1009] (by decide +kernel) (by decide +kernel)
set_option maxRecDepth 20000 in
theorem gL_law_X6_bestHeat : GoodIn wsL_law (wsV RL 93 RX6 yX6_bestHeat wsX6_bestHeat) := goodIn_app (goodIn_of _ (by decide +kernel)) ggL_law_X6_bestHeat
set_option maxRecDepth 20000 in
theorem ggL_law_X7_bestHeat : GoodIn wsL_law wsX7_bestHeat := goodIn_r _ [762, 339, 340, 341, 5, 342, 93, 343, 344, 345, 346, 763, 764, 765, 766, 513, 514, 515, 516, 517, 518, 519, 509, 510, 511, 512, 347, 348, 349, 978, 979, 980, 981, 982, 983, 984, 985, 986, 987, 988, 989, 990] (by decide +kernel) (by decide +kernel)
set_option maxRecDepth 20000 in
theorem gL_law_X7_bestHeat : GoodIn wsL_law (wsV RL 96 RX7 yX7_bestHeat wsX7_bestHeat) := goodIn_app (goodIn_of _ (by decide +kernel)) ggL_law_X7_bestHeat
set_option maxRecDepth 20000 in
theorem ggL_law_X6_firstFree : GoodIn wsL_law wsX6_firstFree := goodIn_r _ [770, 16, 771, 772, 773, 15, 774, 37, 207, 208, 209, 210, 116, 775, 776, 777, 36, 778, 229, 217, 218, 219, 59, 220, 221, 222, 223, 133, 224, 152, 153, 32, 154, 54, 225, 226, 227, 228, 974, 975, 976, 977, 991, 992, 993, 994, 995, 996, 997, 998, 1010, 1011, 1012, 1009] (by decide +kernel) (by decide +kernel)
set_option maxRecDepth 20000 in
theorem gL_law_X6_firstFree : GoodIn wsL_law (wsV RL 97 RX6 yX6_firstFree wsX6_firstFree) := goodIn_app (goodIn_of _ (by decide +kernel)) ggL_law_X6_firstFree
set_option maxRecDepth 20000 in
theorem ggL_law_X7_firstFree : GoodIn wsL_law wsX7_firstFree := goodIn_r _ [782, 93, 243, 244, 245, 5, 246, 165, 166, 167, 253, 254, 255, 256, 257, 258, 259, 260, 978, 979, 980, 981, 982, 983, 984, 985, 986, 987, 988, 989, 990] (by decide +kernel) (by decide +kernel)
set_option maxRecDepth 20000 in
theorem gL_law_X7_firstFree : GoodIn wsL_law (wsV RL 100 RX7 yX7_firstFree wsX7_firstFree) := goodIn_app (goodIn_of _ (by decide +kernel)) ggL_law_X7_firstFree
set_option maxRecDepth 20000 in
theorem ggL_law_X6_put : GoodIn wsL_law wsX6_put := goodIn_r _ [786, 25, 787, 788, 789, 24, 790, 683, 88, 791, 792, 793, 794, 795, 796, 797, 149, 2, 150, 974, 975, 976, 977, 1002, 1003, 1004, 1005, 1006, 1007, 1008] (by decide +kernel) (by decide +kernel)
set_option maxRecDepth 20000 in
theorem gL_law_X6_put : GoodIn wsL_law (wsV RL 103 RX6 yX6_put wsX6_put) := goodIn_app (goodIn_of _ (by decide +kernel)) ggL_law_X6_put
set_option maxRecDepth 20000 in
theorem ggL_law_X7_put_ : GoodIn wsL_law wsX7_put_ := goodIn_r _ [801, 802, 708, 98, 165, 166, 5, 167, 978, 979, 980, 981, 982, 983, 984, 985, 986, 987, 988, 989, 990] (by decide +kernel) (by decide +kernel)
set_option maxRecDepth 20000 in
theorem gL_law_X7_put_ : GoodIn wsL_law (wsV RL 107 RX7 yX7_put_ wsX7_put_) := goodIn_app (goodIn_of _ (by decide +kernel)) ggL_law_X7_put_
set_option maxRecDepth 20000 in
theorem ggL_law_X6_wipe : GoodIn wsL_law wsX6_wipe := goodIn_r _ [806, 25, 807, 808, 809, 24, 810, 683, 974, 975, 976, 977, 1002, 1003, 1004, 1005, 1006, 1007, 1008] (by decide +kernel) (by decide +kernel)
set_option maxRecDepth 20000 in
theorem gL_law_X6_wipe : GoodIn wsL_law (wsV RL 108 RX6 yX6_wipe wsX6_wipe) := goodIn_app (goodIn_of _ (by decide +kernel)) ggL_law_X6_wipe
set_option maxRecDepth 20000 in
theorem ggL_law_X7_wipe : GoodIn wsL_law wsX7_wipe := goodIn_r _ [814, 708, 978, 979, 980, 981, 982, 983, 984, 985, 986, 987, 988, 989, 990] (by decide +kernel) (by decide +kernel)
set_option maxRecDepth 20000 in
theorem gL_law_X7_wipe : GoodIn wsL_law (wsV RL 111 RX7 yX7_wipe wsX7_wipe) := goodIn_app (goodIn_of _ (by decide +kernel)) ggL_law_X7_wipe
set_option maxRecDepth 20000 in
theorem ggL_law_X6_fault : GoodIn wsL_law wsX6_fault := goodIn_r _ [818, 25, 819, 820, 821, 24, 822, 823, 683, 824, 825, 826, 827, 828, 829, 830, 831, 832, 833, 834, 835, 836, 837, 838, 839, 88, 840, 841, 842, 843, 844, 845, 846, 847, 848, 849, 850, 851, 149, 2, 150, 852, 853, 854, 855, 856, 857, 858, 859, 860, 861, 862, 863, 864, 865, 866, 867, 974, 975, 976, 977, 1002, 1003, 1004, 1005, 1006, 1007, 1008] (by decide +kernel) (by decide +kernel)
set_option maxRecDepth 20000 in
theorem gL_law_X6_fault : GoodIn wsL_law (wsV RL 112 RX6 yX6_fault wsX6_fault) := goodIn_app (goodIn_of _ (by decide +kernel)) ggL_law_X6_fault
set_option maxRecDepth 20000 in
theorem ggL_law_X7_fault : GoodIn wsL_law wsX7_fault := goodIn_r _ [871, 872, 873, 874, 5, 875, 876, 877, 708, 878, 879, 880, 881, 882, 883, 884, 885, 886, 887, 888, 889, 98, 890, 891, 892, 893, 894, 895, 896, 897, 165, 166, 167, 898, 899, 900, 901, 978, 979, 980, 981, 982, 983, 984, 985, 986, 987, 988, 989, 990] (by decide +kernel) (by decide +kernel)
set_option maxRecDepth 20000 in
theorem gL_law_X7_fault : GoodIn wsL_law (wsV RL 115 RX7 yX7_fault wsX7_fault) := goodIn_app (goodIn_of _ (by decide +kernel)) ggL_law_X7_fault
set_option maxRecDepth 20000 in
theorem ggL_law_X6_carryOut : GoodIn wsL_law wsX6_carryOut := goodIn_r _ [905, 25, 20, 16, 819, 820, 821, 24, 822, 823, 683, 824, 825, 826, 827, 828, 829, 830, 831, 832, 833, 834, 835, 836, 837, 838, 839, 88, 840, 841, 842, 843, 844, 845, 846, 847, 848, 849, 850, 851, 149, 2, 150, 852, 853, 854, 855, 856, 857, 858, 859, 860, 861, 862, 863, 864, 865, 866, 867, 103, 104, 105, 19, 106, 107, 108, 109, 110, 111, 83, 112, 113, 114, 15, 115, 33, 37, 41, 42, 43, 116, 44, 117, 118, 119, 120, 32, 121, 54, 122, 123, 51, 124, 125, 126, 127, 128, 129, 130, 131, 36, 132, 59, 133, 134, 135, 136, 137, 138, 40, 139, 65, 66, 67, 68, 69, 70, 71, 72, 140, 141, 906, 907, 908, 909, 910, 911, 912, 913, 914, 915, 183, 184, 185, 186, 916, 917, 918, 919, 920, 921, 922, 923, 924, 925, 926, 927, 203, 204, 205, 206, 207, 208, 209, 210, 211, 212, 213, 214, 215, 216, 217, 218, 219, 220, 221, 222, 223, 224, 152, 153, 154, 225, 226, 227, 228, 229, 230, 231, 232, 233, 234, 75, 76, 77, 289, 290, 291, 292, 273, 274, 275, 276, 293, 294, 295, 296, 297, 298, 299, 300, 301, 302, 303, 304, 305, 306, 307, 308, 309, 310, 311, 312, 313, 314, 315, 316, 317, 318, 319, 320, 321, 322, 323, 324, 325, 326, 371, 372, 373, 374, 375, 376, 377, 378, 379, 380, 381, 382, 383, 384, 385, 386, 387, 388, 389, 390, 391, 392, 393, 394, 395, 50, 52, 151, 396, 397, 398, 399, 400, 401, 402, 403, 404, 405, 406, 407, 408, 409, 410, 411, 412, 413, 414, 415, 416, 417, 418, 419, 74, 470, 471, 472, 473, 474, 475, 476, 477, 478, 479, 480, 460, 481, 482, 483, 484, 485, 486, 487, 488, 489, 490, 491, 492, 493, 494, 495, 496, 497, 498, 499, 500, 461, 528, 529, 530, 531, 532, 533, 586, 587, 588, 589, 590, 591, 592, 593, 594, 595, 596, 597, 598, 599, 600, 601, 602, 603, 604, 278, 279, 280, 566, 567, 568, 569, 928, 807, 808, 809, 810, 155, 156, 157, 158, 159, 160, 974, 975, 976, 977, 1002, 1003, 1004, 1005, 1006, 1007, 1008, 999, 1000, 1001, 991, 992, 993, 994, 995, 996, 997, 998, 1009, 1010, 1011, 1012, 1013, 1014, 1015, 1016, 1017, 1018, 1019, 1020, 1021] (by decide +kernel) (by decide +kernel)
set_option maxRecDepth 20000 in
theorem gL_law_X6_carryOut : GoodIn wsL_law (wsV RL 116 RX6 yX6_carryOut wsX6_carryOut) := goodIn_app (goodIn_of _ (by decide +kernel)) ggL_law_X6_carryOut
set_option maxRecDepth 20000 in
theorem ggL_law_X7_carryOut : GoodIn wsL_law wsX7_carryOut := goodIn_r _ [932, 876, 708, 872, 873, 874, 5, 875, 877, 878, 879, 880, 881, 882, 883, 884, 885, 886, 887, 888, 889, 98, 890, 891, 892, 893, 894, 895, 896, 897, 165, 166, 167, 898, 899, 900, 901, 174, 175, 176, 177, 178, 94, 93, 933, 934, 935, 936, 191, 192, 193, 194, 239, 240, 241, 242, 243, 244, 245, 246, 247, 248, 249, 250, 251, 252, 253, 254, 255, 256, 257, 258, 259, 260, 331, 332, 333, 334, 335, 336, 337, 338, 339, 340, 341, 342, 343, 344, 345, 346, 347, 348, 349, 424, 425, 426, 427, 428, 429, 430, 431, 432, 433, 434, 435, 436, 437, 438, 439, 440, 441, 442, 443, 444, 445, 446, 447, 505, 506, 507, 508, 509, 510, 511, 512, 513, 514, 515, 516, 517, 518, 519, 538, 539, 540, 541, 542, 543, 544, 609, 610, 611, 612, 574, 575, 576, 577, 937, 938, 939, 940, 195, 196, 197, 198, 261, 262, 263, 264, 350, 351, 352, 353, 354, 355, 356, 357, 358, 359, 360, 361, 362, 363, 364, 365, 366, 448, 449, 450, 451, 520, 521, 522, 523, 545, 546, 547, 548, 613, 614, 615, 616, 617, 618, 619, 620, 578, 579, 580, 581, 978, 979, 980, 981, 982, 983, 984, 985, 986, 987, 988, 989, 990] (by decide +kernel) (by decide +kernel)
set_option maxRecDepth 20000 in
theorem gL_law_X7_carryOut : GoodIn wsL_law (wsV RL 119 RX7 yX7_carryOut wsX7_carryOut) := goodIn_app (goodIn_of _ (by decide +kernel)) ggL_law_X7_carryOut
set_option maxRecDepth 20000 in
theorem ggL_law_X6_undo : GoodIn wsL_law wsX6_undo := goodIn_r _ [944, 20, 16, 945, 946, 947, 19, 948, 159, 107, 108, 109, 110, 111, 83, 112, 113, 114, 15, 115, 33, 37, 41, 42, 43, 116, 44, 117, 118, 119, 120, 32, 121, 54, 122, 123, 51, 124, 125, 126, 127, 128, 129, 130, 131, 36, 132, 59, 133, 134, 135, 136, 137, 138, 40, 139, 65, 66, 67, 68, 69, 70, 71, 72, 140, 141, 974, 975, 976, 977, 999, 1000, 1001, 991, 992, 993, 994, 995, 996, 997, 998, 1009, 1010, 1011, 1012, 1013, 1014, 1015, 1016, 1017, 1018, 1019, 1020, 1021] (by decide +kernel) (by decide +kernel)
set_option maxRecDepth 20000 in
theorem gL_law_X6_undo : GoodIn wsL_law (wsV RL 120 RX6 yX6_undo wsX6_undo) := goodIn_app (goodIn_of _ (by decide +kernel)) ggL_law_X6_undo
set_option maxRecDepth 20000 in
theorem ggL_law_X7_undo : GoodIn wsL_law wsX7_undo := goodIn_r _ [952, 178, 93, 94, 978, 979, 980, 981, 982, 983, 984, 985, 986, 987, 988, 989, 990] (by decide +kernel) (by decide +kernel)
set_option maxRecDepth 20000 in
theorem gL_law_X7_undo : GoodIn wsL_law (wsV RL 123 RX7 yX7_undo wsX7_undo) := goodIn_app (goodIn_of _ (by decide +kernel)) ggL_law_X7_undo
set_option maxRecDepth 20000 in
theorem ggL_law_X6_save : GoodIn wsL_law wsX6_save := goodIn_r _ [956, 21, 13, 14, 15, 16, 26, 27, 28, 29, 11, 12, 30, 31, 32, 33, 34, 35, 36, 37, 38, 39, 40, 41, 42, 43, 44, 45, 46, 47, 48, 49, 50, 51, 52, 53, 54, 55, 56, 57, 58, 59, 60, 61, 62, 63, 64, 65, 66, 67, 68, 69, 70, 71, 72, 73, 74, 75, 76, 77, 957, 113, 114, 115, 116, 117, 118, 119, 120, 121, 122, 123, 124, 125, 126, 127, 128, 129, 130, 131, 132, 133, 134, 135, 136, 137, 138, 139, 140, 141, 958, 959, 960, 961, 974, 975, 976, 977, 991, 992, 993, 994, 995, 996, 997, 998, 1009, 1010, 1011, 1012, 1013, 1014, 1015, 1016, 1017, 1018, 1019, 1020, 1021] (by decide +kernel) (by decide +kernel)
set_option maxRecDepth 20000 in
theorem gL_law_X6_save : GoodIn wsL_law (wsV RL 124 RX6 yX6_save wsX6_save) := goodIn_app (goodIn_of _ (by decide +kernel)) ggL_law_X6_save
set_option maxRecDepth 20000 in
theorem ggL_law_X7_save : GoodIn wsL_law wsX7_save := goodIn_r _ [965, 95, 93, 97, 165, 166, 5, 167, 978, 979, 980, 981, 982, 983, 984, 985, 986, 987, 988, 989, 990] (by decide +kernel) (by decide +kernel)
set_option maxRecDepth 20000 in
theorem gL_law_X7_save : GoodIn wsL_law (wsV RL 127 RX7 yX7_save wsX7_save) := goodIn_app (goodIn_of _ (by decide +kernel)) ggL_law_X7_save
set_option maxRecDepth 20000 in
theorem ggL_law_X6_restore : GoodIn wsL_law wsX6_restore := goodIn_r _ [969, 21, 20, 16, 103, 104, 105, 19, 106, 107, 108, 109, 110, 111, 83, 112, 113, 114, 15, 115, 33, 37, 41, 42, 43, 116, 44, 117, 118, 119, 120, 32, 121, 54, 122, 123, 51, 124, 125, 126, 127, 128, 129, 130, 131, 36, 132, 59, 133, 134, 135, 136, 137, 138, 40, 139, 65, 66, 67, 68, 69, 70, 71, 72, 140, 141, 957, 958, 959, 960, 961, 155, 156, 157, 158, 159, 160, 974, 975, 976, 977, 999, 1000, 1001, 991, 992, 993, 994, 995, 996, 997, 998, 1009, 1010, 1011, 1012, 1013, 1014, 1015, 1016, 1017, 1018, 1019, 1020, 1021] (by decide +kernel) (by decide +kernel)
set_option maxRecDepth 20000 in
theorem gL_law_X6_restore : GoodIn wsL_law (wsV RL 128 RX6 yX6_restore wsX6_restore) := goodIn_app (goodIn_of _ (by decide +kernel)) ggL_law_X6_restore
set_option maxRecDepth 20000 in
theorem ggL_law_X7_restore : GoodIn wsL_law wsX7_restore := goodIn_r _ [973, 97, 93, 95, 165, 166, 5, 167, 174, 175, 176, 177, 178, 94, 978, 979, 980, 981, 982, 983, 984, 985, 986, 987, 988, 989, 990] (by decide +kernel) (by decide +kernel)
set_option maxRecDepth 20000 in
theorem gL_law_X7_restore : GoodIn wsL_law (wsV RL 131 RX7 yX7_restore wsX7_restore) := goodIn_app (goodIn_of _ (by decide +kernel)) ggL_law_X7_restore
theorem dL_law_0 : decode cL_law 0 = .ok (.new 7, 3) := by decide +kernel
theorem dL_law_3 : decode cL_law 3 = .ok (.dup, 1) := by decide +kernel
theorem dL_law_4 : decode cL_law 4 = .ok (.invokespecial 9, 3) := by decide +kernel
theorem dL_law_7 : decode cL_law 7 = .ok (.astore_n 1, 1) := by decide +kernel
theorem dL_law_8 : decode cL_law 8 = .ok (.new 10, 3) := by decide +kernel
theorem dL_law_11 : decode cL_law 11 = .ok (.dup, 1) := by decide +kernel
theorem dL_law_12 : decode cL_law 12 = .ok (.invokespecial 12, 3) := by decide +kernel
theorem dL_law_15 : decode cL_law 15 = .ok (.astore_n 2, 1) := by decide +kernel
theorem dL_law_16 : decode cL_law 16 = .ok (.iconst 0, 1) := by decide +kernel
theorem dL_law_17 : decode cL_law 17 = .ok (.istore_n 3, 1) := by decide +kernel
theorem dL_law_18 : decode cL_law 18 = .ok (.iload_n 3, 1) := by decide +kernel
theorem dL_law_19 : decode cL_law 19 = .ok (.aload_n 0, 1) := by decide +kernel
theorem dL_law_20 : decode cL_law 20 = .ok (.arraylength, 1) := by decide +kernel
theorem dL_law_21 : decode cL_law 21 = .ok (.iconst 4, 1) := by decide +kernel
theorem dL_law_22 : decode cL_law 22 = .ok (.isub, 1) := by decide +kernel
theorem dL_law_23 : decode cL_law 23 = .ok (.if_icmp .gt 877, 3) := by decide +kernel
theorem dL_law_26 : decode cL_law 26 = .ok (.aload_n 0, 1) := by decide +kernel
theorem dL_law_27 : decode cL_law 27 = .ok (.iload_n 3, 1) := by decide +kernel
theorem dL_law_28 : decode cL_law 28 = .ok (.iaload, 1) := by decide +kernel
theorem dL_law_29 : decode cL_law 29 = .ok (.bipush 31, 2) := by decide +kernel
theorem dL_law_31 : decode cL_law 31 = .ok (.iand, 1) := by decide +kernel
theorem dL_law_32 : decode cL_law 32 = .ok (.tableswitch 862 0 27 #[128, 161, 174, 217, 250, 283, 306, 329, 352, 385, 418, 441, 464, 497, 530, 563, 586, 609, 632, 665, 678, 711, 764, 777, 790, 803, 816, 839], 128) := by decide +kernel
theorem dL_law_160 : decode cL_law 160 = .ok (.aload_n 1, 1) := by decide +kernel
theorem dL_law_161 : decode cL_law 161 = .ok (.aload_n 0, 1) := by decide +kernel
theorem dL_law_162 : decode cL_law 162 = .ok (.iload_n 3, 1) := by decide +kernel
theorem dL_law_163 : decode cL_law 163 = .ok (.iconst 1, 1) := by decide +kernel
theorem dL_law_164 : decode cL_law 164 = .ok (.iadd, 1) := by decide +kernel
theorem dL_law_165 : decode cL_law 165 = .ok (.iaload, 1) := by decide +kernel
theorem dL_law_166 : decode cL_law 166 = .ok (.aload_n 0, 1) := by decide +kernel
theorem dL_law_167 : decode cL_law 167 = .ok (.iload_n 3, 1) := by decide +kernel
theorem dL_law_168 : decode cL_law 168 = .ok (.iconst 2, 1) := by decide +kernel
theorem dL_law_169 : decode cL_law 169 = .ok (.iadd, 1) := by decide +kernel
theorem dL_law_170 : decode cL_law 170 = .ok (.iaload, 1) := by decide +kernel
theorem dL_law_171 : decode cL_law 171 = .ok (.invokevirtual 13, 3) := by decide +kernel
theorem dL_law_174 : decode cL_law 174 = .ok (.aload_n 2, 1) := by decide +kernel
theorem dL_law_175 : decode cL_law 175 = .ok (.aload_n 0, 1) := by decide +kernel
theorem dL_law_176 : decode cL_law 176 = .ok (.iload_n 3, 1) := by decide +kernel
theorem dL_law_177 : decode cL_law 177 = .ok (.iconst 1, 1) := by decide +kernel
theorem dL_law_178 : decode cL_law 178 = .ok (.iadd, 1) := by decide +kernel
theorem dL_law_179 : decode cL_law 179 = .ok (.iaload, 1) := by decide +kernel
theorem dL_law_180 : decode cL_law 180 = .ok (.aload_n 0, 1) := by decide +kernel
theorem dL_law_181 : decode cL_law 181 = .ok (.iload_n 3, 1) := by decide +kernel
theorem dL_law_182 : decode cL_law 182 = .ok (.iconst 2, 1) := by decide +kernel
theorem dL_law_183 : decode cL_law 183 = .ok (.iadd, 1) := by decide +kernel
theorem dL_law_184 : decode cL_law 184 = .ok (.iaload, 1) := by decide +kernel
theorem dL_law_185 : decode cL_law 185 = .ok (.invokevirtual 17, 3) := by decide +kernel
theorem dL_law_188 : decode cL_law 188 = .ok (.if_icmp .eq 706, 3) := by decide +kernel
theorem dL_law_191 : decode cL_law 191 = .ok (.iconst 0, 1) := by decide +kernel
theorem dL_law_192 : decode cL_law 192 = .ok (.ireturn, 1) := by decide +kernel
theorem dL_law_193 : decode cL_law 193 = .ok (.aload_n 1, 1) := by decide +kernel
theorem dL_law_194 : decode cL_law 194 = .ok (.invokevirtual 18, 3) := by decide +kernel
theorem dL_law_197 : decode cL_law 197 = .ok (.aload_n 2, 1) := by decide +kernel
theorem dL_law_198 : decode cL_law 198 = .ok (.invokevirtual 22, 3) := by decide +kernel
theorem dL_law_201 : decode cL_law 201 = .ok (.if_icmp .eq 693, 3) := by decide +kernel
theorem dL_law_204 : decode cL_law 204 = .ok (.iconst 0, 1) := by decide +kernel
theorem dL_law_205 : decode cL_law 205 = .ok (.ireturn, 1) := by decide +kernel
theorem dL_law_206 : decode cL_law 206 = .ok (.aload_n 1, 1) := by decide +kernel
theorem dL_law_207 : decode cL_law 207 = .ok (.aload_n 0, 1) := by decide +kernel
theorem dL_law_208 : decode cL_law 208 = .ok (.iload_n 3, 1) := by decide +kernel
theorem dL_law_209 : decode cL_law 209 = .ok (.iconst 1, 1) := by decide +kernel
theorem dL_law_210 : decode cL_law 210 = .ok (.iadd, 1) := by decide +kernel
theorem dL_law_211 : decode cL_law 211 = .ok (.iaload, 1) := by decide +kernel
theorem dL_law_212 : decode cL_law 212 = .ok (.aload_n 0, 1) := by decide +kernel
theorem dL_law_213 : decode cL_law 213 = .ok (.iload_n 3, 1) := by decide +kernel
theorem dL_law_214 : decode cL_law 214 = .ok (.iconst 2, 1) := by decide +kernel
theorem dL_law_215 : decode cL_law 215 = .ok (.iadd, 1) := by decide +kernel
theorem dL_law_216 : decode cL_law 216 = .ok (.iaload, 1) := by decide +kernel
theorem dL_law_217 : decode cL_law 217 = .ok (.aload_n 0, 1) := by decide +kernel
theorem dL_law_218 : decode cL_law 218 = .ok (.iload_n 3, 1) := by decide +kernel
theorem dL_law_219 : decode cL_law 219 = .ok (.iconst 3, 1) := by decide +kernel
theorem dL_law_220 : decode cL_law 220 = .ok (.iadd, 1) := by decide +kernel
theorem dL_law_221 : decode cL_law 221 = .ok (.iaload, 1) := by decide +kernel
theorem dL_law_222 : decode cL_law 222 = .ok (.invokevirtual 23, 3) := by decide +kernel
theorem dL_law_225 : decode cL_law 225 = .ok (.aload_n 2, 1) := by decide +kernel
theorem dL_law_226 : decode cL_law 226 = .ok (.aload_n 0, 1) := by decide +kernel
theorem dL_law_227 : decode cL_law 227 = .ok (.iload_n 3, 1) := by decide +kernel
theorem dL_law_228 : decode cL_law 228 = .ok (.iconst 1, 1) := by decide +kernel
theorem dL_law_229 : decode cL_law 229 = .ok (.iadd, 1) := by decide +kernel
theorem dL_law_230 : decode cL_law 230 = .ok (.iaload, 1) := by decide +kernel
theorem dL_law_231 : decode cL_law 231 = .ok (.aload_n 0, 1) := by decide +kernel
theorem dL_law_232 : decode cL_law 232 = .ok (.iload_n 3, 1) := by decide +kernel
theorem dL_law_233 : decode cL_law 233 = .ok (.iconst 2, 1) := by decide +kernel
theorem dL_law_234 : decode cL_law 234 = .ok (.iadd, 1) := by decide +kernel
theorem dL_law_235 : decode cL_law 235 = .ok (.iaload, 1) := by decide +kernel
theorem dL_law_236 : decode cL_law 236 = .ok (.aload_n 0, 1) := by decide +kernel
theorem dL_law_237 : decode cL_law 237 = .ok (.iload_n 3, 1) := by decide +kernel
theorem dL_law_238 : decode cL_law 238 = .ok (.iconst 3, 1) := by decide +kernel
theorem dL_law_239 : decode cL_law 239 = .ok (.iadd, 1) := by decide +kernel
theorem dL_law_240 : decode cL_law 240 = .ok (.iaload, 1) := by decide +kernel
theorem dL_law_241 : decode cL_law 241 = .ok (.invokevirtual 27, 3) := by decide +kernel
theorem dL_law_244 : decode cL_law 244 = .ok (.if_icmp .eq 650, 3) := by decide +kernel
theorem dL_law_247 : decode cL_law 247 = .ok (.iconst 0, 1) := by decide +kernel
theorem dL_law_248 : decode cL_law 248 = .ok (.ireturn, 1) := by decide +kernel
theorem dL_law_249 : decode cL_law 249 = .ok (.aload_n 1, 1) := by decide +kernel
theorem dL_law_250 : decode cL_law 250 = .ok (.aload_n 0, 1) := by decide +kernel
theorem dL_law_251 : decode cL_law 251 = .ok (.iload_n 3, 1) := by decide +kernel
theorem dL_law_252 : decode cL_law 252 = .ok (.iconst 1, 1) := by decide +kernel
theorem dL_law_253 : decode cL_law 253 = .ok (.iadd, 1) := by decide +kernel
theorem dL_law_254 : decode cL_law 254 = .ok (.iaload, 1) := by decide +kernel
theorem dL_law_255 : decode cL_law 255 = .ok (.aload_n 0, 1) := by decide +kernel
theorem dL_law_256 : decode cL_law 256 = .ok (.iload_n 3, 1) := by decide +kernel
theorem dL_law_257 : decode cL_law 257 = .ok (.iconst 2, 1) := by decide +kernel
theorem dL_law_258 : decode cL_law 258 = .ok (.iadd, 1) := by decide +kernel
theorem dL_law_259 : decode cL_law 259 = .ok (.iaload, 1) := by decide +kernel
theorem dL_law_260 : decode cL_law 260 = .ok (.invokevirtual 28, 3) := by decide +kernel
theorem dL_law_263 : decode cL_law 263 = .ok (.aload_n 2, 1) := by decide +kernel
theorem dL_law_264 : decode cL_law 264 = .ok (.aload_n 0, 1) := by decide +kernel
theorem dL_law_265 : decode cL_law 265 = .ok (.iload_n 3, 1) := by decide +kernel
theorem dL_law_266 : decode cL_law 266 = .ok (.iconst 1, 1) := by decide +kernel
theorem dL_law_267 : decode cL_law 267 = .ok (.iadd, 1) := by decide +kernel
theorem dL_law_268 : decode cL_law 268 = .ok (.iaload, 1) := by decide +kernel
theorem dL_law_269 : decode cL_law 269 = .ok (.aload_n 0, 1) := by decide +kernel
theorem dL_law_270 : decode cL_law 270 = .ok (.iload_n 3, 1) := by decide +kernel
theorem dL_law_271 : decode cL_law 271 = .ok (.iconst 2, 1) := by decide +kernel
theorem dL_law_272 : decode cL_law 272 = .ok (.iadd, 1) := by decide +kernel
theorem dL_law_273 : decode cL_law 273 = .ok (.iaload, 1) := by decide +kernel
theorem dL_law_274 : decode cL_law 274 = .ok (.invokevirtual 31, 3) := by decide +kernel
theorem dL_law_277 : decode cL_law 277 = .ok (.if_icmp .eq 617, 3) := by decide +kernel
theorem dL_law_280 : decode cL_law 280 = .ok (.iconst 0, 1) := by decide +kernel
theorem dL_law_281 : decode cL_law 281 = .ok (.ireturn, 1) := by decide +kernel
theorem dL_law_282 : decode cL_law 282 = .ok (.aload_n 1, 1) := by decide +kernel
theorem dL_law_283 : decode cL_law 283 = .ok (.aload_n 0, 1) := by decide +kernel
theorem dL_law_284 : decode cL_law 284 = .ok (.iload_n 3, 1) := by decide +kernel
theorem dL_law_285 : decode cL_law 285 = .ok (.iconst 1, 1) := by decide +kernel
theorem dL_law_286 : decode cL_law 286 = .ok (.iadd, 1) := by decide +kernel
theorem dL_law_287 : decode cL_law 287 = .ok (.iaload, 1) := by decide +kernel
theorem dL_law_288 : decode cL_law 288 = .ok (.aload_n 0, 1) := by decide +kernel
theorem dL_law_289 : decode cL_law 289 = .ok (.iload_n 3, 1) := by decide +kernel
theorem dL_law_290 : decode cL_law 290 = .ok (.iconst 2, 1) := by decide +kernel
theorem dL_law_291 : decode cL_law 291 = .ok (.iadd, 1) := by decide +kernel
theorem dL_law_292 : decode cL_law 292 = .ok (.iaload, 1) := by decide +kernel
theorem dL_law_293 : decode cL_law 293 = .ok (.invokevirtual 32, 3) := by decide +kernel
theorem dL_law_296 : decode cL_law 296 = .ok (.aload_n 2, 1) := by decide +kernel
theorem dL_law_297 : decode cL_law 297 = .ok (.aload_n 0, 1) := by decide +kernel
theorem dL_law_298 : decode cL_law 298 = .ok (.iload_n 3, 1) := by decide +kernel
theorem dL_law_299 : decode cL_law 299 = .ok (.iconst 1, 1) := by decide +kernel
theorem dL_law_300 : decode cL_law 300 = .ok (.iadd, 1) := by decide +kernel
theorem dL_law_301 : decode cL_law 301 = .ok (.iaload, 1) := by decide +kernel
theorem dL_law_302 : decode cL_law 302 = .ok (.aload_n 0, 1) := by decide +kernel
theorem dL_law_303 : decode cL_law 303 = .ok (.iload_n 3, 1) := by decide +kernel
theorem dL_law_304 : decode cL_law 304 = .ok (.iconst 2, 1) := by decide +kernel
theorem dL_law_305 : decode cL_law 305 = .ok (.iadd, 1) := by decide +kernel
theorem dL_law_306 : decode cL_law 306 = .ok (.iaload, 1) := by decide +kernel
theorem dL_law_307 : decode cL_law 307 = .ok (.invokevirtual 35, 3) := by decide +kernel
theorem dL_law_310 : decode cL_law 310 = .ok (.if_icmp .eq 584, 3) := by decide +kernel
theorem dL_law_313 : decode cL_law 313 = .ok (.iconst 0, 1) := by decide +kernel
theorem dL_law_314 : decode cL_law 314 = .ok (.ireturn, 1) := by decide +kernel
theorem dL_law_315 : decode cL_law 315 = .ok (.aload_n 1, 1) := by decide +kernel
theorem dL_law_316 : decode cL_law 316 = .ok (.aload_n 0, 1) := by decide +kernel
theorem dL_law_317 : decode cL_law 317 = .ok (.iload_n 3, 1) := by decide +kernel
theorem dL_law_318 : decode cL_law 318 = .ok (.iconst 1, 1) := by decide +kernel
theorem dL_law_319 : decode cL_law 319 = .ok (.iadd, 1) := by decide +kernel
theorem dL_law_320 : decode cL_law 320 = .ok (.iaload, 1) := by decide +kernel
theorem dL_law_321 : decode cL_law 321 = .ok (.invokevirtual 36, 3) := by decide +kernel
theorem dL_law_324 : decode cL_law 324 = .ok (.aload_n 2, 1) := by decide +kernel
theorem dL_law_325 : decode cL_law 325 = .ok (.aload_n 0, 1) := by decide +kernel
theorem dL_law_326 : decode cL_law 326 = .ok (.iload_n 3, 1) := by decide +kernel
theorem dL_law_327 : decode cL_law 327 = .ok (.iconst 1, 1) := by decide +kernel
theorem dL_law_328 : decode cL_law 328 = .ok (.iadd, 1) := by decide +kernel
theorem dL_law_329 : decode cL_law 329 = .ok (.iaload, 1) := by decide +kernel
theorem dL_law_330 : decode cL_law 330 = .ok (.invokevirtual 40, 3) := by decide +kernel
theorem dL_law_333 : decode cL_law 333 = .ok (.if_icmp .eq 561, 3) := by decide +kernel
theorem dL_law_336 : decode cL_law 336 = .ok (.iconst 0, 1) := by decide +kernel
theorem dL_law_337 : decode cL_law 337 = .ok (.ireturn, 1) := by decide +kernel
theorem dL_law_338 : decode cL_law 338 = .ok (.aload_n 1, 1) := by decide +kernel
theorem dL_law_339 : decode cL_law 339 = .ok (.aload_n 0, 1) := by decide +kernel
theorem dL_law_340 : decode cL_law 340 = .ok (.iload_n 3, 1) := by decide +kernel
theorem dL_law_341 : decode cL_law 341 = .ok (.iconst 1, 1) := by decide +kernel
theorem dL_law_342 : decode cL_law 342 = .ok (.iadd, 1) := by decide +kernel
theorem dL_law_343 : decode cL_law 343 = .ok (.iaload, 1) := by decide +kernel
theorem dL_law_344 : decode cL_law 344 = .ok (.invokevirtual 41, 3) := by decide +kernel
theorem dL_law_347 : decode cL_law 347 = .ok (.aload_n 2, 1) := by decide +kernel
theorem dL_law_348 : decode cL_law 348 = .ok (.aload_n 0, 1) := by decide +kernel
theorem dL_law_349 : decode cL_law 349 = .ok (.iload_n 3, 1) := by decide +kernel
theorem dL_law_350 : decode cL_law 350 = .ok (.iconst 1, 1) := by decide +kernel
theorem dL_law_351 : decode cL_law 351 = .ok (.iadd, 1) := by decide +kernel
theorem dL_law_352 : decode cL_law 352 = .ok (.iaload, 1) := by decide +kernel
theorem dL_law_353 : decode cL_law 353 = .ok (.invokevirtual 44, 3) := by decide +kernel
theorem dL_law_356 : decode cL_law 356 = .ok (.if_icmp .eq 538, 3) := by decide +kernel
theorem dL_law_359 : decode cL_law 359 = .ok (.iconst 0, 1) := by decide +kernel
theorem dL_law_360 : decode cL_law 360 = .ok (.ireturn, 1) := by decide +kernel
theorem dL_law_361 : decode cL_law 361 = .ok (.aload_n 1, 1) := by decide +kernel
theorem dL_law_362 : decode cL_law 362 = .ok (.aload_n 0, 1) := by decide +kernel
theorem dL_law_363 : decode cL_law 363 = .ok (.iload_n 3, 1) := by decide +kernel
theorem dL_law_364 : decode cL_law 364 = .ok (.iconst 1, 1) := by decide +kernel
theorem dL_law_365 : decode cL_law 365 = .ok (.iadd, 1) := by decide +kernel
theorem dL_law_366 : decode cL_law 366 = .ok (.iaload, 1) := by decide +kernel
theorem dL_law_367 : decode cL_law 367 = .ok (.invokevirtual 45, 3) := by decide +kernel
theorem dL_law_370 : decode cL_law 370 = .ok (.aload_n 2, 1) := by decide +kernel
theorem dL_law_371 : decode cL_law 371 = .ok (.aload_n 0, 1) := by decide +kernel
theorem dL_law_372 : decode cL_law 372 = .ok (.iload_n 3, 1) := by decide +kernel
theorem dL_law_373 : decode cL_law 373 = .ok (.iconst 1, 1) := by decide +kernel
theorem dL_law_374 : decode cL_law 374 = .ok (.iadd, 1) := by decide +kernel
theorem dL_law_375 : decode cL_law 375 = .ok (.iaload, 1) := by decide +kernel
theorem dL_law_376 : decode cL_law 376 = .ok (.invokevirtual 48, 3) := by decide +kernel
theorem dL_law_379 : decode cL_law 379 = .ok (.if_icmp .eq 515, 3) := by decide +kernel
theorem dL_law_382 : decode cL_law 382 = .ok (.iconst 0, 1) := by decide +kernel
theorem dL_law_383 : decode cL_law 383 = .ok (.ireturn, 1) := by decide +kernel
theorem dL_law_384 : decode cL_law 384 = .ok (.aload_n 1, 1) := by decide +kernel
theorem dL_law_385 : decode cL_law 385 = .ok (.aload_n 0, 1) := by decide +kernel
theorem dL_law_386 : decode cL_law 386 = .ok (.iload_n 3, 1) := by decide +kernel
theorem dL_law_387 : decode cL_law 387 = .ok (.iconst 1, 1) := by decide +kernel
theorem dL_law_388 : decode cL_law 388 = .ok (.iadd, 1) := by decide +kernel
theorem dL_law_389 : decode cL_law 389 = .ok (.iaload, 1) := by decide +kernel
theorem dL_law_390 : decode cL_law 390 = .ok (.aload_n 0, 1) := by decide +kernel
theorem dL_law_391 : decode cL_law 391 = .ok (.iload_n 3, 1) := by decide +kernel
theorem dL_law_392 : decode cL_law 392 = .ok (.iconst 2, 1) := by decide +kernel
theorem dL_law_393 : decode cL_law 393 = .ok (.iadd, 1) := by decide +kernel
theorem dL_law_394 : decode cL_law 394 = .ok (.iaload, 1) := by decide +kernel
theorem dL_law_395 : decode cL_law 395 = .ok (.invokevirtual 49, 3) := by decide +kernel
theorem dL_law_398 : decode cL_law 398 = .ok (.aload_n 2, 1) := by decide +kernel
theorem dL_law_399 : decode cL_law 399 = .ok (.aload_n 0, 1) := by decide +kernel
theorem dL_law_400 : decode cL_law 400 = .ok (.iload_n 3, 1) := by decide +kernel
theorem dL_law_401 : decode cL_law 401 = .ok (.iconst 1, 1) := by decide +kernel
theorem dL_law_402 : decode cL_law 402 = .ok (.iadd, 1) := by decide +kernel
theorem dL_law_403 : decode cL_law 403 = .ok (.iaload, 1) := by decide +kernel
theorem dL_law_404 : decode cL_law 404 = .ok (.aload_n 0, 1) := by decide +kernel
theorem dL_law_405 : decode cL_law 405 = .ok (.iload_n 3, 1) := by decide +kernel
theorem dL_law_406 : decode cL_law 406 = .ok (.iconst 2, 1) := by decide +kernel
theorem dL_law_407 : decode cL_law 407 = .ok (.iadd, 1) := by decide +kernel
theorem dL_law_408 : decode cL_law 408 = .ok (.iaload, 1) := by decide +kernel
theorem dL_law_409 : decode cL_law 409 = .ok (.invokevirtual 52, 3) := by decide +kernel
theorem dL_law_412 : decode cL_law 412 = .ok (.if_icmp .eq 482, 3) := by decide +kernel
theorem dL_law_415 : decode cL_law 415 = .ok (.iconst 0, 1) := by decide +kernel
theorem dL_law_416 : decode cL_law 416 = .ok (.ireturn, 1) := by decide +kernel
theorem dL_law_417 : decode cL_law 417 = .ok (.aload_n 1, 1) := by decide +kernel
theorem dL_law_418 : decode cL_law 418 = .ok (.aload_n 0, 1) := by decide +kernel
theorem dL_law_419 : decode cL_law 419 = .ok (.iload_n 3, 1) := by decide +kernel
theorem dL_law_420 : decode cL_law 420 = .ok (.iconst 1, 1) := by decide +kernel
theorem dL_law_421 : decode cL_law 421 = .ok (.iadd, 1) := by decide +kernel
theorem dL_law_422 : decode cL_law 422 = .ok (.iaload, 1) := by decide +kernel
theorem dL_law_423 : decode cL_law 423 = .ok (.aload_n 0, 1) := by decide +kernel
theorem dL_law_424 : decode cL_law 424 = .ok (.iload_n 3, 1) := by decide +kernel
theorem dL_law_425 : decode cL_law 425 = .ok (.iconst 2, 1) := by decide +kernel
theorem dL_law_426 : decode cL_law 426 = .ok (.iadd, 1) := by decide +kernel
theorem dL_law_427 : decode cL_law 427 = .ok (.iaload, 1) := by decide +kernel
theorem dL_law_428 : decode cL_law 428 = .ok (.invokevirtual 53, 3) := by decide +kernel
theorem dL_law_431 : decode cL_law 431 = .ok (.aload_n 2, 1) := by decide +kernel
theorem dL_law_432 : decode cL_law 432 = .ok (.aload_n 0, 1) := by decide +kernel
theorem dL_law_433 : decode cL_law 433 = .ok (.iload_n 3, 1) := by decide +kernel
theorem dL_law_434 : decode cL_law 434 = .ok (.iconst 1, 1) := by decide +kernel
theorem dL_law_435 : decode cL_law 435 = .ok (.iadd, 1) := by decide +kernel
theorem dL_law_436 : decode cL_law 436 = .ok (.iaload, 1) := by decide +kernel
theorem dL_law_437 : decode cL_law 437 = .ok (.aload_n 0, 1) := by decide +kernel
theorem dL_law_438 : decode cL_law 438 = .ok (.iload_n 3, 1) := by decide +kernel
theorem dL_law_439 : decode cL_law 439 = .ok (.iconst 2, 1) := by decide +kernel
theorem dL_law_440 : decode cL_law 440 = .ok (.iadd, 1) := by decide +kernel
theorem dL_law_441 : decode cL_law 441 = .ok (.iaload, 1) := by decide +kernel
theorem dL_law_442 : decode cL_law 442 = .ok (.invokevirtual 56, 3) := by decide +kernel
theorem dL_law_445 : decode cL_law 445 = .ok (.if_icmp .eq 449, 3) := by decide +kernel
theorem dL_law_448 : decode cL_law 448 = .ok (.iconst 0, 1) := by decide +kernel
theorem dL_law_449 : decode cL_law 449 = .ok (.ireturn, 1) := by decide +kernel
theorem dL_law_450 : decode cL_law 450 = .ok (.aload_n 1, 1) := by decide +kernel
theorem dL_law_451 : decode cL_law 451 = .ok (.aload_n 0, 1) := by decide +kernel
theorem dL_law_452 : decode cL_law 452 = .ok (.iload_n 3, 1) := by decide +kernel
theorem dL_law_453 : decode cL_law 453 = .ok (.iconst 1, 1) := by decide +kernel
theorem dL_law_454 : decode cL_law 454 = .ok (.iadd, 1) := by decide +kernel
theorem dL_law_455 : decode cL_law 455 = .ok (.iaload, 1) := by decide +kernel
theorem dL_law_456 : decode cL_law 456 = .ok (.invokevirtual 57, 3) := by decide +kernel
theorem dL_law_459 : decode cL_law 459 = .ok (.aload_n 2, 1) := by decide +kernel
theorem dL_law_460 : decode cL_law 460 = .ok (.aload_n 0, 1) := by decide +kernel
theorem dL_law_461 : decode cL_law 461 = .ok (.iload_n 3, 1) := by decide +kernel
theorem dL_law_462 : decode cL_law 462 = .ok (.iconst 1, 1) := by decide +kernel
theorem dL_law_463 : decode cL_law 463 = .ok (.iadd, 1) := by decide +kernel
theorem dL_law_464 : decode cL_law 464 = .ok (.iaload, 1) := by decide +kernel
theorem dL_law_465 : decode cL_law 465 = .ok (.invokevirtual 60, 3) := by decide +kernel
theorem dL_law_468 : decode cL_law 468 = .ok (.if_icmp .eq 426, 3) := by decide +kernel
theorem dL_law_471 : decode cL_law 471 = .ok (.iconst 0, 1) := by decide +kernel
theorem dL_law_472 : decode cL_law 472 = .ok (.ireturn, 1) := by decide +kernel
theorem dL_law_473 : decode cL_law 473 = .ok (.aload_n 1, 1) := by decide +kernel
theorem dL_law_474 : decode cL_law 474 = .ok (.aload_n 0, 1) := by decide +kernel
theorem dL_law_475 : decode cL_law 475 = .ok (.iload_n 3, 1) := by decide +kernel
theorem dL_law_476 : decode cL_law 476 = .ok (.iconst 1, 1) := by decide +kernel
theorem dL_law_477 : decode cL_law 477 = .ok (.iadd, 1) := by decide +kernel
theorem dL_law_478 : decode cL_law 478 = .ok (.iaload, 1) := by decide +kernel
theorem dL_law_479 : decode cL_law 479 = .ok (.invokevirtual 61, 3) := by decide +kernel
theorem dL_law_482 : decode cL_law 482 = .ok (.aload_n 2, 1) := by decide +kernel
theorem dL_law_483 : decode cL_law 483 = .ok (.aload_n 0, 1) := by decide +kernel
theorem dL_law_484 : decode cL_law 484 = .ok (.iload_n 3, 1) := by decide +kernel
theorem dL_law_485 : decode cL_law 485 = .ok (.iconst 1, 1) := by decide +kernel
theorem dL_law_486 : decode cL_law 486 = .ok (.iadd, 1) := by decide +kernel
theorem dL_law_487 : decode cL_law 487 = .ok (.iaload, 1) := by decide +kernel
theorem dL_law_488 : decode cL_law 488 = .ok (.invokevirtual 64, 3) := by decide +kernel
theorem dL_law_491 : decode cL_law 491 = .ok (.if_icmp .eq 403, 3) := by decide +kernel
theorem dL_law_494 : decode cL_law 494 = .ok (.iconst 0, 1) := by decide +kernel
theorem dL_law_495 : decode cL_law 495 = .ok (.ireturn, 1) := by decide +kernel
theorem dL_law_496 : decode cL_law 496 = .ok (.aload_n 1, 1) := by decide +kernel
theorem dL_law_497 : decode cL_law 497 = .ok (.aload_n 0, 1) := by decide +kernel
theorem dL_law_498 : decode cL_law 498 = .ok (.iload_n 3, 1) := by decide +kernel
theorem dL_law_499 : decode cL_law 499 = .ok (.iconst 1, 1) := by decide +kernel
theorem dL_law_500 : decode cL_law 500 = .ok (.iadd, 1) := by decide +kernel
theorem dL_law_501 : decode cL_law 501 = .ok (.iaload, 1) := by decide +kernel
theorem dL_law_502 : decode cL_law 502 = .ok (.aload_n 0, 1) := by decide +kernel
theorem dL_law_503 : decode cL_law 503 = .ok (.iload_n 3, 1) := by decide +kernel
theorem dL_law_504 : decode cL_law 504 = .ok (.iconst 2, 1) := by decide +kernel
theorem dL_law_505 : decode cL_law 505 = .ok (.iadd, 1) := by decide +kernel
theorem dL_law_506 : decode cL_law 506 = .ok (.iaload, 1) := by decide +kernel
theorem dL_law_507 : decode cL_law 507 = .ok (.invokevirtual 65, 3) := by decide +kernel
theorem dL_law_510 : decode cL_law 510 = .ok (.aload_n 2, 1) := by decide +kernel
theorem dL_law_511 : decode cL_law 511 = .ok (.aload_n 0, 1) := by decide +kernel
theorem dL_law_512 : decode cL_law 512 = .ok (.iload_n 3, 1) := by decide +kernel
theorem dL_law_513 : decode cL_law 513 = .ok (.iconst 1, 1) := by decide +kernel
theorem dL_law_514 : decode cL_law 514 = .ok (.iadd, 1) := by decide +kernel
theorem dL_law_515 : decode cL_law 515 = .ok (.iaload, 1) := by decide +kernel
theorem dL_law_516 : decode cL_law 516 = .ok (.aload_n 0, 1) := by decide +kernel
theorem dL_law_517 : decode cL_law 517 = .ok (.iload_n 3, 1) := by decide +kernel
theorem dL_law_518 : decode cL_law 518 = .ok (.iconst 2, 1) := by decide +kernel
theorem dL_law_519 : decode cL_law 519 = .ok (.iadd, 1) := by decide +kernel
theorem dL_law_520 : decode cL_law 520 = .ok (.iaload, 1) := by decide +kernel
theorem dL_law_521 : decode cL_law 521 = .ok (.invokevirtual 68, 3) := by decide +kernel
theorem dL_law_524 : decode cL_law 524 = .ok (.if_icmp .eq 370, 3) := by decide +kernel
theorem dL_law_527 : decode cL_law 527 = .ok (.iconst 0, 1) := by decide +kernel
theorem dL_law_528 : decode cL_law 528 = .ok (.ireturn, 1) := by decide +kernel
theorem dL_law_529 : decode cL_law 529 = .ok (.aload_n 1, 1) := by decide +kernel
theorem dL_law_530 : decode cL_law 530 = .ok (.aload_n 0, 1) := by decide +kernel
theorem dL_law_531 : decode cL_law 531 = .ok (.iload_n 3, 1) := by decide +kernel
theorem dL_law_532 : decode cL_law 532 = .ok (.iconst 1, 1) := by decide +kernel
theorem dL_law_533 : decode cL_law 533 = .ok (.iadd, 1) := by decide +kernel
theorem dL_law_534 : decode cL_law 534 = .ok (.iaload, 1) := by decide +kernel
theorem dL_law_535 : decode cL_law 535 = .ok (.aload_n 0, 1) := by decide +kernel
theorem dL_law_536 : decode cL_law 536 = .ok (.iload_n 3, 1) := by decide +kernel
theorem dL_law_537 : decode cL_law 537 = .ok (.iconst 2, 1) := by decide +kernel
theorem dL_law_538 : decode cL_law 538 = .ok (.iadd, 1) := by decide +kernel
theorem dL_law_539 : decode cL_law 539 = .ok (.iaload, 1) := by decide +kernel
theorem dL_law_540 : decode cL_law 540 = .ok (.invokevirtual 69, 3) := by decide +kernel
theorem dL_law_543 : decode cL_law 543 = .ok (.aload_n 2, 1) := by decide +kernel
theorem dL_law_544 : decode cL_law 544 = .ok (.aload_n 0, 1) := by decide +kernel
theorem dL_law_545 : decode cL_law 545 = .ok (.iload_n 3, 1) := by decide +kernel
theorem dL_law_546 : decode cL_law 546 = .ok (.iconst 1, 1) := by decide +kernel
theorem dL_law_547 : decode cL_law 547 = .ok (.iadd, 1) := by decide +kernel
theorem dL_law_548 : decode cL_law 548 = .ok (.iaload, 1) := by decide +kernel
theorem dL_law_549 : decode cL_law 549 = .ok (.aload_n 0, 1) := by decide +kernel
theorem dL_law_550 : decode cL_law 550 = .ok (.iload_n 3, 1) := by decide +kernel
theorem dL_law_551 : decode cL_law 551 = .ok (.iconst 2, 1) := by decide +kernel
theorem dL_law_552 : decode cL_law 552 = .ok (.iadd, 1) := by decide +kernel
