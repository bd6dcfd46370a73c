set_option maxRecDepth 100000 in
theorem dX5_decide_0 : decode cX5_decide 0 = .ok (.aload_n 0, 1) := by decide +kernel
set_option maxRecDepth 100000 in
theorem dX5_decide_1 : decode cX5_decide 1 = .ok (.iload_n 1, 1) := by decide +kernel
set_option maxRecDepth 100000 in
theorem dX5_decide_2 : decode cX5_decide 2 = .ok (.invokestatic 111, 3) := by decide +kernel
set_option maxRecDepth 20000 in
theorem ggX5_decide_X5_isOne : GoodIn wsX5_decide wsX5_isOne := goodIn_r _ [17] (by decide +kernel) (by decide +kernel)
set_option maxRecDepth 20000 in
theorem gX5_decide_X5_isOne : GoodIn wsX5_decide (va_wsS RX5 111 yX5_isOne wsX5_isOne) := goodIn_app (goodIn_of _ (by decide +kernel)) ggX5_decide_X5_isOne
set_option maxRecDepth 100000 in
theorem dX5_decide_5 : decode cX5_decide 5 = .ok (.ifCond .ne 7, 3) := by decide +kernel
set_option maxRecDepth 100000 in
theorem dX5_decide_12 : decode cX5_decide 12 = .ok (.aload_n 0, 1) := by decide +kernel
set_option maxRecDepth 100000 in
theorem dX5_decide_13 : decode cX5_decide 13 = .ok (.getfield 51, 3) := by decide +kernel
set_option maxRecDepth 100000 in
theorem in_X5_decide_X5 : ∀ w ∈ wsX50, w ∈ wsX5_decide := fun _ h => List.mem_cons_of_mem _ (List.mem_append_right _ h)
set_option maxRecDepth 100000 in
theorem dX5_decide_16 : decode cX5_decide 16 = .ok (.iload_n 1, 1) := by decide +kernel
set_option maxRecDepth 100000 in
theorem dX5_decide_17 : decode cX5_decide 17 = .ok (.iaload, 1) := by decide +kernel
set_option maxRecDepth 100000 in
theorem dX5_decide_18 : decode cX5_decide 18 = .ok (.ifCond .lt 12, 3) := by decide +kernel
set_option maxRecDepth 100000 in
theorem dX5_decide_30 : decode cX5_decide 30 = .ok (.iconst 2, 1) := by decide +kernel
set_option maxRecDepth 100000 in
theorem dX5_decide_31 : decode cX5_decide 31 = .ok (.goto 4, 3) := by decide +kernel
set_option maxRecDepth 100000 in
theorem dX5_decide_35 : decode cX5_decide 35 = .ok (.putfield 93, 3) := by decide +kernel
set_option maxRecDepth 100000 in
theorem dX5_decide_38 : decode cX5_decide 38 = .ok (.aload_n 0, 1) := by decide +kernel
set_option maxRecDepth 100000 in
theorem dX5_decide_39 : decode cX5_decide 39 = .ok (.getfield 93, 3) := by decide +kernel
set_option maxRecDepth 100000 in
theorem dX5_decide_42 : decode cX5_decide 42 = .ok (.ifCond .le 5, 3) := by decide +kernel
set_option maxRecDepth 100000 in
theorem dX5_decide_45 : decode cX5_decide 45 = .ok (.iconst 0, 1) := by decide +kernel
set_option maxRecDepth 100000 in
theorem dX5_decide_46 : decode cX5_decide 46 = .ok (.ireturn, 1) := by decide +kernel
set_option maxRecDepth 100000 in
theorem dX5_decide_21 : decode cX5_decide 21 = .ok (.aload_n 0, 1) := by decide +kernel
set_option maxRecDepth 100000 in
theorem dX5_decide_22 : decode cX5_decide 22 = .ok (.getfield 57, 3) := by decide +kernel
set_option maxRecDepth 100000 in
theorem dX5_decide_25 : decode cX5_decide 25 = .ok (.iload_n 1, 1) := by decide +kernel
set_option maxRecDepth 100000 in
theorem dX5_decide_26 : decode cX5_decide 26 = .ok (.iaload, 1) := by decide +kernel
set_option maxRecDepth 100000 in
theorem dX5_decide_27 : decode cX5_decide 27 = .ok (.ifCond .lt 7, 3) := by decide +kernel
set_option maxRecDepth 100000 in
theorem dX5_decide_34 : decode cX5_decide 34 = .ok (.iconst 0, 1) := by decide +kernel
set_option maxRecDepth 100000 in
theorem dX5_decide_47 : decode cX5_decide 47 = .ok (.aload_n 0, 1) := by decide +kernel
set_option maxRecDepth 100000 in
theorem dX5_decide_48 : decode cX5_decide 48 = .ok (.iload_n 1, 1) := by decide +kernel
set_option maxRecDepth 100000 in
theorem dX5_decide_49 : decode cX5_decide 49 = .ok (.invokevirtual 134, 3) := by decide +kernel
set_option maxRecDepth 20000 in
theorem ggX5_decide_X5_askGranted : GoodIn wsX5_decide wsX5_askGranted := goodIn_r _ [21, 22, 4, 23, 24, 25, 16, 26, 66, 67, 68, 69, 70, 71, 72, 73, 74, 75, 76, 77, 78, 79, 80, 81, 82, 83, 84, 85, 86, 87, 88, 89, 90, 91, 92, 93, 94] (by decide +kernel) (by decide +kernel)
set_option maxRecDepth 20000 in
theorem gX5_decide_X5_askGranted : GoodIn wsX5_decide (wsV RX5 134 RX5 yX5_askGranted wsX5_askGranted) := goodIn_app (goodIn_of _ (by decide +kernel)) ggX5_decide_X5_askGranted
set_option maxRecDepth 100000 in
theorem dX5_decide_52 : decode cX5_decide 52 = .ok (.aload_n 0, 1) := by decide +kernel
set_option maxRecDepth 100000 in
theorem dX5_decide_53 : decode cX5_decide 53 = .ok (.invokevirtual 138, 3) := by decide +kernel
set_option maxRecDepth 20000 in
theorem ggX5_decide_X5_mayGoOn : GoodIn wsX5_decide wsX5_mayGoOn := goodIn_r _ [30, 22, 5, 11, 10, 31, 32, 33, 16, 34, 66, 67, 68, 69, 70, 71, 72, 73, 74, 75, 76, 77, 78, 79, 80, 81, 82, 83, 84, 85, 86, 87, 88, 89, 90, 91, 92, 93, 94] (by decide +kernel) (by decide +kernel)
set_option maxRecDepth 20000 in
theorem gX5_decide_X5_mayGoOn : GoodIn wsX5_decide (wsV RX5 138 RX5 yX5_mayGoOn wsX5_mayGoOn) := goodIn_app (goodIn_of _ (by decide +kernel)) ggX5_decide_X5_mayGoOn
set_option maxRecDepth 100000 in
theorem dX5_decide_56 : decode cX5_decide 56 = .ok (.ifCond .ne 5, 3) := by decide +kernel
set_option maxRecDepth 100000 in
theorem dX5_decide_61 : decode cX5_decide 61 = .ok (.aload_n 0, 1) := by decide +kernel
set_option maxRecDepth 100000 in
theorem dX5_decide_62 : decode cX5_decide 62 = .ok (.invokevirtual 130, 3) := by decide +kernel
set_option maxRecDepth 20000 in
theorem ggX5_decide_X5_greatest : GoodIn wsX5_decide wsX5_greatest := goodIn_r _ [34, 22, 5, 66, 67, 68, 69, 70, 71, 72, 73, 74, 75, 76, 77, 78, 79, 80, 81, 82, 83, 84, 85, 86, 87, 88, 89, 90, 91, 92, 93, 94] (by decide +kernel) (by decide +kernel)
set_option maxRecDepth 20000 in
theorem gX5_decide_X5_greatest : GoodIn wsX5_decide (wsV RX5 130 RX5 yX5_greatest wsX5_greatest) := goodIn_app (goodIn_of _ (by decide +kernel)) ggX5_decide_X5_greatest
set_option maxRecDepth 100000 in
theorem dX5_decide_65 : decode cX5_decide 65 = .ok (.istore_n 2, 1) := by decide +kernel
set_option maxRecDepth 100000 in
theorem dX5_decide_66 : decode cX5_decide 66 = .ok (.aload_n 0, 1) := by decide +kernel
set_option maxRecDepth 100000 in
theorem dX5_decide_67 : decode cX5_decide 67 = .ok (.getfield 63, 3) := by decide +kernel
set_option maxRecDepth 100000 in
theorem dX5_decide_70 : decode cX5_decide 70 = .ok (.iload_n 1, 1) := by decide +kernel
set_option maxRecDepth 100000 in
theorem dX5_decide_71 : decode cX5_decide 71 = .ok (.iaload, 1) := by decide +kernel
set_option maxRecDepth 100000 in
theorem dX5_decide_72 : decode cX5_decide 72 = .ok (.invokestatic 142, 3) := by decide +kernel
set_option maxRecDepth 20000 in
theorem ggX5_decide_X5_many : GoodIn wsX5_decide wsX5_many := goodIn_r _ [37, 24, 25, 16, 26] (by decide +kernel) (by decide +kernel)
set_option maxRecDepth 20000 in
theorem gX5_decide_X5_many : GoodIn wsX5_decide (va_wsS RX5 142 yX5_many wsX5_many) := goodIn_app (goodIn_of _ (by decide +kernel)) ggX5_decide_X5_many
set_option maxRecDepth 100000 in
theorem dX5_decide_75 : decode cX5_decide 75 = .ok (.istore_n 3, 1) := by decide +kernel
set_option maxRecDepth 100000 in
theorem dX5_decide_76 : decode cX5_decide 76 = .ok (.aload_n 0, 1) := by decide +kernel
set_option maxRecDepth 100000 in
theorem dX5_decide_77 : decode cX5_decide 77 = .ok (.aload_n 0, 1) := by decide +kernel
set_option maxRecDepth 100000 in
theorem dX5_decide_78 : decode cX5_decide 78 = .ok (.iload_n 3, 1) := by decide +kernel
set_option maxRecDepth 100000 in
theorem dX5_decide_79 : decode cX5_decide 79 = .ok (.iconst 1, 1) := by decide +kernel
set_option maxRecDepth 100000 in
theorem dX5_decide_80 : decode cX5_decide 80 = .ok (.isub, 1) := by decide +kernel
set_option maxRecDepth 100000 in
theorem dX5_decide_81 : decode cX5_decide 81 = .ok (.invokevirtual 118, 3) := by decide +kernel
set_option maxRecDepth 20000 in
theorem ggX5_decide_X5_isFull : GoodIn wsX5_decide wsX5_isFull := goodIn_r _ [41, 42, 66, 67, 68, 69, 70, 71, 72, 73, 74, 75, 76, 77, 78, 79, 80, 81, 82, 83, 84, 85, 86, 87, 88, 89, 90, 91, 92, 93, 94] (by decide +kernel) (by decide +kernel)
set_option maxRecDepth 20000 in
theorem gX5_decide_X5_isFull : GoodIn wsX5_decide (wsV RX5 118 RX5 yX5_isFull wsX5_isFull) := goodIn_app (goodIn_of _ (by decide +kernel)) ggX5_decide_X5_isFull
set_option maxRecDepth 100000 in
theorem dX5_decide_84 : decode cX5_decide 84 = .ok (.ifCond .ne 14, 3) := by decide +kernel
set_option maxRecDepth 100000 in
theorem dX5_decide_98 : decode cX5_decide 98 = .ok (.iconst 3, 1) := by decide +kernel
set_option maxRecDepth 100000 in
theorem dX5_decide_99 : decode cX5_decide 99 = .ok (.goto 4, 3) := by decide +kernel
set_option maxRecDepth 100000 in
theorem dX5_decide_103 : decode cX5_decide 103 = .ok (.putfield 93, 3) := by decide +kernel
set_option maxRecDepth 100000 in
theorem dX5_decide_106 : decode cX5_decide 106 = .ok (.aload_n 0, 1) := by decide +kernel
set_option maxRecDepth 100000 in
theorem dX5_decide_107 : decode cX5_decide 107 = .ok (.getfield 93, 3) := by decide +kernel
set_option maxRecDepth 100000 in
theorem dX5_decide_110 : decode cX5_decide 110 = .ok (.ifCond .le 5, 3) := by decide +kernel
set_option maxRecDepth 100000 in
theorem dX5_decide_113 : decode cX5_decide 113 = .ok (.iconst 0, 1) := by decide +kernel
set_option maxRecDepth 100000 in
theorem dX5_decide_114 : decode cX5_decide 114 = .ok (.ireturn, 1) := by decide +kernel
set_option maxRecDepth 100000 in
theorem dX5_decide_87 : decode cX5_decide 87 = .ok (.aload_n 0, 1) := by decide +kernel
set_option maxRecDepth 100000 in
theorem dX5_decide_88 : decode cX5_decide 88 = .ok (.getfield 13, 3) := by decide +kernel
set_option maxRecDepth 100000 in
theorem dX5_decide_91 : decode cX5_decide 91 = .ok (.iload_n 2, 1) := by decide +kernel
set_option maxRecDepth 100000 in
theorem dX5_decide_92 : decode cX5_decide 92 = .ok (.iaload, 1) := by decide +kernel
set_option maxRecDepth 100000 in
theorem dX5_decide_93 : decode cX5_decide 93 = .ok (.bipush 16, 2) := by decide +kernel
set_option maxRecDepth 100000 in
theorem dX5_decide_95 : decode cX5_decide 95 = .ok (.if_icmp .ne 7, 3) := by decide +kernel
set_option maxRecDepth 100000 in
theorem dX5_decide_102 : decode cX5_decide 102 = .ok (.iconst 0, 1) := by decide +kernel
set_option maxRecDepth 100000 in
theorem dX5_decide_115 : decode cX5_decide 115 = .ok (.iconst 0, 1) := by decide +kernel
set_option maxRecDepth 100000 in
theorem dX5_decide_116 : decode cX5_decide 116 = .ok (.istore 4, 2) := by decide +kernel
set_option maxRecDepth 100000 in
theorem dX5_decide_118 : decode cX5_decide 118 = .ok (.aload_n 0, 1) := by decide +kernel
set_option maxRecDepth 100000 in
theorem dX5_decide_119 : decode cX5_decide 119 = .ok (.getfield 63, 3) := by decide +kernel
set_option maxRecDepth 100000 in
theorem dX5_decide_122 : decode cX5_decide 122 = .ok (.iload_n 1, 1) := by decide +kernel
set_option maxRecDepth 100000 in
theorem dX5_decide_123 : decode cX5_decide 123 = .ok (.iaload, 1) := by decide +kernel
set_option maxRecDepth 100000 in
theorem dX5_decide_124 : decode cX5_decide 124 = .ok (.iload 4, 2) := by decide +kernel
set_option maxRecDepth 100000 in
theorem dX5_decide_126 : decode cX5_decide 126 = .ok (.invokestatic 96, 3) := by decide +kernel
set_option maxRecDepth 20000 in
theorem ggX5_decide_X5_has : GoodIn wsX5_decide wsX5_has := goodIn_r _ [26] (by decide +kernel) (by decide +kernel)
set_option maxRecDepth 20000 in
theorem gX5_decide_X5_has : GoodIn wsX5_decide (va_wsS RX5 96 yX5_has wsX5_has) := goodIn_app (goodIn_of _ (by decide +kernel)) ggX5_decide_X5_has
set_option maxRecDepth 100000 in
theorem dX5_decide_129 : decode cX5_decide 129 = .ok (.ifCond .ne 9, 3) := by decide +kernel
set_option maxRecDepth 100000 in
theorem dX5_decide_138 : decode cX5_decide 138 = .ok (.aload_n 0, 1) := by decide +kernel
set_option maxRecDepth 100000 in
theorem dX5_decide_139 : decode cX5_decide 139 = .ok (.getfield 7, 3) := by decide +kernel
set_option maxRecDepth 100000 in
theorem dX5_decide_142 : decode cX5_decide 142 = .ok (.aload_n 0, 1) := by decide +kernel
set_option maxRecDepth 100000 in
theorem dX5_decide_143 : decode cX5_decide 143 = .ok (.getfield 13, 3) := by decide +kernel
set_option maxRecDepth 100000 in
theorem dX5_decide_146 : decode cX5_decide 146 = .ok (.arraylength, 1) := by decide +kernel
set_option maxRecDepth 100000 in
theorem dX5_decide_147 : decode cX5_decide 147 = .ok (.if_icmp .ne 69, 3) := by decide +kernel
set_option maxRecDepth 100000 in
theorem dX5_decide_216 : decode cX5_decide 216 = .ok (.aload_n 0, 1) := by decide +kernel
set_option maxRecDepth 100000 in
theorem dX5_decide_217 : decode cX5_decide 217 = .ok (.getfield 13, 3) := by decide +kernel
set_option maxRecDepth 100000 in
theorem dX5_decide_220 : decode cX5_decide 220 = .ok (.aload_n 0, 1) := by decide +kernel
set_option maxRecDepth 100000 in
theorem dX5_decide_221 : decode cX5_decide 221 = .ok (.getfield 7, 3) := by decide +kernel
set_option maxRecDepth 100000 in
theorem dX5_decide_224 : decode cX5_decide 224 = .ok (.aload_n 0, 1) := by decide +kernel
set_option maxRecDepth 100000 in
theorem dX5_decide_225 : decode cX5_decide 225 = .ok (.getfield 13, 3) := by decide +kernel
set_option maxRecDepth 100000 in
theorem dX5_decide_228 : decode cX5_decide 228 = .ok (.iload_n 2, 1) := by decide +kernel
set_option maxRecDepth 100000 in
theorem dX5_decide_229 : decode cX5_decide 229 = .ok (.iaload, 1) := by decide +kernel
set_option maxRecDepth 100000 in
theorem dX5_decide_230 : decode cX5_decide 230 = .ok (.iconst 1, 1) := by decide +kernel
set_option maxRecDepth 100000 in
theorem dX5_decide_231 : decode cX5_decide 231 = .ok (.iadd, 1) := by decide +kernel
set_option maxRecDepth 100000 in
theorem dX5_decide_232 : decode cX5_decide 232 = .ok (.iastore, 1) := by decide +kernel
set_option maxRecDepth 100000 in
theorem dX5_decide_233 : decode cX5_decide 233 = .ok (.aload_n 0, 1) := by decide +kernel
set_option maxRecDepth 100000 in
theorem dX5_decide_234 : decode cX5_decide 234 = .ok (.getfield 17, 3) := by decide +kernel
set_option maxRecDepth 100000 in
theorem dX5_decide_237 : decode cX5_decide 237 = .ok (.aload_n 0, 1) := by decide +kernel
set_option maxRecDepth 100000 in
theorem dX5_decide_238 : decode cX5_decide 238 = .ok (.getfield 7, 3) := by decide +kernel
set_option maxRecDepth 100000 in
theorem dX5_decide_241 : decode cX5_decide 241 = .ok (.iload_n 2, 1) := by decide +kernel
set_option maxRecDepth 100000 in
theorem dX5_decide_242 : decode cX5_decide 242 = .ok (.iastore, 1) := by decide +kernel
set_option maxRecDepth 100000 in
theorem dX5_decide_243 : decode cX5_decide 243 = .ok (.aload_n 0, 1) := by decide +kernel
set_option maxRecDepth 100000 in
theorem dX5_decide_244 : decode cX5_decide 244 = .ok (.getfield 20, 3) := by decide +kernel
set_option maxRecDepth 100000 in
theorem dX5_decide_247 : decode cX5_decide 247 = .ok (.aload_n 0, 1) := by decide +kernel
set_option maxRecDepth 100000 in
theorem dX5_decide_248 : decode cX5_decide 248 = .ok (.getfield 7, 3) := by decide +kernel
set_option maxRecDepth 100000 in
theorem dX5_decide_251 : decode cX5_decide 251 = .ok (.aload_n 0, 1) := by decide +kernel
set_option maxRecDepth 100000 in
theorem dX5_decide_252 : decode cX5_decide 252 = .ok (.getfield 54, 3) := by decide +kernel
set_option maxRecDepth 100000 in
theorem dX5_decide_255 : decode cX5_decide 255 = .ok (.iload_n 1, 1) := by decide +kernel
set_option maxRecDepth 100000 in
theorem dX5_decide_256 : decode cX5_decide 256 = .ok (.iaload, 1) := by decide +kernel
set_option maxRecDepth 100000 in
theorem dX5_decide_257 : decode cX5_decide 257 = .ok (.iastore, 1) := by decide +kernel
set_option maxRecDepth 100000 in
theorem dX5_decide_258 : decode cX5_decide 258 = .ok (.aload_n 0, 1) := by decide +kernel
set_option maxRecDepth 100000 in
theorem dX5_decide_259 : decode cX5_decide 259 = .ok (.getfield 23, 3) := by decide +kernel
set_option maxRecDepth 100000 in
theorem dX5_decide_262 : decode cX5_decide 262 = .ok (.aload_n 0, 1) := by decide +kernel
set_option maxRecDepth 100000 in
theorem dX5_decide_263 : decode cX5_decide 263 = .ok (.getfield 7, 3) := by decide +kernel
set_option maxRecDepth 100000 in
theorem dX5_decide_266 : decode cX5_decide 266 = .ok (.aload_n 0, 1) := by decide +kernel
set_option maxRecDepth 100000 in
theorem dX5_decide_267 : decode cX5_decide 267 = .ok (.getfield 51, 3) := by decide +kernel
set_option maxRecDepth 100000 in
theorem dX5_decide_270 : decode cX5_decide 270 = .ok (.iload_n 1, 1) := by decide +kernel
set_option maxRecDepth 100000 in
theorem dX5_decide_271 : decode cX5_decide 271 = .ok (.iaload, 1) := by decide +kernel
set_option maxRecDepth 100000 in
theorem dX5_decide_272 : decode cX5_decide 272 = .ok (.iastore, 1) := by decide +kernel
set_option maxRecDepth 100000 in
theorem dX5_decide_273 : decode cX5_decide 273 = .ok (.aload_n 0, 1) := by decide +kernel
set_option maxRecDepth 100000 in
theorem dX5_decide_274 : decode cX5_decide 274 = .ok (.getfield 26, 3) := by decide +kernel
set_option maxRecDepth 100000 in
theorem dX5_decide_277 : decode cX5_decide 277 = .ok (.aload_n 0, 1) := by decide +kernel
set_option maxRecDepth 100000 in
theorem dX5_decide_278 : decode cX5_decide 278 = .ok (.getfield 7, 3) := by decide +kernel
set_option maxRecDepth 100000 in
theorem dX5_decide_281 : decode cX5_decide 281 = .ok (.iload_n 3, 1) := by decide +kernel
set_option maxRecDepth 100000 in
theorem dX5_decide_282 : decode cX5_decide 282 = .ok (.iastore, 1) := by decide +kernel
set_option maxRecDepth 100000 in
theorem dX5_decide_283 : decode cX5_decide 283 = .ok (.aload_n 0, 1) := by decide +kernel
set_option maxRecDepth 100000 in
theorem dX5_decide_284 : decode cX5_decide 284 = .ok (.getfield 29, 3) := by decide +kernel
set_option maxRecDepth 100000 in
theorem dX5_decide_287 : decode cX5_decide 287 = .ok (.aload_n 0, 1) := by decide +kernel
set_option maxRecDepth 100000 in
theorem dX5_decide_288 : decode cX5_decide 288 = .ok (.getfield 7, 3) := by decide +kernel
set_option maxRecDepth 100000 in
theorem dX5_decide_291 : decode cX5_decide 291 = .ok (.iload 4, 2) := by decide +kernel
set_option maxRecDepth 100000 in
theorem dX5_decide_293 : decode cX5_decide 293 = .ok (.iastore, 1) := by decide +kernel
set_option maxRecDepth 100000 in
theorem dX5_decide_294 : decode cX5_decide 294 = .ok (.aload_n 0, 1) := by decide +kernel
set_option maxRecDepth 100000 in
theorem dX5_decide_295 : decode cX5_decide 295 = .ok (.getfield 57, 3) := by decide +kernel
set_option maxRecDepth 100000 in
theorem dX5_decide_298 : decode cX5_decide 298 = .ok (.iload_n 1, 1) := by decide +kernel
set_option maxRecDepth 100000 in
theorem dX5_decide_299 : decode cX5_decide 299 = .ok (.aload_n 0, 1) := by decide +kernel
set_option maxRecDepth 100000 in
theorem dX5_decide_300 : decode cX5_decide 300 = .ok (.getfield 7, 3) := by decide +kernel
set_option maxRecDepth 100000 in
theorem dX5_decide_303 : decode cX5_decide 303 = .ok (.iastore, 1) := by decide +kernel
set_option maxRecDepth 100000 in
theorem dX5_decide_304 : decode cX5_decide 304 = .ok (.aload_n 0, 1) := by decide +kernel
set_option maxRecDepth 100000 in
theorem dX5_decide_305 : decode cX5_decide 305 = .ok (.dup, 1) := by decide +kernel
set_option maxRecDepth 100000 in
theorem dX5_decide_306 : decode cX5_decide 306 = .ok (.getfield 7, 3) := by decide +kernel
set_option maxRecDepth 100000 in
theorem dX5_decide_309 : decode cX5_decide 309 = .ok (.iconst 1, 1) := by decide +kernel
set_option maxRecDepth 100000 in
theorem dX5_decide_310 : decode cX5_decide 310 = .ok (.iadd, 1) := by decide +kernel
set_option maxRecDepth 100000 in
theorem dX5_decide_311 : decode cX5_decide 311 = .ok (.putfield 7, 3) := by decide +kernel
set_option maxRecDepth 100000 in
theorem dX5_decide_314 : decode cX5_decide 314 = .ok (.aload_n 0, 1) := by decide +kernel
set_option maxRecDepth 100000 in
theorem dX5_decide_315 : decode cX5_decide 315 = .ok (.getfield 60, 3) := by decide +kernel
set_option maxRecDepth 100000 in
theorem dX5_decide_318 : decode cX5_decide 318 = .ok (.iload_n 1, 1) := by decide +kernel
set_option maxRecDepth 100000 in
theorem dX5_decide_319 : decode cX5_decide 319 = .ok (.aload_n 0, 1) := by decide +kernel
set_option maxRecDepth 100000 in
theorem dX5_decide_320 : decode cX5_decide 320 = .ok (.getfield 63, 3) := by decide +kernel
set_option maxRecDepth 100000 in
theorem dX5_decide_323 : decode cX5_decide 323 = .ok (.iload_n 1, 1) := by decide +kernel
set_option maxRecDepth 100000 in
theorem dX5_decide_324 : decode cX5_decide 324 = .ok (.iaload, 1) := by decide +kernel
set_option maxRecDepth 100000 in
theorem dX5_decide_325 : decode cX5_decide 325 = .ok (.iastore, 1) := by decide +kernel
set_option maxRecDepth 100000 in
theorem dX5_decide_326 : decode cX5_decide 326 = .ok (.aload_n 0, 1) := by decide +kernel
set_option maxRecDepth 100000 in
theorem dX5_decide_327 : decode cX5_decide 327 = .ok (.getfield 63, 3) := by decide +kernel
set_option maxRecDepth 100000 in
theorem dX5_decide_330 : decode cX5_decide 330 = .ok (.iload_n 1, 1) := by decide +kernel
set_option maxRecDepth 100000 in
theorem dX5_decide_331 : decode cX5_decide 331 = .ok (.iconst 1, 1) := by decide +kernel
set_option maxRecDepth 100000 in
theorem dX5_decide_332 : decode cX5_decide 332 = .ok (.iload_n 1, 1) := by decide +kernel
set_option maxRecDepth 100000 in
theorem dX5_decide_333 : decode cX5_decide 333 = .ok (.ishl, 1) := by decide +kernel
set_option maxRecDepth 100000 in
theorem dX5_decide_334 : decode cX5_decide 334 = .ok (.iastore, 1) := by decide +kernel
set_option maxRecDepth 100000 in
theorem dX5_decide_335 : decode cX5_decide 335 = .ok (.aload_n 0, 1) := by decide +kernel
set_option maxRecDepth 100000 in
theorem dX5_decide_336 : decode cX5_decide 336 = .ok (.iconst 2, 1) := by decide +kernel
set_option maxRecDepth 100000 in
theorem dX5_decide_337 : decode cX5_decide 337 = .ok (.iload_n 1, 1) := by decide +kernel
set_option maxRecDepth 100000 in
theorem dX5_decide_338 : decode cX5_decide 338 = .ok (.aload_n 0, 1) := by decide +kernel
set_option maxRecDepth 100000 in
theorem dX5_decide_339 : decode cX5_decide 339 = .ok (.getfield 60, 3) := by decide +kernel
set_option maxRecDepth 100000 in
theorem dX5_decide_342 : decode cX5_decide 342 = .ok (.iload_n 1, 1) := by decide +kernel
set_option maxRecDepth 100000 in
theorem dX5_decide_343 : decode cX5_decide 343 = .ok (.iaload, 1) := by decide +kernel
set_option maxRecDepth 100000 in
theorem dX5_decide_344 : decode cX5_decide 344 = .ok (.aload_n 0, 1) := by decide +kernel
set_option maxRecDepth 100000 in
theorem dX5_decide_345 : decode cX5_decide 345 = .ok (.getfield 51, 3) := by decide +kernel
set_option maxRecDepth 100000 in
theorem dX5_decide_348 : decode cX5_decide 348 = .ok (.iload_n 1, 1) := by decide +kernel
set_option maxRecDepth 100000 in
theorem dX5_decide_349 : decode cX5_decide 349 = .ok (.iaload, 1) := by decide +kernel
set_option maxRecDepth 100000 in
theorem dX5_decide_350 : decode cX5_decide 350 = .ok (.aload_n 0, 1) := by decide +kernel
set_option maxRecDepth 100000 in
theorem dX5_decide_351 : decode cX5_decide 351 = .ok (.getfield 57, 3) := by decide +kernel
set_option maxRecDepth 100000 in
theorem dX5_decide_354 : decode cX5_decide 354 = .ok (.iload_n 1, 1) := by decide +kernel
set_option maxRecDepth 100000 in
theorem dX5_decide_355 : decode cX5_decide 355 = .ok (.iaload, 1) := by decide +kernel
set_option maxRecDepth 100000 in
theorem dX5_decide_356 : decode cX5_decide 356 = .ok (.invokevirtual 121, 3) := by decide +kernel
set_option maxRecDepth 20000 in
theorem ggX5_decide_X5_sendAll : GoodIn wsX5_decide wsX5_sendAll := goodIn_r _ [50, 24, 25, 16, 26, 51, 52, 53, 54, 55, 42, 56, 57, 58, 59, 66, 67, 68, 69, 70, 71, 72, 73, 74, 75, 76, 77, 78, 79, 80, 81, 82, 83, 84, 85, 86, 87, 88, 89, 90, 91, 92, 93, 94] (by decide +kernel) (by decide +kernel)
set_option maxRecDepth 20000 in
theorem gX5_decide_X5_sendAll : GoodIn wsX5_decide (wsV RX5 121 RX5 yX5_sendAll wsX5_sendAll) := goodIn_app (goodIn_of _ (by decide +kernel)) ggX5_decide_X5_sendAll
set_option maxRecDepth 100000 in
theorem dX5_decide_359 : decode cX5_decide 359 = .ok (.aload_n 0, 1) := by decide +kernel
set_option maxRecDepth 100000 in
theorem dX5_decide_360 : decode cX5_decide 360 = .ok (.iload_n 1, 1) := by decide +kernel
set_option maxRecDepth 100000 in
theorem dX5_decide_361 : decode cX5_decide 361 = .ok (.invokevirtual 150, 3) := by decide +kernel
set_option maxRecDepth 20000 in
theorem ggX5_decide_X5_finish : GoodIn wsX5_decide wsX5_finish := goodIn_r _ [63, 1, 2, 4, 13, 64, 65, 47, 48, 49, 16, 50, 24, 25, 26, 51, 52, 53, 54, 55, 42, 56, 57, 58, 59, 66, 67, 68, 69, 70, 71, 72, 73, 74, 75, 76, 77, 78, 79, 80, 81, 82, 83, 84, 85, 86, 87, 88, 89, 90, 91, 92, 93, 94] (by decide +kernel) (by decide +kernel)
set_option maxRecDepth 20000 in
theorem gX5_decide_X5_finish : GoodIn wsX5_decide (wsV RX5 150 RX5 yX5_finish wsX5_finish) := goodIn_app (goodIn_of _ (by decide +kernel)) ggX5_decide_X5_finish
set_option maxRecDepth 100000 in
theorem dX5_decide_364 : decode cX5_decide 364 = .ok (.iconst 1, 1) := by decide +kernel
set_option maxRecDepth 100000 in
theorem dX5_decide_365 : decode cX5_decide 365 = .ok (.ireturn, 1) := by decide +kernel
set_option maxRecDepth 100000 in
theorem dX5_decide_132 : decode cX5_decide 132 = .ok (.iinc 4 1, 3) := by decide +kernel
set_option maxRecDepth 100000 in
theorem dX5_decide_135 : decode cX5_decide 135 = .ok (.goto (-17), 3) := by decide +kernel
set_option maxRecDepth 100000 in
theorem dX5_decide_59 : decode cX5_decide 59 = .ok (.iconst 0, 1) := by decide +kernel
set_option maxRecDepth 100000 in
theorem dX5_decide_60 : decode cX5_decide 60 = .ok (.ireturn, 1) := by decide +kernel
set_option maxRecDepth 100000 in
theorem dX5_decide_8 : decode cX5_decide 8 = .ok (.iconst 1, 1) := by decide +kernel
set_option maxRecDepth 100000 in
theorem dX5_decide_9 : decode cX5_decide 9 = .ok (.goto 26, 3) := by decide +kernel
set_option maxRecDepth 100000 in
theorem dX5_cable_0 : decode cX5_cable 0 = .ok (.aload_n 0, 1) := by decide +kernel
set_option maxRecDepth 100000 in
theorem dX5_cable_1 : decode cX5_cable 1 = .ok (.iload_n 1, 1) := by decide +kernel
set_option maxRecDepth 100000 in
theorem dX5_cable_2 : decode cX5_cable 2 = .ok (.invokestatic 111, 3) := by decide +kernel
set_option maxRecDepth 20000 in
theorem ggX5_cable_X5_isOne : GoodIn wsX5_cable wsX5_isOne := goodIn_r _ [6] (by decide +kernel) (by decide +kernel)
set_option maxRecDepth 20000 in
theorem gX5_cable_X5_isOne : GoodIn wsX5_cable (va_wsS RX5 111 yX5_isOne wsX5_isOne) := goodIn_app (goodIn_of _ (by decide +kernel)) ggX5_cable_X5_isOne
set_option maxRecDepth 100000 in
theorem dX5_cable_5 : decode cX5_cable 5 = .ok (.ifCond .eq 15, 3) := by decide +kernel
set_option maxRecDepth 100000 in
theorem dX5_cable_20 : decode cX5_cable 20 = .ok (.iconst 1, 1) := by decide +kernel
set_option maxRecDepth 100000 in
theorem dX5_cable_21 : decode cX5_cable 21 = .ok (.goto 4, 3) := by decide +kernel
set_option maxRecDepth 100000 in
theorem dX5_cable_25 : decode cX5_cable 25 = .ok (.putfield 93, 3) := by decide +kernel
set_option maxRecDepth 100000 in
theorem in_X5_cable_X5 : ∀ w ∈ wsX50, w ∈ wsX5_cable := fun _ h => List.mem_cons_of_mem _ (List.mem_append_right _ h)
set_option maxRecDepth 100000 in
theorem dX5_cable_28 : decode cX5_cable 28 = .ok (.aload_n 0, 1) := by decide +kernel
set_option maxRecDepth 100000 in
theorem dX5_cable_29 : decode cX5_cable 29 = .ok (.getfield 93, 3) := by decide +kernel
set_option maxRecDepth 100000 in
theorem dX5_cable_32 : decode cX5_cable 32 = .ok (.ifCond .gt 17, 3) := by decide +kernel
set_option maxRecDepth 100000 in
theorem dX5_cable_49 : decode cX5_cable 49 = .ok (.iconst 0, 1) := by decide +kernel
set_option maxRecDepth 100000 in
theorem dX5_cable_50 : decode cX5_cable 50 = .ok (.ireturn, 1) := by decide +kernel
set_option maxRecDepth 100000 in
theorem dX5_cable_8 : decode cX5_cable 8 = .ok (.iload_n 2, 1) := by decide +kernel
set_option maxRecDepth 100000 in
theorem dX5_cable_9 : decode cX5_cable 9 = .ok (.invokestatic 111, 3) := by decide +kernel
set_option maxRecDepth 100000 in
theorem dX5_cable_12 : decode cX5_cable 12 = .ok (.ifCond .eq 8, 3) := by decide +kernel
set_option maxRecDepth 100000 in
theorem dX5_cable_15 : decode cX5_cable 15 = .ok (.iload_n 1, 1) := by decide +kernel
set_option maxRecDepth 100000 in
theorem dX5_cable_16 : decode cX5_cable 16 = .ok (.iload_n 2, 1) := by decide +kernel
set_option maxRecDepth 100000 in
theorem dX5_cable_17 : decode cX5_cable 17 = .ok (.if_icmp .ne 7, 3) := by decide +kernel
set_option maxRecDepth 100000 in
theorem dX5_cable_24 : decode cX5_cable 24 = .ok (.iconst 0, 1) := by decide +kernel
set_option maxRecDepth 100000 in
theorem dX5_cable_35 : decode cX5_cable 35 = .ok (.aload_n 0, 1) := by decide +kernel
set_option maxRecDepth 100000 in
theorem dX5_cable_36 : decode cX5_cable 36 = .ok (.getfield 69, 3) := by decide +kernel
set_option maxRecDepth 100000 in
theorem dX5_cable_39 : decode cX5_cable 39 = .ok (.iconst 5, 1) := by decide +kernel
set_option maxRecDepth 100000 in
theorem dX5_cable_40 : decode cX5_cable 40 = .ok (.iload_n 1, 1) := by decide +kernel
set_option maxRecDepth 100000 in
theorem dX5_cable_41 : decode cX5_cable 41 = .ok (.imul, 1) := by decide +kernel
set_option maxRecDepth 100000 in
theorem dX5_cable_42 : decode cX5_cable 42 = .ok (.iload_n 2, 1) := by decide +kernel
set_option maxRecDepth 100000 in
theorem dX5_cable_43 : decode cX5_cable 43 = .ok (.iadd, 1) := by decide +kernel
set_option maxRecDepth 100000 in
theorem dX5_cable_44 : decode cX5_cable 44 = .ok (.baload, 1) := by decide +kernel
set_option maxRecDepth 100000 in
theorem dX5_cable_45 : decode cX5_cable 45 = .ok (.iload_n 3, 1) := by decide +kernel
set_option maxRecDepth 100000 in
theorem dX5_cable_46 : decode cX5_cable 46 = .ok (.if_icmp .eq 5, 3) := by decide +kernel
set_option maxRecDepth 100000 in
theorem dX5_cable_51 : decode cX5_cable 51 = .ok (.aload_n 0, 1) := by decide +kernel
set_option maxRecDepth 100000 in
theorem dX5_cable_52 : decode cX5_cable 52 = .ok (.getfield 69, 3) := by decide +kernel
set_option maxRecDepth 100000 in
theorem dX5_cable_55 : decode cX5_cable 55 = .ok (.iconst 5, 1) := by decide +kernel
set_option maxRecDepth 100000 in
theorem dX5_cable_56 : decode cX5_cable 56 = .ok (.iload_n 1, 1) := by decide +kernel
set_option maxRecDepth 100000 in
theorem dX5_cable_57 : decode cX5_cable 57 = .ok (.imul, 1) := by decide +kernel
set_option maxRecDepth 100000 in
theorem dX5_cable_58 : decode cX5_cable 58 = .ok (.iload_n 2, 1) := by decide +kernel
set_option maxRecDepth 100000 in
theorem dX5_cable_59 : decode cX5_cable 59 = .ok (.iadd, 1) := by decide +kernel
set_option maxRecDepth 100000 in
theorem dX5_cable_60 : decode cX5_cable 60 = .ok (.iload_n 3, 1) := by decide +kernel
set_option maxRecDepth 100000 in
theorem dX5_cable_61 : decode cX5_cable 61 = .ok (.ifCond .ne 7, 3) := by decide +kernel
set_option maxRecDepth 100000 in
theorem dX5_cable_68 : decode cX5_cable 68 = .ok (.iconst 0, 1) := by decide +kernel
set_option maxRecDepth 100000 in
theorem dX5_cable_69 : decode cX5_cable 69 = .ok (.bastore, 1) := by decide +kernel
set_option maxRecDepth 100000 in
theorem dX5_cable_70 : decode cX5_cable 70 = .ok (.aload_n 0, 1) := by decide +kernel
set_option maxRecDepth 100000 in
theorem dX5_cable_71 : decode cX5_cable 71 = .ok (.getfield 69, 3) := by decide +kernel
set_option maxRecDepth 100000 in
theorem dX5_cable_74 : decode cX5_cable 74 = .ok (.iconst 5, 1) := by decide +kernel
set_option maxRecDepth 100000 in
theorem dX5_cable_75 : decode cX5_cable 75 = .ok (.iload_n 2, 1) := by decide +kernel
set_option maxRecDepth 100000 in
theorem dX5_cable_76 : decode cX5_cable 76 = .ok (.imul, 1) := by decide +kernel
set_option maxRecDepth 100000 in
theorem dX5_cable_77 : decode cX5_cable 77 = .ok (.iload_n 1, 1) := by decide +kernel
set_option maxRecDepth 100000 in
theorem dX5_cable_78 : decode cX5_cable 78 = .ok (.iadd, 1) := by decide +kernel
set_option maxRecDepth 100000 in
theorem dX5_cable_79 : decode cX5_cable 79 = .ok (.iload_n 3, 1) := by decide +kernel
set_option maxRecDepth 100000 in
theorem dX5_cable_80 : decode cX5_cable 80 = .ok (.ifCond .ne 7, 3) := by decide +kernel
set_option maxRecDepth 100000 in
theorem dX5_cable_87 : decode cX5_cable 87 = .ok (.iconst 0, 1) := by decide +kernel
set_option maxRecDepth 100000 in
theorem dX5_cable_88 : decode cX5_cable 88 = .ok (.bastore, 1) := by decide +kernel
set_option maxRecDepth 100000 in
theorem dX5_cable_89 : decode cX5_cable 89 = .ok (.iconst 1, 1) := by decide +kernel
set_option maxRecDepth 100000 in
theorem dX5_cable_90 : decode cX5_cable 90 = .ok (.ireturn, 1) := by decide +kernel
set_option maxRecDepth 100000 in
theorem dX5_cable_64 : decode cX5_cable 64 = .ok (.iconst 1, 1) := by decide +kernel
set_option maxRecDepth 100000 in
theorem dX5_cable_65 : decode cX5_cable 65 = .ok (.goto 4, 3) := by decide +kernel
set_option maxRecDepth 100000 in
theorem dX5_cable_83 : decode cX5_cable 83 = .ok (.iconst 1, 1) := by decide +kernel
set_option maxRecDepth 100000 in
theorem dX5_cable_84 : decode cX5_cable 84 = .ok (.goto 4, 3) := by decide +kernel
set_option maxRecDepth 100000 in
theorem dX5_stop_0 : decode cX5_stop 0 = .ok (.aload_n 0, 1) := by decide +kernel
set_option maxRecDepth 100000 in
theorem dX5_stop_1 : decode cX5_stop 1 = .ok (.iload_n 1, 1) := by decide +kernel
set_option maxRecDepth 100000 in
theorem dX5_stop_2 : decode cX5_stop 2 = .ok (.invokestatic 111, 3) := by decide +kernel
set_option maxRecDepth 20000 in
theorem ggX5_stop_X5_isOne : GoodIn wsX5_stop wsX5_isOne := goodIn_r _ [8] (by decide +kernel) (by decide +kernel)
set_option maxRecDepth 20000 in
theorem gX5_stop_X5_isOne : GoodIn wsX5_stop (va_wsS RX5 111 yX5_isOne wsX5_isOne) := goodIn_app (goodIn_of _ (by decide +kernel)) ggX5_stop_X5_isOne
set_option maxRecDepth 100000 in
theorem dX5_stop_5 : decode cX5_stop 5 = .ok (.ifCond .eq 7, 3) := by decide +kernel
set_option maxRecDepth 100000 in
theorem dX5_stop_12 : decode cX5_stop 12 = .ok (.iconst 1, 1) := by decide +kernel
set_option maxRecDepth 100000 in
theorem dX5_stop_13 : decode cX5_stop 13 = .ok (.putfield 93, 3) := by decide +kernel
set_option maxRecDepth 100000 in
theorem in_X5_stop_X5 : ∀ w ∈ wsX50, w ∈ wsX5_stop := fun _ h => List.mem_cons_of_mem _ (List.mem_append_right _ h)
set_option maxRecDepth 100000 in
theorem dX5_stop_16 : decode cX5_stop 16 = .ok (.aload_n 0, 1) := by decide +kernel
set_option maxRecDepth 100000 in
theorem dX5_stop_17 : decode cX5_stop 17 = .ok (.getfield 93, 3) := by decide +kernel
set_option maxRecDepth 100000 in
theorem dX5_stop_20 : decode cX5_stop 20 = .ok (.ifCond .gt 12, 3) := by decide +kernel
set_option maxRecDepth 100000 in
theorem dX5_stop_32 : decode cX5_stop 32 = .ok (.iconst 0, 1) := by decide +kernel
set_option maxRecDepth 100000 in
theorem dX5_stop_33 : decode cX5_stop 33 = .ok (.ireturn, 1) := by decide +kernel
set_option maxRecDepth 100000 in
theorem dX5_stop_8 : decode cX5_stop 8 = .ok (.iconst 0, 1) := by decide +kernel
set_option maxRecDepth 100000 in
theorem dX5_stop_9 : decode cX5_stop 9 = .ok (.goto 4, 3) := by decide +kernel
set_option maxRecDepth 100000 in
theorem dX5_stop_23 : decode cX5_stop 23 = .ok (.aload_n 0, 1) := by decide +kernel
set_option maxRecDepth 100000 in
theorem dX5_stop_24 : decode cX5_stop 24 = .ok (.getfield 44, 3) := by decide +kernel
set_option maxRecDepth 100000 in
theorem dX5_stop_27 : decode cX5_stop 27 = .ok (.iload_n 1, 1) := by decide +kernel
set_option maxRecDepth 100000 in
theorem dX5_stop_28 : decode cX5_stop 28 = .ok (.baload, 1) := by decide +kernel
set_option maxRecDepth 100000 in
theorem dX5_stop_29 : decode cX5_stop 29 = .ok (.ifCond .eq 5, 3) := by decide +kernel
set_option maxRecDepth 100000 in
theorem dX5_stop_34 : decode cX5_stop 34 = .ok (.aload_n 0, 1) := by decide +kernel
set_option maxRecDepth 100000 in
theorem dX5_stop_35 : decode cX5_stop 35 = .ok (.getfield 44, 3) := by decide +kernel
set_option maxRecDepth 100000 in
theorem dX5_stop_38 : decode cX5_stop 38 = .ok (.iload_n 1, 1) := by decide +kernel
set_option maxRecDepth 100000 in
theorem dX5_stop_39 : decode cX5_stop 39 = .ok (.iconst 1, 1) := by decide +kernel
set_option maxRecDepth 100000 in
theorem dX5_stop_40 : decode cX5_stop 40 = .ok (.bastore, 1) := by decide +kernel
set_option maxRecDepth 100000 in
theorem dX5_stop_41 : decode cX5_stop 41 = .ok (.aload_n 0, 1) := by decide +kernel
set_option maxRecDepth 100000 in
theorem dX5_stop_42 : decode cX5_stop 42 = .ok (.getfield 48, 3) := by decide +kernel
set_option maxRecDepth 100000 in
theorem dX5_stop_45 : decode cX5_stop 45 = .ok (.iload_n 1, 1) := by decide +kernel
set_option maxRecDepth 100000 in
theorem dX5_stop_46 : decode cX5_stop 46 = .ok (.iconst (-1), 1) := by decide +kernel
set_option maxRecDepth 100000 in
theorem dX5_stop_47 : decode cX5_stop 47 = .ok (.iastore, 1) := by decide +kernel
set_option maxRecDepth 100000 in
theorem dX5_stop_48 : decode cX5_stop 48 = .ok (.aload_n 0, 1) := by decide +kernel
set_option maxRecDepth 100000 in
theorem dX5_stop_49 : decode cX5_stop 49 = .ok (.getfield 51, 3) := by decide +kernel
set_option maxRecDepth 100000 in
theorem dX5_stop_52 : decode cX5_stop 52 = .ok (.iload_n 1, 1) := by decide +kernel
set_option maxRecDepth 100000 in
theorem dX5_stop_53 : decode cX5_stop 53 = .ok (.iconst (-1), 1) := by decide +kernel
set_option maxRecDepth 100000 in
theorem dX5_stop_54 : decode cX5_stop 54 = .ok (.iastore, 1) := by decide +kernel
set_option maxRecDepth 100000 in
theorem dX5_stop_55 : decode cX5_stop 55 = .ok (.iconst 1, 1) := by decide +kernel
set_option maxRecDepth 100000 in
theorem dX5_stop_56 : decode cX5_stop 56 = .ok (.ireturn, 1) := by decide +kernel
set_option maxRecDepth 100000 in
theorem dX5_start_0 : decode cX5_start 0 = .ok (.aload_n 0, 1) := by decide +kernel
set_option maxRecDepth 100000 in
theorem dX5_start_1 : decode cX5_start 1 = .ok (.iload_n 1, 1) := by decide +kernel
set_option maxRecDepth 100000 in
theorem dX5_start_2 : decode cX5_start 2 = .ok (.invokestatic 111, 3) := by decide +kernel
set_option maxRecDepth 20000 in
theorem ggX5_start_X5_isOne : GoodIn wsX5_start wsX5_isOne := goodIn_r _ [6] (by decide +kernel) (by decide +kernel)
set_option maxRecDepth 20000 in
theorem gX5_start_X5_isOne : GoodIn wsX5_start (va_wsS RX5 111 yX5_isOne wsX5_isOne) := goodIn_app (goodIn_of _ (by decide +kernel)) ggX5_start_X5_isOne
set_option maxRecDepth 100000 in
theorem dX5_start_5 : decode cX5_start 5 = .ok (.ifCond .eq 7, 3) := by decide +kernel
set_option maxRecDepth 100000 in
theorem dX5_start_12 : decode cX5_start 12 = .ok (.iconst 1, 1) := by decide +kernel
set_option maxRecDepth 100000 in
theorem dX5_start_13 : decode cX5_start 13 = .ok (.putfield 93, 3) := by decide +kernel
set_option maxRecDepth 100000 in
theorem in_X5_start_X5 : ∀ w ∈ wsX50, w ∈ wsX5_start := fun _ h => List.mem_cons_of_mem _ (List.mem_append_right _ h)
set_option maxRecDepth 100000 in
theorem dX5_start_16 : decode cX5_start 16 = .ok (.aload_n 0, 1) := by decide +kernel
set_option maxRecDepth 100000 in
theorem dX5_start_17 : decode cX5_start 17 = .ok (.getfield 93, 3) := by decide +kernel
set_option maxRecDepth 100000 in
theorem dX5_start_20 : decode cX5_start 20 = .ok (.ifCond .gt 12, 3) := by decide +kernel
set_option maxRecDepth 100000 in
theorem dX5_start_32 : decode cX5_start 32 = .ok (.iconst 0, 1) := by decide +kernel
set_option maxRecDepth 100000 in
theorem dX5_start_33 : decode cX5_start 33 = .ok (.ireturn, 1) := by decide +kernel
set_option maxRecDepth 100000 in
theorem dX5_start_8 : decode cX5_start 8 = .ok (.iconst 0, 1) := by decide +kernel
set_option maxRecDepth 100000 in
theorem dX5_start_9 : decode cX5_start 9 = .ok (.goto 4, 3) := by decide +kernel
set_option maxRecDepth 100000 in
theorem dX5_start_23 : decode cX5_start 23 = .ok (.aload_n 0, 1) := by decide +kernel
set_option maxRecDepth 100000 in
theorem dX5_start_24 : decode cX5_start 24 = .ok (.getfield 44, 3) := by decide +kernel
set_option maxRecDepth 100000 in
theorem dX5_start_27 : decode cX5_start 27 = .ok (.iload_n 1, 1) := by decide +kernel
set_option maxRecDepth 100000 in
theorem dX5_start_28 : decode cX5_start 28 = .ok (.baload, 1) := by decide +kernel
set_option maxRecDepth 100000 in
theorem dX5_start_29 : decode cX5_start 29 = .ok (.ifCond .ne 5, 3) := by decide +kernel
set_option maxRecDepth 100000 in
theorem dX5_start_34 : decode cX5_start 34 = .ok (.aload_n 0, 1) := by decide +kernel
set_option maxRecDepth 100000 in
theorem dX5_start_35 : decode cX5_start 35 = .ok (.getfield 44, 3) := by decide +kernel
set_option maxRecDepth 100000 in
theorem dX5_start_38 : decode cX5_start 38 = .ok (.iload_n 1, 1) := by decide +kernel
set_option maxRecDepth 100000 in
theorem dX5_start_39 : decode cX5_start 39 = .ok (.iconst 0, 1) := by decide +kernel
set_option maxRecDepth 100000 in
theorem dX5_start_40 : decode cX5_start 40 = .ok (.bastore, 1) := by decide +kernel
set_option maxRecDepth 100000 in
theorem dX5_start_41 : decode cX5_start 41 = .ok (.iconst 1, 1) := by decide +kernel
set_option maxRecDepth 100000 in
theorem dX5_start_42 : decode cX5_start 42 = .ok (.ireturn, 1) := by decide +kernel
set_option maxHeartbeats 4000000 in
set_option maxRecDepth 100000 in
theorem c_X5_decide (l : Launch) (hlt : l.stackTraces = false) (D : va_G) (tC : Nat → ClassId) (dz sz : Nat) (mo : Nat) (ma : Nat → Nat) (F : Nat → Nat → Int32) (th : Int32) (N L : Nat) (hJ : MI F N L) (p0 : Int32) (hN1 : N + 1 ≤ 500) : Met l yX5_decide wsX5_decide ({ frames := 3, cells := 0, slots := 0, locals := 73 }) (va_Pc [.ref mo, .int p0] (pB D tC dz (mW tC mo ma F th N L) sz)) (va_Qi (fun (r : Int32) (_ : Unit) => True) (fun (_ : Unit) t9 => ∃ (F2 : Nat → Nat → Int32) (th2 : Int32) (N2 L2 : Nat), MI F2 N2 L2 ∧ N ≤ N2 ∧ N2 ≤ N + 1 ∧ (F2 12 = F 12 ∧ F2 20 = F 20) ∧ pA D tC (va_A (mW tC mo ma F th N L) sz) (mW tC mo ma F2 th2 N2 L2) t9) (va_A (mW tC mo ma F th N L) sz)) 0 0 (va_A (mW tC mo ma F th N L) sz) := by
  refine Met.ofW (cc := cX5_decide) (maxL := 5) (ret := (some .boolean)) (by decide) rfl ?_
  intro p e s m args below meth c s₁ B hml hv
  obtain ⟨rfl, hsz, hP, hK, hD0, hN, hE⟩ := hv
  have hx := B.exec
  have hb := B.bytes
  have hr := B.returns
  have hts := atoms_spec (ws := wsX5_decide) B.pre
  have hown : s.vm.findClass RX5 = some m.cls := findClass_of_methodNamed B.named
  have hlocks := B.notSynchronized
  subst hsz
  have hD := hD0.self (sz := s.heap.size)
  have hAm : ∀ q : Nat, xN s.heap.size q → va_A (mW tC mo ma F th N L) s.heap.size q := xN_A
  have hN0 : ∀ q : Nat, s.heap.size ≤ q → xN s.heap.size q := fun _ h => h
  have hE0 := eH_narrow hE hAm
  generalize va_A (mW tC mo ma F th N L) s.heap.size = A at hD hE hAm ⊢
  have hA : ∀ q : Nat, s.heap.size ≤ q → A q := fun q h => hAm q h
  have hS : va_S (xN s.heap.size) s.heap s.heap [] := va_S.rf
  have hN9 := hJ.n9
  have hL9 := hJ.l9
  have hT : F 12 = F 12 ∧ F 20 = F 20 := ⟨rfl, rfl⟩
  have hl := lv_entry ([.ref mo, .int p0]) (n := 5) (Nat.le_of_ble_eq_true rfl)
  rw [lg_entry_eq]
  generalize (lg_sl ([.ref mo, .int p0]) ++ List.replicate (5 - (lg_sl ([.ref mo, .int p0])).length) Slot.unset).toArray = ls at hl ⊢
  have hl : lv_has ls 5 [(0, .ref mo), (1, .int p0)] := hl
  have w_0 := hts (.fieldLink RX5 51 "NoticeStationsModel" "open" "[I") (by decide +kernel)
  have w_1 := hts (.fieldLink RX5 93 "NoticeStationsModel" "thrown" "I") (by decide +kernel)
  have w_2 := hts (.fieldLink RX5 57 "NoticeStationsModel" "made" "[I") (by decide +kernel)
  have w_3 := hts (.fieldLink RX5 63 "NoticeStationsModel" "done" "[I") (by decide +kernel)
  have w_4 := hts (.fieldLink RX5 13 "NoticeStationsModel" "length" "[I") (by decide +kernel)
  have w_5 := hts (.fieldLink RX5 7 "NoticeStationsModel" "states" "I") (by decide +kernel)
  have w_6 := hts (.fieldLink RX5 17 "NoticeStationsModel" "earlier" "[I") (by decide +kernel)
  have w_7 := hts (.fieldLink RX5 20 "NoticeStationsModel" "entryOf" "[I") (by decide +kernel)
  have w_8 := hts (.fieldLink RX5 54 "NoticeStationsModel" "openEntry" "[I") (by decide +kernel)
  have w_9 := hts (.fieldLink RX5 23 "NoticeStationsModel" "writeOf" "[I") (by decide +kernel)
  have w_10 := hts (.fieldLink RX5 26 "NoticeStationsModel" "sizeOf" "[I") (by decide +kernel)
  have w_11 := hts (.fieldLink RX5 29 "NoticeStationsModel" "namedOf" "[I") (by decide +kernel)
  have w_12 := hts (.fieldLink RX5 60 "NoticeStationsModel" "group" "[I") (by decide +kernel)
  refine lv_aload_n hx hb dX5_decide_0 rfl (lv_at hl 0 rfl) ?_
  refine lv_iload_n hx hb dX5_decide_1 rfl (lv_at hl 1 rfl) ?_
  refine va_calli (va_runS (As := [.int p0]) (rest := [.ref mo]) ⟨hx, hb, hml, hown, hts⟩ (c_X5_isOne l hlt D tC dz s.heap.size mo ma F th N L hJ p0 ) (va_cwS 1 hts gX5_decide_X5_isOne rfl rfl rfl (by decide +kernel) ⟨Nat.le_of_ble_eq_true rfl, Nat.le_of_ble_eq_true rfl⟩) ⟨pB_blind, pB_at hP hD hK hN hE (hS.mono hAm) (freeA hD (hS.mono hAm) hA)⟩ rfl rfl hl.1 rfl (lv_room (Nat.le_of_ble_eq_true rfl)) dX5_decide_2 ⟨Nat.le_of_ble_eq_true rfl, Nat.le_of_ble_eq_true rfl⟩) hS oldN (freeN hS hN0) (fun r_1 u t9 H1 locs ht hvm hw hB hz1 hk1 hS => ?_)
  have hw_2 := hw
  have hP := keepP hP hk1
  generalize H1 = H at hP hS ⊢
  refine lv_if_ne (tgt := 12) hx hb dX5_decide_5 (by decide) (fun c_4 => ?_) (fun c_4 => ?_)
  · skip
    obtain ⟨k_5, hk_5, ek_5⟩ := ix5 (bl1 hw_2 c_4)
    subst ek_5
    refine lv_aload_n hx hb dX5_decide_12 rfl (lv_at hl 0 rfl) ?_
    refine va_get (D := D) (ci := 6) (v := .ref (ma 14)) (C := RX5) (T := TX5) (N := 29) hx hb hts in_X5_decide_X5 hown hK hP 0 mW_0 rfl 14 (by decide) w_0 (fun _ h9 => h9) rfl dX5_decide_13 ?_
    refine lv_iload_n hx hb dX5_decide_16 rfl (lv_at hl 1 rfl) ?_
    refine m_ild hx hb hK hP 13 (k := k_5) mW_14 (show k_5 < 5 by omega) (by decide) dX5_decide_17 ?_
    refine lv_topi (fun z_6 ez_6 => ?_)
    refine lv_if_lt (tgt := 30) hx hb dX5_decide_18 (by decide) (fun c_7 => ?_) (fun c_7 => ?_)
    · skip
      refine lv_iconst (v := 2) hx hb dX5_decide_30 (by decide) ?_
      refine lv_goto (tgt := 35) hx hb dX5_decide_31 (by decide) ?_
      have hS := hS.mono hAm
      refine va_put (D := D) (ci := 6) (v := .int 2) (ty := .int) (C := RX5) (T := TX5) (N := 29) hx hb hts in_X5_decide_X5 tyX5 tyX5_ok nmX5 hown hK hP hD hS 0 mW_0 rfl 0 (by decide) w_1 (fun _ h9 => h9) rfl (by decide +kernel) (by first | rfl | decide) (by first | rfl | decide) (Nat.le_of_ble_eq_true rfl) dX5_decide_35 (fun H locs hP hD hS => ?_)
      have hP : va_P D vwCl (mW tC mo ma F 2 N L) H := hP
      have hD : va_D A (mW tC mo ma F 2 N L) := hD
      refine lv_aload_n hx hb dX5_decide_38 rfl (lv_at hl 0 rfl) ?_
      refine va_get (D := D) (ci := 6) (v := .int 2) (C := RX5) (T := TX5) (N := 29) hx hb hts in_X5_decide_X5 hown hK hP 0 mW_0 rfl 0 (by decide) w_1 (fun _ h9 => h9) rfl dX5_decide_39 ?_
      refine lv_if_le (tgt := 47) hx hb dX5_decide_42 (by decide) (fun hc => absurd hc (by decide)) (fun _ => ?_)
      refine lv_iconst (v := 0) hx hb dX5_decide_45 (by decide) ?_
      refine W.widen (k := 0) (n := 0) (by omega) (by omega) ?_
      exact W.zret (v := 0) hx hb hr (by decide) (fun t9 ht hW => ⟨⟨0, (), rfl, trivial, ⟨F, 2, N, L, hJ, by omega, by omega, hT, (by rw [ht]; exact hP), va_K.moved hW.alike hK, hD⟩⟩, hS.F ht⟩) hS.2.2 dX5_decide_46 hlocks
    · skip
      refine lv_aload_n hx hb dX5_decide_21 rfl (lv_at hl 0 rfl) ?_
      refine va_get (D := D) (ci := 6) (v := .ref (ma 16)) (C := RX5) (T := TX5) (N := 29) hx hb hts in_X5_decide_X5 hown hK hP 0 mW_0 rfl 16 (by decide) w_2 (fun _ h9 => h9) rfl dX5_decide_22 ?_
      refine lv_iload_n hx hb dX5_decide_25 rfl (lv_at hl 1 rfl) ?_
      refine m_ild hx hb hK hP 15 (k := k_5) mW_16 (show k_5 < 5 by omega) (by decide) dX5_decide_26 ?_
      refine lv_topi (fun z_8 ez_8 => ?_)
      have qz_8 : iXn N z_8 := by rw [ez_8]; exact hJ.i16 (i := k_5) (by omega)
      refine lv_if_lt (tgt := 34) hx hb dX5_decide_27 (by decide) (fun c_9 => ?_) (fun c_9 => ?_)
      · skip
        have hh_10 : z_8 < 0 := c_9
        refine lv_iconst (v := 0) hx hb dX5_decide_34 (by decide) ?_
        have hS := hS.mono hAm
        refine va_put (D := D) (ci := 6) (v := .int 0) (ty := .int) (C := RX5) (T := TX5) (N := 29) hx hb hts in_X5_decide_X5 tyX5 tyX5_ok nmX5 hown hK hP hD hS 0 mW_0 rfl 0 (by decide) w_1 (fun _ h9 => h9) rfl (by decide +kernel) (by first | rfl | decide) (by first | rfl | decide) (Nat.le_of_ble_eq_true rfl) dX5_decide_35 (fun H locs hP hD hS => ?_)
        have hP : va_P D vwCl (mW tC mo ma F 0 N L) H := hP
        have hD : va_D A (mW tC mo ma F 0 N L) := hD
        refine lv_aload_n hx hb dX5_decide_38 rfl (lv_at hl 0 rfl) ?_
        refine va_get (D := D) (ci := 6) (v := .int 0) (C := RX5) (T := TX5) (N := 29) hx hb hts in_X5_decide_X5 hown hK hP 0 mW_0 rfl 0 (by decide) w_1 (fun _ h9 => h9) rfl dX5_decide_39 ?_
        refine lv_if_le (tgt := 47) hx hb dX5_decide_42 (by decide) (fun _ => ?_) (fun hc => absurd (by decide) hc)
        refine lv_aload_n hx hb dX5_decide_47 rfl (lv_at hl 0 rfl) ?_
        refine lv_iload_n hx hb dX5_decide_48 rfl (lv_at hl 1 rfl) ?_
        have hFA := freeA hD hS hA
        refine va_callv (va_runV (As := [.int (nI k_5)]) (rest := []) ⟨hx, hb, hml, hown, hts⟩ (c_X5_askGranted l hlt D tC dz H.size mo ma F 0 N L hJ k_5 (by omega)) (cwV 1 hts gX5_decide_X5_askGranted rfl rfl rfl (by decide +kernel) ⟨Nat.le_of_ble_eq_true rfl, Nat.le_of_ble_eq_true rfl⟩) ⟨pB_blind, va_recv hK hP (ci := 6) (q0 := 0) rfl mW_0, pB_at hP hD hK hN hE hS (freeA hD hS hA)⟩ rfl rfl hl.1 rfl (lv_room (Nat.le_of_ble_eq_true rfl)) dX5_decide_49 ⟨Nat.le_of_ble_eq_true rfl, Nat.le_of_ble_eq_true rfl⟩) hS (fun q _ h => hFA q h) hFA (fun u t9 H1 locs ht hvm hw hB hz1 hk1 hS => ?_)
        have hw_12 := hw
        obtain ⟨F_14, N_16, hI_18, hN8, hN9, hT9, hx_13, hP1, _, hD1⟩ := hB
        rw [ht] at hP1
        have hD := hD1.weaken (fun _ _ _ h9 => hFA _ h9)
        have hP := hP1
        generalize H1 = H at hP hS ⊢
        have e9 : N = N_16 := by omega
        subst e9
        have hT_19 := And.intro (hT9.1.trans hT.1) (hT9.2.trans hT.2)
        have hL9 := hI_18.l9
        have hP : va_P D vwCl (mW tC mo ma F_14 0 N L) H := hP
        have hD : va_D A (mW tC mo ma F_14 0 N L) := hD
        have m_20 : F_14 14 k_5 = z_6 := (congrFun ((hx_13.1) 14 (by decide)) _).trans ez_6.symm
        have m_21 : F_14 16 k_5 = z_8 := (congrFun ((hx_13.1) 16 (by decide)) _).trans ez_8.symm
        refine lv_aload_n hx hb dX5_decide_52 rfl (lv_at hl 0 rfl) ?_
        refine va_calli (va_runV (As := []) (rest := []) ⟨hx, hb, hml, hown, hts⟩ (c_X5_mayGoOn l hlt D tC dz H.size mo ma F_14 0 N L hI_18  ) (cwV 0 hts gX5_decide_X5_mayGoOn rfl rfl rfl (by decide +kernel) ⟨Nat.le_of_ble_eq_true rfl, Nat.le_of_ble_eq_true rfl⟩) ⟨pB_blind, va_recv hK hP (ci := 6) (q0 := 0) rfl mW_0, pB_at hP hD hK hN hE hS (freeA hD hS hA)⟩ rfl rfl hl.1 rfl (lv_room (Nat.le_of_ble_eq_true rfl)) dX5_decide_53 ⟨Nat.le_of_ble_eq_true rfl, Nat.le_of_ble_eq_true rfl⟩) hS oldN (freeN hS hA) (fun r_22 u t9 H1 locs ht hvm hw hB hz1 hk1 hS => ?_)
        have hw_23 := hw
        have hP := keepP hP hk1
        generalize H1 = H at hP hS ⊢
        refine lv_if_ne (tgt := 61) hx hb dX5_decide_56 (by decide) (fun c_25 => ?_) (fun c_25 => ?_)
        · skip
          refine lv_aload_n hx hb dX5_decide_61 rfl (lv_at hl 0 rfl) ?_
          refine va_calli (va_runV (As := []) (rest := []) ⟨hx, hb, hml, hown, hts⟩ (c_X5_greatest l hlt D tC dz H.size mo ma F_14 0 N L hI_18  ) (cwV 0 hts gX5_decide_X5_greatest rfl rfl rfl (by decide +kernel) ⟨Nat.le_of_ble_eq_true rfl, Nat.le_of_ble_eq_true rfl⟩) ⟨pB_blind, va_recv hK hP (ci := 6) (q0 := 0) rfl mW_0, pB_at hP hD hK hN hE hS (freeA hD hS hA)⟩ rfl rfl hl.1 rfl (lv_room (Nat.le_of_ble_eq_true rfl)) dX5_decide_62 ⟨Nat.le_of_ble_eq_true rfl, Nat.le_of_ble_eq_true rfl⟩) hS oldN (freeN hS hA) (fun r_26 u t9 H1 locs ht hvm hw hB hz1 hk1 hS => ?_)
          have hw_27 := hw
          have hP := keepP hP hk1
          generalize H1 = H at hP hS ⊢
          have q_29 := gi_n hw_27
          have hex9 := hw_23.resolve_left c_25
          obtain ⟨k_30, hk_30, ek_30⟩ := gi_6 hw_27 (by omega) hex9
          subst ek_30
          obtain ⟨kb, hkb, hbb⟩ := dc_bit (a := k_5) (by omega) hex9 hx_13.2
          refine lv_istore_n (lv' := [(2, .int (nI k_30)), (0, .ref mo), (1, .int (nI k_5))]) hx hb dX5_decide_65 rfl hl (by decide) rfl (fun ls hl => ?_)
          refine lv_aload_n hx hb dX5_decide_66 rfl (lv_at hl 1 rfl) ?_
          refine va_get (D := D) (ci := 6) (v := .ref (ma 18)) (C := RX5) (T := TX5) (N := 29) hx hb hts in_X5_decide_X5 hown hK hP 0 mW_0 rfl 18 (by decide) w_3 (fun _ h9 => h9) rfl dX5_decide_67 ?_
          refine lv_iload_n hx hb dX5_decide_70 rfl (lv_at hl 2 rfl) ?_
          refine m_ild hx hb hK hP 17 (k := k_5) mW_18 (show k_5 < 5 by omega) (by decide) dX5_decide_71 ?_
          refine lv_topi (fun z_31 ez_31 => ?_)
          refine va_calli (va_runS (As := [.int z_31]) (rest := []) ⟨hx, hb, hml, hown, hts⟩ (c_X5_many l hlt D tC dz H.size mo ma F_14 0 N L hI_18 z_31 ) (va_cwS 1 hts gX5_decide_X5_many rfl rfl rfl (by decide +kernel) ⟨Nat.le_of_ble_eq_true rfl, Nat.le_of_ble_eq_true rfl⟩) ⟨pB_blind, pB_at hP hD hK hN hE hS (freeA hD hS hA)⟩ rfl rfl hl.1 rfl (lv_room (Nat.le_of_ble_eq_true rfl)) dX5_decide_72 ⟨Nat.le_of_ble_eq_true rfl, Nat.le_of_ble_eq_true rfl⟩) hS oldN (freeN hS hA) (fun r_32 u t9 H1 locs ht hvm hw hB hz1 hk1 hS => ?_)
          have hw_33 := hw
          have hP := keepP hP hk1
          generalize H1 = H at hP hS ⊢
          subst hw_33
          have hm9 := mny_le z_31 5
          refine lv_istore_n (lv' := [(3, .int (nI (mny z_31 5))), (2, .int (nI k_30)), (0, .ref mo), (1, .int (nI k_5))]) hx hb dX5_decide_75 rfl hl (by decide) rfl (fun ls hl => ?_)
          refine lv_aload_n hx hb dX5_decide_76 rfl (lv_at hl 2 rfl) ?_
          refine lv_aload_n hx hb dX5_decide_77 rfl (lv_at hl 2 rfl) ?_
          refine lv_iload_n hx hb dX5_decide_78 rfl (lv_at hl 0 rfl) ?_
          refine lv_iconst (v := 1) hx hb dX5_decide_79 (by decide) ?_
          refine lv_isub hx hb dX5_decide_80 ?_
          refine lv_topi (fun z_35 ez_35 => ?_)
          refine va_calli (va_runV (As := [.int z_35]) (rest := [.ref mo]) ⟨hx, hb, hml, hown, hts⟩ (c_X5_isFull l hlt D tC dz H.size mo ma F_14 0 N L hI_18 z_35 ) (cwV 1 hts gX5_decide_X5_isFull rfl rfl rfl (by decide +kernel) ⟨Nat.le_of_ble_eq_true rfl, Nat.le_of_ble_eq_true rfl⟩) ⟨pB_blind, va_recv hK hP (ci := 6) (q0 := 0) rfl mW_0, pB_at hP hD hK hN hE hS (freeA hD hS hA)⟩ rfl rfl hl.1 rfl (lv_room (Nat.le_of_ble_eq_true rfl)) dX5_decide_81 ⟨Nat.le_of_ble_eq_true rfl, Nat.le_of_ble_eq_true rfl⟩) hS oldN (freeN hS hA) (fun r_36 u t9 H1 locs ht hvm hw hB hz1 hk1 hS => ?_)
          have hw_37 := hw
          have hP := keepP hP hk1
          generalize H1 = H at hP hS ⊢
          refine lv_if_ne (tgt := 98) hx hb dX5_decide_84 (by decide) (fun c_39 => ?_) (fun c_39 => ?_)
          · skip
            refine lv_iconst (v := 3) hx hb dX5_decide_98 (by decide) ?_
            refine lv_goto (tgt := 103) hx hb dX5_decide_99 (by decide) ?_
            refine va_put (D := D) (ci := 6) (v := .int 3) (ty := .int) (C := RX5) (T := TX5) (N := 29) hx hb hts in_X5_decide_X5 tyX5 tyX5_ok nmX5 hown hK hP hD hS 0 mW_0 rfl 0 (by decide) w_1 (fun _ h9 => h9) rfl (by decide +kernel) (by first | rfl | decide) (by first | rfl | decide) (Nat.le_of_ble_eq_true rfl) dX5_decide_103 (fun H locs hP hD hS => ?_)
            have hP : va_P D vwCl (mW tC mo ma F_14 3 N L) H := hP
            have hD : va_D A (mW tC mo ma F_14 3 N L) := hD
            refine lv_aload_n hx hb dX5_decide_106 rfl (lv_at hl 2 rfl) ?_
            refine va_get (D := D) (ci := 6) (v := .int 3) (C := RX5) (T := TX5) (N := 29) hx hb hts in_X5_decide_X5 hown hK hP 0 mW_0 rfl 0 (by decide) w_1 (fun _ h9 => h9) rfl dX5_decide_107 ?_
            refine lv_if_le (tgt := 115) hx hb dX5_decide_110 (by decide) (fun hc => absurd hc (by decide)) (fun _ => ?_)
            refine lv_iconst (v := 0) hx hb dX5_decide_113 (by decide) ?_
            refine W.widen (k := 0) (n := 0) (by omega) (by omega) ?_
            exact W.zret (v := 0) hx hb hr (by decide) (fun t9 ht hW => ⟨⟨0, (), rfl, trivial, ⟨F_14, 3, N, L, hI_18, by omega, by omega, hT_19, (by rw [ht]; exact hP), va_K.moved hW.alike hK, hD⟩⟩, hS.F ht⟩) hS.2.2 dX5_decide_114 hlocks
          · skip
            refine lv_aload_n hx hb dX5_decide_87 rfl (lv_at hl 2 rfl) ?_
            refine va_get (D := D) (ci := 6) (v := .ref (ma 2)) (C := RX5) (T := TX5) (N := 29) hx hb hts in_X5_decide_X5 hown hK hP 0 mW_0 rfl 2 (by decide) w_4 (fun _ h9 => h9) rfl dX5_decide_88 ?_
            refine lv_iload_n hx hb dX5_decide_91 rfl (lv_at hl 1 rfl) ?_
            refine m_ild hx hb hK hP 1 (k := k_30) mW_2 (show k_30 < 600 by omega) (by decide) dX5_decide_92 ?_
            obtain ⟨n_40, hn_40, en_40, gn_40⟩ := hI_18.i2 (y := k_30) (by omega)
            refine lv_topi (fun z_41 ez_41 => ?_)
            have fz_41 : z_41 = (nI n_40) := ez_41.trans (en_40)
            subst fz_41
            refine lv_bipush (v := 16) hx hb dX5_decide_93 (by decide) ?_
            refine lv_icmp_ne (tgt := 102) hx hb dX5_decide_95 (by decide) (fun c_42 => ?_) (fun c_42 => ?_)
            · skip
              refine lv_iconst (v := 0) hx hb dX5_decide_102 (by decide) ?_
              refine va_put (D := D) (ci := 6) (v := .int 0) (ty := .int) (C := RX5) (T := TX5) (N := 29) hx hb hts in_X5_decide_X5 tyX5 tyX5_ok nmX5 hown hK hP hD hS 0 mW_0 rfl 0 (by decide) w_1 (fun _ h9 => h9) rfl (by decide +kernel) (by first | rfl | decide) (by first | rfl | decide) (Nat.le_of_ble_eq_true rfl) dX5_decide_103 (fun H locs hP hD hS => ?_)
              have hP : va_P D vwCl (mW tC mo ma F_14 0 N L) H := hP
              have hD : va_D A (mW tC mo ma F_14 0 N L) := hD
              refine lv_aload_n hx hb dX5_decide_106 rfl (lv_at hl 2 rfl) ?_
              refine va_get (D := D) (ci := 6) (v := .int 0) (C := RX5) (T := TX5) (N := 29) hx hb hts in_X5_decide_X5 hown hK hP 0 mW_0 rfl 0 (by decide) w_1 (fun _ h9 => h9) rfl dX5_decide_107 ?_
              refine lv_if_le (tgt := 115) hx hb dX5_decide_110 (by decide) (fun _ => ?_) (fun hc => absurd (by decide) hc)
              refine lv_iconst (v := 0) hx hb dX5_decide_115 (by decide) ?_
              refine lv_istore (lv' := [(4, .int 0), (3, .int (nI (mny z_31 5))), (2, .int (nI k_30)), (0, .ref mo), (1, .int (nI k_5))]) hx hb dX5_decide_116 hl (by decide) rfl (fun ls hl => ?_)
              have hbz : hasb z_31 (nI kb) := by rw [ez_31, hx_13.1 18 (by decide)]; exact hbb
              refine lpW (S := Nat) (fun y => kb - y) (fun y => y ≤ kb) (fun y => [(4, .int (nI y)), (3, .int (nI (mny z_31 5))), (2, .int (nI k_30)), (0, .ref mo), (1, .int (nI k_5))]) (u0 := 0) (fun y_43 H locs ls hiy_43 hP hS hl ih_118 => ?_) (by omega) hP hS hl
              have hiy_43 : y_43 ≤ kb := hiy_43
              have hl : lv_has ls 5 [(4, .int (nI y_43)), (3, .int (nI (mny z_31 5))), (2, .int (nI k_30)), (0, .ref mo), (1, .int (nI k_5))] := hl
              refine lv_aload_n hx hb dX5_decide_118 rfl (lv_at hl 3 rfl) ?_
              refine va_get (D := D) (ci := 6) (v := .ref (ma 18)) (C := RX5) (T := TX5) (N := 29) hx hb hts in_X5_decide_X5 hown hK hP 0 mW_0 rfl 18 (by decide) w_3 (fun _ h9 => h9) rfl dX5_decide_119 ?_
              refine lv_iload_n hx hb dX5_decide_122 rfl (lv_at hl 4 rfl) ?_
              refine m_ild hx hb hK hP 17 (k := k_5) mW_18 (show k_5 < 5 by omega) (by decide) dX5_decide_123 ?_
              refine lv_eqi (v := z_31) (ez_31.symm) ?_
              refine lv_iload hx hb dX5_decide_124 (lv_at hl 0 rfl) ?_
              refine va_calli (va_runS (As := [.int z_31, .int (nI y_43)]) (rest := []) ⟨hx, hb, hml, hown, hts⟩ (c_X5_has l hlt D tC dz H.size mo ma F_14 0 N L hI_18 z_31 (nI y_43) ) (va_cwS 2 hts gX5_decide_X5_has rfl rfl rfl (by decide +kernel) ⟨Nat.le_of_ble_eq_true rfl, Nat.le_of_ble_eq_true rfl⟩) ⟨pB_blind, pB_at hP hD hK hN hE hS (freeA hD hS hA)⟩ rfl rfl hl.1 rfl (lv_room (Nat.le_of_ble_eq_true rfl)) dX5_decide_126 ⟨Nat.le_of_ble_eq_true rfl, Nat.le_of_ble_eq_true rfl⟩) hS oldN (freeN hS hA) (fun r_44 u t9 H1 locs ht hvm hw hB hz1 hk1 hS => ?_)
              have hw_45 := hw
              have hP := keepP hP hk1
              generalize H1 = H at hP hS ⊢
              refine lv_if_ne (tgt := 138) hx hb dX5_decide_129 (by decide) (fun c_47 => ?_) (fun c_47 => ?_)
              · skip
                have hh_48 := hb1 hw_45 c_47
                refine lv_aload_n hx hb dX5_decide_138 rfl (lv_at hl 3 rfl) ?_
                refine va_get (D := D) (ci := 6) (v := .int (nI N)) (C := RX5) (T := TX5) (N := 29) hx hb hts in_X5_decide_X5 hown hK hP 0 mW_0 rfl 1 (by decide) w_5 (fun _ h9 => h9) rfl dX5_decide_139 ?_
                refine lv_aload_n hx hb dX5_decide_142 rfl (lv_at hl 3 rfl) ?_
                refine va_get (D := D) (ci := 6) (v := .ref (ma 2)) (C := RX5) (T := TX5) (N := 29) hx hb hts in_X5_decide_X5 hown hK hP 0 mW_0 rfl 2 (by decide) w_4 (fun _ h9 => h9) rfl dX5_decide_143 ?_
                refine va_alen (v := 600) hx hb hK hP 1 0 mW_2 rfl (by first | decide | rfl) dX5_decide_146 ?_
                refine lv_icmp_ne (tgt := 216) hx hb dX5_decide_147 (by decide) (fun _ => ?_) (fun hc => absurd hc (fun h9 => absurd ((nI_eq (b := 600) (by omega) (by omega)).mp h9) (by omega)))
                have hn16 : n_40 ≠ 16 := fun h9 => c_42 (by rw [h9]; rfl)
                refine lv_aload_n hx hb dX5_decide_216 rfl (lv_at hl 3 rfl) ?_
                refine va_get (D := D) (ci := 6) (v := .ref (ma 2)) (C := RX5) (T := TX5) (N := 29) hx hb hts in_X5_decide_X5 hown hK hP 0 mW_0 rfl 2 (by decide) w_4 (fun _ h9 => h9) rfl dX5_decide_217 ?_
                refine lv_aload_n hx hb dX5_decide_220 rfl (lv_at hl 3 rfl) ?_
                refine va_get (D := D) (ci := 6) (v := .int (nI N)) (C := RX5) (T := TX5) (N := 29) hx hb hts in_X5_decide_X5 hown hK hP 0 mW_0 rfl 1 (by decide) w_5 (fun _ h9 => h9) rfl dX5_decide_221 ?_
                refine lv_aload_n hx hb dX5_decide_224 rfl (lv_at hl 3 rfl) ?_
                refine va_get (D := D) (ci := 6) (v := .ref (ma 2)) (C := RX5) (T := TX5) (N := 29) hx hb hts in_X5_decide_X5 hown hK hP 0 mW_0 rfl 2 (by decide) w_4 (fun _ h9 => h9) rfl dX5_decide_225 ?_
                refine lv_iload_n hx hb dX5_decide_228 rfl (lv_at hl 2 rfl) ?_
                refine m_ild hx hb hK hP 1 (k := k_30) mW_2 (show k_30 < 600 by omega) (by decide) dX5_decide_229 ?_
                refine lv_topi (fun z_49 ez_49 => ?_)
                have fz_49 : z_49 = (nI n_40) := ez_49.trans (en_40)
                subst fz_49
                refine lv_iconst (v := 1) hx hb dX5_decide_230 (by decide) ?_
                refine lv_iadd hx hb dX5_decide_231 ?_
                refine lv_topi (fun z_50 ez_50 => ?_)
                have fz_50 : z_50 = (nI (n_40 + 1)) := ez_50.trans (show nI n_40 + nI 1 = _ from nI_add _ _)
                subst fz_50
                refine m_ist hx hb hK hP hD hS 1 (j := 2) (k := N) (x := (nI (n_40 + 1))) mW_2 mS_2 (show N < 600 by omega) (by decide) dX5_decide_232 (fun F_51 H locs hF_51 hP hD hS => ?_)
                have m_52 := mm_put m_20 hF_51 (show 14 ≠ 2 by decide)
                have m_53 := mm_put m_21 hF_51 (show 16 ≠ 2 by decide)
                have m_54 := mm_put ez_31.symm hF_51 (show 18 ≠ 2 by decide)
                have m_55 := mm_at hF_51
                have hI_56 := hI_18.p2 hF_51 (by omega)
                have hT_57 := tt_put hT_19 hF_51 (by decide) (by decide)
                refine lv_aload_n hx hb dX5_decide_233 rfl (lv_at hl 3 rfl) ?_
                refine va_get (D := D) (ci := 6) (v := .ref (ma 3)) (C := RX5) (T := TX5) (N := 29) hx hb hts in_X5_decide_X5 hown hK hP 0 mW_0 rfl 3 (by decide) w_6 (fun _ h9 => h9) rfl dX5_decide_234 ?_
                refine lv_aload_n hx hb dX5_decide_237 rfl (lv_at hl 3 rfl) ?_
                refine va_get (D := D) (ci := 6) (v := .int (nI N)) (C := RX5) (T := TX5) (N := 29) hx hb hts in_X5_decide_X5 hown hK hP 0 mW_0 rfl 1 (by decide) w_5 (fun _ h9 => h9) rfl dX5_decide_238 ?_
                refine lv_iload_n hx hb dX5_decide_241 rfl (lv_at hl 2 rfl) ?_
                refine m_ist hx hb hK hP hD hS 2 (j := 3) (k := N) (x := (nI k_30)) mW_3 mS_3 (show N < 600 by omega) (by decide) dX5_decide_242 (fun F_58 H locs hF_58 hP hD hS => ?_)
                have m_59 := mm_put m_52 hF_58 (show 14 ≠ 3 by decide)
                have m_60 := mm_put m_53 hF_58 (show 16 ≠ 3 by decide)
                have m_61 := mm_put m_54 hF_58 (show 18 ≠ 3 by decide)
                have m_62 := mm_put m_55 hF_58 (show 2 ≠ 3 by decide)
                have m_63 := mm_at hF_58
                have hI_64 := hI_56.p3 hF_58 (by omega)
                have hT_65 := tt_put hT_57 hF_58 (by decide) (by decide)
                refine lv_aload_n hx hb dX5_decide_243 rfl (lv_at hl 3 rfl) ?_
                refine va_get (D := D) (ci := 6) (v := .ref (ma 4)) (C := RX5) (T := TX5) (N := 29) hx hb hts in_X5_decide_X5 hown hK hP 0 mW_0 rfl 4 (by decide) w_7 (fun _ h9 => h9) rfl dX5_decide_244 ?_
                refine lv_aload_n hx hb dX5_decide_247 rfl (lv_at hl 3 rfl) ?_
                refine va_get (D := D) (ci := 6) (v := .int (nI N)) (C := RX5) (T := TX5) (N := 29) hx hb hts in_X5_decide_X5 hown hK hP 0 mW_0 rfl 1 (by decide) w_5 (fun _ h9 => h9) rfl dX5_decide_248 ?_
                refine lv_aload_n hx hb dX5_decide_251 rfl (lv_at hl 3 rfl) ?_
                refine va_get (D := D) (ci := 6) (v := .ref (ma 15)) (C := RX5) (T := TX5) (N := 29) hx hb hts in_X5_decide_X5 hown hK hP 0 mW_0 rfl 15 (by decide) w_8 (fun _ h9 => h9) rfl dX5_decide_252 ?_
                refine lv_iload_n hx hb dX5_decide_255 rfl (lv_at hl 4 rfl) ?_
                refine m_ild hx hb hK hP 14 (k := k_5) mW_15 (show k_5 < 5 by omega) (by decide) dX5_decide_256 ?_
                refine lv_topi (fun z_66 ez_66 => ?_)
                refine m_ist hx hb hK hP hD hS 3 (j := 4) (k := N) (x := z_66) mW_4 mS_4 (show N < 600 by omega) (by decide) dX5_decide_257 (fun F_67 H locs hF_67 hP hD hS => ?_)
                have m_68 := mm_put m_59 hF_67 (show 14 ≠ 4 by decide)
                have m_69 := mm_put m_60 hF_67 (show 16 ≠ 4 by decide)
                have m_70 := mm_put m_61 hF_67 (show 18 ≠ 4 by decide)
                have m_71 := mm_put m_62 hF_67 (show 2 ≠ 4 by decide)
                have m_72 := mm_put m_63 hF_67 (show 3 ≠ 4 by decide)
                have m_73 := mm_put ez_66.symm hF_67 (show 15 ≠ 4 by decide)
                have m_74 := mm_at hF_67
                have hI_75 := hI_64.fr hF_67 (by decide)
                have hT_76 := tt_put hT_65 hF_67 (by decide) (by decide)
                refine lv_aload_n hx hb dX5_decide_258 rfl (lv_at hl 3 rfl) ?_
                refine va_get (D := D) (ci := 6) (v := .ref (ma 5)) (C := RX5) (T := TX5) (N := 29) hx hb hts in_X5_decide_X5 hown hK hP 0 mW_0 rfl 5 (by decide) w_9 (fun _ h9 => h9) rfl dX5_decide_259 ?_
                refine lv_aload_n hx hb dX5_decide_262 rfl (lv_at hl 3 rfl) ?_
                refine va_get (D := D) (ci := 6) (v := .int (nI N)) (C := RX5) (T := TX5) (N := 29) hx hb hts in_X5_decide_X5 hown hK hP 0 mW_0 rfl 1 (by decide) w_5 (fun _ h9 => h9) rfl dX5_decide_263 ?_
                refine lv_aload_n hx hb dX5_decide_266 rfl (lv_at hl 3 rfl) ?_
                refine va_get (D := D) (ci := 6) (v := .ref (ma 14)) (C := RX5) (T := TX5) (N := 29) hx hb hts in_X5_decide_X5 hown hK hP 0 mW_0 rfl 14 (by decide) w_0 (fun _ h9 => h9) rfl dX5_decide_267 ?_
                refine lv_iload_n hx hb dX5_decide_270 rfl (lv_at hl 4 rfl) ?_
                refine m_ild hx hb hK hP 13 (k := k_5) mW_14 (show k_5 < 5 by omega) (by decide) dX5_decide_271 ?_
                refine lv_eqi (v := z_6) (m_68) ?_
                refine m_ist hx hb hK hP hD hS 4 (j := 5) (k := N) (x := z_6) mW_5 mS_5 (show N < 600 by omega) (by decide) dX5_decide_272 (fun F_77 H locs hF_77 hP hD hS => ?_)
                have m_78 := mm_put m_68 hF_77 (show 14 ≠ 5 by decide)
                have m_79 := mm_put m_69 hF_77 (show 16 ≠ 5 by decide)
                have m_80 := mm_put m_70 hF_77 (show 18 ≠ 5 by decide)
                have m_81 := mm_put m_71 hF_77 (show 2 ≠ 5 by decide)
                have m_82 := mm_put m_72 hF_77 (show 3 ≠ 5 by decide)
                have m_83 := mm_put m_73 hF_77 (show 15 ≠ 5 by decide)
                have m_84 := mm_put m_74 hF_77 (show 4 ≠ 5 by decide)
                have m_85 := mm_at hF_77
                have hI_86 := hI_75.fr hF_77 (by decide)
                have hT_87 := tt_put hT_76 hF_77 (by decide) (by decide)
                refine lv_aload_n hx hb dX5_decide_273 rfl (lv_at hl 3 rfl) ?_
                refine va_get (D := D) (ci := 6) (v := .ref (ma 6)) (C := RX5) (T := TX5) (N := 29) hx hb hts in_X5_decide_X5 hown hK hP 0 mW_0 rfl 6 (by decide) w_10 (fun _ h9 => h9) rfl dX5_decide_274 ?_
                refine lv_aload_n hx hb dX5_decide_277 rfl (lv_at hl 3 rfl) ?_
                refine va_get (D := D) (ci := 6) (v := .int (nI N)) (C := RX5) (T := TX5) (N := 29) hx hb hts in_X5_decide_X5 hown hK hP 0 mW_0 rfl 1 (by decide) w_5 (fun _ h9 => h9) rfl dX5_decide_278 ?_
                refine lv_iload_n hx hb dX5_decide_281 rfl (lv_at hl 1 rfl) ?_
                refine m_ist hx hb hK hP hD hS 5 (j := 6) (k := N) (x := (nI (mny z_31 5))) mW_6 mS_6 (show N < 600 by omega) (by decide) dX5_decide_282 (fun F_88 H locs hF_88 hP hD hS => ?_)
                have m_89 := mm_put m_78 hF_88 (show 14 ≠ 6 by decide)
                have m_90 := mm_put m_79 hF_88 (show 16 ≠ 6 by decide)
                have m_91 := mm_put m_80 hF_88 (show 18 ≠ 6 by decide)
                have m_92 := mm_put m_81 hF_88 (show 2 ≠ 6 by decide)
                have m_93 := mm_put m_82 hF_88 (show 3 ≠ 6 by decide)
                have m_94 := mm_put m_83 hF_88 (show 15 ≠ 6 by decide)
                have m_95 := mm_put m_84 hF_88 (show 4 ≠ 6 by decide)
                have m_96 := mm_put m_85 hF_88 (show 5 ≠ 6 by decide)
                have m_97 := mm_at hF_88
                have hI_98 := hI_86.fr hF_88 (by decide)
                have hT_99 := tt_put hT_87 hF_88 (by decide) (by decide)
                refine lv_aload_n hx hb dX5_decide_283 rfl (lv_at hl 3 rfl) ?_
                refine va_get (D := D) (ci := 6) (v := .ref (ma 7)) (C := RX5) (T := TX5) (N := 29) hx hb hts in_X5_decide_X5 hown hK hP 0 mW_0 rfl 7 (by decide) w_11 (fun _ h9 => h9) rfl dX5_decide_284 ?_
                refine lv_aload_n hx hb dX5_decide_287 rfl (lv_at hl 3 rfl) ?_
                refine va_get (D := D) (ci := 6) (v := .int (nI N)) (C := RX5) (T := TX5) (N := 29) hx hb hts in_X5_decide_X5 hown hK hP 0 mW_0 rfl 1 (by decide) w_5 (fun _ h9 => h9) rfl dX5_decide_288 ?_
                refine lv_iload hx hb dX5_decide_291 (lv_at hl 0 rfl) ?_
                refine m_ist hx hb hK hP hD hS 6 (j := 7) (k := N) (x := (nI y_43)) mW_7 mS_7 (show N < 600 by omega) (by decide) dX5_decide_293 (fun F_100 H locs hF_100 hP hD hS => ?_)
                have m_101 := mm_put m_89 hF_100 (show 14 ≠ 7 by decide)
                have m_102 := mm_put m_90 hF_100 (show 16 ≠ 7 by decide)
                have m_103 := mm_put m_91 hF_100 (show 18 ≠ 7 by decide)
                have m_104 := mm_put m_92 hF_100 (show 2 ≠ 7 by decide)
                have m_105 := mm_put m_93 hF_100 (show 3 ≠ 7 by decide)
                have m_106 := mm_put m_94 hF_100 (show 15 ≠ 7 by decide)
                have m_107 := mm_put m_95 hF_100 (show 4 ≠ 7 by decide)
                have m_108 := mm_put m_96 hF_100 (show 5 ≠ 7 by decide)
                have m_109 := mm_put m_97 hF_100 (show 6 ≠ 7 by decide)
                have m_110 := mm_at hF_100
                have hI_111 := hI_98.fr hF_100 (by decide)
                have hT_112 := tt_put hT_99 hF_100 (by decide) (by decide)
                have hI_113 := hI_111.bN (n := n_40 + 1) (by omega) m_104 ⟨k_30, by omega, m_105⟩ (by omega)
                refine lv_aload_n hx hb dX5_decide_294 rfl (lv_at hl 3 rfl) ?_
                refine va_get (D := D) (ci := 6) (v := .ref (ma 16)) (C := RX5) (T := TX5) (N := 29) hx hb hts in_X5_decide_X5 hown hK hP 0 mW_0 rfl 16 (by decide) w_2 (fun _ h9 => h9) rfl dX5_decide_295 ?_
                refine lv_iload_n hx hb dX5_decide_298 rfl (lv_at hl 4 rfl) ?_
                refine lv_aload_n hx hb dX5_decide_299 rfl (lv_at hl 3 rfl) ?_
                refine va_get (D := D) (ci := 6) (v := .int (nI N)) (C := RX5) (T := TX5) (N := 29) hx hb hts in_X5_decide_X5 hown hK hP 0 mW_0 rfl 1 (by decide) w_5 (fun _ h9 => h9) rfl dX5_decide_300 ?_
                refine m_ist hx hb hK hP hD hS 15 (j := 16) (k := k_5) (x := (nI N)) mW_16 mS_16 (show k_5 < 5 by omega) (by decide) dX5_decide_303 (fun F_114 H locs hF_114 hP hD hS => ?_)
                have m_115 := mm_put m_101 hF_114 (show 14 ≠ 16 by decide)
                have m_116 := mm_put m_103 hF_114 (show 18 ≠ 16 by decide)
                have m_117 := mm_put m_104 hF_114 (show 2 ≠ 16 by decide)
                have m_118 := mm_put m_105 hF_114 (show 3 ≠ 16 by decide)
                have m_119 := mm_put m_106 hF_114 (show 15 ≠ 16 by decide)
                have m_120 := mm_put m_107 hF_114 (show 4 ≠ 16 by decide)
                have m_121 := mm_put m_108 hF_114 (show 5 ≠ 16 by decide)
                have m_122 := mm_put m_109 hF_114 (show 6 ≠ 16 by decide)
                have m_123 := mm_put m_110 hF_114 (show 7 ≠ 16 by decide)
                have m_124 := mm_at hF_114
                have hI_125 := hI_113.p16 hF_114 (Or.inr ⟨N, by omega, rfl⟩)
                have hT_126 := tt_put hT_112 hF_114 (by decide) (by decide)
                refine lv_aload_n hx hb dX5_decide_304 rfl (lv_at hl 3 rfl) ?_
                refine lv_dup hx hb dX5_decide_305 rfl ?_
                refine va_get (D := D) (ci := 6) (v := .int (nI N)) (C := RX5) (T := TX5) (N := 29) hx hb hts in_X5_decide_X5 hown hK hP 0 mW_0 rfl 1 (by decide) w_5 (fun _ h9 => h9) rfl dX5_decide_306 ?_
                refine lv_iconst (v := 1) hx hb dX5_decide_309 (by decide) ?_
                refine lv_iadd hx hb dX5_decide_310 ?_
                refine lv_topi (fun z_127 ez_127 => ?_)
                have fz_127 : z_127 = (nI (N + 1)) := ez_127.trans (show nI N + nI 1 = _ from nI_add _ _)
                subst fz_127
                refine va_put (D := D) (ci := 6) (v := .int (nI (N + 1))) (ty := .int) (C := RX5) (T := TX5) (N := 29) hx hb hts in_X5_decide_X5 tyX5 tyX5_ok nmX5 hown hK hP hD hS 0 mW_0 rfl 1 (by decide) w_5 (fun _ h9 => h9) rfl (by decide +kernel) (by first | rfl | decide) (by first | rfl | decide) (Nat.le_of_ble_eq_true rfl) dX5_decide_311 (fun H locs hP hD hS => ?_)
                have hP : va_P D vwCl (mW tC mo ma F_114 0 (N + 1) L) H := hP
                have hD : va_D A (mW tC mo ma F_114 0 (N + 1) L) := hD
                refine lv_aload_n hx hb dX5_decide_314 rfl (lv_at hl 3 rfl) ?_
                refine va_get (D := D) (ci := 6) (v := .ref (ma 17)) (C := RX5) (T := TX5) (N := 29) hx hb hts in_X5_decide_X5 hown hK hP 0 mW_0 rfl 17 (by decide) w_12 (fun _ h9 => h9) rfl dX5_decide_315 ?_
                refine lv_iload_n hx hb dX5_decide_318 rfl (lv_at hl 4 rfl) ?_
                refine lv_aload_n hx hb dX5_decide_319 rfl (lv_at hl 3 rfl) ?_
                refine va_get (D := D) (ci := 6) (v := .ref (ma 18)) (C := RX5) (T := TX5) (N := 29) hx hb hts in_X5_decide_X5 hown hK hP 0 mW_0 rfl 18 (by decide) w_3 (fun _ h9 => h9) rfl dX5_decide_320 ?_
                refine lv_iload_n hx hb dX5_decide_323 rfl (lv_at hl 4 rfl) ?_
                refine m_ild hx hb hK hP 17 (k := k_5) mW_18 (show k_5 < 5 by omega) (by decide) dX5_decide_324 ?_
                refine lv_eqi (v := z_31) (m_116) ?_
                refine m_ist hx hb hK hP hD hS 16 (j := 17) (k := k_5) (x := z_31) mW_17 mS_17 (show k_5 < 5 by omega) (by decide) dX5_decide_325 (fun F_128 H locs hF_128 hP hD hS => ?_)
                have m_129 := mm_put m_115 hF_128 (show 14 ≠ 17 by decide)
                have m_130 := mm_put m_116 hF_128 (show 18 ≠ 17 by decide)
                have m_131 := mm_put m_117 hF_128 (show 2 ≠ 17 by decide)
                have m_132 := mm_put m_118 hF_128 (show 3 ≠ 17 by decide)
                have m_133 := mm_put m_119 hF_128 (show 15 ≠ 17 by decide)
                have m_134 := mm_put m_120 hF_128 (show 4 ≠ 17 by decide)
                have m_135 := mm_put m_121 hF_128 (show 5 ≠ 17 by decide)
                have m_136 := mm_put m_122 hF_128 (show 6 ≠ 17 by decide)
                have m_137 := mm_put m_123 hF_128 (show 7 ≠ 17 by decide)
                have m_138 := mm_put m_124 hF_128 (show 16 ≠ 17 by decide)
                have m_139 := mm_at hF_128
                have hI_140 := hI_125.fr hF_128 (by decide)
                have hT_141 := tt_put hT_126 hF_128 (by decide) (by decide)
                refine lv_aload_n hx hb dX5_decide_326 rfl (lv_at hl 3 rfl) ?_
                refine va_get (D := D) (ci := 6) (v := .ref (ma 18)) (C := RX5) (T := TX5) (N := 29) hx hb hts in_X5_decide_X5 hown hK hP 0 mW_0 rfl 18 (by decide) w_3 (fun _ h9 => h9) rfl dX5_decide_327 ?_
                refine lv_iload_n hx hb dX5_decide_330 rfl (lv_at hl 4 rfl) ?_
                refine lv_iconst (v := 1) hx hb dX5_decide_331 (by decide) ?_
                refine lv_iload_n hx hb dX5_decide_332 rfl (lv_at hl 4 rfl) ?_
                refine lv_ishl hx hb dX5_decide_333 ?_
                refine lv_topi (fun z_142 ez_142 => ?_)
                refine m_ist hx hb hK hP hD hS 17 (j := 18) (k := k_5) (x := z_142) mW_18 mS_18 (show k_5 < 5 by omega) (by decide) dX5_decide_334 (fun F_143 H locs hF_143 hP hD hS => ?_)
                have m_144 := mm_put m_129 hF_143 (show 14 ≠ 18 by decide)
                have m_145 := mm_put m_131 hF_143 (show 2 ≠ 18 by decide)
                have m_146 := mm_put m_132 hF_143 (show 3 ≠ 18 by decide)
                have m_147 := mm_put m_133 hF_143 (show 15 ≠ 18 by decide)
                have m_148 := mm_put m_134 hF_143 (show 4 ≠ 18 by decide)
                have m_149 := mm_put m_135 hF_143 (show 5 ≠ 18 by decide)
                have m_150 := mm_put m_136 hF_143 (show 6 ≠ 18 by decide)
                have m_151 := mm_put m_137 hF_143 (show 7 ≠ 18 by decide)
                have m_152 := mm_put m_138 hF_143 (show 16 ≠ 18 by decide)
                have m_153 := mm_put m_139 hF_143 (show 17 ≠ 18 by decide)
                have m_154 := mm_at hF_143
                have hI_155 := hI_140.fr hF_143 (by decide)
                have hT_156 := tt_put hT_141 hF_143 (by decide) (by decide)
                refine lv_aload_n hx hb dX5_decide_335 rfl (lv_at hl 3 rfl) ?_
                refine lv_iconst (v := 2) hx hb dX5_decide_336 (by decide) ?_
                refine lv_iload_n hx hb dX5_decide_337 rfl (lv_at hl 4 rfl) ?_
                refine lv_aload_n hx hb dX5_decide_338 rfl (lv_at hl 3 rfl) ?_
                refine va_get (D := D) (ci := 6) (v := .ref (ma 17)) (C := RX5) (T := TX5) (N := 29) hx hb hts in_X5_decide_X5 hown hK hP 0 mW_0 rfl 17 (by decide) w_12 (fun _ h9 => h9) rfl dX5_decide_339 ?_
                refine lv_iload_n hx hb dX5_decide_342 rfl (lv_at hl 4 rfl) ?_
                refine m_ild hx hb hK hP 16 (k := k_5) mW_17 (show k_5 < 5 by omega) (by decide) dX5_decide_343 ?_
                refine lv_eqi (v := z_31) (m_153) ?_
                refine lv_aload_n hx hb dX5_decide_344 rfl (lv_at hl 3 rfl) ?_
                refine va_get (D := D) (ci := 6) (v := .ref (ma 14)) (C := RX5) (T := TX5) (N := 29) hx hb hts in_X5_decide_X5 hown hK hP 0 mW_0 rfl 14 (by decide) w_0 (fun _ h9 => h9) rfl dX5_decide_345 ?_
                refine lv_iload_n hx hb dX5_decide_348 rfl (lv_at hl 4 rfl) ?_
                refine m_ild hx hb hK hP 13 (k := k_5) mW_14 (show k_5 < 5 by omega) (by decide) dX5_decide_349 ?_
                refine lv_eqi (v := z_6) (m_144) ?_
                refine lv_aload_n hx hb dX5_decide_350 rfl (lv_at hl 3 rfl) ?_
                refine va_get (D := D) (ci := 6) (v := .ref (ma 16)) (C := RX5) (T := TX5) (N := 29) hx hb hts in_X5_decide_X5 hown hK hP 0 mW_0 rfl 16 (by decide) w_2 (fun _ h9 => h9) rfl dX5_decide_351 ?_
                refine lv_iload_n hx hb dX5_decide_354 rfl (lv_at hl 4 rfl) ?_
                refine m_ild hx hb hK hP 15 (k := k_5) mW_16 (show k_5 < 5 by omega) (by decide) dX5_decide_355 ?_
                refine lv_topi (fun z_157 ez_157 => ?_)
                have fz_157 : z_157 = (nI N) := ez_157.trans (m_152)
                subst fz_157
                have hFA := freeA hD hS hA
                refine va_callv (va_runV (As := [.int 2, .int (nI k_5), .int z_31, .int z_6, .int (nI N)]) (rest := []) ⟨hx, hb, hml, hown, hts⟩ (c_X5_sendAll l hlt D tC dz H.size mo ma F_143 0 (N + 1) L hI_155 2 k_5 z_31 z_6 (nI N) (by omega) (by have h9 := i_full1 (hw_37 c_39) ez_35 (by omega) (by omega); have h8 := cnt_le z_31 k_5 5; omega) (fun _ => ⟨N, by omega, rfl⟩)) (cwV 5 hts gX5_decide_X5_sendAll rfl rfl rfl (by decide +kernel) ⟨Nat.le_of_ble_eq_true rfl, Nat.le_of_ble_eq_true rfl⟩) ⟨pB_blind, va_recv hK hP (ci := 6) (q0 := 0) rfl mW_0, pB_at hP hD hK hN hE hS (freeA hD hS hA)⟩ rfl rfl hl.1 rfl (lv_room (Nat.le_of_ble_eq_true rfl)) dX5_decide_356 ⟨Nat.le_of_ble_eq_true rfl, Nat.le_of_ble_eq_true rfl⟩) hS (fun q _ h => hFA q h) hFA (fun u t9 H1 locs ht hvm hw hB hz1 hk1 hS => ?_)
                have hw_159 := hw
                obtain ⟨F_161, N_163, L_164, hI_165, hN8, hN9, hT9, hx_160, hP1, _, hD1⟩ := hB
                rw [ht] at hP1
                have hD := hD1.weaken (fun _ _ _ h9 => hFA _ h9)
                have hP := hP1
                generalize H1 = H at hP hS ⊢
                have e9 : (N + 1) = N_163 := by omega
                subst e9
                have hT_166 := And.intro (hT9.1.trans hT_156.1) (hT9.2.trans hT_156.2)
                have hL9 := hI_165.l9
                have hP : va_P D vwCl (mW tC mo ma F_161 0 (N + 1) L_164) H := hP
                have hD : va_D A (mW tC mo ma F_161 0 (N + 1) L_164) := hD
                have m_167 : F_161 14 k_5 = z_6 := (congrFun (hx_160 14 (by decide)) _).trans m_144
                have m_168 : F_161 2 N = (nI (n_40 + 1)) := (congrFun (hx_160 2 (by decide)) _).trans m_145
                have m_169 : F_161 3 N = (nI k_30) := (congrFun (hx_160 3 (by decide)) _).trans m_146
                have m_170 : F_161 15 k_5 = z_66 := (congrFun (hx_160 15 (by decide)) _).trans m_147
                have m_171 : F_161 4 N = z_66 := (congrFun (hx_160 4 (by decide)) _).trans m_148
                have m_172 : F_161 5 N = z_6 := (congrFun (hx_160 5 (by decide)) _).trans m_149
                have m_173 : F_161 6 N = (nI (mny z_31 5)) := (congrFun (hx_160 6 (by decide)) _).trans m_150
                have m_174 : F_161 7 N = (nI y_43) := (congrFun (hx_160 7 (by decide)) _).trans m_151
                have m_175 : F_161 16 k_5 = (nI N) := (congrFun (hx_160 16 (by decide)) _).trans m_152
                have m_176 : F_161 17 k_5 = z_31 := (congrFun (hx_160 17 (by decide)) _).trans m_153
                have m_177 : F_161 18 k_5 = z_142 := (congrFun (hx_160 18 (by decide)) _).trans m_154
                refine lv_aload_n hx hb dX5_decide_359 rfl (lv_at hl 3 rfl) ?_
                refine lv_iload_n hx hb dX5_decide_360 rfl (lv_at hl 4 rfl) ?_
                have hFA := freeA hD hS hA
                refine va_callv (va_runV (As := [.int (nI k_5)]) (rest := []) ⟨hx, hb, hml, hown, hts⟩ (c_X5_finish l hlt D tC dz H.size mo ma F_161 0 (N + 1) L_164 hI_165 k_5 (by omega) (fun g9 => by rw [m_177, m_176] at g9; rw [m_176, ← g9, ez_142, cnt_own (by omega)]; omega)) (cwV 1 hts gX5_decide_X5_finish rfl rfl rfl (by decide +kernel) ⟨Nat.le_of_ble_eq_true rfl, Nat.le_of_ble_eq_true rfl⟩) ⟨pB_blind, va_recv hK hP (ci := 6) (q0 := 0) rfl mW_0, pB_at hP hD hK hN hE hS (freeA hD hS hA)⟩ rfl rfl hl.1 rfl (lv_room (Nat.le_of_ble_eq_true rfl)) dX5_decide_361 ⟨Nat.le_of_ble_eq_true rfl, Nat.le_of_ble_eq_true rfl⟩) hS (fun q _ h => hFA q h) hFA (fun u t9 H1 locs ht hvm hw hB hz1 hk1 hS => ?_)
                have hw_179 := hw
                obtain ⟨F_181, N_183, L_184, hI_185, hN8, hN9, hT9, hP1, _, hD1⟩ := hB
                rw [ht] at hP1
                have hD := hD1.weaken (fun _ _ _ h9 => hFA _ h9)
                have hP := hP1
                generalize H1 = H at hP hS ⊢
                have e9 : (N + 1) = N_183 := by omega
                subst e9
                have hT_186 := And.intro (hT9.1.trans hT_166.1) (hT9.2.trans hT_166.2)
                have hL9 := hI_185.l9
                have hP : va_P D vwCl (mW tC mo ma F_181 0 (N + 1) L_184) H := hP
                have hD : va_D A (mW tC mo ma F_181 0 (N + 1) L_184) := hD
                refine lv_iconst (v := 1) hx hb dX5_decide_364 (by decide) ?_
                refine W.widen (k := 0) (n := 0) (by omega) (by omega) ?_
                exact W.zret (v := 1) hx hb hr (by decide) (fun t9 ht hW => ⟨⟨1, (), rfl, trivial, ⟨F_181, 0, (N + 1), L_184, hI_185, by omega, by omega, hT_186, (by rw [ht]; exact hP), va_K.moved hW.alike hK, hD⟩⟩, hS.F ht⟩) hS.2.2 dX5_decide_365 hlocks
              · skip
                have hh_187 := hb0 hw_45 c_47
                have hny : y_43 ≠ kb := fun h9 => hh_187 (by rw [h9]; exact hbz)
                refine lv_iinc (v := (nI (y_43 + 1))) (lv' := [(4, .int (nI (y_43 + 1))), (3, .int (nI (mny z_31 5))), (2, .int (nI k_30)), (0, .ref mo), (1, .int (nI k_5))]) hx hb dX5_decide_132 hl (k := 0) rfl (by first | exact nI_1 _ | exact (nI_1 _).symm) (by decide) rfl (fun ls hl => ?_)
                refine lv_goto (tgt := 118) hx hb dX5_decide_135 (by decide) ?_
                exact ih_118 (y_43 + 1) H locs ls (by omega) (by omega) hP hS (lv_sub hl [0, 1, 2, 3, 4] rfl)
            · skip
              refine lv_iconst (v := 3) hx hb dX5_decide_98 (by decide) ?_
              refine lv_goto (tgt := 103) hx hb dX5_decide_99 (by decide) ?_
              refine va_put (D := D) (ci := 6) (v := .int 3) (ty := .int) (C := RX5) (T := TX5) (N := 29) hx hb hts in_X5_decide_X5 tyX5 tyX5_ok nmX5 hown hK hP hD hS 0 mW_0 rfl 0 (by decide) w_1 (fun _ h9 => h9) rfl (by decide +kernel) (by first | rfl | decide) (by first | rfl | decide) (Nat.le_of_ble_eq_true rfl) dX5_decide_103 (fun H locs hP hD hS => ?_)
              have hP : va_P D vwCl (mW tC mo ma F_14 3 N L) H := hP
              have hD : va_D A (mW tC mo ma F_14 3 N L) := hD
              refine lv_aload_n hx hb dX5_decide_106 rfl (lv_at hl 2 rfl) ?_
              refine va_get (D := D) (ci := 6) (v := .int 3) (C := RX5) (T := TX5) (N := 29) hx hb hts in_X5_decide_X5 hown hK hP 0 mW_0 rfl 0 (by decide) w_1 (fun _ h9 => h9) rfl dX5_decide_107 ?_
              refine lv_if_le (tgt := 115) hx hb dX5_decide_110 (by decide) (fun hc => absurd hc (by decide)) (fun _ => ?_)
              refine lv_iconst (v := 0) hx hb dX5_decide_113 (by decide) ?_
              refine W.widen (k := 0) (n := 0) (by omega) (by omega) ?_
              exact W.zret (v := 0) hx hb hr (by decide) (fun t9 ht hW => ⟨⟨0, (), rfl, trivial, ⟨F_14, 3, N, L, hI_18, by omega, by omega, hT_19, (by rw [ht]; exact hP), va_K.moved hW.alike hK, hD⟩⟩, hS.F ht⟩) hS.2.2 dX5_decide_114 hlocks
        · skip
          refine lv_iconst (v := 0) hx hb dX5_decide_59 (by decide) ?_
          refine W.widen (k := 0) (n := 0) (by omega) (by omega) ?_
          exact W.zret (v := 0) hx hb hr (by decide) (fun t9 ht hW => ⟨⟨0, (), rfl, trivial, ⟨F_14, 0, N, L, hI_18, by omega, by omega, hT_19, (by rw [ht]; exact hP), va_K.moved hW.alike hK, hD⟩⟩, hS.F ht⟩) hS.2.2 dX5_decide_60 hlocks
      · skip
        obtain ⟨k_188, hk_188, ek_188⟩ := qz_8.resolve_left c_9
        subst ek_188
        refine lv_iconst (v := 2) hx hb dX5_decide_30 (by decide) ?_
        refine lv_goto (tgt := 35) hx hb dX5_decide_31 (by decide) ?_
        have hS := hS.mono hAm
        refine va_put (D := D) (ci := 6) (v := .int 2) (ty := .int) (C := RX5) (T := TX5) (N := 29) hx hb hts in_X5_decide_X5 tyX5 tyX5_ok nmX5 hown hK hP hD hS 0 mW_0 rfl 0 (by decide) w_1 (fun _ h9 => h9) rfl (by decide +kernel) (by first | rfl | decide) (by first | rfl | decide) (Nat.le_of_ble_eq_true rfl) dX5_decide_35 (fun H locs hP hD hS => ?_)
        have hP : va_P D vwCl (mW tC mo ma F 2 N L) H := hP
        have hD : va_D A (mW tC mo ma F 2 N L) := hD
        refine lv_aload_n hx hb dX5_decide_38 rfl (lv_at hl 0 rfl) ?_
        refine va_get (D := D) (ci := 6) (v := .int 2) (C := RX5) (T := TX5) (N := 29) hx hb hts in_X5_decide_X5 hown hK hP 0 mW_0 rfl 0 (by decide) w_1 (fun _ h9 => h9) rfl dX5_decide_39 ?_
        refine lv_if_le (tgt := 47) hx hb dX5_decide_42 (by decide) (fun hc => absurd hc (by decide)) (fun _ => ?_)
        refine lv_iconst (v := 0) hx hb dX5_decide_45 (by decide) ?_
        refine W.widen (k := 0) (n := 0) (by omega) (by omega) ?_
        exact W.zret (v := 0) hx hb hr (by decide) (fun t9 ht hW => ⟨⟨0, (), rfl, trivial, ⟨F, 2, N, L, hJ, by omega, by omega, hT, (by rw [ht]; exact hP), va_K.moved hW.alike hK, hD⟩⟩, hS.F ht⟩) hS.2.2 dX5_decide_46 hlocks
  · skip
    refine lv_iconst (v := 1) hx hb dX5_decide_8 (by decide) ?_
    refine lv_goto (tgt := 35) hx hb dX5_decide_9 (by decide) ?_
    have hS := hS.mono hAm
    refine va_put (D := D) (ci := 6) (v := .int 1) (ty := .int) (C := RX5) (T := TX5) (N := 29) hx hb hts in_X5_decide_X5 tyX5 tyX5_ok nmX5 hown hK hP hD hS 0 mW_0 rfl 0 (by decide) w_1 (fun _ h9 => h9) rfl (by decide +kernel) (by first | rfl | decide) (by first | rfl | decide) (Nat.le_of_ble_eq_true rfl) dX5_decide_35 (fun H locs hP hD hS => ?_)
    have hP : va_P D vwCl (mW tC mo ma F 1 N L) H := hP
    have hD : va_D A (mW tC mo ma F 1 N L) := hD
    refine lv_aload_n hx hb dX5_decide_38 rfl (lv_at hl 0 rfl) ?_
    refine va_get (D := D) (ci := 6) (v := .int 1) (C := RX5) (T := TX5) (N := 29) hx hb hts in_X5_decide_X5 hown hK hP 0 mW_0 rfl 0 (by decide) w_1 (fun _ h9 => h9) rfl dX5_decide_39 ?_
    refine lv_if_le (tgt := 47) hx hb dX5_decide_42 (by decide) (fun hc => absurd hc (by decide)) (fun _ => ?_)
    refine lv_iconst (v := 0) hx hb dX5_decide_45 (by decide) ?_
    refine W.widen (k := 0) (n := 0) (by omega) (by omega) ?_
    exact W.zret (v := 0) hx hb hr (by decide) (fun t9 ht hW => ⟨⟨0, (), rfl, trivial, ⟨F, 1, N, L, hJ, by omega, by omega, hT, (by rw [ht]; exact hP), va_K.moved hW.alike hK, hD⟩⟩, hS.F ht⟩) hS.2.2 dX5_decide_46 hlocks
set_option maxHeartbeats 4000000 in
set_option maxRecDepth 100000 in
theorem c_X5_cable (l : Launch) (hlt : l.stackTraces = false) (D : va_G) (tC : Nat → ClassId) (dz sz : Nat) (mo : Nat) (ma : Nat → Nat) (F : Nat → Nat → Int32) (th : Int32) (N L : Nat) (hJ : MI F N L) (p0 : Int32) (p1 : Int32) (v : Int32)  : Met l yX5_cable wsX5_cable ({ frames := 1, cells := 0, slots := 0, locals := 20 }) (va_Pc [.ref mo, .int p0, .int p1, .int v] (pB D tC dz (mW tC mo ma F th N L) sz)) (va_Qi (fun (r : Int32) (u2 : (Nat → Nat → Int32) × Int32) => (u2.2 = 1 ∧ u2.1 = F ∧ ((p0 < 0 ∨ 5 ≤ p0) ∨ (p1 < 0 ∨ 5 ≤ p1) ∨ p0 = p1)) ∨ (u2.2 = 0 ∧ ∃ j k : Nat, j < 5 ∧ k < 5 ∧ p0 = nI j ∧ p1 = nI k ∧ j ≠ k ∧ ((r = 0 ∧ u2.1 = F ∧ ¬ F 20 (5 * j + k) = v) ∨ (r = 1 ∧ F 20 (5 * j + k) = v ∧ u2.1 = updF F 20 (upd (upd (F 20) (5 * j + k) (if v = 0 then 1 else 0)) (5 * k + j) (if v = 0 then 1 else 0)))))) (fun (u2 : (Nat → Nat → Int32) × Int32) t9 => ∃ (N2 : Nat), MI u2.1 N2 L ∧ N ≤ N2 ∧ N2 ≤ N + 0 ∧ (u2.1 12 = F 12) ∧ pA D tC (va_A (mW tC mo ma F th N L) sz) (mW tC mo ma u2.1 u2.2 N2 L) t9) (va_A (mW tC mo ma F th N L) sz)) 0 0 (va_A (mW tC mo ma F th N L) sz) := by
  refine Met.ofW (cc := cX5_cable) (maxL := 4) (ret := (some .boolean)) (by decide) rfl ?_
  intro p e s m args below meth c s₁ B hml hv
  obtain ⟨rfl, hsz, hP, hK, hD0, hN, hE⟩ := hv
  have hx := B.exec
  have hb := B.bytes
  have hr := B.returns
  have hts := atoms_spec (ws := wsX5_cable) B.pre
  have hown : s.vm.findClass RX5 = some m.cls := findClass_of_methodNamed B.named
  have hlocks := B.notSynchronized
  subst hsz
  have hD := hD0.self (sz := s.heap.size)
  have hAm : ∀ q : Nat, xN s.heap.size q → va_A (mW tC mo ma F th N L) s.heap.size q := xN_A
  have hN0 : ∀ q : Nat, s.heap.size ≤ q → xN s.heap.size q := fun _ h => h
  have hE0 := eH_narrow hE hAm
  generalize va_A (mW tC mo ma F th N L) s.heap.size = A at hD hE hAm ⊢
  have hA : ∀ q : Nat, s.heap.size ≤ q → A q := fun q h => hAm q h
  have hS : va_S (xN s.heap.size) s.heap s.heap [] := va_S.rf
  have hN9 := hJ.n9
  have hL9 := hJ.l9
  have hT : F 12 = F 12 ∧ F 20 = F 20 := ⟨rfl, rfl⟩
  have hl := lv_entry ([.ref mo, .int p0, .int p1, .int v]) (n := 4) (Nat.le_of_ble_eq_true rfl)
  rw [lg_entry_eq]
  generalize (lg_sl ([.ref mo, .int p0, .int p1, .int v]) ++ List.replicate (4 - (lg_sl ([.ref mo, .int p0, .int p1, .int v])).length) Slot.unset).toArray = ls at hl ⊢
  have hl : lv_has ls 4 [(0, .ref mo), (1, .int p0), (2, .int p1), (3, .int v)] := hl
  have w_0 := hts (.fieldLink RX5 93 "NoticeStationsModel" "thrown" "I") (by decide +kernel)
  have w_1 := hts (.fieldLink RX5 69 "NoticeStationsModel" "torn" "[Z") (by decide +kernel)
  refine lv_aload_n hx hb dX5_cable_0 rfl (lv_at hl 0 rfl) ?_
  refine lv_iload_n hx hb dX5_cable_1 rfl (lv_at hl 1 rfl) ?_
  refine va_calli (va_runS (As := [.int p0]) (rest := [.ref mo]) ⟨hx, hb, hml, hown, hts⟩ (c_X5_isOne l hlt D tC dz s.heap.size mo ma F th N L hJ p0 ) (va_cwS 1 hts gX5_cable_X5_isOne rfl rfl rfl (by decide +kernel) ⟨Nat.le_of_ble_eq_true rfl, Nat.le_of_ble_eq_true rfl⟩) ⟨pB_blind, pB_at hP hD hK hN hE (hS.mono hAm) (freeA hD (hS.mono hAm) hA)⟩ rfl rfl hl.1 rfl (lv_room (Nat.le_of_ble_eq_true rfl)) dX5_cable_2 ⟨Nat.le_of_ble_eq_true rfl, Nat.le_of_ble_eq_true rfl⟩) hS oldN (freeN hS hN0) (fun r_1 u t9 H1 locs ht hvm hw hB hz1 hk1 hS => ?_)
  have hw_2 := hw
  have hP := keepP hP hk1
  generalize H1 = H at hP hS ⊢
  refine lv_if_eq (tgt := 20) hx hb dX5_cable_5 (by decide) (fun c_4 => ?_) (fun c_4 => ?_)
  · skip
    refine lv_iconst (v := 1) hx hb dX5_cable_20 (by decide) ?_
    refine lv_goto (tgt := 25) hx hb dX5_cable_21 (by decide) ?_
    have hS := hS.mono hAm
    refine va_put (D := D) (ci := 6) (v := .int 1) (ty := .int) (C := RX5) (T := TX5) (N := 29) hx hb hts in_X5_cable_X5 tyX5 tyX5_ok nmX5 hown hK hP hD hS 0 mW_0 rfl 0 (by decide) w_0 (fun _ h9 => h9) rfl (by decide +kernel) (by first | rfl | decide) (by first | rfl | decide) (Nat.le_of_ble_eq_true rfl) dX5_cable_25 (fun H locs hP hD hS => ?_)
    have hP : va_P D vwCl (mW tC mo ma F 1 N L) H := hP
    have hD : va_D A (mW tC mo ma F 1 N L) := hD
    refine lv_aload_n hx hb dX5_cable_28 rfl (lv_at hl 0 rfl) ?_
    refine va_get (D := D) (ci := 6) (v := .int 1) (C := RX5) (T := TX5) (N := 29) hx hb hts in_X5_cable_X5 hown hK hP 0 mW_0 rfl 0 (by decide) w_0 (fun _ h9 => h9) rfl dX5_cable_29 ?_
    refine lv_if_gt (tgt := 49) hx hb dX5_cable_32 (by decide) (fun _ => ?_) (fun hc => absurd (by decide) hc)
    refine lv_iconst (v := 0) hx hb dX5_cable_49 (by decide) ?_
    refine W.widen (k := 0) (n := 0) (by omega) (by omega) ?_
    exact W.zret (v := 0) hx hb hr (by decide) (fun t9 ht hW => ⟨⟨0, (F, 1), rfl, (Or.inl ⟨rfl, rfl, Or.inl (bl0 hw_2 c_4)⟩), ⟨N, hJ, by omega, by omega, (by show F 12 = F 12; rfl), (by rw [ht]; exact hP), va_K.moved hW.alike hK, hD⟩⟩, hS.F ht⟩) hS.2.2 dX5_cable_50 hlocks
  · skip
    obtain ⟨k_5, hk_5, ek_5⟩ := ix5 (bl1 hw_2 c_4)
    subst ek_5
    refine lv_iload_n hx hb dX5_cable_8 rfl (lv_at hl 2 rfl) ?_
    refine va_calli (va_runS (As := [.int p1]) (rest := [.ref mo]) ⟨hx, hb, hml, hown, hts⟩ (c_X5_isOne l hlt D tC dz H.size mo ma F th N L hJ p1 ) (va_cwS 1 hts gX5_cable_X5_isOne rfl rfl rfl (by decide +kernel) ⟨Nat.le_of_ble_eq_true rfl, Nat.le_of_ble_eq_true rfl⟩) ⟨pB_blind, pB_at hP hD hK hN hE (hS.mono hAm) (freeA hD (hS.mono hAm) hA)⟩ rfl rfl hl.1 rfl (lv_room (Nat.le_of_ble_eq_true rfl)) dX5_cable_9 ⟨Nat.le_of_ble_eq_true rfl, Nat.le_of_ble_eq_true rfl⟩) hS oldN (freeN hS hN0) (fun r_6 u t9 H1 locs ht hvm hw hB hz1 hk1 hS => ?_)
    have hw_7 := hw
    have hP := keepP hP hk1
    generalize H1 = H at hP hS ⊢
    refine lv_if_eq (tgt := 20) hx hb dX5_cable_12 (by decide) (fun c_9 => ?_) (fun c_9 => ?_)
    · skip
      refine lv_iconst (v := 1) hx hb dX5_cable_20 (by decide) ?_
      refine lv_goto (tgt := 25) hx hb dX5_cable_21 (by decide) ?_
      have hS := hS.mono hAm
      refine va_put (D := D) (ci := 6) (v := .int 1) (ty := .int) (C := RX5) (T := TX5) (N := 29) hx hb hts in_X5_cable_X5 tyX5 tyX5_ok nmX5 hown hK hP hD hS 0 mW_0 rfl 0 (by decide) w_0 (fun _ h9 => h9) rfl (by decide +kernel) (by first | rfl | decide) (by first | rfl | decide) (Nat.le_of_ble_eq_true rfl) dX5_cable_25 (fun H locs hP hD hS => ?_)
      have hP : va_P D vwCl (mW tC mo ma F 1 N L) H := hP
      have hD : va_D A (mW tC mo ma F 1 N L) := hD
      refine lv_aload_n hx hb dX5_cable_28 rfl (lv_at hl 0 rfl) ?_
      refine va_get (D := D) (ci := 6) (v := .int 1) (C := RX5) (T := TX5) (N := 29) hx hb hts in_X5_cable_X5 hown hK hP 0 mW_0 rfl 0 (by decide) w_0 (fun _ h9 => h9) rfl dX5_cable_29 ?_
      refine lv_if_gt (tgt := 49) hx hb dX5_cable_32 (by decide) (fun _ => ?_) (fun hc => absurd (by decide) hc)
      refine lv_iconst (v := 0) hx hb dX5_cable_49 (by decide) ?_
      refine W.widen (k := 0) (n := 0) (by omega) (by omega) ?_
      exact W.zret (v := 0) hx hb hr (by decide) (fun t9 ht hW => ⟨⟨0, (F, 1), rfl, (Or.inl ⟨rfl, rfl, Or.inr (Or.inl (bl0 hw_7 c_9))⟩), ⟨N, hJ, by omega, by omega, (by show F 12 = F 12; rfl), (by rw [ht]; exact hP), va_K.moved hW.alike hK, hD⟩⟩, hS.F ht⟩) hS.2.2 dX5_cable_50 hlocks
    · skip
      obtain ⟨k_10, hk_10, ek_10⟩ := ix5 (bl1 hw_7 c_9)
      subst ek_10
      refine lv_iload_n hx hb dX5_cable_15 rfl (lv_at hl 1 rfl) ?_
      refine lv_iload_n hx hb dX5_cable_16 rfl (lv_at hl 2 rfl) ?_
      refine lv_icmp_ne (tgt := 24) hx hb dX5_cable_17 (by decide) (fun c_11 => ?_) (fun c_11 => ?_)
      · skip
        refine lv_iconst (v := 0) hx hb dX5_cable_24 (by decide) ?_
        have hS := hS.mono hAm
        refine va_put (D := D) (ci := 6) (v := .int 0) (ty := .int) (C := RX5) (T := TX5) (N := 29) hx hb hts in_X5_cable_X5 tyX5 tyX5_ok nmX5 hown hK hP hD hS 0 mW_0 rfl 0 (by decide) w_0 (fun _ h9 => h9) rfl (by decide +kernel) (by first | rfl | decide) (by first | rfl | decide) (Nat.le_of_ble_eq_true rfl) dX5_cable_25 (fun H locs hP hD hS => ?_)
        have hP : va_P D vwCl (mW tC mo ma F 0 N L) H := hP
        have hD : va_D A (mW tC mo ma F 0 N L) := hD
        refine lv_aload_n hx hb dX5_cable_28 rfl (lv_at hl 0 rfl) ?_
        refine va_get (D := D) (ci := 6) (v := .int 0) (C := RX5) (T := TX5) (N := 29) hx hb hts in_X5_cable_X5 hown hK hP 0 mW_0 rfl 0 (by decide) w_0 (fun _ h9 => h9) rfl dX5_cable_29 ?_
        refine lv_if_gt (tgt := 49) hx hb dX5_cable_32 (by decide) (fun hc => absurd hc (by decide)) (fun _ => ?_)
        refine lv_aload_n hx hb dX5_cable_35 rfl (lv_at hl 0 rfl) ?_
        refine va_get (D := D) (ci := 6) (v := .ref (ma 20)) (C := RX5) (T := TX5) (N := 29) hx hb hts in_X5_cable_X5 hown hK hP 0 mW_0 rfl 20 (by decide) w_1 (fun _ h9 => h9) rfl dX5_cable_36 ?_
        refine lv_iconst (v := 5) hx hb dX5_cable_39 (by decide) ?_
        refine lv_iload_n hx hb dX5_cable_40 rfl (lv_at hl 1 rfl) ?_
        refine lv_imul hx hb dX5_cable_41 ?_
        refine lv_topi (fun z_12 ez_12 => ?_)
        have fz_12 : z_12 = (nI (5 * k_5)) := ez_12.trans (show nI 5 * nI k_5 = _ from pk_mul _ _)
        subst fz_12
        refine lv_iload_n hx hb dX5_cable_42 rfl (lv_at hl 2 rfl) ?_
        refine lv_iadd hx hb dX5_cable_43 ?_
        refine lv_topi (fun z_13 ez_13 => ?_)
        have fz_13 : z_13 = (nI ((5 * k_5) + k_10)) := ez_13.trans (show nI (5 * k_5) + nI k_10 = _ from nI_add _ _)
        subst fz_13
        refine m_zld hx hb hK hP 19 (k := ((5 * k_5) + k_10)) mW_20 (show ((5 * k_5) + k_10) < 25 by omega) (by decide) dX5_cable_44 ?_
        refine lv_topi (fun z_14 ez_14 => ?_)
        refine lv_iload_n hx hb dX5_cable_45 rfl (lv_at hl 3 rfl) ?_
        refine lv_icmp_eq (tgt := 51) hx hb dX5_cable_46 (by decide) (fun c_15 => ?_) (fun c_15 => ?_)
        · skip
          refine lv_aload_n hx hb dX5_cable_51 rfl (lv_at hl 0 rfl) ?_
          refine va_get (D := D) (ci := 6) (v := .ref (ma 20)) (C := RX5) (T := TX5) (N := 29) hx hb hts in_X5_cable_X5 hown hK hP 0 mW_0 rfl 20 (by decide) w_1 (fun _ h9 => h9) rfl dX5_cable_52 ?_
          refine lv_iconst (v := 5) hx hb dX5_cable_55 (by decide) ?_
          refine lv_iload_n hx hb dX5_cable_56 rfl (lv_at hl 1 rfl) ?_
          refine lv_imul hx hb dX5_cable_57 ?_
          refine lv_topi (fun z_16 ez_16 => ?_)
          have fz_16 : z_16 = (nI (5 * k_5)) := ez_16.trans (show nI 5 * nI k_5 = _ from pk_mul _ _)
          subst fz_16
          refine lv_iload_n hx hb dX5_cable_58 rfl (lv_at hl 2 rfl) ?_
          refine lv_iadd hx hb dX5_cable_59 ?_
          refine lv_topi (fun z_17 ez_17 => ?_)
          have fz_17 : z_17 = (nI ((5 * k_5) + k_10)) := ez_17.trans (show nI (5 * k_5) + nI k_10 = _ from nI_add _ _)
          subst fz_17
          refine lv_iload_n hx hb dX5_cable_60 rfl (lv_at hl 3 rfl) ?_
          refine lv_if_ne (tgt := 68) hx hb dX5_cable_61 (by decide) (fun c_18 => ?_) (fun c_18 => ?_)
          · skip
            refine lv_iconst (v := 0) hx hb dX5_cable_68 (by decide) ?_
            refine m_zst hx hb hK hP hD hS 19 (j := 20) (k := ((5 * k_5) + k_10)) (x := 0) (y := 0) mW_20 mS_20 (show ((5 * k_5) + k_10) < 25 by omega) (by decide) (by decide) dX5_cable_69 (fun F_19 H locs hF_19 hP hD hS => ?_)
            have m_20 := mm_at hF_19
            have hI_21 := hJ.fr hF_19 (by decide)
            refine lv_aload_n hx hb dX5_cable_70 rfl (lv_at hl 0 rfl) ?_
            refine va_get (D := D) (ci := 6) (v := .ref (ma 20)) (C := RX5) (T := TX5) (N := 29) hx hb hts in_X5_cable_X5 hown hK hP 0 mW_0 rfl 20 (by decide) w_1 (fun _ h9 => h9) rfl dX5_cable_71 ?_
            refine lv_iconst (v := 5) hx hb dX5_cable_74 (by decide) ?_
            refine lv_iload_n hx hb dX5_cable_75 rfl (lv_at hl 2 rfl) ?_
            refine lv_imul hx hb dX5_cable_76 ?_
            refine lv_topi (fun z_22 ez_22 => ?_)
            have fz_22 : z_22 = (nI (5 * k_10)) := ez_22.trans (show nI 5 * nI k_10 = _ from pk_mul _ _)
            subst fz_22
            refine lv_iload_n hx hb dX5_cable_77 rfl (lv_at hl 1 rfl) ?_
            refine lv_iadd hx hb dX5_cable_78 ?_
            refine lv_topi (fun z_23 ez_23 => ?_)
            have fz_23 : z_23 = (nI ((5 * k_10) + k_5)) := ez_23.trans (show nI (5 * k_10) + nI k_5 = _ from nI_add _ _)
            subst fz_23
            refine lv_iload_n hx hb dX5_cable_79 rfl (lv_at hl 3 rfl) ?_
            refine lv_if_ne (tgt := 87) hx hb dX5_cable_80 (by decide) (fun _ => ?_) (fun hc => absurd hc (c_18))
            refine lv_iconst (v := 0) hx hb dX5_cable_87 (by decide) ?_
            refine m_zst hx hb hK hP hD hS 19 (j := 20) (k := ((5 * k_10) + k_5)) (x := 0) (y := 0) mW_20 mS_20 (show ((5 * k_10) + k_5) < 25 by omega) (by decide) (by decide) dX5_cable_88 (fun F_24 H locs hF_24 hP hD hS => ?_)
            have m_25 := mm_at hF_24
            have hI_26 := hI_21.fr hF_24 (by decide)
            refine lv_iconst (v := 1) hx hb dX5_cable_89 (by decide) ?_
            refine W.widen (k := 0) (n := 0) (by omega) (by omega) ?_
            exact W.zret (v := 1) hx hb hr (by decide) (fun t9 ht hW => ⟨⟨1, (F_24, 0), rfl, (Or.inr ⟨rfl, k_5, k_10, by omega, by omega, rfl, rfl, fun h9 => c_11 (by rw [h9]), Or.inr ⟨rfl, by rw [← ez_14]; exact c_15, by rw [if_neg c_18]; show F_24 = _; rw [hF_24, hF_19, updF_at, updF_2]⟩⟩), ⟨N, hI_26, by omega, by omega, (by show F_24 12 = F 12; rw [hF_24, updF_ne (i := 12) (by decide), hF_19, updF_ne (i := 12) (by decide)]), (by rw [ht]; exact hP), va_K.moved hW.alike hK, hD⟩⟩, hS.F ht⟩) hS.2.2 dX5_cable_90 hlocks
          · skip
            refine lv_iconst (v := 1) hx hb dX5_cable_64 (by decide) ?_
            refine lv_goto (tgt := 69) hx hb dX5_cable_65 (by decide) ?_
            refine m_zst hx hb hK hP hD hS 19 (j := 20) (k := ((5 * k_5) + k_10)) (x := 1) (y := 1) mW_20 mS_20 (show ((5 * k_5) + k_10) < 25 by omega) (by decide) (by decide) dX5_cable_69 (fun F_27 H locs hF_27 hP hD hS => ?_)
            have m_28 := mm_at hF_27
            have hI_29 := hJ.fr hF_27 (by decide)
            refine lv_aload_n hx hb dX5_cable_70 rfl (lv_at hl 0 rfl) ?_
            refine va_get (D := D) (ci := 6) (v := .ref (ma 20)) (C := RX5) (T := TX5) (N := 29) hx hb hts in_X5_cable_X5 hown hK hP 0 mW_0 rfl 20 (by decide) w_1 (fun _ h9 => h9) rfl dX5_cable_71 ?_
            refine lv_iconst (v := 5) hx hb dX5_cable_74 (by decide) ?_
            refine lv_iload_n hx hb dX5_cable_75 rfl (lv_at hl 2 rfl) ?_
            refine lv_imul hx hb dX5_cable_76 ?_
            refine lv_topi (fun z_30 ez_30 => ?_)
            have fz_30 : z_30 = (nI (5 * k_10)) := ez_30.trans (show nI 5 * nI k_10 = _ from pk_mul _ _)
            subst fz_30
            refine lv_iload_n hx hb dX5_cable_77 rfl (lv_at hl 1 rfl) ?_
            refine lv_iadd hx hb dX5_cable_78 ?_
            refine lv_topi (fun z_31 ez_31 => ?_)
            have fz_31 : z_31 = (nI ((5 * k_10) + k_5)) := ez_31.trans (show nI (5 * k_10) + nI k_5 = _ from nI_add _ _)
            subst fz_31
            refine lv_iload_n hx hb dX5_cable_79 rfl (lv_at hl 3 rfl) ?_
            refine lv_if_ne (tgt := 87) hx hb dX5_cable_80 (by decide) (fun hc => absurd (c_18) hc) (fun _ => ?_)
            refine lv_iconst (v := 1) hx hb dX5_cable_83 (by decide) ?_
            refine lv_goto (tgt := 88) hx hb dX5_cable_84 (by decide) ?_
            refine m_zst hx hb hK hP hD hS 19 (j := 20) (k := ((5 * k_10) + k_5)) (x := 1) (y := 1) mW_20 mS_20 (show ((5 * k_10) + k_5) < 25 by omega) (by decide) (by decide) dX5_cable_88 (fun F_32 H locs hF_32 hP hD hS => ?_)
            have m_33 := mm_at hF_32
            have hI_34 := hI_29.fr hF_32 (by decide)
            refine lv_iconst (v := 1) hx hb dX5_cable_89 (by decide) ?_
            refine W.widen (k := 0) (n := 0) (by omega) (by omega) ?_
            exact W.zret (v := 1) hx hb hr (by decide) (fun t9 ht hW => ⟨⟨1, (F_32, 0), rfl, (Or.inr ⟨rfl, k_5, k_10, by omega, by omega, rfl, rfl, fun h9 => c_11 (by rw [h9]), Or.inr ⟨rfl, by rw [← ez_14]; exact c_15, by rw [if_pos c_18]; show F_32 = _; rw [hF_32, hF_27, updF_at, updF_2]⟩⟩), ⟨N, hI_34, by omega, by omega, (by show F_32 12 = F 12; rw [hF_32, updF_ne (i := 12) (by decide), hF_27, updF_ne (i := 12) (by decide)]), (by rw [ht]; exact hP), va_K.moved hW.alike hK, hD⟩⟩, hS.F ht⟩) hS.2.2 dX5_cable_90 hlocks
        · skip
          refine lv_iconst (v := 0) hx hb dX5_cable_49 (by decide) ?_
          refine W.widen (k := 0) (n := 0) (by omega) (by omega) ?_
          exact W.zret (v := 0) hx hb hr (by decide) (fun t9 ht hW => ⟨⟨0, (F, 0), rfl, (Or.inr ⟨rfl, k_5, k_10, by omega, by omega, rfl, rfl, fun h9 => c_11 (by rw [h9]), Or.inl ⟨rfl, rfl, fun h9 => c_15 (by rw [ez_14]; exact h9)⟩⟩), ⟨N, hJ, by omega, by omega, (by show F 12 = F 12; rfl), (by rw [ht]; exact hP), va_K.moved hW.alike hK, hD⟩⟩, hS.F ht⟩) hS.2.2 dX5_cable_50 hlocks
      · skip
        refine lv_iconst (v := 1) hx hb dX5_cable_20 (by decide) ?_
        refine lv_goto (tgt := 25) hx hb dX5_cable_21 (by decide) ?_
        have hS := hS.mono hAm
        refine va_put (D := D) (ci := 6) (v := .int 1) (ty := .int) (C := RX5) (T := TX5) (N := 29) hx hb hts in_X5_cable_X5 tyX5 tyX5_ok nmX5 hown hK hP hD hS 0 mW_0 rfl 0 (by decide) w_0 (fun _ h9 => h9) rfl (by decide +kernel) (by first | rfl | decide) (by first | rfl | decide) (Nat.le_of_ble_eq_true rfl) dX5_cable_25 (fun H locs hP hD hS => ?_)
        have hP : va_P D vwCl (mW tC mo ma F 1 N L) H := hP
        have hD : va_D A (mW tC mo ma F 1 N L) := hD
        refine lv_aload_n hx hb dX5_cable_28 rfl (lv_at hl 0 rfl) ?_
        refine va_get (D := D) (ci := 6) (v := .int 1) (C := RX5) (T := TX5) (N := 29) hx hb hts in_X5_cable_X5 hown hK hP 0 mW_0 rfl 0 (by decide) w_0 (fun _ h9 => h9) rfl dX5_cable_29 ?_
        refine lv_if_gt (tgt := 49) hx hb dX5_cable_32 (by decide) (fun _ => ?_) (fun hc => absurd (by decide) hc)
        refine lv_iconst (v := 0) hx hb dX5_cable_49 (by decide) ?_
        refine W.widen (k := 0) (n := 0) (by omega) (by omega) ?_
        exact W.zret (v := 0) hx hb hr (by decide) (fun t9 ht hW => ⟨⟨0, (F, 1), rfl, (Or.inl ⟨rfl, rfl, Or.inr (Or.inr c_11)⟩), ⟨N, hJ, by omega, by omega, (by show F 12 = F 12; rfl), (by rw [ht]; exact hP), va_K.moved hW.alike hK, hD⟩⟩, hS.F ht⟩) hS.2.2 dX5_cable_50 hlocks
set_option maxHeartbeats 4000000 in
set_option maxRecDepth 100000 in
theorem c_X5_stop (l : Launch) (hlt : l.stackTraces = false) (D : va_G) (tC : Nat → ClassId) (dz sz : Nat) (mo : Nat) (ma : Nat → Nat) (F : Nat → Nat → Int32) (th : Int32) (N L : Nat) (hJ : MI F N L) (p0 : Int32)  : Met l yX5_stop wsX5_stop ({ frames := 1, cells := 0, slots := 0, locals := 20 }) (va_Pc [.ref mo, .int p0] (pB D tC dz (mW tC mo ma F th N L) sz)) (va_Qi (fun (r : Int32) (u2 : (Nat → Nat → Int32) × Int32) => (u2.2 = 1 ∧ u2.1 = F ∧ (p0 < 0 ∨ 5 ≤ p0)) ∨ (u2.2 = 0 ∧ ∃ k : Nat, k < 5 ∧ p0 = nI k ∧ ((r = 0 ∧ ¬ F 12 k = 0 ∧ u2.1 12 = F 12) ∨ (r = 1 ∧ F 12 k = 0 ∧ u2.1 12 = upd (F 12) k 1)))) (fun (u2 : (Nat → Nat → Int32) × Int32) t9 => ∃ (N2 : Nat), MI u2.1 N2 L ∧ N ≤ N2 ∧ N2 ≤ N + 0 ∧ (u2.1 20 = F 20) ∧ pA D tC (va_A (mW tC mo ma F th N L) sz) (mW tC mo ma u2.1 u2.2 N2 L) t9) (va_A (mW tC mo ma F th N L) sz)) 0 0 (va_A (mW tC mo ma F th N L) sz) := by
  refine Met.ofW (cc := cX5_stop) (maxL := 2) (ret := (some .boolean)) (by decide) rfl ?_
  intro p e s m args below meth c s₁ B hml hv
  obtain ⟨rfl, hsz, hP, hK, hD0, hN, hE⟩ := hv
  have hx := B.exec
  have hb := B.bytes
  have hr := B.returns
  have hts := atoms_spec (ws := wsX5_stop) B.pre
  have hown : s.vm.findClass RX5 = some m.cls := findClass_of_methodNamed B.named
  have hlocks := B.notSynchronized
  subst hsz
  have hD := hD0.self (sz := s.heap.size)
  have hAm : ∀ q : Nat, xN s.heap.size q → va_A (mW tC mo ma F th N L) s.heap.size q := xN_A
  have hN0 : ∀ q : Nat, s.heap.size ≤ q → xN s.heap.size q := fun _ h => h
  have hE0 := eH_narrow hE hAm
  generalize va_A (mW tC mo ma F th N L) s.heap.size = A at hD hE hAm ⊢
  have hA : ∀ q : Nat, s.heap.size ≤ q → A q := fun q h => hAm q h
  have hS : va_S (xN s.heap.size) s.heap s.heap [] := va_S.rf
  have hN9 := hJ.n9
  have hL9 := hJ.l9
  have hT : F 12 = F 12 ∧ F 20 = F 20 := ⟨rfl, rfl⟩
  have hl := lv_entry ([.ref mo, .int p0]) (n := 2) (Nat.le_of_ble_eq_true rfl)
  rw [lg_entry_eq]
  generalize (lg_sl ([.ref mo, .int p0]) ++ List.replicate (2 - (lg_sl ([.ref mo, .int p0])).length) Slot.unset).toArray = ls at hl ⊢
  have hl : lv_has ls 2 [(0, .ref mo), (1, .int p0)] := hl
  have w_0 := hts (.fieldLink RX5 93 "NoticeStationsModel" "thrown" "I") (by decide +kernel)
  have w_1 := hts (.fieldLink RX5 44 "NoticeStationsModel" "stopped" "[Z") (by decide +kernel)
  have w_2 := hts (.fieldLink RX5 48 "NoticeStationsModel" "lock" "[I") (by decide +kernel)
  have w_3 := hts (.fieldLink RX5 51 "NoticeStationsModel" "open" "[I") (by decide +kernel)
  refine lv_aload_n hx hb dX5_stop_0 rfl (lv_at hl 0 rfl) ?_
  refine lv_iload_n hx hb dX5_stop_1 rfl (lv_at hl 1 rfl) ?_
  refine va_calli (va_runS (As := [.int p0]) (rest := [.ref mo]) ⟨hx, hb, hml, hown, hts⟩ (c_X5_isOne l hlt D tC dz s.heap.size mo ma F th N L hJ p0 ) (va_cwS 1 hts gX5_stop_X5_isOne rfl rfl rfl (by decide +kernel) ⟨Nat.le_of_ble_eq_true rfl, Nat.le_of_ble_eq_true rfl⟩) ⟨pB_blind, pB_at hP hD hK hN hE (hS.mono hAm) (freeA hD (hS.mono hAm) hA)⟩ rfl rfl hl.1 rfl (lv_room (Nat.le_of_ble_eq_true rfl)) dX5_stop_2 ⟨Nat.le_of_ble_eq_true rfl, Nat.le_of_ble_eq_true rfl⟩) hS oldN (freeN hS hN0) (fun r_1 u t9 H1 locs ht hvm hw hB hz1 hk1 hS => ?_)
  have hw_2 := hw
  have hP := keepP hP hk1
  generalize H1 = H at hP hS ⊢
  refine lv_if_eq (tgt := 12) hx hb dX5_stop_5 (by decide) (fun c_4 => ?_) (fun c_4 => ?_)
  · skip
    refine lv_iconst (v := 1) hx hb dX5_stop_12 (by decide) ?_
    have hS := hS.mono hAm
    refine va_put (D := D) (ci := 6) (v := .int 1) (ty := .int) (C := RX5) (T := TX5) (N := 29) hx hb hts in_X5_stop_X5 tyX5 tyX5_ok nmX5 hown hK hP hD hS 0 mW_0 rfl 0 (by decide) w_0 (fun _ h9 => h9) rfl (by decide +kernel) (by first | rfl | decide) (by first | rfl | decide) (Nat.le_of_ble_eq_true rfl) dX5_stop_13 (fun H locs hP hD hS => ?_)
    have hP : va_P D vwCl (mW tC mo ma F 1 N L) H := hP
    have hD : va_D A (mW tC mo ma F 1 N L) := hD
    refine lv_aload_n hx hb dX5_stop_16 rfl (lv_at hl 0 rfl) ?_
    refine va_get (D := D) (ci := 6) (v := .int 1) (C := RX5) (T := TX5) (N := 29) hx hb hts in_X5_stop_X5 hown hK hP 0 mW_0 rfl 0 (by decide) w_0 (fun _ h9 => h9) rfl dX5_stop_17 ?_
    refine lv_if_gt (tgt := 32) hx hb dX5_stop_20 (by decide) (fun _ => ?_) (fun hc => absurd (by decide) hc)
    refine lv_iconst (v := 0) hx hb dX5_stop_32 (by decide) ?_
    refine W.widen (k := 0) (n := 0) (by omega) (by omega) ?_
    exact W.zret (v := 0) hx hb hr (by decide) (fun t9 ht hW => ⟨⟨0, (F, 1), rfl, (Or.inl ⟨rfl, rfl, (bl0 hw_2 c_4)⟩), ⟨N, hJ, by omega, by omega, (by show F 20 = F 20; rfl), (by rw [ht]; exact hP), va_K.moved hW.alike hK, hD⟩⟩, hS.F ht⟩) hS.2.2 dX5_stop_33 hlocks
  · skip
    obtain ⟨k_5, hk_5, ek_5⟩ := ix5 (bl1 hw_2 c_4)
    subst ek_5
    refine lv_iconst (v := 0) hx hb dX5_stop_8 (by decide) ?_
    refine lv_goto (tgt := 13) hx hb dX5_stop_9 (by decide) ?_
    have hS := hS.mono hAm
    refine va_put (D := D) (ci := 6) (v := .int 0) (ty := .int) (C := RX5) (T := TX5) (N := 29) hx hb hts in_X5_stop_X5 tyX5 tyX5_ok nmX5 hown hK hP hD hS 0 mW_0 rfl 0 (by decide) w_0 (fun _ h9 => h9) rfl (by decide +kernel) (by first | rfl | decide) (by first | rfl | decide) (Nat.le_of_ble_eq_true rfl) dX5_stop_13 (fun H locs hP hD hS => ?_)
    have hP : va_P D vwCl (mW tC mo ma F 0 N L) H := hP
    have hD : va_D A (mW tC mo ma F 0 N L) := hD
    refine lv_aload_n hx hb dX5_stop_16 rfl (lv_at hl 0 rfl) ?_
    refine va_get (D := D) (ci := 6) (v := .int 0) (C := RX5) (T := TX5) (N := 29) hx hb hts in_X5_stop_X5 hown hK hP 0 mW_0 rfl 0 (by decide) w_0 (fun _ h9 => h9) rfl dX5_stop_17 ?_
    refine lv_if_gt (tgt := 32) hx hb dX5_stop_20 (by decide) (fun hc => absurd hc (by decide)) (fun _ => ?_)
    refine lv_aload_n hx hb dX5_stop_23 rfl (lv_at hl 0 rfl) ?_
    refine va_get (D := D) (ci := 6) (v := .ref (ma 12)) (C := RX5) (T := TX5) (N := 29) hx hb hts in_X5_stop_X5 hown hK hP 0 mW_0 rfl 12 (by decide) w_1 (fun _ h9 => h9) rfl dX5_stop_24 ?_
    refine lv_iload_n hx hb dX5_stop_27 rfl (lv_at hl 1 rfl) ?_
    refine m_zld hx hb hK hP 11 (k := k_5) mW_12 (show k_5 < 5 by omega) (by decide) dX5_stop_28 ?_
    refine lv_topi (fun z_6 ez_6 => ?_)
    refine lv_if_eq (tgt := 34) hx hb dX5_stop_29 (by decide) (fun c_7 => ?_) (fun c_7 => ?_)
    · skip
      refine lv_aload_n hx hb dX5_stop_34 rfl (lv_at hl 0 rfl) ?_
      refine va_get (D := D) (ci := 6) (v := .ref (ma 12)) (C := RX5) (T := TX5) (N := 29) hx hb hts in_X5_stop_X5 hown hK hP 0 mW_0 rfl 12 (by decide) w_1 (fun _ h9 => h9) rfl dX5_stop_35 ?_
      refine lv_iload_n hx hb dX5_stop_38 rfl (lv_at hl 1 rfl) ?_
      refine lv_iconst (v := 1) hx hb dX5_stop_39 (by decide) ?_
      refine m_zst hx hb hK hP hD hS 11 (j := 12) (k := k_5) (x := 1) (y := 1) mW_12 mS_12 (show k_5 < 5 by omega) (by decide) (by decide) dX5_stop_40 (fun F_8 H locs hF_8 hP hD hS => ?_)
      have m_9 := mm_at hF_8
      have hI_10 := hJ.fr hF_8 (by decide)
      refine lv_aload_n hx hb dX5_stop_41 rfl (lv_at hl 0 rfl) ?_
      refine va_get (D := D) (ci := 6) (v := .ref (ma 13)) (C := RX5) (T := TX5) (N := 29) hx hb hts in_X5_stop_X5 hown hK hP 0 mW_0 rfl 13 (by decide) w_2 (fun _ h9 => h9) rfl dX5_stop_42 ?_
      refine lv_iload_n hx hb dX5_stop_45 rfl (lv_at hl 1 rfl) ?_
      refine lv_iconst (v := (-1)) hx hb dX5_stop_46 (by decide) ?_
      refine m_ist hx hb hK hP hD hS 12 (j := 13) (k := k_5) (x := (-1)) mW_13 mS_13 (show k_5 < 5 by omega) (by decide) dX5_stop_47 (fun F_11 H locs hF_11 hP hD hS => ?_)
      have m_12 := mm_put m_9 hF_11 (show 12 ≠ 13 by decide)
      have m_13 := mm_at hF_11
      have hI_14 := hI_10.fr hF_11 (by decide)
      refine lv_aload_n hx hb dX5_stop_48 rfl (lv_at hl 0 rfl) ?_
      refine va_get (D := D) (ci := 6) (v := .ref (ma 14)) (C := RX5) (T := TX5) (N := 29) hx hb hts in_X5_stop_X5 hown hK hP 0 mW_0 rfl 14 (by decide) w_3 (fun _ h9 => h9) rfl dX5_stop_49 ?_
      refine lv_iload_n hx hb dX5_stop_52 rfl (lv_at hl 1 rfl) ?_
      refine lv_iconst (v := (-1)) hx hb dX5_stop_53 (by decide) ?_
      refine m_ist hx hb hK hP hD hS 13 (j := 14) (k := k_5) (x := (-1)) mW_14 mS_14 (show k_5 < 5 by omega) (by decide) dX5_stop_54 (fun F_15 H locs hF_15 hP hD hS => ?_)
      have m_16 := mm_put m_12 hF_15 (show 12 ≠ 14 by decide)
      have m_17 := mm_put m_13 hF_15 (show 13 ≠ 14 by decide)
      have m_18 := mm_at hF_15
      have hI_19 := hI_14.fr hF_15 (by decide)
      refine lv_iconst (v := 1) hx hb dX5_stop_55 (by decide) ?_
      refine W.widen (k := 0) (n := 0) (by omega) (by omega) ?_
      exact W.zret (v := 1) hx hb hr (by decide) (fun t9 ht hW => ⟨⟨1, (F_15, 0), rfl, (Or.inr ⟨rfl, k_5, by omega, rfl, Or.inr ⟨rfl, (by rw [← ez_6]; exact c_7), by show F_15 12 = _; rw [hF_15, updF_ne (i := 12) (by decide), hF_11, updF_ne (i := 12) (by decide), hF_8, updF_at]⟩⟩), ⟨N, hI_19, by omega, by omega, (by show F_15 20 = F 20; rw [hF_15, updF_ne (i := 20) (by decide), hF_11, updF_ne (i := 20) (by decide), hF_8, updF_ne (i := 20) (by decide)]), (by rw [ht]; exact hP), va_K.moved hW.alike hK, hD⟩⟩, hS.F ht⟩) hS.2.2 dX5_stop_56 hlocks
    · skip
      refine lv_iconst (v := 0) hx hb dX5_stop_32 (by decide) ?_
      refine W.widen (k := 0) (n := 0) (by omega) (by omega) ?_
      exact W.zret (v := 0) hx hb hr (by decide) (fun t9 ht hW => ⟨⟨0, (F, 0), rfl, (Or.inr ⟨rfl, k_5, by omega, rfl, Or.inl ⟨rfl, (fun h9 => c_7 (by rw [ez_6]; exact h9)), rfl⟩⟩), ⟨N, hJ, by omega, by omega, (by show F 20 = F 20; rfl), (by rw [ht]; exact hP), va_K.moved hW.alike hK, hD⟩⟩, hS.F ht⟩) hS.2.2 dX5_stop_33 hlocks
set_option maxHeartbeats 4000000 in
set_option maxRecDepth 100000 in
theorem c_X5_start (l : Launch) (hlt : l.stackTraces = false) (D : va_G) (tC : Nat → ClassId) (dz sz : Nat) (mo : Nat) (ma : Nat → Nat) (F : Nat → Nat → Int32) (th : Int32) (N L : Nat) (hJ : MI F N L) (p0 : Int32)  : Met l yX5_start wsX5_start ({ frames := 1, cells := 0, slots := 0, locals := 20 }) (va_Pc [.ref mo, .int p0] (pB D tC dz (mW tC mo ma F th N L) sz)) (va_Qi (fun (r : Int32) (u2 : (Nat → Nat → Int32) × Int32) => (u2.2 = 1 ∧ u2.1 = F ∧ (p0 < 0 ∨ 5 ≤ p0)) ∨ (u2.2 = 0 ∧ ∃ k : Nat, k < 5 ∧ p0 = nI k ∧ ((r = 0 ∧ F 12 k = 0 ∧ u2.1 12 = F 12) ∨ (r = 1 ∧ ¬ F 12 k = 0 ∧ u2.1 12 = upd (F 12) k 0)))) (fun (u2 : (Nat → Nat → Int32) × Int32) t9 => ∃ (N2 : Nat), MI u2.1 N2 L ∧ N ≤ N2 ∧ N2 ≤ N + 0 ∧ (u2.1 20 = F 20) ∧ pA D tC (va_A (mW tC mo ma F th N L) sz) (mW tC mo ma u2.1 u2.2 N2 L) t9) (va_A (mW tC mo ma F th N L) sz)) 0 0 (va_A (mW tC mo ma F th N L) sz) := by
  refine Met.ofW (cc := cX5_start) (maxL := 2) (ret := (some .boolean)) (by decide) rfl ?_
  intro p e s m args below meth c s₁ B hml hv
  obtain ⟨rfl, hsz, hP, hK, hD0, hN, hE⟩ := hv
  have hx := B.exec
  have hb := B.bytes
  have hr := B.returns
  have hts := atoms_spec (ws := wsX5_start) B.pre
  have hown : s.vm.findClass RX5 = some m.cls := findClass_of_methodNamed B.named
  have hlocks := B.notSynchronized
  subst hsz
  have hD := hD0.self (sz := s.heap.size)
  have hAm : ∀ q : Nat, xN s.heap.size q → va_A (mW tC mo ma F th N L) s.heap.size q := xN_A
  have hN0 : ∀ q : Nat, s.heap.size ≤ q → xN s.heap.size q := fun _ h => h
  have hE0 := eH_narrow hE hAm
  generalize va_A (mW tC mo ma F th N L) s.heap.size = A at hD hE hAm ⊢
  have hA : ∀ q : Nat, s.heap.size ≤ q → A q := fun q h => hAm q h
  have hS : va_S (xN s.heap.size) s.heap s.heap [] := va_S.rf
  have hN9 := hJ.n9
  have hL9 := hJ.l9
  have hT : F 12 = F 12 ∧ F 20 = F 20 := ⟨rfl, rfl⟩
  have hl := lv_entry ([.ref mo, .int p0]) (n := 2) (Nat.le_of_ble_eq_true rfl)
  rw [lg_entry_eq]
  generalize (lg_sl ([.ref mo, .int p0]) ++ List.replicate (2 - (lg_sl ([.ref mo, .int p0])).length) Slot.unset).toArray = ls at hl ⊢
  have hl : lv_has ls 2 [(0, .ref mo), (1, .int p0)] := hl
  have w_0 := hts (.fieldLink RX5 93 "NoticeStationsModel" "thrown" "I") (by decide +kernel)
  have w_1 := hts (.fieldLink RX5 44 "NoticeStationsModel" "stopped" "[Z") (by decide +kernel)
  refine lv_aload_n hx hb dX5_start_0 rfl (lv_at hl 0 rfl) ?_
  refine lv_iload_n hx hb dX5_start_1 rfl (lv_at hl 1 rfl) ?_
  refine va_calli (va_runS (As := [.int p0]) (rest := [.ref mo]) ⟨hx, hb, hml, hown, hts⟩ (c_X5_isOne l hlt D tC dz s.heap.size mo ma F th N L hJ p0 ) (va_cwS 1 hts gX5_start_X5_isOne rfl rfl rfl (by decide +kernel) ⟨Nat.le_of_ble_eq_true rfl, Nat.le_of_ble_eq_true rfl⟩) ⟨pB_blind, pB_at hP hD hK hN hE (hS.mono hAm) (freeA hD (hS.mono hAm) hA)⟩ rfl rfl hl.1 rfl (lv_room (Nat.le_of_ble_eq_true rfl)) dX5_start_2 ⟨Nat.le_of_ble_eq_true rfl, Nat.le_of_ble_eq_true rfl⟩) hS oldN (freeN hS hN0) (fun r_1 u t9 H1 locs ht hvm hw hB hz1 hk1 hS => ?_)
  have hw_2 := hw
  have hP := keepP hP hk1
  generalize H1 = H at hP hS ⊢
  refine lv_if_eq (tgt := 12) hx hb dX5_start_5 (by decide) (fun c_4 => ?_) (fun c_4 => ?_)
  · skip
    refine lv_iconst (v := 1) hx hb dX5_start_12 (by decide) ?_
    have hS := hS.mono hAm
    refine va_put (D := D) (ci := 6) (v := .int 1) (ty := .int) (C := RX5) (T := TX5) (N := 29) hx hb hts in_X5_start_X5 tyX5 tyX5_ok nmX5 hown hK hP hD hS 0 mW_0 rfl 0 (by decide) w_0 (fun _ h9 => h9) rfl (by decide +kernel) (by first | rfl | decide) (by first | rfl | decide) (Nat.le_of_ble_eq_true rfl) dX5_start_13 (fun H locs hP hD hS => ?_)
    have hP : va_P D vwCl (mW tC mo ma F 1 N L) H := hP
    have hD : va_D A (mW tC mo ma F 1 N L) := hD
    refine lv_aload_n hx hb dX5_start_16 rfl (lv_at hl 0 rfl) ?_
    refine va_get (D := D) (ci := 6) (v := .int 1) (C := RX5) (T := TX5) (N := 29) hx hb hts in_X5_start_X5 hown hK hP 0 mW_0 rfl 0 (by decide) w_0 (fun _ h9 => h9) rfl dX5_start_17 ?_
    refine lv_if_gt (tgt := 32) hx hb dX5_start_20 (by decide) (fun _ => ?_) (fun hc => absurd (by decide) hc)
    refine lv_iconst (v := 0) hx hb dX5_start_32 (by decide) ?_
    refine W.widen (k := 0) (n := 0) (by omega) (by omega) ?_
    exact W.zret (v := 0) hx hb hr (by decide) (fun t9 ht hW => ⟨⟨0, (F, 1), rfl, (Or.inl ⟨rfl, rfl, (bl0 hw_2 c_4)⟩), ⟨N, hJ, by omega, by omega, (by show F 20 = F 20; rfl), (by rw [ht]; exact hP), va_K.moved hW.alike hK, hD⟩⟩, hS.F ht⟩) hS.2.2 dX5_start_33 hlocks
  · skip
    obtain ⟨k_5, hk_5, ek_5⟩ := ix5 (bl1 hw_2 c_4)
    subst ek_5
    refine lv_iconst (v := 0) hx hb dX5_start_8 (by decide) ?_
    refine lv_goto (tgt := 13) hx hb dX5_start_9 (by decide) ?_
    have hS := hS.mono hAm
    refine va_put (D := D) (ci := 6) (v := .int 0) (ty := .int) (C := RX5) (T := TX5) (N := 29) hx hb hts in_X5_start_X5 tyX5 tyX5_ok nmX5 hown hK hP hD hS 0 mW_0 rfl 0 (by decide) w_0 (fun _ h9 => h9) rfl (by decide +kernel) (by first | rfl | decide) (by first | rfl | decide) (Nat.le_of_ble_eq_true rfl) dX5_start_13 (fun H locs hP hD hS => ?_)
    have hP : va_P D vwCl (mW tC mo ma F 0 N L) H := hP
    have hD : va_D A (mW tC mo ma F 0 N L) := hD
    refine lv_aload_n hx hb dX5_start_16 rfl (lv_at hl 0 rfl) ?_
    refine va_get (D := D) (ci := 6) (v := .int 0) (C := RX5) (T := TX5) (N := 29) hx hb hts in_X5_start_X5 hown hK hP 0 mW_0 rfl 0 (by decide) w_0 (fun _ h9 => h9) rfl dX5_start_17 ?_
    refine lv_if_gt (tgt := 32) hx hb dX5_start_20 (by decide) (fun hc => absurd hc (by decide)) (fun _ => ?_)
    refine lv_aload_n hx hb dX5_start_23 rfl (lv_at hl 0 rfl) ?_
    refine va_get (D := D) (ci := 6) (v := .ref (ma 12)) (C := RX5) (T := TX5) (N := 29) hx hb hts in_X5_start_X5 hown hK hP 0 mW_0 rfl 12 (by decide) w_1 (fun _ h9 => h9) rfl dX5_start_24 ?_
    refine lv_iload_n hx hb dX5_start_27 rfl (lv_at hl 1 rfl) ?_
    refine m_zld hx hb hK hP 11 (k := k_5) mW_12 (show k_5 < 5 by omega) (by decide) dX5_start_28 ?_
    refine lv_topi (fun z_6 ez_6 => ?_)
    refine lv_if_ne (tgt := 34) hx hb dX5_start_29 (by decide) (fun c_7 => ?_) (fun c_7 => ?_)
    · skip
      refine lv_aload_n hx hb dX5_start_34 rfl (lv_at hl 0 rfl) ?_
      refine va_get (D := D) (ci := 6) (v := .ref (ma 12)) (C := RX5) (T := TX5) (N := 29) hx hb hts in_X5_start_X5 hown hK hP 0 mW_0 rfl 12 (by decide) w_1 (fun _ h9 => h9) rfl dX5_start_35 ?_
      refine lv_iload_n hx hb dX5_start_38 rfl (lv_at hl 1 rfl) ?_
      refine lv_iconst (v := 0) hx hb dX5_start_39 (by decide) ?_
      refine m_zst hx hb hK hP hD hS 11 (j := 12) (k := k_5) (x := 0) (y := 0) mW_12 mS_12 (show k_5 < 5 by omega) (by decide) (by decide) dX5_start_40 (fun F_8 H locs hF_8 hP hD hS => ?_)
      have m_9 := mm_at hF_8
      have hI_10 := hJ.fr hF_8 (by decide)
      refine lv_iconst (v := 1) hx hb dX5_start_41 (by decide) ?_
      refine W.widen (k := 0) (n := 0) (by omega) (by omega) ?_
      exact W.zret (v := 1) hx hb hr (by decide) (fun t9 ht hW => ⟨⟨1, (F_8, 0), rfl, (Or.inr ⟨rfl, k_5, by omega, rfl, Or.inr ⟨rfl, (fun h9 => c_7 (by rw [ez_6]; exact h9)), by show F_8 12 = _; rw [hF_8, updF_at]⟩⟩), ⟨N, hI_10, by omega, by omega, (by show F_8 20 = F 20; rw [hF_8, updF_ne (i := 20) (by decide)]), (by rw [ht]; exact hP), va_K.moved hW.alike hK, hD⟩⟩, hS.F ht⟩) hS.2.2 dX5_start_42 hlocks
    · skip
      refine lv_iconst (v := 0) hx hb dX5_start_32 (by decide) ?_
      refine W.widen (k := 0) (n := 0) (by omega) (by omega) ?_
      exact W.zret (v := 0) hx hb hr (by decide) (fun t9 ht hW => ⟨⟨0, (F, 0), rfl, (Or.inr ⟨rfl, k_5, by omega, rfl, Or.inl ⟨rfl, (by rw [← ez_6]; exact c_7), rfl⟩⟩), ⟨N, hJ, by omega, by omega, (by show F 20 = F 20; rfl), (by rw [ht]; exact hP), va_K.moved hW.alike hK, hD⟩⟩, hS.F ht⟩) hS.2.2 dX5_start_33 hlocks
