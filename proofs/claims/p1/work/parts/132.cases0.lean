set_option maxRecDepth 100000 in
theorem dL_law_132 : decode cL_law 132 = .ok (.aload_n 1, 1) := by decide +kernel
set_option maxRecDepth 100000 in
theorem dL_law_133 : decode cL_law 133 = .ok (.aload_n 0, 1) := by decide +kernel
set_option maxRecDepth 100000 in
theorem dL_law_134 : decode cL_law 134 = .ok (.iload 4, 2) := by decide +kernel
set_option maxRecDepth 100000 in
theorem dL_law_136 : decode cL_law 136 = .ok (.iconst 1, 1) := by decide +kernel
set_option maxRecDepth 100000 in
theorem dL_law_137 : decode cL_law 137 = .ok (.iadd, 1) := by decide +kernel
set_option maxRecDepth 100000 in
theorem dL_law_138 : decode cL_law 138 = .ok (.iaload, 1) := by decide +kernel
set_option maxRecDepth 100000 in
theorem dL_law_139 : decode cL_law 139 = .ok (.aload_n 0, 1) := by decide +kernel
set_option maxRecDepth 100000 in
theorem dL_law_140 : decode cL_law 140 = .ok (.iload 4, 2) := by decide +kernel
set_option maxRecDepth 100000 in
theorem dL_law_142 : decode cL_law 142 = .ok (.iconst 2, 1) := by decide +kernel
set_option maxRecDepth 100000 in
theorem dL_law_143 : decode cL_law 143 = .ok (.iadd, 1) := by decide +kernel
set_option maxRecDepth 100000 in
theorem dL_law_144 : decode cL_law 144 = .ok (.iaload, 1) := by decide +kernel
set_option maxRecDepth 100000 in
theorem dL_law_145 : decode cL_law 145 = .ok (.aload_n 0, 1) := by decide +kernel
set_option maxRecDepth 100000 in
theorem dL_law_146 : decode cL_law 146 = .ok (.iload 4, 2) := by decide +kernel
set_option maxRecDepth 100000 in
theorem dL_law_148 : decode cL_law 148 = .ok (.iconst 3, 1) := by decide +kernel
set_option maxRecDepth 100000 in
theorem dL_law_149 : decode cL_law 149 = .ok (.iadd, 1) := by decide +kernel
set_option maxRecDepth 100000 in
theorem dL_law_150 : decode cL_law 150 = .ok (.iaload, 1) := by decide +kernel
set_option maxRecDepth 100000 in
theorem dL_law_151 : decode cL_law 151 = .ok (.ifCond .eq 7, 3) := by decide +kernel
set_option maxRecDepth 100000 in
theorem dL_law_158 : decode cL_law 158 = .ok (.iconst 0, 1) := by decide +kernel
set_option maxRecDepth 100000 in
theorem dL_law_159 : decode cL_law 159 = .ok (.aload_n 3, 1) := by decide +kernel
set_option maxRecDepth 100000 in
theorem dL_law_160 : decode cL_law 160 = .ok (.invokestatic 89, 3) := by decide +kernel
set_option maxRecDepth 20000 in
theorem ggL_law_L_cable : GoodIn wsL_law wsL_cable := goodIn_ca (goodIn_r _ [95, 96, 97, 98, 99, 2, 100, 16, 101, 102, 103, 104, 105, 106, 107, 108, 109, 707, 708, 709, 710] (by decide +kernel) (by decide +kernel)) (goodIn_sub (fun _ h => List.mem_append_left _ (List.mem_append_left _ (List.mem_append_left _ (List.mem_append_left _ (List.mem_append_right _ h))))) (by decide +kernel))
set_option maxRecDepth 20000 in
theorem gL_law_L_cable : GoodIn wsL_law (va_wsS RL 89 yL_cable wsL_cable) := goodIn_app (goodIn_of _ (by decide +kernel)) ggL_law_L_cable
set_option maxRecDepth 100000 in
theorem dL_law_163 : decode cL_law 163 = .ok (.istore 5, 2) := by decide +kernel
set_option maxRecDepth 100000 in
theorem dL_law_165 : decode cL_law 165 = .ok (.aload_n 2, 1) := by decide +kernel
set_option maxRecDepth 100000 in
theorem dL_law_166 : decode cL_law 166 = .ok (.aload_n 0, 1) := by decide +kernel
set_option maxRecDepth 100000 in
theorem dL_law_167 : decode cL_law 167 = .ok (.iload 4, 2) := by decide +kernel
set_option maxRecDepth 100000 in
theorem dL_law_169 : decode cL_law 169 = .ok (.iconst 1, 1) := by decide +kernel
set_option maxRecDepth 100000 in
theorem dL_law_170 : decode cL_law 170 = .ok (.iadd, 1) := by decide +kernel
set_option maxRecDepth 100000 in
theorem dL_law_171 : decode cL_law 171 = .ok (.iaload, 1) := by decide +kernel
set_option maxRecDepth 100000 in
theorem dL_law_172 : decode cL_law 172 = .ok (.aload_n 0, 1) := by decide +kernel
set_option maxRecDepth 100000 in
theorem dL_law_173 : decode cL_law 173 = .ok (.iload 4, 2) := by decide +kernel
set_option maxRecDepth 100000 in
theorem dL_law_175 : decode cL_law 175 = .ok (.iconst 2, 1) := by decide +kernel
set_option maxRecDepth 100000 in
theorem dL_law_176 : decode cL_law 176 = .ok (.iadd, 1) := by decide +kernel
set_option maxRecDepth 100000 in
theorem dL_law_177 : decode cL_law 177 = .ok (.iaload, 1) := by decide +kernel
set_option maxRecDepth 100000 in
theorem dL_law_178 : decode cL_law 178 = .ok (.aload_n 0, 1) := by decide +kernel
set_option maxRecDepth 100000 in
theorem dL_law_179 : decode cL_law 179 = .ok (.iload 4, 2) := by decide +kernel
set_option maxRecDepth 100000 in
theorem dL_law_181 : decode cL_law 181 = .ok (.iconst 3, 1) := by decide +kernel
set_option maxRecDepth 100000 in
theorem dL_law_182 : decode cL_law 182 = .ok (.iadd, 1) := by decide +kernel
set_option maxRecDepth 100000 in
theorem dL_law_183 : decode cL_law 183 = .ok (.iaload, 1) := by decide +kernel
set_option maxRecDepth 100000 in
theorem dL_law_184 : decode cL_law 184 = .ok (.ifCond .eq 7, 3) := by decide +kernel
set_option maxRecDepth 100000 in
theorem dL_law_191 : decode cL_law 191 = .ok (.iconst 0, 1) := by decide +kernel
set_option maxRecDepth 100000 in
theorem dL_law_192 : decode cL_law 192 = .ok (.invokevirtual 94, 3) := by decide +kernel
set_option maxRecDepth 20000 in
theorem ggL_law_X5_cable : GoodIn wsL_law wsX5_cable := goodIn_r _ [113, 114, 84, 115, 116, 5, 117, 711, 712, 713, 714, 715, 716, 717, 718, 719, 720, 721, 722, 723, 724, 725, 726, 727, 728, 729, 730, 731, 732, 733, 734, 735, 736, 737, 738, 739] (by decide +kernel) (by decide +kernel)
set_option maxRecDepth 20000 in
theorem gL_law_X5_cable : GoodIn wsL_law (wsV RL 94 RX5 yX5_cable wsX5_cable) := goodIn_app (goodIn_of _ (by decide +kernel)) ggL_law_X5_cable
set_option maxRecDepth 100000 in
theorem dL_law_195 : decode cL_law 195 = .ok (.istore 6, 2) := by decide +kernel
set_option maxRecDepth 100000 in
theorem dL_law_197 : decode cL_law 197 = .ok (.aload_n 2, 1) := by decide +kernel
set_option maxRecDepth 100000 in
theorem dL_law_198 : decode cL_law 198 = .ok (.invokevirtual 95, 3) := by decide +kernel
set_option maxRecDepth 20000 in
theorem ggL_law_X5_thrown : GoodIn wsL_law wsX5_thrown := goodIn_r _ [121, 114, 711, 712, 713, 714, 715, 716, 717, 718, 719, 720, 721, 722, 723, 724, 725, 726, 727, 728, 729, 730, 731, 732, 733, 734, 735, 736, 737, 738, 739] (by decide +kernel) (by decide +kernel)
set_option maxRecDepth 20000 in
theorem gL_law_X5_thrown : GoodIn wsL_law (wsV RL 95 RX5 yX5_thrown wsX5_thrown) := goodIn_app (goodIn_of _ (by decide +kernel)) ggL_law_X5_thrown
set_option maxRecDepth 100000 in
theorem dL_law_201 : decode cL_law 201 = .ok (.iload 5, 2) := by decide +kernel
set_option maxRecDepth 100000 in
theorem dL_law_203 : decode cL_law 203 = .ok (.if_icmp .eq 5, 3) := by decide +kernel
set_option maxRecDepth 100000 in
theorem dL_law_208 : decode cL_law 208 = .ok (.iload 5, 2) := by decide +kernel
set_option maxRecDepth 100000 in
theorem dL_law_210 : decode cL_law 210 = .ok (.ifCond .ne 22, 3) := by decide +kernel
set_option maxRecDepth 100000 in
theorem dL_law_232 : decode cL_law 232 = .ok (.goto 1100, 3) := by decide +kernel
set_option maxRecDepth 100000 in
theorem dL_law_213 : decode cL_law 213 = .ok (.aload_n 3, 1) := by decide +kernel
set_option maxRecDepth 100000 in
theorem dL_law_214 : decode cL_law 214 = .ok (.iconst 0, 1) := by decide +kernel
set_option maxRecDepth 100000 in
theorem dL_law_215 : decode cL_law 215 = .ok (.laload, 1) := by decide +kernel
set_option maxRecDepth 100000 in
theorem dL_law_216 : decode cL_law 216 = .ok (.iload 6, 2) := by decide +kernel
set_option maxRecDepth 100000 in
theorem dL_law_218 : decode cL_law 218 = .ok (.ifCond .eq 7, 3) := by decide +kernel
set_option maxRecDepth 100000 in
theorem dL_law_225 : decode cL_law 225 = .ok (.lconst 0, 1) := by decide +kernel
set_option maxRecDepth 100000 in
theorem dL_law_226 : decode cL_law 226 = .ok (.lcmp, 1) := by decide +kernel
set_option maxRecDepth 100000 in
theorem dL_law_227 : decode cL_law 227 = .ok (.ifCond .eq 5, 3) := by decide +kernel
set_option maxRecDepth 100000 in
theorem dL_law_221 : decode cL_law 221 = .ok (.lconst 1, 1) := by decide +kernel
set_option maxRecDepth 100000 in
theorem dL_law_222 : decode cL_law 222 = .ok (.goto 4, 3) := by decide +kernel
set_option maxRecDepth 100000 in
theorem dL_law_154 : decode cL_law 154 = .ok (.iconst 1, 1) := by decide +kernel
set_option maxRecDepth 100000 in
theorem dL_law_155 : decode cL_law 155 = .ok (.goto 4, 3) := by decide +kernel
set_option maxRecDepth 100000 in
theorem dL_law_187 : decode cL_law 187 = .ok (.iconst 1, 1) := by decide +kernel
set_option maxRecDepth 100000 in
theorem dL_law_188 : decode cL_law 188 = .ok (.goto 4, 3) := by decide +kernel
set_option maxRecDepth 100000 in
theorem dL_law_235 : decode cL_law 235 = .ok (.aload_n 1, 1) := by decide +kernel
set_option maxRecDepth 100000 in
theorem dL_law_236 : decode cL_law 236 = .ok (.aload_n 0, 1) := by decide +kernel
set_option maxRecDepth 100000 in
theorem dL_law_237 : decode cL_law 237 = .ok (.iload 4, 2) := by decide +kernel
set_option maxRecDepth 100000 in
theorem dL_law_239 : decode cL_law 239 = .ok (.iconst 1, 1) := by decide +kernel
set_option maxRecDepth 100000 in
theorem dL_law_240 : decode cL_law 240 = .ok (.iadd, 1) := by decide +kernel
set_option maxRecDepth 100000 in
theorem dL_law_241 : decode cL_law 241 = .ok (.iaload, 1) := by decide +kernel
set_option maxRecDepth 100000 in
theorem dL_law_242 : decode cL_law 242 = .ok (.aload_n 0, 1) := by decide +kernel
set_option maxRecDepth 100000 in
theorem dL_law_243 : decode cL_law 243 = .ok (.iload 4, 2) := by decide +kernel
set_option maxRecDepth 100000 in
theorem dL_law_245 : decode cL_law 245 = .ok (.iconst 2, 1) := by decide +kernel
set_option maxRecDepth 100000 in
theorem dL_law_246 : decode cL_law 246 = .ok (.iadd, 1) := by decide +kernel
set_option maxRecDepth 100000 in
theorem dL_law_247 : decode cL_law 247 = .ok (.iaload, 1) := by decide +kernel
set_option maxRecDepth 100000 in
theorem dL_law_248 : decode cL_law 248 = .ok (.aload_n 0, 1) := by decide +kernel
set_option maxRecDepth 100000 in
theorem dL_law_249 : decode cL_law 249 = .ok (.iload 4, 2) := by decide +kernel
set_option maxRecDepth 100000 in
theorem dL_law_251 : decode cL_law 251 = .ok (.iconst 3, 1) := by decide +kernel
set_option maxRecDepth 100000 in
theorem dL_law_252 : decode cL_law 252 = .ok (.iadd, 1) := by decide +kernel
set_option maxRecDepth 100000 in
theorem dL_law_253 : decode cL_law 253 = .ok (.iaload, 1) := by decide +kernel
set_option maxRecDepth 100000 in
theorem dL_law_254 : decode cL_law 254 = .ok (.aload_n 0, 1) := by decide +kernel
set_option maxRecDepth 100000 in
theorem dL_law_255 : decode cL_law 255 = .ok (.iload 4, 2) := by decide +kernel
set_option maxRecDepth 100000 in
theorem dL_law_257 : decode cL_law 257 = .ok (.iconst 4, 1) := by decide +kernel
set_option maxRecDepth 100000 in
theorem dL_law_258 : decode cL_law 258 = .ok (.iadd, 1) := by decide +kernel
set_option maxRecDepth 100000 in
theorem dL_law_259 : decode cL_law 259 = .ok (.iaload, 1) := by decide +kernel
set_option maxRecDepth 100000 in
theorem dL_law_260 : decode cL_law 260 = .ok (.aload_n 3, 1) := by decide +kernel
set_option maxRecDepth 100000 in
theorem dL_law_261 : decode cL_law 261 = .ok (.invokestatic 99, 3) := by decide +kernel
set_option maxRecDepth 20000 in
theorem ggL_law_L_write : GoodIn wsL_law wsL_write := goodIn_ca (goodIn_ca (goodIn_ca (goodIn_ca (goodIn_r _ [124, 96, 125, 126, 127, 128, 129, 130, 2, 131, 132, 133, 134, 135, 136, 137, 105, 106, 14, 107, 108, 109, 138, 139, 140, 141, 142, 143, 144, 145, 146, 147, 148, 149, 26, 150, 151, 52, 56, 152, 153, 154, 155, 55, 156, 24, 157, 158, 45, 159, 160, 161, 162, 20, 163, 164, 165, 19, 166, 167, 168, 169, 170, 11, 12, 171, 172, 75, 173, 174, 175, 176, 177, 178, 179, 180, 181, 182, 183, 184, 185, 186, 187, 188, 189, 190, 191, 192, 193, 194, 195, 196, 197, 198, 199, 200, 201, 202, 203, 204, 205, 206, 207, 208, 209, 210, 211, 212, 31, 213, 214, 215, 216, 217, 218, 219, 220, 221, 222, 223, 224, 30, 225, 226, 227, 228, 229, 230, 231, 232, 233, 234, 235, 236, 237, 238, 239, 240, 241, 242, 243, 244, 245, 246, 247, 248, 249, 250, 251, 252, 253, 254, 255, 256, 257, 258, 707, 708, 709, 710, 747, 748, 749, 750, 751, 752, 753, 754, 755, 756, 757, 758, 759, 743, 744, 745, 746, 740, 741, 742, 760, 761, 762, 763, 764] (by decide +kernel) (by decide +kernel)) (goodIn_sub (fun _ h => List.mem_append_left _ (List.mem_append_left _ (List.mem_append_left _ (List.mem_append_right _ h)))) (by decide +kernel))) (goodIn_sub (fun _ h => List.mem_append_left _ (List.mem_append_left _ (List.mem_append_left _ (List.mem_append_left _ (List.mem_append_right _ h))))) (by decide +kernel))) (goodIn_sub (fun _ h => List.mem_append_left _ (List.mem_append_left _ (List.mem_append_right _ h))) (by decide +kernel))) (goodIn_sub (fun _ h => List.mem_append_left _ (List.mem_append_right _ h)) (by decide +kernel))
set_option maxRecDepth 20000 in
theorem gL_law_L_write : GoodIn wsL_law (va_wsS RL 99 yL_write wsL_write) := goodIn_app (goodIn_of _ (by decide +kernel)) ggL_law_L_write
set_option maxRecDepth 100000 in
theorem dL_law_264 : decode cL_law 264 = .ok (.istore 5, 2) := by decide +kernel
set_option maxRecDepth 100000 in
theorem dL_law_266 : decode cL_law 266 = .ok (.aload_n 2, 1) := by decide +kernel
set_option maxRecDepth 100000 in
theorem dL_law_267 : decode cL_law 267 = .ok (.aload_n 0, 1) := by decide +kernel
set_option maxRecDepth 100000 in
theorem dL_law_268 : decode cL_law 268 = .ok (.iload 4, 2) := by decide +kernel
set_option maxRecDepth 100000 in
theorem dL_law_270 : decode cL_law 270 = .ok (.iconst 1, 1) := by decide +kernel
set_option maxRecDepth 100000 in
theorem dL_law_271 : decode cL_law 271 = .ok (.iadd, 1) := by decide +kernel
set_option maxRecDepth 100000 in
theorem dL_law_272 : decode cL_law 272 = .ok (.iaload, 1) := by decide +kernel
set_option maxRecDepth 100000 in
theorem dL_law_273 : decode cL_law 273 = .ok (.aload_n 0, 1) := by decide +kernel
set_option maxRecDepth 100000 in
theorem dL_law_274 : decode cL_law 274 = .ok (.iload 4, 2) := by decide +kernel
set_option maxRecDepth 100000 in
theorem dL_law_276 : decode cL_law 276 = .ok (.iconst 2, 1) := by decide +kernel
set_option maxRecDepth 100000 in
theorem dL_law_277 : decode cL_law 277 = .ok (.iadd, 1) := by decide +kernel
set_option maxRecDepth 100000 in
theorem dL_law_278 : decode cL_law 278 = .ok (.iaload, 1) := by decide +kernel
set_option maxRecDepth 100000 in
theorem dL_law_279 : decode cL_law 279 = .ok (.aload_n 0, 1) := by decide +kernel
set_option maxRecDepth 100000 in
theorem dL_law_280 : decode cL_law 280 = .ok (.iload 4, 2) := by decide +kernel
set_option maxRecDepth 100000 in
theorem dL_law_282 : decode cL_law 282 = .ok (.iconst 3, 1) := by decide +kernel
set_option maxRecDepth 100000 in
theorem dL_law_283 : decode cL_law 283 = .ok (.iadd, 1) := by decide +kernel
set_option maxRecDepth 100000 in
theorem dL_law_284 : decode cL_law 284 = .ok (.iaload, 1) := by decide +kernel
set_option maxRecDepth 100000 in
theorem dL_law_285 : decode cL_law 285 = .ok (.aload_n 0, 1) := by decide +kernel
set_option maxRecDepth 100000 in
theorem dL_law_286 : decode cL_law 286 = .ok (.iload 4, 2) := by decide +kernel
set_option maxRecDepth 100000 in
theorem dL_law_288 : decode cL_law 288 = .ok (.iconst 4, 1) := by decide +kernel
set_option maxRecDepth 100000 in
theorem dL_law_289 : decode cL_law 289 = .ok (.iadd, 1) := by decide +kernel
set_option maxRecDepth 100000 in
theorem dL_law_290 : decode cL_law 290 = .ok (.iaload, 1) := by decide +kernel
set_option maxRecDepth 100000 in
theorem dL_law_291 : decode cL_law 291 = .ok (.invokevirtual 102, 3) := by decide +kernel
set_option maxRecDepth 20000 in
theorem ggL_law_X5_write : GoodIn wsL_law wsX5_write := goodIn_r _ [262, 114, 115, 116, 5, 117, 263, 264, 265, 266, 65, 71, 72, 77, 78, 79, 80, 82, 83, 267, 268, 269, 270, 76, 73, 271, 272, 273, 274, 275, 276, 277, 278, 279, 280, 281, 282, 283, 284, 285, 286, 86, 87, 88, 89, 90, 711, 712, 713, 714, 715, 716, 717, 718, 719, 720, 721, 722, 723, 724, 725, 726, 727, 728, 729, 730, 731, 732, 733, 734, 735, 736, 737, 738, 739] (by decide +kernel) (by decide +kernel)
set_option maxRecDepth 20000 in
theorem gL_law_X5_write : GoodIn wsL_law (wsV RL 102 RX5 yX5_write wsX5_write) := goodIn_app (goodIn_of _ (by decide +kernel)) ggL_law_X5_write
set_option maxRecDepth 100000 in
theorem dL_law_294 : decode cL_law 294 = .ok (.istore 6, 2) := by decide +kernel
set_option maxRecDepth 100000 in
theorem dL_law_296 : decode cL_law 296 = .ok (.aload_n 2, 1) := by decide +kernel
set_option maxRecDepth 100000 in
theorem dL_law_297 : decode cL_law 297 = .ok (.invokevirtual 95, 3) := by decide +kernel
set_option maxRecDepth 100000 in
theorem dL_law_300 : decode cL_law 300 = .ok (.iload 5, 2) := by decide +kernel
set_option maxRecDepth 100000 in
theorem dL_law_302 : decode cL_law 302 = .ok (.if_icmp .eq 5, 3) := by decide +kernel
set_option maxRecDepth 100000 in
theorem dL_law_307 : decode cL_law 307 = .ok (.iload 5, 2) := by decide +kernel
set_option maxRecDepth 100000 in
theorem dL_law_309 : decode cL_law 309 = .ok (.ifCond .ne 15, 3) := by decide +kernel
set_option maxRecDepth 100000 in
theorem dL_law_324 : decode cL_law 324 = .ok (.goto 1008, 3) := by decide +kernel
set_option maxRecDepth 100000 in
theorem dL_law_312 : decode cL_law 312 = .ok (.aload_n 3, 1) := by decide +kernel
set_option maxRecDepth 100000 in
theorem dL_law_313 : decode cL_law 313 = .ok (.iconst 0, 1) := by decide +kernel
set_option maxRecDepth 100000 in
theorem dL_law_314 : decode cL_law 314 = .ok (.laload, 1) := by decide +kernel
set_option maxRecDepth 100000 in
theorem dL_law_315 : decode cL_law 315 = .ok (.iload 6, 2) := by decide +kernel
set_option maxRecDepth 100000 in
theorem dL_law_317 : decode cL_law 317 = .ok (.i2l, 1) := by decide +kernel
set_option maxRecDepth 100000 in
theorem dL_law_318 : decode cL_law 318 = .ok (.lcmp, 1) := by decide +kernel
set_option maxRecDepth 100000 in
theorem dL_law_319 : decode cL_law 319 = .ok (.ifCond .eq 5, 3) := by decide +kernel
set_option maxRecDepth 100000 in
theorem dL_law_327 : decode cL_law 327 = .ok (.aload_n 1, 1) := by decide +kernel
set_option maxRecDepth 100000 in
theorem dL_law_328 : decode cL_law 328 = .ok (.aload_n 0, 1) := by decide +kernel
set_option maxRecDepth 100000 in
theorem dL_law_329 : decode cL_law 329 = .ok (.iload 4, 2) := by decide +kernel
set_option maxRecDepth 100000 in
theorem dL_law_331 : decode cL_law 331 = .ok (.iconst 1, 1) := by decide +kernel
set_option maxRecDepth 100000 in
theorem dL_law_332 : decode cL_law 332 = .ok (.iadd, 1) := by decide +kernel
set_option maxRecDepth 100000 in
theorem dL_law_333 : decode cL_law 333 = .ok (.iaload, 1) := by decide +kernel
set_option maxRecDepth 100000 in
theorem dL_law_334 : decode cL_law 334 = .ok (.aload_n 0, 1) := by decide +kernel
set_option maxRecDepth 100000 in
theorem dL_law_335 : decode cL_law 335 = .ok (.iload 4, 2) := by decide +kernel
set_option maxRecDepth 100000 in
theorem dL_law_337 : decode cL_law 337 = .ok (.iconst 2, 1) := by decide +kernel
set_option maxRecDepth 100000 in
theorem dL_law_338 : decode cL_law 338 = .ok (.iadd, 1) := by decide +kernel
set_option maxRecDepth 100000 in
theorem dL_law_339 : decode cL_law 339 = .ok (.iaload, 1) := by decide +kernel
set_option maxRecDepth 100000 in
theorem dL_law_340 : decode cL_law 340 = .ok (.aload_n 3, 1) := by decide +kernel
set_option maxRecDepth 100000 in
theorem dL_law_341 : decode cL_law 341 = .ok (.invokestatic 103, 3) := by decide +kernel
set_option maxRecDepth 20000 in
theorem ggL_law_L_withdraw : GoodIn wsL_law wsL_withdraw := goodIn_ca (goodIn_ca (goodIn_ca (goodIn_ca (goodIn_r _ [289, 96, 290, 126, 127, 291, 292, 293, 2, 294, 295, 296, 134, 135, 136, 137, 105, 106, 14, 107, 108, 109, 297, 24, 298, 299, 45, 300, 301, 302, 303, 304, 305, 138, 139, 140, 141, 142, 143, 144, 145, 146, 147, 148, 149, 26, 150, 151, 52, 56, 152, 153, 154, 155, 55, 156, 157, 158, 159, 160, 161, 162, 20, 163, 164, 165, 19, 166, 167, 168, 169, 170, 11, 12, 171, 172, 75, 173, 174, 175, 176, 177, 178, 179, 180, 181, 182, 183, 184, 185, 186, 187, 188, 189, 190, 191, 192, 193, 194, 195, 196, 197, 198, 199, 200, 201, 202, 203, 204, 205, 206, 207, 208, 209, 210, 211, 212, 31, 213, 214, 215, 216, 217, 218, 219, 220, 221, 222, 223, 224, 30, 225, 226, 227, 228, 229, 230, 231, 232, 233, 234, 235, 236, 237, 238, 239, 240, 241, 242, 243, 244, 245, 246, 247, 248, 249, 250, 251, 252, 253, 254, 255, 256, 257, 258, 747, 748, 749, 750, 751, 752, 753, 754, 707, 708, 709, 710, 743, 744, 745, 746, 755, 756, 757, 758, 759, 740, 741, 742, 760, 761, 762, 763, 764] (by decide +kernel) (by decide +kernel)) (goodIn_sub (fun _ h => List.mem_append_right _ h) (by decide +kernel))) (goodIn_sub (fun _ h => List.mem_append_left _ (List.mem_append_left _ (List.mem_append_left _ (List.mem_append_left _ (List.mem_append_right _ h))))) (by decide +kernel))) (goodIn_sub (fun _ h => List.mem_append_left _ (List.mem_append_left _ (List.mem_append_right _ h))) (by decide +kernel))) (goodIn_sub (fun _ h => List.mem_append_left _ (List.mem_append_right _ h)) (by decide +kernel))
set_option maxRecDepth 20000 in
theorem gL_law_L_withdraw : GoodIn wsL_law (va_wsS RL 103 yL_withdraw wsL_withdraw) := goodIn_app (goodIn_of _ (by decide +kernel)) ggL_law_L_withdraw
set_option maxRecDepth 100000 in
theorem dL_law_344 : decode cL_law 344 = .ok (.istore 5, 2) := by decide +kernel
set_option maxRecDepth 100000 in
theorem dL_law_346 : decode cL_law 346 = .ok (.aload_n 2, 1) := by decide +kernel
set_option maxRecDepth 100000 in
theorem dL_law_347 : decode cL_law 347 = .ok (.aload_n 0, 1) := by decide +kernel
set_option maxRecDepth 100000 in
theorem dL_law_348 : decode cL_law 348 = .ok (.iload 4, 2) := by decide +kernel
set_option maxRecDepth 100000 in
theorem dL_law_350 : decode cL_law 350 = .ok (.iconst 1, 1) := by decide +kernel
set_option maxRecDepth 100000 in
theorem dL_law_351 : decode cL_law 351 = .ok (.iadd, 1) := by decide +kernel
set_option maxRecDepth 100000 in
theorem dL_law_352 : decode cL_law 352 = .ok (.iaload, 1) := by decide +kernel
set_option maxRecDepth 100000 in
theorem dL_law_353 : decode cL_law 353 = .ok (.aload_n 0, 1) := by decide +kernel
set_option maxRecDepth 100000 in
theorem dL_law_354 : decode cL_law 354 = .ok (.iload 4, 2) := by decide +kernel
set_option maxRecDepth 100000 in
theorem dL_law_356 : decode cL_law 356 = .ok (.iconst 2, 1) := by decide +kernel
set_option maxRecDepth 100000 in
theorem dL_law_357 : decode cL_law 357 = .ok (.iadd, 1) := by decide +kernel
set_option maxRecDepth 100000 in
theorem dL_law_358 : decode cL_law 358 = .ok (.iaload, 1) := by decide +kernel
set_option maxRecDepth 100000 in
theorem dL_law_359 : decode cL_law 359 = .ok (.invokevirtual 106, 3) := by decide +kernel
set_option maxRecDepth 20000 in
theorem ggL_law_X5_withdraw : GoodIn wsL_law wsX5_withdraw := goodIn_r _ [309, 71, 114, 115, 116, 5, 117, 310, 311, 312, 313, 65, 67, 66, 314, 315, 316, 317, 263, 264, 265, 266, 72, 77, 78, 79, 80, 82, 83, 267, 268, 269, 270, 76, 73, 271, 272, 273, 274, 275, 276, 277, 278, 279, 280, 281, 282, 283, 284, 285, 286, 86, 87, 88, 89, 90, 711, 712, 713, 714, 715, 716, 717, 718, 719, 720, 721, 722, 723, 724, 725, 726, 727, 728, 729, 730, 731, 732, 733, 734, 735, 736, 737, 738, 739] (by decide +kernel) (by decide +kernel)
set_option maxRecDepth 20000 in
theorem gL_law_X5_withdraw : GoodIn wsL_law (wsV RL 106 RX5 yX5_withdraw wsX5_withdraw) := goodIn_app (goodIn_of _ (by decide +kernel)) ggL_law_X5_withdraw
set_option maxRecDepth 100000 in
theorem dL_law_362 : decode cL_law 362 = .ok (.istore 6, 2) := by decide +kernel
set_option maxRecDepth 100000 in
theorem dL_law_364 : decode cL_law 364 = .ok (.aload_n 2, 1) := by decide +kernel
set_option maxRecDepth 100000 in
theorem dL_law_365 : decode cL_law 365 = .ok (.invokevirtual 95, 3) := by decide +kernel
set_option maxRecDepth 100000 in
theorem dL_law_368 : decode cL_law 368 = .ok (.iload 5, 2) := by decide +kernel
set_option maxRecDepth 100000 in
theorem dL_law_370 : decode cL_law 370 = .ok (.if_icmp .eq 5, 3) := by decide +kernel
set_option maxRecDepth 100000 in
theorem dL_law_375 : decode cL_law 375 = .ok (.iload 5, 2) := by decide +kernel
set_option maxRecDepth 100000 in
theorem dL_law_377 : decode cL_law 377 = .ok (.ifCond .ne 15, 3) := by decide +kernel
set_option maxRecDepth 100000 in
theorem dL_law_392 : decode cL_law 392 = .ok (.goto 940, 3) := by decide +kernel
set_option maxRecDepth 100000 in
theorem dL_law_395 : decode cL_law 395 = .ok (.aload_n 1, 1) := by decide +kernel
set_option maxRecDepth 100000 in
theorem dL_law_396 : decode cL_law 396 = .ok (.aload_n 0, 1) := by decide +kernel
set_option maxRecDepth 100000 in
theorem dL_law_397 : decode cL_law 397 = .ok (.iload 4, 2) := by decide +kernel
set_option maxRecDepth 100000 in
theorem dL_law_399 : decode cL_law 399 = .ok (.iconst 1, 1) := by decide +kernel
set_option maxRecDepth 100000 in
theorem dL_law_400 : decode cL_law 400 = .ok (.iadd, 1) := by decide +kernel
set_option maxRecDepth 100000 in
theorem dL_law_401 : decode cL_law 401 = .ok (.iaload, 1) := by decide +kernel
set_option maxRecDepth 100000 in
theorem dL_law_402 : decode cL_law 402 = .ok (.aload_n 3, 1) := by decide +kernel
set_option maxRecDepth 100000 in
theorem dL_law_403 : decode cL_law 403 = .ok (.invokestatic 107, 3) := by decide +kernel
set_option maxRecDepth 20000 in
theorem ggL_law_L_decide : GoodIn wsL_law wsL_decide := goodIn_ca (goodIn_ca (goodIn_ca (goodIn_r _ [320, 96, 126, 127, 321, 322, 323, 2, 324, 142, 143, 144, 145, 134, 135, 136, 137, 105, 106, 14, 107, 108, 109, 185, 148, 186, 187, 174, 325, 326, 327, 156, 24, 157, 158, 45, 328, 329, 330, 331, 332, 333, 188, 189, 190, 191, 172, 159, 160, 161, 162, 20, 163, 164, 165, 19, 166, 167, 334, 335, 336, 176, 175, 173, 337, 338, 339, 340, 341, 342, 343, 344, 46, 345, 23, 346, 347, 348, 241, 349, 350, 351, 352, 353, 354, 355, 15, 252, 253, 227, 254, 255, 256, 257, 258, 356, 42, 43, 44, 11, 12, 47, 48, 177, 178, 179, 180, 181, 182, 183, 184, 192, 193, 194, 195, 196, 197, 198, 199, 200, 201, 202, 203, 204, 205, 206, 207, 208, 209, 210, 211, 212, 31, 213, 214, 215, 216, 217, 218, 219, 220, 221, 222, 223, 224, 30, 225, 226, 228, 229, 230, 231, 232, 233, 234, 235, 236, 237, 238, 239, 240, 242, 243, 244, 245, 246, 247, 248, 249, 250, 251, 357, 358, 359, 360, 361, 362, 363, 364, 365, 26, 366, 367, 56, 57, 747, 748, 749, 750, 751, 752, 753, 754, 755, 756, 757, 758, 759, 707, 708, 709, 710, 743, 744, 745, 746, 740, 741, 742, 760, 761, 762, 763, 764] (by decide +kernel) (by decide +kernel)) (goodIn_sub (fun _ h => List.mem_append_left _ (List.mem_append_left _ (List.mem_append_right _ h))) (by decide +kernel))) (goodIn_sub (fun _ h => List.mem_append_left _ (List.mem_append_right _ h)) (by decide +kernel))) (goodIn_sub (fun _ h => List.mem_append_left _ (List.mem_append_left _ (List.mem_append_left _ (List.mem_append_left _ (List.mem_append_right _ h))))) (by decide +kernel))
set_option maxRecDepth 20000 in
theorem gL_law_L_decide : GoodIn wsL_law (va_wsS RL 107 yL_decide wsL_decide) := goodIn_app (goodIn_of _ (by decide +kernel)) ggL_law_L_decide
set_option maxRecDepth 100000 in
theorem dL_law_406 : decode cL_law 406 = .ok (.istore 5, 2) := by decide +kernel
set_option maxRecDepth 100000 in
theorem dL_law_408 : decode cL_law 408 = .ok (.aload_n 2, 1) := by decide +kernel
set_option maxRecDepth 100000 in
theorem dL_law_409 : decode cL_law 409 = .ok (.aload_n 0, 1) := by decide +kernel
set_option maxRecDepth 100000 in
theorem dL_law_410 : decode cL_law 410 = .ok (.iload 4, 2) := by decide +kernel
set_option maxRecDepth 100000 in
theorem dL_law_412 : decode cL_law 412 = .ok (.iconst 1, 1) := by decide +kernel
set_option maxRecDepth 100000 in
theorem dL_law_413 : decode cL_law 413 = .ok (.iadd, 1) := by decide +kernel
set_option maxRecDepth 100000 in
theorem dL_law_414 : decode cL_law 414 = .ok (.iaload, 1) := by decide +kernel
set_option maxRecDepth 100000 in
theorem dL_law_415 : decode cL_law 415 = .ok (.invokevirtual 110, 3) := by decide +kernel
set_option maxRecDepth 20000 in
theorem ggL_law_X5_decide : GoodIn wsL_law wsX5_decide := goodIn_r _ [371, 78, 80, 114, 82, 65, 64, 66, 67, 68, 69, 70, 79, 81, 115, 116, 5, 117, 372, 373, 374, 375, 91, 83, 280, 281, 282, 376, 377, 378, 379, 380, 381, 382, 383, 384, 385, 386, 271, 272, 273, 274, 275, 387, 388, 389, 15, 276, 277, 278, 279, 283, 284, 285, 286, 86, 87, 88, 89, 90, 390, 391, 392, 393, 71, 77, 711, 712, 713, 714, 715, 716, 717, 718, 719, 720, 721, 722, 723, 724, 725, 726, 727, 728, 729, 730, 731, 732, 733, 734, 735, 736, 737, 738, 739] (by decide +kernel) (by decide +kernel)
set_option maxRecDepth 20000 in
theorem gL_law_X5_decide : GoodIn wsL_law (wsV RL 110 RX5 yX5_decide wsX5_decide) := goodIn_app (goodIn_of _ (by decide +kernel)) ggL_law_X5_decide
set_option maxRecDepth 100000 in
theorem dL_law_418 : decode cL_law 418 = .ok (.istore 6, 2) := by decide +kernel
set_option maxRecDepth 100000 in
theorem dL_law_420 : decode cL_law 420 = .ok (.aload_n 2, 1) := by decide +kernel
set_option maxRecDepth 100000 in
theorem dL_law_421 : decode cL_law 421 = .ok (.invokevirtual 95, 3) := by decide +kernel
set_option maxRecDepth 100000 in
theorem dL_law_424 : decode cL_law 424 = .ok (.iload 5, 2) := by decide +kernel
set_option maxRecDepth 100000 in
theorem dL_law_426 : decode cL_law 426 = .ok (.if_icmp .eq 5, 3) := by decide +kernel
set_option maxRecDepth 100000 in
theorem dL_law_431 : decode cL_law 431 = .ok (.iload 5, 2) := by decide +kernel
set_option maxRecDepth 100000 in
theorem dL_law_433 : decode cL_law 433 = .ok (.ifCond .ne 22, 3) := by decide +kernel
set_option maxRecDepth 100000 in
theorem dL_law_455 : decode cL_law 455 = .ok (.goto 877, 3) := by decide +kernel
set_option maxRecDepth 100000 in
theorem dL_law_458 : decode cL_law 458 = .ok (.aload_n 1, 1) := by decide +kernel
set_option maxRecDepth 100000 in
theorem dL_law_459 : decode cL_law 459 = .ok (.aload_n 0, 1) := by decide +kernel
set_option maxRecDepth 100000 in
theorem dL_law_460 : decode cL_law 460 = .ok (.iload 4, 2) := by decide +kernel
set_option maxRecDepth 100000 in
theorem dL_law_462 : decode cL_law 462 = .ok (.iconst 1, 1) := by decide +kernel
set_option maxRecDepth 100000 in
theorem dL_law_463 : decode cL_law 463 = .ok (.iadd, 1) := by decide +kernel
set_option maxRecDepth 100000 in
theorem dL_law_464 : decode cL_law 464 = .ok (.iaload, 1) := by decide +kernel
set_option maxRecDepth 100000 in
theorem dL_law_465 : decode cL_law 465 = .ok (.invokestatic 111, 3) := by decide +kernel
set_option maxRecDepth 20000 in
theorem ggL_law_L_giveUp : GoodIn wsL_law wsL_giveUp := goodIn_ca (goodIn_ca (goodIn_ca (goodIn_r _ [396, 96, 126, 127, 397, 398, 399, 2, 400, 134, 135, 136, 137, 105, 106, 14, 107, 108, 109, 401, 402, 403, 404, 142, 143, 159, 160, 161, 162, 144, 145, 20, 163, 164, 165, 19, 166, 167, 365, 26, 366, 367, 56, 57, 192, 193, 194, 195, 196, 197, 198, 199, 200, 201, 11, 12, 202, 203, 204, 205, 206, 207, 208, 209, 210, 211, 212, 31, 213, 214, 215, 216, 217, 218, 219, 220, 221, 222, 223, 224, 30, 225, 226, 227, 228, 229, 230, 231, 232, 233, 234, 235, 236, 237, 238, 239, 240, 241, 242, 243, 244, 245, 246, 247, 248, 249, 250, 251, 252, 253, 254, 255, 256, 257, 258, 747, 748, 749, 750, 751, 752, 753, 754, 755, 756, 757, 758, 759, 707, 708, 709, 710, 740, 741, 742, 760, 761, 762, 763, 764] (by decide +kernel) (by decide +kernel)) (goodIn_sub (fun _ h => List.mem_append_left _ (List.mem_append_left _ (List.mem_append_left _ (List.mem_append_left _ (List.mem_append_right _ h))))) (by decide +kernel))) (goodIn_sub (fun _ h => List.mem_append_left _ (List.mem_append_left _ (List.mem_append_right _ h))) (by decide +kernel))) (goodIn_sub (fun _ h => List.mem_append_left _ (List.mem_append_right _ h)) (by decide +kernel))
set_option maxRecDepth 20000 in
theorem gL_law_L_giveUp : GoodIn wsL_law (va_wsS RL 111 yL_giveUp wsL_giveUp) := goodIn_app (goodIn_of _ (by decide +kernel)) ggL_law_L_giveUp
set_option maxRecDepth 100000 in
theorem dL_law_468 : decode cL_law 468 = .ok (.istore 5, 2) := by decide +kernel
set_option maxRecDepth 100000 in
theorem dL_law_470 : decode cL_law 470 = .ok (.aload_n 2, 1) := by decide +kernel
set_option maxRecDepth 100000 in
theorem dL_law_471 : decode cL_law 471 = .ok (.aload_n 0, 1) := by decide +kernel
set_option maxRecDepth 100000 in
theorem dL_law_472 : decode cL_law 472 = .ok (.iload 4, 2) := by decide +kernel
set_option maxRecDepth 100000 in
theorem dL_law_474 : decode cL_law 474 = .ok (.iconst 1, 1) := by decide +kernel
set_option maxRecDepth 100000 in
theorem dL_law_475 : decode cL_law 475 = .ok (.iadd, 1) := by decide +kernel
set_option maxRecDepth 100000 in
theorem dL_law_476 : decode cL_law 476 = .ok (.iaload, 1) := by decide +kernel
set_option maxRecDepth 100000 in
theorem dL_law_477 : decode cL_law 477 = .ok (.invokevirtual 114, 3) := by decide +kernel
set_option maxRecDepth 20000 in
theorem ggL_law_X5_giveUp : GoodIn wsL_law wsX5_giveUp := goodIn_r _ [408, 78, 114, 77, 115, 116, 5, 117, 271, 272, 273, 274, 275, 276, 277, 278, 279, 280, 281, 282, 283, 284, 285, 286, 86, 87, 88, 89, 90, 711, 712, 713, 714, 715, 716, 717, 718, 719, 720, 721, 722, 723, 724, 725, 726, 727, 728, 729, 730, 731, 732, 733, 734, 735, 736, 737, 738, 739] (by decide +kernel) (by decide +kernel)
set_option maxRecDepth 20000 in
theorem gL_law_X5_giveUp : GoodIn wsL_law (wsV RL 114 RX5 yX5_giveUp wsX5_giveUp) := goodIn_app (goodIn_of _ (by decide +kernel)) ggL_law_X5_giveUp
set_option maxRecDepth 100000 in
theorem dL_law_480 : decode cL_law 480 = .ok (.aload_n 2, 1) := by decide +kernel
set_option maxRecDepth 100000 in
theorem dL_law_481 : decode cL_law 481 = .ok (.invokevirtual 95, 3) := by decide +kernel
set_option maxRecDepth 100000 in
theorem dL_law_484 : decode cL_law 484 = .ok (.iload 5, 2) := by decide +kernel
set_option maxRecDepth 100000 in
theorem dL_law_486 : decode cL_law 486 = .ok (.if_icmp .eq 5, 3) := by decide +kernel
set_option maxRecDepth 100000 in
theorem dL_law_491 : decode cL_law 491 = .ok (.goto 841, 3) := by decide +kernel
set_option maxRecDepth 100000 in
theorem dL_law_494 : decode cL_law 494 = .ok (.aload_n 1, 1) := by decide +kernel
set_option maxRecDepth 100000 in
theorem dL_law_495 : decode cL_law 495 = .ok (.aload_n 0, 1) := by decide +kernel
set_option maxRecDepth 100000 in
theorem dL_law_496 : decode cL_law 496 = .ok (.iload 4, 2) := by decide +kernel
set_option maxRecDepth 100000 in
theorem dL_law_498 : decode cL_law 498 = .ok (.iconst 1, 1) := by decide +kernel
set_option maxRecDepth 100000 in
theorem dL_law_499 : decode cL_law 499 = .ok (.iadd, 1) := by decide +kernel
set_option maxRecDepth 100000 in
theorem dL_law_500 : decode cL_law 500 = .ok (.iaload, 1) := by decide +kernel
set_option maxRecDepth 100000 in
theorem dL_law_501 : decode cL_law 501 = .ok (.aload_n 3, 1) := by decide +kernel
set_option maxRecDepth 100000 in
theorem dL_law_502 : decode cL_law 502 = .ok (.invokestatic 115, 3) := by decide +kernel
set_option maxRecDepth 20000 in
theorem ggL_law_L_resend : GoodIn wsL_law wsL_resend := goodIn_ca (goodIn_ca (goodIn_ca (goodIn_r _ [411, 96, 126, 127, 412, 413, 414, 2, 415, 134, 135, 136, 137, 105, 106, 14, 107, 108, 109, 401, 402, 403, 404, 142, 143, 361, 148, 362, 363, 364, 181, 182, 183, 172, 173, 184, 185, 186, 187, 174, 188, 189, 190, 191, 159, 160, 161, 162, 144, 145, 20, 163, 164, 165, 19, 166, 167, 177, 178, 179, 180, 192, 193, 194, 195, 196, 197, 198, 199, 200, 201, 11, 12, 202, 203, 204, 205, 206, 207, 208, 209, 210, 211, 212, 31, 213, 214, 215, 216, 217, 218, 219, 220, 221, 222, 223, 224, 30, 225, 226, 227, 228, 229, 230, 231, 232, 233, 234, 235, 236, 237, 238, 239, 240, 241, 242, 243, 244, 245, 246, 247, 248, 249, 250, 251, 252, 253, 254, 255, 256, 257, 258, 707, 708, 709, 710, 747, 748, 749, 750, 751, 752, 753, 754, 755, 756, 757, 758, 759, 740, 741, 742, 760, 761, 762, 763, 764] (by decide +kernel) (by decide +kernel)) (goodIn_sub (fun _ h => List.mem_append_left _ (List.mem_append_left _ (List.mem_append_left _ (List.mem_append_left _ (List.mem_append_right _ h))))) (by decide +kernel))) (goodIn_sub (fun _ h => List.mem_append_left _ (List.mem_append_left _ (List.mem_append_right _ h))) (by decide +kernel))) (goodIn_sub (fun _ h => List.mem_append_left _ (List.mem_append_right _ h)) (by decide +kernel))
set_option maxRecDepth 20000 in
theorem gL_law_L_resend : GoodIn wsL_law (va_wsS RL 115 yL_resend wsL_resend) := goodIn_app (goodIn_of _ (by decide +kernel)) ggL_law_L_resend
set_option maxRecDepth 100000 in
theorem dL_law_505 : decode cL_law 505 = .ok (.istore 5, 2) := by decide +kernel
set_option maxRecDepth 100000 in
theorem dL_law_507 : decode cL_law 507 = .ok (.aload_n 2, 1) := by decide +kernel
set_option maxRecDepth 100000 in
theorem dL_law_508 : decode cL_law 508 = .ok (.aload_n 0, 1) := by decide +kernel
set_option maxRecDepth 100000 in
theorem dL_law_509 : decode cL_law 509 = .ok (.iload 4, 2) := by decide +kernel
set_option maxRecDepth 100000 in
theorem dL_law_511 : decode cL_law 511 = .ok (.iconst 1, 1) := by decide +kernel
set_option maxRecDepth 100000 in
theorem dL_law_512 : decode cL_law 512 = .ok (.iadd, 1) := by decide +kernel
set_option maxRecDepth 100000 in
theorem dL_law_513 : decode cL_law 513 = .ok (.iaload, 1) := by decide +kernel
set_option maxRecDepth 100000 in
theorem dL_law_514 : decode cL_law 514 = .ok (.invokevirtual 117, 3) := by decide +kernel
set_option maxRecDepth 20000 in
theorem ggL_law_X5_resend : GoodIn wsL_law wsX5_resend := goodIn_r _ [419, 78, 114, 80, 81, 82, 115, 116, 5, 117, 384, 385, 386, 280, 281, 282, 271, 272, 273, 274, 275, 276, 277, 278, 279, 283, 284, 285, 286, 86, 87, 88, 89, 90, 711, 712, 713, 714, 715, 716, 717, 718, 719, 720, 721, 722, 723, 724, 725, 726, 727, 728, 729, 730, 731, 732, 733, 734, 735, 736, 737, 738, 739] (by decide +kernel) (by decide +kernel)
set_option maxRecDepth 20000 in
theorem gL_law_X5_resend : GoodIn wsL_law (wsV RL 117 RX5 yX5_resend wsX5_resend) := goodIn_app (goodIn_of _ (by decide +kernel)) ggL_law_X5_resend
set_option maxRecDepth 100000 in
theorem dL_law_517 : decode cL_law 517 = .ok (.istore 6, 2) := by decide +kernel
set_option maxRecDepth 100000 in
theorem dL_law_519 : decode cL_law 519 = .ok (.aload_n 2, 1) := by decide +kernel
set_option maxRecDepth 100000 in
theorem dL_law_520 : decode cL_law 520 = .ok (.invokevirtual 95, 3) := by decide +kernel
set_option maxRecDepth 100000 in
theorem dL_law_523 : decode cL_law 523 = .ok (.iload 5, 2) := by decide +kernel
set_option maxRecDepth 100000 in
theorem dL_law_525 : decode cL_law 525 = .ok (.if_icmp .eq 5, 3) := by decide +kernel
set_option maxRecDepth 100000 in
theorem dL_law_530 : decode cL_law 530 = .ok (.iload 5, 2) := by decide +kernel
set_option maxRecDepth 100000 in
theorem dL_law_532 : decode cL_law 532 = .ok (.ifCond .ne 15, 3) := by decide +kernel
set_option maxRecDepth 100000 in
theorem dL_law_547 : decode cL_law 547 = .ok (.goto 785, 3) := by decide +kernel
set_option maxRecDepth 100000 in
theorem dL_law_550 : decode cL_law 550 = .ok (.aload_n 1, 1) := by decide +kernel
set_option maxRecDepth 100000 in
theorem dL_law_551 : decode cL_law 551 = .ok (.aload_n 0, 1) := by decide +kernel
set_option maxRecDepth 100000 in
theorem dL_law_552 : decode cL_law 552 = .ok (.iload 4, 2) := by decide +kernel
set_option maxRecDepth 100000 in
theorem dL_law_554 : decode cL_law 554 = .ok (.iconst 1, 1) := by decide +kernel
set_option maxRecDepth 100000 in
theorem dL_law_555 : decode cL_law 555 = .ok (.iadd, 1) := by decide +kernel
set_option maxRecDepth 100000 in
theorem dL_law_556 : decode cL_law 556 = .ok (.iaload, 1) := by decide +kernel
set_option maxRecDepth 100000 in
theorem dL_law_557 : decode cL_law 557 = .ok (.invokestatic 118, 3) := by decide +kernel
set_option maxRecDepth 20000 in
theorem ggL_law_L_unlock : GoodIn wsL_law wsL_unlock := goodIn_ca (goodIn_ca (goodIn_r _ [422, 96, 126, 423, 424, 425, 2, 426, 142, 143, 134, 135, 136, 137, 105, 106, 14, 107, 108, 109, 747, 748, 749, 750, 751, 752, 753, 754, 707, 708, 709, 710] (by decide +kernel) (by decide +kernel)) (goodIn_sub (fun _ h => List.mem_append_left _ (List.mem_append_left _ (List.mem_append_right _ h))) (by decide +kernel))) (goodIn_sub (fun _ h => List.mem_append_left _ (List.mem_append_left _ (List.mem_append_left _ (List.mem_append_left _ (List.mem_append_right _ h))))) (by decide +kernel))
set_option maxRecDepth 20000 in
theorem gL_law_L_unlock : GoodIn wsL_law (va_wsS RL 118 yL_unlock wsL_unlock) := goodIn_app (goodIn_of _ (by decide +kernel)) ggL_law_L_unlock
set_option maxRecDepth 100000 in
theorem dL_law_560 : decode cL_law 560 = .ok (.istore 5, 2) := by decide +kernel
set_option maxRecDepth 100000 in
theorem dL_law_562 : decode cL_law 562 = .ok (.aload_n 2, 1) := by decide +kernel
set_option maxRecDepth 100000 in
theorem dL_law_563 : decode cL_law 563 = .ok (.aload_n 0, 1) := by decide +kernel
set_option maxRecDepth 100000 in
theorem dL_law_564 : decode cL_law 564 = .ok (.iload 4, 2) := by decide +kernel
set_option maxRecDepth 100000 in
theorem dL_law_566 : decode cL_law 566 = .ok (.iconst 1, 1) := by decide +kernel
set_option maxRecDepth 100000 in
theorem dL_law_567 : decode cL_law 567 = .ok (.iadd, 1) := by decide +kernel
set_option maxRecDepth 100000 in
theorem dL_law_568 : decode cL_law 568 = .ok (.iaload, 1) := by decide +kernel
set_option maxRecDepth 100000 in
theorem dL_law_569 : decode cL_law 569 = .ok (.invokevirtual 120, 3) := by decide +kernel
set_option maxRecDepth 20000 in
theorem ggL_law_X5_unlock : GoodIn wsL_law wsX5_unlock := goodIn_r _ [430, 77, 78, 114, 115, 116, 5, 117, 711, 712, 713, 714, 715, 716, 717, 718, 719, 720, 721, 722, 723, 724, 725, 726, 727, 728, 729, 730, 731, 732, 733, 734, 735, 736, 737, 738, 739] (by decide +kernel) (by decide +kernel)
set_option maxRecDepth 20000 in
theorem gL_law_X5_unlock : GoodIn wsL_law (wsV RL 120 RX5 yX5_unlock wsX5_unlock) := goodIn_app (goodIn_of _ (by decide +kernel)) ggL_law_X5_unlock
set_option maxRecDepth 100000 in
theorem dL_law_572 : decode cL_law 572 = .ok (.aload_n 2, 1) := by decide +kernel
set_option maxRecDepth 100000 in
theorem dL_law_573 : decode cL_law 573 = .ok (.invokevirtual 95, 3) := by decide +kernel
set_option maxRecDepth 100000 in
theorem dL_law_576 : decode cL_law 576 = .ok (.iload 5, 2) := by decide +kernel
set_option maxRecDepth 100000 in
theorem dL_law_578 : decode cL_law 578 = .ok (.if_icmp .eq 5, 3) := by decide +kernel
set_option maxRecDepth 100000 in
theorem dL_law_583 : decode cL_law 583 = .ok (.goto 749, 3) := by decide +kernel
set_option maxRecDepth 100000 in
theorem dL_law_586 : decode cL_law 586 = .ok (.aload_n 1, 1) := by decide +kernel
set_option maxRecDepth 100000 in
theorem dL_law_587 : decode cL_law 587 = .ok (.aload_n 0, 1) := by decide +kernel
set_option maxRecDepth 100000 in
theorem dL_law_588 : decode cL_law 588 = .ok (.iload 4, 2) := by decide +kernel
set_option maxRecDepth 100000 in
theorem dL_law_590 : decode cL_law 590 = .ok (.iconst 1, 1) := by decide +kernel
set_option maxRecDepth 100000 in
theorem dL_law_591 : decode cL_law 591 = .ok (.iadd, 1) := by decide +kernel
set_option maxRecDepth 100000 in
theorem dL_law_592 : decode cL_law 592 = .ok (.iaload, 1) := by decide +kernel
set_option maxRecDepth 100000 in
theorem dL_law_593 : decode cL_law 593 = .ok (.aload_n 0, 1) := by decide +kernel
set_option maxRecDepth 100000 in
theorem dL_law_594 : decode cL_law 594 = .ok (.iload 4, 2) := by decide +kernel
set_option maxRecDepth 100000 in
theorem dL_law_596 : decode cL_law 596 = .ok (.iconst 2, 1) := by decide +kernel
set_option maxRecDepth 100000 in
theorem dL_law_597 : decode cL_law 597 = .ok (.iadd, 1) := by decide +kernel
set_option maxRecDepth 100000 in
theorem dL_law_598 : decode cL_law 598 = .ok (.iaload, 1) := by decide +kernel
set_option maxRecDepth 100000 in
theorem dL_law_599 : decode cL_law 599 = .ok (.invokestatic 121, 3) := by decide +kernel
set_option maxRecDepth 20000 in
theorem ggL_law_L_ask : GoodIn wsL_law wsL_ask := goodIn_ca (goodIn_ca (goodIn_ca (goodIn_r _ [433, 96, 126, 127, 434, 435, 436, 2, 437, 142, 143, 14, 101, 102, 103, 104, 105, 106, 107, 108, 109, 153, 26, 154, 155, 55, 159, 160, 161, 162, 144, 145, 20, 163, 164, 165, 19, 166, 167, 192, 193, 194, 195, 196, 197, 198, 199, 200, 201, 11, 12, 202, 203, 204, 205, 206, 207, 208, 209, 210, 211, 212, 31, 213, 214, 215, 216, 217, 218, 219, 220, 221, 222, 223, 224, 30, 225, 226, 227, 228, 229, 230, 231, 232, 233, 234, 235, 236, 237, 238, 239, 240, 241, 242, 243, 244, 245, 246, 247, 248, 249, 250, 251, 252, 253, 254, 255, 256, 257, 258, 707, 708, 709, 710, 747, 748, 749, 750, 751, 752, 753, 754, 740, 741, 742, 760, 761, 762, 763, 764] (by decide +kernel) (by decide +kernel)) (goodIn_sub (fun _ h => List.mem_append_left _ (List.mem_append_left _ (List.mem_append_right _ h))) (by decide +kernel))) (goodIn_sub (fun _ h => List.mem_append_left _ (List.mem_append_left _ (List.mem_append_left _ (List.mem_append_left _ (List.mem_append_right _ h))))) (by decide +kernel))) (goodIn_sub (fun _ h => List.mem_append_left _ (List.mem_append_right _ h)) (by decide +kernel))
set_option maxRecDepth 20000 in
theorem gL_law_L_ask : GoodIn wsL_law (va_wsS RL 121 yL_ask wsL_ask) := goodIn_app (goodIn_of _ (by decide +kernel)) ggL_law_L_ask
set_option maxRecDepth 100000 in
theorem dL_law_602 : decode cL_law 602 = .ok (.istore 5, 2) := by decide +kernel
set_option maxRecDepth 100000 in
theorem dL_law_604 : decode cL_law 604 = .ok (.aload_n 2, 1) := by decide +kernel
set_option maxRecDepth 100000 in
theorem dL_law_605 : decode cL_law 605 = .ok (.aload_n 0, 1) := by decide +kernel
set_option maxRecDepth 100000 in
theorem dL_law_606 : decode cL_law 606 = .ok (.iload 4, 2) := by decide +kernel
set_option maxRecDepth 100000 in
theorem dL_law_608 : decode cL_law 608 = .ok (.iconst 1, 1) := by decide +kernel
set_option maxRecDepth 100000 in
theorem dL_law_609 : decode cL_law 609 = .ok (.iadd, 1) := by decide +kernel
set_option maxRecDepth 100000 in
theorem dL_law_610 : decode cL_law 610 = .ok (.iaload, 1) := by decide +kernel
set_option maxRecDepth 100000 in
theorem dL_law_611 : decode cL_law 611 = .ok (.aload_n 0, 1) := by decide +kernel
set_option maxRecDepth 100000 in
theorem dL_law_612 : decode cL_law 612 = .ok (.iload 4, 2) := by decide +kernel
set_option maxRecDepth 100000 in
theorem dL_law_614 : decode cL_law 614 = .ok (.iconst 2, 1) := by decide +kernel
set_option maxRecDepth 100000 in
theorem dL_law_615 : decode cL_law 615 = .ok (.iadd, 1) := by decide +kernel
set_option maxRecDepth 100000 in
theorem dL_law_616 : decode cL_law 616 = .ok (.iaload, 1) := by decide +kernel
set_option maxRecDepth 100000 in
theorem dL_law_617 : decode cL_law 617 = .ok (.invokevirtual 124, 3) := by decide +kernel
set_option maxRecDepth 20000 in
theorem ggL_law_X5_ask : GoodIn wsL_law wsX5_ask := goodIn_r _ [441, 76, 73, 114, 65, 74, 115, 116, 5, 117, 271, 272, 273, 274, 275, 283, 284, 285, 286, 86, 87, 88, 89, 90, 711, 712, 713, 714, 715, 716, 717, 718, 719, 720, 721, 722, 723, 724, 725, 726, 727, 728, 729, 730, 731, 732, 733, 734, 735, 736, 737, 738, 739] (by decide +kernel) (by decide +kernel)
set_option maxRecDepth 20000 in
theorem gL_law_X5_ask : GoodIn wsL_law (wsV RL 124 RX5 yX5_ask wsX5_ask) := goodIn_app (goodIn_of _ (by decide +kernel)) ggL_law_X5_ask
set_option maxRecDepth 100000 in
theorem dL_law_620 : decode cL_law 620 = .ok (.aload_n 2, 1) := by decide +kernel
set_option maxRecDepth 100000 in
theorem dL_law_621 : decode cL_law 621 = .ok (.invokevirtual 95, 3) := by decide +kernel
set_option maxRecDepth 100000 in
theorem dL_law_624 : decode cL_law 624 = .ok (.iload 5, 2) := by decide +kernel
set_option maxRecDepth 100000 in
theorem dL_law_626 : decode cL_law 626 = .ok (.if_icmp .eq 5, 3) := by decide +kernel
set_option maxRecDepth 100000 in
theorem dL_law_631 : decode cL_law 631 = .ok (.goto 701, 3) := by decide +kernel
set_option maxRecDepth 100000 in
theorem dL_law_634 : decode cL_law 634 = .ok (.aload_n 1, 1) := by decide +kernel
set_option maxRecDepth 100000 in
theorem dL_law_635 : decode cL_law 635 = .ok (.aload_n 0, 1) := by decide +kernel
set_option maxRecDepth 100000 in
theorem dL_law_636 : decode cL_law 636 = .ok (.iload 4, 2) := by decide +kernel
set_option maxRecDepth 100000 in
theorem dL_law_638 : decode cL_law 638 = .ok (.iconst 1, 1) := by decide +kernel
set_option maxRecDepth 100000 in
theorem dL_law_639 : decode cL_law 639 = .ok (.iadd, 1) := by decide +kernel
set_option maxRecDepth 100000 in
theorem dL_law_640 : decode cL_law 640 = .ok (.iaload, 1) := by decide +kernel
set_option maxRecDepth 100000 in
theorem dL_law_641 : decode cL_law 641 = .ok (.aload_n 3, 1) := by decide +kernel
set_option maxRecDepth 100000 in
theorem dL_law_642 : decode cL_law 642 = .ok (.invokestatic 125, 3) := by decide +kernel
set_option maxRecDepth 20000 in
theorem ggL_law_L_stop : GoodIn wsL_law wsL_stop := goodIn_ca (goodIn_r _ [444, 96, 445, 446, 447, 2, 448, 134, 135, 136, 137, 105, 106, 14, 107, 108, 109, 365, 26, 366, 367, 56, 57, 747, 748, 749, 750, 751, 752, 753, 754, 707, 708, 709, 710] (by decide +kernel) (by decide +kernel)) (goodIn_sub (fun _ h => List.mem_append_left _ (List.mem_append_left _ (List.mem_append_left _ (List.mem_append_left _ (List.mem_append_right _ h))))) (by decide +kernel))
set_option maxRecDepth 20000 in
theorem gL_law_L_stop : GoodIn wsL_law (va_wsS RL 125 yL_stop wsL_stop) := goodIn_app (goodIn_of _ (by decide +kernel)) ggL_law_L_stop
set_option maxRecDepth 100000 in
theorem dL_law_645 : decode cL_law 645 = .ok (.istore 5, 2) := by decide +kernel
set_option maxRecDepth 100000 in
theorem dL_law_647 : decode cL_law 647 = .ok (.aload_n 2, 1) := by decide +kernel
set_option maxRecDepth 100000 in
theorem dL_law_648 : decode cL_law 648 = .ok (.aload_n 0, 1) := by decide +kernel
set_option maxRecDepth 100000 in
theorem dL_law_649 : decode cL_law 649 = .ok (.iload 4, 2) := by decide +kernel
set_option maxRecDepth 100000 in
theorem dL_law_651 : decode cL_law 651 = .ok (.iconst 1, 1) := by decide +kernel
set_option maxRecDepth 100000 in
theorem dL_law_652 : decode cL_law 652 = .ok (.iadd, 1) := by decide +kernel
set_option maxRecDepth 100000 in
theorem dL_law_653 : decode cL_law 653 = .ok (.iaload, 1) := by decide +kernel
set_option maxRecDepth 100000 in
theorem dL_law_654 : decode cL_law 654 = .ok (.invokevirtual 127, 3) := by decide +kernel
set_option maxRecDepth 20000 in
theorem ggL_law_X5_stop : GoodIn wsL_law wsX5_stop := goodIn_r _ [452, 114, 76, 77, 78, 115, 116, 5, 117, 711, 712, 713, 714, 715, 716, 717, 718, 719, 720, 721, 722, 723, 724, 725, 726, 727, 728, 729, 730, 731, 732, 733, 734, 735, 736, 737, 738, 739] (by decide +kernel) (by decide +kernel)
set_option maxRecDepth 20000 in
theorem gL_law_X5_stop : GoodIn wsL_law (wsV RL 127 RX5 yX5_stop wsX5_stop) := goodIn_app (goodIn_of _ (by decide +kernel)) ggL_law_X5_stop
set_option maxRecDepth 100000 in
theorem dL_law_657 : decode cL_law 657 = .ok (.istore 6, 2) := by decide +kernel
set_option maxRecDepth 100000 in
theorem dL_law_659 : decode cL_law 659 = .ok (.aload_n 2, 1) := by decide +kernel
set_option maxRecDepth 100000 in
theorem dL_law_660 : decode cL_law 660 = .ok (.invokevirtual 95, 3) := by decide +kernel
set_option maxRecDepth 100000 in
theorem dL_law_663 : decode cL_law 663 = .ok (.iload 5, 2) := by decide +kernel
set_option maxRecDepth 100000 in
theorem dL_law_665 : decode cL_law 665 = .ok (.if_icmp .eq 5, 3) := by decide +kernel
set_option maxRecDepth 100000 in
theorem dL_law_670 : decode cL_law 670 = .ok (.iload 5, 2) := by decide +kernel
set_option maxRecDepth 100000 in
theorem dL_law_672 : decode cL_law 672 = .ok (.ifCond .ne 22, 3) := by decide +kernel
set_option maxRecDepth 100000 in
theorem dL_law_694 : decode cL_law 694 = .ok (.goto 638, 3) := by decide +kernel
set_option maxRecDepth 100000 in
theorem dL_law_675 : decode cL_law 675 = .ok (.aload_n 3, 1) := by decide +kernel
set_option maxRecDepth 100000 in
theorem dL_law_676 : decode cL_law 676 = .ok (.iconst 0, 1) := by decide +kernel
set_option maxRecDepth 100000 in
theorem dL_law_677 : decode cL_law 677 = .ok (.laload, 1) := by decide +kernel
set_option maxRecDepth 100000 in
theorem dL_law_678 : decode cL_law 678 = .ok (.iload 6, 2) := by decide +kernel
set_option maxRecDepth 100000 in
theorem dL_law_680 : decode cL_law 680 = .ok (.ifCond .eq 7, 3) := by decide +kernel
set_option maxRecDepth 100000 in
theorem dL_law_683 : decode cL_law 683 = .ok (.lconst 1, 1) := by decide +kernel
set_option maxRecDepth 100000 in
theorem dL_law_684 : decode cL_law 684 = .ok (.goto 4, 3) := by decide +kernel
set_option maxRecDepth 100000 in
theorem dL_law_688 : decode cL_law 688 = .ok (.lcmp, 1) := by decide +kernel
set_option maxRecDepth 100000 in
theorem dL_law_689 : decode cL_law 689 = .ok (.ifCond .eq 5, 3) := by decide +kernel
set_option maxRecDepth 100000 in
theorem dL_law_697 : decode cL_law 697 = .ok (.aload_n 1, 1) := by decide +kernel
set_option maxRecDepth 100000 in
theorem dL_law_698 : decode cL_law 698 = .ok (.aload_n 0, 1) := by decide +kernel
set_option maxRecDepth 100000 in
theorem dL_law_699 : decode cL_law 699 = .ok (.iload 4, 2) := by decide +kernel
set_option maxRecDepth 100000 in
theorem dL_law_701 : decode cL_law 701 = .ok (.iconst 1, 1) := by decide +kernel
set_option maxRecDepth 100000 in
theorem dL_law_702 : decode cL_law 702 = .ok (.iadd, 1) := by decide +kernel
set_option maxRecDepth 100000 in
theorem dL_law_703 : decode cL_law 703 = .ok (.iaload, 1) := by decide +kernel
set_option maxRecDepth 100000 in
theorem dL_law_704 : decode cL_law 704 = .ok (.aload_n 3, 1) := by decide +kernel
set_option maxRecDepth 100000 in
theorem dL_law_705 : decode cL_law 705 = .ok (.invokestatic 128, 3) := by decide +kernel
set_option maxRecDepth 20000 in
theorem ggL_law_L_start : GoodIn wsL_law wsL_start := goodIn_ca (goodIn_r _ [455, 96, 456, 457, 458, 2, 459, 134, 135, 136, 137, 105, 106, 14, 107, 108, 109, 365, 26, 366, 367, 56, 57, 747, 748, 749, 750, 751, 752, 753, 754, 707, 708, 709, 710] (by decide +kernel) (by decide +kernel)) (goodIn_sub (fun _ h => List.mem_append_left _ (List.mem_append_left _ (List.mem_append_left _ (List.mem_append_left _ (List.mem_append_right _ h))))) (by decide +kernel))
set_option maxRecDepth 20000 in
theorem gL_law_L_start : GoodIn wsL_law (va_wsS RL 128 yL_start wsL_start) := goodIn_app (goodIn_of _ (by decide +kernel)) ggL_law_L_start
set_option maxRecDepth 100000 in
theorem dL_law_708 : decode cL_law 708 = .ok (.istore 5, 2) := by decide +kernel
set_option maxRecDepth 100000 in
theorem dL_law_710 : decode cL_law 710 = .ok (.aload_n 2, 1) := by decide +kernel
set_option maxRecDepth 100000 in
theorem dL_law_711 : decode cL_law 711 = .ok (.aload_n 0, 1) := by decide +kernel
set_option maxRecDepth 100000 in
theorem dL_law_712 : decode cL_law 712 = .ok (.iload 4, 2) := by decide +kernel
set_option maxRecDepth 100000 in
theorem dL_law_714 : decode cL_law 714 = .ok (.iconst 1, 1) := by decide +kernel
set_option maxRecDepth 100000 in
theorem dL_law_715 : decode cL_law 715 = .ok (.iadd, 1) := by decide +kernel
set_option maxRecDepth 100000 in
theorem dL_law_716 : decode cL_law 716 = .ok (.iaload, 1) := by decide +kernel
set_option maxRecDepth 100000 in
theorem dL_law_717 : decode cL_law 717 = .ok (.invokevirtual 130, 3) := by decide +kernel
set_option maxRecDepth 20000 in
theorem ggL_law_X5_start : GoodIn wsL_law wsX5_start := goodIn_r _ [463, 114, 76, 115, 116, 5, 117, 711, 712, 713, 714, 715, 716, 717, 718, 719, 720, 721, 722, 723, 724, 725, 726, 727, 728, 729, 730, 731, 732, 733, 734, 735, 736, 737, 738, 739] (by decide +kernel) (by decide +kernel)
set_option maxRecDepth 20000 in
theorem gL_law_X5_start : GoodIn wsL_law (wsV RL 130 RX5 yX5_start wsX5_start) := goodIn_app (goodIn_of _ (by decide +kernel)) ggL_law_X5_start
set_option maxRecDepth 100000 in
theorem dL_law_720 : decode cL_law 720 = .ok (.istore 6, 2) := by decide +kernel
set_option maxRecDepth 100000 in
theorem dL_law_722 : decode cL_law 722 = .ok (.aload_n 2, 1) := by decide +kernel
set_option maxRecDepth 100000 in
theorem dL_law_723 : decode cL_law 723 = .ok (.invokevirtual 95, 3) := by decide +kernel
set_option maxRecDepth 100000 in
theorem dL_law_726 : decode cL_law 726 = .ok (.iload 5, 2) := by decide +kernel
set_option maxRecDepth 100000 in
theorem dL_law_728 : decode cL_law 728 = .ok (.if_icmp .eq 5, 3) := by decide +kernel
set_option maxRecDepth 100000 in
theorem dL_law_733 : decode cL_law 733 = .ok (.iload 5, 2) := by decide +kernel
set_option maxRecDepth 100000 in
theorem dL_law_735 : decode cL_law 735 = .ok (.ifCond .ne 22, 3) := by decide +kernel
set_option maxRecDepth 100000 in
theorem dL_law_757 : decode cL_law 757 = .ok (.goto 575, 3) := by decide +kernel
set_option maxRecDepth 100000 in
theorem dL_law_738 : decode cL_law 738 = .ok (.aload_n 3, 1) := by decide +kernel
set_option maxRecDepth 100000 in
theorem dL_law_739 : decode cL_law 739 = .ok (.iconst 0, 1) := by decide +kernel
set_option maxRecDepth 100000 in
theorem dL_law_740 : decode cL_law 740 = .ok (.laload, 1) := by decide +kernel
set_option maxRecDepth 100000 in
theorem dL_law_741 : decode cL_law 741 = .ok (.iload 6, 2) := by decide +kernel
set_option maxRecDepth 100000 in
theorem dL_law_743 : decode cL_law 743 = .ok (.ifCond .eq 7, 3) := by decide +kernel
set_option maxRecDepth 100000 in
theorem dL_law_750 : decode cL_law 750 = .ok (.lconst 0, 1) := by decide +kernel
set_option maxRecDepth 100000 in
theorem dL_law_751 : decode cL_law 751 = .ok (.lcmp, 1) := by decide +kernel
set_option maxRecDepth 100000 in
theorem dL_law_752 : decode cL_law 752 = .ok (.ifCond .eq 5, 3) := by decide +kernel
set_option maxRecDepth 100000 in
theorem dL_law_760 : decode cL_law 760 = .ok (.aload_n 1, 1) := by decide +kernel
set_option maxRecDepth 100000 in
theorem dL_law_761 : decode cL_law 761 = .ok (.invokevirtual 131, 3) := by decide +kernel
set_option maxRecDepth 20000 in
theorem ggL_law_X4_letters : GoodIn wsL_law wsX4_letters := goodIn_r _ [467, 20, 163, 164, 165, 19, 166, 167, 707, 708, 709, 710, 740, 741, 742] (by decide +kernel) (by decide +kernel)
set_option maxRecDepth 20000 in
theorem gL_law_X4_letters : GoodIn wsL_law (wsV RL 131 RX4 yX4_letters wsX4_letters) := goodIn_app (goodIn_of _ (by decide +kernel)) ggL_law_X4_letters
set_option maxRecDepth 100000 in
theorem dL_law_764 : decode cL_law 764 = .ok (.aload_n 2, 1) := by decide +kernel
set_option maxRecDepth 100000 in
theorem dL_law_765 : decode cL_law 765 = .ok (.invokevirtual 134, 3) := by decide +kernel
set_option maxRecDepth 20000 in
theorem ggL_law_X5_letters : GoodIn wsL_law wsX5_letters := goodIn_r _ [471, 114, 275, 711, 712, 713, 714, 715, 716, 717, 718, 719, 720, 721, 722, 723, 724, 725, 726, 727, 728, 729, 730, 731, 732, 733, 734, 735, 736, 737, 738, 739] (by decide +kernel) (by decide +kernel)
set_option maxRecDepth 20000 in
theorem gL_law_X5_letters : GoodIn wsL_law (wsV RL 134 RX5 yX5_letters wsX5_letters) := goodIn_app (goodIn_of _ (by decide +kernel)) ggL_law_X5_letters
set_option maxRecDepth 100000 in
theorem dL_law_768 : decode cL_law 768 = .ok (.if_icmp .eq 564, 3) := by decide +kernel
set_option maxRecDepth 100000 in
theorem dL_law_773 : decode cL_law 773 = .ok (.aload_n 1, 1) := by decide +kernel
set_option maxRecDepth 100000 in
theorem dL_law_774 : decode cL_law 774 = .ok (.aload_n 0, 1) := by decide +kernel
set_option maxRecDepth 100000 in
theorem dL_law_775 : decode cL_law 775 = .ok (.iload 4, 2) := by decide +kernel
set_option maxRecDepth 100000 in
theorem dL_law_777 : decode cL_law 777 = .ok (.iconst 1, 1) := by decide +kernel
set_option maxRecDepth 100000 in
theorem dL_law_778 : decode cL_law 778 = .ok (.iadd, 1) := by decide +kernel
set_option maxRecDepth 100000 in
theorem dL_law_779 : decode cL_law 779 = .ok (.iaload, 1) := by decide +kernel
set_option maxRecDepth 100000 in
theorem dL_law_780 : decode cL_law 780 = .ok (.aload_n 3, 1) := by decide +kernel
set_option maxRecDepth 100000 in
theorem dL_law_781 : decode cL_law 781 = .ok (.invokestatic 135, 3) := by decide +kernel
set_option maxRecDepth 20000 in
theorem ggL_law_L_deliver : GoodIn wsL_law wsL_deliver := goodIn_ca (goodIn_ca (goodIn_ca (goodIn_r _ [474, 96, 126, 127, 475, 476, 477, 2, 478, 142, 143, 14, 20, 479, 480, 481, 482, 483, 484, 485, 486, 487, 105, 106, 163, 164, 165, 19, 166, 167, 107, 108, 109, 488, 489, 490, 491, 492, 493, 494, 495, 496, 497, 498, 499, 500, 501, 502, 503, 31, 504, 505, 506, 507, 16, 508, 509, 510, 511, 512, 513, 185, 148, 186, 187, 174, 181, 182, 183, 172, 173, 184, 188, 189, 190, 191, 361, 362, 363, 364, 331, 332, 333, 159, 160, 161, 162, 144, 145, 514, 515, 516, 517, 518, 519, 520, 521, 211, 212, 522, 256, 257, 258, 523, 524, 525, 526, 527, 528, 529, 530, 149, 26, 150, 151, 52, 56, 152, 153, 154, 155, 55, 531, 532, 533, 534, 192, 193, 194, 195, 196, 197, 198, 199, 200, 201, 11, 12, 202, 203, 204, 205, 206, 207, 208, 209, 210, 213, 214, 215, 216, 217, 218, 219, 220, 221, 222, 223, 224, 30, 225, 226, 227, 228, 229, 230, 231, 232, 233, 234, 235, 236, 237, 238, 239, 240, 241, 242, 243, 244, 245, 246, 247, 248, 249, 250, 251, 252, 253, 254, 255, 535, 536, 537, 538, 539, 540, 541, 542, 543, 544, 545, 546, 24, 547, 548, 45, 46, 346, 156, 157, 158, 549, 550, 551, 54, 552, 553, 554, 555, 357, 358, 359, 360, 365, 366, 367, 57, 556, 557, 558, 559, 560, 561, 562, 563, 564, 565, 566, 567, 568, 569, 570, 571, 572, 573, 574, 575, 576, 58, 577, 578, 579, 707, 708, 709, 710, 760, 761, 762, 763, 764, 747, 748, 749, 750, 751, 752, 753, 754, 740, 741, 742, 755, 756, 757, 758, 759, 743, 744, 745, 746] (by decide +kernel) (by decide +kernel)) (goodIn_sub (fun _ h => List.mem_append_left _ (List.mem_append_left _ (List.mem_append_right _ h))) (by decide +kernel))) (goodIn_sub (fun _ h => List.mem_append_left _ (List.mem_append_left _ (List.mem_append_left _ (List.mem_append_left _ (List.mem_append_right _ h))))) (by decide +kernel))) (goodIn_sub (fun _ h => List.mem_append_left _ (List.mem_append_right _ h)) (by decide +kernel))
set_option maxRecDepth 20000 in
theorem gL_law_L_deliver : GoodIn wsL_law (va_wsS RL 135 yL_deliver wsL_deliver) := goodIn_app (goodIn_of _ (by decide +kernel)) ggL_law_L_deliver
set_option maxRecDepth 100000 in
theorem dL_law_784 : decode cL_law 784 = .ok (.istore 5, 2) := by decide +kernel
set_option maxRecDepth 100000 in
theorem dL_law_786 : decode cL_law 786 = .ok (.aload_n 2, 1) := by decide +kernel
set_option maxRecDepth 100000 in
theorem dL_law_787 : decode cL_law 787 = .ok (.aload_n 0, 1) := by decide +kernel
set_option maxRecDepth 100000 in
theorem dL_law_788 : decode cL_law 788 = .ok (.iload 4, 2) := by decide +kernel
set_option maxRecDepth 100000 in
theorem dL_law_790 : decode cL_law 790 = .ok (.iconst 1, 1) := by decide +kernel
set_option maxRecDepth 100000 in
theorem dL_law_791 : decode cL_law 791 = .ok (.iadd, 1) := by decide +kernel
set_option maxRecDepth 100000 in
theorem dL_law_792 : decode cL_law 792 = .ok (.iaload, 1) := by decide +kernel
set_option maxRecDepth 100000 in
theorem dL_law_793 : decode cL_law 793 = .ok (.invokevirtual 137, 3) := by decide +kernel
set_option maxRecDepth 20000 in
theorem ggL_law_X5_deliver : GoodIn wsL_law wsX5_deliver := goodIn_r _ [583, 87, 88, 76, 114, 86, 82, 81, 89, 90, 584, 585, 586, 5, 587, 275, 588, 589, 590, 591, 85, 84, 592, 593, 594, 595, 78, 80, 280, 281, 282, 384, 385, 386, 271, 272, 273, 274, 596, 597, 598, 599, 600, 601, 602, 603, 77, 71, 83, 65, 73, 74, 267, 268, 269, 270, 283, 284, 285, 286, 314, 315, 316, 317, 66, 390, 391, 392, 393, 276, 277, 278, 279, 604, 605, 606, 607, 608, 609, 610, 611, 68, 612, 613, 614, 615, 711, 712, 713, 714, 715, 716, 717, 718, 719, 720, 721, 722, 723, 724, 725, 726, 727, 728, 729, 730, 731, 732, 733, 734, 735, 736, 737, 738, 739] (by decide +kernel) (by decide +kernel)
set_option maxRecDepth 20000 in
theorem gL_law_X5_deliver : GoodIn wsL_law (wsV RL 137 RX5 yX5_deliver wsX5_deliver) := goodIn_app (goodIn_of _ (by decide +kernel)) ggL_law_X5_deliver
set_option maxRecDepth 100000 in
theorem dL_law_796 : decode cL_law 796 = .ok (.istore 6, 2) := by decide +kernel
set_option maxRecDepth 100000 in
theorem dL_law_798 : decode cL_law 798 = .ok (.aload_n 2, 1) := by decide +kernel
set_option maxRecDepth 100000 in
theorem dL_law_799 : decode cL_law 799 = .ok (.invokevirtual 95, 3) := by decide +kernel
set_option maxRecDepth 100000 in
theorem dL_law_802 : decode cL_law 802 = .ok (.iload 5, 2) := by decide +kernel
set_option maxRecDepth 100000 in
theorem dL_law_804 : decode cL_law 804 = .ok (.if_icmp .eq 5, 3) := by decide +kernel
set_option maxRecDepth 100000 in
theorem dL_law_809 : decode cL_law 809 = .ok (.iload 5, 2) := by decide +kernel
set_option maxRecDepth 100000 in
theorem dL_law_811 : decode cL_law 811 = .ok (.ifCond .ne 15, 3) := by decide +kernel
set_option maxRecDepth 100000 in
theorem dL_law_826 : decode cL_law 826 = .ok (.goto 506, 3) := by decide +kernel
set_option maxRecDepth 100000 in
theorem dL_law_829 : decode cL_law 829 = .ok (.aload_n 1, 1) := by decide +kernel
set_option maxRecDepth 100000 in
theorem dL_law_830 : decode cL_law 830 = .ok (.aload_n 0, 1) := by decide +kernel
set_option maxRecDepth 100000 in
theorem dL_law_831 : decode cL_law 831 = .ok (.iload 4, 2) := by decide +kernel
set_option maxRecDepth 100000 in
theorem dL_law_833 : decode cL_law 833 = .ok (.iconst 1, 1) := by decide +kernel
set_option maxRecDepth 100000 in
theorem dL_law_834 : decode cL_law 834 = .ok (.iadd, 1) := by decide +kernel
set_option maxRecDepth 100000 in
theorem dL_law_835 : decode cL_law 835 = .ok (.iaload, 1) := by decide +kernel
set_option maxRecDepth 100000 in
theorem dL_law_836 : decode cL_law 836 = .ok (.invokestatic 138, 3) := by decide +kernel
set_option maxRecDepth 20000 in
theorem ggL_law_L_lose : GoodIn wsL_law wsL_lose := goodIn_ca (goodIn_r _ [618, 96, 619, 620, 621, 2, 622, 20, 484, 485, 486, 487, 105, 106, 163, 164, 165, 19, 166, 167, 107, 108, 109, 514, 515, 516, 517, 31, 492, 493, 494, 495, 496, 497, 498, 499, 518, 519, 520, 521, 211, 212, 522, 256, 257, 258, 707, 708, 709, 710, 740, 741, 742] (by decide +kernel) (by decide +kernel)) (goodIn_sub (fun _ h => List.mem_append_left _ (List.mem_append_left _ (List.mem_append_left _ (List.mem_append_left _ (List.mem_append_right _ h))))) (by decide +kernel))
set_option maxRecDepth 20000 in
theorem gL_law_L_lose : GoodIn wsL_law (va_wsS RL 138 yL_lose wsL_lose) := goodIn_app (goodIn_of _ (by decide +kernel)) ggL_law_L_lose
set_option maxRecDepth 100000 in
theorem dL_law_839 : decode cL_law 839 = .ok (.istore 5, 2) := by decide +kernel
set_option maxRecDepth 100000 in
theorem dL_law_841 : decode cL_law 841 = .ok (.aload_n 2, 1) := by decide +kernel
set_option maxRecDepth 100000 in
theorem dL_law_842 : decode cL_law 842 = .ok (.aload_n 0, 1) := by decide +kernel
set_option maxRecDepth 100000 in
theorem dL_law_843 : decode cL_law 843 = .ok (.iload 4, 2) := by decide +kernel
set_option maxRecDepth 100000 in
theorem dL_law_845 : decode cL_law 845 = .ok (.iconst 1, 1) := by decide +kernel
set_option maxRecDepth 100000 in
theorem dL_law_846 : decode cL_law 846 = .ok (.iadd, 1) := by decide +kernel
set_option maxRecDepth 100000 in
theorem dL_law_847 : decode cL_law 847 = .ok (.iaload, 1) := by decide +kernel
set_option maxRecDepth 100000 in
theorem dL_law_848 : decode cL_law 848 = .ok (.invokevirtual 140, 3) := by decide +kernel
set_option maxRecDepth 20000 in
theorem ggL_law_X5_lose : GoodIn wsL_law wsX5_lose := goodIn_r _ [626, 114, 584, 585, 586, 5, 587, 275, 596, 597, 598, 599, 86, 87, 88, 89, 90, 711, 712, 713, 714, 715, 716, 717, 718, 719, 720, 721, 722, 723, 724, 725, 726, 727, 728, 729, 730, 731, 732, 733, 734, 735, 736, 737, 738, 739] (by decide +kernel) (by decide +kernel)
set_option maxRecDepth 20000 in
theorem gL_law_X5_lose : GoodIn wsL_law (wsV RL 140 RX5 yX5_lose wsX5_lose) := goodIn_app (goodIn_of _ (by decide +kernel)) ggL_law_X5_lose
set_option maxRecDepth 100000 in
theorem dL_law_851 : decode cL_law 851 = .ok (.aload_n 2, 1) := by decide +kernel
set_option maxRecDepth 100000 in
theorem dL_law_852 : decode cL_law 852 = .ok (.invokevirtual 95, 3) := by decide +kernel
set_option maxRecDepth 100000 in
theorem dL_law_855 : decode cL_law 855 = .ok (.iload 5, 2) := by decide +kernel
set_option maxRecDepth 100000 in
theorem dL_law_857 : decode cL_law 857 = .ok (.if_icmp .eq 5, 3) := by decide +kernel
set_option maxRecDepth 100000 in
theorem dL_law_862 : decode cL_law 862 = .ok (.goto 470, 3) := by decide +kernel
set_option maxRecDepth 100000 in
theorem dL_law_865 : decode cL_law 865 = .ok (.aload_n 1, 1) := by decide +kernel
set_option maxRecDepth 100000 in
theorem dL_law_866 : decode cL_law 866 = .ok (.aload_n 0, 1) := by decide +kernel
set_option maxRecDepth 100000 in
theorem dL_law_867 : decode cL_law 867 = .ok (.iload 4, 2) := by decide +kernel
set_option maxRecDepth 100000 in
theorem dL_law_869 : decode cL_law 869 = .ok (.iconst 1, 1) := by decide +kernel
set_option maxRecDepth 100000 in
theorem dL_law_870 : decode cL_law 870 = .ok (.iadd, 1) := by decide +kernel
set_option maxRecDepth 100000 in
theorem dL_law_871 : decode cL_law 871 = .ok (.iaload, 1) := by decide +kernel
set_option maxRecDepth 100000 in
theorem dL_law_872 : decode cL_law 872 = .ok (.invokestatic 141, 3) := by decide +kernel
set_option maxRecDepth 20000 in
theorem ggL_law_L_twin : GoodIn wsL_law wsL_twin := goodIn_ca (goodIn_ca (goodIn_r _ [629, 96, 127, 630, 631, 632, 2, 633, 20, 479, 480, 481, 482, 483, 484, 485, 486, 487, 105, 106, 163, 164, 165, 19, 166, 167, 107, 108, 109, 488, 489, 490, 491, 492, 493, 494, 495, 496, 497, 498, 499, 500, 501, 502, 503, 31, 159, 160, 161, 162, 144, 145, 207, 208, 209, 210, 211, 212, 213, 214, 215, 216, 217, 218, 219, 220, 221, 222, 223, 224, 30, 225, 226, 227, 228, 229, 230, 231, 232, 233, 234, 235, 236, 237, 238, 239, 240, 241, 242, 243, 244, 245, 246, 247, 248, 249, 250, 251, 252, 253, 254, 255, 256, 257, 258, 707, 708, 709, 710, 740, 741, 742] (by decide +kernel) (by decide +kernel)) (goodIn_sub (fun _ h => List.mem_append_left _ (List.mem_append_left _ (List.mem_append_left _ (List.mem_append_left _ (List.mem_append_right _ h))))) (by decide +kernel))) (goodIn_sub (fun _ h => List.mem_append_left _ (List.mem_append_right _ h)) (by decide +kernel))
set_option maxRecDepth 20000 in
theorem gL_law_L_twin : GoodIn wsL_law (va_wsS RL 141 yL_twin wsL_twin) := goodIn_app (goodIn_of _ (by decide +kernel)) ggL_law_L_twin
set_option maxRecDepth 100000 in
theorem dL_law_875 : decode cL_law 875 = .ok (.istore 5, 2) := by decide +kernel
set_option maxRecDepth 100000 in
theorem dL_law_877 : decode cL_law 877 = .ok (.aload_n 2, 1) := by decide +kernel
set_option maxRecDepth 100000 in
theorem dL_law_878 : decode cL_law 878 = .ok (.aload_n 0, 1) := by decide +kernel
set_option maxRecDepth 100000 in
theorem dL_law_879 : decode cL_law 879 = .ok (.iload 4, 2) := by decide +kernel
set_option maxRecDepth 100000 in
theorem dL_law_881 : decode cL_law 881 = .ok (.iconst 1, 1) := by decide +kernel
set_option maxRecDepth 100000 in
theorem dL_law_882 : decode cL_law 882 = .ok (.iadd, 1) := by decide +kernel
set_option maxRecDepth 100000 in
theorem dL_law_883 : decode cL_law 883 = .ok (.iaload, 1) := by decide +kernel
set_option maxRecDepth 100000 in
theorem dL_law_884 : decode cL_law 884 = .ok (.invokevirtual 143, 3) := by decide +kernel
set_option maxRecDepth 20000 in
theorem ggL_law_X5_twin : GoodIn wsL_law wsX5_twin := goodIn_r _ [637, 114, 86, 87, 88, 89, 90, 584, 585, 586, 5, 587, 275, 271, 272, 273, 274, 283, 284, 285, 286, 711, 712, 713, 714, 715, 716, 717, 718, 719, 720, 721, 722, 723, 724, 725, 726, 727, 728, 729, 730, 731, 732, 733, 734, 735, 736, 737, 738, 739] (by decide +kernel) (by decide +kernel)
set_option maxRecDepth 20000 in
theorem gL_law_X5_twin : GoodIn wsL_law (wsV RL 143 RX5 yX5_twin wsX5_twin) := goodIn_app (goodIn_of _ (by decide +kernel)) ggL_law_X5_twin
set_option maxRecDepth 100000 in
theorem dL_law_887 : decode cL_law 887 = .ok (.aload_n 2, 1) := by decide +kernel
set_option maxRecDepth 100000 in
theorem dL_law_888 : decode cL_law 888 = .ok (.invokevirtual 95, 3) := by decide +kernel
set_option maxRecDepth 100000 in
theorem dL_law_891 : decode cL_law 891 = .ok (.iload 5, 2) := by decide +kernel
set_option maxRecDepth 100000 in
theorem dL_law_893 : decode cL_law 893 = .ok (.if_icmp .eq 5, 3) := by decide +kernel
set_option maxRecDepth 100000 in
theorem dL_law_898 : decode cL_law 898 = .ok (.goto 434, 3) := by decide +kernel
set_option maxRecDepth 100000 in
theorem dL_law_901 : decode cL_law 901 = .ok (.aload_n 1, 1) := by decide +kernel
set_option maxRecDepth 100000 in
theorem dL_law_902 : decode cL_law 902 = .ok (.aload_n 0, 1) := by decide +kernel
set_option maxRecDepth 100000 in
theorem dL_law_903 : decode cL_law 903 = .ok (.iload 4, 2) := by decide +kernel
set_option maxRecDepth 100000 in
theorem dL_law_905 : decode cL_law 905 = .ok (.iconst 1, 1) := by decide +kernel
set_option maxRecDepth 100000 in
theorem dL_law_906 : decode cL_law 906 = .ok (.iadd, 1) := by decide +kernel
set_option maxRecDepth 100000 in
theorem dL_law_907 : decode cL_law 907 = .ok (.iaload, 1) := by decide +kernel
set_option maxRecDepth 100000 in
theorem dL_law_908 : decode cL_law 908 = .ok (.aload_n 0, 1) := by decide +kernel
set_option maxRecDepth 100000 in
theorem dL_law_909 : decode cL_law 909 = .ok (.iload 4, 2) := by decide +kernel
set_option maxRecDepth 100000 in
theorem dL_law_911 : decode cL_law 911 = .ok (.iconst 2, 1) := by decide +kernel
set_option maxRecDepth 100000 in
theorem dL_law_912 : decode cL_law 912 = .ok (.iadd, 1) := by decide +kernel
set_option maxRecDepth 100000 in
theorem dL_law_913 : decode cL_law 913 = .ok (.iaload, 1) := by decide +kernel
set_option maxRecDepth 100000 in
theorem dL_law_914 : decode cL_law 914 = .ok (.aload_n 3, 1) := by decide +kernel
set_option maxRecDepth 100000 in
theorem dL_law_915 : decode cL_law 915 = .ok (.invokestatic 144, 3) := by decide +kernel
set_option maxRecDepth 20000 in
theorem ggL_law_L_letter : GoodIn wsL_law wsL_letter := goodIn_ca (goodIn_ca (goodIn_r _ [640, 96, 125, 641, 642, 643, 2, 644, 132, 133, 479, 480, 481, 482, 20, 483, 484, 485, 486, 487, 105, 106, 163, 164, 165, 19, 166, 167, 107, 108, 109, 488, 489, 490, 491, 492, 493, 494, 495, 496, 497, 498, 499, 500, 501, 502, 503, 31, 760, 761, 762, 763, 764, 707, 708, 709, 710, 740, 741, 742] (by decide +kernel) (by decide +kernel)) (goodIn_sub (fun _ h => List.mem_append_left _ (List.mem_append_left _ (List.mem_append_left _ (List.mem_append_right _ h)))) (by decide +kernel))) (goodIn_sub (fun _ h => List.mem_append_left _ (List.mem_append_left _ (List.mem_append_left _ (List.mem_append_left _ (List.mem_append_right _ h))))) (by decide +kernel))
set_option maxRecDepth 20000 in
theorem gL_law_L_letter : GoodIn wsL_law (va_wsS RL 144 yL_letter wsL_letter) := goodIn_app (goodIn_of _ (by decide +kernel)) ggL_law_L_letter
set_option maxRecDepth 100000 in
theorem dL_law_918 : decode cL_law 918 = .ok (.istore 5, 2) := by decide +kernel
set_option maxRecDepth 100000 in
theorem dL_law_920 : decode cL_law 920 = .ok (.aload_n 2, 1) := by decide +kernel
set_option maxRecDepth 100000 in
theorem dL_law_921 : decode cL_law 921 = .ok (.aload_n 0, 1) := by decide +kernel
set_option maxRecDepth 100000 in
theorem dL_law_922 : decode cL_law 922 = .ok (.iload 4, 2) := by decide +kernel
set_option maxRecDepth 100000 in
theorem dL_law_924 : decode cL_law 924 = .ok (.iconst 1, 1) := by decide +kernel
set_option maxRecDepth 100000 in
theorem dL_law_925 : decode cL_law 925 = .ok (.iadd, 1) := by decide +kernel
set_option maxRecDepth 100000 in
theorem dL_law_926 : decode cL_law 926 = .ok (.iaload, 1) := by decide +kernel
set_option maxRecDepth 100000 in
theorem dL_law_927 : decode cL_law 927 = .ok (.aload_n 0, 1) := by decide +kernel
set_option maxRecDepth 100000 in
theorem dL_law_928 : decode cL_law 928 = .ok (.iload 4, 2) := by decide +kernel
set_option maxRecDepth 100000 in
theorem dL_law_930 : decode cL_law 930 = .ok (.iconst 2, 1) := by decide +kernel
set_option maxRecDepth 100000 in
theorem dL_law_931 : decode cL_law 931 = .ok (.iadd, 1) := by decide +kernel
set_option maxRecDepth 100000 in
theorem dL_law_932 : decode cL_law 932 = .ok (.iaload, 1) := by decide +kernel
set_option maxRecDepth 100000 in
theorem dL_law_933 : decode cL_law 933 = .ok (.invokevirtual 146, 3) := by decide +kernel
set_option maxRecDepth 20000 in
theorem ggL_law_X5_letter : GoodIn wsL_law wsX5_letter := goodIn_r _ [648, 114, 86, 87, 88, 89, 584, 585, 586, 5, 587, 275, 711, 712, 713, 714, 715, 716, 717, 718, 719, 720, 721, 722, 723, 724, 725, 726, 727, 728, 729, 730, 731, 732, 733, 734, 735, 736, 737, 738, 739] (by decide +kernel) (by decide +kernel)
set_option maxRecDepth 20000 in
theorem gL_law_X5_letter : GoodIn wsL_law (wsV RL 146 RX5 yX5_letter wsX5_letter) := goodIn_app (goodIn_of _ (by decide +kernel)) ggL_law_X5_letter
set_option maxRecDepth 100000 in
theorem dL_law_936 : decode cL_law 936 = .ok (.istore 6, 2) := by decide +kernel
set_option maxRecDepth 100000 in
theorem dL_law_938 : decode cL_law 938 = .ok (.aload_n 2, 1) := by decide +kernel
set_option maxRecDepth 100000 in
theorem dL_law_939 : decode cL_law 939 = .ok (.invokevirtual 95, 3) := by decide +kernel
set_option maxRecDepth 100000 in
theorem dL_law_942 : decode cL_law 942 = .ok (.iload 5, 2) := by decide +kernel
set_option maxRecDepth 100000 in
theorem dL_law_944 : decode cL_law 944 = .ok (.if_icmp .eq 5, 3) := by decide +kernel
set_option maxRecDepth 100000 in
theorem dL_law_949 : decode cL_law 949 = .ok (.iload 5, 2) := by decide +kernel
set_option maxRecDepth 100000 in
theorem dL_law_951 : decode cL_law 951 = .ok (.ifCond .ne 15, 3) := by decide +kernel
set_option maxRecDepth 100000 in
theorem dL_law_966 : decode cL_law 966 = .ok (.goto 366, 3) := by decide +kernel
set_option maxRecDepth 100000 in
theorem dL_law_969 : decode cL_law 969 = .ok (.aload_n 1, 1) := by decide +kernel
set_option maxRecDepth 100000 in
theorem dL_law_970 : decode cL_law 970 = .ok (.aload_n 0, 1) := by decide +kernel
set_option maxRecDepth 100000 in
theorem dL_law_971 : decode cL_law 971 = .ok (.iload 4, 2) := by decide +kernel
set_option maxRecDepth 100000 in
theorem dL_law_973 : decode cL_law 973 = .ok (.iconst 1, 1) := by decide +kernel
set_option maxRecDepth 100000 in
theorem dL_law_974 : decode cL_law 974 = .ok (.iadd, 1) := by decide +kernel
set_option maxRecDepth 100000 in
theorem dL_law_975 : decode cL_law 975 = .ok (.iaload, 1) := by decide +kernel
set_option maxRecDepth 100000 in
theorem dL_law_976 : decode cL_law 976 = .ok (.aload_n 3, 1) := by decide +kernel
set_option maxRecDepth 100000 in
theorem dL_law_977 : decode cL_law 977 = .ok (.invokestatic 147, 3) := by decide +kernel
set_option maxRecDepth 20000 in
theorem ggL_law_L_count : GoodIn wsL_law wsL_count := goodIn_ca (goodIn_r _ [651, 96, 652, 653, 654, 2, 655, 134, 135, 136, 137, 105, 106, 14, 107, 108, 109, 156, 24, 157, 158, 45, 747, 748, 749, 750, 751, 752, 753, 754, 707, 708, 709, 710, 743, 744, 745, 746] (by decide +kernel) (by decide +kernel)) (goodIn_sub (fun _ h => List.mem_append_left _ (List.mem_append_left _ (List.mem_append_left _ (List.mem_append_left _ (List.mem_append_right _ h))))) (by decide +kernel))
set_option maxRecDepth 20000 in
theorem gL_law_L_count : GoodIn wsL_law (va_wsS RL 147 yL_count wsL_count) := goodIn_app (goodIn_of _ (by decide +kernel)) ggL_law_L_count
set_option maxRecDepth 100000 in
theorem dL_law_980 : decode cL_law 980 = .ok (.istore 5, 2) := by decide +kernel
set_option maxRecDepth 100000 in
theorem dL_law_982 : decode cL_law 982 = .ok (.aload_n 2, 1) := by decide +kernel
set_option maxRecDepth 100000 in
theorem dL_law_983 : decode cL_law 983 = .ok (.aload_n 0, 1) := by decide +kernel
set_option maxRecDepth 100000 in
theorem dL_law_984 : decode cL_law 984 = .ok (.iload 4, 2) := by decide +kernel
set_option maxRecDepth 100000 in
theorem dL_law_986 : decode cL_law 986 = .ok (.iconst 1, 1) := by decide +kernel
set_option maxRecDepth 100000 in
theorem dL_law_987 : decode cL_law 987 = .ok (.iadd, 1) := by decide +kernel
set_option maxRecDepth 100000 in
theorem dL_law_988 : decode cL_law 988 = .ok (.iaload, 1) := by decide +kernel
set_option maxRecDepth 100000 in
theorem dL_law_989 : decode cL_law 989 = .ok (.invokevirtual 149, 3) := by decide +kernel
set_option maxRecDepth 20000 in
theorem ggL_law_X5_count : GoodIn wsL_law wsX5_count := goodIn_r _ [659, 114, 65, 71, 115, 116, 5, 117, 711, 712, 713, 714, 715, 716, 717, 718, 719, 720, 721, 722, 723, 724, 725, 726, 727, 728, 729, 730, 731, 732, 733, 734, 735, 736, 737, 738, 739] (by decide +kernel) (by decide +kernel)
set_option maxRecDepth 20000 in
theorem gL_law_X5_count : GoodIn wsL_law (wsV RL 149 RX5 yX5_count wsX5_count) := goodIn_app (goodIn_of _ (by decide +kernel)) ggL_law_X5_count
set_option maxRecDepth 100000 in
theorem dL_law_992 : decode cL_law 992 = .ok (.istore 6, 2) := by decide +kernel
set_option maxRecDepth 100000 in
theorem dL_law_994 : decode cL_law 994 = .ok (.aload_n 2, 1) := by decide +kernel
set_option maxRecDepth 100000 in
theorem dL_law_995 : decode cL_law 995 = .ok (.invokevirtual 95, 3) := by decide +kernel
set_option maxRecDepth 100000 in
theorem dL_law_998 : decode cL_law 998 = .ok (.iload 5, 2) := by decide +kernel
set_option maxRecDepth 100000 in
theorem dL_law_1000 : decode cL_law 1000 = .ok (.if_icmp .eq 5, 3) := by decide +kernel
set_option maxRecDepth 100000 in
theorem dL_law_1005 : decode cL_law 1005 = .ok (.iload 5, 2) := by decide +kernel
set_option maxRecDepth 100000 in
theorem dL_law_1007 : decode cL_law 1007 = .ok (.ifCond .ne 15, 3) := by decide +kernel
set_option maxRecDepth 100000 in
theorem dL_law_1022 : decode cL_law 1022 = .ok (.goto 310, 3) := by decide +kernel
set_option maxRecDepth 100000 in
theorem dL_law_1010 : decode cL_law 1010 = .ok (.aload_n 3, 1) := by decide +kernel
set_option maxRecDepth 100000 in
theorem dL_law_1011 : decode cL_law 1011 = .ok (.iconst 0, 1) := by decide +kernel
set_option maxRecDepth 100000 in
theorem dL_law_1012 : decode cL_law 1012 = .ok (.laload, 1) := by decide +kernel
set_option maxRecDepth 100000 in
theorem dL_law_1013 : decode cL_law 1013 = .ok (.iload 6, 2) := by decide +kernel
set_option maxRecDepth 100000 in
theorem dL_law_1015 : decode cL_law 1015 = .ok (.i2l, 1) := by decide +kernel
set_option maxRecDepth 100000 in
theorem dL_law_1016 : decode cL_law 1016 = .ok (.lcmp, 1) := by decide +kernel
set_option maxRecDepth 100000 in
theorem dL_law_1017 : decode cL_law 1017 = .ok (.ifCond .eq 5, 3) := by decide +kernel
set_option maxRecDepth 100000 in
theorem dL_law_1025 : decode cL_law 1025 = .ok (.aload_n 1, 1) := by decide +kernel
set_option maxRecDepth 100000 in
theorem dL_law_1026 : decode cL_law 1026 = .ok (.aload_n 0, 1) := by decide +kernel
set_option maxRecDepth 100000 in
theorem dL_law_1027 : decode cL_law 1027 = .ok (.iload 4, 2) := by decide +kernel
set_option maxRecDepth 100000 in
theorem dL_law_1029 : decode cL_law 1029 = .ok (.iconst 1, 1) := by decide +kernel
set_option maxRecDepth 100000 in
theorem dL_law_1030 : decode cL_law 1030 = .ok (.iadd, 1) := by decide +kernel
set_option maxRecDepth 100000 in
theorem dL_law_1031 : decode cL_law 1031 = .ok (.iaload, 1) := by decide +kernel
set_option maxRecDepth 100000 in
theorem dL_law_1032 : decode cL_law 1032 = .ok (.aload_n 0, 1) := by decide +kernel
set_option maxRecDepth 100000 in
theorem dL_law_1033 : decode cL_law 1033 = .ok (.iload 4, 2) := by decide +kernel
set_option maxRecDepth 100000 in
theorem dL_law_1035 : decode cL_law 1035 = .ok (.iconst 2, 1) := by decide +kernel
set_option maxRecDepth 100000 in
theorem dL_law_1036 : decode cL_law 1036 = .ok (.iadd, 1) := by decide +kernel
set_option maxRecDepth 100000 in
theorem dL_law_1037 : decode cL_law 1037 = .ok (.iaload, 1) := by decide +kernel
set_option maxRecDepth 100000 in
theorem dL_law_1038 : decode cL_law 1038 = .ok (.aload_n 0, 1) := by decide +kernel
set_option maxRecDepth 100000 in
theorem dL_law_1039 : decode cL_law 1039 = .ok (.iload 4, 2) := by decide +kernel
set_option maxRecDepth 100000 in
theorem dL_law_1041 : decode cL_law 1041 = .ok (.iconst 3, 1) := by decide +kernel
set_option maxRecDepth 100000 in
theorem dL_law_1042 : decode cL_law 1042 = .ok (.iadd, 1) := by decide +kernel
set_option maxRecDepth 100000 in
theorem dL_law_1043 : decode cL_law 1043 = .ok (.iaload, 1) := by decide +kernel
set_option maxRecDepth 100000 in
theorem dL_law_1044 : decode cL_law 1044 = .ok (.ifCond .eq 7, 3) := by decide +kernel
set_option maxRecDepth 100000 in
theorem dL_law_1051 : decode cL_law 1051 = .ok (.iconst 0, 1) := by decide +kernel
set_option maxRecDepth 100000 in
theorem dL_law_1052 : decode cL_law 1052 = .ok (.aload_n 3, 1) := by decide +kernel
set_option maxRecDepth 100000 in
theorem dL_law_1053 : decode cL_law 1053 = .ok (.invokestatic 150, 3) := by decide +kernel
set_option maxRecDepth 20000 in
theorem ggL_law_L_entry : GoodIn wsL_law wsL_entry := goodIn_ca (goodIn_ca (goodIn_r _ [662, 96, 290, 663, 664, 665, 2, 666, 295, 296, 134, 135, 136, 137, 105, 106, 14, 107, 108, 109, 156, 24, 157, 158, 45, 747, 748, 749, 750, 751, 752, 753, 754, 743, 744, 745, 746, 707, 708, 709, 710] (by decide +kernel) (by decide +kernel)) (goodIn_sub (fun _ h => List.mem_append_right _ h) (by decide +kernel))) (goodIn_sub (fun _ h => List.mem_append_left _ (List.mem_append_left _ (List.mem_append_left _ (List.mem_append_left _ (List.mem_append_right _ h))))) (by decide +kernel))
set_option maxRecDepth 20000 in
theorem gL_law_L_entry : GoodIn wsL_law (va_wsS RL 150 yL_entry wsL_entry) := goodIn_app (goodIn_of _ (by decide +kernel)) ggL_law_L_entry
set_option maxRecDepth 100000 in
theorem dL_law_1056 : decode cL_law 1056 = .ok (.istore 5, 2) := by decide +kernel
set_option maxRecDepth 100000 in
theorem dL_law_1058 : decode cL_law 1058 = .ok (.aload_n 2, 1) := by decide +kernel
set_option maxRecDepth 100000 in
theorem dL_law_1059 : decode cL_law 1059 = .ok (.aload_n 0, 1) := by decide +kernel
set_option maxRecDepth 100000 in
theorem dL_law_1060 : decode cL_law 1060 = .ok (.iload 4, 2) := by decide +kernel
set_option maxRecDepth 100000 in
theorem dL_law_1062 : decode cL_law 1062 = .ok (.iconst 1, 1) := by decide +kernel
set_option maxRecDepth 100000 in
theorem dL_law_1063 : decode cL_law 1063 = .ok (.iadd, 1) := by decide +kernel
set_option maxRecDepth 100000 in
theorem dL_law_1064 : decode cL_law 1064 = .ok (.iaload, 1) := by decide +kernel
set_option maxRecDepth 100000 in
theorem dL_law_1065 : decode cL_law 1065 = .ok (.aload_n 0, 1) := by decide +kernel
set_option maxRecDepth 100000 in
theorem dL_law_1066 : decode cL_law 1066 = .ok (.iload 4, 2) := by decide +kernel
set_option maxRecDepth 100000 in
theorem dL_law_1068 : decode cL_law 1068 = .ok (.iconst 2, 1) := by decide +kernel
set_option maxRecDepth 100000 in
theorem dL_law_1069 : decode cL_law 1069 = .ok (.iadd, 1) := by decide +kernel
set_option maxRecDepth 100000 in
theorem dL_law_1070 : decode cL_law 1070 = .ok (.iaload, 1) := by decide +kernel
set_option maxRecDepth 100000 in
theorem dL_law_1071 : decode cL_law 1071 = .ok (.aload_n 0, 1) := by decide +kernel
set_option maxRecDepth 100000 in
theorem dL_law_1072 : decode cL_law 1072 = .ok (.iload 4, 2) := by decide +kernel
set_option maxRecDepth 100000 in
theorem dL_law_1074 : decode cL_law 1074 = .ok (.iconst 3, 1) := by decide +kernel
set_option maxRecDepth 100000 in
theorem dL_law_1075 : decode cL_law 1075 = .ok (.iadd, 1) := by decide +kernel
set_option maxRecDepth 100000 in
theorem dL_law_1076 : decode cL_law 1076 = .ok (.iaload, 1) := by decide +kernel
set_option maxRecDepth 100000 in
theorem dL_law_1077 : decode cL_law 1077 = .ok (.ifCond .eq 7, 3) := by decide +kernel
set_option maxRecDepth 100000 in
theorem dL_law_1084 : decode cL_law 1084 = .ok (.iconst 0, 1) := by decide +kernel
set_option maxRecDepth 100000 in
theorem dL_law_1085 : decode cL_law 1085 = .ok (.invokevirtual 152, 3) := by decide +kernel
set_option maxRecDepth 20000 in
theorem ggL_law_X5_entry : GoodIn wsL_law wsX5_entry := goodIn_r _ [670, 65, 71, 114, 68, 67, 115, 116, 5, 117, 314, 315, 316, 317, 66, 711, 712, 713, 714, 715, 716, 717, 718, 719, 720, 721, 722, 723, 724, 725, 726, 727, 728, 729, 730, 731, 732, 733, 734, 735, 736, 737, 738, 739] (by decide +kernel) (by decide +kernel)
set_option maxRecDepth 20000 in
theorem gL_law_X5_entry : GoodIn wsL_law (wsV RL 152 RX5 yX5_entry wsX5_entry) := goodIn_app (goodIn_of _ (by decide +kernel)) ggL_law_X5_entry
set_option maxRecDepth 100000 in
theorem dL_law_1088 : decode cL_law 1088 = .ok (.istore 6, 2) := by decide +kernel
set_option maxRecDepth 100000 in
theorem dL_law_1090 : decode cL_law 1090 = .ok (.aload_n 2, 1) := by decide +kernel
set_option maxRecDepth 100000 in
theorem dL_law_1091 : decode cL_law 1091 = .ok (.invokevirtual 95, 3) := by decide +kernel
set_option maxRecDepth 100000 in
theorem dL_law_1094 : decode cL_law 1094 = .ok (.iload 5, 2) := by decide +kernel
set_option maxRecDepth 100000 in
theorem dL_law_1096 : decode cL_law 1096 = .ok (.if_icmp .eq 5, 3) := by decide +kernel
set_option maxRecDepth 100000 in
theorem dL_law_1101 : decode cL_law 1101 = .ok (.iload 5, 2) := by decide +kernel
set_option maxRecDepth 100000 in
theorem dL_law_1103 : decode cL_law 1103 = .ok (.ifCond .ne 15, 3) := by decide +kernel
set_option maxRecDepth 100000 in
theorem dL_law_1118 : decode cL_law 1118 = .ok (.goto 214, 3) := by decide +kernel
set_option maxRecDepth 100000 in
theorem dL_law_1047 : decode cL_law 1047 = .ok (.iconst 1, 1) := by decide +kernel
set_option maxRecDepth 100000 in
theorem dL_law_1048 : decode cL_law 1048 = .ok (.goto 4, 3) := by decide +kernel
set_option maxRecDepth 100000 in
theorem dL_law_1080 : decode cL_law 1080 = .ok (.iconst 1, 1) := by decide +kernel
set_option maxRecDepth 100000 in
theorem dL_law_1081 : decode cL_law 1081 = .ok (.goto 4, 3) := by decide +kernel
set_option maxRecDepth 100000 in
theorem dL_law_1121 : decode cL_law 1121 = .ok (.aload_n 1, 1) := by decide +kernel
set_option maxRecDepth 100000 in
theorem dL_law_1122 : decode cL_law 1122 = .ok (.aload_n 0, 1) := by decide +kernel
set_option maxRecDepth 100000 in
theorem dL_law_1123 : decode cL_law 1123 = .ok (.iload 4, 2) := by decide +kernel
set_option maxRecDepth 100000 in
theorem dL_law_1125 : decode cL_law 1125 = .ok (.iconst 1, 1) := by decide +kernel
set_option maxRecDepth 100000 in
theorem dL_law_1126 : decode cL_law 1126 = .ok (.iadd, 1) := by decide +kernel
set_option maxRecDepth 100000 in
theorem dL_law_1127 : decode cL_law 1127 = .ok (.iaload, 1) := by decide +kernel
set_option maxRecDepth 100000 in
theorem dL_law_1128 : decode cL_law 1128 = .ok (.aload_n 0, 1) := by decide +kernel
set_option maxRecDepth 100000 in
theorem dL_law_1129 : decode cL_law 1129 = .ok (.iload 4, 2) := by decide +kernel
set_option maxRecDepth 100000 in
theorem dL_law_1131 : decode cL_law 1131 = .ok (.iconst 2, 1) := by decide +kernel
set_option maxRecDepth 100000 in
theorem dL_law_1132 : decode cL_law 1132 = .ok (.iadd, 1) := by decide +kernel
set_option maxRecDepth 100000 in
theorem dL_law_1133 : decode cL_law 1133 = .ok (.iaload, 1) := by decide +kernel
set_option maxRecDepth 100000 in
theorem dL_law_1134 : decode cL_law 1134 = .ok (.aload_n 3, 1) := by decide +kernel
set_option maxRecDepth 100000 in
theorem dL_law_1135 : decode cL_law 1135 = .ok (.invokestatic 153, 3) := by decide +kernel
set_option maxRecDepth 20000 in
theorem ggL_law_L_about : GoodIn wsL_law wsL_about := goodIn_ca (goodIn_ca (goodIn_r _ [673, 96, 125, 674, 675, 676, 2, 677, 132, 133, 134, 135, 136, 137, 105, 106, 14, 107, 108, 109, 747, 748, 749, 750, 751, 752, 753, 754, 743, 744, 745, 746, 755, 756, 757, 758, 759, 707, 708, 709, 710] (by decide +kernel) (by decide +kernel)) (goodIn_sub (fun _ h => List.mem_append_left _ (List.mem_append_left _ (List.mem_append_left _ (List.mem_append_right _ h)))) (by decide +kernel))) (goodIn_sub (fun _ h => List.mem_append_left _ (List.mem_append_left _ (List.mem_append_left _ (List.mem_append_left _ (List.mem_append_right _ h))))) (by decide +kernel))
set_option maxRecDepth 20000 in
theorem gL_law_L_about : GoodIn wsL_law (va_wsS RL 153 yL_about wsL_about) := goodIn_app (goodIn_of _ (by decide +kernel)) ggL_law_L_about
set_option maxRecDepth 100000 in
theorem dL_law_1138 : decode cL_law 1138 = .ok (.istore 5, 2) := by decide +kernel
set_option maxRecDepth 100000 in
theorem dL_law_1140 : decode cL_law 1140 = .ok (.aload_n 2, 1) := by decide +kernel
set_option maxRecDepth 100000 in
theorem dL_law_1141 : decode cL_law 1141 = .ok (.aload_n 0, 1) := by decide +kernel
set_option maxRecDepth 100000 in
theorem dL_law_1142 : decode cL_law 1142 = .ok (.iload 4, 2) := by decide +kernel
set_option maxRecDepth 100000 in
theorem dL_law_1144 : decode cL_law 1144 = .ok (.iconst 1, 1) := by decide +kernel
set_option maxRecDepth 100000 in
theorem dL_law_1145 : decode cL_law 1145 = .ok (.iadd, 1) := by decide +kernel
set_option maxRecDepth 100000 in
theorem dL_law_1146 : decode cL_law 1146 = .ok (.iaload, 1) := by decide +kernel
set_option maxRecDepth 100000 in
theorem dL_law_1147 : decode cL_law 1147 = .ok (.aload_n 0, 1) := by decide +kernel
set_option maxRecDepth 100000 in
theorem dL_law_1148 : decode cL_law 1148 = .ok (.iload 4, 2) := by decide +kernel
set_option maxRecDepth 100000 in
theorem dL_law_1150 : decode cL_law 1150 = .ok (.iconst 2, 1) := by decide +kernel
set_option maxRecDepth 100000 in
theorem dL_law_1151 : decode cL_law 1151 = .ok (.iadd, 1) := by decide +kernel
set_option maxRecDepth 100000 in
theorem dL_law_1152 : decode cL_law 1152 = .ok (.iaload, 1) := by decide +kernel
set_option maxRecDepth 100000 in
theorem dL_law_1153 : decode cL_law 1153 = .ok (.invokevirtual 155, 3) := by decide +kernel
set_option maxRecDepth 20000 in
theorem ggL_law_X5_about : GoodIn wsL_law wsX5_about := goodIn_r _ [681, 114, 69, 71, 70, 72, 73, 77, 78, 76, 115, 116, 5, 117, 711, 712, 713, 714, 715, 716, 717, 718, 719, 720, 721, 722, 723, 724, 725, 726, 727, 728, 729, 730, 731, 732, 733, 734, 735, 736, 737, 738, 739] (by decide +kernel) (by decide +kernel)
set_option maxRecDepth 20000 in
theorem gL_law_X5_about : GoodIn wsL_law (wsV RL 155 RX5 yX5_about wsX5_about) := goodIn_app (goodIn_of _ (by decide +kernel)) ggL_law_X5_about
set_option maxRecDepth 100000 in
theorem dL_law_1156 : decode cL_law 1156 = .ok (.istore 6, 2) := by decide +kernel
set_option maxRecDepth 100000 in
theorem dL_law_1158 : decode cL_law 1158 = .ok (.aload_n 2, 1) := by decide +kernel
set_option maxRecDepth 100000 in
theorem dL_law_1159 : decode cL_law 1159 = .ok (.invokevirtual 95, 3) := by decide +kernel
set_option maxRecDepth 100000 in
theorem dL_law_1162 : decode cL_law 1162 = .ok (.iload 5, 2) := by decide +kernel
set_option maxRecDepth 100000 in
theorem dL_law_1164 : decode cL_law 1164 = .ok (.if_icmp .eq 5, 3) := by decide +kernel
set_option maxRecDepth 100000 in
theorem dL_law_1169 : decode cL_law 1169 = .ok (.iload 5, 2) := by decide +kernel
set_option maxRecDepth 100000 in
theorem dL_law_1171 : decode cL_law 1171 = .ok (.ifCond .ne 15, 3) := by decide +kernel
set_option maxRecDepth 100000 in
theorem dL_law_1186 : decode cL_law 1186 = .ok (.goto 146, 3) := by decide +kernel
set_option maxRecDepth 100000 in
theorem dL_law_1174 : decode cL_law 1174 = .ok (.aload_n 3, 1) := by decide +kernel
set_option maxRecDepth 100000 in
theorem dL_law_1175 : decode cL_law 1175 = .ok (.iconst 0, 1) := by decide +kernel
set_option maxRecDepth 100000 in
theorem dL_law_1176 : decode cL_law 1176 = .ok (.laload, 1) := by decide +kernel
set_option maxRecDepth 100000 in
theorem dL_law_1177 : decode cL_law 1177 = .ok (.iload 6, 2) := by decide +kernel
set_option maxRecDepth 100000 in
theorem dL_law_1179 : decode cL_law 1179 = .ok (.i2l, 1) := by decide +kernel
set_option maxRecDepth 100000 in
theorem dL_law_1180 : decode cL_law 1180 = .ok (.lcmp, 1) := by decide +kernel
set_option maxRecDepth 100000 in
theorem dL_law_1181 : decode cL_law 1181 = .ok (.ifCond .eq 5, 3) := by decide +kernel
set_option maxRecDepth 100000 in
theorem dL_law_1189 : decode cL_law 1189 = .ok (.aload_n 1, 1) := by decide +kernel
set_option maxRecDepth 100000 in
theorem dL_law_1190 : decode cL_law 1190 = .ok (.aload_n 0, 1) := by decide +kernel
set_option maxRecDepth 100000 in
theorem dL_law_1191 : decode cL_law 1191 = .ok (.iload 4, 2) := by decide +kernel
set_option maxRecDepth 100000 in
theorem dL_law_1193 : decode cL_law 1193 = .ok (.iconst 1, 1) := by decide +kernel
set_option maxRecDepth 100000 in
theorem dL_law_1194 : decode cL_law 1194 = .ok (.iadd, 1) := by decide +kernel
set_option maxRecDepth 100000 in
theorem dL_law_1195 : decode cL_law 1195 = .ok (.iaload, 1) := by decide +kernel
set_option maxRecDepth 100000 in
theorem dL_law_1196 : decode cL_law 1196 = .ok (.aload_n 3, 1) := by decide +kernel
set_option maxRecDepth 100000 in
theorem dL_law_1197 : decode cL_law 1197 = .ok (.invokestatic 156, 3) := by decide +kernel
set_option maxRecDepth 20000 in
theorem ggL_law_L_allowed : GoodIn wsL_law wsL_allowed := goodIn_ca (goodIn_r _ [684, 125, 685, 686, 687, 2, 688, 132, 133, 14, 22, 107, 108, 109, 149, 26, 150, 151, 52, 56, 152, 153, 154, 155, 55, 325, 326, 327, 156, 24, 157, 158, 45, 328, 329, 330, 707, 708, 709, 710, 747, 748, 749, 750, 751, 752, 753, 754, 743, 744, 745, 746] (by decide +kernel) (by decide +kernel)) (goodIn_sub (fun _ h => List.mem_append_left _ (List.mem_append_left _ (List.mem_append_left _ (List.mem_append_right _ h)))) (by decide +kernel))
set_option maxRecDepth 20000 in
theorem gL_law_L_allowed : GoodIn wsL_law (va_wsS RL 156 yL_allowed wsL_allowed) := goodIn_app (goodIn_of _ (by decide +kernel)) ggL_law_L_allowed
set_option maxRecDepth 100000 in
theorem dL_law_1200 : decode cL_law 1200 = .ok (.istore 5, 2) := by decide +kernel
set_option maxRecDepth 100000 in
theorem dL_law_1202 : decode cL_law 1202 = .ok (.aload_n 2, 1) := by decide +kernel
set_option maxRecDepth 100000 in
theorem dL_law_1203 : decode cL_law 1203 = .ok (.aload_n 0, 1) := by decide +kernel
set_option maxRecDepth 100000 in
theorem dL_law_1204 : decode cL_law 1204 = .ok (.iload 4, 2) := by decide +kernel
set_option maxRecDepth 100000 in
theorem dL_law_1206 : decode cL_law 1206 = .ok (.iconst 1, 1) := by decide +kernel
set_option maxRecDepth 100000 in
theorem dL_law_1207 : decode cL_law 1207 = .ok (.iadd, 1) := by decide +kernel
set_option maxRecDepth 100000 in
theorem dL_law_1208 : decode cL_law 1208 = .ok (.iaload, 1) := by decide +kernel
set_option maxRecDepth 100000 in
theorem dL_law_1209 : decode cL_law 1209 = .ok (.invokevirtual 158, 3) := by decide +kernel
set_option maxRecDepth 20000 in
theorem ggL_law_X5_allowed : GoodIn wsL_law wsX5_allowed := goodIn_r _ [692, 114, 91, 71, 280, 281, 5, 282, 267, 268, 269, 270, 76, 77, 73, 376, 377, 378, 379, 65, 70, 69, 380, 381, 382, 383, 711, 712, 713, 714, 715, 716, 717, 718, 719, 720, 721, 722, 723, 724, 725, 726, 727, 728, 729, 730, 731, 732, 733, 734, 735, 736, 737, 738, 739] (by decide +kernel) (by decide +kernel)
set_option maxRecDepth 20000 in
theorem gL_law_X5_allowed : GoodIn wsL_law (wsV RL 158 RX5 yX5_allowed wsX5_allowed) := goodIn_app (goodIn_of _ (by decide +kernel)) ggL_law_X5_allowed
set_option maxRecDepth 100000 in
theorem dL_law_1212 : decode cL_law 1212 = .ok (.istore 6, 2) := by decide +kernel
set_option maxRecDepth 100000 in
theorem dL_law_1214 : decode cL_law 1214 = .ok (.aload_n 2, 1) := by decide +kernel
set_option maxRecDepth 100000 in
theorem dL_law_1215 : decode cL_law 1215 = .ok (.invokevirtual 95, 3) := by decide +kernel
set_option maxRecDepth 100000 in
theorem dL_law_1218 : decode cL_law 1218 = .ok (.iload 5, 2) := by decide +kernel
set_option maxRecDepth 100000 in
theorem dL_law_1220 : decode cL_law 1220 = .ok (.if_icmp .eq 5, 3) := by decide +kernel
set_option maxRecDepth 100000 in
theorem dL_law_1225 : decode cL_law 1225 = .ok (.iload 5, 2) := by decide +kernel
set_option maxRecDepth 100000 in
theorem dL_law_1227 : decode cL_law 1227 = .ok (.ifCond .ne 22, 3) := by decide +kernel
set_option maxRecDepth 100000 in
theorem dL_law_1249 : decode cL_law 1249 = .ok (.goto 83, 3) := by decide +kernel
set_option maxRecDepth 100000 in
theorem dL_law_1230 : decode cL_law 1230 = .ok (.aload_n 3, 1) := by decide +kernel
set_option maxRecDepth 100000 in
theorem dL_law_1231 : decode cL_law 1231 = .ok (.iconst 0, 1) := by decide +kernel
set_option maxRecDepth 100000 in
theorem dL_law_1232 : decode cL_law 1232 = .ok (.laload, 1) := by decide +kernel
set_option maxRecDepth 100000 in
theorem dL_law_1233 : decode cL_law 1233 = .ok (.iload 6, 2) := by decide +kernel
set_option maxRecDepth 100000 in
theorem dL_law_1235 : decode cL_law 1235 = .ok (.ifCond .eq 7, 3) := by decide +kernel
set_option maxRecDepth 100000 in
theorem dL_law_1242 : decode cL_law 1242 = .ok (.lconst 0, 1) := by decide +kernel
set_option maxRecDepth 100000 in
theorem dL_law_1243 : decode cL_law 1243 = .ok (.lcmp, 1) := by decide +kernel
set_option maxRecDepth 100000 in
theorem dL_law_1244 : decode cL_law 1244 = .ok (.ifCond .eq 5, 3) := by decide +kernel
set_option maxRecDepth 100000 in
theorem dL_law_1238 : decode cL_law 1238 = .ok (.lconst 1, 1) := by decide +kernel
set_option maxRecDepth 100000 in
theorem dL_law_1239 : decode cL_law 1239 = .ok (.goto 4, 3) := by decide +kernel
set_option maxRecDepth 100000 in
theorem dL_law_1252 : decode cL_law 1252 = .ok (.aload_n 1, 1) := by decide +kernel
set_option maxRecDepth 100000 in
theorem dL_law_1253 : decode cL_law 1253 = .ok (.aload_n 0, 1) := by decide +kernel
set_option maxRecDepth 100000 in
theorem dL_law_1254 : decode cL_law 1254 = .ok (.iload 4, 2) := by decide +kernel
set_option maxRecDepth 100000 in
theorem dL_law_1256 : decode cL_law 1256 = .ok (.iconst 1, 1) := by decide +kernel
set_option maxRecDepth 100000 in
theorem dL_law_1257 : decode cL_law 1257 = .ok (.iadd, 1) := by decide +kernel
set_option maxRecDepth 100000 in
theorem dL_law_1258 : decode cL_law 1258 = .ok (.iaload, 1) := by decide +kernel
set_option maxRecDepth 100000 in
theorem dL_law_1259 : decode cL_law 1259 = .ok (.aload_n 0, 1) := by decide +kernel
set_option maxRecDepth 100000 in
theorem dL_law_1260 : decode cL_law 1260 = .ok (.iload 4, 2) := by decide +kernel
set_option maxRecDepth 100000 in
theorem dL_law_1262 : decode cL_law 1262 = .ok (.iconst 2, 1) := by decide +kernel
set_option maxRecDepth 100000 in
theorem dL_law_1263 : decode cL_law 1263 = .ok (.iadd, 1) := by decide +kernel
set_option maxRecDepth 100000 in
theorem dL_law_1264 : decode cL_law 1264 = .ok (.iaload, 1) := by decide +kernel
set_option maxRecDepth 100000 in
theorem dL_law_1265 : decode cL_law 1265 = .ok (.aload_n 0, 1) := by decide +kernel
set_option maxRecDepth 100000 in
theorem dL_law_1266 : decode cL_law 1266 = .ok (.iload 4, 2) := by decide +kernel
set_option maxRecDepth 100000 in
theorem dL_law_1268 : decode cL_law 1268 = .ok (.iconst 3, 1) := by decide +kernel
set_option maxRecDepth 100000 in
theorem dL_law_1269 : decode cL_law 1269 = .ok (.iadd, 1) := by decide +kernel
set_option maxRecDepth 100000 in
theorem dL_law_1270 : decode cL_law 1270 = .ok (.iaload, 1) := by decide +kernel
set_option maxRecDepth 100000 in
theorem dL_law_1271 : decode cL_law 1271 = .ok (.aload_n 3, 1) := by decide +kernel
set_option maxRecDepth 100000 in
theorem dL_law_1272 : decode cL_law 1272 = .ok (.invokestatic 159, 3) := by decide +kernel
set_option maxRecDepth 20000 in
theorem ggL_law_L_inForce : GoodIn wsL_law wsL_inForce := goodIn_ca (goodIn_r _ [695, 96, 696, 697, 698, 2, 699, 134, 135, 136, 137, 105, 106, 14, 107, 108, 109, 156, 24, 157, 158, 45, 297, 298, 299, 700, 701, 702, 300, 301, 302, 303, 304, 747, 748, 749, 750, 751, 752, 753, 754, 743, 744, 745, 746, 707, 708, 709, 710] (by decide +kernel) (by decide +kernel)) (goodIn_sub (fun _ h => List.mem_append_left _ (List.mem_append_left _ (List.mem_append_left _ (List.mem_append_left _ (List.mem_append_right _ h))))) (by decide +kernel))
set_option maxRecDepth 20000 in
theorem gL_law_L_inForce : GoodIn wsL_law (va_wsS RL 159 yL_inForce wsL_inForce) := goodIn_app (goodIn_of _ (by decide +kernel)) ggL_law_L_inForce
set_option maxRecDepth 100000 in
theorem dL_law_1275 : decode cL_law 1275 = .ok (.istore 5, 2) := by decide +kernel
set_option maxRecDepth 100000 in
theorem dL_law_1277 : decode cL_law 1277 = .ok (.aload_n 2, 1) := by decide +kernel
set_option maxRecDepth 100000 in
theorem dL_law_1278 : decode cL_law 1278 = .ok (.aload_n 0, 1) := by decide +kernel
set_option maxRecDepth 100000 in
theorem dL_law_1279 : decode cL_law 1279 = .ok (.iload 4, 2) := by decide +kernel
set_option maxRecDepth 100000 in
theorem dL_law_1281 : decode cL_law 1281 = .ok (.iconst 1, 1) := by decide +kernel
set_option maxRecDepth 100000 in
theorem dL_law_1282 : decode cL_law 1282 = .ok (.iadd, 1) := by decide +kernel
set_option maxRecDepth 100000 in
theorem dL_law_1283 : decode cL_law 1283 = .ok (.iaload, 1) := by decide +kernel
set_option maxRecDepth 100000 in
theorem dL_law_1284 : decode cL_law 1284 = .ok (.aload_n 0, 1) := by decide +kernel
set_option maxRecDepth 100000 in
theorem dL_law_1285 : decode cL_law 1285 = .ok (.iload 4, 2) := by decide +kernel
set_option maxRecDepth 100000 in
theorem dL_law_1287 : decode cL_law 1287 = .ok (.iconst 2, 1) := by decide +kernel
set_option maxRecDepth 100000 in
theorem dL_law_1288 : decode cL_law 1288 = .ok (.iadd, 1) := by decide +kernel
set_option maxRecDepth 100000 in
theorem dL_law_1289 : decode cL_law 1289 = .ok (.iaload, 1) := by decide +kernel
set_option maxRecDepth 100000 in
theorem dL_law_1290 : decode cL_law 1290 = .ok (.aload_n 0, 1) := by decide +kernel
set_option maxRecDepth 100000 in
theorem dL_law_1291 : decode cL_law 1291 = .ok (.iload 4, 2) := by decide +kernel
set_option maxRecDepth 100000 in
theorem dL_law_1293 : decode cL_law 1293 = .ok (.iconst 3, 1) := by decide +kernel
set_option maxRecDepth 100000 in
theorem dL_law_1294 : decode cL_law 1294 = .ok (.iadd, 1) := by decide +kernel
set_option maxRecDepth 100000 in
theorem dL_law_1295 : decode cL_law 1295 = .ok (.iaload, 1) := by decide +kernel
set_option maxRecDepth 100000 in
theorem dL_law_1296 : decode cL_law 1296 = .ok (.invokevirtual 162, 3) := by decide +kernel
set_option maxRecDepth 20000 in
theorem ggL_law_X5_inForce : GoodIn wsL_law wsX5_inForce := goodIn_r _ [706, 114, 65, 71, 67, 115, 116, 5, 117, 310, 311, 312, 313, 66, 314, 315, 316, 317, 711, 712, 713, 714, 715, 716, 717, 718, 719, 720, 721, 722, 723, 724, 725, 726, 727, 728, 729, 730, 731, 732, 733, 734, 735, 736, 737, 738, 739] (by decide +kernel) (by decide +kernel)
set_option maxRecDepth 20000 in
theorem gL_law_X5_inForce : GoodIn wsL_law (wsV RL 162 RX5 yX5_inForce wsX5_inForce) := goodIn_app (goodIn_of _ (by decide +kernel)) ggL_law_X5_inForce
set_option maxRecDepth 100000 in
theorem dL_law_1299 : decode cL_law 1299 = .ok (.istore 6, 2) := by decide +kernel
set_option maxRecDepth 100000 in
theorem dL_law_1301 : decode cL_law 1301 = .ok (.aload_n 2, 1) := by decide +kernel
set_option maxRecDepth 100000 in
theorem dL_law_1302 : decode cL_law 1302 = .ok (.invokevirtual 95, 3) := by decide +kernel
set_option maxRecDepth 100000 in
theorem dL_law_1305 : decode cL_law 1305 = .ok (.iload 5, 2) := by decide +kernel
set_option maxRecDepth 100000 in
theorem dL_law_1307 : decode cL_law 1307 = .ok (.if_icmp .eq 5, 3) := by decide +kernel
set_option maxRecDepth 100000 in
theorem dL_law_1312 : decode cL_law 1312 = .ok (.iload 5, 2) := by decide +kernel
set_option maxRecDepth 100000 in
theorem dL_law_1314 : decode cL_law 1314 = .ok (.ifCond .ne 15, 3) := by decide +kernel
set_option maxRecDepth 100000 in
theorem dL_law_1329 : decode cL_law 1329 = .ok (.goto 3, 3) := by decide +kernel
set_option maxRecDepth 100000 in
theorem dL_law_1317 : decode cL_law 1317 = .ok (.aload_n 3, 1) := by decide +kernel
set_option maxRecDepth 100000 in
theorem dL_law_1318 : decode cL_law 1318 = .ok (.iconst 0, 1) := by decide +kernel
set_option maxRecDepth 100000 in
theorem dL_law_1319 : decode cL_law 1319 = .ok (.laload, 1) := by decide +kernel
set_option maxRecDepth 100000 in
theorem dL_law_1320 : decode cL_law 1320 = .ok (.iload 6, 2) := by decide +kernel
set_option maxRecDepth 100000 in
theorem dL_law_1322 : decode cL_law 1322 = .ok (.i2l, 1) := by decide +kernel
set_option maxRecDepth 100000 in
theorem dL_law_1323 : decode cL_law 1323 = .ok (.lcmp, 1) := by decide +kernel
set_option maxRecDepth 100000 in
theorem dL_law_1324 : decode cL_law 1324 = .ok (.ifCond .eq 5, 3) := by decide +kernel
set_option maxHeartbeats 8000000 in
set_option maxRecDepth 100000 in
theorem lc_0 {p : Program} {l : Launch} {e : Env} {s : State} {m : MethodId} {below : List Frame} {meth : Method} {c : Code} {b : Nat} {xs : Nat → Int32} (hlt : l.stackTraces = false) (C0 : lw_At p s m meth c b 5 xs) (D : va_G) (tC : Nat → ClassId) (dz x a1 a2 a3 a4 f e1 e2 : Nat) (qs : Nat → Nat) (fs : Nat → Option Nat) (cb : Nat → Int32) (mo : Nat) (ma : Nat → Nat) (pf lf op zf : Nat → Int32) (o : Nat) (hfs : ∀ i : Nat, i < 5 → fs i = some (qs i)) (hcb : ∀ i : Nat, i < 5 → cb i = cbv i) (hpf : ∀ i : Nat, i < 5 → pf i = -1) (hlf : ∀ i : Nat, i < 5 → lf i = -1) (hop : ∀ i : Nat, i < 5 → op i = -1) (hzf : zf 0 = 5) (hK : va_K D vwCl (tY tC) s) (hN : eN s) (hE : eH dz (fun q : Nat => s.heap.size ≤ q) s s.heap) (H : Heap) (locs : List Loc) (hP : va_P D vwCl [(x, .inr (5, [.ref a1, .ref a2, .ref a3, .ref a4])), (a1, wT tC 5 fs), (a2, wI tC 5 cb), (a3, .inr (0, [.int 0, .ref dz, .int 0])), (a4, wS tC 5 (fun _ => none)), (f, .inr (3, [.ref e1, .ref e2, .int 5, .int 0])), (e1, wI tC 0 (fun _ => 0)), ((qs 0), .inr (4, [.int 0, .int 1, .ref f, .int 0, .int (-1), .null, .int (-1), .null])), ((qs 1), .inr (4, [.int 1, .int 1, .ref f, .int 0, .int (-1), .null, .int (-1), .null])), ((qs 2), .inr (4, [.int 2, .int 1, .ref f, .int 0, .int (-1), .null, .int (-1), .null])), ((qs 3), .inr (4, [.int 3, .int 1, .ref f, .int 0, .int (-1), .null, .int (-1), .null])), ((qs 4), .inr (4, [.int 4, .int 1, .ref f, .int 0, .int (-1), .null, .int (-1), .null])), (mo, .inr (6, [.int 0, .int 1, .ref (ma 2), .ref (ma 3), .ref (ma 4), .ref (ma 5), .ref (ma 6), .ref (ma 7), .ref (ma 8), .ref (ma 9), .ref (ma 10), .ref (ma 11), .ref (ma 12), .ref (ma 13), .ref (ma 14), .ref (ma 15), .ref (ma 16), .ref (ma 17), .ref (ma 18), .ref (ma 19), .ref (ma 20), .ref (ma 21), .int 0, .ref (ma 23), .ref (ma 24), .ref (ma 25), .ref (ma 26), .ref (ma 27), .ref (ma 28)])), ((ma 2), wI tC 600 (fun _ => 0)), ((ma 6), wI tC 600 zf), ((ma 7), wI tC 600 (fun _ => 0)), ((ma 8), wI tC 5 (fun _ => 0)), ((ma 9), wI tC 5 (fun _ => 0)), ((ma 10), wI tC 5 pf), ((ma 12), wZ tC 5 (fun _ => 0)), ((ma 13), wI tC 5 lf), ((ma 14), wI tC 5 op), ((ma 15), wI tC 5 (fun _ => 0)), ((ma 16), wI tC 5 (fun _ => 0)), ((ma 18), wI tC 5 (fun _ => 0)), ((ma 19), wI tC 25 (fun _ => 0)), ((ma 20), wZ tC 25 (fun _ => 0)), ((ma 23), wI tC 41 (fun _ => 0)), ((ma 24), wI tC 41 (fun _ => 0)), ((ma 25), wI tC 41 (fun _ => 0)), ((ma 26), wI tC 41 (fun _ => 0)), ((ma 27), wI tC 41 (fun _ => 0)), ((ma 28), wI tC 5 (fun _ => 0)), (o, wL tC 1 (fun _ => 0))] H) (hD : va_D (fun q : Nat => s.heap.size ≤ q) [(x, .inr (5, [.ref a1, .ref a2, .ref a3, .ref a4])), (a1, wT tC 5 fs), (a2, wI tC 5 cb), (a3, .inr (0, [.int 0, .ref dz, .int 0])), (a4, wS tC 5 (fun _ => none)), (f, .inr (3, [.ref e1, .ref e2, .int 5, .int 0])), (e1, wI tC 0 (fun _ => 0)), ((qs 0), .inr (4, [.int 0, .int 1, .ref f, .int 0, .int (-1), .null, .int (-1), .null])), ((qs 1), .inr (4, [.int 1, .int 1, .ref f, .int 0, .int (-1), .null, .int (-1), .null])), ((qs 2), .inr (4, [.int 2, .int 1, .ref f, .int 0, .int (-1), .null, .int (-1), .null])), ((qs 3), .inr (4, [.int 3, .int 1, .ref f, .int 0, .int (-1), .null, .int (-1), .null])), ((qs 4), .inr (4, [.int 4, .int 1, .ref f, .int 0, .int (-1), .null, .int (-1), .null])), (mo, .inr (6, [.int 0, .int 1, .ref (ma 2), .ref (ma 3), .ref (ma 4), .ref (ma 5), .ref (ma 6), .ref (ma 7), .ref (ma 8), .ref (ma 9), .ref (ma 10), .ref (ma 11), .ref (ma 12), .ref (ma 13), .ref (ma 14), .ref (ma 15), .ref (ma 16), .ref (ma 17), .ref (ma 18), .ref (ma 19), .ref (ma 20), .ref (ma 21), .int 0, .ref (ma 23), .ref (ma 24), .ref (ma 25), .ref (ma 26), .ref (ma 27), .ref (ma 28)])), ((ma 2), wI tC 600 (fun _ => 0)), ((ma 6), wI tC 600 zf), ((ma 7), wI tC 600 (fun _ => 0)), ((ma 8), wI tC 5 (fun _ => 0)), ((ma 9), wI tC 5 (fun _ => 0)), ((ma 10), wI tC 5 pf), ((ma 12), wZ tC 5 (fun _ => 0)), ((ma 13), wI tC 5 lf), ((ma 14), wI tC 5 op), ((ma 15), wI tC 5 (fun _ => 0)), ((ma 16), wI tC 5 (fun _ => 0)), ((ma 18), wI tC 5 (fun _ => 0)), ((ma 19), wI tC 25 (fun _ => 0)), ((ma 20), wZ tC 25 (fun _ => 0)), ((ma 23), wI tC 41 (fun _ => 0)), ((ma 24), wI tC 41 (fun _ => 0)), ((ma 25), wI tC 41 (fun _ => 0)), ((ma 26), wI tC 41 (fun _ => 0)), ((ma 27), wI tC 41 (fun _ => 0)), ((ma 28), wI tC 5 (fun _ => 0)), (o, wL tC 1 (fun _ => 0))]) (hS : va_S (fun q : Nat => s.heap.size ≤ q) s.heap H locs) (ls : Array Slot) (hl : lv_has ls 7 [(4, .int 0), (3, .ref o), (2, .ref mo), (1, .ref x), (0, .ref b)]) : W p l e room_1 s m #[Value.ref b] below meth c H locs 41 4016 (lw_Z below #[Value.ref b] s) (F0 m 132 ls []) := by
  have C1 := C0
  obtain ⟨hx, hb, hr, hml, hown, hts0, hX, hbl, hlocks, hgv⟩ := C0
  have hts : ∀ w ∈ wsL_law, w.before #[Value.ref b] s = true := fun w h => hts0 w (wsL_law_in w h)
  have hown : s.vm.findClass RL = some m.cls := hown
  obtain ⟨A, hAe⟩ : ∃ A : Nat → Prop, A = fun q : Nat => s.heap.size ≤ q := ⟨_, rfl⟩
  rw [← hAe] at hE hD hS
  have hA : ∀ q : Nat, s.heap.size ≤ q → A q := fun q h => by rw [hAe]; exact h
  have hbA : ¬ A b := by rw [hAe]; exact Nat.not_le.mpr hbl
  refine lv_aload_n hx hb dL_law_132 rfl (lv_at hl 3 rfl) ?_
  refine lv_aload_n hx hb dL_law_133 rfl (lv_at hl 4 rfl) ?_
  refine lv_iload hx hb dL_law_134 (lv_at hl 0 rfl) ?_
  refine lv_iconst (v := 1) hx hb dL_law_136 (by decide) ?_
  refine lv_iadd hx hb dL_law_137 ?_
  refine lv_topi (fun z_1 ez_1 => ?_)
  have fz_1 : z_1 = 1 := ez_1.trans (by decide)
  subst fz_1
  refine va_sld hx hb hX hbl hbA hS (by unfold vp_in; decide) dL_law_138 ?_
  refine lv_topi (fun z_2 ez_2 => ?_)
  have fz_2 : z_2 = xs 1 := ez_2.trans (rfl)
  subst fz_2
  refine lv_aload_n hx hb dL_law_139 rfl (lv_at hl 4 rfl) ?_
  refine lv_iload hx hb dL_law_140 (lv_at hl 0 rfl) ?_
  refine lv_iconst (v := 2) hx hb dL_law_142 (by decide) ?_
  refine lv_iadd hx hb dL_law_143 ?_
  refine lv_topi (fun z_3 ez_3 => ?_)
  have fz_3 : z_3 = 2 := ez_3.trans (by decide)
  subst fz_3
  refine va_sld hx hb hX hbl hbA hS (by unfold vp_in; decide) dL_law_144 ?_
  refine lv_topi (fun z_4 ez_4 => ?_)
  have fz_4 : z_4 = xs 2 := ez_4.trans (rfl)
  subst fz_4
  refine lv_aload_n hx hb dL_law_145 rfl (lv_at hl 4 rfl) ?_
  refine lv_iload hx hb dL_law_146 (lv_at hl 0 rfl) ?_
  refine lv_iconst (v := 3) hx hb dL_law_148 (by decide) ?_
  refine lv_iadd hx hb dL_law_149 ?_
  refine lv_topi (fun z_5 ez_5 => ?_)
  have fz_5 : z_5 = 3 := ez_5.trans (by decide)
  subst fz_5
  refine va_sld hx hb hX hbl hbA hS (by unfold vp_in; decide) dL_law_150 ?_
  refine lv_topi (fun z_6 ez_6 => ?_)
  have fz_6 : z_6 = xs 3 := ez_6.trans (rfl)
  subst fz_6
  refine lv_if_eq (tgt := 158) hx hb dL_law_151 (by decide) (fun c_7 => ?_) (fun c_7 => ?_)
  · skip
    refine lv_iconst (v := 0) hx hb dL_law_158 (by decide) ?_
    refine lv_aload_n hx hb dL_law_159 rfl (lv_at hl 1 rfl) ?_
    have hup : (0 : Int32) = 0 ∨ (0 : Int32) = 1 := Or.inl rfl
    have hPc := hP.sub (ws' := [(x, .inr (5, [.ref a1, .ref a2, .ref a3, .ref a4])), (a2, wI tC 5 cb), (o, wL tC 1 (fun _ => 0))]) [0, 2, 33] rfl
    have hDc := hD.sub (ws' := [(x, .inr (5, [.ref a1, .ref a2, .ref a3, .ref a4])), (a2, wI tC 5 cb), (o, wL tC 1 (fun _ => 0))]) [0, 2, 33] (by decide) rfl
    have hFc := va_free (wc := [(x, .inr (5, [.ref a1, .ref a2, .ref a3, .ref a4])), (a2, wI tC 5 cb), (o, wL tC 1 (fun _ => 0))]) hD hS hA [0, 2, 33] rfl
    refine vx_calli (vx_runSX (As := [.ref x, .int (xs 1), .int (xs 2), .int 0, .ref o]) (rest := []) ⟨hx, hb, hml, hown, hts⟩ (c_L_cable l hlt D tC dz H.size x a1 a2 a3 a4 cb (xs 1) (xs 2) 0 o (fun _ => 0) hcb hup) (vx_cwSW 5 hts gL_law_L_cable rfl rfl rfl (by decide +kernel) ⟨Nat.le_of_ble_eq_true rfl, Nat.le_of_ble_eq_true rfl⟩) ⟨pB_blind, pB_at hPc hDc hK hN hE hS hFc⟩ rfl rfl hl.1 rfl (lv_room (Nat.le_of_ble_eq_true rfl)) dL_law_160 ⟨Nat.le_of_ble_eq_true rfl, Nat.le_of_ble_eq_true rfl⟩) hS (fun q _ h => hFc q h) hFc (fun q _ h => hFc q h) (fun E ce q9 u t H1 locs ht hvm hpx hPE hz1 hk1 hS hce hcv hcl => ?_) (fun r_8 u t H1 locs ht hvm hw hB hz1 hk1 hS => ?_)
    · skip
      exact False.elim hPE
    · skip
      obtain ⟨u_9, rfl⟩ : ∃ z9, z9 = u := ⟨_, rfl⟩
      obtain ⟨hP1, _, hD1⟩ := hB
      have hw_10 := hw
      rw [ht] at hP1
      obtain ⟨hP, hD⟩ := va_join (wr := [(a1, wT tC 5 fs), (a3, .inr (0, [.int 0, .ref dz, .int 0])), (a4, wS tC 5 (fun _ => none)), (f, .inr (3, [.ref e1, .ref e2, .int 5, .int 0])), (e1, wI tC 0 (fun _ => 0)), ((qs 0), .inr (4, [.int 0, .int 1, .ref f, .int 0, .int (-1), .null, .int (-1), .null])), ((qs 1), .inr (4, [.int 1, .int 1, .ref f, .int 0, .int (-1), .null, .int (-1), .null])), ((qs 2), .inr (4, [.int 2, .int 1, .ref f, .int 0, .int (-1), .null, .int (-1), .null])), ((qs 3), .inr (4, [.int 3, .int 1, .ref f, .int 0, .int (-1), .null, .int (-1), .null])), ((qs 4), .inr (4, [.int 4, .int 1, .ref f, .int 0, .int (-1), .null, .int (-1), .null])), (mo, .inr (6, [.int 0, .int 1, .ref (ma 2), .ref (ma 3), .ref (ma 4), .ref (ma 5), .ref (ma 6), .ref (ma 7), .ref (ma 8), .ref (ma 9), .ref (ma 10), .ref (ma 11), .ref (ma 12), .ref (ma 13), .ref (ma 14), .ref (ma 15), .ref (ma 16), .ref (ma 17), .ref (ma 18), .ref (ma 19), .ref (ma 20), .ref (ma 21), .int 0, .ref (ma 23), .ref (ma 24), .ref (ma 25), .ref (ma 26), .ref (ma 27), .ref (ma 28)])), ((ma 2), wI tC 600 (fun _ => 0)), ((ma 6), wI tC 600 zf), ((ma 7), wI tC 600 (fun _ => 0)), ((ma 8), wI tC 5 (fun _ => 0)), ((ma 9), wI tC 5 (fun _ => 0)), ((ma 10), wI tC 5 pf), ((ma 12), wZ tC 5 (fun _ => 0)), ((ma 13), wI tC 5 lf), ((ma 14), wI tC 5 op), ((ma 15), wI tC 5 (fun _ => 0)), ((ma 16), wI tC 5 (fun _ => 0)), ((ma 18), wI tC 5 (fun _ => 0)), ((ma 19), wI tC 25 (fun _ => 0)), ((ma 20), wZ tC 25 (fun _ => 0)), ((ma 23), wI tC 41 (fun _ => 0)), ((ma 24), wI tC 41 (fun _ => 0)), ((ma 25), wI tC 41 (fun _ => 0)), ((ma 26), wI tC 41 (fun _ => 0)), ((ma 27), wI tC 41 (fun _ => 0)), ((ma 28), wI tC 5 (fun _ => 0))]) (w1 := [(o, wL tC 1 u_9)]) hP hD [0, 2, 33] [1, 3, 4, 5, 6, 7, 8, 9, 10, 11, 12, 13, 14, 15, 16, 17, 18, 19, 20, 21, 22, 23, 24, 25, 26, 27, 28, 29, 30, 31, 32] rfl rfl (by decide) (by decide) hk1 hFc hP1 hD1
      generalize H1 = H at hP hS ⊢
      have hP : va_P D vwCl [(a1, wT tC 5 fs), (a3, .inr (0, [.int 0, .ref dz, .int 0])), (a4, wS tC 5 (fun _ => none)), (f, .inr (3, [.ref e1, .ref e2, .int 5, .int 0])), (e1, wI tC 0 (fun _ => 0)), ((qs 0), .inr (4, [.int 0, .int 1, .ref f, .int 0, .int (-1), .null, .int (-1), .null])), ((qs 1), .inr (4, [.int 1, .int 1, .ref f, .int 0, .int (-1), .null, .int (-1), .null])), ((qs 2), .inr (4, [.int 2, .int 1, .ref f, .int 0, .int (-1), .null, .int (-1), .null])), ((qs 3), .inr (4, [.int 3, .int 1, .ref f, .int 0, .int (-1), .null, .int (-1), .null])), ((qs 4), .inr (4, [.int 4, .int 1, .ref f, .int 0, .int (-1), .null, .int (-1), .null])), (mo, .inr (6, [.int 0, .int 1, .ref (ma 2), .ref (ma 3), .ref (ma 4), .ref (ma 5), .ref (ma 6), .ref (ma 7), .ref (ma 8), .ref (ma 9), .ref (ma 10), .ref (ma 11), .ref (ma 12), .ref (ma 13), .ref (ma 14), .ref (ma 15), .ref (ma 16), .ref (ma 17), .ref (ma 18), .ref (ma 19), .ref (ma 20), .ref (ma 21), .int 0, .ref (ma 23), .ref (ma 24), .ref (ma 25), .ref (ma 26), .ref (ma 27), .ref (ma 28)])), ((ma 2), wI tC 600 (fun _ => 0)), ((ma 6), wI tC 600 zf), ((ma 7), wI tC 600 (fun _ => 0)), ((ma 8), wI tC 5 (fun _ => 0)), ((ma 9), wI tC 5 (fun _ => 0)), ((ma 10), wI tC 5 pf), ((ma 12), wZ tC 5 (fun _ => 0)), ((ma 13), wI tC 5 lf), ((ma 14), wI tC 5 op), ((ma 15), wI tC 5 (fun _ => 0)), ((ma 16), wI tC 5 (fun _ => 0)), ((ma 18), wI tC 5 (fun _ => 0)), ((ma 19), wI tC 25 (fun _ => 0)), ((ma 20), wZ tC 25 (fun _ => 0)), ((ma 23), wI tC 41 (fun _ => 0)), ((ma 24), wI tC 41 (fun _ => 0)), ((ma 25), wI tC 41 (fun _ => 0)), ((ma 26), wI tC 41 (fun _ => 0)), ((ma 27), wI tC 41 (fun _ => 0)), ((ma 28), wI tC 5 (fun _ => 0)), (o, wL tC 1 u_9)] H := hP
      have hD : va_D A [(a1, wT tC 5 fs), (a3, .inr (0, [.int 0, .ref dz, .int 0])), (a4, wS tC 5 (fun _ => none)), (f, .inr (3, [.ref e1, .ref e2, .int 5, .int 0])), (e1, wI tC 0 (fun _ => 0)), ((qs 0), .inr (4, [.int 0, .int 1, .ref f, .int 0, .int (-1), .null, .int (-1), .null])), ((qs 1), .inr (4, [.int 1, .int 1, .ref f, .int 0, .int (-1), .null, .int (-1), .null])), ((qs 2), .inr (4, [.int 2, .int 1, .ref f, .int 0, .int (-1), .null, .int (-1), .null])), ((qs 3), .inr (4, [.int 3, .int 1, .ref f, .int 0, .int (-1), .null, .int (-1), .null])), ((qs 4), .inr (4, [.int 4, .int 1, .ref f, .int 0, .int (-1), .null, .int (-1), .null])), (mo, .inr (6, [.int 0, .int 1, .ref (ma 2), .ref (ma 3), .ref (ma 4), .ref (ma 5), .ref (ma 6), .ref (ma 7), .ref (ma 8), .ref (ma 9), .ref (ma 10), .ref (ma 11), .ref (ma 12), .ref (ma 13), .ref (ma 14), .ref (ma 15), .ref (ma 16), .ref (ma 17), .ref (ma 18), .ref (ma 19), .ref (ma 20), .ref (ma 21), .int 0, .ref (ma 23), .ref (ma 24), .ref (ma 25), .ref (ma 26), .ref (ma 27), .ref (ma 28)])), ((ma 2), wI tC 600 (fun _ => 0)), ((ma 6), wI tC 600 zf), ((ma 7), wI tC 600 (fun _ => 0)), ((ma 8), wI tC 5 (fun _ => 0)), ((ma 9), wI tC 5 (fun _ => 0)), ((ma 10), wI tC 5 pf), ((ma 12), wZ tC 5 (fun _ => 0)), ((ma 13), wI tC 5 lf), ((ma 14), wI tC 5 op), ((ma 15), wI tC 5 (fun _ => 0)), ((ma 16), wI tC 5 (fun _ => 0)), ((ma 18), wI tC 5 (fun _ => 0)), ((ma 19), wI tC 25 (fun _ => 0)), ((ma 20), wZ tC 25 (fun _ => 0)), ((ma 23), wI tC 41 (fun _ => 0)), ((ma 24), wI tC 41 (fun _ => 0)), ((ma 25), wI tC 41 (fun _ => 0)), ((ma 26), wI tC 41 (fun _ => 0)), ((ma 27), wI tC 41 (fun _ => 0)), ((ma 28), wI tC 5 (fun _ => 0)), (o, wL tC 1 u_9)] := hD
      refine W.widen (k := 42) (n := 4022) (by omega) (by omega) ?_
      refine lv_istore (lv' := [(5, .int r_8), (4, .int 0), (3, .ref o), (2, .ref mo), (1, .ref x), (0, .ref b)]) hx hb dL_law_163 hl (by decide) rfl (fun ls hl => ?_)
      refine lv_aload_n hx hb dL_law_165 rfl (lv_at hl 3 rfl) ?_
      refine lv_aload_n hx hb dL_law_166 rfl (lv_at hl 5 rfl) ?_
      refine lv_iload hx hb dL_law_167 (lv_at hl 1 rfl) ?_
      refine lv_iconst (v := 1) hx hb dL_law_169 (by decide) ?_
      refine lv_iadd hx hb dL_law_170 ?_
      refine lv_topi (fun z_11 ez_11 => ?_)
      have fz_11 : z_11 = 1 := ez_11.trans (by decide)
      subst fz_11
      refine va_sld hx hb hX hbl hbA hS (by unfold vp_in; decide) dL_law_171 ?_
      refine lv_topi (fun z_12 ez_12 => ?_)
      have fz_12 : z_12 = xs 1 := ez_12.trans (rfl)
      subst fz_12
      refine lv_aload_n hx hb dL_law_172 rfl (lv_at hl 5 rfl) ?_
      refine lv_iload hx hb dL_law_173 (lv_at hl 1 rfl) ?_
      refine lv_iconst (v := 2) hx hb dL_law_175 (by decide) ?_
      refine lv_iadd hx hb dL_law_176 ?_
      refine lv_topi (fun z_13 ez_13 => ?_)
      have fz_13 : z_13 = 2 := ez_13.trans (by decide)
      subst fz_13
      refine va_sld hx hb hX hbl hbA hS (by unfold vp_in; decide) dL_law_177 ?_
      refine lv_topi (fun z_14 ez_14 => ?_)
      have fz_14 : z_14 = xs 2 := ez_14.trans (rfl)
      subst fz_14
      refine lv_aload_n hx hb dL_law_178 rfl (lv_at hl 5 rfl) ?_
      refine lv_iload hx hb dL_law_179 (lv_at hl 1 rfl) ?_
      refine lv_iconst (v := 3) hx hb dL_law_181 (by decide) ?_
      refine lv_iadd hx hb dL_law_182 ?_
      refine lv_topi (fun z_15 ez_15 => ?_)
      have fz_15 : z_15 = 3 := ez_15.trans (by decide)
      subst fz_15
      refine va_sld hx hb hX hbl hbA hS (by unfold vp_in; decide) dL_law_183 ?_
      refine lv_topi (fun z_16 ez_16 => ?_)
      have fz_16 : z_16 = xs 3 := ez_16.trans (rfl)
      subst fz_16
      refine lv_if_eq (tgt := 191) hx hb dL_law_184 (by decide) (fun _ => ?_) (fun hc => absurd (c_7) hc)
      refine lv_iconst (v := 0) hx hb dL_law_191 (by decide) ?_
      have hPc := hP.sub (ws' := [(mo, .inr (6, [.int 0, .int 1, .ref (ma 2), .ref (ma 3), .ref (ma 4), .ref (ma 5), .ref (ma 6), .ref (ma 7), .ref (ma 8), .ref (ma 9), .ref (ma 10), .ref (ma 11), .ref (ma 12), .ref (ma 13), .ref (ma 14), .ref (ma 15), .ref (ma 16), .ref (ma 17), .ref (ma 18), .ref (ma 19), .ref (ma 20), .ref (ma 21), .int 0, .ref (ma 23), .ref (ma 24), .ref (ma 25), .ref (ma 26), .ref (ma 27), .ref (ma 28)])), ((ma 20), wZ tC 25 (fun _ => 0))]) [10, 24] rfl
      have hDc := hD.sub (ws' := [(mo, .inr (6, [.int 0, .int 1, .ref (ma 2), .ref (ma 3), .ref (ma 4), .ref (ma 5), .ref (ma 6), .ref (ma 7), .ref (ma 8), .ref (ma 9), .ref (ma 10), .ref (ma 11), .ref (ma 12), .ref (ma 13), .ref (ma 14), .ref (ma 15), .ref (ma 16), .ref (ma 17), .ref (ma 18), .ref (ma 19), .ref (ma 20), .ref (ma 21), .int 0, .ref (ma 23), .ref (ma 24), .ref (ma 25), .ref (ma 26), .ref (ma 27), .ref (ma 28)])), ((ma 20), wZ tC 25 (fun _ => 0))]) [10, 24] (by decide) rfl
      have hFc := va_free (wc := [(mo, .inr (6, [.int 0, .int 1, .ref (ma 2), .ref (ma 3), .ref (ma 4), .ref (ma 5), .ref (ma 6), .ref (ma 7), .ref (ma 8), .ref (ma 9), .ref (ma 10), .ref (ma 11), .ref (ma 12), .ref (ma 13), .ref (ma 14), .ref (ma 15), .ref (ma 16), .ref (ma 17), .ref (ma 18), .ref (ma 19), .ref (ma 20), .ref (ma 21), .int 0, .ref (ma 23), .ref (ma 24), .ref (ma 25), .ref (ma 26), .ref (ma 27), .ref (ma 28)])), ((ma 20), wZ tC 25 (fun _ => 0))]) hD hS hA [10, 24] rfl
      refine va_calli (va_runV (As := [.int (xs 1), .int (xs 2), .int 0]) (rest := []) ⟨hx, hb, hml, hown, hts⟩ (c_X5_cable l hlt D tC dz H.size mo ma 0 (xs 1) (xs 2) 0 hup) (cwV 3 hts gL_law_X5_cable rfl rfl rfl (by decide +kernel) ⟨Nat.le_of_ble_eq_true rfl, Nat.le_of_ble_eq_true rfl⟩) ⟨pB_blind, va_recv hK hPc (ci := 6) (q0 := 0) rfl rfl, pB_at hPc hDc hK hN hE hS hFc⟩ rfl rfl hl.1 rfl (lv_room (Nat.le_of_ble_eq_true rfl)) dL_law_192 ⟨Nat.le_of_ble_eq_true rfl, Nat.le_of_ble_eq_true rfl⟩) hS (fun q _ h => hFc q h) hFc (fun r_17 u t H1 locs ht hvm hw hB hz1 hk1 hS => ?_)
      obtain ⟨u_18, rfl⟩ : ∃ z9, z9 = u := ⟨_, rfl⟩
      obtain ⟨l9_19, hP1, _, hD1⟩ := hB
      have hw_20 := hw
      rw [ht] at hP1
      obtain ⟨hP, hD⟩ := va_join (wr := [(a1, wT tC 5 fs), (a3, .inr (0, [.int 0, .ref dz, .int 0])), (a4, wS tC 5 (fun _ => none)), (f, .inr (3, [.ref e1, .ref e2, .int 5, .int 0])), (e1, wI tC 0 (fun _ => 0)), ((qs 0), .inr (4, [.int 0, .int 1, .ref f, .int 0, .int (-1), .null, .int (-1), .null])), ((qs 1), .inr (4, [.int 1, .int 1, .ref f, .int 0, .int (-1), .null, .int (-1), .null])), ((qs 2), .inr (4, [.int 2, .int 1, .ref f, .int 0, .int (-1), .null, .int (-1), .null])), ((qs 3), .inr (4, [.int 3, .int 1, .ref f, .int 0, .int (-1), .null, .int (-1), .null])), ((qs 4), .inr (4, [.int 4, .int 1, .ref f, .int 0, .int (-1), .null, .int (-1), .null])), ((ma 2), wI tC 600 (fun _ => 0)), ((ma 6), wI tC 600 zf), ((ma 7), wI tC 600 (fun _ => 0)), ((ma 8), wI tC 5 (fun _ => 0)), ((ma 9), wI tC 5 (fun _ => 0)), ((ma 10), wI tC 5 pf), ((ma 12), wZ tC 5 (fun _ => 0)), ((ma 13), wI tC 5 lf), ((ma 14), wI tC 5 op), ((ma 15), wI tC 5 (fun _ => 0)), ((ma 16), wI tC 5 (fun _ => 0)), ((ma 18), wI tC 5 (fun _ => 0)), ((ma 19), wI tC 25 (fun _ => 0)), ((ma 23), wI tC 41 (fun _ => 0)), ((ma 24), wI tC 41 (fun _ => 0)), ((ma 25), wI tC 41 (fun _ => 0)), ((ma 26), wI tC 41 (fun _ => 0)), ((ma 27), wI tC 41 (fun _ => 0)), ((ma 28), wI tC 5 (fun _ => 0)), (o, wL tC 1 u_9)]) (w1 := [(mo, .inr (6, [.int u_18, .int 1, .ref (ma 2), .ref (ma 3), .ref (ma 4), .ref (ma 5), .ref (ma 6), .ref (ma 7), .ref (ma 8), .ref (ma 9), .ref (ma 10), .ref (ma 11), .ref (ma 12), .ref (ma 13), .ref (ma 14), .ref (ma 15), .ref (ma 16), .ref (ma 17), .ref (ma 18), .ref (ma 19), .ref (ma 20), .ref (ma 21), .int l9_19, .ref (ma 23), .ref (ma 24), .ref (ma 25), .ref (ma 26), .ref (ma 27), .ref (ma 28)]))]) hP hD [10, 24] [0, 1, 2, 3, 4, 5, 6, 7, 8, 9, 11, 12, 13, 14, 15, 16, 17, 18, 19, 20, 21, 22, 23, 25, 26, 27, 28, 29, 30, 31] rfl rfl (by decide) (by decide) hk1 hFc hP1 hD1
      generalize H1 = H at hP hS ⊢
      have hP : va_P D vwCl [(a1, wT tC 5 fs), (a3, .inr (0, [.int 0, .ref dz, .int 0])), (a4, wS tC 5 (fun _ => none)), (f, .inr (3, [.ref e1, .ref e2, .int 5, .int 0])), (e1, wI tC 0 (fun _ => 0)), ((qs 0), .inr (4, [.int 0, .int 1, .ref f, .int 0, .int (-1), .null, .int (-1), .null])), ((qs 1), .inr (4, [.int 1, .int 1, .ref f, .int 0, .int (-1), .null, .int (-1), .null])), ((qs 2), .inr (4, [.int 2, .int 1, .ref f, .int 0, .int (-1), .null, .int (-1), .null])), ((qs 3), .inr (4, [.int 3, .int 1, .ref f, .int 0, .int (-1), .null, .int (-1), .null])), ((qs 4), .inr (4, [.int 4, .int 1, .ref f, .int 0, .int (-1), .null, .int (-1), .null])), ((ma 2), wI tC 600 (fun _ => 0)), ((ma 6), wI tC 600 zf), ((ma 7), wI tC 600 (fun _ => 0)), ((ma 8), wI tC 5 (fun _ => 0)), ((ma 9), wI tC 5 (fun _ => 0)), ((ma 10), wI tC 5 pf), ((ma 12), wZ tC 5 (fun _ => 0)), ((ma 13), wI tC 5 lf), ((ma 14), wI tC 5 op), ((ma 15), wI tC 5 (fun _ => 0)), ((ma 16), wI tC 5 (fun _ => 0)), ((ma 18), wI tC 5 (fun _ => 0)), ((ma 19), wI tC 25 (fun _ => 0)), ((ma 23), wI tC 41 (fun _ => 0)), ((ma 24), wI tC 41 (fun _ => 0)), ((ma 25), wI tC 41 (fun _ => 0)), ((ma 26), wI tC 41 (fun _ => 0)), ((ma 27), wI tC 41 (fun _ => 0)), ((ma 28), wI tC 5 (fun _ => 0)), (o, wL tC 1 u_9), (mo, .inr (6, [.int u_18, .int 1, .ref (ma 2), .ref (ma 3), .ref (ma 4), .ref (ma 5), .ref (ma 6), .ref (ma 7), .ref (ma 8), .ref (ma 9), .ref (ma 10), .ref (ma 11), .ref (ma 12), .ref (ma 13), .ref (ma 14), .ref (ma 15), .ref (ma 16), .ref (ma 17), .ref (ma 18), .ref (ma 19), .ref (ma 20), .ref (ma 21), .int l9_19, .ref (ma 23), .ref (ma 24), .ref (ma 25), .ref (ma 26), .ref (ma 27), .ref (ma 28)]))] H := hP
      have hD : va_D A [(a1, wT tC 5 fs), (a3, .inr (0, [.int 0, .ref dz, .int 0])), (a4, wS tC 5 (fun _ => none)), (f, .inr (3, [.ref e1, .ref e2, .int 5, .int 0])), (e1, wI tC 0 (fun _ => 0)), ((qs 0), .inr (4, [.int 0, .int 1, .ref f, .int 0, .int (-1), .null, .int (-1), .null])), ((qs 1), .inr (4, [.int 1, .int 1, .ref f, .int 0, .int (-1), .null, .int (-1), .null])), ((qs 2), .inr (4, [.int 2, .int 1, .ref f, .int 0, .int (-1), .null, .int (-1), .null])), ((qs 3), .inr (4, [.int 3, .int 1, .ref f, .int 0, .int (-1), .null, .int (-1), .null])), ((qs 4), .inr (4, [.int 4, .int 1, .ref f, .int 0, .int (-1), .null, .int (-1), .null])), ((ma 2), wI tC 600 (fun _ => 0)), ((ma 6), wI tC 600 zf), ((ma 7), wI tC 600 (fun _ => 0)), ((ma 8), wI tC 5 (fun _ => 0)), ((ma 9), wI tC 5 (fun _ => 0)), ((ma 10), wI tC 5 pf), ((ma 12), wZ tC 5 (fun _ => 0)), ((ma 13), wI tC 5 lf), ((ma 14), wI tC 5 op), ((ma 15), wI tC 5 (fun _ => 0)), ((ma 16), wI tC 5 (fun _ => 0)), ((ma 18), wI tC 5 (fun _ => 0)), ((ma 19), wI tC 25 (fun _ => 0)), ((ma 23), wI tC 41 (fun _ => 0)), ((ma 24), wI tC 41 (fun _ => 0)), ((ma 25), wI tC 41 (fun _ => 0)), ((ma 26), wI tC 41 (fun _ => 0)), ((ma 27), wI tC 41 (fun _ => 0)), ((ma 28), wI tC 5 (fun _ => 0)), (o, wL tC 1 u_9), (mo, .inr (6, [.int u_18, .int 1, .ref (ma 2), .ref (ma 3), .ref (ma 4), .ref (ma 5), .ref (ma 6), .ref (ma 7), .ref (ma 8), .ref (ma 9), .ref (ma 10), .ref (ma 11), .ref (ma 12), .ref (ma 13), .ref (ma 14), .ref (ma 15), .ref (ma 16), .ref (ma 17), .ref (ma 18), .ref (ma 19), .ref (ma 20), .ref (ma 21), .int l9_19, .ref (ma 23), .ref (ma 24), .ref (ma 25), .ref (ma 26), .ref (ma 27), .ref (ma 28)]))] := hD
      refine lv_istore (lv' := [(6, .int r_17), (5, .int r_8), (4, .int 0), (3, .ref o), (2, .ref mo), (1, .ref x), (0, .ref b)]) hx hb dL_law_195 hl (by decide) rfl (fun ls hl => ?_)
      refine lv_aload_n hx hb dL_law_197 rfl (lv_at hl 4 rfl) ?_
      have hPc := hP.sub (ws' := [(mo, .inr (6, [.int u_18, .int 1, .ref (ma 2), .ref (ma 3), .ref (ma 4), .ref (ma 5), .ref (ma 6), .ref (ma 7), .ref (ma 8), .ref (ma 9), .ref (ma 10), .ref (ma 11), .ref (ma 12), .ref (ma 13), .ref (ma 14), .ref (ma 15), .ref (ma 16), .ref (ma 17), .ref (ma 18), .ref (ma 19), .ref (ma 20), .ref (ma 21), .int l9_19, .ref (ma 23), .ref (ma 24), .ref (ma 25), .ref (ma 26), .ref (ma 27), .ref (ma 28)]))]) [30] rfl
      have hDc := hD.sub (ws' := [(mo, .inr (6, [.int u_18, .int 1, .ref (ma 2), .ref (ma 3), .ref (ma 4), .ref (ma 5), .ref (ma 6), .ref (ma 7), .ref (ma 8), .ref (ma 9), .ref (ma 10), .ref (ma 11), .ref (ma 12), .ref (ma 13), .ref (ma 14), .ref (ma 15), .ref (ma 16), .ref (ma 17), .ref (ma 18), .ref (ma 19), .ref (ma 20), .ref (ma 21), .int l9_19, .ref (ma 23), .ref (ma 24), .ref (ma 25), .ref (ma 26), .ref (ma 27), .ref (ma 28)]))]) [30] (by decide) rfl
      have hFc := va_free (wc := [(mo, .inr (6, [.int u_18, .int 1, .ref (ma 2), .ref (ma 3), .ref (ma 4), .ref (ma 5), .ref (ma 6), .ref (ma 7), .ref (ma 8), .ref (ma 9), .ref (ma 10), .ref (ma 11), .ref (ma 12), .ref (ma 13), .ref (ma 14), .ref (ma 15), .ref (ma 16), .ref (ma 17), .ref (ma 18), .ref (ma 19), .ref (ma 20), .ref (ma 21), .int l9_19, .ref (ma 23), .ref (ma 24), .ref (ma 25), .ref (ma 26), .ref (ma 27), .ref (ma 28)]))]) hD hS hA [30] rfl
      refine va_calli (va_runV (As := []) (rest := []) ⟨hx, hb, hml, hown, hts⟩ (c_X5_thrown l hlt D tC dz H.size mo ma u_18 l9_19 ) (cwV 0 hts gL_law_X5_thrown rfl rfl rfl (by decide +kernel) ⟨Nat.le_of_ble_eq_true rfl, Nat.le_of_ble_eq_true rfl⟩) ⟨pB_blind, va_recv hK hPc (ci := 6) (q0 := 0) rfl rfl, pB_at hPc hDc hK hN hE hS hFc⟩ rfl rfl hl.1 rfl (lv_room (Nat.le_of_ble_eq_true rfl)) dL_law_198 ⟨Nat.le_of_ble_eq_true rfl, Nat.le_of_ble_eq_true rfl⟩) hS (fun q _ h => hFc q h) hFc (fun r_21 u t H1 locs ht hvm hw hB hz1 hk1 hS => ?_)
      obtain ⟨hP1, _, hD1⟩ := hB
      have hw_22 := hw
      rw [ht] at hP1
      obtain ⟨hP, hD⟩ := va_join (wr := [(a1, wT tC 5 fs), (a3, .inr (0, [.int 0, .ref dz, .int 0])), (a4, wS tC 5 (fun _ => none)), (f, .inr (3, [.ref e1, .ref e2, .int 5, .int 0])), (e1, wI tC 0 (fun _ => 0)), ((qs 0), .inr (4, [.int 0, .int 1, .ref f, .int 0, .int (-1), .null, .int (-1), .null])), ((qs 1), .inr (4, [.int 1, .int 1, .ref f, .int 0, .int (-1), .null, .int (-1), .null])), ((qs 2), .inr (4, [.int 2, .int 1, .ref f, .int 0, .int (-1), .null, .int (-1), .null])), ((qs 3), .inr (4, [.int 3, .int 1, .ref f, .int 0, .int (-1), .null, .int (-1), .null])), ((qs 4), .inr (4, [.int 4, .int 1, .ref f, .int 0, .int (-1), .null, .int (-1), .null])), ((ma 2), wI tC 600 (fun _ => 0)), ((ma 6), wI tC 600 zf), ((ma 7), wI tC 600 (fun _ => 0)), ((ma 8), wI tC 5 (fun _ => 0)), ((ma 9), wI tC 5 (fun _ => 0)), ((ma 10), wI tC 5 pf), ((ma 12), wZ tC 5 (fun _ => 0)), ((ma 13), wI tC 5 lf), ((ma 14), wI tC 5 op), ((ma 15), wI tC 5 (fun _ => 0)), ((ma 16), wI tC 5 (fun _ => 0)), ((ma 18), wI tC 5 (fun _ => 0)), ((ma 19), wI tC 25 (fun _ => 0)), ((ma 23), wI tC 41 (fun _ => 0)), ((ma 24), wI tC 41 (fun _ => 0)), ((ma 25), wI tC 41 (fun _ => 0)), ((ma 26), wI tC 41 (fun _ => 0)), ((ma 27), wI tC 41 (fun _ => 0)), ((ma 28), wI tC 5 (fun _ => 0)), (o, wL tC 1 u_9)]) (w1 := [(mo, .inr (6, [.int u_18, .int 1, .ref (ma 2), .ref (ma 3), .ref (ma 4), .ref (ma 5), .ref (ma 6), .ref (ma 7), .ref (ma 8), .ref (ma 9), .ref (ma 10), .ref (ma 11), .ref (ma 12), .ref (ma 13), .ref (ma 14), .ref (ma 15), .ref (ma 16), .ref (ma 17), .ref (ma 18), .ref (ma 19), .ref (ma 20), .ref (ma 21), .int l9_19, .ref (ma 23), .ref (ma 24), .ref (ma 25), .ref (ma 26), .ref (ma 27), .ref (ma 28)]))]) hP hD [30] [0, 1, 2, 3, 4, 5, 6, 7, 8, 9, 10, 11, 12, 13, 14, 15, 16, 17, 18, 19, 20, 21, 22, 23, 24, 25, 26, 27, 28, 29] rfl rfl (by decide) (by decide) hk1 hFc hP1 hD1
      generalize H1 = H at hP hS ⊢
      have hP : va_P D vwCl [(a1, wT tC 5 fs), (a3, .inr (0, [.int 0, .ref dz, .int 0])), (a4, wS tC 5 (fun _ => none)), (f, .inr (3, [.ref e1, .ref e2, .int 5, .int 0])), (e1, wI tC 0 (fun _ => 0)), ((qs 0), .inr (4, [.int 0, .int 1, .ref f, .int 0, .int (-1), .null, .int (-1), .null])), ((qs 1), .inr (4, [.int 1, .int 1, .ref f, .int 0, .int (-1), .null, .int (-1), .null])), ((qs 2), .inr (4, [.int 2, .int 1, .ref f, .int 0, .int (-1), .null, .int (-1), .null])), ((qs 3), .inr (4, [.int 3, .int 1, .ref f, .int 0, .int (-1), .null, .int (-1), .null])), ((qs 4), .inr (4, [.int 4, .int 1, .ref f, .int 0, .int (-1), .null, .int (-1), .null])), ((ma 2), wI tC 600 (fun _ => 0)), ((ma 6), wI tC 600 zf), ((ma 7), wI tC 600 (fun _ => 0)), ((ma 8), wI tC 5 (fun _ => 0)), ((ma 9), wI tC 5 (fun _ => 0)), ((ma 10), wI tC 5 pf), ((ma 12), wZ tC 5 (fun _ => 0)), ((ma 13), wI tC 5 lf), ((ma 14), wI tC 5 op), ((ma 15), wI tC 5 (fun _ => 0)), ((ma 16), wI tC 5 (fun _ => 0)), ((ma 18), wI tC 5 (fun _ => 0)), ((ma 19), wI tC 25 (fun _ => 0)), ((ma 23), wI tC 41 (fun _ => 0)), ((ma 24), wI tC 41 (fun _ => 0)), ((ma 25), wI tC 41 (fun _ => 0)), ((ma 26), wI tC 41 (fun _ => 0)), ((ma 27), wI tC 41 (fun _ => 0)), ((ma 28), wI tC 5 (fun _ => 0)), (o, wL tC 1 u_9), (mo, .inr (6, [.int u_18, .int 1, .ref (ma 2), .ref (ma 3), .ref (ma 4), .ref (ma 5), .ref (ma 6), .ref (ma 7), .ref (ma 8), .ref (ma 9), .ref (ma 10), .ref (ma 11), .ref (ma 12), .ref (ma 13), .ref (ma 14), .ref (ma 15), .ref (ma 16), .ref (ma 17), .ref (ma 18), .ref (ma 19), .ref (ma 20), .ref (ma 21), .int l9_19, .ref (ma 23), .ref (ma 24), .ref (ma 25), .ref (ma 26), .ref (ma 27), .ref (ma 28)]))] H := hP
      have hD : va_D A [(a1, wT tC 5 fs), (a3, .inr (0, [.int 0, .ref dz, .int 0])), (a4, wS tC 5 (fun _ => none)), (f, .inr (3, [.ref e1, .ref e2, .int 5, .int 0])), (e1, wI tC 0 (fun _ => 0)), ((qs 0), .inr (4, [.int 0, .int 1, .ref f, .int 0, .int (-1), .null, .int (-1), .null])), ((qs 1), .inr (4, [.int 1, .int 1, .ref f, .int 0, .int (-1), .null, .int (-1), .null])), ((qs 2), .inr (4, [.int 2, .int 1, .ref f, .int 0, .int (-1), .null, .int (-1), .null])), ((qs 3), .inr (4, [.int 3, .int 1, .ref f, .int 0, .int (-1), .null, .int (-1), .null])), ((qs 4), .inr (4, [.int 4, .int 1, .ref f, .int 0, .int (-1), .null, .int (-1), .null])), ((ma 2), wI tC 600 (fun _ => 0)), ((ma 6), wI tC 600 zf), ((ma 7), wI tC 600 (fun _ => 0)), ((ma 8), wI tC 5 (fun _ => 0)), ((ma 9), wI tC 5 (fun _ => 0)), ((ma 10), wI tC 5 pf), ((ma 12), wZ tC 5 (fun _ => 0)), ((ma 13), wI tC 5 lf), ((ma 14), wI tC 5 op), ((ma 15), wI tC 5 (fun _ => 0)), ((ma 16), wI tC 5 (fun _ => 0)), ((ma 18), wI tC 5 (fun _ => 0)), ((ma 19), wI tC 25 (fun _ => 0)), ((ma 23), wI tC 41 (fun _ => 0)), ((ma 24), wI tC 41 (fun _ => 0)), ((ma 25), wI tC 41 (fun _ => 0)), ((ma 26), wI tC 41 (fun _ => 0)), ((ma 27), wI tC 41 (fun _ => 0)), ((ma 28), wI tC 5 (fun _ => 0)), (o, wL tC 1 u_9), (mo, .inr (6, [.int u_18, .int 1, .ref (ma 2), .ref (ma 3), .ref (ma 4), .ref (ma 5), .ref (ma 6), .ref (ma 7), .ref (ma 8), .ref (ma 9), .ref (ma 10), .ref (ma 11), .ref (ma 12), .ref (ma 13), .ref (ma 14), .ref (ma 15), .ref (ma 16), .ref (ma 17), .ref (ma 18), .ref (ma 19), .ref (ma 20), .ref (ma 21), .int l9_19, .ref (ma 23), .ref (ma 24), .ref (ma 25), .ref (ma 26), .ref (ma 27), .ref (ma 28)]))] := hD
      refine lv_iload hx hb dL_law_201 (lv_at hl 1 rfl) ?_
      refine lv_icmp_eq (tgt := 208) hx hb dL_law_203 (by decide) (fun _ => ?_) (fun hc => absurd (hw_22.trans (hw_20.1.trans hw_10.1.symm)) hc)
      refine lv_iload hx hb dL_law_208 (lv_at hl 1 rfl) ?_
      refine lv_if_ne (tgt := 232) hx hb dL_law_210 (by decide) (fun c_23 => ?_) (fun c_23 => ?_)
      · skip
        refine lv_goto (tgt := 1332) hx hb dL_law_232 (by decide) ?_
        exact lw_tail C1 hAe hS (lv_sub hl [2, 6] rfl) (by decide) (by decide)
      · skip
        refine lv_aload_n hx hb dL_law_213 rfl (lv_at hl 3 rfl) ?_
        refine lv_iconst (v := 0) hx hb dL_law_214 (by decide) ?_
        refine va_lald hx hb hK hP 29 5 rfl rfl (by unfold vp_in; decide) dL_law_215 ?_
        rw [show (0 : Int32).toNatClampNeg = 0 by decide]
        refine lv_iload hx hb dL_law_216 (lv_at hl 0 rfl) ?_
        refine lv_if_eq (tgt := 225) hx hb dL_law_218 (by decide) (fun c_24 => ?_) (fun c_24 => ?_)
        · skip
          refine lv_lconst (v := 0) hx hb dL_law_225 (by decide) ?_
          refine W.lcmp hx hb dL_law_226 ?_
          refine lv_topi (fun z_25 ez_25 => ?_)
          have fz_25 : z_25 = 0 := ez_25.trans (lgc ((hw_10.2 c_23).trans (if_neg (bv0 (hw_20.2 (hw_20.1.trans (hw_10.1.symm.trans c_23))) c_24))))
          subst fz_25
          refine lv_if_eq (tgt := 232) hx hb dL_law_227 (by decide) (fun _ => ?_) (fun hc => absurd (by decide) hc)
          refine lv_goto (tgt := 1332) hx hb dL_law_232 (by decide) ?_
          exact lw_tail C1 hAe hS (lv_sub hl [2, 6] rfl) (by decide) (by decide)
        · skip
          refine lv_lconst (v := 1) hx hb dL_law_221 (by decide) ?_
          refine lv_goto (tgt := 226) hx hb dL_law_222 (by decide) ?_
          refine W.lcmp hx hb dL_law_226 ?_
          refine lv_topi (fun z_26 ez_26 => ?_)
          have fz_26 : z_26 = 0 := ez_26.trans (lgc ((hw_10.2 c_23).trans (if_pos (bv1 (hw_20.2 (hw_20.1.trans (hw_10.1.symm.trans c_23))) c_24))))
          subst fz_26
          refine lv_if_eq (tgt := 232) hx hb dL_law_227 (by decide) (fun _ => ?_) (fun hc => absurd (by decide) hc)
          refine lv_goto (tgt := 1332) hx hb dL_law_232 (by decide) ?_
          exact lw_tail C1 hAe hS (lv_sub hl [2, 6] rfl) (by decide) (by decide)
  · skip
    refine lv_iconst (v := 1) hx hb dL_law_154 (by decide) ?_
    refine lv_goto (tgt := 159) hx hb dL_law_155 (by decide) ?_
    refine lv_aload_n hx hb dL_law_159 rfl (lv_at hl 1 rfl) ?_
    have hup : (1 : Int32) = 0 ∨ (1 : Int32) = 1 := Or.inr rfl
    have hPc := hP.sub (ws' := [(x, .inr (5, [.ref a1, .ref a2, .ref a3, .ref a4])), (a2, wI tC 5 cb), (o, wL tC 1 (fun _ => 0))]) [0, 2, 33] rfl
    have hDc := hD.sub (ws' := [(x, .inr (5, [.ref a1, .ref a2, .ref a3, .ref a4])), (a2, wI tC 5 cb), (o, wL tC 1 (fun _ => 0))]) [0, 2, 33] (by decide) rfl
    have hFc := va_free (wc := [(x, .inr (5, [.ref a1, .ref a2, .ref a3, .ref a4])), (a2, wI tC 5 cb), (o, wL tC 1 (fun _ => 0))]) hD hS hA [0, 2, 33] rfl
    refine vx_calli (vx_runSX (As := [.ref x, .int (xs 1), .int (xs 2), .int 1, .ref o]) (rest := []) ⟨hx, hb, hml, hown, hts⟩ (c_L_cable l hlt D tC dz H.size x a1 a2 a3 a4 cb (xs 1) (xs 2) 1 o (fun _ => 0) hcb hup) (vx_cwSW 5 hts gL_law_L_cable rfl rfl rfl (by decide +kernel) ⟨Nat.le_of_ble_eq_true rfl, Nat.le_of_ble_eq_true rfl⟩) ⟨pB_blind, pB_at hPc hDc hK hN hE hS hFc⟩ rfl rfl hl.1 rfl (lv_room (Nat.le_of_ble_eq_true rfl)) dL_law_160 ⟨Nat.le_of_ble_eq_true rfl, Nat.le_of_ble_eq_true rfl⟩) hS (fun q _ h => hFc q h) hFc (fun q _ h => hFc q h) (fun E ce q9 u t H1 locs ht hvm hpx hPE hz1 hk1 hS hce hcv hcl => ?_) (fun r_27 u t H1 locs ht hvm hw hB hz1 hk1 hS => ?_)
    · skip
      exact False.elim hPE
    · skip
      obtain ⟨u_28, rfl⟩ : ∃ z9, z9 = u := ⟨_, rfl⟩
      obtain ⟨hP1, _, hD1⟩ := hB
      have hw_29 := hw
      rw [ht] at hP1
      obtain ⟨hP, hD⟩ := va_join (wr := [(a1, wT tC 5 fs), (a3, .inr (0, [.int 0, .ref dz, .int 0])), (a4, wS tC 5 (fun _ => none)), (f, .inr (3, [.ref e1, .ref e2, .int 5, .int 0])), (e1, wI tC 0 (fun _ => 0)), ((qs 0), .inr (4, [.int 0, .int 1, .ref f, .int 0, .int (-1), .null, .int (-1), .null])), ((qs 1), .inr (4, [.int 1, .int 1, .ref f, .int 0, .int (-1), .null, .int (-1), .null])), ((qs 2), .inr (4, [.int 2, .int 1, .ref f, .int 0, .int (-1), .null, .int (-1), .null])), ((qs 3), .inr (4, [.int 3, .int 1, .ref f, .int 0, .int (-1), .null, .int (-1), .null])), ((qs 4), .inr (4, [.int 4, .int 1, .ref f, .int 0, .int (-1), .null, .int (-1), .null])), (mo, .inr (6, [.int 0, .int 1, .ref (ma 2), .ref (ma 3), .ref (ma 4), .ref (ma 5), .ref (ma 6), .ref (ma 7), .ref (ma 8), .ref (ma 9), .ref (ma 10), .ref (ma 11), .ref (ma 12), .ref (ma 13), .ref (ma 14), .ref (ma 15), .ref (ma 16), .ref (ma 17), .ref (ma 18), .ref (ma 19), .ref (ma 20), .ref (ma 21), .int 0, .ref (ma 23), .ref (ma 24), .ref (ma 25), .ref (ma 26), .ref (ma 27), .ref (ma 28)])), ((ma 2), wI tC 600 (fun _ => 0)), ((ma 6), wI tC 600 zf), ((ma 7), wI tC 600 (fun _ => 0)), ((ma 8), wI tC 5 (fun _ => 0)), ((ma 9), wI tC 5 (fun _ => 0)), ((ma 10), wI tC 5 pf), ((ma 12), wZ tC 5 (fun _ => 0)), ((ma 13), wI tC 5 lf), ((ma 14), wI tC 5 op), ((ma 15), wI tC 5 (fun _ => 0)), ((ma 16), wI tC 5 (fun _ => 0)), ((ma 18), wI tC 5 (fun _ => 0)), ((ma 19), wI tC 25 (fun _ => 0)), ((ma 20), wZ tC 25 (fun _ => 0)), ((ma 23), wI tC 41 (fun _ => 0)), ((ma 24), wI tC 41 (fun _ => 0)), ((ma 25), wI tC 41 (fun _ => 0)), ((ma 26), wI tC 41 (fun _ => 0)), ((ma 27), wI tC 41 (fun _ => 0)), ((ma 28), wI tC 5 (fun _ => 0))]) (w1 := [(o, wL tC 1 u_28)]) hP hD [0, 2, 33] [1, 3, 4, 5, 6, 7, 8, 9, 10, 11, 12, 13, 14, 15, 16, 17, 18, 19, 20, 21, 22, 23, 24, 25, 26, 27, 28, 29, 30, 31, 32] rfl rfl (by decide) (by decide) hk1 hFc hP1 hD1
      generalize H1 = H at hP hS ⊢
      have hP : va_P D vwCl [(a1, wT tC 5 fs), (a3, .inr (0, [.int 0, .ref dz, .int 0])), (a4, wS tC 5 (fun _ => none)), (f, .inr (3, [.ref e1, .ref e2, .int 5, .int 0])), (e1, wI tC 0 (fun _ => 0)), ((qs 0), .inr (4, [.int 0, .int 1, .ref f, .int 0, .int (-1), .null, .int (-1), .null])), ((qs 1), .inr (4, [.int 1, .int 1, .ref f, .int 0, .int (-1), .null, .int (-1), .null])), ((qs 2), .inr (4, [.int 2, .int 1, .ref f, .int 0, .int (-1), .null, .int (-1), .null])), ((qs 3), .inr (4, [.int 3, .int 1, .ref f, .int 0, .int (-1), .null, .int (-1), .null])), ((qs 4), .inr (4, [.int 4, .int 1, .ref f, .int 0, .int (-1), .null, .int (-1), .null])), (mo, .inr (6, [.int 0, .int 1, .ref (ma 2), .ref (ma 3), .ref (ma 4), .ref (ma 5), .ref (ma 6), .ref (ma 7), .ref (ma 8), .ref (ma 9), .ref (ma 10), .ref (ma 11), .ref (ma 12), .ref (ma 13), .ref (ma 14), .ref (ma 15), .ref (ma 16), .ref (ma 17), .ref (ma 18), .ref (ma 19), .ref (ma 20), .ref (ma 21), .int 0, .ref (ma 23), .ref (ma 24), .ref (ma 25), .ref (ma 26), .ref (ma 27), .ref (ma 28)])), ((ma 2), wI tC 600 (fun _ => 0)), ((ma 6), wI tC 600 zf), ((ma 7), wI tC 600 (fun _ => 0)), ((ma 8), wI tC 5 (fun _ => 0)), ((ma 9), wI tC 5 (fun _ => 0)), ((ma 10), wI tC 5 pf), ((ma 12), wZ tC 5 (fun _ => 0)), ((ma 13), wI tC 5 lf), ((ma 14), wI tC 5 op), ((ma 15), wI tC 5 (fun _ => 0)), ((ma 16), wI tC 5 (fun _ => 0)), ((ma 18), wI tC 5 (fun _ => 0)), ((ma 19), wI tC 25 (fun _ => 0)), ((ma 20), wZ tC 25 (fun _ => 0)), ((ma 23), wI tC 41 (fun _ => 0)), ((ma 24), wI tC 41 (fun _ => 0)), ((ma 25), wI tC 41 (fun _ => 0)), ((ma 26), wI tC 41 (fun _ => 0)), ((ma 27), wI tC 41 (fun _ => 0)), ((ma 28), wI tC 5 (fun _ => 0)), (o, wL tC 1 u_28)] H := hP
      have hD : va_D A [(a1, wT tC 5 fs), (a3, .inr (0, [.int 0, .ref dz, .int 0])), (a4, wS tC 5 (fun _ => none)), (f, .inr (3, [.ref e1, .ref e2, .int 5, .int 0])), (e1, wI tC 0 (fun _ => 0)), ((qs 0), .inr (4, [.int 0, .int 1, .ref f, .int 0, .int (-1), .null, .int (-1), .null])), ((qs 1), .inr (4, [.int 1, .int 1, .ref f, .int 0, .int (-1), .null, .int (-1), .null])), ((qs 2), .inr (4, [.int 2, .int 1, .ref f, .int 0, .int (-1), .null, .int (-1), .null])), ((qs 3), .inr (4, [.int 3, .int 1, .ref f, .int 0, .int (-1), .null, .int (-1), .null])), ((qs 4), .inr (4, [.int 4, .int 1, .ref f, .int 0, .int (-1), .null, .int (-1), .null])), (mo, .inr (6, [.int 0, .int 1, .ref (ma 2), .ref (ma 3), .ref (ma 4), .ref (ma 5), .ref (ma 6), .ref (ma 7), .ref (ma 8), .ref (ma 9), .ref (ma 10), .ref (ma 11), .ref (ma 12), .ref (ma 13), .ref (ma 14), .ref (ma 15), .ref (ma 16), .ref (ma 17), .ref (ma 18), .ref (ma 19), .ref (ma 20), .ref (ma 21), .int 0, .ref (ma 23), .ref (ma 24), .ref (ma 25), .ref (ma 26), .ref (ma 27), .ref (ma 28)])), ((ma 2), wI tC 600 (fun _ => 0)), ((ma 6), wI tC 600 zf), ((ma 7), wI tC 600 (fun _ => 0)), ((ma 8), wI tC 5 (fun _ => 0)), ((ma 9), wI tC 5 (fun _ => 0)), ((ma 10), wI tC 5 pf), ((ma 12), wZ tC 5 (fun _ => 0)), ((ma 13), wI tC 5 lf), ((ma 14), wI tC 5 op), ((ma 15), wI tC 5 (fun _ => 0)), ((ma 16), wI tC 5 (fun _ => 0)), ((ma 18), wI tC 5 (fun _ => 0)), ((ma 19), wI tC 25 (fun _ => 0)), ((ma 20), wZ tC 25 (fun _ => 0)), ((ma 23), wI tC 41 (fun _ => 0)), ((ma 24), wI tC 41 (fun _ => 0)), ((ma 25), wI tC 41 (fun _ => 0)), ((ma 26), wI tC 41 (fun _ => 0)), ((ma 27), wI tC 41 (fun _ => 0)), ((ma 28), wI tC 5 (fun _ => 0)), (o, wL tC 1 u_28)] := hD
      refine W.widen (k := 42) (n := 4022) (by omega) (by omega) ?_
      refine lv_istore (lv' := [(5, .int r_27), (4, .int 0), (3, .ref o), (2, .ref mo), (1, .ref x), (0, .ref b)]) hx hb dL_law_163 hl (by decide) rfl (fun ls hl => ?_)
      refine lv_aload_n hx hb dL_law_165 rfl (lv_at hl 3 rfl) ?_
      refine lv_aload_n hx hb dL_law_166 rfl (lv_at hl 5 rfl) ?_
      refine lv_iload hx hb dL_law_167 (lv_at hl 1 rfl) ?_
      refine lv_iconst (v := 1) hx hb dL_law_169 (by decide) ?_
      refine lv_iadd hx hb dL_law_170 ?_
      refine lv_topi (fun z_30 ez_30 => ?_)
      have fz_30 : z_30 = 1 := ez_30.trans (by decide)
      subst fz_30
      refine va_sld hx hb hX hbl hbA hS (by unfold vp_in; decide) dL_law_171 ?_
      refine lv_topi (fun z_31 ez_31 => ?_)
      have fz_31 : z_31 = xs 1 := ez_31.trans (rfl)
      subst fz_31
      refine lv_aload_n hx hb dL_law_172 rfl (lv_at hl 5 rfl) ?_
      refine lv_iload hx hb dL_law_173 (lv_at hl 1 rfl) ?_
      refine lv_iconst (v := 2) hx hb dL_law_175 (by decide) ?_
      refine lv_iadd hx hb dL_law_176 ?_
      refine lv_topi (fun z_32 ez_32 => ?_)
      have fz_32 : z_32 = 2 := ez_32.trans (by decide)
      subst fz_32
      refine va_sld hx hb hX hbl hbA hS (by unfold vp_in; decide) dL_law_177 ?_
      refine lv_topi (fun z_33 ez_33 => ?_)
      have fz_33 : z_33 = xs 2 := ez_33.trans (rfl)
      subst fz_33
      refine lv_aload_n hx hb dL_law_178 rfl (lv_at hl 5 rfl) ?_
      refine lv_iload hx hb dL_law_179 (lv_at hl 1 rfl) ?_
      refine lv_iconst (v := 3) hx hb dL_law_181 (by decide) ?_
      refine lv_iadd hx hb dL_law_182 ?_
      refine lv_topi (fun z_34 ez_34 => ?_)
      have fz_34 : z_34 = 3 := ez_34.trans (by decide)
      subst fz_34
      refine va_sld hx hb hX hbl hbA hS (by unfold vp_in; decide) dL_law_183 ?_
      refine lv_topi (fun z_35 ez_35 => ?_)
      have fz_35 : z_35 = xs 3 := ez_35.trans (rfl)
      subst fz_35
      refine lv_if_eq (tgt := 191) hx hb dL_law_184 (by decide) (fun hc => absurd hc (c_7)) (fun _ => ?_)
      refine lv_iconst (v := 1) hx hb dL_law_187 (by decide) ?_
      refine lv_goto (tgt := 192) hx hb dL_law_188 (by decide) ?_
      have hPc := hP.sub (ws' := [(mo, .inr (6, [.int 0, .int 1, .ref (ma 2), .ref (ma 3), .ref (ma 4), .ref (ma 5), .ref (ma 6), .ref (ma 7), .ref (ma 8), .ref (ma 9), .ref (ma 10), .ref (ma 11), .ref (ma 12), .ref (ma 13), .ref (ma 14), .ref (ma 15), .ref (ma 16), .ref (ma 17), .ref (ma 18), .ref (ma 19), .ref (ma 20), .ref (ma 21), .int 0, .ref (ma 23), .ref (ma 24), .ref (ma 25), .ref (ma 26), .ref (ma 27), .ref (ma 28)])), ((ma 20), wZ tC 25 (fun _ => 0))]) [10, 24] rfl
      have hDc := hD.sub (ws' := [(mo, .inr (6, [.int 0, .int 1, .ref (ma 2), .ref (ma 3), .ref (ma 4), .ref (ma 5), .ref (ma 6), .ref (ma 7), .ref (ma 8), .ref (ma 9), .ref (ma 10), .ref (ma 11), .ref (ma 12), .ref (ma 13), .ref (ma 14), .ref (ma 15), .ref (ma 16), .ref (ma 17), .ref (ma 18), .ref (ma 19), .ref (ma 20), .ref (ma 21), .int 0, .ref (ma 23), .ref (ma 24), .ref (ma 25), .ref (ma 26), .ref (ma 27), .ref (ma 28)])), ((ma 20), wZ tC 25 (fun _ => 0))]) [10, 24] (by decide) rfl
      have hFc := va_free (wc := [(mo, .inr (6, [.int 0, .int 1, .ref (ma 2), .ref (ma 3), .ref (ma 4), .ref (ma 5), .ref (ma 6), .ref (ma 7), .ref (ma 8), .ref (ma 9), .ref (ma 10), .ref (ma 11), .ref (ma 12), .ref (ma 13), .ref (ma 14), .ref (ma 15), .ref (ma 16), .ref (ma 17), .ref (ma 18), .ref (ma 19), .ref (ma 20), .ref (ma 21), .int 0, .ref (ma 23), .ref (ma 24), .ref (ma 25), .ref (ma 26), .ref (ma 27), .ref (ma 28)])), ((ma 20), wZ tC 25 (fun _ => 0))]) hD hS hA [10, 24] rfl
      refine va_calli (va_runV (As := [.int (xs 1), .int (xs 2), .int 1]) (rest := []) ⟨hx, hb, hml, hown, hts⟩ (c_X5_cable l hlt D tC dz H.size mo ma 0 (xs 1) (xs 2) 1 hup) (cwV 3 hts gL_law_X5_cable rfl rfl rfl (by decide +kernel) ⟨Nat.le_of_ble_eq_true rfl, Nat.le_of_ble_eq_true rfl⟩) ⟨pB_blind, va_recv hK hPc (ci := 6) (q0 := 0) rfl rfl, pB_at hPc hDc hK hN hE hS hFc⟩ rfl rfl hl.1 rfl (lv_room (Nat.le_of_ble_eq_true rfl)) dL_law_192 ⟨Nat.le_of_ble_eq_true rfl, Nat.le_of_ble_eq_true rfl⟩) hS (fun q _ h => hFc q h) hFc (fun r_36 u t H1 locs ht hvm hw hB hz1 hk1 hS => ?_)
      obtain ⟨u_37, rfl⟩ : ∃ z9, z9 = u := ⟨_, rfl⟩
      obtain ⟨l9_38, hP1, _, hD1⟩ := hB
      have hw_39 := hw
      rw [ht] at hP1
      obtain ⟨hP, hD⟩ := va_join (wr := [(a1, wT tC 5 fs), (a3, .inr (0, [.int 0, .ref dz, .int 0])), (a4, wS tC 5 (fun _ => none)), (f, .inr (3, [.ref e1, .ref e2, .int 5, .int 0])), (e1, wI tC 0 (fun _ => 0)), ((qs 0), .inr (4, [.int 0, .int 1, .ref f, .int 0, .int (-1), .null, .int (-1), .null])), ((qs 1), .inr (4, [.int 1, .int 1, .ref f, .int 0, .int (-1), .null, .int (-1), .null])), ((qs 2), .inr (4, [.int 2, .int 1, .ref f, .int 0, .int (-1), .null, .int (-1), .null])), ((qs 3), .inr (4, [.int 3, .int 1, .ref f, .int 0, .int (-1), .null, .int (-1), .null])), ((qs 4), .inr (4, [.int 4, .int 1, .ref f, .int 0, .int (-1), .null, .int (-1), .null])), ((ma 2), wI tC 600 (fun _ => 0)), ((ma 6), wI tC 600 zf), ((ma 7), wI tC 600 (fun _ => 0)), ((ma 8), wI tC 5 (fun _ => 0)), ((ma 9), wI tC 5 (fun _ => 0)), ((ma 10), wI tC 5 pf), ((ma 12), wZ tC 5 (fun _ => 0)), ((ma 13), wI tC 5 lf), ((ma 14), wI tC 5 op), ((ma 15), wI tC 5 (fun _ => 0)), ((ma 16), wI tC 5 (fun _ => 0)), ((ma 18), wI tC 5 (fun _ => 0)), ((ma 19), wI tC 25 (fun _ => 0)), ((ma 23), wI tC 41 (fun _ => 0)), ((ma 24), wI tC 41 (fun _ => 0)), ((ma 25), wI tC 41 (fun _ => 0)), ((ma 26), wI tC 41 (fun _ => 0)), ((ma 27), wI tC 41 (fun _ => 0)), ((ma 28), wI tC 5 (fun _ => 0)), (o, wL tC 1 u_28)]) (w1 := [(mo, .inr (6, [.int u_37, .int 1, .ref (ma 2), .ref (ma 3), .ref (ma 4), .ref (ma 5), .ref (ma 6), .ref (ma 7), .ref (ma 8), .ref (ma 9), .ref (ma 10), .ref (ma 11), .ref (ma 12), .ref (ma 13), .ref (ma 14), .ref (ma 15), .ref (ma 16), .ref (ma 17), .ref (ma 18), .ref (ma 19), .ref (ma 20), .ref (ma 21), .int l9_38, .ref (ma 23), .ref (ma 24), .ref (ma 25), .ref (ma 26), .ref (ma 27), .ref (ma 28)]))]) hP hD [10, 24] [0, 1, 2, 3, 4, 5, 6, 7, 8, 9, 11, 12, 13, 14, 15, 16, 17, 18, 19, 20, 21, 22, 23, 25, 26, 27, 28, 29, 30, 31] rfl rfl (by decide) (by decide) hk1 hFc hP1 hD1
      generalize H1 = H at hP hS ⊢
      have hP : va_P D vwCl [(a1, wT tC 5 fs), (a3, .inr (0, [.int 0, .ref dz, .int 0])), (a4, wS tC 5 (fun _ => none)), (f, .inr (3, [.ref e1, .ref e2, .int 5, .int 0])), (e1, wI tC 0 (fun _ => 0)), ((qs 0), .inr (4, [.int 0, .int 1, .ref f, .int 0, .int (-1), .null, .int (-1), .null])), ((qs 1), .inr (4, [.int 1, .int 1, .ref f, .int 0, .int (-1), .null, .int (-1), .null])), ((qs 2), .inr (4, [.int 2, .int 1, .ref f, .int 0, .int (-1), .null, .int (-1), .null])), ((qs 3), .inr (4, [.int 3, .int 1, .ref f, .int 0, .int (-1), .null, .int (-1), .null])), ((qs 4), .inr (4, [.int 4, .int 1, .ref f, .int 0, .int (-1), .null, .int (-1), .null])), ((ma 2), wI tC 600 (fun _ => 0)), ((ma 6), wI tC 600 zf), ((ma 7), wI tC 600 (fun _ => 0)), ((ma 8), wI tC 5 (fun _ => 0)), ((ma 9), wI tC 5 (fun _ => 0)), ((ma 10), wI tC 5 pf), ((ma 12), wZ tC 5 (fun _ => 0)), ((ma 13), wI tC 5 lf), ((ma 14), wI tC 5 op), ((ma 15), wI tC 5 (fun _ => 0)), ((ma 16), wI tC 5 (fun _ => 0)), ((ma 18), wI tC 5 (fun _ => 0)), ((ma 19), wI tC 25 (fun _ => 0)), ((ma 23), wI tC 41 (fun _ => 0)), ((ma 24), wI tC 41 (fun _ => 0)), ((ma 25), wI tC 41 (fun _ => 0)), ((ma 26), wI tC 41 (fun _ => 0)), ((ma 27), wI tC 41 (fun _ => 0)), ((ma 28), wI tC 5 (fun _ => 0)), (o, wL tC 1 u_28), (mo, .inr (6, [.int u_37, .int 1, .ref (ma 2), .ref (ma 3), .ref (ma 4), .ref (ma 5), .ref (ma 6), .ref (ma 7), .ref (ma 8), .ref (ma 9), .ref (ma 10), .ref (ma 11), .ref (ma 12), .ref (ma 13), .ref (ma 14), .ref (ma 15), .ref (ma 16), .ref (ma 17), .ref (ma 18), .ref (ma 19), .ref (ma 20), .ref (ma 21), .int l9_38, .ref (ma 23), .ref (ma 24), .ref (ma 25), .ref (ma 26), .ref (ma 27), .ref (ma 28)]))] H := hP
      have hD : va_D A [(a1, wT tC 5 fs), (a3, .inr (0, [.int 0, .ref dz, .int 0])), (a4, wS tC 5 (fun _ => none)), (f, .inr (3, [.ref e1, .ref e2, .int 5, .int 0])), (e1, wI tC 0 (fun _ => 0)), ((qs 0), .inr (4, [.int 0, .int 1, .ref f, .int 0, .int (-1), .null, .int (-1), .null])), ((qs 1), .inr (4, [.int 1, .int 1, .ref f, .int 0, .int (-1), .null, .int (-1), .null])), ((qs 2), .inr (4, [.int 2, .int 1, .ref f, .int 0, .int (-1), .null, .int (-1), .null])), ((qs 3), .inr (4, [.int 3, .int 1, .ref f, .int 0, .int (-1), .null, .int (-1), .null])), ((qs 4), .inr (4, [.int 4, .int 1, .ref f, .int 0, .int (-1), .null, .int (-1), .null])), ((ma 2), wI tC 600 (fun _ => 0)), ((ma 6), wI tC 600 zf), ((ma 7), wI tC 600 (fun _ => 0)), ((ma 8), wI tC 5 (fun _ => 0)), ((ma 9), wI tC 5 (fun _ => 0)), ((ma 10), wI tC 5 pf), ((ma 12), wZ tC 5 (fun _ => 0)), ((ma 13), wI tC 5 lf), ((ma 14), wI tC 5 op), ((ma 15), wI tC 5 (fun _ => 0)), ((ma 16), wI tC 5 (fun _ => 0)), ((ma 18), wI tC 5 (fun _ => 0)), ((ma 19), wI tC 25 (fun _ => 0)), ((ma 23), wI tC 41 (fun _ => 0)), ((ma 24), wI tC 41 (fun _ => 0)), ((ma 25), wI tC 41 (fun _ => 0)), ((ma 26), wI tC 41 (fun _ => 0)), ((ma 27), wI tC 41 (fun _ => 0)), ((ma 28), wI tC 5 (fun _ => 0)), (o, wL tC 1 u_28), (mo, .inr (6, [.int u_37, .int 1, .ref (ma 2), .ref (ma 3), .ref (ma 4), .ref (ma 5), .ref (ma 6), .ref (ma 7), .ref (ma 8), .ref (ma 9), .ref (ma 10), .ref (ma 11), .ref (ma 12), .ref (ma 13), .ref (ma 14), .ref (ma 15), .ref (ma 16), .ref (ma 17), .ref (ma 18), .ref (ma 19), .ref (ma 20), .ref (ma 21), .int l9_38, .ref (ma 23), .ref (ma 24), .ref (ma 25), .ref (ma 26), .ref (ma 27), .ref (ma 28)]))] := hD
      refine lv_istore (lv' := [(6, .int r_36), (5, .int r_27), (4, .int 0), (3, .ref o), (2, .ref mo), (1, .ref x), (0, .ref b)]) hx hb dL_law_195 hl (by decide) rfl (fun ls hl => ?_)
      refine lv_aload_n hx hb dL_law_197 rfl (lv_at hl 4 rfl) ?_
      have hPc := hP.sub (ws' := [(mo, .inr (6, [.int u_37, .int 1, .ref (ma 2), .ref (ma 3), .ref (ma 4), .ref (ma 5), .ref (ma 6), .ref (ma 7), .ref (ma 8), .ref (ma 9), .ref (ma 10), .ref (ma 11), .ref (ma 12), .ref (ma 13), .ref (ma 14), .ref (ma 15), .ref (ma 16), .ref (ma 17), .ref (ma 18), .ref (ma 19), .ref (ma 20), .ref (ma 21), .int l9_38, .ref (ma 23), .ref (ma 24), .ref (ma 25), .ref (ma 26), .ref (ma 27), .ref (ma 28)]))]) [30] rfl
      have hDc := hD.sub (ws' := [(mo, .inr (6, [.int u_37, .int 1, .ref (ma 2), .ref (ma 3), .ref (ma 4), .ref (ma 5), .ref (ma 6), .ref (ma 7), .ref (ma 8), .ref (ma 9), .ref (ma 10), .ref (ma 11), .ref (ma 12), .ref (ma 13), .ref (ma 14), .ref (ma 15), .ref (ma 16), .ref (ma 17), .ref (ma 18), .ref (ma 19), .ref (ma 20), .ref (ma 21), .int l9_38, .ref (ma 23), .ref (ma 24), .ref (ma 25), .ref (ma 26), .ref (ma 27), .ref (ma 28)]))]) [30] (by decide) rfl
      have hFc := va_free (wc := [(mo, .inr (6, [.int u_37, .int 1, .ref (ma 2), .ref (ma 3), .ref (ma 4), .ref (ma 5), .ref (ma 6), .ref (ma 7), .ref (ma 8), .ref (ma 9), .ref (ma 10), .ref (ma 11), .ref (ma 12), .ref (ma 13), .ref (ma 14), .ref (ma 15), .ref (ma 16), .ref (ma 17), .ref (ma 18), .ref (ma 19), .ref (ma 20), .ref (ma 21), .int l9_38, .ref (ma 23), .ref (ma 24), .ref (ma 25), .ref (ma 26), .ref (ma 27), .ref (ma 28)]))]) hD hS hA [30] rfl
      refine va_calli (va_runV (As := []) (rest := []) ⟨hx, hb, hml, hown, hts⟩ (c_X5_thrown l hlt D tC dz H.size mo ma u_37 l9_38 ) (cwV 0 hts gL_law_X5_thrown rfl rfl rfl (by decide +kernel) ⟨Nat.le_of_ble_eq_true rfl, Nat.le_of_ble_eq_true rfl⟩) ⟨pB_blind, va_recv hK hPc (ci := 6) (q0 := 0) rfl rfl, pB_at hPc hDc hK hN hE hS hFc⟩ rfl rfl hl.1 rfl (lv_room (Nat.le_of_ble_eq_true rfl)) dL_law_198 ⟨Nat.le_of_ble_eq_true rfl, Nat.le_of_ble_eq_true rfl⟩) hS (fun q _ h => hFc q h) hFc (fun r_40 u t H1 locs ht hvm hw hB hz1 hk1 hS => ?_)
      obtain ⟨hP1, _, hD1⟩ := hB
      have hw_41 := hw
      rw [ht] at hP1
      obtain ⟨hP, hD⟩ := va_join (wr := [(a1, wT tC 5 fs), (a3, .inr (0, [.int 0, .ref dz, .int 0])), (a4, wS tC 5 (fun _ => none)), (f, .inr (3, [.ref e1, .ref e2, .int 5, .int 0])), (e1, wI tC 0 (fun _ => 0)), ((qs 0), .inr (4, [.int 0, .int 1, .ref f, .int 0, .int (-1), .null, .int (-1), .null])), ((qs 1), .inr (4, [.int 1, .int 1, .ref f, .int 0, .int (-1), .null, .int (-1), .null])), ((qs 2), .inr (4, [.int 2, .int 1, .ref f, .int 0, .int (-1), .null, .int (-1), .null])), ((qs 3), .inr (4, [.int 3, .int 1, .ref f, .int 0, .int (-1), .null, .int (-1), .null])), ((qs 4), .inr (4, [.int 4, .int 1, .ref f, .int 0, .int (-1), .null, .int (-1), .null])), ((ma 2), wI tC 600 (fun _ => 0)), ((ma 6), wI tC 600 zf), ((ma 7), wI tC 600 (fun _ => 0)), ((ma 8), wI tC 5 (fun _ => 0)), ((ma 9), wI tC 5 (fun _ => 0)), ((ma 10), wI tC 5 pf), ((ma 12), wZ tC 5 (fun _ => 0)), ((ma 13), wI tC 5 lf), ((ma 14), wI tC 5 op), ((ma 15), wI tC 5 (fun _ => 0)), ((ma 16), wI tC 5 (fun _ => 0)), ((ma 18), wI tC 5 (fun _ => 0)), ((ma 19), wI tC 25 (fun _ => 0)), ((ma 23), wI tC 41 (fun _ => 0)), ((ma 24), wI tC 41 (fun _ => 0)), ((ma 25), wI tC 41 (fun _ => 0)), ((ma 26), wI tC 41 (fun _ => 0)), ((ma 27), wI tC 41 (fun _ => 0)), ((ma 28), wI tC 5 (fun _ => 0)), (o, wL tC 1 u_28)]) (w1 := [(mo, .inr (6, [.int u_37, .int 1, .ref (ma 2), .ref (ma 3), .ref (ma 4), .ref (ma 5), .ref (ma 6), .ref (ma 7), .ref (ma 8), .ref (ma 9), .ref (ma 10), .ref (ma 11), .ref (ma 12), .ref (ma 13), .ref (ma 14), .ref (ma 15), .ref (ma 16), .ref (ma 17), .ref (ma 18), .ref (ma 19), .ref (ma 20), .ref (ma 21), .int l9_38, .ref (ma 23), .ref (ma 24), .ref (ma 25), .ref (ma 26), .ref (ma 27), .ref (ma 28)]))]) hP hD [30] [0, 1, 2, 3, 4, 5, 6, 7, 8, 9, 10, 11, 12, 13, 14, 15, 16, 17, 18, 19, 20, 21, 22, 23, 24, 25, 26, 27, 28, 29] rfl rfl (by decide) (by decide) hk1 hFc hP1 hD1
      generalize H1 = H at hP hS ⊢
      have hP : va_P D vwCl [(a1, wT tC 5 fs), (a3, .inr (0, [.int 0, .ref dz, .int 0])), (a4, wS tC 5 (fun _ => none)), (f, .inr (3, [.ref e1, .ref e2, .int 5, .int 0])), (e1, wI tC 0 (fun _ => 0)), ((qs 0), .inr (4, [.int 0, .int 1, .ref f, .int 0, .int (-1), .null, .int (-1), .null])), ((qs 1), .inr (4, [.int 1, .int 1, .ref f, .int 0, .int (-1), .null, .int (-1), .null])), ((qs 2), .inr (4, [.int 2, .int 1, .ref f, .int 0, .int (-1), .null, .int (-1), .null])), ((qs 3), .inr (4, [.int 3, .int 1, .ref f, .int 0, .int (-1), .null, .int (-1), .null])), ((qs 4), .inr (4, [.int 4, .int 1, .ref f, .int 0, .int (-1), .null, .int (-1), .null])), ((ma 2), wI tC 600 (fun _ => 0)), ((ma 6), wI tC 600 zf), ((ma 7), wI tC 600 (fun _ => 0)), ((ma 8), wI tC 5 (fun _ => 0)), ((ma 9), wI tC 5 (fun _ => 0)), ((ma 10), wI tC 5 pf), ((ma 12), wZ tC 5 (fun _ => 0)), ((ma 13), wI tC 5 lf), ((ma 14), wI tC 5 op), ((ma 15), wI tC 5 (fun _ => 0)), ((ma 16), wI tC 5 (fun _ => 0)), ((ma 18), wI tC 5 (fun _ => 0)), ((ma 19), wI tC 25 (fun _ => 0)), ((ma 23), wI tC 41 (fun _ => 0)), ((ma 24), wI tC 41 (fun _ => 0)), ((ma 25), wI tC 41 (fun _ => 0)), ((ma 26), wI tC 41 (fun _ => 0)), ((ma 27), wI tC 41 (fun _ => 0)), ((ma 28), wI tC 5 (fun _ => 0)), (o, wL tC 1 u_28), (mo, .inr (6, [.int u_37, .int 1, .ref (ma 2), .ref (ma 3), .ref (ma 4), .ref (ma 5), .ref (ma 6), .ref (ma 7), .ref (ma 8), .ref (ma 9), .ref (ma 10), .ref (ma 11), .ref (ma 12), .ref (ma 13), .ref (ma 14), .ref (ma 15), .ref (ma 16), .ref (ma 17), .ref (ma 18), .ref (ma 19), .ref (ma 20), .ref (ma 21), .int l9_38, .ref (ma 23), .ref (ma 24), .ref (ma 25), .ref (ma 26), .ref (ma 27), .ref (ma 28)]))] H := hP
      have hD : va_D A [(a1, wT tC 5 fs), (a3, .inr (0, [.int 0, .ref dz, .int 0])), (a4, wS tC 5 (fun _ => none)), (f, .inr (3, [.ref e1, .ref e2, .int 5, .int 0])), (e1, wI tC 0 (fun _ => 0)), ((qs 0), .inr (4, [.int 0, .int 1, .ref f, .int 0, .int (-1), .null, .int (-1), .null])), ((qs 1), .inr (4, [.int 1, .int 1, .ref f, .int 0, .int (-1), .null, .int (-1), .null])), ((qs 2), .inr (4, [.int 2, .int 1, .ref f, .int 0, .int (-1), .null, .int (-1), .null])), ((qs 3), .inr (4, [.int 3, .int 1, .ref f, .int 0, .int (-1), .null, .int (-1), .null])), ((qs 4), .inr (4, [.int 4, .int 1, .ref f, .int 0, .int (-1), .null, .int (-1), .null])), ((ma 2), wI tC 600 (fun _ => 0)), ((ma 6), wI tC 600 zf), ((ma 7), wI tC 600 (fun _ => 0)), ((ma 8), wI tC 5 (fun _ => 0)), ((ma 9), wI tC 5 (fun _ => 0)), ((ma 10), wI tC 5 pf), ((ma 12), wZ tC 5 (fun _ => 0)), ((ma 13), wI tC 5 lf), ((ma 14), wI tC 5 op), ((ma 15), wI tC 5 (fun _ => 0)), ((ma 16), wI tC 5 (fun _ => 0)), ((ma 18), wI tC 5 (fun _ => 0)), ((ma 19), wI tC 25 (fun _ => 0)), ((ma 23), wI tC 41 (fun _ => 0)), ((ma 24), wI tC 41 (fun _ => 0)), ((ma 25), wI tC 41 (fun _ => 0)), ((ma 26), wI tC 41 (fun _ => 0)), ((ma 27), wI tC 41 (fun _ => 0)), ((ma 28), wI tC 5 (fun _ => 0)), (o, wL tC 1 u_28), (mo, .inr (6, [.int u_37, .int 1, .ref (ma 2), .ref (ma 3), .ref (ma 4), .ref (ma 5), .ref (ma 6), .ref (ma 7), .ref (ma 8), .ref (ma 9), .ref (ma 10), .ref (ma 11), .ref (ma 12), .ref (ma 13), .ref (ma 14), .ref (ma 15), .ref (ma 16), .ref (ma 17), .ref (ma 18), .ref (ma 19), .ref (ma 20), .ref (ma 21), .int l9_38, .ref (ma 23), .ref (ma 24), .ref (ma 25), .ref (ma 26), .ref (ma 27), .ref (ma 28)]))] := hD
      refine lv_iload hx hb dL_law_201 (lv_at hl 1 rfl) ?_
      refine lv_icmp_eq (tgt := 208) hx hb dL_law_203 (by decide) (fun _ => ?_) (fun hc => absurd (hw_41.trans (hw_39.1.trans hw_29.1.symm)) hc)
      refine lv_iload hx hb dL_law_208 (lv_at hl 1 rfl) ?_
      refine lv_if_ne (tgt := 232) hx hb dL_law_210 (by decide) (fun c_42 => ?_) (fun c_42 => ?_)
      · skip
        refine lv_goto (tgt := 1332) hx hb dL_law_232 (by decide) ?_
        exact lw_tail C1 hAe hS (lv_sub hl [2, 6] rfl) (by decide) (by decide)
      · skip
        refine lv_aload_n hx hb dL_law_213 rfl (lv_at hl 3 rfl) ?_
        refine lv_iconst (v := 0) hx hb dL_law_214 (by decide) ?_
        refine va_lald hx hb hK hP 29 5 rfl rfl (by unfold vp_in; decide) dL_law_215 ?_
        rw [show (0 : Int32).toNatClampNeg = 0 by decide]
        refine lv_iload hx hb dL_law_216 (lv_at hl 0 rfl) ?_
        refine lv_if_eq (tgt := 225) hx hb dL_law_218 (by decide) (fun c_43 => ?_) (fun c_43 => ?_)
        · skip
          refine lv_lconst (v := 0) hx hb dL_law_225 (by decide) ?_
          refine W.lcmp hx hb dL_law_226 ?_
          refine lv_topi (fun z_44 ez_44 => ?_)
          have fz_44 : z_44 = 0 := ez_44.trans (lgc ((hw_29.2 c_42).trans (if_neg (bv0 (hw_39.2 (hw_39.1.trans (hw_29.1.symm.trans c_42))) c_43))))
          subst fz_44
          refine lv_if_eq (tgt := 232) hx hb dL_law_227 (by decide) (fun _ => ?_) (fun hc => absurd (by decide) hc)
          refine lv_goto (tgt := 1332) hx hb dL_law_232 (by decide) ?_
          exact lw_tail C1 hAe hS (lv_sub hl [2, 6] rfl) (by decide) (by decide)
        · skip
          refine lv_lconst (v := 1) hx hb dL_law_221 (by decide) ?_
          refine lv_goto (tgt := 226) hx hb dL_law_222 (by decide) ?_
          refine W.lcmp hx hb dL_law_226 ?_
          refine lv_topi (fun z_45 ez_45 => ?_)
          have fz_45 : z_45 = 0 := ez_45.trans (lgc ((hw_29.2 c_42).trans (if_pos (bv1 (hw_39.2 (hw_39.1.trans (hw_29.1.symm.trans c_42))) c_43))))
          subst fz_45
          refine lv_if_eq (tgt := 232) hx hb dL_law_227 (by decide) (fun _ => ?_) (fun hc => absurd (by decide) hc)
          refine lv_goto (tgt := 1332) hx hb dL_law_232 (by decide) ?_
          exact lw_tail C1 hAe hS (lv_sub hl [2, 6] rfl) (by decide) (by decide)
set_option maxHeartbeats 8000000 in
set_option maxRecDepth 100000 in
theorem lc_1 {p : Program} {l : Launch} {e : Env} {s : State} {m : MethodId} {below : List Frame} {meth : Method} {c : Code} {b : Nat} {xs : Nat → Int32} (hlt : l.stackTraces = false) (C0 : lw_At p s m meth c b 5 xs) (D : va_G) (tC : Nat → ClassId) (dz x a1 a2 a3 a4 f e1 e2 : Nat) (qs : Nat → Nat) (fs : Nat → Option Nat) (cb : Nat → Int32) (mo : Nat) (ma : Nat → Nat) (pf lf op zf : Nat → Int32) (o : Nat) (hfs : ∀ i : Nat, i < 5 → fs i = some (qs i)) (hcb : ∀ i : Nat, i < 5 → cb i = cbv i) (hpf : ∀ i : Nat, i < 5 → pf i = -1) (hlf : ∀ i : Nat, i < 5 → lf i = -1) (hop : ∀ i : Nat, i < 5 → op i = -1) (hzf : zf 0 = 5) (hK : va_K D vwCl (tY tC) s) (hN : eN s) (hE : eH dz (fun q : Nat => s.heap.size ≤ q) s s.heap) (H : Heap) (locs : List Loc) (hP : va_P D vwCl [(x, .inr (5, [.ref a1, .ref a2, .ref a3, .ref a4])), (a1, wT tC 5 fs), (a2, wI tC 5 cb), (a3, .inr (0, [.int 0, .ref dz, .int 0])), (a4, wS tC 5 (fun _ => none)), (f, .inr (3, [.ref e1, .ref e2, .int 5, .int 0])), (e1, wI tC 0 (fun _ => 0)), ((qs 0), .inr (4, [.int 0, .int 1, .ref f, .int 0, .int (-1), .null, .int (-1), .null])), ((qs 1), .inr (4, [.int 1, .int 1, .ref f, .int 0, .int (-1), .null, .int (-1), .null])), ((qs 2), .inr (4, [.int 2, .int 1, .ref f, .int 0, .int (-1), .null, .int (-1), .null])), ((qs 3), .inr (4, [.int 3, .int 1, .ref f, .int 0, .int (-1), .null, .int (-1), .null])), ((qs 4), .inr (4, [.int 4, .int 1, .ref f, .int 0, .int (-1), .null, .int (-1), .null])), (mo, .inr (6, [.int 0, .int 1, .ref (ma 2), .ref (ma 3), .ref (ma 4), .ref (ma 5), .ref (ma 6), .ref (ma 7), .ref (ma 8), .ref (ma 9), .ref (ma 10), .ref (ma 11), .ref (ma 12), .ref (ma 13), .ref (ma 14), .ref (ma 15), .ref (ma 16), .ref (ma 17), .ref (ma 18), .ref (ma 19), .ref (ma 20), .ref (ma 21), .int 0, .ref (ma 23), .ref (ma 24), .ref (ma 25), .ref (ma 26), .ref (ma 27), .ref (ma 28)])), ((ma 2), wI tC 600 (fun _ => 0)), ((ma 6), wI tC 600 zf), ((ma 7), wI tC 600 (fun _ => 0)), ((ma 8), wI tC 5 (fun _ => 0)), ((ma 9), wI tC 5 (fun _ => 0)), ((ma 10), wI tC 5 pf), ((ma 12), wZ tC 5 (fun _ => 0)), ((ma 13), wI tC 5 lf), ((ma 14), wI tC 5 op), ((ma 15), wI tC 5 (fun _ => 0)), ((ma 16), wI tC 5 (fun _ => 0)), ((ma 18), wI tC 5 (fun _ => 0)), ((ma 19), wI tC 25 (fun _ => 0)), ((ma 20), wZ tC 25 (fun _ => 0)), ((ma 23), wI tC 41 (fun _ => 0)), ((ma 24), wI tC 41 (fun _ => 0)), ((ma 25), wI tC 41 (fun _ => 0)), ((ma 26), wI tC 41 (fun _ => 0)), ((ma 27), wI tC 41 (fun _ => 0)), ((ma 28), wI tC 5 (fun _ => 0)), (o, wL tC 1 (fun _ => 0))] H) (hD : va_D (fun q : Nat => s.heap.size ≤ q) [(x, .inr (5, [.ref a1, .ref a2, .ref a3, .ref a4])), (a1, wT tC 5 fs), (a2, wI tC 5 cb), (a3, .inr (0, [.int 0, .ref dz, .int 0])), (a4, wS tC 5 (fun _ => none)), (f, .inr (3, [.ref e1, .ref e2, .int 5, .int 0])), (e1, wI tC 0 (fun _ => 0)), ((qs 0), .inr (4, [.int 0, .int 1, .ref f, .int 0, .int (-1), .null, .int (-1), .null])), ((qs 1), .inr (4, [.int 1, .int 1, .ref f, .int 0, .int (-1), .null, .int (-1), .null])), ((qs 2), .inr (4, [.int 2, .int 1, .ref f, .int 0, .int (-1), .null, .int (-1), .null])), ((qs 3), .inr (4, [.int 3, .int 1, .ref f, .int 0, .int (-1), .null, .int (-1), .null])), ((qs 4), .inr (4, [.int 4, .int 1, .ref f, .int 0, .int (-1), .null, .int (-1), .null])), (mo, .inr (6, [.int 0, .int 1, .ref (ma 2), .ref (ma 3), .ref (ma 4), .ref (ma 5), .ref (ma 6), .ref (ma 7), .ref (ma 8), .ref (ma 9), .ref (ma 10), .ref (ma 11), .ref (ma 12), .ref (ma 13), .ref (ma 14), .ref (ma 15), .ref (ma 16), .ref (ma 17), .ref (ma 18), .ref (ma 19), .ref (ma 20), .ref (ma 21), .int 0, .ref (ma 23), .ref (ma 24), .ref (ma 25), .ref (ma 26), .ref (ma 27), .ref (ma 28)])), ((ma 2), wI tC 600 (fun _ => 0)), ((ma 6), wI tC 600 zf), ((ma 7), wI tC 600 (fun _ => 0)), ((ma 8), wI tC 5 (fun _ => 0)), ((ma 9), wI tC 5 (fun _ => 0)), ((ma 10), wI tC 5 pf), ((ma 12), wZ tC 5 (fun _ => 0)), ((ma 13), wI tC 5 lf), ((ma 14), wI tC 5 op), ((ma 15), wI tC 5 (fun _ => 0)), ((ma 16), wI tC 5 (fun _ => 0)), ((ma 18), wI tC 5 (fun _ => 0)), ((ma 19), wI tC 25 (fun _ => 0)), ((ma 20), wZ tC 25 (fun _ => 0)), ((ma 23), wI tC 41 (fun _ => 0)), ((ma 24), wI tC 41 (fun _ => 0)), ((ma 25), wI tC 41 (fun _ => 0)), ((ma 26), wI tC 41 (fun _ => 0)), ((ma 27), wI tC 41 (fun _ => 0)), ((ma 28), wI tC 5 (fun _ => 0)), (o, wL tC 1 (fun _ => 0))]) (hS : va_S (fun q : Nat => s.heap.size ≤ q) s.heap H locs) (ls : Array Slot) (hl : lv_has ls 7 [(4, .int 0), (3, .ref o), (2, .ref mo), (1, .ref x), (0, .ref b)]) : W p l e room_1 s m #[Value.ref b] below meth c H locs 41 4016 (lw_Z below #[Value.ref b] s) (F0 m 235 ls []) := by
  have C1 := C0
  obtain ⟨hx, hb, hr, hml, hown, hts0, hX, hbl, hlocks, hgv⟩ := C0
  have hts : ∀ w ∈ wsL_law, w.before #[Value.ref b] s = true := fun w h => hts0 w (wsL_law_in w h)
  have hown : s.vm.findClass RL = some m.cls := hown
  obtain ⟨A, hAe⟩ : ∃ A : Nat → Prop, A = fun q : Nat => s.heap.size ≤ q := ⟨_, rfl⟩
  rw [← hAe] at hE hD hS
  have hA : ∀ q : Nat, s.heap.size ≤ q → A q := fun q h => by rw [hAe]; exact h
  have hbA : ¬ A b := by rw [hAe]; exact Nat.not_le.mpr hbl
  obtain ⟨j, hj, hjp⟩ := pick5 (xs 1)
  have hP : va_P D vwCl [(x, .inr (5, [.ref a1, .ref a2, .ref a3, .ref a4])), (a1, wT tC 5 fs), (a2, wI tC 5 cb), (a3, .inr (0, [.int 0, .ref dz, .int 0])), (a4, wS tC 5 (fun _ => none)), (f, .inr (3, [.ref e1, .ref e2, .int 5, .int 0])), (e1, wI tC 0 (fun _ => 0)), ((qs j), .inr (4, [.int (nI j), .int 1, .ref f, .int 0, .int (-1), .null, .int (-1), .null])), (mo, .inr (6, [.int 0, .int 1, .ref (ma 2), .ref (ma 3), .ref (ma 4), .ref (ma 5), .ref (ma 6), .ref (ma 7), .ref (ma 8), .ref (ma 9), .ref (ma 10), .ref (ma 11), .ref (ma 12), .ref (ma 13), .ref (ma 14), .ref (ma 15), .ref (ma 16), .ref (ma 17), .ref (ma 18), .ref (ma 19), .ref (ma 20), .ref (ma 21), .int 0, .ref (ma 23), .ref (ma 24), .ref (ma 25), .ref (ma 26), .ref (ma 27), .ref (ma 28)])), ((ma 2), wI tC 600 (fun _ => 0)), ((ma 6), wI tC 600 zf), ((ma 7), wI tC 600 (fun _ => 0)), ((ma 8), wI tC 5 (fun _ => 0)), ((ma 9), wI tC 5 (fun _ => 0)), ((ma 10), wI tC 5 pf), ((ma 12), wZ tC 5 (fun _ => 0)), ((ma 13), wI tC 5 lf), ((ma 14), wI tC 5 op), ((ma 15), wI tC 5 (fun _ => 0)), ((ma 16), wI tC 5 (fun _ => 0)), ((ma 18), wI tC 5 (fun _ => 0)), ((ma 19), wI tC 25 (fun _ => 0)), ((ma 20), wZ tC 25 (fun _ => 0)), ((ma 23), wI tC 41 (fun _ => 0)), ((ma 24), wI tC 41 (fun _ => 0)), ((ma 25), wI tC 41 (fun _ => 0)), ((ma 26), wI tC 41 (fun _ => 0)), ((ma 27), wI tC 41 (fun _ => 0)), ((ma 28), wI tC 5 (fun _ => 0)), (o, wL tC 1 (fun _ => 0))] H := by
    rcases (show j = 0 ∨ j = 1 ∨ j = 2 ∨ j = 3 ∨ j = 4 by omega) with rfl | rfl | rfl | rfl | rfl
    · exact hP.sub [0, 1, 2, 3, 4, 5, 6, 7, 12, 13, 14, 15, 16, 17, 18, 19, 20, 21, 22, 23, 24, 25, 26, 27, 28, 29, 30, 31, 32, 33] rfl
    · exact hP.sub [0, 1, 2, 3, 4, 5, 6, 8, 12, 13, 14, 15, 16, 17, 18, 19, 20, 21, 22, 23, 24, 25, 26, 27, 28, 29, 30, 31, 32, 33] rfl
    · exact hP.sub [0, 1, 2, 3, 4, 5, 6, 9, 12, 13, 14, 15, 16, 17, 18, 19, 20, 21, 22, 23, 24, 25, 26, 27, 28, 29, 30, 31, 32, 33] rfl
    · exact hP.sub [0, 1, 2, 3, 4, 5, 6, 10, 12, 13, 14, 15, 16, 17, 18, 19, 20, 21, 22, 23, 24, 25, 26, 27, 28, 29, 30, 31, 32, 33] rfl
    · exact hP.sub [0, 1, 2, 3, 4, 5, 6, 11, 12, 13, 14, 15, 16, 17, 18, 19, 20, 21, 22, 23, 24, 25, 26, 27, 28, 29, 30, 31, 32, 33] rfl
  have hD : va_D A [(x, .inr (5, [.ref a1, .ref a2, .ref a3, .ref a4])), (a1, wT tC 5 fs), (a2, wI tC 5 cb), (a3, .inr (0, [.int 0, .ref dz, .int 0])), (a4, wS tC 5 (fun _ => none)), (f, .inr (3, [.ref e1, .ref e2, .int 5, .int 0])), (e1, wI tC 0 (fun _ => 0)), ((qs j), .inr (4, [.int (nI j), .int 1, .ref f, .int 0, .int (-1), .null, .int (-1), .null])), (mo, .inr (6, [.int 0, .int 1, .ref (ma 2), .ref (ma 3), .ref (ma 4), .ref (ma 5), .ref (ma 6), .ref (ma 7), .ref (ma 8), .ref (ma 9), .ref (ma 10), .ref (ma 11), .ref (ma 12), .ref (ma 13), .ref (ma 14), .ref (ma 15), .ref (ma 16), .ref (ma 17), .ref (ma 18), .ref (ma 19), .ref (ma 20), .ref (ma 21), .int 0, .ref (ma 23), .ref (ma 24), .ref (ma 25), .ref (ma 26), .ref (ma 27), .ref (ma 28)])), ((ma 2), wI tC 600 (fun _ => 0)), ((ma 6), wI tC 600 zf), ((ma 7), wI tC 600 (fun _ => 0)), ((ma 8), wI tC 5 (fun _ => 0)), ((ma 9), wI tC 5 (fun _ => 0)), ((ma 10), wI tC 5 pf), ((ma 12), wZ tC 5 (fun _ => 0)), ((ma 13), wI tC 5 lf), ((ma 14), wI tC 5 op), ((ma 15), wI tC 5 (fun _ => 0)), ((ma 16), wI tC 5 (fun _ => 0)), ((ma 18), wI tC 5 (fun _ => 0)), ((ma 19), wI tC 25 (fun _ => 0)), ((ma 20), wZ tC 25 (fun _ => 0)), ((ma 23), wI tC 41 (fun _ => 0)), ((ma 24), wI tC 41 (fun _ => 0)), ((ma 25), wI tC 41 (fun _ => 0)), ((ma 26), wI tC 41 (fun _ => 0)), ((ma 27), wI tC 41 (fun _ => 0)), ((ma 28), wI tC 5 (fun _ => 0)), (o, wL tC 1 (fun _ => 0))] := by
    rcases (show j = 0 ∨ j = 1 ∨ j = 2 ∨ j = 3 ∨ j = 4 by omega) with rfl | rfl | rfl | rfl | rfl
    · exact hD.sub [0, 1, 2, 3, 4, 5, 6, 7, 12, 13, 14, 15, 16, 17, 18, 19, 20, 21, 22, 23, 24, 25, 26, 27, 28, 29, 30, 31, 32, 33] (by decide) rfl
    · exact hD.sub [0, 1, 2, 3, 4, 5, 6, 8, 12, 13, 14, 15, 16, 17, 18, 19, 20, 21, 22, 23, 24, 25, 26, 27, 28, 29, 30, 31, 32, 33] (by decide) rfl
    · exact hD.sub [0, 1, 2, 3, 4, 5, 6, 9, 12, 13, 14, 15, 16, 17, 18, 19, 20, 21, 22, 23, 24, 25, 26, 27, 28, 29, 30, 31, 32, 33] (by decide) rfl
    · exact hD.sub [0, 1, 2, 3, 4, 5, 6, 10, 12, 13, 14, 15, 16, 17, 18, 19, 20, 21, 22, 23, 24, 25, 26, 27, 28, 29, 30, 31, 32, 33] (by decide) rfl
    · exact hD.sub [0, 1, 2, 3, 4, 5, 6, 11, 12, 13, 14, 15, 16, 17, 18, 19, 20, 21, 22, 23, 24, 25, 26, 27, 28, 29, 30, 31, 32, 33] (by decide) rfl
  refine lv_aload_n hx hb dL_law_235 rfl (lv_at hl 3 rfl) ?_
  refine lv_aload_n hx hb dL_law_236 rfl (lv_at hl 4 rfl) ?_
  refine lv_iload hx hb dL_law_237 (lv_at hl 0 rfl) ?_
  refine lv_iconst (v := 1) hx hb dL_law_239 (by decide) ?_
  refine lv_iadd hx hb dL_law_240 ?_
  refine lv_topi (fun z_1 ez_1 => ?_)
  have fz_1 : z_1 = 1 := ez_1.trans (by decide)
  subst fz_1
  refine va_sld hx hb hX hbl hbA hS (by unfold vp_in; decide) dL_law_241 ?_
  refine lv_topi (fun z_2 ez_2 => ?_)
  have fz_2 : z_2 = xs 1 := ez_2.trans (rfl)
  subst fz_2
  refine lv_aload_n hx hb dL_law_242 rfl (lv_at hl 4 rfl) ?_
  refine lv_iload hx hb dL_law_243 (lv_at hl 0 rfl) ?_
  refine lv_iconst (v := 2) hx hb dL_law_245 (by decide) ?_
  refine lv_iadd hx hb dL_law_246 ?_
  refine lv_topi (fun z_3 ez_3 => ?_)
  have fz_3 : z_3 = 2 := ez_3.trans (by decide)
  subst fz_3
  refine va_sld hx hb hX hbl hbA hS (by unfold vp_in; decide) dL_law_247 ?_
  refine lv_topi (fun z_4 ez_4 => ?_)
  have fz_4 : z_4 = xs 2 := ez_4.trans (rfl)
  subst fz_4
  refine lv_aload_n hx hb dL_law_248 rfl (lv_at hl 4 rfl) ?_
  refine lv_iload hx hb dL_law_249 (lv_at hl 0 rfl) ?_
  refine lv_iconst (v := 3) hx hb dL_law_251 (by decide) ?_
  refine lv_iadd hx hb dL_law_252 ?_
  refine lv_topi (fun z_5 ez_5 => ?_)
  have fz_5 : z_5 = 3 := ez_5.trans (by decide)
  subst fz_5
  refine va_sld hx hb hX hbl hbA hS (by unfold vp_in; decide) dL_law_253 ?_
  refine lv_topi (fun z_6 ez_6 => ?_)
  have fz_6 : z_6 = xs 3 := ez_6.trans (rfl)
  subst fz_6
  refine lv_aload_n hx hb dL_law_254 rfl (lv_at hl 4 rfl) ?_
  refine lv_iload hx hb dL_law_255 (lv_at hl 0 rfl) ?_
  refine lv_iconst (v := 4) hx hb dL_law_257 (by decide) ?_
  refine lv_iadd hx hb dL_law_258 ?_
  refine lv_topi (fun z_7 ez_7 => ?_)
  have fz_7 : z_7 = 4 := ez_7.trans (by decide)
  subst fz_7
  refine va_sld hx hb hX hbl hbA hS (by unfold vp_in; decide) dL_law_259 ?_
  refine lv_topi (fun z_8 ez_8 => ?_)
  have fz_8 : z_8 = xs 4 := ez_8.trans (rfl)
  subst fz_8
  refine lv_aload_n hx hb dL_law_260 rfl (lv_at hl 1 rfl) ?_
  have hPc := hP.sub (ws' := [(x, .inr (5, [.ref a1, .ref a2, .ref a3, .ref a4])), (a1, wT tC 5 fs), (a3, .inr (0, [.int 0, .ref dz, .int 0])), ((qs j), .inr (4, [.int (nI j), .int 1, .ref f, .int 0, .int (-1), .null, .int (-1), .null])), (f, .inr (3, [.ref e1, .ref e2, .int 5, .int 0])), (e1, wI tC 0 (fun _ => 0)), (o, wL tC 1 (fun _ => 0))]) [0, 1, 3, 7, 5, 6, 29] rfl
  have hDc := hD.sub (ws' := [(x, .inr (5, [.ref a1, .ref a2, .ref a3, .ref a4])), (a1, wT tC 5 fs), (a3, .inr (0, [.int 0, .ref dz, .int 0])), ((qs j), .inr (4, [.int (nI j), .int 1, .ref f, .int 0, .int (-1), .null, .int (-1), .null])), (f, .inr (3, [.ref e1, .ref e2, .int 5, .int 0])), (e1, wI tC 0 (fun _ => 0)), (o, wL tC 1 (fun _ => 0))]) [0, 1, 3, 7, 5, 6, 29] (by decide) rfl
  have hFc := va_free (wc := [(x, .inr (5, [.ref a1, .ref a2, .ref a3, .ref a4])), (a1, wT tC 5 fs), (a3, .inr (0, [.int 0, .ref dz, .int 0])), ((qs j), .inr (4, [.int (nI j), .int 1, .ref f, .int 0, .int (-1), .null, .int (-1), .null])), (f, .inr (3, [.ref e1, .ref e2, .int 5, .int 0])), (e1, wI tC 0 (fun _ => 0)), (o, wL tC 1 (fun _ => 0))]) hD hS hA [0, 1, 3, 7, 5, 6, 29] rfl
  refine vx_calli (vx_runSX (As := [.ref x, .int (xs 1), .int (xs 2), .int (xs 3), .int (xs 4), .ref o]) (rest := []) ⟨hx, hb, hml, hown, hts⟩ (c_L_write2 l hlt D tC dz H.size x a1 a2 a3 a4 fs (xs 1) (xs 2) (xs 3) (xs 4) 0 f e1 e2 (fun _ => 0) (qs j) (nI j) o (fun _ => 0) (fun k hk ek => by rw [hfs k hk, hjp k hk ek]) (fun k hk ek => by rw [ek, hjp k hk ek])) (vx_cwSW 6 hts gL_law_L_write rfl rfl rfl (by decide +kernel) ⟨Nat.le_of_ble_eq_true rfl, Nat.le_of_ble_eq_true rfl⟩) ⟨pB_blind, pB_at hPc hDc hK hN hE hS hFc⟩ rfl rfl hl.1 rfl (lv_room (Nat.le_of_ble_eq_true rfl)) dL_law_261 ⟨Nat.le_of_ble_eq_true rfl, Nat.le_of_ble_eq_true rfl⟩) hS (fun q _ h => hFc q h) hFc (fun q _ h => hFc q h) (fun E ce q9 u t H1 locs ht hvm hpx hPE hz1 hk1 hS hce hcv hcl => ?_) (fun r_9 u t H1 locs ht hvm hw hB hz1 hk1 hS => ?_)
  · skip
    exact False.elim hPE
  · skip
    obtain ⟨u_10, rfl⟩ : ∃ z9, z9 = u := ⟨_, rfl⟩
    obtain ⟨hP1, _, hD1⟩ := hB
    have hw_11 := hw
    rw [ht] at hP1
    obtain ⟨hP, hD⟩ := va_join (wr := [(a2, wI tC 5 cb), (a4, wS tC 5 (fun _ => none)), (mo, .inr (6, [.int 0, .int 1, .ref (ma 2), .ref (ma 3), .ref (ma 4), .ref (ma 5), .ref (ma 6), .ref (ma 7), .ref (ma 8), .ref (ma 9), .ref (ma 10), .ref (ma 11), .ref (ma 12), .ref (ma 13), .ref (ma 14), .ref (ma 15), .ref (ma 16), .ref (ma 17), .ref (ma 18), .ref (ma 19), .ref (ma 20), .ref (ma 21), .int 0, .ref (ma 23), .ref (ma 24), .ref (ma 25), .ref (ma 26), .ref (ma 27), .ref (ma 28)])), ((ma 2), wI tC 600 (fun _ => 0)), ((ma 6), wI tC 600 zf), ((ma 7), wI tC 600 (fun _ => 0)), ((ma 8), wI tC 5 (fun _ => 0)), ((ma 9), wI tC 5 (fun _ => 0)), ((ma 10), wI tC 5 pf), ((ma 12), wZ tC 5 (fun _ => 0)), ((ma 13), wI tC 5 lf), ((ma 14), wI tC 5 op), ((ma 15), wI tC 5 (fun _ => 0)), ((ma 16), wI tC 5 (fun _ => 0)), ((ma 18), wI tC 5 (fun _ => 0)), ((ma 19), wI tC 25 (fun _ => 0)), ((ma 20), wZ tC 25 (fun _ => 0)), ((ma 23), wI tC 41 (fun _ => 0)), ((ma 24), wI tC 41 (fun _ => 0)), ((ma 25), wI tC 41 (fun _ => 0)), ((ma 26), wI tC 41 (fun _ => 0)), ((ma 27), wI tC 41 (fun _ => 0)), ((ma 28), wI tC 5 (fun _ => 0))]) (w1 := [(o, wL tC 1 u_10)]) hP hD [0, 1, 3, 7, 5, 6, 29] [2, 4, 8, 9, 10, 11, 12, 13, 14, 15, 16, 17, 18, 19, 20, 21, 22, 23, 24, 25, 26, 27, 28] rfl rfl (by decide) (by decide) hk1 hFc hP1 hD1
    generalize H1 = H at hP hS ⊢
    have hP : va_P D vwCl [(a2, wI tC 5 cb), (a4, wS tC 5 (fun _ => none)), (mo, .inr (6, [.int 0, .int 1, .ref (ma 2), .ref (ma 3), .ref (ma 4), .ref (ma 5), .ref (ma 6), .ref (ma 7), .ref (ma 8), .ref (ma 9), .ref (ma 10), .ref (ma 11), .ref (ma 12), .ref (ma 13), .ref (ma 14), .ref (ma 15), .ref (ma 16), .ref (ma 17), .ref (ma 18), .ref (ma 19), .ref (ma 20), .ref (ma 21), .int 0, .ref (ma 23), .ref (ma 24), .ref (ma 25), .ref (ma 26), .ref (ma 27), .ref (ma 28)])), ((ma 2), wI tC 600 (fun _ => 0)), ((ma 6), wI tC 600 zf), ((ma 7), wI tC 600 (fun _ => 0)), ((ma 8), wI tC 5 (fun _ => 0)), ((ma 9), wI tC 5 (fun _ => 0)), ((ma 10), wI tC 5 pf), ((ma 12), wZ tC 5 (fun _ => 0)), ((ma 13), wI tC 5 lf), ((ma 14), wI tC 5 op), ((ma 15), wI tC 5 (fun _ => 0)), ((ma 16), wI tC 5 (fun _ => 0)), ((ma 18), wI tC 5 (fun _ => 0)), ((ma 19), wI tC 25 (fun _ => 0)), ((ma 20), wZ tC 25 (fun _ => 0)), ((ma 23), wI tC 41 (fun _ => 0)), ((ma 24), wI tC 41 (fun _ => 0)), ((ma 25), wI tC 41 (fun _ => 0)), ((ma 26), wI tC 41 (fun _ => 0)), ((ma 27), wI tC 41 (fun _ => 0)), ((ma 28), wI tC 5 (fun _ => 0)), (o, wL tC 1 u_10)] H := hP
    have hD : va_D A [(a2, wI tC 5 cb), (a4, wS tC 5 (fun _ => none)), (mo, .inr (6, [.int 0, .int 1, .ref (ma 2), .ref (ma 3), .ref (ma 4), .ref (ma 5), .ref (ma 6), .ref (ma 7), .ref (ma 8), .ref (ma 9), .ref (ma 10), .ref (ma 11), .ref (ma 12), .ref (ma 13), .ref (ma 14), .ref (ma 15), .ref (ma 16), .ref (ma 17), .ref (ma 18), .ref (ma 19), .ref (ma 20), .ref (ma 21), .int 0, .ref (ma 23), .ref (ma 24), .ref (ma 25), .ref (ma 26), .ref (ma 27), .ref (ma 28)])), ((ma 2), wI tC 600 (fun _ => 0)), ((ma 6), wI tC 600 zf), ((ma 7), wI tC 600 (fun _ => 0)), ((ma 8), wI tC 5 (fun _ => 0)), ((ma 9), wI tC 5 (fun _ => 0)), ((ma 10), wI tC 5 pf), ((ma 12), wZ tC 5 (fun _ => 0)), ((ma 13), wI tC 5 lf), ((ma 14), wI tC 5 op), ((ma 15), wI tC 5 (fun _ => 0)), ((ma 16), wI tC 5 (fun _ => 0)), ((ma 18), wI tC 5 (fun _ => 0)), ((ma 19), wI tC 25 (fun _ => 0)), ((ma 20), wZ tC 25 (fun _ => 0)), ((ma 23), wI tC 41 (fun _ => 0)), ((ma 24), wI tC 41 (fun _ => 0)), ((ma 25), wI tC 41 (fun _ => 0)), ((ma 26), wI tC 41 (fun _ => 0)), ((ma 27), wI tC 41 (fun _ => 0)), ((ma 28), wI tC 5 (fun _ => 0)), (o, wL tC 1 u_10)] := hD
    refine W.widen (k := 50) (n := 4067) (by omega) (by omega) ?_
    refine lv_istore (lv' := [(5, .int r_9), (4, .int 0), (3, .ref o), (2, .ref mo), (1, .ref x), (0, .ref b)]) hx hb dL_law_264 hl (by decide) rfl (fun ls hl => ?_)
    refine lv_aload_n hx hb dL_law_266 rfl (lv_at hl 3 rfl) ?_
    refine lv_aload_n hx hb dL_law_267 rfl (lv_at hl 5 rfl) ?_
    refine lv_iload hx hb dL_law_268 (lv_at hl 1 rfl) ?_
    refine lv_iconst (v := 1) hx hb dL_law_270 (by decide) ?_
    refine lv_iadd hx hb dL_law_271 ?_
    refine lv_topi (fun z_12 ez_12 => ?_)
    have fz_12 : z_12 = 1 := ez_12.trans (by decide)
    subst fz_12
    refine va_sld hx hb hX hbl hbA hS (by unfold vp_in; decide) dL_law_272 ?_
    refine lv_topi (fun z_13 ez_13 => ?_)
    have fz_13 : z_13 = xs 1 := ez_13.trans (rfl)
    subst fz_13
    refine lv_aload_n hx hb dL_law_273 rfl (lv_at hl 5 rfl) ?_
    refine lv_iload hx hb dL_law_274 (lv_at hl 1 rfl) ?_
    refine lv_iconst (v := 2) hx hb dL_law_276 (by decide) ?_
    refine lv_iadd hx hb dL_law_277 ?_
    refine lv_topi (fun z_14 ez_14 => ?_)
    have fz_14 : z_14 = 2 := ez_14.trans (by decide)
    subst fz_14
    refine va_sld hx hb hX hbl hbA hS (by unfold vp_in; decide) dL_law_278 ?_
    refine lv_topi (fun z_15 ez_15 => ?_)
    have fz_15 : z_15 = xs 2 := ez_15.trans (rfl)
    subst fz_15
    refine lv_aload_n hx hb dL_law_279 rfl (lv_at hl 5 rfl) ?_
    refine lv_iload hx hb dL_law_280 (lv_at hl 1 rfl) ?_
    refine lv_iconst (v := 3) hx hb dL_law_282 (by decide) ?_
    refine lv_iadd hx hb dL_law_283 ?_
    refine lv_topi (fun z_16 ez_16 => ?_)
    have fz_16 : z_16 = 3 := ez_16.trans (by decide)
    subst fz_16
    refine va_sld hx hb hX hbl hbA hS (by unfold vp_in; decide) dL_law_284 ?_
    refine lv_topi (fun z_17 ez_17 => ?_)
    have fz_17 : z_17 = xs 3 := ez_17.trans (rfl)
    subst fz_17
    refine lv_aload_n hx hb dL_law_285 rfl (lv_at hl 5 rfl) ?_
    refine lv_iload hx hb dL_law_286 (lv_at hl 1 rfl) ?_
    refine lv_iconst (v := 4) hx hb dL_law_288 (by decide) ?_
    refine lv_iadd hx hb dL_law_289 ?_
    refine lv_topi (fun z_18 ez_18 => ?_)
    have fz_18 : z_18 = 4 := ez_18.trans (by decide)
    subst fz_18
    refine va_sld hx hb hX hbl hbA hS (by unfold vp_in; decide) dL_law_290 ?_
    refine lv_topi (fun z_19 ez_19 => ?_)
    have fz_19 : z_19 = xs 4 := ez_19.trans (rfl)
    subst fz_19
    have hPc := hP.sub (ws' := [(mo, .inr (6, [.int 0, .int 1, .ref (ma 2), .ref (ma 3), .ref (ma 4), .ref (ma 5), .ref (ma 6), .ref (ma 7), .ref (ma 8), .ref (ma 9), .ref (ma 10), .ref (ma 11), .ref (ma 12), .ref (ma 13), .ref (ma 14), .ref (ma 15), .ref (ma 16), .ref (ma 17), .ref (ma 18), .ref (ma 19), .ref (ma 20), .ref (ma 21), .int 0, .ref (ma 23), .ref (ma 24), .ref (ma 25), .ref (ma 26), .ref (ma 27), .ref (ma 28)])), ((ma 12), wZ tC 5 (fun _ => 0)), ((ma 13), wI tC 5 lf), ((ma 10), wI tC 5 pf), ((ma 2), wI tC 600 (fun _ => 0)), ((ma 8), wI tC 5 (fun _ => 0)), ((ma 9), wI tC 5 (fun _ => 0)), ((ma 14), wI tC 5 op), ((ma 15), wI tC 5 (fun _ => 0)), ((ma 16), wI tC 5 (fun _ => 0)), ((ma 18), wI tC 5 (fun _ => 0)), ((ma 19), wI tC 25 (fun _ => 0)), ((ma 23), wI tC 41 (fun _ => 0)), ((ma 24), wI tC 41 (fun _ => 0)), ((ma 25), wI tC 41 (fun _ => 0)), ((ma 26), wI tC 41 (fun _ => 0)), ((ma 27), wI tC 41 (fun _ => 0))]) [2, 9, 10, 8, 3, 6, 7, 11, 12, 13, 14, 15, 17, 18, 19, 20, 21] rfl
    have hDc := hD.sub (ws' := [(mo, .inr (6, [.int 0, .int 1, .ref (ma 2), .ref (ma 3), .ref (ma 4), .ref (ma 5), .ref (ma 6), .ref (ma 7), .ref (ma 8), .ref (ma 9), .ref (ma 10), .ref (ma 11), .ref (ma 12), .ref (ma 13), .ref (ma 14), .ref (ma 15), .ref (ma 16), .ref (ma 17), .ref (ma 18), .ref (ma 19), .ref (ma 20), .ref (ma 21), .int 0, .ref (ma 23), .ref (ma 24), .ref (ma 25), .ref (ma 26), .ref (ma 27), .ref (ma 28)])), ((ma 12), wZ tC 5 (fun _ => 0)), ((ma 13), wI tC 5 lf), ((ma 10), wI tC 5 pf), ((ma 2), wI tC 600 (fun _ => 0)), ((ma 8), wI tC 5 (fun _ => 0)), ((ma 9), wI tC 5 (fun _ => 0)), ((ma 14), wI tC 5 op), ((ma 15), wI tC 5 (fun _ => 0)), ((ma 16), wI tC 5 (fun _ => 0)), ((ma 18), wI tC 5 (fun _ => 0)), ((ma 19), wI tC 25 (fun _ => 0)), ((ma 23), wI tC 41 (fun _ => 0)), ((ma 24), wI tC 41 (fun _ => 0)), ((ma 25), wI tC 41 (fun _ => 0)), ((ma 26), wI tC 41 (fun _ => 0)), ((ma 27), wI tC 41 (fun _ => 0))]) [2, 9, 10, 8, 3, 6, 7, 11, 12, 13, 14, 15, 17, 18, 19, 20, 21] (by decide) rfl
    have hFc := va_free (wc := [(mo, .inr (6, [.int 0, .int 1, .ref (ma 2), .ref (ma 3), .ref (ma 4), .ref (ma 5), .ref (ma 6), .ref (ma 7), .ref (ma 8), .ref (ma 9), .ref (ma 10), .ref (ma 11), .ref (ma 12), .ref (ma 13), .ref (ma 14), .ref (ma 15), .ref (ma 16), .ref (ma 17), .ref (ma 18), .ref (ma 19), .ref (ma 20), .ref (ma 21), .int 0, .ref (ma 23), .ref (ma 24), .ref (ma 25), .ref (ma 26), .ref (ma 27), .ref (ma 28)])), ((ma 12), wZ tC 5 (fun _ => 0)), ((ma 13), wI tC 5 lf), ((ma 10), wI tC 5 pf), ((ma 2), wI tC 600 (fun _ => 0)), ((ma 8), wI tC 5 (fun _ => 0)), ((ma 9), wI tC 5 (fun _ => 0)), ((ma 14), wI tC 5 op), ((ma 15), wI tC 5 (fun _ => 0)), ((ma 16), wI tC 5 (fun _ => 0)), ((ma 18), wI tC 5 (fun _ => 0)), ((ma 19), wI tC 25 (fun _ => 0)), ((ma 23), wI tC 41 (fun _ => 0)), ((ma 24), wI tC 41 (fun _ => 0)), ((ma 25), wI tC 41 (fun _ => 0)), ((ma 26), wI tC 41 (fun _ => 0)), ((ma 27), wI tC 41 (fun _ => 0))]) hD hS hA [2, 9, 10, 8, 3, 6, 7, 11, 12, 13, 14, 15, 17, 18, 19, 20, 21] rfl
    refine va_calli (va_runV (As := [.int (xs 1), .int (xs 2), .int (xs 3), .int (xs 4)]) (rest := []) ⟨hx, hb, hml, hown, hts⟩ (c_X5_write l hlt D tC dz H.size mo ma 0 pf lf op (xs 1) (xs 2) (xs 3) (xs 4) hpf hlf hop) (cwV 4 hts gL_law_X5_write rfl rfl rfl (by decide +kernel) ⟨Nat.le_of_ble_eq_true rfl, Nat.le_of_ble_eq_true rfl⟩) ⟨pB_blind, va_recv hK hPc (ci := 6) (q0 := 0) rfl rfl, pB_at hPc hDc hK hN hE hS hFc⟩ rfl rfl hl.1 rfl (lv_room (Nat.le_of_ble_eq_true rfl)) dL_law_291 ⟨Nat.le_of_ble_eq_true rfl, Nat.le_of_ble_eq_true rfl⟩) hS (fun q _ h => hFc q h) hFc (fun r_20 u t H1 locs ht hvm hw hB hz1 hk1 hS => ?_)
    obtain ⟨u_21, rfl⟩ : ∃ z9, z9 = u := ⟨_, rfl⟩
    obtain ⟨l9_22, hP1, _, hD1⟩ := hB
    have hw_23 := hw
    rw [ht] at hP1
    obtain ⟨hP, hD⟩ := va_join (wr := [(a2, wI tC 5 cb), (a4, wS tC 5 (fun _ => none)), ((ma 6), wI tC 600 zf), ((ma 7), wI tC 600 (fun _ => 0)), ((ma 20), wZ tC 25 (fun _ => 0)), ((ma 28), wI tC 5 (fun _ => 0)), (o, wL tC 1 u_10)]) (w1 := [(mo, .inr (6, [.int u_21, .int 1, .ref (ma 2), .ref (ma 3), .ref (ma 4), .ref (ma 5), .ref (ma 6), .ref (ma 7), .ref (ma 8), .ref (ma 9), .ref (ma 10), .ref (ma 11), .ref (ma 12), .ref (ma 13), .ref (ma 14), .ref (ma 15), .ref (ma 16), .ref (ma 17), .ref (ma 18), .ref (ma 19), .ref (ma 20), .ref (ma 21), .int l9_22, .ref (ma 23), .ref (ma 24), .ref (ma 25), .ref (ma 26), .ref (ma 27), .ref (ma 28)]))]) hP hD [2, 9, 10, 8, 3, 6, 7, 11, 12, 13, 14, 15, 17, 18, 19, 20, 21] [0, 1, 4, 5, 16, 22, 23] rfl rfl (by decide) (by decide) hk1 hFc hP1 hD1
    generalize H1 = H at hP hS ⊢
    have hP : va_P D vwCl [(a2, wI tC 5 cb), (a4, wS tC 5 (fun _ => none)), ((ma 6), wI tC 600 zf), ((ma 7), wI tC 600 (fun _ => 0)), ((ma 20), wZ tC 25 (fun _ => 0)), ((ma 28), wI tC 5 (fun _ => 0)), (o, wL tC 1 u_10), (mo, .inr (6, [.int u_21, .int 1, .ref (ma 2), .ref (ma 3), .ref (ma 4), .ref (ma 5), .ref (ma 6), .ref (ma 7), .ref (ma 8), .ref (ma 9), .ref (ma 10), .ref (ma 11), .ref (ma 12), .ref (ma 13), .ref (ma 14), .ref (ma 15), .ref (ma 16), .ref (ma 17), .ref (ma 18), .ref (ma 19), .ref (ma 20), .ref (ma 21), .int l9_22, .ref (ma 23), .ref (ma 24), .ref (ma 25), .ref (ma 26), .ref (ma 27), .ref (ma 28)]))] H := hP
    have hD : va_D A [(a2, wI tC 5 cb), (a4, wS tC 5 (fun _ => none)), ((ma 6), wI tC 600 zf), ((ma 7), wI tC 600 (fun _ => 0)), ((ma 20), wZ tC 25 (fun _ => 0)), ((ma 28), wI tC 5 (fun _ => 0)), (o, wL tC 1 u_10), (mo, .inr (6, [.int u_21, .int 1, .ref (ma 2), .ref (ma 3), .ref (ma 4), .ref (ma 5), .ref (ma 6), .ref (ma 7), .ref (ma 8), .ref (ma 9), .ref (ma 10), .ref (ma 11), .ref (ma 12), .ref (ma 13), .ref (ma 14), .ref (ma 15), .ref (ma 16), .ref (ma 17), .ref (ma 18), .ref (ma 19), .ref (ma 20), .ref (ma 21), .int l9_22, .ref (ma 23), .ref (ma 24), .ref (ma 25), .ref (ma 26), .ref (ma 27), .ref (ma 28)]))] := hD
    refine lv_istore (lv' := [(6, .int r_20), (5, .int r_9), (4, .int 0), (3, .ref o), (2, .ref mo), (1, .ref x), (0, .ref b)]) hx hb dL_law_294 hl (by decide) rfl (fun ls hl => ?_)
    refine lv_aload_n hx hb dL_law_296 rfl (lv_at hl 4 rfl) ?_
    have hPc := hP.sub (ws' := [(mo, .inr (6, [.int u_21, .int 1, .ref (ma 2), .ref (ma 3), .ref (ma 4), .ref (ma 5), .ref (ma 6), .ref (ma 7), .ref (ma 8), .ref (ma 9), .ref (ma 10), .ref (ma 11), .ref (ma 12), .ref (ma 13), .ref (ma 14), .ref (ma 15), .ref (ma 16), .ref (ma 17), .ref (ma 18), .ref (ma 19), .ref (ma 20), .ref (ma 21), .int l9_22, .ref (ma 23), .ref (ma 24), .ref (ma 25), .ref (ma 26), .ref (ma 27), .ref (ma 28)]))]) [7] rfl
    have hDc := hD.sub (ws' := [(mo, .inr (6, [.int u_21, .int 1, .ref (ma 2), .ref (ma 3), .ref (ma 4), .ref (ma 5), .ref (ma 6), .ref (ma 7), .ref (ma 8), .ref (ma 9), .ref (ma 10), .ref (ma 11), .ref (ma 12), .ref (ma 13), .ref (ma 14), .ref (ma 15), .ref (ma 16), .ref (ma 17), .ref (ma 18), .ref (ma 19), .ref (ma 20), .ref (ma 21), .int l9_22, .ref (ma 23), .ref (ma 24), .ref (ma 25), .ref (ma 26), .ref (ma 27), .ref (ma 28)]))]) [7] (by decide) rfl
    have hFc := va_free (wc := [(mo, .inr (6, [.int u_21, .int 1, .ref (ma 2), .ref (ma 3), .ref (ma 4), .ref (ma 5), .ref (ma 6), .ref (ma 7), .ref (ma 8), .ref (ma 9), .ref (ma 10), .ref (ma 11), .ref (ma 12), .ref (ma 13), .ref (ma 14), .ref (ma 15), .ref (ma 16), .ref (ma 17), .ref (ma 18), .ref (ma 19), .ref (ma 20), .ref (ma 21), .int l9_22, .ref (ma 23), .ref (ma 24), .ref (ma 25), .ref (ma 26), .ref (ma 27), .ref (ma 28)]))]) hD hS hA [7] rfl
    refine va_calli (va_runV (As := []) (rest := []) ⟨hx, hb, hml, hown, hts⟩ (c_X5_thrown l hlt D tC dz H.size mo ma u_21 l9_22 ) (cwV 0 hts gL_law_X5_thrown rfl rfl rfl (by decide +kernel) ⟨Nat.le_of_ble_eq_true rfl, Nat.le_of_ble_eq_true rfl⟩) ⟨pB_blind, va_recv hK hPc (ci := 6) (q0 := 0) rfl rfl, pB_at hPc hDc hK hN hE hS hFc⟩ rfl rfl hl.1 rfl (lv_room (Nat.le_of_ble_eq_true rfl)) dL_law_297 ⟨Nat.le_of_ble_eq_true rfl, Nat.le_of_ble_eq_true rfl⟩) hS (fun q _ h => hFc q h) hFc (fun r_24 u t H1 locs ht hvm hw hB hz1 hk1 hS => ?_)
    obtain ⟨hP1, _, hD1⟩ := hB
    have hw_25 := hw
    rw [ht] at hP1
    obtain ⟨hP, hD⟩ := va_join (wr := [(a2, wI tC 5 cb), (a4, wS tC 5 (fun _ => none)), ((ma 6), wI tC 600 zf), ((ma 7), wI tC 600 (fun _ => 0)), ((ma 20), wZ tC 25 (fun _ => 0)), ((ma 28), wI tC 5 (fun _ => 0)), (o, wL tC 1 u_10)]) (w1 := [(mo, .inr (6, [.int u_21, .int 1, .ref (ma 2), .ref (ma 3), .ref (ma 4), .ref (ma 5), .ref (ma 6), .ref (ma 7), .ref (ma 8), .ref (ma 9), .ref (ma 10), .ref (ma 11), .ref (ma 12), .ref (ma 13), .ref (ma 14), .ref (ma 15), .ref (ma 16), .ref (ma 17), .ref (ma 18), .ref (ma 19), .ref (ma 20), .ref (ma 21), .int l9_22, .ref (ma 23), .ref (ma 24), .ref (ma 25), .ref (ma 26), .ref (ma 27), .ref (ma 28)]))]) hP hD [7] [0, 1, 2, 3, 4, 5, 6] rfl rfl (by decide) (by decide) hk1 hFc hP1 hD1
    generalize H1 = H at hP hS ⊢
    have hP : va_P D vwCl [(a2, wI tC 5 cb), (a4, wS tC 5 (fun _ => none)), ((ma 6), wI tC 600 zf), ((ma 7), wI tC 600 (fun _ => 0)), ((ma 20), wZ tC 25 (fun _ => 0)), ((ma 28), wI tC 5 (fun _ => 0)), (o, wL tC 1 u_10), (mo, .inr (6, [.int u_21, .int 1, .ref (ma 2), .ref (ma 3), .ref (ma 4), .ref (ma 5), .ref (ma 6), .ref (ma 7), .ref (ma 8), .ref (ma 9), .ref (ma 10), .ref (ma 11), .ref (ma 12), .ref (ma 13), .ref (ma 14), .ref (ma 15), .ref (ma 16), .ref (ma 17), .ref (ma 18), .ref (ma 19), .ref (ma 20), .ref (ma 21), .int l9_22, .ref (ma 23), .ref (ma 24), .ref (ma 25), .ref (ma 26), .ref (ma 27), .ref (ma 28)]))] H := hP
    have hD : va_D A [(a2, wI tC 5 cb), (a4, wS tC 5 (fun _ => none)), ((ma 6), wI tC 600 zf), ((ma 7), wI tC 600 (fun _ => 0)), ((ma 20), wZ tC 25 (fun _ => 0)), ((ma 28), wI tC 5 (fun _ => 0)), (o, wL tC 1 u_10), (mo, .inr (6, [.int u_21, .int 1, .ref (ma 2), .ref (ma 3), .ref (ma 4), .ref (ma 5), .ref (ma 6), .ref (ma 7), .ref (ma 8), .ref (ma 9), .ref (ma 10), .ref (ma 11), .ref (ma 12), .ref (ma 13), .ref (ma 14), .ref (ma 15), .ref (ma 16), .ref (ma 17), .ref (ma 18), .ref (ma 19), .ref (ma 20), .ref (ma 21), .int l9_22, .ref (ma 23), .ref (ma 24), .ref (ma 25), .ref (ma 26), .ref (ma 27), .ref (ma 28)]))] := hD
    refine lv_iload hx hb dL_law_300 (lv_at hl 1 rfl) ?_
    refine lv_icmp_eq (tgt := 307) hx hb dL_law_302 (by decide) (fun _ => ?_) (fun hc => absurd (hw_25.trans (hw_23.1.trans hw_11.1.symm)) hc)
    refine lv_iload hx hb dL_law_307 (lv_at hl 1 rfl) ?_
    refine lv_if_ne (tgt := 324) hx hb dL_law_309 (by decide) (fun c_26 => ?_) (fun c_26 => ?_)
    · skip
      refine lv_goto (tgt := 1332) hx hb dL_law_324 (by decide) ?_
      exact lw_tail C1 hAe hS (lv_sub hl [2, 6] rfl) (by decide) (by decide)
    · skip
      refine lv_aload_n hx hb dL_law_312 rfl (lv_at hl 3 rfl) ?_
      refine lv_iconst (v := 0) hx hb dL_law_313 (by decide) ?_
      refine va_lald hx hb hK hP 6 5 rfl rfl (by unfold vp_in; decide) dL_law_314 ?_
      rw [show (0 : Int32).toNatClampNeg = 0 by decide]
      refine lv_iload hx hb dL_law_315 (lv_at hl 0 rfl) ?_
      refine lv_i2l (v := r_20.toInt64) hx hb dL_law_317 rfl ?_
      refine W.lcmp hx hb dL_law_318 ?_
      refine lv_topi (fun z_27 ez_27 => ?_)
      have fz_27 : z_27 = 0 := ez_27.trans (lgc ((hw_11.2 c_26).trans (by have q := (hw_23.2 (hw_23.1.trans (hw_11.1.symm.trans c_26))); subst q; first | rfl | decide)))
      subst fz_27
      refine lv_if_eq (tgt := 324) hx hb dL_law_319 (by decide) (fun _ => ?_) (fun hc => absurd (by decide) hc)
      refine lv_goto (tgt := 1332) hx hb dL_law_324 (by decide) ?_
      exact lw_tail C1 hAe hS (lv_sub hl [2, 6] rfl) (by decide) (by decide)
set_option maxHeartbeats 8000000 in
set_option maxRecDepth 100000 in
theorem lc_2 {p : Program} {l : Launch} {e : Env} {s : State} {m : MethodId} {below : List Frame} {meth : Method} {c : Code} {b : Nat} {xs : Nat → Int32} (hlt : l.stackTraces = false) (C0 : lw_At p s m meth c b 5 xs) (D : va_G) (tC : Nat → ClassId) (dz x a1 a2 a3 a4 f e1 e2 : Nat) (qs : Nat → Nat) (fs : Nat → Option Nat) (cb : Nat → Int32) (mo : Nat) (ma : Nat → Nat) (pf lf op zf : Nat → Int32) (o : Nat) (hfs : ∀ i : Nat, i < 5 → fs i = some (qs i)) (hcb : ∀ i : Nat, i < 5 → cb i = cbv i) (hpf : ∀ i : Nat, i < 5 → pf i = -1) (hlf : ∀ i : Nat, i < 5 → lf i = -1) (hop : ∀ i : Nat, i < 5 → op i = -1) (hzf : zf 0 = 5) (hK : va_K D vwCl (tY tC) s) (hN : eN s) (hE : eH dz (fun q : Nat => s.heap.size ≤ q) s s.heap) (H : Heap) (locs : List Loc) (hP : va_P D vwCl [(x, .inr (5, [.ref a1, .ref a2, .ref a3, .ref a4])), (a1, wT tC 5 fs), (a2, wI tC 5 cb), (a3, .inr (0, [.int 0, .ref dz, .int 0])), (a4, wS tC 5 (fun _ => none)), (f, .inr (3, [.ref e1, .ref e2, .int 5, .int 0])), (e1, wI tC 0 (fun _ => 0)), ((qs 0), .inr (4, [.int 0, .int 1, .ref f, .int 0, .int (-1), .null, .int (-1), .null])), ((qs 1), .inr (4, [.int 1, .int 1, .ref f, .int 0, .int (-1), .null, .int (-1), .null])), ((qs 2), .inr (4, [.int 2, .int 1, .ref f, .int 0, .int (-1), .null, .int (-1), .null])), ((qs 3), .inr (4, [.int 3, .int 1, .ref f, .int 0, .int (-1), .null, .int (-1), .null])), ((qs 4), .inr (4, [.int 4, .int 1, .ref f, .int 0, .int (-1), .null, .int (-1), .null])), (mo, .inr (6, [.int 0, .int 1, .ref (ma 2), .ref (ma 3), .ref (ma 4), .ref (ma 5), .ref (ma 6), .ref (ma 7), .ref (ma 8), .ref (ma 9), .ref (ma 10), .ref (ma 11), .ref (ma 12), .ref (ma 13), .ref (ma 14), .ref (ma 15), .ref (ma 16), .ref (ma 17), .ref (ma 18), .ref (ma 19), .ref (ma 20), .ref (ma 21), .int 0, .ref (ma 23), .ref (ma 24), .ref (ma 25), .ref (ma 26), .ref (ma 27), .ref (ma 28)])), ((ma 2), wI tC 600 (fun _ => 0)), ((ma 6), wI tC 600 zf), ((ma 7), wI tC 600 (fun _ => 0)), ((ma 8), wI tC 5 (fun _ => 0)), ((ma 9), wI tC 5 (fun _ => 0)), ((ma 10), wI tC 5 pf), ((ma 12), wZ tC 5 (fun _ => 0)), ((ma 13), wI tC 5 lf), ((ma 14), wI tC 5 op), ((ma 15), wI tC 5 (fun _ => 0)), ((ma 16), wI tC 5 (fun _ => 0)), ((ma 18), wI tC 5 (fun _ => 0)), ((ma 19), wI tC 25 (fun _ => 0)), ((ma 20), wZ tC 25 (fun _ => 0)), ((ma 23), wI tC 41 (fun _ => 0)), ((ma 24), wI tC 41 (fun _ => 0)), ((ma 25), wI tC 41 (fun _ => 0)), ((ma 26), wI tC 41 (fun _ => 0)), ((ma 27), wI tC 41 (fun _ => 0)), ((ma 28), wI tC 5 (fun _ => 0)), (o, wL tC 1 (fun _ => 0))] H) (hD : va_D (fun q : Nat => s.heap.size ≤ q) [(x, .inr (5, [.ref a1, .ref a2, .ref a3, .ref a4])), (a1, wT tC 5 fs), (a2, wI tC 5 cb), (a3, .inr (0, [.int 0, .ref dz, .int 0])), (a4, wS tC 5 (fun _ => none)), (f, .inr (3, [.ref e1, .ref e2, .int 5, .int 0])), (e1, wI tC 0 (fun _ => 0)), ((qs 0), .inr (4, [.int 0, .int 1, .ref f, .int 0, .int (-1), .null, .int (-1), .null])), ((qs 1), .inr (4, [.int 1, .int 1, .ref f, .int 0, .int (-1), .null, .int (-1), .null])), ((qs 2), .inr (4, [.int 2, .int 1, .ref f, .int 0, .int (-1), .null, .int (-1), .null])), ((qs 3), .inr (4, [.int 3, .int 1, .ref f, .int 0, .int (-1), .null, .int (-1), .null])), ((qs 4), .inr (4, [.int 4, .int 1, .ref f, .int 0, .int (-1), .null, .int (-1), .null])), (mo, .inr (6, [.int 0, .int 1, .ref (ma 2), .ref (ma 3), .ref (ma 4), .ref (ma 5), .ref (ma 6), .ref (ma 7), .ref (ma 8), .ref (ma 9), .ref (ma 10), .ref (ma 11), .ref (ma 12), .ref (ma 13), .ref (ma 14), .ref (ma 15), .ref (ma 16), .ref (ma 17), .ref (ma 18), .ref (ma 19), .ref (ma 20), .ref (ma 21), .int 0, .ref (ma 23), .ref (ma 24), .ref (ma 25), .ref (ma 26), .ref (ma 27), .ref (ma 28)])), ((ma 2), wI tC 600 (fun _ => 0)), ((ma 6), wI tC 600 zf), ((ma 7), wI tC 600 (fun _ => 0)), ((ma 8), wI tC 5 (fun _ => 0)), ((ma 9), wI tC 5 (fun _ => 0)), ((ma 10), wI tC 5 pf), ((ma 12), wZ tC 5 (fun _ => 0)), ((ma 13), wI tC 5 lf), ((ma 14), wI tC 5 op), ((ma 15), wI tC 5 (fun _ => 0)), ((ma 16), wI tC 5 (fun _ => 0)), ((ma 18), wI tC 5 (fun _ => 0)), ((ma 19), wI tC 25 (fun _ => 0)), ((ma 20), wZ tC 25 (fun _ => 0)), ((ma 23), wI tC 41 (fun _ => 0)), ((ma 24), wI tC 41 (fun _ => 0)), ((ma 25), wI tC 41 (fun _ => 0)), ((ma 26), wI tC 41 (fun _ => 0)), ((ma 27), wI tC 41 (fun _ => 0)), ((ma 28), wI tC 5 (fun _ => 0)), (o, wL tC 1 (fun _ => 0))]) (hS : va_S (fun q : Nat => s.heap.size ≤ q) s.heap H locs) (ls : Array Slot) (hl : lv_has ls 7 [(4, .int 0), (3, .ref o), (2, .ref mo), (1, .ref x), (0, .ref b)]) : W p l e room_1 s m #[Value.ref b] below meth c H locs 41 4016 (lw_Z below #[Value.ref b] s) (F0 m 327 ls []) := by
  have C1 := C0
  obtain ⟨hx, hb, hr, hml, hown, hts0, hX, hbl, hlocks, hgv⟩ := C0
  have hts : ∀ w ∈ wsL_law, w.before #[Value.ref b] s = true := fun w h => hts0 w (wsL_law_in w h)
  have hown : s.vm.findClass RL = some m.cls := hown
  obtain ⟨A, hAe⟩ : ∃ A : Nat → Prop, A = fun q : Nat => s.heap.size ≤ q := ⟨_, rfl⟩
  rw [← hAe] at hE hD hS
  have hA : ∀ q : Nat, s.heap.size ≤ q → A q := fun q h => by rw [hAe]; exact h
  have hbA : ¬ A b := by rw [hAe]; exact Nat.not_le.mpr hbl
  obtain ⟨j, hj, hjp⟩ := pick5 (xs 1)
  have hP : va_P D vwCl [(x, .inr (5, [.ref a1, .ref a2, .ref a3, .ref a4])), (a1, wT tC 5 fs), (a2, wI tC 5 cb), (a3, .inr (0, [.int 0, .ref dz, .int 0])), (a4, wS tC 5 (fun _ => none)), (f, .inr (3, [.ref e1, .ref e2, .int 5, .int 0])), (e1, wI tC 0 (fun _ => 0)), ((qs j), .inr (4, [.int (nI j), .int 1, .ref f, .int 0, .int (-1), .null, .int (-1), .null])), (mo, .inr (6, [.int 0, .int 1, .ref (ma 2), .ref (ma 3), .ref (ma 4), .ref (ma 5), .ref (ma 6), .ref (ma 7), .ref (ma 8), .ref (ma 9), .ref (ma 10), .ref (ma 11), .ref (ma 12), .ref (ma 13), .ref (ma 14), .ref (ma 15), .ref (ma 16), .ref (ma 17), .ref (ma 18), .ref (ma 19), .ref (ma 20), .ref (ma 21), .int 0, .ref (ma 23), .ref (ma 24), .ref (ma 25), .ref (ma 26), .ref (ma 27), .ref (ma 28)])), ((ma 2), wI tC 600 (fun _ => 0)), ((ma 6), wI tC 600 zf), ((ma 7), wI tC 600 (fun _ => 0)), ((ma 8), wI tC 5 (fun _ => 0)), ((ma 9), wI tC 5 (fun _ => 0)), ((ma 10), wI tC 5 pf), ((ma 12), wZ tC 5 (fun _ => 0)), ((ma 13), wI tC 5 lf), ((ma 14), wI tC 5 op), ((ma 15), wI tC 5 (fun _ => 0)), ((ma 16), wI tC 5 (fun _ => 0)), ((ma 18), wI tC 5 (fun _ => 0)), ((ma 19), wI tC 25 (fun _ => 0)), ((ma 20), wZ tC 25 (fun _ => 0)), ((ma 23), wI tC 41 (fun _ => 0)), ((ma 24), wI tC 41 (fun _ => 0)), ((ma 25), wI tC 41 (fun _ => 0)), ((ma 26), wI tC 41 (fun _ => 0)), ((ma 27), wI tC 41 (fun _ => 0)), ((ma 28), wI tC 5 (fun _ => 0)), (o, wL tC 1 (fun _ => 0))] H := by
    rcases (show j = 0 ∨ j = 1 ∨ j = 2 ∨ j = 3 ∨ j = 4 by omega) with rfl | rfl | rfl | rfl | rfl
    · exact hP.sub [0, 1, 2, 3, 4, 5, 6, 7, 12, 13, 14, 15, 16, 17, 18, 19, 20, 21, 22, 23, 24, 25, 26, 27, 28, 29, 30, 31, 32, 33] rfl
    · exact hP.sub [0, 1, 2, 3, 4, 5, 6, 8, 12, 13, 14, 15, 16, 17, 18, 19, 20, 21, 22, 23, 24, 25, 26, 27, 28, 29, 30, 31, 32, 33] rfl
    · exact hP.sub [0, 1, 2, 3, 4, 5, 6, 9, 12, 13, 14, 15, 16, 17, 18, 19, 20, 21, 22, 23, 24, 25, 26, 27, 28, 29, 30, 31, 32, 33] rfl
    · exact hP.sub [0, 1, 2, 3, 4, 5, 6, 10, 12, 13, 14, 15, 16, 17, 18, 19, 20, 21, 22, 23, 24, 25, 26, 27, 28, 29, 30, 31, 32, 33] rfl
    · exact hP.sub [0, 1, 2, 3, 4, 5, 6, 11, 12, 13, 14, 15, 16, 17, 18, 19, 20, 21, 22, 23, 24, 25, 26, 27, 28, 29, 30, 31, 32, 33] rfl
  have hD : va_D A [(x, .inr (5, [.ref a1, .ref a2, .ref a3, .ref a4])), (a1, wT tC 5 fs), (a2, wI tC 5 cb), (a3, .inr (0, [.int 0, .ref dz, .int 0])), (a4, wS tC 5 (fun _ => none)), (f, .inr (3, [.ref e1, .ref e2, .int 5, .int 0])), (e1, wI tC 0 (fun _ => 0)), ((qs j), .inr (4, [.int (nI j), .int 1, .ref f, .int 0, .int (-1), .null, .int (-1), .null])), (mo, .inr (6, [.int 0, .int 1, .ref (ma 2), .ref (ma 3), .ref (ma 4), .ref (ma 5), .ref (ma 6), .ref (ma 7), .ref (ma 8), .ref (ma 9), .ref (ma 10), .ref (ma 11), .ref (ma 12), .ref (ma 13), .ref (ma 14), .ref (ma 15), .ref (ma 16), .ref (ma 17), .ref (ma 18), .ref (ma 19), .ref (ma 20), .ref (ma 21), .int 0, .ref (ma 23), .ref (ma 24), .ref (ma 25), .ref (ma 26), .ref (ma 27), .ref (ma 28)])), ((ma 2), wI tC 600 (fun _ => 0)), ((ma 6), wI tC 600 zf), ((ma 7), wI tC 600 (fun _ => 0)), ((ma 8), wI tC 5 (fun _ => 0)), ((ma 9), wI tC 5 (fun _ => 0)), ((ma 10), wI tC 5 pf), ((ma 12), wZ tC 5 (fun _ => 0)), ((ma 13), wI tC 5 lf), ((ma 14), wI tC 5 op), ((ma 15), wI tC 5 (fun _ => 0)), ((ma 16), wI tC 5 (fun _ => 0)), ((ma 18), wI tC 5 (fun _ => 0)), ((ma 19), wI tC 25 (fun _ => 0)), ((ma 20), wZ tC 25 (fun _ => 0)), ((ma 23), wI tC 41 (fun _ => 0)), ((ma 24), wI tC 41 (fun _ => 0)), ((ma 25), wI tC 41 (fun _ => 0)), ((ma 26), wI tC 41 (fun _ => 0)), ((ma 27), wI tC 41 (fun _ => 0)), ((ma 28), wI tC 5 (fun _ => 0)), (o, wL tC 1 (fun _ => 0))] := by
    rcases (show j = 0 ∨ j = 1 ∨ j = 2 ∨ j = 3 ∨ j = 4 by omega) with rfl | rfl | rfl | rfl | rfl
    · exact hD.sub [0, 1, 2, 3, 4, 5, 6, 7, 12, 13, 14, 15, 16, 17, 18, 19, 20, 21, 22, 23, 24, 25, 26, 27, 28, 29, 30, 31, 32, 33] (by decide) rfl
    · exact hD.sub [0, 1, 2, 3, 4, 5, 6, 8, 12, 13, 14, 15, 16, 17, 18, 19, 20, 21, 22, 23, 24, 25, 26, 27, 28, 29, 30, 31, 32, 33] (by decide) rfl
    · exact hD.sub [0, 1, 2, 3, 4, 5, 6, 9, 12, 13, 14, 15, 16, 17, 18, 19, 20, 21, 22, 23, 24, 25, 26, 27, 28, 29, 30, 31, 32, 33] (by decide) rfl
    · exact hD.sub [0, 1, 2, 3, 4, 5, 6, 10, 12, 13, 14, 15, 16, 17, 18, 19, 20, 21, 22, 23, 24, 25, 26, 27, 28, 29, 30, 31, 32, 33] (by decide) rfl
    · exact hD.sub [0, 1, 2, 3, 4, 5, 6, 11, 12, 13, 14, 15, 16, 17, 18, 19, 20, 21, 22, 23, 24, 25, 26, 27, 28, 29, 30, 31, 32, 33] (by decide) rfl
  refine lv_aload_n hx hb dL_law_327 rfl (lv_at hl 3 rfl) ?_
  refine lv_aload_n hx hb dL_law_328 rfl (lv_at hl 4 rfl) ?_
  refine lv_iload hx hb dL_law_329 (lv_at hl 0 rfl) ?_
  refine lv_iconst (v := 1) hx hb dL_law_331 (by decide) ?_
  refine lv_iadd hx hb dL_law_332 ?_
  refine lv_topi (fun z_1 ez_1 => ?_)
  have fz_1 : z_1 = 1 := ez_1.trans (by decide)
  subst fz_1
  refine va_sld hx hb hX hbl hbA hS (by unfold vp_in; decide) dL_law_333 ?_
  refine lv_topi (fun z_2 ez_2 => ?_)
  have fz_2 : z_2 = xs 1 := ez_2.trans (rfl)
  subst fz_2
  refine lv_aload_n hx hb dL_law_334 rfl (lv_at hl 4 rfl) ?_
  refine lv_iload hx hb dL_law_335 (lv_at hl 0 rfl) ?_
  refine lv_iconst (v := 2) hx hb dL_law_337 (by decide) ?_
  refine lv_iadd hx hb dL_law_338 ?_
  refine lv_topi (fun z_3 ez_3 => ?_)
  have fz_3 : z_3 = 2 := ez_3.trans (by decide)
  subst fz_3
  refine va_sld hx hb hX hbl hbA hS (by unfold vp_in; decide) dL_law_339 ?_
  refine lv_topi (fun z_4 ez_4 => ?_)
  have fz_4 : z_4 = xs 2 := ez_4.trans (rfl)
  subst fz_4
  refine lv_aload_n hx hb dL_law_340 rfl (lv_at hl 1 rfl) ?_
  have hPc := hP.sub (ws' := [(x, .inr (5, [.ref a1, .ref a2, .ref a3, .ref a4])), (a1, wT tC 5 fs), ((qs j), .inr (4, [.int (nI j), .int 1, .ref f, .int 0, .int (-1), .null, .int (-1), .null])), (f, .inr (3, [.ref e1, .ref e2, .int 5, .int 0])), (e1, wI tC 0 (fun _ => 0)), (o, wL tC 1 (fun _ => 0))]) [0, 1, 7, 5, 6, 29] rfl
  have hDc := hD.sub (ws' := [(x, .inr (5, [.ref a1, .ref a2, .ref a3, .ref a4])), (a1, wT tC 5 fs), ((qs j), .inr (4, [.int (nI j), .int 1, .ref f, .int 0, .int (-1), .null, .int (-1), .null])), (f, .inr (3, [.ref e1, .ref e2, .int 5, .int 0])), (e1, wI tC 0 (fun _ => 0)), (o, wL tC 1 (fun _ => 0))]) [0, 1, 7, 5, 6, 29] (by decide) rfl
  have hFc := va_free (wc := [(x, .inr (5, [.ref a1, .ref a2, .ref a3, .ref a4])), (a1, wT tC 5 fs), ((qs j), .inr (4, [.int (nI j), .int 1, .ref f, .int 0, .int (-1), .null, .int (-1), .null])), (f, .inr (3, [.ref e1, .ref e2, .int 5, .int 0])), (e1, wI tC 0 (fun _ => 0)), (o, wL tC 1 (fun _ => 0))]) hD hS hA [0, 1, 7, 5, 6, 29] rfl
  refine vx_calli (vx_runSX (As := [.ref x, .int (xs 1), .int (xs 2), .ref o]) (rest := []) ⟨hx, hb, hml, hown, hts⟩ (c_L_withdraw l hlt D tC dz H.size x a1 a2 a3 a4 fs (xs 1) (xs 2) f e1 e2 (fun _ => 0) (qs j) (nI j) o (fun _ => 0) (fun k hk ek => by rw [hfs k hk, hjp k hk ek])) (vx_cwSW 4 hts gL_law_L_withdraw rfl rfl rfl (by decide +kernel) ⟨Nat.le_of_ble_eq_true rfl, Nat.le_of_ble_eq_true rfl⟩) ⟨pB_blind, pB_at hPc hDc hK hN hE hS hFc⟩ rfl rfl hl.1 rfl (lv_room (Nat.le_of_ble_eq_true rfl)) dL_law_341 ⟨Nat.le_of_ble_eq_true rfl, Nat.le_of_ble_eq_true rfl⟩) hS (fun q _ h => hFc q h) hFc (fun q _ h => hFc q h) (fun E ce q9 u t H1 locs ht hvm hpx hPE hz1 hk1 hS hce hcv hcl => ?_) (fun r_5 u t H1 locs ht hvm hw hB hz1 hk1 hS => ?_)
  · skip
    exact False.elim hPE
  · skip
    obtain ⟨u_6, rfl⟩ : ∃ z9, z9 = u := ⟨_, rfl⟩
    obtain ⟨hP1, _, hD1⟩ := hB
    have hw_7 := hw
    rw [ht] at hP1
    obtain ⟨hP, hD⟩ := va_join (wr := [(a2, wI tC 5 cb), (a3, .inr (0, [.int 0, .ref dz, .int 0])), (a4, wS tC 5 (fun _ => none)), (mo, .inr (6, [.int 0, .int 1, .ref (ma 2), .ref (ma 3), .ref (ma 4), .ref (ma 5), .ref (ma 6), .ref (ma 7), .ref (ma 8), .ref (ma 9), .ref (ma 10), .ref (ma 11), .ref (ma 12), .ref (ma 13), .ref (ma 14), .ref (ma 15), .ref (ma 16), .ref (ma 17), .ref (ma 18), .ref (ma 19), .ref (ma 20), .ref (ma 21), .int 0, .ref (ma 23), .ref (ma 24), .ref (ma 25), .ref (ma 26), .ref (ma 27), .ref (ma 28)])), ((ma 2), wI tC 600 (fun _ => 0)), ((ma 6), wI tC 600 zf), ((ma 7), wI tC 600 (fun _ => 0)), ((ma 8), wI tC 5 (fun _ => 0)), ((ma 9), wI tC 5 (fun _ => 0)), ((ma 10), wI tC 5 pf), ((ma 12), wZ tC 5 (fun _ => 0)), ((ma 13), wI tC 5 lf), ((ma 14), wI tC 5 op), ((ma 15), wI tC 5 (fun _ => 0)), ((ma 16), wI tC 5 (fun _ => 0)), ((ma 18), wI tC 5 (fun _ => 0)), ((ma 19), wI tC 25 (fun _ => 0)), ((ma 20), wZ tC 25 (fun _ => 0)), ((ma 23), wI tC 41 (fun _ => 0)), ((ma 24), wI tC 41 (fun _ => 0)), ((ma 25), wI tC 41 (fun _ => 0)), ((ma 26), wI tC 41 (fun _ => 0)), ((ma 27), wI tC 41 (fun _ => 0)), ((ma 28), wI tC 5 (fun _ => 0))]) (w1 := [(o, wL tC 1 u_6)]) hP hD [0, 1, 7, 5, 6, 29] [2, 3, 4, 8, 9, 10, 11, 12, 13, 14, 15, 16, 17, 18, 19, 20, 21, 22, 23, 24, 25, 26, 27, 28] rfl rfl (by decide) (by decide) hk1 hFc hP1 hD1
    generalize H1 = H at hP hS ⊢
    have hP : va_P D vwCl [(a2, wI tC 5 cb), (a3, .inr (0, [.int 0, .ref dz, .int 0])), (a4, wS tC 5 (fun _ => none)), (mo, .inr (6, [.int 0, .int 1, .ref (ma 2), .ref (ma 3), .ref (ma 4), .ref (ma 5), .ref (ma 6), .ref (ma 7), .ref (ma 8), .ref (ma 9), .ref (ma 10), .ref (ma 11), .ref (ma 12), .ref (ma 13), .ref (ma 14), .ref (ma 15), .ref (ma 16), .ref (ma 17), .ref (ma 18), .ref (ma 19), .ref (ma 20), .ref (ma 21), .int 0, .ref (ma 23), .ref (ma 24), .ref (ma 25), .ref (ma 26), .ref (ma 27), .ref (ma 28)])), ((ma 2), wI tC 600 (fun _ => 0)), ((ma 6), wI tC 600 zf), ((ma 7), wI tC 600 (fun _ => 0)), ((ma 8), wI tC 5 (fun _ => 0)), ((ma 9), wI tC 5 (fun _ => 0)), ((ma 10), wI tC 5 pf), ((ma 12), wZ tC 5 (fun _ => 0)), ((ma 13), wI tC 5 lf), ((ma 14), wI tC 5 op), ((ma 15), wI tC 5 (fun _ => 0)), ((ma 16), wI tC 5 (fun _ => 0)), ((ma 18), wI tC 5 (fun _ => 0)), ((ma 19), wI tC 25 (fun _ => 0)), ((ma 20), wZ tC 25 (fun _ => 0)), ((ma 23), wI tC 41 (fun _ => 0)), ((ma 24), wI tC 41 (fun _ => 0)), ((ma 25), wI tC 41 (fun _ => 0)), ((ma 26), wI tC 41 (fun _ => 0)), ((ma 27), wI tC 41 (fun _ => 0)), ((ma 28), wI tC 5 (fun _ => 0)), (o, wL tC 1 u_6)] H := hP
    have hD : va_D A [(a2, wI tC 5 cb), (a3, .inr (0, [.int 0, .ref dz, .int 0])), (a4, wS tC 5 (fun _ => none)), (mo, .inr (6, [.int 0, .int 1, .ref (ma 2), .ref (ma 3), .ref (ma 4), .ref (ma 5), .ref (ma 6), .ref (ma 7), .ref (ma 8), .ref (ma 9), .ref (ma 10), .ref (ma 11), .ref (ma 12), .ref (ma 13), .ref (ma 14), .ref (ma 15), .ref (ma 16), .ref (ma 17), .ref (ma 18), .ref (ma 19), .ref (ma 20), .ref (ma 21), .int 0, .ref (ma 23), .ref (ma 24), .ref (ma 25), .ref (ma 26), .ref (ma 27), .ref (ma 28)])), ((ma 2), wI tC 600 (fun _ => 0)), ((ma 6), wI tC 600 zf), ((ma 7), wI tC 600 (fun _ => 0)), ((ma 8), wI tC 5 (fun _ => 0)), ((ma 9), wI tC 5 (fun _ => 0)), ((ma 10), wI tC 5 pf), ((ma 12), wZ tC 5 (fun _ => 0)), ((ma 13), wI tC 5 lf), ((ma 14), wI tC 5 op), ((ma 15), wI tC 5 (fun _ => 0)), ((ma 16), wI tC 5 (fun _ => 0)), ((ma 18), wI tC 5 (fun _ => 0)), ((ma 19), wI tC 25 (fun _ => 0)), ((ma 20), wZ tC 25 (fun _ => 0)), ((ma 23), wI tC 41 (fun _ => 0)), ((ma 24), wI tC 41 (fun _ => 0)), ((ma 25), wI tC 41 (fun _ => 0)), ((ma 26), wI tC 41 (fun _ => 0)), ((ma 27), wI tC 41 (fun _ => 0)), ((ma 28), wI tC 5 (fun _ => 0)), (o, wL tC 1 u_6)] := hD
    refine W.widen (k := 43) (n := 4028) (by omega) (by omega) ?_
    refine lv_istore (lv' := [(5, .int r_5), (4, .int 0), (3, .ref o), (2, .ref mo), (1, .ref x), (0, .ref b)]) hx hb dL_law_344 hl (by decide) rfl (fun ls hl => ?_)
    refine lv_aload_n hx hb dL_law_346 rfl (lv_at hl 3 rfl) ?_
    refine lv_aload_n hx hb dL_law_347 rfl (lv_at hl 5 rfl) ?_
    refine lv_iload hx hb dL_law_348 (lv_at hl 1 rfl) ?_
    refine lv_iconst (v := 1) hx hb dL_law_350 (by decide) ?_
    refine lv_iadd hx hb dL_law_351 ?_
    refine lv_topi (fun z_8 ez_8 => ?_)
    have fz_8 : z_8 = 1 := ez_8.trans (by decide)
    subst fz_8
    refine va_sld hx hb hX hbl hbA hS (by unfold vp_in; decide) dL_law_352 ?_
    refine lv_topi (fun z_9 ez_9 => ?_)
    have fz_9 : z_9 = xs 1 := ez_9.trans (rfl)
    subst fz_9
    refine lv_aload_n hx hb dL_law_353 rfl (lv_at hl 5 rfl) ?_
    refine lv_iload hx hb dL_law_354 (lv_at hl 1 rfl) ?_
    refine lv_iconst (v := 2) hx hb dL_law_356 (by decide) ?_
    refine lv_iadd hx hb dL_law_357 ?_
    refine lv_topi (fun z_10 ez_10 => ?_)
    have fz_10 : z_10 = 2 := ez_10.trans (by decide)
    subst fz_10
    refine va_sld hx hb hX hbl hbA hS (by unfold vp_in; decide) dL_law_358 ?_
    refine lv_topi (fun z_11 ez_11 => ?_)
    have fz_11 : z_11 = xs 2 := ez_11.trans (rfl)
    subst fz_11
    have hPc := hP.sub (ws' := [(mo, .inr (6, [.int 0, .int 1, .ref (ma 2), .ref (ma 3), .ref (ma 4), .ref (ma 5), .ref (ma 6), .ref (ma 7), .ref (ma 8), .ref (ma 9), .ref (ma 10), .ref (ma 11), .ref (ma 12), .ref (ma 13), .ref (ma 14), .ref (ma 15), .ref (ma 16), .ref (ma 17), .ref (ma 18), .ref (ma 19), .ref (ma 20), .ref (ma 21), .int 0, .ref (ma 23), .ref (ma 24), .ref (ma 25), .ref (ma 26), .ref (ma 27), .ref (ma 28)])), ((ma 2), wI tC 600 (fun _ => 0)), ((ma 8), wI tC 5 (fun _ => 0))]) [3, 4, 7] rfl
    have hDc := hD.sub (ws' := [(mo, .inr (6, [.int 0, .int 1, .ref (ma 2), .ref (ma 3), .ref (ma 4), .ref (ma 5), .ref (ma 6), .ref (ma 7), .ref (ma 8), .ref (ma 9), .ref (ma 10), .ref (ma 11), .ref (ma 12), .ref (ma 13), .ref (ma 14), .ref (ma 15), .ref (ma 16), .ref (ma 17), .ref (ma 18), .ref (ma 19), .ref (ma 20), .ref (ma 21), .int 0, .ref (ma 23), .ref (ma 24), .ref (ma 25), .ref (ma 26), .ref (ma 27), .ref (ma 28)])), ((ma 2), wI tC 600 (fun _ => 0)), ((ma 8), wI tC 5 (fun _ => 0))]) [3, 4, 7] (by decide) rfl
    have hFc := va_free (wc := [(mo, .inr (6, [.int 0, .int 1, .ref (ma 2), .ref (ma 3), .ref (ma 4), .ref (ma 5), .ref (ma 6), .ref (ma 7), .ref (ma 8), .ref (ma 9), .ref (ma 10), .ref (ma 11), .ref (ma 12), .ref (ma 13), .ref (ma 14), .ref (ma 15), .ref (ma 16), .ref (ma 17), .ref (ma 18), .ref (ma 19), .ref (ma 20), .ref (ma 21), .int 0, .ref (ma 23), .ref (ma 24), .ref (ma 25), .ref (ma 26), .ref (ma 27), .ref (ma 28)])), ((ma 2), wI tC 600 (fun _ => 0)), ((ma 8), wI tC 5 (fun _ => 0))]) hD hS hA [3, 4, 7] rfl
    refine va_calli (va_runV (As := [.int (xs 1), .int (xs 2)]) (rest := []) ⟨hx, hb, hml, hown, hts⟩ (c_X5_withdraw l hlt D tC dz H.size mo ma 0 (xs 1) (xs 2) ) (cwV 2 hts gL_law_X5_withdraw rfl rfl rfl (by decide +kernel) ⟨Nat.le_of_ble_eq_true rfl, Nat.le_of_ble_eq_true rfl⟩) ⟨pB_blind, va_recv hK hPc (ci := 6) (q0 := 0) rfl rfl, pB_at hPc hDc hK hN hE hS hFc⟩ rfl rfl hl.1 rfl (lv_room (Nat.le_of_ble_eq_true rfl)) dL_law_359 ⟨Nat.le_of_ble_eq_true rfl, Nat.le_of_ble_eq_true rfl⟩) hS (fun q _ h => hFc q h) hFc (fun r_12 u t H1 locs ht hvm hw hB hz1 hk1 hS => ?_)
    obtain ⟨u_13, rfl⟩ : ∃ z9, z9 = u := ⟨_, rfl⟩
    obtain ⟨l9_14, hP1, _, hD1⟩ := hB
    have hw_15 := hw
    rw [ht] at hP1
    obtain ⟨hP, hD⟩ := va_join (wr := [(a2, wI tC 5 cb), (a3, .inr (0, [.int 0, .ref dz, .int 0])), (a4, wS tC 5 (fun _ => none)), ((ma 6), wI tC 600 zf), ((ma 7), wI tC 600 (fun _ => 0)), ((ma 9), wI tC 5 (fun _ => 0)), ((ma 10), wI tC 5 pf), ((ma 12), wZ tC 5 (fun _ => 0)), ((ma 13), wI tC 5 lf), ((ma 14), wI tC 5 op), ((ma 15), wI tC 5 (fun _ => 0)), ((ma 16), wI tC 5 (fun _ => 0)), ((ma 18), wI tC 5 (fun _ => 0)), ((ma 19), wI tC 25 (fun _ => 0)), ((ma 20), wZ tC 25 (fun _ => 0)), ((ma 23), wI tC 41 (fun _ => 0)), ((ma 24), wI tC 41 (fun _ => 0)), ((ma 25), wI tC 41 (fun _ => 0)), ((ma 26), wI tC 41 (fun _ => 0)), ((ma 27), wI tC 41 (fun _ => 0)), ((ma 28), wI tC 5 (fun _ => 0)), (o, wL tC 1 u_6)]) (w1 := [(mo, .inr (6, [.int u_13, .int 1, .ref (ma 2), .ref (ma 3), .ref (ma 4), .ref (ma 5), .ref (ma 6), .ref (ma 7), .ref (ma 8), .ref (ma 9), .ref (ma 10), .ref (ma 11), .ref (ma 12), .ref (ma 13), .ref (ma 14), .ref (ma 15), .ref (ma 16), .ref (ma 17), .ref (ma 18), .ref (ma 19), .ref (ma 20), .ref (ma 21), .int l9_14, .ref (ma 23), .ref (ma 24), .ref (ma 25), .ref (ma 26), .ref (ma 27), .ref (ma 28)]))]) hP hD [3, 4, 7] [0, 1, 2, 5, 6, 8, 9, 10, 11, 12, 13, 14, 15, 16, 17, 18, 19, 20, 21, 22, 23, 24] rfl rfl (by decide) (by decide) hk1 hFc hP1 hD1
    generalize H1 = H at hP hS ⊢
    have hP : va_P D vwCl [(a2, wI tC 5 cb), (a3, .inr (0, [.int 0, .ref dz, .int 0])), (a4, wS tC 5 (fun _ => none)), ((ma 6), wI tC 600 zf), ((ma 7), wI tC 600 (fun _ => 0)), ((ma 9), wI tC 5 (fun _ => 0)), ((ma 10), wI tC 5 pf), ((ma 12), wZ tC 5 (fun _ => 0)), ((ma 13), wI tC 5 lf), ((ma 14), wI tC 5 op), ((ma 15), wI tC 5 (fun _ => 0)), ((ma 16), wI tC 5 (fun _ => 0)), ((ma 18), wI tC 5 (fun _ => 0)), ((ma 19), wI tC 25 (fun _ => 0)), ((ma 20), wZ tC 25 (fun _ => 0)), ((ma 23), wI tC 41 (fun _ => 0)), ((ma 24), wI tC 41 (fun _ => 0)), ((ma 25), wI tC 41 (fun _ => 0)), ((ma 26), wI tC 41 (fun _ => 0)), ((ma 27), wI tC 41 (fun _ => 0)), ((ma 28), wI tC 5 (fun _ => 0)), (o, wL tC 1 u_6), (mo, .inr (6, [.int u_13, .int 1, .ref (ma 2), .ref (ma 3), .ref (ma 4), .ref (ma 5), .ref (ma 6), .ref (ma 7), .ref (ma 8), .ref (ma 9), .ref (ma 10), .ref (ma 11), .ref (ma 12), .ref (ma 13), .ref (ma 14), .ref (ma 15), .ref (ma 16), .ref (ma 17), .ref (ma 18), .ref (ma 19), .ref (ma 20), .ref (ma 21), .int l9_14, .ref (ma 23), .ref (ma 24), .ref (ma 25), .ref (ma 26), .ref (ma 27), .ref (ma 28)]))] H := hP
    have hD : va_D A [(a2, wI tC 5 cb), (a3, .inr (0, [.int 0, .ref dz, .int 0])), (a4, wS tC 5 (fun _ => none)), ((ma 6), wI tC 600 zf), ((ma 7), wI tC 600 (fun _ => 0)), ((ma 9), wI tC 5 (fun _ => 0)), ((ma 10), wI tC 5 pf), ((ma 12), wZ tC 5 (fun _ => 0)), ((ma 13), wI tC 5 lf), ((ma 14), wI tC 5 op), ((ma 15), wI tC 5 (fun _ => 0)), ((ma 16), wI tC 5 (fun _ => 0)), ((ma 18), wI tC 5 (fun _ => 0)), ((ma 19), wI tC 25 (fun _ => 0)), ((ma 20), wZ tC 25 (fun _ => 0)), ((ma 23), wI tC 41 (fun _ => 0)), ((ma 24), wI tC 41 (fun _ => 0)), ((ma 25), wI tC 41 (fun _ => 0)), ((ma 26), wI tC 41 (fun _ => 0)), ((ma 27), wI tC 41 (fun _ => 0)), ((ma 28), wI tC 5 (fun _ => 0)), (o, wL tC 1 u_6), (mo, .inr (6, [.int u_13, .int 1, .ref (ma 2), .ref (ma 3), .ref (ma 4), .ref (ma 5), .ref (ma 6), .ref (ma 7), .ref (ma 8), .ref (ma 9), .ref (ma 10), .ref (ma 11), .ref (ma 12), .ref (ma 13), .ref (ma 14), .ref (ma 15), .ref (ma 16), .ref (ma 17), .ref (ma 18), .ref (ma 19), .ref (ma 20), .ref (ma 21), .int l9_14, .ref (ma 23), .ref (ma 24), .ref (ma 25), .ref (ma 26), .ref (ma 27), .ref (ma 28)]))] := hD
    refine lv_istore (lv' := [(6, .int r_12), (5, .int r_5), (4, .int 0), (3, .ref o), (2, .ref mo), (1, .ref x), (0, .ref b)]) hx hb dL_law_362 hl (by decide) rfl (fun ls hl => ?_)
    refine lv_aload_n hx hb dL_law_364 rfl (lv_at hl 4 rfl) ?_
    have hPc := hP.sub (ws' := [(mo, .inr (6, [.int u_13, .int 1, .ref (ma 2), .ref (ma 3), .ref (ma 4), .ref (ma 5), .ref (ma 6), .ref (ma 7), .ref (ma 8), .ref (ma 9), .ref (ma 10), .ref (ma 11), .ref (ma 12), .ref (ma 13), .ref (ma 14), .ref (ma 15), .ref (ma 16), .ref (ma 17), .ref (ma 18), .ref (ma 19), .ref (ma 20), .ref (ma 21), .int l9_14, .ref (ma 23), .ref (ma 24), .ref (ma 25), .ref (ma 26), .ref (ma 27), .ref (ma 28)]))]) [22] rfl
    have hDc := hD.sub (ws' := [(mo, .inr (6, [.int u_13, .int 1, .ref (ma 2), .ref (ma 3), .ref (ma 4), .ref (ma 5), .ref (ma 6), .ref (ma 7), .ref (ma 8), .ref (ma 9), .ref (ma 10), .ref (ma 11), .ref (ma 12), .ref (ma 13), .ref (ma 14), .ref (ma 15), .ref (ma 16), .ref (ma 17), .ref (ma 18), .ref (ma 19), .ref (ma 20), .ref (ma 21), .int l9_14, .ref (ma 23), .ref (ma 24), .ref (ma 25), .ref (ma 26), .ref (ma 27), .ref (ma 28)]))]) [22] (by decide) rfl
    have hFc := va_free (wc := [(mo, .inr (6, [.int u_13, .int 1, .ref (ma 2), .ref (ma 3), .ref (ma 4), .ref (ma 5), .ref (ma 6), .ref (ma 7), .ref (ma 8), .ref (ma 9), .ref (ma 10), .ref (ma 11), .ref (ma 12), .ref (ma 13), .ref (ma 14), .ref (ma 15), .ref (ma 16), .ref (ma 17), .ref (ma 18), .ref (ma 19), .ref (ma 20), .ref (ma 21), .int l9_14, .ref (ma 23), .ref (ma 24), .ref (ma 25), .ref (ma 26), .ref (ma 27), .ref (ma 28)]))]) hD hS hA [22] rfl
    refine va_calli (va_runV (As := []) (rest := []) ⟨hx, hb, hml, hown, hts⟩ (c_X5_thrown l hlt D tC dz H.size mo ma u_13 l9_14 ) (cwV 0 hts gL_law_X5_thrown rfl rfl rfl (by decide +kernel) ⟨Nat.le_of_ble_eq_true rfl, Nat.le_of_ble_eq_true rfl⟩) ⟨pB_blind, va_recv hK hPc (ci := 6) (q0 := 0) rfl rfl, pB_at hPc hDc hK hN hE hS hFc⟩ rfl rfl hl.1 rfl (lv_room (Nat.le_of_ble_eq_true rfl)) dL_law_365 ⟨Nat.le_of_ble_eq_true rfl, Nat.le_of_ble_eq_true rfl⟩) hS (fun q _ h => hFc q h) hFc (fun r_16 u t H1 locs ht hvm hw hB hz1 hk1 hS => ?_)
    obtain ⟨hP1, _, hD1⟩ := hB
    have hw_17 := hw
    rw [ht] at hP1
    obtain ⟨hP, hD⟩ := va_join (wr := [(a2, wI tC 5 cb), (a3, .inr (0, [.int 0, .ref dz, .int 0])), (a4, wS tC 5 (fun _ => none)), ((ma 6), wI tC 600 zf), ((ma 7), wI tC 600 (fun _ => 0)), ((ma 9), wI tC 5 (fun _ => 0)), ((ma 10), wI tC 5 pf), ((ma 12), wZ tC 5 (fun _ => 0)), ((ma 13), wI tC 5 lf), ((ma 14), wI tC 5 op), ((ma 15), wI tC 5 (fun _ => 0)), ((ma 16), wI tC 5 (fun _ => 0)), ((ma 18), wI tC 5 (fun _ => 0)), ((ma 19), wI tC 25 (fun _ => 0)), ((ma 20), wZ tC 25 (fun _ => 0)), ((ma 23), wI tC 41 (fun _ => 0)), ((ma 24), wI tC 41 (fun _ => 0)), ((ma 25), wI tC 41 (fun _ => 0)), ((ma 26), wI tC 41 (fun _ => 0)), ((ma 27), wI tC 41 (fun _ => 0)), ((ma 28), wI tC 5 (fun _ => 0)), (o, wL tC 1 u_6)]) (w1 := [(mo, .inr (6, [.int u_13, .int 1, .ref (ma 2), .ref (ma 3), .ref (ma 4), .ref (ma 5), .ref (ma 6), .ref (ma 7), .ref (ma 8), .ref (ma 9), .ref (ma 10), .ref (ma 11), .ref (ma 12), .ref (ma 13), .ref (ma 14), .ref (ma 15), .ref (ma 16), .ref (ma 17), .ref (ma 18), .ref (ma 19), .ref (ma 20), .ref (ma 21), .int l9_14, .ref (ma 23), .ref (ma 24), .ref (ma 25), .ref (ma 26), .ref (ma 27), .ref (ma 28)]))]) hP hD [22] [0, 1, 2, 3, 4, 5, 6, 7, 8, 9, 10, 11, 12, 13, 14, 15, 16, 17, 18, 19, 20, 21] rfl rfl (by decide) (by decide) hk1 hFc hP1 hD1
    generalize H1 = H at hP hS ⊢
    have hP : va_P D vwCl [(a2, wI tC 5 cb), (a3, .inr (0, [.int 0, .ref dz, .int 0])), (a4, wS tC 5 (fun _ => none)), ((ma 6), wI tC 600 zf), ((ma 7), wI tC 600 (fun _ => 0)), ((ma 9), wI tC 5 (fun _ => 0)), ((ma 10), wI tC 5 pf), ((ma 12), wZ tC 5 (fun _ => 0)), ((ma 13), wI tC 5 lf), ((ma 14), wI tC 5 op), ((ma 15), wI tC 5 (fun _ => 0)), ((ma 16), wI tC 5 (fun _ => 0)), ((ma 18), wI tC 5 (fun _ => 0)), ((ma 19), wI tC 25 (fun _ => 0)), ((ma 20), wZ tC 25 (fun _ => 0)), ((ma 23), wI tC 41 (fun _ => 0)), ((ma 24), wI tC 41 (fun _ => 0)), ((ma 25), wI tC 41 (fun _ => 0)), ((ma 26), wI tC 41 (fun _ => 0)), ((ma 27), wI tC 41 (fun _ => 0)), ((ma 28), wI tC 5 (fun _ => 0)), (o, wL tC 1 u_6), (mo, .inr (6, [.int u_13, .int 1, .ref (ma 2), .ref (ma 3), .ref (ma 4), .ref (ma 5), .ref (ma 6), .ref (ma 7), .ref (ma 8), .ref (ma 9), .ref (ma 10), .ref (ma 11), .ref (ma 12), .ref (ma 13), .ref (ma 14), .ref (ma 15), .ref (ma 16), .ref (ma 17), .ref (ma 18), .ref (ma 19), .ref (ma 20), .ref (ma 21), .int l9_14, .ref (ma 23), .ref (ma 24), .ref (ma 25), .ref (ma 26), .ref (ma 27), .ref (ma 28)]))] H := hP
    have hD : va_D A [(a2, wI tC 5 cb), (a3, .inr (0, [.int 0, .ref dz, .int 0])), (a4, wS tC 5 (fun _ => none)), ((ma 6), wI tC 600 zf), ((ma 7), wI tC 600 (fun _ => 0)), ((ma 9), wI tC 5 (fun _ => 0)), ((ma 10), wI tC 5 pf), ((ma 12), wZ tC 5 (fun _ => 0)), ((ma 13), wI tC 5 lf), ((ma 14), wI tC 5 op), ((ma 15), wI tC 5 (fun _ => 0)), ((ma 16), wI tC 5 (fun _ => 0)), ((ma 18), wI tC 5 (fun _ => 0)), ((ma 19), wI tC 25 (fun _ => 0)), ((ma 20), wZ tC 25 (fun _ => 0)), ((ma 23), wI tC 41 (fun _ => 0)), ((ma 24), wI tC 41 (fun _ => 0)), ((ma 25), wI tC 41 (fun _ => 0)), ((ma 26), wI tC 41 (fun _ => 0)), ((ma 27), wI tC 41 (fun _ => 0)), ((ma 28), wI tC 5 (fun _ => 0)), (o, wL tC 1 u_6), (mo, .inr (6, [.int u_13, .int 1, .ref (ma 2), .ref (ma 3), .ref (ma 4), .ref (ma 5), .ref (ma 6), .ref (ma 7), .ref (ma 8), .ref (ma 9), .ref (ma 10), .ref (ma 11), .ref (ma 12), .ref (ma 13), .ref (ma 14), .ref (ma 15), .ref (ma 16), .ref (ma 17), .ref (ma 18), .ref (ma 19), .ref (ma 20), .ref (ma 21), .int l9_14, .ref (ma 23), .ref (ma 24), .ref (ma 25), .ref (ma 26), .ref (ma 27), .ref (ma 28)]))] := hD
    refine lv_iload hx hb dL_law_368 (lv_at hl 1 rfl) ?_
    refine lv_icmp_eq (tgt := 375) hx hb dL_law_370 (by decide) (fun _ => ?_) (fun hc => absurd (hw_17.trans (hw_15.trans hw_7.symm)) hc)
    refine lv_iload hx hb dL_law_375 (lv_at hl 1 rfl) ?_
    refine lv_if_ne (tgt := 392) hx hb dL_law_377 (by decide) (fun _ => ?_) (fun hc => absurd hc ((by rw [hw_7]; split <;> decide)))
    refine lv_goto (tgt := 1332) hx hb dL_law_392 (by decide) ?_
    exact lw_tail C1 hAe hS (lv_sub hl [2, 6] rfl) (by decide) (by decide)
set_option maxHeartbeats 8000000 in
set_option maxRecDepth 100000 in
theorem lc_3 {p : Program} {l : Launch} {e : Env} {s : State} {m : MethodId} {below : List Frame} {meth : Method} {c : Code} {b : Nat} {xs : Nat → Int32} (hlt : l.stackTraces = false) (C0 : lw_At p s m meth c b 5 xs) (D : va_G) (tC : Nat → ClassId) (dz x a1 a2 a3 a4 f e1 e2 : Nat) (qs : Nat → Nat) (fs : Nat → Option Nat) (cb : Nat → Int32) (mo : Nat) (ma : Nat → Nat) (pf lf op zf : Nat → Int32) (o : Nat) (hfs : ∀ i : Nat, i < 5 → fs i = some (qs i)) (hcb : ∀ i : Nat, i < 5 → cb i = cbv i) (hpf : ∀ i : Nat, i < 5 → pf i = -1) (hlf : ∀ i : Nat, i < 5 → lf i = -1) (hop : ∀ i : Nat, i < 5 → op i = -1) (hzf : zf 0 = 5) (hK : va_K D vwCl (tY tC) s) (hN : eN s) (hE : eH dz (fun q : Nat => s.heap.size ≤ q) s s.heap) (H : Heap) (locs : List Loc) (hP : va_P D vwCl [(x, .inr (5, [.ref a1, .ref a2, .ref a3, .ref a4])), (a1, wT tC 5 fs), (a2, wI tC 5 cb), (a3, .inr (0, [.int 0, .ref dz, .int 0])), (a4, wS tC 5 (fun _ => none)), (f, .inr (3, [.ref e1, .ref e2, .int 5, .int 0])), (e1, wI tC 0 (fun _ => 0)), ((qs 0), .inr (4, [.int 0, .int 1, .ref f, .int 0, .int (-1), .null, .int (-1), .null])), ((qs 1), .inr (4, [.int 1, .int 1, .ref f, .int 0, .int (-1), .null, .int (-1), .null])), ((qs 2), .inr (4, [.int 2, .int 1, .ref f, .int 0, .int (-1), .null, .int (-1), .null])), ((qs 3), .inr (4, [.int 3, .int 1, .ref f, .int 0, .int (-1), .null, .int (-1), .null])), ((qs 4), .inr (4, [.int 4, .int 1, .ref f, .int 0, .int (-1), .null, .int (-1), .null])), (mo, .inr (6, [.int 0, .int 1, .ref (ma 2), .ref (ma 3), .ref (ma 4), .ref (ma 5), .ref (ma 6), .ref (ma 7), .ref (ma 8), .ref (ma 9), .ref (ma 10), .ref (ma 11), .ref (ma 12), .ref (ma 13), .ref (ma 14), .ref (ma 15), .ref (ma 16), .ref (ma 17), .ref (ma 18), .ref (ma 19), .ref (ma 20), .ref (ma 21), .int 0, .ref (ma 23), .ref (ma 24), .ref (ma 25), .ref (ma 26), .ref (ma 27), .ref (ma 28)])), ((ma 2), wI tC 600 (fun _ => 0)), ((ma 6), wI tC 600 zf), ((ma 7), wI tC 600 (fun _ => 0)), ((ma 8), wI tC 5 (fun _ => 0)), ((ma 9), wI tC 5 (fun _ => 0)), ((ma 10), wI tC 5 pf), ((ma 12), wZ tC 5 (fun _ => 0)), ((ma 13), wI tC 5 lf), ((ma 14), wI tC 5 op), ((ma 15), wI tC 5 (fun _ => 0)), ((ma 16), wI tC 5 (fun _ => 0)), ((ma 18), wI tC 5 (fun _ => 0)), ((ma 19), wI tC 25 (fun _ => 0)), ((ma 20), wZ tC 25 (fun _ => 0)), ((ma 23), wI tC 41 (fun _ => 0)), ((ma 24), wI tC 41 (fun _ => 0)), ((ma 25), wI tC 41 (fun _ => 0)), ((ma 26), wI tC 41 (fun _ => 0)), ((ma 27), wI tC 41 (fun _ => 0)), ((ma 28), wI tC 5 (fun _ => 0)), (o, wL tC 1 (fun _ => 0))] H) (hD : va_D (fun q : Nat => s.heap.size ≤ q) [(x, .inr (5, [.ref a1, .ref a2, .ref a3, .ref a4])), (a1, wT tC 5 fs), (a2, wI tC 5 cb), (a3, .inr (0, [.int 0, .ref dz, .int 0])), (a4, wS tC 5 (fun _ => none)), (f, .inr (3, [.ref e1, .ref e2, .int 5, .int 0])), (e1, wI tC 0 (fun _ => 0)), ((qs 0), .inr (4, [.int 0, .int 1, .ref f, .int 0, .int (-1), .null, .int (-1), .null])), ((qs 1), .inr (4, [.int 1, .int 1, .ref f, .int 0, .int (-1), .null, .int (-1), .null])), ((qs 2), .inr (4, [.int 2, .int 1, .ref f, .int 0, .int (-1), .null, .int (-1), .null])), ((qs 3), .inr (4, [.int 3, .int 1, .ref f, .int 0, .int (-1), .null, .int (-1), .null])), ((qs 4), .inr (4, [.int 4, .int 1, .ref f, .int 0, .int (-1), .null, .int (-1), .null])), (mo, .inr (6, [.int 0, .int 1, .ref (ma 2), .ref (ma 3), .ref (ma 4), .ref (ma 5), .ref (ma 6), .ref (ma 7), .ref (ma 8), .ref (ma 9), .ref (ma 10), .ref (ma 11), .ref (ma 12), .ref (ma 13), .ref (ma 14), .ref (ma 15), .ref (ma 16), .ref (ma 17), .ref (ma 18), .ref (ma 19), .ref (ma 20), .ref (ma 21), .int 0, .ref (ma 23), .ref (ma 24), .ref (ma 25), .ref (ma 26), .ref (ma 27), .ref (ma 28)])), ((ma 2), wI tC 600 (fun _ => 0)), ((ma 6), wI tC 600 zf), ((ma 7), wI tC 600 (fun _ => 0)), ((ma 8), wI tC 5 (fun _ => 0)), ((ma 9), wI tC 5 (fun _ => 0)), ((ma 10), wI tC 5 pf), ((ma 12), wZ tC 5 (fun _ => 0)), ((ma 13), wI tC 5 lf), ((ma 14), wI tC 5 op), ((ma 15), wI tC 5 (fun _ => 0)), ((ma 16), wI tC 5 (fun _ => 0)), ((ma 18), wI tC 5 (fun _ => 0)), ((ma 19), wI tC 25 (fun _ => 0)), ((ma 20), wZ tC 25 (fun _ => 0)), ((ma 23), wI tC 41 (fun _ => 0)), ((ma 24), wI tC 41 (fun _ => 0)), ((ma 25), wI tC 41 (fun _ => 0)), ((ma 26), wI tC 41 (fun _ => 0)), ((ma 27), wI tC 41 (fun _ => 0)), ((ma 28), wI tC 5 (fun _ => 0)), (o, wL tC 1 (fun _ => 0))]) (hS : va_S (fun q : Nat => s.heap.size ≤ q) s.heap H locs) (ls : Array Slot) (hl : lv_has ls 7 [(4, .int 0), (3, .ref o), (2, .ref mo), (1, .ref x), (0, .ref b)]) : W p l e room_1 s m #[Value.ref b] below meth c H locs 41 4016 (lw_Z below #[Value.ref b] s) (F0 m 395 ls []) := by
  have C1 := C0
  obtain ⟨hx, hb, hr, hml, hown, hts0, hX, hbl, hlocks, hgv⟩ := C0
  have hts : ∀ w ∈ wsL_law, w.before #[Value.ref b] s = true := fun w h => hts0 w (wsL_law_in w h)
  have hown : s.vm.findClass RL = some m.cls := hown
  obtain ⟨A, hAe⟩ : ∃ A : Nat → Prop, A = fun q : Nat => s.heap.size ≤ q := ⟨_, rfl⟩
  rw [← hAe] at hE hD hS
  have hA : ∀ q : Nat, s.heap.size ≤ q → A q := fun q h => by rw [hAe]; exact h
  have hbA : ¬ A b := by rw [hAe]; exact Nat.not_le.mpr hbl
  obtain ⟨j, hj, hjp⟩ := pick5 (xs 1)
  have hP : va_P D vwCl [(x, .inr (5, [.ref a1, .ref a2, .ref a3, .ref a4])), (a1, wT tC 5 fs), (a2, wI tC 5 cb), (a3, .inr (0, [.int 0, .ref dz, .int 0])), (a4, wS tC 5 (fun _ => none)), (f, .inr (3, [.ref e1, .ref e2, .int 5, .int 0])), (e1, wI tC 0 (fun _ => 0)), ((qs j), .inr (4, [.int (nI j), .int 1, .ref f, .int 0, .int (-1), .null, .int (-1), .null])), (mo, .inr (6, [.int 0, .int 1, .ref (ma 2), .ref (ma 3), .ref (ma 4), .ref (ma 5), .ref (ma 6), .ref (ma 7), .ref (ma 8), .ref (ma 9), .ref (ma 10), .ref (ma 11), .ref (ma 12), .ref (ma 13), .ref (ma 14), .ref (ma 15), .ref (ma 16), .ref (ma 17), .ref (ma 18), .ref (ma 19), .ref (ma 20), .ref (ma 21), .int 0, .ref (ma 23), .ref (ma 24), .ref (ma 25), .ref (ma 26), .ref (ma 27), .ref (ma 28)])), ((ma 2), wI tC 600 (fun _ => 0)), ((ma 6), wI tC 600 zf), ((ma 7), wI tC 600 (fun _ => 0)), ((ma 8), wI tC 5 (fun _ => 0)), ((ma 9), wI tC 5 (fun _ => 0)), ((ma 10), wI tC 5 pf), ((ma 12), wZ tC 5 (fun _ => 0)), ((ma 13), wI tC 5 lf), ((ma 14), wI tC 5 op), ((ma 15), wI tC 5 (fun _ => 0)), ((ma 16), wI tC 5 (fun _ => 0)), ((ma 18), wI tC 5 (fun _ => 0)), ((ma 19), wI tC 25 (fun _ => 0)), ((ma 20), wZ tC 25 (fun _ => 0)), ((ma 23), wI tC 41 (fun _ => 0)), ((ma 24), wI tC 41 (fun _ => 0)), ((ma 25), wI tC 41 (fun _ => 0)), ((ma 26), wI tC 41 (fun _ => 0)), ((ma 27), wI tC 41 (fun _ => 0)), ((ma 28), wI tC 5 (fun _ => 0)), (o, wL tC 1 (fun _ => 0))] H := by
    rcases (show j = 0 ∨ j = 1 ∨ j = 2 ∨ j = 3 ∨ j = 4 by omega) with rfl | rfl | rfl | rfl | rfl
    · exact hP.sub [0, 1, 2, 3, 4, 5, 6, 7, 12, 13, 14, 15, 16, 17, 18, 19, 20, 21, 22, 23, 24, 25, 26, 27, 28, 29, 30, 31, 32, 33] rfl
    · exact hP.sub [0, 1, 2, 3, 4, 5, 6, 8, 12, 13, 14, 15, 16, 17, 18, 19, 20, 21, 22, 23, 24, 25, 26, 27, 28, 29, 30, 31, 32, 33] rfl
    · exact hP.sub [0, 1, 2, 3, 4, 5, 6, 9, 12, 13, 14, 15, 16, 17, 18, 19, 20, 21, 22, 23, 24, 25, 26, 27, 28, 29, 30, 31, 32, 33] rfl
    · exact hP.sub [0, 1, 2, 3, 4, 5, 6, 10, 12, 13, 14, 15, 16, 17, 18, 19, 20, 21, 22, 23, 24, 25, 26, 27, 28, 29, 30, 31, 32, 33] rfl
    · exact hP.sub [0, 1, 2, 3, 4, 5, 6, 11, 12, 13, 14, 15, 16, 17, 18, 19, 20, 21, 22, 23, 24, 25, 26, 27, 28, 29, 30, 31, 32, 33] rfl
  have hD : va_D A [(x, .inr (5, [.ref a1, .ref a2, .ref a3, .ref a4])), (a1, wT tC 5 fs), (a2, wI tC 5 cb), (a3, .inr (0, [.int 0, .ref dz, .int 0])), (a4, wS tC 5 (fun _ => none)), (f, .inr (3, [.ref e1, .ref e2, .int 5, .int 0])), (e1, wI tC 0 (fun _ => 0)), ((qs j), .inr (4, [.int (nI j), .int 1, .ref f, .int 0, .int (-1), .null, .int (-1), .null])), (mo, .inr (6, [.int 0, .int 1, .ref (ma 2), .ref (ma 3), .ref (ma 4), .ref (ma 5), .ref (ma 6), .ref (ma 7), .ref (ma 8), .ref (ma 9), .ref (ma 10), .ref (ma 11), .ref (ma 12), .ref (ma 13), .ref (ma 14), .ref (ma 15), .ref (ma 16), .ref (ma 17), .ref (ma 18), .ref (ma 19), .ref (ma 20), .ref (ma 21), .int 0, .ref (ma 23), .ref (ma 24), .ref (ma 25), .ref (ma 26), .ref (ma 27), .ref (ma 28)])), ((ma 2), wI tC 600 (fun _ => 0)), ((ma 6), wI tC 600 zf), ((ma 7), wI tC 600 (fun _ => 0)), ((ma 8), wI tC 5 (fun _ => 0)), ((ma 9), wI tC 5 (fun _ => 0)), ((ma 10), wI tC 5 pf), ((ma 12), wZ tC 5 (fun _ => 0)), ((ma 13), wI tC 5 lf), ((ma 14), wI tC 5 op), ((ma 15), wI tC 5 (fun _ => 0)), ((ma 16), wI tC 5 (fun _ => 0)), ((ma 18), wI tC 5 (fun _ => 0)), ((ma 19), wI tC 25 (fun _ => 0)), ((ma 20), wZ tC 25 (fun _ => 0)), ((ma 23), wI tC 41 (fun _ => 0)), ((ma 24), wI tC 41 (fun _ => 0)), ((ma 25), wI tC 41 (fun _ => 0)), ((ma 26), wI tC 41 (fun _ => 0)), ((ma 27), wI tC 41 (fun _ => 0)), ((ma 28), wI tC 5 (fun _ => 0)), (o, wL tC 1 (fun _ => 0))] := by
    rcases (show j = 0 ∨ j = 1 ∨ j = 2 ∨ j = 3 ∨ j = 4 by omega) with rfl | rfl | rfl | rfl | rfl
    · exact hD.sub [0, 1, 2, 3, 4, 5, 6, 7, 12, 13, 14, 15, 16, 17, 18, 19, 20, 21, 22, 23, 24, 25, 26, 27, 28, 29, 30, 31, 32, 33] (by decide) rfl
    · exact hD.sub [0, 1, 2, 3, 4, 5, 6, 8, 12, 13, 14, 15, 16, 17, 18, 19, 20, 21, 22, 23, 24, 25, 26, 27, 28, 29, 30, 31, 32, 33] (by decide) rfl
    · exact hD.sub [0, 1, 2, 3, 4, 5, 6, 9, 12, 13, 14, 15, 16, 17, 18, 19, 20, 21, 22, 23, 24, 25, 26, 27, 28, 29, 30, 31, 32, 33] (by decide) rfl
    · exact hD.sub [0, 1, 2, 3, 4, 5, 6, 10, 12, 13, 14, 15, 16, 17, 18, 19, 20, 21, 22, 23, 24, 25, 26, 27, 28, 29, 30, 31, 32, 33] (by decide) rfl
    · exact hD.sub [0, 1, 2, 3, 4, 5, 6, 11, 12, 13, 14, 15, 16, 17, 18, 19, 20, 21, 22, 23, 24, 25, 26, 27, 28, 29, 30, 31, 32, 33] (by decide) rfl
  refine lv_aload_n hx hb dL_law_395 rfl (lv_at hl 3 rfl) ?_
  refine lv_aload_n hx hb dL_law_396 rfl (lv_at hl 4 rfl) ?_
  refine lv_iload hx hb dL_law_397 (lv_at hl 0 rfl) ?_
  refine lv_iconst (v := 1) hx hb dL_law_399 (by decide) ?_
  refine lv_iadd hx hb dL_law_400 ?_
  refine lv_topi (fun z_1 ez_1 => ?_)
  have fz_1 : z_1 = 1 := ez_1.trans (by decide)
  subst fz_1
  refine va_sld hx hb hX hbl hbA hS (by unfold vp_in; decide) dL_law_401 ?_
  refine lv_topi (fun z_2 ez_2 => ?_)
  have fz_2 : z_2 = xs 1 := ez_2.trans (rfl)
  subst fz_2
  refine lv_aload_n hx hb dL_law_402 rfl (lv_at hl 1 rfl) ?_
  have hPc := hP.sub (ws' := [(x, .inr (5, [.ref a1, .ref a2, .ref a3, .ref a4])), (a1, wT tC 5 fs), ((qs j), .inr (4, [.int (nI j), .int 1, .ref f, .int 0, .int (-1), .null, .int (-1), .null])), (o, wL tC 1 (fun _ => 0))]) [0, 1, 7, 29] rfl
  have hDc := hD.sub (ws' := [(x, .inr (5, [.ref a1, .ref a2, .ref a3, .ref a4])), (a1, wT tC 5 fs), ((qs j), .inr (4, [.int (nI j), .int 1, .ref f, .int 0, .int (-1), .null, .int (-1), .null])), (o, wL tC 1 (fun _ => 0))]) [0, 1, 7, 29] (by decide) rfl
  have hFc := va_free (wc := [(x, .inr (5, [.ref a1, .ref a2, .ref a3, .ref a4])), (a1, wT tC 5 fs), ((qs j), .inr (4, [.int (nI j), .int 1, .ref f, .int 0, .int (-1), .null, .int (-1), .null])), (o, wL tC 1 (fun _ => 0))]) hD hS hA [0, 1, 7, 29] rfl
  refine vx_calli (vx_runSX (As := [.ref x, .int (xs 1), .ref o]) (rest := []) ⟨hx, hb, hml, hown, hts⟩ (c_L_decide l hlt D tC dz H.size x a1 a2 a3 a4 fs (xs 1) f (qs j) (nI j) o (fun _ => 0) (fun k hk ek => by rw [hfs k hk, hjp k hk ek])) (vx_cwSW 3 hts gL_law_L_decide rfl rfl rfl (by decide +kernel) ⟨Nat.le_of_ble_eq_true rfl, Nat.le_of_ble_eq_true rfl⟩) ⟨pB_blind, pB_at hPc hDc hK hN hE hS hFc⟩ rfl rfl hl.1 rfl (lv_room (Nat.le_of_ble_eq_true rfl)) dL_law_403 ⟨Nat.le_of_ble_eq_true rfl, Nat.le_of_ble_eq_true rfl⟩) hS (fun q _ h => hFc q h) hFc (fun q _ h => hFc q h) (fun E ce q9 u t H1 locs ht hvm hpx hPE hz1 hk1 hS hce hcv hcl => ?_) (fun r_3 u t H1 locs ht hvm hw hB hz1 hk1 hS => ?_)
  · skip
    exact False.elim hPE
  · skip
    obtain ⟨u_4, rfl⟩ : ∃ z9, z9 = u := ⟨_, rfl⟩
    obtain ⟨hP1, _, hD1⟩ := hB
    have hw_5 := hw
    rw [ht] at hP1
    obtain ⟨hP, hD⟩ := va_join (wr := [(a2, wI tC 5 cb), (a3, .inr (0, [.int 0, .ref dz, .int 0])), (a4, wS tC 5 (fun _ => none)), (f, .inr (3, [.ref e1, .ref e2, .int 5, .int 0])), (e1, wI tC 0 (fun _ => 0)), (mo, .inr (6, [.int 0, .int 1, .ref (ma 2), .ref (ma 3), .ref (ma 4), .ref (ma 5), .ref (ma 6), .ref (ma 7), .ref (ma 8), .ref (ma 9), .ref (ma 10), .ref (ma 11), .ref (ma 12), .ref (ma 13), .ref (ma 14), .ref (ma 15), .ref (ma 16), .ref (ma 17), .ref (ma 18), .ref (ma 19), .ref (ma 20), .ref (ma 21), .int 0, .ref (ma 23), .ref (ma 24), .ref (ma 25), .ref (ma 26), .ref (ma 27), .ref (ma 28)])), ((ma 2), wI tC 600 (fun _ => 0)), ((ma 6), wI tC 600 zf), ((ma 7), wI tC 600 (fun _ => 0)), ((ma 8), wI tC 5 (fun _ => 0)), ((ma 9), wI tC 5 (fun _ => 0)), ((ma 10), wI tC 5 pf), ((ma 12), wZ tC 5 (fun _ => 0)), ((ma 13), wI tC 5 lf), ((ma 14), wI tC 5 op), ((ma 15), wI tC 5 (fun _ => 0)), ((ma 16), wI tC 5 (fun _ => 0)), ((ma 18), wI tC 5 (fun _ => 0)), ((ma 19), wI tC 25 (fun _ => 0)), ((ma 20), wZ tC 25 (fun _ => 0)), ((ma 23), wI tC 41 (fun _ => 0)), ((ma 24), wI tC 41 (fun _ => 0)), ((ma 25), wI tC 41 (fun _ => 0)), ((ma 26), wI tC 41 (fun _ => 0)), ((ma 27), wI tC 41 (fun _ => 0)), ((ma 28), wI tC 5 (fun _ => 0))]) (w1 := [(o, wL tC 1 u_4)]) hP hD [0, 1, 7, 29] [2, 3, 4, 5, 6, 8, 9, 10, 11, 12, 13, 14, 15, 16, 17, 18, 19, 20, 21, 22, 23, 24, 25, 26, 27, 28] rfl rfl (by decide) (by decide) hk1 hFc hP1 hD1
    generalize H1 = H at hP hS ⊢
    have hP : va_P D vwCl [(a2, wI tC 5 cb), (a3, .inr (0, [.int 0, .ref dz, .int 0])), (a4, wS tC 5 (fun _ => none)), (f, .inr (3, [.ref e1, .ref e2, .int 5, .int 0])), (e1, wI tC 0 (fun _ => 0)), (mo, .inr (6, [.int 0, .int 1, .ref (ma 2), .ref (ma 3), .ref (ma 4), .ref (ma 5), .ref (ma 6), .ref (ma 7), .ref (ma 8), .ref (ma 9), .ref (ma 10), .ref (ma 11), .ref (ma 12), .ref (ma 13), .ref (ma 14), .ref (ma 15), .ref (ma 16), .ref (ma 17), .ref (ma 18), .ref (ma 19), .ref (ma 20), .ref (ma 21), .int 0, .ref (ma 23), .ref (ma 24), .ref (ma 25), .ref (ma 26), .ref (ma 27), .ref (ma 28)])), ((ma 2), wI tC 600 (fun _ => 0)), ((ma 6), wI tC 600 zf), ((ma 7), wI tC 600 (fun _ => 0)), ((ma 8), wI tC 5 (fun _ => 0)), ((ma 9), wI tC 5 (fun _ => 0)), ((ma 10), wI tC 5 pf), ((ma 12), wZ tC 5 (fun _ => 0)), ((ma 13), wI tC 5 lf), ((ma 14), wI tC 5 op), ((ma 15), wI tC 5 (fun _ => 0)), ((ma 16), wI tC 5 (fun _ => 0)), ((ma 18), wI tC 5 (fun _ => 0)), ((ma 19), wI tC 25 (fun _ => 0)), ((ma 20), wZ tC 25 (fun _ => 0)), ((ma 23), wI tC 41 (fun _ => 0)), ((ma 24), wI tC 41 (fun _ => 0)), ((ma 25), wI tC 41 (fun _ => 0)), ((ma 26), wI tC 41 (fun _ => 0)), ((ma 27), wI tC 41 (fun _ => 0)), ((ma 28), wI tC 5 (fun _ => 0)), (o, wL tC 1 u_4)] H := hP
    have hD : va_D A [(a2, wI tC 5 cb), (a3, .inr (0, [.int 0, .ref dz, .int 0])), (a4, wS tC 5 (fun _ => none)), (f, .inr (3, [.ref e1, .ref e2, .int 5, .int 0])), (e1, wI tC 0 (fun _ => 0)), (mo, .inr (6, [.int 0, .int 1, .ref (ma 2), .ref (ma 3), .ref (ma 4), .ref (ma 5), .ref (ma 6), .ref (ma 7), .ref (ma 8), .ref (ma 9), .ref (ma 10), .ref (ma 11), .ref (ma 12), .ref (ma 13), .ref (ma 14), .ref (ma 15), .ref (ma 16), .ref (ma 17), .ref (ma 18), .ref (ma 19), .ref (ma 20), .ref (ma 21), .int 0, .ref (ma 23), .ref (ma 24), .ref (ma 25), .ref (ma 26), .ref (ma 27), .ref (ma 28)])), ((ma 2), wI tC 600 (fun _ => 0)), ((ma 6), wI tC 600 zf), ((ma 7), wI tC 600 (fun _ => 0)), ((ma 8), wI tC 5 (fun _ => 0)), ((ma 9), wI tC 5 (fun _ => 0)), ((ma 10), wI tC 5 pf), ((ma 12), wZ tC 5 (fun _ => 0)), ((ma 13), wI tC 5 lf), ((ma 14), wI tC 5 op), ((ma 15), wI tC 5 (fun _ => 0)), ((ma 16), wI tC 5 (fun _ => 0)), ((ma 18), wI tC 5 (fun _ => 0)), ((ma 19), wI tC 25 (fun _ => 0)), ((ma 20), wZ tC 25 (fun _ => 0)), ((ma 23), wI tC 41 (fun _ => 0)), ((ma 24), wI tC 41 (fun _ => 0)), ((ma 25), wI tC 41 (fun _ => 0)), ((ma 26), wI tC 41 (fun _ => 0)), ((ma 27), wI tC 41 (fun _ => 0)), ((ma 28), wI tC 5 (fun _ => 0)), (o, wL tC 1 u_4)] := hD
    refine W.widen (k := 43) (n := 4028) (by omega) (by omega) ?_
    refine lv_istore (lv' := [(5, .int r_3), (4, .int 0), (3, .ref o), (2, .ref mo), (1, .ref x), (0, .ref b)]) hx hb dL_law_406 hl (by decide) rfl (fun ls hl => ?_)
    refine lv_aload_n hx hb dL_law_408 rfl (lv_at hl 3 rfl) ?_
    refine lv_aload_n hx hb dL_law_409 rfl (lv_at hl 5 rfl) ?_
    refine lv_iload hx hb dL_law_410 (lv_at hl 1 rfl) ?_
    refine lv_iconst (v := 1) hx hb dL_law_412 (by decide) ?_
    refine lv_iadd hx hb dL_law_413 ?_
    refine lv_topi (fun z_6 ez_6 => ?_)
    have fz_6 : z_6 = 1 := ez_6.trans (by decide)
    subst fz_6
    refine va_sld hx hb hX hbl hbA hS (by unfold vp_in; decide) dL_law_414 ?_
    refine lv_topi (fun z_7 ez_7 => ?_)
    have fz_7 : z_7 = xs 1 := ez_7.trans (rfl)
    subst fz_7
    have hPc := hP.sub (ws' := [(mo, .inr (6, [.int 0, .int 1, .ref (ma 2), .ref (ma 3), .ref (ma 4), .ref (ma 5), .ref (ma 6), .ref (ma 7), .ref (ma 8), .ref (ma 9), .ref (ma 10), .ref (ma 11), .ref (ma 12), .ref (ma 13), .ref (ma 14), .ref (ma 15), .ref (ma 16), .ref (ma 17), .ref (ma 18), .ref (ma 19), .ref (ma 20), .ref (ma 21), .int 0, .ref (ma 23), .ref (ma 24), .ref (ma 25), .ref (ma 26), .ref (ma 27), .ref (ma 28)])), ((ma 14), wI tC 5 op)]) [5, 14] rfl
    have hDc := hD.sub (ws' := [(mo, .inr (6, [.int 0, .int 1, .ref (ma 2), .ref (ma 3), .ref (ma 4), .ref (ma 5), .ref (ma 6), .ref (ma 7), .ref (ma 8), .ref (ma 9), .ref (ma 10), .ref (ma 11), .ref (ma 12), .ref (ma 13), .ref (ma 14), .ref (ma 15), .ref (ma 16), .ref (ma 17), .ref (ma 18), .ref (ma 19), .ref (ma 20), .ref (ma 21), .int 0, .ref (ma 23), .ref (ma 24), .ref (ma 25), .ref (ma 26), .ref (ma 27), .ref (ma 28)])), ((ma 14), wI tC 5 op)]) [5, 14] (by decide) rfl
    have hFc := va_free (wc := [(mo, .inr (6, [.int 0, .int 1, .ref (ma 2), .ref (ma 3), .ref (ma 4), .ref (ma 5), .ref (ma 6), .ref (ma 7), .ref (ma 8), .ref (ma 9), .ref (ma 10), .ref (ma 11), .ref (ma 12), .ref (ma 13), .ref (ma 14), .ref (ma 15), .ref (ma 16), .ref (ma 17), .ref (ma 18), .ref (ma 19), .ref (ma 20), .ref (ma 21), .int 0, .ref (ma 23), .ref (ma 24), .ref (ma 25), .ref (ma 26), .ref (ma 27), .ref (ma 28)])), ((ma 14), wI tC 5 op)]) hD hS hA [5, 14] rfl
    refine va_calli (va_runV (As := [.int (xs 1)]) (rest := []) ⟨hx, hb, hml, hown, hts⟩ (c_X5_decide l hlt D tC dz H.size mo ma 0 op (xs 1) hop) (cwV 1 hts gL_law_X5_decide rfl rfl rfl (by decide +kernel) ⟨Nat.le_of_ble_eq_true rfl, Nat.le_of_ble_eq_true rfl⟩) ⟨pB_blind, va_recv hK hPc (ci := 6) (q0 := 0) rfl rfl, pB_at hPc hDc hK hN hE hS hFc⟩ rfl rfl hl.1 rfl (lv_room (Nat.le_of_ble_eq_true rfl)) dL_law_415 ⟨Nat.le_of_ble_eq_true rfl, Nat.le_of_ble_eq_true rfl⟩) hS (fun q _ h => hFc q h) hFc (fun r_8 u t H1 locs ht hvm hw hB hz1 hk1 hS => ?_)
    obtain ⟨u_9, rfl⟩ : ∃ z9, z9 = u := ⟨_, rfl⟩
    obtain ⟨l9_10, hP1, _, hD1⟩ := hB
    have hw_11 := hw
    rw [ht] at hP1
    obtain ⟨hP, hD⟩ := va_join (wr := [(a2, wI tC 5 cb), (a3, .inr (0, [.int 0, .ref dz, .int 0])), (a4, wS tC 5 (fun _ => none)), (f, .inr (3, [.ref e1, .ref e2, .int 5, .int 0])), (e1, wI tC 0 (fun _ => 0)), ((ma 2), wI tC 600 (fun _ => 0)), ((ma 6), wI tC 600 zf), ((ma 7), wI tC 600 (fun _ => 0)), ((ma 8), wI tC 5 (fun _ => 0)), ((ma 9), wI tC 5 (fun _ => 0)), ((ma 10), wI tC 5 pf), ((ma 12), wZ tC 5 (fun _ => 0)), ((ma 13), wI tC 5 lf), ((ma 15), wI tC 5 (fun _ => 0)), ((ma 16), wI tC 5 (fun _ => 0)), ((ma 18), wI tC 5 (fun _ => 0)), ((ma 19), wI tC 25 (fun _ => 0)), ((ma 20), wZ tC 25 (fun _ => 0)), ((ma 23), wI tC 41 (fun _ => 0)), ((ma 24), wI tC 41 (fun _ => 0)), ((ma 25), wI tC 41 (fun _ => 0)), ((ma 26), wI tC 41 (fun _ => 0)), ((ma 27), wI tC 41 (fun _ => 0)), ((ma 28), wI tC 5 (fun _ => 0)), (o, wL tC 1 u_4)]) (w1 := [(mo, .inr (6, [.int u_9, .int 1, .ref (ma 2), .ref (ma 3), .ref (ma 4), .ref (ma 5), .ref (ma 6), .ref (ma 7), .ref (ma 8), .ref (ma 9), .ref (ma 10), .ref (ma 11), .ref (ma 12), .ref (ma 13), .ref (ma 14), .ref (ma 15), .ref (ma 16), .ref (ma 17), .ref (ma 18), .ref (ma 19), .ref (ma 20), .ref (ma 21), .int l9_10, .ref (ma 23), .ref (ma 24), .ref (ma 25), .ref (ma 26), .ref (ma 27), .ref (ma 28)]))]) hP hD [5, 14] [0, 1, 2, 3, 4, 6, 7, 8, 9, 10, 11, 12, 13, 15, 16, 17, 18, 19, 20, 21, 22, 23, 24, 25, 26] rfl rfl (by decide) (by decide) hk1 hFc hP1 hD1
    generalize H1 = H at hP hS ⊢
    have hP : va_P D vwCl [(a2, wI tC 5 cb), (a3, .inr (0, [.int 0, .ref dz, .int 0])), (a4, wS tC 5 (fun _ => none)), (f, .inr (3, [.ref e1, .ref e2, .int 5, .int 0])), (e1, wI tC 0 (fun _ => 0)), ((ma 2), wI tC 600 (fun _ => 0)), ((ma 6), wI tC 600 zf), ((ma 7), wI tC 600 (fun _ => 0)), ((ma 8), wI tC 5 (fun _ => 0)), ((ma 9), wI tC 5 (fun _ => 0)), ((ma 10), wI tC 5 pf), ((ma 12), wZ tC 5 (fun _ => 0)), ((ma 13), wI tC 5 lf), ((ma 15), wI tC 5 (fun _ => 0)), ((ma 16), wI tC 5 (fun _ => 0)), ((ma 18), wI tC 5 (fun _ => 0)), ((ma 19), wI tC 25 (fun _ => 0)), ((ma 20), wZ tC 25 (fun _ => 0)), ((ma 23), wI tC 41 (fun _ => 0)), ((ma 24), wI tC 41 (fun _ => 0)), ((ma 25), wI tC 41 (fun _ => 0)), ((ma 26), wI tC 41 (fun _ => 0)), ((ma 27), wI tC 41 (fun _ => 0)), ((ma 28), wI tC 5 (fun _ => 0)), (o, wL tC 1 u_4), (mo, .inr (6, [.int u_9, .int 1, .ref (ma 2), .ref (ma 3), .ref (ma 4), .ref (ma 5), .ref (ma 6), .ref (ma 7), .ref (ma 8), .ref (ma 9), .ref (ma 10), .ref (ma 11), .ref (ma 12), .ref (ma 13), .ref (ma 14), .ref (ma 15), .ref (ma 16), .ref (ma 17), .ref (ma 18), .ref (ma 19), .ref (ma 20), .ref (ma 21), .int l9_10, .ref (ma 23), .ref (ma 24), .ref (ma 25), .ref (ma 26), .ref (ma 27), .ref (ma 28)]))] H := hP
    have hD : va_D A [(a2, wI tC 5 cb), (a3, .inr (0, [.int 0, .ref dz, .int 0])), (a4, wS tC 5 (fun _ => none)), (f, .inr (3, [.ref e1, .ref e2, .int 5, .int 0])), (e1, wI tC 0 (fun _ => 0)), ((ma 2), wI tC 600 (fun _ => 0)), ((ma 6), wI tC 600 zf), ((ma 7), wI tC 600 (fun _ => 0)), ((ma 8), wI tC 5 (fun _ => 0)), ((ma 9), wI tC 5 (fun _ => 0)), ((ma 10), wI tC 5 pf), ((ma 12), wZ tC 5 (fun _ => 0)), ((ma 13), wI tC 5 lf), ((ma 15), wI tC 5 (fun _ => 0)), ((ma 16), wI tC 5 (fun _ => 0)), ((ma 18), wI tC 5 (fun _ => 0)), ((ma 19), wI tC 25 (fun _ => 0)), ((ma 20), wZ tC 25 (fun _ => 0)), ((ma 23), wI tC 41 (fun _ => 0)), ((ma 24), wI tC 41 (fun _ => 0)), ((ma 25), wI tC 41 (fun _ => 0)), ((ma 26), wI tC 41 (fun _ => 0)), ((ma 27), wI tC 41 (fun _ => 0)), ((ma 28), wI tC 5 (fun _ => 0)), (o, wL tC 1 u_4), (mo, .inr (6, [.int u_9, .int 1, .ref (ma 2), .ref (ma 3), .ref (ma 4), .ref (ma 5), .ref (ma 6), .ref (ma 7), .ref (ma 8), .ref (ma 9), .ref (ma 10), .ref (ma 11), .ref (ma 12), .ref (ma 13), .ref (ma 14), .ref (ma 15), .ref (ma 16), .ref (ma 17), .ref (ma 18), .ref (ma 19), .ref (ma 20), .ref (ma 21), .int l9_10, .ref (ma 23), .ref (ma 24), .ref (ma 25), .ref (ma 26), .ref (ma 27), .ref (ma 28)]))] := hD
    refine lv_istore (lv' := [(6, .int r_8), (5, .int r_3), (4, .int 0), (3, .ref o), (2, .ref mo), (1, .ref x), (0, .ref b)]) hx hb dL_law_418 hl (by decide) rfl (fun ls hl => ?_)
    refine lv_aload_n hx hb dL_law_420 rfl (lv_at hl 4 rfl) ?_
    have hPc := hP.sub (ws' := [(mo, .inr (6, [.int u_9, .int 1, .ref (ma 2), .ref (ma 3), .ref (ma 4), .ref (ma 5), .ref (ma 6), .ref (ma 7), .ref (ma 8), .ref (ma 9), .ref (ma 10), .ref (ma 11), .ref (ma 12), .ref (ma 13), .ref (ma 14), .ref (ma 15), .ref (ma 16), .ref (ma 17), .ref (ma 18), .ref (ma 19), .ref (ma 20), .ref (ma 21), .int l9_10, .ref (ma 23), .ref (ma 24), .ref (ma 25), .ref (ma 26), .ref (ma 27), .ref (ma 28)]))]) [25] rfl
    have hDc := hD.sub (ws' := [(mo, .inr (6, [.int u_9, .int 1, .ref (ma 2), .ref (ma 3), .ref (ma 4), .ref (ma 5), .ref (ma 6), .ref (ma 7), .ref (ma 8), .ref (ma 9), .ref (ma 10), .ref (ma 11), .ref (ma 12), .ref (ma 13), .ref (ma 14), .ref (ma 15), .ref (ma 16), .ref (ma 17), .ref (ma 18), .ref (ma 19), .ref (ma 20), .ref (ma 21), .int l9_10, .ref (ma 23), .ref (ma 24), .ref (ma 25), .ref (ma 26), .ref (ma 27), .ref (ma 28)]))]) [25] (by decide) rfl
    have hFc := va_free (wc := [(mo, .inr (6, [.int u_9, .int 1, .ref (ma 2), .ref (ma 3), .ref (ma 4), .ref (ma 5), .ref (ma 6), .ref (ma 7), .ref (ma 8), .ref (ma 9), .ref (ma 10), .ref (ma 11), .ref (ma 12), .ref (ma 13), .ref (ma 14), .ref (ma 15), .ref (ma 16), .ref (ma 17), .ref (ma 18), .ref (ma 19), .ref (ma 20), .ref (ma 21), .int l9_10, .ref (ma 23), .ref (ma 24), .ref (ma 25), .ref (ma 26), .ref (ma 27), .ref (ma 28)]))]) hD hS hA [25] rfl
    refine va_calli (va_runV (As := []) (rest := []) ⟨hx, hb, hml, hown, hts⟩ (c_X5_thrown l hlt D tC dz H.size mo ma u_9 l9_10 ) (cwV 0 hts gL_law_X5_thrown rfl rfl rfl (by decide +kernel) ⟨Nat.le_of_ble_eq_true rfl, Nat.le_of_ble_eq_true rfl⟩) ⟨pB_blind, va_recv hK hPc (ci := 6) (q0 := 0) rfl rfl, pB_at hPc hDc hK hN hE hS hFc⟩ rfl rfl hl.1 rfl (lv_room (Nat.le_of_ble_eq_true rfl)) dL_law_421 ⟨Nat.le_of_ble_eq_true rfl, Nat.le_of_ble_eq_true rfl⟩) hS (fun q _ h => hFc q h) hFc (fun r_12 u t H1 locs ht hvm hw hB hz1 hk1 hS => ?_)
    obtain ⟨hP1, _, hD1⟩ := hB
    have hw_13 := hw
    rw [ht] at hP1
    obtain ⟨hP, hD⟩ := va_join (wr := [(a2, wI tC 5 cb), (a3, .inr (0, [.int 0, .ref dz, .int 0])), (a4, wS tC 5 (fun _ => none)), (f, .inr (3, [.ref e1, .ref e2, .int 5, .int 0])), (e1, wI tC 0 (fun _ => 0)), ((ma 2), wI tC 600 (fun _ => 0)), ((ma 6), wI tC 600 zf), ((ma 7), wI tC 600 (fun _ => 0)), ((ma 8), wI tC 5 (fun _ => 0)), ((ma 9), wI tC 5 (fun _ => 0)), ((ma 10), wI tC 5 pf), ((ma 12), wZ tC 5 (fun _ => 0)), ((ma 13), wI tC 5 lf), ((ma 15), wI tC 5 (fun _ => 0)), ((ma 16), wI tC 5 (fun _ => 0)), ((ma 18), wI tC 5 (fun _ => 0)), ((ma 19), wI tC 25 (fun _ => 0)), ((ma 20), wZ tC 25 (fun _ => 0)), ((ma 23), wI tC 41 (fun _ => 0)), ((ma 24), wI tC 41 (fun _ => 0)), ((ma 25), wI tC 41 (fun _ => 0)), ((ma 26), wI tC 41 (fun _ => 0)), ((ma 27), wI tC 41 (fun _ => 0)), ((ma 28), wI tC 5 (fun _ => 0)), (o, wL tC 1 u_4)]) (w1 := [(mo, .inr (6, [.int u_9, .int 1, .ref (ma 2), .ref (ma 3), .ref (ma 4), .ref (ma 5), .ref (ma 6), .ref (ma 7), .ref (ma 8), .ref (ma 9), .ref (ma 10), .ref (ma 11), .ref (ma 12), .ref (ma 13), .ref (ma 14), .ref (ma 15), .ref (ma 16), .ref (ma 17), .ref (ma 18), .ref (ma 19), .ref (ma 20), .ref (ma 21), .int l9_10, .ref (ma 23), .ref (ma 24), .ref (ma 25), .ref (ma 26), .ref (ma 27), .ref (ma 28)]))]) hP hD [25] [0, 1, 2, 3, 4, 5, 6, 7, 8, 9, 10, 11, 12, 13, 14, 15, 16, 17, 18, 19, 20, 21, 22, 23, 24] rfl rfl (by decide) (by decide) hk1 hFc hP1 hD1
    generalize H1 = H at hP hS ⊢
    have hP : va_P D vwCl [(a2, wI tC 5 cb), (a3, .inr (0, [.int 0, .ref dz, .int 0])), (a4, wS tC 5 (fun _ => none)), (f, .inr (3, [.ref e1, .ref e2, .int 5, .int 0])), (e1, wI tC 0 (fun _ => 0)), ((ma 2), wI tC 600 (fun _ => 0)), ((ma 6), wI tC 600 zf), ((ma 7), wI tC 600 (fun _ => 0)), ((ma 8), wI tC 5 (fun _ => 0)), ((ma 9), wI tC 5 (fun _ => 0)), ((ma 10), wI tC 5 pf), ((ma 12), wZ tC 5 (fun _ => 0)), ((ma 13), wI tC 5 lf), ((ma 15), wI tC 5 (fun _ => 0)), ((ma 16), wI tC 5 (fun _ => 0)), ((ma 18), wI tC 5 (fun _ => 0)), ((ma 19), wI tC 25 (fun _ => 0)), ((ma 20), wZ tC 25 (fun _ => 0)), ((ma 23), wI tC 41 (fun _ => 0)), ((ma 24), wI tC 41 (fun _ => 0)), ((ma 25), wI tC 41 (fun _ => 0)), ((ma 26), wI tC 41 (fun _ => 0)), ((ma 27), wI tC 41 (fun _ => 0)), ((ma 28), wI tC 5 (fun _ => 0)), (o, wL tC 1 u_4), (mo, .inr (6, [.int u_9, .int 1, .ref (ma 2), .ref (ma 3), .ref (ma 4), .ref (ma 5), .ref (ma 6), .ref (ma 7), .ref (ma 8), .ref (ma 9), .ref (ma 10), .ref (ma 11), .ref (ma 12), .ref (ma 13), .ref (ma 14), .ref (ma 15), .ref (ma 16), .ref (ma 17), .ref (ma 18), .ref (ma 19), .ref (ma 20), .ref (ma 21), .int l9_10, .ref (ma 23), .ref (ma 24), .ref (ma 25), .ref (ma 26), .ref (ma 27), .ref (ma 28)]))] H := hP
    have hD : va_D A [(a2, wI tC 5 cb), (a3, .inr (0, [.int 0, .ref dz, .int 0])), (a4, wS tC 5 (fun _ => none)), (f, .inr (3, [.ref e1, .ref e2, .int 5, .int 0])), (e1, wI tC 0 (fun _ => 0)), ((ma 2), wI tC 600 (fun _ => 0)), ((ma 6), wI tC 600 zf), ((ma 7), wI tC 600 (fun _ => 0)), ((ma 8), wI tC 5 (fun _ => 0)), ((ma 9), wI tC 5 (fun _ => 0)), ((ma 10), wI tC 5 pf), ((ma 12), wZ tC 5 (fun _ => 0)), ((ma 13), wI tC 5 lf), ((ma 15), wI tC 5 (fun _ => 0)), ((ma 16), wI tC 5 (fun _ => 0)), ((ma 18), wI tC 5 (fun _ => 0)), ((ma 19), wI tC 25 (fun _ => 0)), ((ma 20), wZ tC 25 (fun _ => 0)), ((ma 23), wI tC 41 (fun _ => 0)), ((ma 24), wI tC 41 (fun _ => 0)), ((ma 25), wI tC 41 (fun _ => 0)), ((ma 26), wI tC 41 (fun _ => 0)), ((ma 27), wI tC 41 (fun _ => 0)), ((ma 28), wI tC 5 (fun _ => 0)), (o, wL tC 1 u_4), (mo, .inr (6, [.int u_9, .int 1, .ref (ma 2), .ref (ma 3), .ref (ma 4), .ref (ma 5), .ref (ma 6), .ref (ma 7), .ref (ma 8), .ref (ma 9), .ref (ma 10), .ref (ma 11), .ref (ma 12), .ref (ma 13), .ref (ma 14), .ref (ma 15), .ref (ma 16), .ref (ma 17), .ref (ma 18), .ref (ma 19), .ref (ma 20), .ref (ma 21), .int l9_10, .ref (ma 23), .ref (ma 24), .ref (ma 25), .ref (ma 26), .ref (ma 27), .ref (ma 28)]))] := hD
    refine lv_iload hx hb dL_law_424 (lv_at hl 1 rfl) ?_
    refine lv_icmp_eq (tgt := 431) hx hb dL_law_426 (by decide) (fun _ => ?_) (fun hc => absurd (hw_13.trans (hw_11.trans hw_5.symm)) hc)
    refine lv_iload hx hb dL_law_431 (lv_at hl 1 rfl) ?_
    refine lv_if_ne (tgt := 455) hx hb dL_law_433 (by decide) (fun _ => ?_) (fun hc => absurd hc ((by rw [hw_5]; split <;> decide)))
    refine lv_goto (tgt := 1332) hx hb dL_law_455 (by decide) ?_
    exact lw_tail C1 hAe hS (lv_sub hl [2, 6] rfl) (by decide) (by decide)
set_option maxHeartbeats 8000000 in
set_option maxRecDepth 100000 in
theorem lc_4 {p : Program} {l : Launch} {e : Env} {s : State} {m : MethodId} {below : List Frame} {meth : Method} {c : Code} {b : Nat} {xs : Nat → Int32} (hlt : l.stackTraces = false) (C0 : lw_At p s m meth c b 5 xs) (D : va_G) (tC : Nat → ClassId) (dz x a1 a2 a3 a4 f e1 e2 : Nat) (qs : Nat → Nat) (fs : Nat → Option Nat) (cb : Nat → Int32) (mo : Nat) (ma : Nat → Nat) (pf lf op zf : Nat → Int32) (o : Nat) (hfs : ∀ i : Nat, i < 5 → fs i = some (qs i)) (hcb : ∀ i : Nat, i < 5 → cb i = cbv i) (hpf : ∀ i : Nat, i < 5 → pf i = -1) (hlf : ∀ i : Nat, i < 5 → lf i = -1) (hop : ∀ i : Nat, i < 5 → op i = -1) (hzf : zf 0 = 5) (hK : va_K D vwCl (tY tC) s) (hN : eN s) (hE : eH dz (fun q : Nat => s.heap.size ≤ q) s s.heap) (H : Heap) (locs : List Loc) (hP : va_P D vwCl [(x, .inr (5, [.ref a1, .ref a2, .ref a3, .ref a4])), (a1, wT tC 5 fs), (a2, wI tC 5 cb), (a3, .inr (0, [.int 0, .ref dz, .int 0])), (a4, wS tC 5 (fun _ => none)), (f, .inr (3, [.ref e1, .ref e2, .int 5, .int 0])), (e1, wI tC 0 (fun _ => 0)), ((qs 0), .inr (4, [.int 0, .int 1, .ref f, .int 0, .int (-1), .null, .int (-1), .null])), ((qs 1), .inr (4, [.int 1, .int 1, .ref f, .int 0, .int (-1), .null, .int (-1), .null])), ((qs 2), .inr (4, [.int 2, .int 1, .ref f, .int 0, .int (-1), .null, .int (-1), .null])), ((qs 3), .inr (4, [.int 3, .int 1, .ref f, .int 0, .int (-1), .null, .int (-1), .null])), ((qs 4), .inr (4, [.int 4, .int 1, .ref f, .int 0, .int (-1), .null, .int (-1), .null])), (mo, .inr (6, [.int 0, .int 1, .ref (ma 2), .ref (ma 3), .ref (ma 4), .ref (ma 5), .ref (ma 6), .ref (ma 7), .ref (ma 8), .ref (ma 9), .ref (ma 10), .ref (ma 11), .ref (ma 12), .ref (ma 13), .ref (ma 14), .ref (ma 15), .ref (ma 16), .ref (ma 17), .ref (ma 18), .ref (ma 19), .ref (ma 20), .ref (ma 21), .int 0, .ref (ma 23), .ref (ma 24), .ref (ma 25), .ref (ma 26), .ref (ma 27), .ref (ma 28)])), ((ma 2), wI tC 600 (fun _ => 0)), ((ma 6), wI tC 600 zf), ((ma 7), wI tC 600 (fun _ => 0)), ((ma 8), wI tC 5 (fun _ => 0)), ((ma 9), wI tC 5 (fun _ => 0)), ((ma 10), wI tC 5 pf), ((ma 12), wZ tC 5 (fun _ => 0)), ((ma 13), wI tC 5 lf), ((ma 14), wI tC 5 op), ((ma 15), wI tC 5 (fun _ => 0)), ((ma 16), wI tC 5 (fun _ => 0)), ((ma 18), wI tC 5 (fun _ => 0)), ((ma 19), wI tC 25 (fun _ => 0)), ((ma 20), wZ tC 25 (fun _ => 0)), ((ma 23), wI tC 41 (fun _ => 0)), ((ma 24), wI tC 41 (fun _ => 0)), ((ma 25), wI tC 41 (fun _ => 0)), ((ma 26), wI tC 41 (fun _ => 0)), ((ma 27), wI tC 41 (fun _ => 0)), ((ma 28), wI tC 5 (fun _ => 0)), (o, wL tC 1 (fun _ => 0))] H) (hD : va_D (fun q : Nat => s.heap.size ≤ q) [(x, .inr (5, [.ref a1, .ref a2, .ref a3, .ref a4])), (a1, wT tC 5 fs), (a2, wI tC 5 cb), (a3, .inr (0, [.int 0, .ref dz, .int 0])), (a4, wS tC 5 (fun _ => none)), (f, .inr (3, [.ref e1, .ref e2, .int 5, .int 0])), (e1, wI tC 0 (fun _ => 0)), ((qs 0), .inr (4, [.int 0, .int 1, .ref f, .int 0, .int (-1), .null, .int (-1), .null])), ((qs 1), .inr (4, [.int 1, .int 1, .ref f, .int 0, .int (-1), .null, .int (-1), .null])), ((qs 2), .inr (4, [.int 2, .int 1, .ref f, .int 0, .int (-1), .null, .int (-1), .null])), ((qs 3), .inr (4, [.int 3, .int 1, .ref f, .int 0, .int (-1), .null, .int (-1), .null])), ((qs 4), .inr (4, [.int 4, .int 1, .ref f, .int 0, .int (-1), .null, .int (-1), .null])), (mo, .inr (6, [.int 0, .int 1, .ref (ma 2), .ref (ma 3), .ref (ma 4), .ref (ma 5), .ref (ma 6), .ref (ma 7), .ref (ma 8), .ref (ma 9), .ref (ma 10), .ref (ma 11), .ref (ma 12), .ref (ma 13), .ref (ma 14), .ref (ma 15), .ref (ma 16), .ref (ma 17), .ref (ma 18), .ref (ma 19), .ref (ma 20), .ref (ma 21), .int 0, .ref (ma 23), .ref (ma 24), .ref (ma 25), .ref (ma 26), .ref (ma 27), .ref (ma 28)])), ((ma 2), wI tC 600 (fun _ => 0)), ((ma 6), wI tC 600 zf), ((ma 7), wI tC 600 (fun _ => 0)), ((ma 8), wI tC 5 (fun _ => 0)), ((ma 9), wI tC 5 (fun _ => 0)), ((ma 10), wI tC 5 pf), ((ma 12), wZ tC 5 (fun _ => 0)), ((ma 13), wI tC 5 lf), ((ma 14), wI tC 5 op), ((ma 15), wI tC 5 (fun _ => 0)), ((ma 16), wI tC 5 (fun _ => 0)), ((ma 18), wI tC 5 (fun _ => 0)), ((ma 19), wI tC 25 (fun _ => 0)), ((ma 20), wZ tC 25 (fun _ => 0)), ((ma 23), wI tC 41 (fun _ => 0)), ((ma 24), wI tC 41 (fun _ => 0)), ((ma 25), wI tC 41 (fun _ => 0)), ((ma 26), wI tC 41 (fun _ => 0)), ((ma 27), wI tC 41 (fun _ => 0)), ((ma 28), wI tC 5 (fun _ => 0)), (o, wL tC 1 (fun _ => 0))]) (hS : va_S (fun q : Nat => s.heap.size ≤ q) s.heap H locs) (ls : Array Slot) (hl : lv_has ls 7 [(4, .int 0), (3, .ref o), (2, .ref mo), (1, .ref x), (0, .ref b)]) : W p l e room_1 s m #[Value.ref b] below meth c H locs 41 4016 (lw_Z below #[Value.ref b] s) (F0 m 458 ls []) := by
  have C1 := C0
  obtain ⟨hx, hb, hr, hml, hown, hts0, hX, hbl, hlocks, hgv⟩ := C0
  have hts : ∀ w ∈ wsL_law, w.before #[Value.ref b] s = true := fun w h => hts0 w (wsL_law_in w h)
  have hown : s.vm.findClass RL = some m.cls := hown
  obtain ⟨A, hAe⟩ : ∃ A : Nat → Prop, A = fun q : Nat => s.heap.size ≤ q := ⟨_, rfl⟩
  rw [← hAe] at hE hD hS
  have hA : ∀ q : Nat, s.heap.size ≤ q → A q := fun q h => by rw [hAe]; exact h
  have hbA : ¬ A b := by rw [hAe]; exact Nat.not_le.mpr hbl
  obtain ⟨j, hj, hjp⟩ := pick5 (xs 1)
  have hP : va_P D vwCl [(x, .inr (5, [.ref a1, .ref a2, .ref a3, .ref a4])), (a1, wT tC 5 fs), (a2, wI tC 5 cb), (a3, .inr (0, [.int 0, .ref dz, .int 0])), (a4, wS tC 5 (fun _ => none)), (f, .inr (3, [.ref e1, .ref e2, .int 5, .int 0])), (e1, wI tC 0 (fun _ => 0)), ((qs j), .inr (4, [.int (nI j), .int 1, .ref f, .int 0, .int (-1), .null, .int (-1), .null])), (mo, .inr (6, [.int 0, .int 1, .ref (ma 2), .ref (ma 3), .ref (ma 4), .ref (ma 5), .ref (ma 6), .ref (ma 7), .ref (ma 8), .ref (ma 9), .ref (ma 10), .ref (ma 11), .ref (ma 12), .ref (ma 13), .ref (ma 14), .ref (ma 15), .ref (ma 16), .ref (ma 17), .ref (ma 18), .ref (ma 19), .ref (ma 20), .ref (ma 21), .int 0, .ref (ma 23), .ref (ma 24), .ref (ma 25), .ref (ma 26), .ref (ma 27), .ref (ma 28)])), ((ma 2), wI tC 600 (fun _ => 0)), ((ma 6), wI tC 600 zf), ((ma 7), wI tC 600 (fun _ => 0)), ((ma 8), wI tC 5 (fun _ => 0)), ((ma 9), wI tC 5 (fun _ => 0)), ((ma 10), wI tC 5 pf), ((ma 12), wZ tC 5 (fun _ => 0)), ((ma 13), wI tC 5 lf), ((ma 14), wI tC 5 op), ((ma 15), wI tC 5 (fun _ => 0)), ((ma 16), wI tC 5 (fun _ => 0)), ((ma 18), wI tC 5 (fun _ => 0)), ((ma 19), wI tC 25 (fun _ => 0)), ((ma 20), wZ tC 25 (fun _ => 0)), ((ma 23), wI tC 41 (fun _ => 0)), ((ma 24), wI tC 41 (fun _ => 0)), ((ma 25), wI tC 41 (fun _ => 0)), ((ma 26), wI tC 41 (fun _ => 0)), ((ma 27), wI tC 41 (fun _ => 0)), ((ma 28), wI tC 5 (fun _ => 0)), (o, wL tC 1 (fun _ => 0))] H := by
    rcases (show j = 0 ∨ j = 1 ∨ j = 2 ∨ j = 3 ∨ j = 4 by omega) with rfl | rfl | rfl | rfl | rfl
    · exact hP.sub [0, 1, 2, 3, 4, 5, 6, 7, 12, 13, 14, 15, 16, 17, 18, 19, 20, 21, 22, 23, 24, 25, 26, 27, 28, 29, 30, 31, 32, 33] rfl
    · exact hP.sub [0, 1, 2, 3, 4, 5, 6, 8, 12, 13, 14, 15, 16, 17, 18, 19, 20, 21, 22, 23, 24, 25, 26, 27, 28, 29, 30, 31, 32, 33] rfl
    · exact hP.sub [0, 1, 2, 3, 4, 5, 6, 9, 12, 13, 14, 15, 16, 17, 18, 19, 20, 21, 22, 23, 24, 25, 26, 27, 28, 29, 30, 31, 32, 33] rfl
    · exact hP.sub [0, 1, 2, 3, 4, 5, 6, 10, 12, 13, 14, 15, 16, 17, 18, 19, 20, 21, 22, 23, 24, 25, 26, 27, 28, 29, 30, 31, 32, 33] rfl
    · exact hP.sub [0, 1, 2, 3, 4, 5, 6, 11, 12, 13, 14, 15, 16, 17, 18, 19, 20, 21, 22, 23, 24, 25, 26, 27, 28, 29, 30, 31, 32, 33] rfl
  have hD : va_D A [(x, .inr (5, [.ref a1, .ref a2, .ref a3, .ref a4])), (a1, wT tC 5 fs), (a2, wI tC 5 cb), (a3, .inr (0, [.int 0, .ref dz, .int 0])), (a4, wS tC 5 (fun _ => none)), (f, .inr (3, [.ref e1, .ref e2, .int 5, .int 0])), (e1, wI tC 0 (fun _ => 0)), ((qs j), .inr (4, [.int (nI j), .int 1, .ref f, .int 0, .int (-1), .null, .int (-1), .null])), (mo, .inr (6, [.int 0, .int 1, .ref (ma 2), .ref (ma 3), .ref (ma 4), .ref (ma 5), .ref (ma 6), .ref (ma 7), .ref (ma 8), .ref (ma 9), .ref (ma 10), .ref (ma 11), .ref (ma 12), .ref (ma 13), .ref (ma 14), .ref (ma 15), .ref (ma 16), .ref (ma 17), .ref (ma 18), .ref (ma 19), .ref (ma 20), .ref (ma 21), .int 0, .ref (ma 23), .ref (ma 24), .ref (ma 25), .ref (ma 26), .ref (ma 27), .ref (ma 28)])), ((ma 2), wI tC 600 (fun _ => 0)), ((ma 6), wI tC 600 zf), ((ma 7), wI tC 600 (fun _ => 0)), ((ma 8), wI tC 5 (fun _ => 0)), ((ma 9), wI tC 5 (fun _ => 0)), ((ma 10), wI tC 5 pf), ((ma 12), wZ tC 5 (fun _ => 0)), ((ma 13), wI tC 5 lf), ((ma 14), wI tC 5 op), ((ma 15), wI tC 5 (fun _ => 0)), ((ma 16), wI tC 5 (fun _ => 0)), ((ma 18), wI tC 5 (fun _ => 0)), ((ma 19), wI tC 25 (fun _ => 0)), ((ma 20), wZ tC 25 (fun _ => 0)), ((ma 23), wI tC 41 (fun _ => 0)), ((ma 24), wI tC 41 (fun _ => 0)), ((ma 25), wI tC 41 (fun _ => 0)), ((ma 26), wI tC 41 (fun _ => 0)), ((ma 27), wI tC 41 (fun _ => 0)), ((ma 28), wI tC 5 (fun _ => 0)), (o, wL tC 1 (fun _ => 0))] := by
    rcases (show j = 0 ∨ j = 1 ∨ j = 2 ∨ j = 3 ∨ j = 4 by omega) with rfl | rfl | rfl | rfl | rfl
    · exact hD.sub [0, 1, 2, 3, 4, 5, 6, 7, 12, 13, 14, 15, 16, 17, 18, 19, 20, 21, 22, 23, 24, 25, 26, 27, 28, 29, 30, 31, 32, 33] (by decide) rfl
    · exact hD.sub [0, 1, 2, 3, 4, 5, 6, 8, 12, 13, 14, 15, 16, 17, 18, 19, 20, 21, 22, 23, 24, 25, 26, 27, 28, 29, 30, 31, 32, 33] (by decide) rfl
    · exact hD.sub [0, 1, 2, 3, 4, 5, 6, 9, 12, 13, 14, 15, 16, 17, 18, 19, 20, 21, 22, 23, 24, 25, 26, 27, 28, 29, 30, 31, 32, 33] (by decide) rfl
    · exact hD.sub [0, 1, 2, 3, 4, 5, 6, 10, 12, 13, 14, 15, 16, 17, 18, 19, 20, 21, 22, 23, 24, 25, 26, 27, 28, 29, 30, 31, 32, 33] (by decide) rfl
    · exact hD.sub [0, 1, 2, 3, 4, 5, 6, 11, 12, 13, 14, 15, 16, 17, 18, 19, 20, 21, 22, 23, 24, 25, 26, 27, 28, 29, 30, 31, 32, 33] (by decide) rfl
  refine lv_aload_n hx hb dL_law_458 rfl (lv_at hl 3 rfl) ?_
  refine lv_aload_n hx hb dL_law_459 rfl (lv_at hl 4 rfl) ?_
  refine lv_iload hx hb dL_law_460 (lv_at hl 0 rfl) ?_
  refine lv_iconst (v := 1) hx hb dL_law_462 (by decide) ?_
  refine lv_iadd hx hb dL_law_463 ?_
  refine lv_topi (fun z_1 ez_1 => ?_)
  have fz_1 : z_1 = 1 := ez_1.trans (by decide)
  subst fz_1
  refine va_sld hx hb hX hbl hbA hS (by unfold vp_in; decide) dL_law_464 ?_
  refine lv_topi (fun z_2 ez_2 => ?_)
  have fz_2 : z_2 = xs 1 := ez_2.trans (rfl)
  subst fz_2
  have hPc := hP.sub (ws' := [(x, .inr (5, [.ref a1, .ref a2, .ref a3, .ref a4])), (a1, wT tC 5 fs), ((qs j), .inr (4, [.int (nI j), .int 1, .ref f, .int 0, .int (-1), .null, .int (-1), .null]))]) [0, 1, 7] rfl
  have hDc := hD.sub (ws' := [(x, .inr (5, [.ref a1, .ref a2, .ref a3, .ref a4])), (a1, wT tC 5 fs), ((qs j), .inr (4, [.int (nI j), .int 1, .ref f, .int 0, .int (-1), .null, .int (-1), .null]))]) [0, 1, 7] (by decide) rfl
  have hFc := va_free (wc := [(x, .inr (5, [.ref a1, .ref a2, .ref a3, .ref a4])), (a1, wT tC 5 fs), ((qs j), .inr (4, [.int (nI j), .int 1, .ref f, .int 0, .int (-1), .null, .int (-1), .null]))]) hD hS hA [0, 1, 7] rfl
  refine vx_calli (vx_runSX (As := [.ref x, .int (xs 1)]) (rest := []) ⟨hx, hb, hml, hown, hts⟩ (c_L_giveUp l hlt D tC dz H.size x a1 a2 a3 a4 fs (xs 1) f (qs j) (nI j) (fun k hk ek => by rw [hfs k hk, hjp k hk ek])) (vx_cwSW 2 hts gL_law_L_giveUp rfl rfl rfl (by decide +kernel) ⟨Nat.le_of_ble_eq_true rfl, Nat.le_of_ble_eq_true rfl⟩) ⟨pB_blind, pB_at hPc hDc hK hN hE hS hFc⟩ rfl rfl hl.1 rfl (lv_room (Nat.le_of_ble_eq_true rfl)) dL_law_465 ⟨Nat.le_of_ble_eq_true rfl, Nat.le_of_ble_eq_true rfl⟩) hS (fun q _ h => hFc q h) hFc (fun q _ h => hFc q h) (fun E ce q9 u t H1 locs ht hvm hpx hPE hz1 hk1 hS hce hcv hcl => ?_) (fun r_3 u t H1 locs ht hvm hw hB hz1 hk1 hS => ?_)
  · skip
    exact False.elim hPE
  · skip
    obtain ⟨hP1, _, hD1⟩ := hB
    have hw_4 := hw
    rw [ht] at hP1
    obtain ⟨hP, hD⟩ := va_join (wr := [(a2, wI tC 5 cb), (a3, .inr (0, [.int 0, .ref dz, .int 0])), (a4, wS tC 5 (fun _ => none)), (f, .inr (3, [.ref e1, .ref e2, .int 5, .int 0])), (e1, wI tC 0 (fun _ => 0)), (mo, .inr (6, [.int 0, .int 1, .ref (ma 2), .ref (ma 3), .ref (ma 4), .ref (ma 5), .ref (ma 6), .ref (ma 7), .ref (ma 8), .ref (ma 9), .ref (ma 10), .ref (ma 11), .ref (ma 12), .ref (ma 13), .ref (ma 14), .ref (ma 15), .ref (ma 16), .ref (ma 17), .ref (ma 18), .ref (ma 19), .ref (ma 20), .ref (ma 21), .int 0, .ref (ma 23), .ref (ma 24), .ref (ma 25), .ref (ma 26), .ref (ma 27), .ref (ma 28)])), ((ma 2), wI tC 600 (fun _ => 0)), ((ma 6), wI tC 600 zf), ((ma 7), wI tC 600 (fun _ => 0)), ((ma 8), wI tC 5 (fun _ => 0)), ((ma 9), wI tC 5 (fun _ => 0)), ((ma 10), wI tC 5 pf), ((ma 12), wZ tC 5 (fun _ => 0)), ((ma 13), wI tC 5 lf), ((ma 14), wI tC 5 op), ((ma 15), wI tC 5 (fun _ => 0)), ((ma 16), wI tC 5 (fun _ => 0)), ((ma 18), wI tC 5 (fun _ => 0)), ((ma 19), wI tC 25 (fun _ => 0)), ((ma 20), wZ tC 25 (fun _ => 0)), ((ma 23), wI tC 41 (fun _ => 0)), ((ma 24), wI tC 41 (fun _ => 0)), ((ma 25), wI tC 41 (fun _ => 0)), ((ma 26), wI tC 41 (fun _ => 0)), ((ma 27), wI tC 41 (fun _ => 0)), ((ma 28), wI tC 5 (fun _ => 0)), (o, wL tC 1 (fun _ => 0))]) (w1 := []) hP hD [0, 1, 7] [2, 3, 4, 5, 6, 8, 9, 10, 11, 12, 13, 14, 15, 16, 17, 18, 19, 20, 21, 22, 23, 24, 25, 26, 27, 28, 29] rfl rfl (by decide) (by decide) hk1 hFc hP1 hD1
    generalize H1 = H at hP hS ⊢
    have hP : va_P D vwCl [(a2, wI tC 5 cb), (a3, .inr (0, [.int 0, .ref dz, .int 0])), (a4, wS tC 5 (fun _ => none)), (f, .inr (3, [.ref e1, .ref e2, .int 5, .int 0])), (e1, wI tC 0 (fun _ => 0)), (mo, .inr (6, [.int 0, .int 1, .ref (ma 2), .ref (ma 3), .ref (ma 4), .ref (ma 5), .ref (ma 6), .ref (ma 7), .ref (ma 8), .ref (ma 9), .ref (ma 10), .ref (ma 11), .ref (ma 12), .ref (ma 13), .ref (ma 14), .ref (ma 15), .ref (ma 16), .ref (ma 17), .ref (ma 18), .ref (ma 19), .ref (ma 20), .ref (ma 21), .int 0, .ref (ma 23), .ref (ma 24), .ref (ma 25), .ref (ma 26), .ref (ma 27), .ref (ma 28)])), ((ma 2), wI tC 600 (fun _ => 0)), ((ma 6), wI tC 600 zf), ((ma 7), wI tC 600 (fun _ => 0)), ((ma 8), wI tC 5 (fun _ => 0)), ((ma 9), wI tC 5 (fun _ => 0)), ((ma 10), wI tC 5 pf), ((ma 12), wZ tC 5 (fun _ => 0)), ((ma 13), wI tC 5 lf), ((ma 14), wI tC 5 op), ((ma 15), wI tC 5 (fun _ => 0)), ((ma 16), wI tC 5 (fun _ => 0)), ((ma 18), wI tC 5 (fun _ => 0)), ((ma 19), wI tC 25 (fun _ => 0)), ((ma 20), wZ tC 25 (fun _ => 0)), ((ma 23), wI tC 41 (fun _ => 0)), ((ma 24), wI tC 41 (fun _ => 0)), ((ma 25), wI tC 41 (fun _ => 0)), ((ma 26), wI tC 41 (fun _ => 0)), ((ma 27), wI tC 41 (fun _ => 0)), ((ma 28), wI tC 5 (fun _ => 0)), (o, wL tC 1 (fun _ => 0))] H := hP
    have hD : va_D A [(a2, wI tC 5 cb), (a3, .inr (0, [.int 0, .ref dz, .int 0])), (a4, wS tC 5 (fun _ => none)), (f, .inr (3, [.ref e1, .ref e2, .int 5, .int 0])), (e1, wI tC 0 (fun _ => 0)), (mo, .inr (6, [.int 0, .int 1, .ref (ma 2), .ref (ma 3), .ref (ma 4), .ref (ma 5), .ref (ma 6), .ref (ma 7), .ref (ma 8), .ref (ma 9), .ref (ma 10), .ref (ma 11), .ref (ma 12), .ref (ma 13), .ref (ma 14), .ref (ma 15), .ref (ma 16), .ref (ma 17), .ref (ma 18), .ref (ma 19), .ref (ma 20), .ref (ma 21), .int 0, .ref (ma 23), .ref (ma 24), .ref (ma 25), .ref (ma 26), .ref (ma 27), .ref (ma 28)])), ((ma 2), wI tC 600 (fun _ => 0)), ((ma 6), wI tC 600 zf), ((ma 7), wI tC 600 (fun _ => 0)), ((ma 8), wI tC 5 (fun _ => 0)), ((ma 9), wI tC 5 (fun _ => 0)), ((ma 10), wI tC 5 pf), ((ma 12), wZ tC 5 (fun _ => 0)), ((ma 13), wI tC 5 lf), ((ma 14), wI tC 5 op), ((ma 15), wI tC 5 (fun _ => 0)), ((ma 16), wI tC 5 (fun _ => 0)), ((ma 18), wI tC 5 (fun _ => 0)), ((ma 19), wI tC 25 (fun _ => 0)), ((ma 20), wZ tC 25 (fun _ => 0)), ((ma 23), wI tC 41 (fun _ => 0)), ((ma 24), wI tC 41 (fun _ => 0)), ((ma 25), wI tC 41 (fun _ => 0)), ((ma 26), wI tC 41 (fun _ => 0)), ((ma 27), wI tC 41 (fun _ => 0)), ((ma 28), wI tC 5 (fun _ => 0)), (o, wL tC 1 (fun _ => 0))] := hD
    refine W.widen (k := 43) (n := 4028) (by omega) (by omega) ?_
    refine lv_istore (lv' := [(5, .int r_3), (4, .int 0), (3, .ref o), (2, .ref mo), (1, .ref x), (0, .ref b)]) hx hb dL_law_468 hl (by decide) rfl (fun ls hl => ?_)
    refine lv_aload_n hx hb dL_law_470 rfl (lv_at hl 3 rfl) ?_
    refine lv_aload_n hx hb dL_law_471 rfl (lv_at hl 5 rfl) ?_
    refine lv_iload hx hb dL_law_472 (lv_at hl 1 rfl) ?_
    refine lv_iconst (v := 1) hx hb dL_law_474 (by decide) ?_
    refine lv_iadd hx hb dL_law_475 ?_
    refine lv_topi (fun z_5 ez_5 => ?_)
    have fz_5 : z_5 = 1 := ez_5.trans (by decide)
    subst fz_5
    refine va_sld hx hb hX hbl hbA hS (by unfold vp_in; decide) dL_law_476 ?_
    refine lv_topi (fun z_6 ez_6 => ?_)
    have fz_6 : z_6 = xs 1 := ez_6.trans (rfl)
    subst fz_6
    have hPc := hP.sub (ws' := [(mo, .inr (6, [.int 0, .int 1, .ref (ma 2), .ref (ma 3), .ref (ma 4), .ref (ma 5), .ref (ma 6), .ref (ma 7), .ref (ma 8), .ref (ma 9), .ref (ma 10), .ref (ma 11), .ref (ma 12), .ref (ma 13), .ref (ma 14), .ref (ma 15), .ref (ma 16), .ref (ma 17), .ref (ma 18), .ref (ma 19), .ref (ma 20), .ref (ma 21), .int 0, .ref (ma 23), .ref (ma 24), .ref (ma 25), .ref (ma 26), .ref (ma 27), .ref (ma 28)])), ((ma 14), wI tC 5 op)]) [5, 14] rfl
    have hDc := hD.sub (ws' := [(mo, .inr (6, [.int 0, .int 1, .ref (ma 2), .ref (ma 3), .ref (ma 4), .ref (ma 5), .ref (ma 6), .ref (ma 7), .ref (ma 8), .ref (ma 9), .ref (ma 10), .ref (ma 11), .ref (ma 12), .ref (ma 13), .ref (ma 14), .ref (ma 15), .ref (ma 16), .ref (ma 17), .ref (ma 18), .ref (ma 19), .ref (ma 20), .ref (ma 21), .int 0, .ref (ma 23), .ref (ma 24), .ref (ma 25), .ref (ma 26), .ref (ma 27), .ref (ma 28)])), ((ma 14), wI tC 5 op)]) [5, 14] (by decide) rfl
    have hFc := va_free (wc := [(mo, .inr (6, [.int 0, .int 1, .ref (ma 2), .ref (ma 3), .ref (ma 4), .ref (ma 5), .ref (ma 6), .ref (ma 7), .ref (ma 8), .ref (ma 9), .ref (ma 10), .ref (ma 11), .ref (ma 12), .ref (ma 13), .ref (ma 14), .ref (ma 15), .ref (ma 16), .ref (ma 17), .ref (ma 18), .ref (ma 19), .ref (ma 20), .ref (ma 21), .int 0, .ref (ma 23), .ref (ma 24), .ref (ma 25), .ref (ma 26), .ref (ma 27), .ref (ma 28)])), ((ma 14), wI tC 5 op)]) hD hS hA [5, 14] rfl
    refine va_callv (va_runV (As := [.int (xs 1)]) (rest := []) ⟨hx, hb, hml, hown, hts⟩ (c_X5_giveUp l hlt D tC dz H.size mo ma 0 op (xs 1) hop) (cwV 1 hts gL_law_X5_giveUp rfl rfl rfl (by decide +kernel) ⟨Nat.le_of_ble_eq_true rfl, Nat.le_of_ble_eq_true rfl⟩) ⟨pB_blind, va_recv hK hPc (ci := 6) (q0 := 0) rfl rfl, pB_at hPc hDc hK hN hE hS hFc⟩ rfl rfl hl.1 rfl (lv_room (Nat.le_of_ble_eq_true rfl)) dL_law_477 ⟨Nat.le_of_ble_eq_true rfl, Nat.le_of_ble_eq_true rfl⟩) hS (fun q _ h => hFc q h) hFc (fun u t H1 locs ht hvm hw hB hz1 hk1 hS => ?_)
    obtain ⟨u_8, rfl⟩ : ∃ z9, z9 = u := ⟨_, rfl⟩
    obtain ⟨l9_9, hP1, _, hD1⟩ := hB
    have hw_10 := hw
    rw [ht] at hP1
    obtain ⟨hP, hD⟩ := va_join (wr := [(a2, wI tC 5 cb), (a3, .inr (0, [.int 0, .ref dz, .int 0])), (a4, wS tC 5 (fun _ => none)), (f, .inr (3, [.ref e1, .ref e2, .int 5, .int 0])), (e1, wI tC 0 (fun _ => 0)), ((ma 2), wI tC 600 (fun _ => 0)), ((ma 6), wI tC 600 zf), ((ma 7), wI tC 600 (fun _ => 0)), ((ma 8), wI tC 5 (fun _ => 0)), ((ma 9), wI tC 5 (fun _ => 0)), ((ma 10), wI tC 5 pf), ((ma 12), wZ tC 5 (fun _ => 0)), ((ma 13), wI tC 5 lf), ((ma 15), wI tC 5 (fun _ => 0)), ((ma 16), wI tC 5 (fun _ => 0)), ((ma 18), wI tC 5 (fun _ => 0)), ((ma 19), wI tC 25 (fun _ => 0)), ((ma 20), wZ tC 25 (fun _ => 0)), ((ma 23), wI tC 41 (fun _ => 0)), ((ma 24), wI tC 41 (fun _ => 0)), ((ma 25), wI tC 41 (fun _ => 0)), ((ma 26), wI tC 41 (fun _ => 0)), ((ma 27), wI tC 41 (fun _ => 0)), ((ma 28), wI tC 5 (fun _ => 0)), (o, wL tC 1 (fun _ => 0))]) (w1 := [(mo, .inr (6, [.int u_8, .int 1, .ref (ma 2), .ref (ma 3), .ref (ma 4), .ref (ma 5), .ref (ma 6), .ref (ma 7), .ref (ma 8), .ref (ma 9), .ref (ma 10), .ref (ma 11), .ref (ma 12), .ref (ma 13), .ref (ma 14), .ref (ma 15), .ref (ma 16), .ref (ma 17), .ref (ma 18), .ref (ma 19), .ref (ma 20), .ref (ma 21), .int l9_9, .ref (ma 23), .ref (ma 24), .ref (ma 25), .ref (ma 26), .ref (ma 27), .ref (ma 28)]))]) hP hD [5, 14] [0, 1, 2, 3, 4, 6, 7, 8, 9, 10, 11, 12, 13, 15, 16, 17, 18, 19, 20, 21, 22, 23, 24, 25, 26] rfl rfl (by decide) (by decide) hk1 hFc hP1 hD1
    generalize H1 = H at hP hS ⊢
    have hP : va_P D vwCl [(a2, wI tC 5 cb), (a3, .inr (0, [.int 0, .ref dz, .int 0])), (a4, wS tC 5 (fun _ => none)), (f, .inr (3, [.ref e1, .ref e2, .int 5, .int 0])), (e1, wI tC 0 (fun _ => 0)), ((ma 2), wI tC 600 (fun _ => 0)), ((ma 6), wI tC 600 zf), ((ma 7), wI tC 600 (fun _ => 0)), ((ma 8), wI tC 5 (fun _ => 0)), ((ma 9), wI tC 5 (fun _ => 0)), ((ma 10), wI tC 5 pf), ((ma 12), wZ tC 5 (fun _ => 0)), ((ma 13), wI tC 5 lf), ((ma 15), wI tC 5 (fun _ => 0)), ((ma 16), wI tC 5 (fun _ => 0)), ((ma 18), wI tC 5 (fun _ => 0)), ((ma 19), wI tC 25 (fun _ => 0)), ((ma 20), wZ tC 25 (fun _ => 0)), ((ma 23), wI tC 41 (fun _ => 0)), ((ma 24), wI tC 41 (fun _ => 0)), ((ma 25), wI tC 41 (fun _ => 0)), ((ma 26), wI tC 41 (fun _ => 0)), ((ma 27), wI tC 41 (fun _ => 0)), ((ma 28), wI tC 5 (fun _ => 0)), (o, wL tC 1 (fun _ => 0)), (mo, .inr (6, [.int u_8, .int 1, .ref (ma 2), .ref (ma 3), .ref (ma 4), .ref (ma 5), .ref (ma 6), .ref (ma 7), .ref (ma 8), .ref (ma 9), .ref (ma 10), .ref (ma 11), .ref (ma 12), .ref (ma 13), .ref (ma 14), .ref (ma 15), .ref (ma 16), .ref (ma 17), .ref (ma 18), .ref (ma 19), .ref (ma 20), .ref (ma 21), .int l9_9, .ref (ma 23), .ref (ma 24), .ref (ma 25), .ref (ma 26), .ref (ma 27), .ref (ma 28)]))] H := hP
    have hD : va_D A [(a2, wI tC 5 cb), (a3, .inr (0, [.int 0, .ref dz, .int 0])), (a4, wS tC 5 (fun _ => none)), (f, .inr (3, [.ref e1, .ref e2, .int 5, .int 0])), (e1, wI tC 0 (fun _ => 0)), ((ma 2), wI tC 600 (fun _ => 0)), ((ma 6), wI tC 600 zf), ((ma 7), wI tC 600 (fun _ => 0)), ((ma 8), wI tC 5 (fun _ => 0)), ((ma 9), wI tC 5 (fun _ => 0)), ((ma 10), wI tC 5 pf), ((ma 12), wZ tC 5 (fun _ => 0)), ((ma 13), wI tC 5 lf), ((ma 15), wI tC 5 (fun _ => 0)), ((ma 16), wI tC 5 (fun _ => 0)), ((ma 18), wI tC 5 (fun _ => 0)), ((ma 19), wI tC 25 (fun _ => 0)), ((ma 20), wZ tC 25 (fun _ => 0)), ((ma 23), wI tC 41 (fun _ => 0)), ((ma 24), wI tC 41 (fun _ => 0)), ((ma 25), wI tC 41 (fun _ => 0)), ((ma 26), wI tC 41 (fun _ => 0)), ((ma 27), wI tC 41 (fun _ => 0)), ((ma 28), wI tC 5 (fun _ => 0)), (o, wL tC 1 (fun _ => 0)), (mo, .inr (6, [.int u_8, .int 1, .ref (ma 2), .ref (ma 3), .ref (ma 4), .ref (ma 5), .ref (ma 6), .ref (ma 7), .ref (ma 8), .ref (ma 9), .ref (ma 10), .ref (ma 11), .ref (ma 12), .ref (ma 13), .ref (ma 14), .ref (ma 15), .ref (ma 16), .ref (ma 17), .ref (ma 18), .ref (ma 19), .ref (ma 20), .ref (ma 21), .int l9_9, .ref (ma 23), .ref (ma 24), .ref (ma 25), .ref (ma 26), .ref (ma 27), .ref (ma 28)]))] := hD
    refine lv_aload_n hx hb dL_law_480 rfl (lv_at hl 3 rfl) ?_
    have hPc := hP.sub (ws' := [(mo, .inr (6, [.int u_8, .int 1, .ref (ma 2), .ref (ma 3), .ref (ma 4), .ref (ma 5), .ref (ma 6), .ref (ma 7), .ref (ma 8), .ref (ma 9), .ref (ma 10), .ref (ma 11), .ref (ma 12), .ref (ma 13), .ref (ma 14), .ref (ma 15), .ref (ma 16), .ref (ma 17), .ref (ma 18), .ref (ma 19), .ref (ma 20), .ref (ma 21), .int l9_9, .ref (ma 23), .ref (ma 24), .ref (ma 25), .ref (ma 26), .ref (ma 27), .ref (ma 28)]))]) [25] rfl
    have hDc := hD.sub (ws' := [(mo, .inr (6, [.int u_8, .int 1, .ref (ma 2), .ref (ma 3), .ref (ma 4), .ref (ma 5), .ref (ma 6), .ref (ma 7), .ref (ma 8), .ref (ma 9), .ref (ma 10), .ref (ma 11), .ref (ma 12), .ref (ma 13), .ref (ma 14), .ref (ma 15), .ref (ma 16), .ref (ma 17), .ref (ma 18), .ref (ma 19), .ref (ma 20), .ref (ma 21), .int l9_9, .ref (ma 23), .ref (ma 24), .ref (ma 25), .ref (ma 26), .ref (ma 27), .ref (ma 28)]))]) [25] (by decide) rfl
    have hFc := va_free (wc := [(mo, .inr (6, [.int u_8, .int 1, .ref (ma 2), .ref (ma 3), .ref (ma 4), .ref (ma 5), .ref (ma 6), .ref (ma 7), .ref (ma 8), .ref (ma 9), .ref (ma 10), .ref (ma 11), .ref (ma 12), .ref (ma 13), .ref (ma 14), .ref (ma 15), .ref (ma 16), .ref (ma 17), .ref (ma 18), .ref (ma 19), .ref (ma 20), .ref (ma 21), .int l9_9, .ref (ma 23), .ref (ma 24), .ref (ma 25), .ref (ma 26), .ref (ma 27), .ref (ma 28)]))]) hD hS hA [25] rfl
    refine va_calli (va_runV (As := []) (rest := []) ⟨hx, hb, hml, hown, hts⟩ (c_X5_thrown l hlt D tC dz H.size mo ma u_8 l9_9 ) (cwV 0 hts gL_law_X5_thrown rfl rfl rfl (by decide +kernel) ⟨Nat.le_of_ble_eq_true rfl, Nat.le_of_ble_eq_true rfl⟩) ⟨pB_blind, va_recv hK hPc (ci := 6) (q0 := 0) rfl rfl, pB_at hPc hDc hK hN hE hS hFc⟩ rfl rfl hl.1 rfl (lv_room (Nat.le_of_ble_eq_true rfl)) dL_law_481 ⟨Nat.le_of_ble_eq_true rfl, Nat.le_of_ble_eq_true rfl⟩) hS (fun q _ h => hFc q h) hFc (fun r_11 u t H1 locs ht hvm hw hB hz1 hk1 hS => ?_)
    obtain ⟨hP1, _, hD1⟩ := hB
    have hw_12 := hw
    rw [ht] at hP1
    obtain ⟨hP, hD⟩ := va_join (wr := [(a2, wI tC 5 cb), (a3, .inr (0, [.int 0, .ref dz, .int 0])), (a4, wS tC 5 (fun _ => none)), (f, .inr (3, [.ref e1, .ref e2, .int 5, .int 0])), (e1, wI tC 0 (fun _ => 0)), ((ma 2), wI tC 600 (fun _ => 0)), ((ma 6), wI tC 600 zf), ((ma 7), wI tC 600 (fun _ => 0)), ((ma 8), wI tC 5 (fun _ => 0)), ((ma 9), wI tC 5 (fun _ => 0)), ((ma 10), wI tC 5 pf), ((ma 12), wZ tC 5 (fun _ => 0)), ((ma 13), wI tC 5 lf), ((ma 15), wI tC 5 (fun _ => 0)), ((ma 16), wI tC 5 (fun _ => 0)), ((ma 18), wI tC 5 (fun _ => 0)), ((ma 19), wI tC 25 (fun _ => 0)), ((ma 20), wZ tC 25 (fun _ => 0)), ((ma 23), wI tC 41 (fun _ => 0)), ((ma 24), wI tC 41 (fun _ => 0)), ((ma 25), wI tC 41 (fun _ => 0)), ((ma 26), wI tC 41 (fun _ => 0)), ((ma 27), wI tC 41 (fun _ => 0)), ((ma 28), wI tC 5 (fun _ => 0)), (o, wL tC 1 (fun _ => 0))]) (w1 := [(mo, .inr (6, [.int u_8, .int 1, .ref (ma 2), .ref (ma 3), .ref (ma 4), .ref (ma 5), .ref (ma 6), .ref (ma 7), .ref (ma 8), .ref (ma 9), .ref (ma 10), .ref (ma 11), .ref (ma 12), .ref (ma 13), .ref (ma 14), .ref (ma 15), .ref (ma 16), .ref (ma 17), .ref (ma 18), .ref (ma 19), .ref (ma 20), .ref (ma 21), .int l9_9, .ref (ma 23), .ref (ma 24), .ref (ma 25), .ref (ma 26), .ref (ma 27), .ref (ma 28)]))]) hP hD [25] [0, 1, 2, 3, 4, 5, 6, 7, 8, 9, 10, 11, 12, 13, 14, 15, 16, 17, 18, 19, 20, 21, 22, 23, 24] rfl rfl (by decide) (by decide) hk1 hFc hP1 hD1
    generalize H1 = H at hP hS ⊢
    have hP : va_P D vwCl [(a2, wI tC 5 cb), (a3, .inr (0, [.int 0, .ref dz, .int 0])), (a4, wS tC 5 (fun _ => none)), (f, .inr (3, [.ref e1, .ref e2, .int 5, .int 0])), (e1, wI tC 0 (fun _ => 0)), ((ma 2), wI tC 600 (fun _ => 0)), ((ma 6), wI tC 600 zf), ((ma 7), wI tC 600 (fun _ => 0)), ((ma 8), wI tC 5 (fun _ => 0)), ((ma 9), wI tC 5 (fun _ => 0)), ((ma 10), wI tC 5 pf), ((ma 12), wZ tC 5 (fun _ => 0)), ((ma 13), wI tC 5 lf), ((ma 15), wI tC 5 (fun _ => 0)), ((ma 16), wI tC 5 (fun _ => 0)), ((ma 18), wI tC 5 (fun _ => 0)), ((ma 19), wI tC 25 (fun _ => 0)), ((ma 20), wZ tC 25 (fun _ => 0)), ((ma 23), wI tC 41 (fun _ => 0)), ((ma 24), wI tC 41 (fun _ => 0)), ((ma 25), wI tC 41 (fun _ => 0)), ((ma 26), wI tC 41 (fun _ => 0)), ((ma 27), wI tC 41 (fun _ => 0)), ((ma 28), wI tC 5 (fun _ => 0)), (o, wL tC 1 (fun _ => 0)), (mo, .inr (6, [.int u_8, .int 1, .ref (ma 2), .ref (ma 3), .ref (ma 4), .ref (ma 5), .ref (ma 6), .ref (ma 7), .ref (ma 8), .ref (ma 9), .ref (ma 10), .ref (ma 11), .ref (ma 12), .ref (ma 13), .ref (ma 14), .ref (ma 15), .ref (ma 16), .ref (ma 17), .ref (ma 18), .ref (ma 19), .ref (ma 20), .ref (ma 21), .int l9_9, .ref (ma 23), .ref (ma 24), .ref (ma 25), .ref (ma 26), .ref (ma 27), .ref (ma 28)]))] H := hP
    have hD : va_D A [(a2, wI tC 5 cb), (a3, .inr (0, [.int 0, .ref dz, .int 0])), (a4, wS tC 5 (fun _ => none)), (f, .inr (3, [.ref e1, .ref e2, .int 5, .int 0])), (e1, wI tC 0 (fun _ => 0)), ((ma 2), wI tC 600 (fun _ => 0)), ((ma 6), wI tC 600 zf), ((ma 7), wI tC 600 (fun _ => 0)), ((ma 8), wI tC 5 (fun _ => 0)), ((ma 9), wI tC 5 (fun _ => 0)), ((ma 10), wI tC 5 pf), ((ma 12), wZ tC 5 (fun _ => 0)), ((ma 13), wI tC 5 lf), ((ma 15), wI tC 5 (fun _ => 0)), ((ma 16), wI tC 5 (fun _ => 0)), ((ma 18), wI tC 5 (fun _ => 0)), ((ma 19), wI tC 25 (fun _ => 0)), ((ma 20), wZ tC 25 (fun _ => 0)), ((ma 23), wI tC 41 (fun _ => 0)), ((ma 24), wI tC 41 (fun _ => 0)), ((ma 25), wI tC 41 (fun _ => 0)), ((ma 26), wI tC 41 (fun _ => 0)), ((ma 27), wI tC 41 (fun _ => 0)), ((ma 28), wI tC 5 (fun _ => 0)), (o, wL tC 1 (fun _ => 0)), (mo, .inr (6, [.int u_8, .int 1, .ref (ma 2), .ref (ma 3), .ref (ma 4), .ref (ma 5), .ref (ma 6), .ref (ma 7), .ref (ma 8), .ref (ma 9), .ref (ma 10), .ref (ma 11), .ref (ma 12), .ref (ma 13), .ref (ma 14), .ref (ma 15), .ref (ma 16), .ref (ma 17), .ref (ma 18), .ref (ma 19), .ref (ma 20), .ref (ma 21), .int l9_9, .ref (ma 23), .ref (ma 24), .ref (ma 25), .ref (ma 26), .ref (ma 27), .ref (ma 28)]))] := hD
    refine lv_iload hx hb dL_law_484 (lv_at hl 0 rfl) ?_
    refine lv_icmp_eq (tgt := 491) hx hb dL_law_486 (by decide) (fun _ => ?_) (fun hc => absurd (hw_12.trans (hw_10.trans hw_4.symm)) hc)
    refine lv_goto (tgt := 1332) hx hb dL_law_491 (by decide) ?_
    exact lw_tail C1 hAe hS (lv_sub hl [1, 5] rfl) (by decide) (by decide)
