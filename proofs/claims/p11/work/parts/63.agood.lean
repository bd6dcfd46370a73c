set_option maxRecDepth 100000 in
theorem dL_law_132 : decode cL_law 132 = .ok (.aload_n 1, 1) := by decide +kernel
set_option maxRecDepth 100000 in
theorem dL_law_133 : decode cL_law 133 = .ok (.aload_n 0, 1) := by decide +kernel
set_option maxRecDepth 100000 in
theorem dL_law_134 : decode cL_law 134 = .ok (.iload 4, 2) := by decide +kernel
set_option maxRecDepth 100000 in
theorem dL_law_136 : decode cL_law 136 = .ok (.iconst 1, 1) := by decide +kernel
set_option maxRecDepth 100000 in
theorem dL_law_137 : decode cL_law 137 = .ok (.iadd, 1) := by decide +kernel
set_option maxRecDepth 100000 in
theorem dL_law_138 : decode cL_law 138 = .ok (.iaload, 1) := by decide +kernel
set_option maxRecDepth 100000 in
theorem dL_law_139 : decode cL_law 139 = .ok (.aload_n 0, 1) := by decide +kernel
set_option maxRecDepth 100000 in
theorem dL_law_140 : decode cL_law 140 = .ok (.iload 4, 2) := by decide +kernel
set_option maxRecDepth 100000 in
theorem dL_law_142 : decode cL_law 142 = .ok (.iconst 2, 1) := by decide +kernel
set_option maxRecDepth 100000 in
theorem dL_law_143 : decode cL_law 143 = .ok (.iadd, 1) := by decide +kernel
set_option maxRecDepth 100000 in
theorem dL_law_144 : decode cL_law 144 = .ok (.iaload, 1) := by decide +kernel
set_option maxRecDepth 100000 in
theorem dL_law_145 : decode cL_law 145 = .ok (.aload_n 0, 1) := by decide +kernel
set_option maxRecDepth 100000 in
theorem dL_law_146 : decode cL_law 146 = .ok (.iload 4, 2) := by decide +kernel
set_option maxRecDepth 100000 in
theorem dL_law_148 : decode cL_law 148 = .ok (.iconst 3, 1) := by decide +kernel
set_option maxRecDepth 100000 in
theorem dL_law_149 : decode cL_law 149 = .ok (.iadd, 1) := by decide +kernel
set_option maxRecDepth 100000 in
theorem dL_law_150 : decode cL_law 150 = .ok (.iaload, 1) := by decide +kernel
set_option maxRecDepth 100000 in
theorem dL_law_151 : decode cL_law 151 = .ok (.ifCond .eq 7, 3) := by decide +kernel
set_option maxRecDepth 100000 in
theorem dL_law_158 : decode cL_law 158 = .ok (.iconst 0, 1) := by decide +kernel
set_option maxRecDepth 100000 in
theorem dL_law_159 : decode cL_law 159 = .ok (.aload_n 3, 1) := by decide +kernel
set_option maxRecDepth 100000 in
theorem dL_law_160 : decode cL_law 160 = .ok (.invokestatic 89, 3) := by decide +kernel
set_option maxRecDepth 20000 in
theorem ggL_law_L_cable : GoodIn wsL_law wsL_cable := goodIn_ca (goodIn_r _ [95, 96, 97, 98, 99, 2, 100, 16, 101, 102, 103, 104, 105, 106, 107, 108, 109, 707, 708, 709, 710] (by decide +kernel) (by decide +kernel)) (goodIn_sub (fun _ h => List.mem_append_left _ (List.mem_append_left _ (List.mem_append_left _ (List.mem_append_left _ (List.mem_append_right _ h))))) (by decide +kernel))
set_option maxRecDepth 20000 in
theorem gL_law_L_cable : GoodIn wsL_law (va_wsS RL 89 yL_cable wsL_cable) := goodIn_app (goodIn_of _ (by decide +kernel)) ggL_law_L_cable
set_option maxRecDepth 100000 in
theorem dL_law_163 : decode cL_law 163 = .ok (.istore 5, 2) := by decide +kernel
set_option maxRecDepth 100000 in
theorem dL_law_165 : decode cL_law 165 = .ok (.aload_n 2, 1) := by decide +kernel
set_option maxRecDepth 100000 in
theorem dL_law_166 : decode cL_law 166 = .ok (.aload_n 0, 1) := by decide +kernel
set_option maxRecDepth 100000 in
theorem dL_law_167 : decode cL_law 167 = .ok (.iload 4, 2) := by decide +kernel
set_option maxRecDepth 100000 in
theorem dL_law_169 : decode cL_law 169 = .ok (.iconst 1, 1) := by decide +kernel
set_option maxRecDepth 100000 in
theorem dL_law_170 : decode cL_law 170 = .ok (.iadd, 1) := by decide +kernel
set_option maxRecDepth 100000 in
theorem dL_law_171 : decode cL_law 171 = .ok (.iaload, 1) := by decide +kernel
set_option maxRecDepth 100000 in
theorem dL_law_172 : decode cL_law 172 = .ok (.aload_n 0, 1) := by decide +kernel
set_option maxRecDepth 100000 in
theorem dL_law_173 : decode cL_law 173 = .ok (.iload 4, 2) := by decide +kernel
set_option maxRecDepth 100000 in
theorem dL_law_175 : decode cL_law 175 = .ok (.iconst 2, 1) := by decide +kernel
set_option maxRecDepth 100000 in
theorem dL_law_176 : decode cL_law 176 = .ok (.iadd, 1) := by decide +kernel
set_option maxRecDepth 100000 in
theorem dL_law_177 : decode cL_law 177 = .ok (.iaload, 1) := by decide +kernel
set_option maxRecDepth 100000 in
theorem dL_law_178 : decode cL_law 178 = .ok (.aload_n 0, 1) := by decide +kernel
set_option maxRecDepth 100000 in
theorem dL_law_179 : decode cL_law 179 = .ok (.iload 4, 2) := by decide +kernel
set_option maxRecDepth 100000 in
theorem dL_law_181 : decode cL_law 181 = .ok (.iconst 3, 1) := by decide +kernel
set_option maxRecDepth 100000 in
theorem dL_law_182 : decode cL_law 182 = .ok (.iadd, 1) := by decide +kernel
set_option maxRecDepth 100000 in
theorem dL_law_183 : decode cL_law 183 = .ok (.iaload, 1) := by decide +kernel
set_option maxRecDepth 100000 in
theorem dL_law_184 : decode cL_law 184 = .ok (.ifCond .eq 7, 3) := by decide +kernel
set_option maxRecDepth 100000 in
theorem dL_law_191 : decode cL_law 191 = .ok (.iconst 0, 1) := by decide +kernel
set_option maxRecDepth 100000 in
theorem dL_law_192 : decode cL_law 192 = .ok (.invokevirtual 94, 3) := by decide +kernel
set_option maxRecDepth 20000 in
theorem ggL_law_X5_cable : GoodIn wsL_law wsX5_cable := goodIn_r _ [113, 114, 84, 115, 116, 5, 117, 711, 712, 713, 714, 715, 716, 717, 718, 719, 720, 721, 722, 723, 724, 725, 726, 727, 728, 729, 730, 731, 732, 733, 734, 735, 736, 737, 738, 739] (by decide +kernel) (by decide +kernel)
set_option maxRecDepth 20000 in
theorem gL_law_X5_cable : GoodIn wsL_law (wsV RL 94 RX5 yX5_cable wsX5_cable) := goodIn_app (goodIn_of _ (by decide +kernel)) ggL_law_X5_cable
set_option maxRecDepth 100000 in
theorem dL_law_195 : decode cL_law 195 = .ok (.istore 6, 2) := by decide +kernel
set_option maxRecDepth 100000 in
theorem dL_law_197 : decode cL_law 197 = .ok (.goto 688, 3) := by decide +kernel
set_option maxRecDepth 100000 in
theorem dL_law_154 : decode cL_law 154 = .ok (.iconst 1, 1) := by decide +kernel
set_option maxRecDepth 100000 in
theorem dL_law_155 : decode cL_law 155 = .ok (.goto 4, 3) := by decide +kernel
set_option maxRecDepth 100000 in
theorem dL_law_187 : decode cL_law 187 = .ok (.iconst 1, 1) := by decide +kernel
set_option maxRecDepth 100000 in
theorem dL_law_188 : decode cL_law 188 = .ok (.goto 4, 3) := by decide +kernel
set_option maxRecDepth 100000 in
theorem dL_law_200 : decode cL_law 200 = .ok (.aload_n 1, 1) := by decide +kernel
set_option maxRecDepth 100000 in
theorem dL_law_201 : decode cL_law 201 = .ok (.aload_n 0, 1) := by decide +kernel
set_option maxRecDepth 100000 in
theorem dL_law_202 : decode cL_law 202 = .ok (.iload 4, 2) := by decide +kernel
set_option maxRecDepth 100000 in
theorem dL_law_204 : decode cL_law 204 = .ok (.iconst 1, 1) := by decide +kernel
set_option maxRecDepth 100000 in
theorem dL_law_205 : decode cL_law 205 = .ok (.iadd, 1) := by decide +kernel
set_option maxRecDepth 100000 in
theorem dL_law_206 : decode cL_law 206 = .ok (.iaload, 1) := by decide +kernel
set_option maxRecDepth 100000 in
theorem dL_law_207 : decode cL_law 207 = .ok (.aload_n 0, 1) := by decide +kernel
set_option maxRecDepth 100000 in
theorem dL_law_208 : decode cL_law 208 = .ok (.iload 4, 2) := by decide +kernel
set_option maxRecDepth 100000 in
theorem dL_law_210 : decode cL_law 210 = .ok (.iconst 2, 1) := by decide +kernel
set_option maxRecDepth 100000 in
theorem dL_law_211 : decode cL_law 211 = .ok (.iadd, 1) := by decide +kernel
set_option maxRecDepth 100000 in
theorem dL_law_212 : decode cL_law 212 = .ok (.iaload, 1) := by decide +kernel
set_option maxRecDepth 100000 in
theorem dL_law_213 : decode cL_law 213 = .ok (.aload_n 0, 1) := by decide +kernel
set_option maxRecDepth 100000 in
theorem dL_law_214 : decode cL_law 214 = .ok (.iload 4, 2) := by decide +kernel
set_option maxRecDepth 100000 in
theorem dL_law_216 : decode cL_law 216 = .ok (.iconst 3, 1) := by decide +kernel
set_option maxRecDepth 100000 in
theorem dL_law_217 : decode cL_law 217 = .ok (.iadd, 1) := by decide +kernel
set_option maxRecDepth 100000 in
theorem dL_law_218 : decode cL_law 218 = .ok (.iaload, 1) := by decide +kernel
set_option maxRecDepth 100000 in
theorem dL_law_219 : decode cL_law 219 = .ok (.aload_n 0, 1) := by decide +kernel
set_option maxRecDepth 100000 in
theorem dL_law_220 : decode cL_law 220 = .ok (.iload 4, 2) := by decide +kernel
set_option maxRecDepth 100000 in
theorem dL_law_222 : decode cL_law 222 = .ok (.iconst 4, 1) := by decide +kernel
set_option maxRecDepth 100000 in
theorem dL_law_223 : decode cL_law 223 = .ok (.iadd, 1) := by decide +kernel
set_option maxRecDepth 100000 in
theorem dL_law_224 : decode cL_law 224 = .ok (.iaload, 1) := by decide +kernel
set_option maxRecDepth 100000 in
theorem dL_law_225 : decode cL_law 225 = .ok (.aload_n 3, 1) := by decide +kernel
set_option maxRecDepth 100000 in
theorem dL_law_226 : decode cL_law 226 = .ok (.invokestatic 95, 3) := by decide +kernel
set_option maxRecDepth 20000 in
theorem ggL_law_L_write : GoodIn wsL_law wsL_write := goodIn_ca (goodIn_ca (goodIn_ca (goodIn_ca (goodIn_r _ [120, 96, 121, 122, 123, 124, 125, 126, 2, 127, 128, 129, 130, 131, 132, 133, 105, 106, 14, 107, 108, 109, 134, 135, 136, 137, 138, 139, 140, 141, 142, 143, 144, 145, 26, 146, 147, 52, 56, 148, 149, 150, 151, 55, 152, 24, 153, 154, 45, 155, 156, 157, 158, 20, 159, 160, 161, 19, 162, 163, 164, 165, 166, 11, 12, 167, 168, 75, 169, 170, 171, 172, 173, 174, 175, 176, 177, 178, 179, 180, 181, 182, 183, 184, 185, 186, 187, 188, 189, 190, 191, 192, 193, 194, 195, 196, 197, 198, 199, 200, 201, 202, 203, 204, 205, 206, 207, 208, 31, 209, 210, 211, 212, 213, 214, 215, 216, 217, 218, 219, 220, 30, 221, 222, 223, 224, 225, 226, 227, 228, 229, 230, 231, 232, 233, 234, 235, 236, 237, 238, 239, 240, 241, 242, 243, 244, 245, 246, 247, 248, 249, 250, 251, 252, 253, 254, 707, 708, 709, 710, 747, 748, 749, 750, 751, 752, 753, 754, 755, 756, 757, 758, 759, 743, 744, 745, 746, 740, 741, 742, 760, 761, 762, 763, 764] (by decide +kernel) (by decide +kernel)) (goodIn_sub (fun _ h => List.mem_append_left _ (List.mem_append_left _ (List.mem_append_left _ (List.mem_append_right _ h)))) (by decide +kernel))) (goodIn_sub (fun _ h => List.mem_append_left _ (List.mem_append_left _ (List.mem_append_left _ (List.mem_append_left _ (List.mem_append_right _ h))))) (by decide +kernel))) (goodIn_sub (fun _ h => List.mem_append_left _ (List.mem_append_left _ (List.mem_append_right _ h))) (by decide +kernel))) (goodIn_sub (fun _ h => List.mem_append_left _ (List.mem_append_right _ h)) (by decide +kernel))
set_option maxRecDepth 20000 in
theorem gL_law_L_write : GoodIn wsL_law (va_wsS RL 95 yL_write wsL_write) := goodIn_app (goodIn_of _ (by decide +kernel)) ggL_law_L_write
set_option maxRecDepth 100000 in
theorem dL_law_229 : decode cL_law 229 = .ok (.istore 5, 2) := by decide +kernel
set_option maxRecDepth 100000 in
theorem dL_law_231 : decode cL_law 231 = .ok (.aload_n 2, 1) := by decide +kernel
set_option maxRecDepth 100000 in
theorem dL_law_232 : decode cL_law 232 = .ok (.aload_n 0, 1) := by decide +kernel
set_option maxRecDepth 100000 in
theorem dL_law_233 : decode cL_law 233 = .ok (.iload 4, 2) := by decide +kernel
set_option maxRecDepth 100000 in
theorem dL_law_235 : decode cL_law 235 = .ok (.iconst 1, 1) := by decide +kernel
set_option maxRecDepth 100000 in
theorem dL_law_236 : decode cL_law 236 = .ok (.iadd, 1) := by decide +kernel
set_option maxRecDepth 100000 in
theorem dL_law_237 : decode cL_law 237 = .ok (.iaload, 1) := by decide +kernel
set_option maxRecDepth 100000 in
theorem dL_law_238 : decode cL_law 238 = .ok (.aload_n 0, 1) := by decide +kernel
set_option maxRecDepth 100000 in
theorem dL_law_239 : decode cL_law 239 = .ok (.iload 4, 2) := by decide +kernel
set_option maxRecDepth 100000 in
theorem dL_law_241 : decode cL_law 241 = .ok (.iconst 2, 1) := by decide +kernel
set_option maxRecDepth 100000 in
theorem dL_law_242 : decode cL_law 242 = .ok (.iadd, 1) := by decide +kernel
set_option maxRecDepth 100000 in
theorem dL_law_243 : decode cL_law 243 = .ok (.iaload, 1) := by decide +kernel
set_option maxRecDepth 100000 in
theorem dL_law_244 : decode cL_law 244 = .ok (.aload_n 0, 1) := by decide +kernel
set_option maxRecDepth 100000 in
theorem dL_law_245 : decode cL_law 245 = .ok (.iload 4, 2) := by decide +kernel
set_option maxRecDepth 100000 in
theorem dL_law_247 : decode cL_law 247 = .ok (.iconst 3, 1) := by decide +kernel
set_option maxRecDepth 100000 in
theorem dL_law_248 : decode cL_law 248 = .ok (.iadd, 1) := by decide +kernel
set_option maxRecDepth 100000 in
theorem dL_law_249 : decode cL_law 249 = .ok (.iaload, 1) := by decide +kernel
set_option maxRecDepth 100000 in
theorem dL_law_250 : decode cL_law 250 = .ok (.aload_n 0, 1) := by decide +kernel
set_option maxRecDepth 100000 in
theorem dL_law_251 : decode cL_law 251 = .ok (.iload 4, 2) := by decide +kernel
set_option maxRecDepth 100000 in
theorem dL_law_253 : decode cL_law 253 = .ok (.iconst 4, 1) := by decide +kernel
set_option maxRecDepth 100000 in
theorem dL_law_254 : decode cL_law 254 = .ok (.iadd, 1) := by decide +kernel
set_option maxRecDepth 100000 in
theorem dL_law_255 : decode cL_law 255 = .ok (.iaload, 1) := by decide +kernel
set_option maxRecDepth 100000 in
theorem dL_law_256 : decode cL_law 256 = .ok (.invokevirtual 98, 3) := by decide +kernel
set_option maxRecDepth 20000 in
theorem ggL_law_X5_write : GoodIn wsL_law wsX5_write := goodIn_r _ [258, 114, 115, 116, 5, 117, 259, 260, 261, 262, 65, 71, 72, 77, 78, 79, 80, 82, 83, 263, 264, 265, 266, 76, 73, 267, 268, 269, 270, 271, 272, 273, 274, 275, 276, 277, 278, 279, 280, 281, 282, 86, 87, 88, 89, 90, 711, 712, 713, 714, 715, 716, 717, 718, 719, 720, 721, 722, 723, 724, 725, 726, 727, 728, 729, 730, 731, 732, 733, 734, 735, 736, 737, 738, 739] (by decide +kernel) (by decide +kernel)
set_option maxRecDepth 20000 in
theorem gL_law_X5_write : GoodIn wsL_law (wsV RL 98 RX5 yX5_write wsX5_write) := goodIn_app (goodIn_of _ (by decide +kernel)) ggL_law_X5_write
set_option maxRecDepth 100000 in
theorem dL_law_259 : decode cL_law 259 = .ok (.istore 6, 2) := by decide +kernel
set_option maxRecDepth 100000 in
theorem dL_law_261 : decode cL_law 261 = .ok (.goto 624, 3) := by decide +kernel
set_option maxRecDepth 100000 in
theorem dL_law_264 : decode cL_law 264 = .ok (.aload_n 1, 1) := by decide +kernel
set_option maxRecDepth 100000 in
theorem dL_law_265 : decode cL_law 265 = .ok (.aload_n 0, 1) := by decide +kernel
set_option maxRecDepth 100000 in
theorem dL_law_266 : decode cL_law 266 = .ok (.iload 4, 2) := by decide +kernel
set_option maxRecDepth 100000 in
theorem dL_law_268 : decode cL_law 268 = .ok (.iconst 1, 1) := by decide +kernel
set_option maxRecDepth 100000 in
theorem dL_law_269 : decode cL_law 269 = .ok (.iadd, 1) := by decide +kernel
set_option maxRecDepth 100000 in
theorem dL_law_270 : decode cL_law 270 = .ok (.iaload, 1) := by decide +kernel
set_option maxRecDepth 100000 in
theorem dL_law_271 : decode cL_law 271 = .ok (.aload_n 0, 1) := by decide +kernel
set_option maxRecDepth 100000 in
theorem dL_law_272 : decode cL_law 272 = .ok (.iload 4, 2) := by decide +kernel
set_option maxRecDepth 100000 in
theorem dL_law_274 : decode cL_law 274 = .ok (.iconst 2, 1) := by decide +kernel
set_option maxRecDepth 100000 in
theorem dL_law_275 : decode cL_law 275 = .ok (.iadd, 1) := by decide +kernel
set_option maxRecDepth 100000 in
theorem dL_law_276 : decode cL_law 276 = .ok (.iaload, 1) := by decide +kernel
set_option maxRecDepth 100000 in
theorem dL_law_277 : decode cL_law 277 = .ok (.aload_n 3, 1) := by decide +kernel
set_option maxRecDepth 100000 in
theorem dL_law_278 : decode cL_law 278 = .ok (.invokestatic 99, 3) := by decide +kernel
set_option maxRecDepth 20000 in
theorem ggL_law_L_withdraw : GoodIn wsL_law wsL_withdraw := goodIn_ca (goodIn_ca (goodIn_ca (goodIn_ca (goodIn_r _ [285, 96, 286, 122, 123, 287, 288, 289, 2, 290, 291, 292, 130, 131, 132, 133, 105, 106, 14, 107, 108, 109, 293, 24, 294, 295, 45, 296, 297, 298, 299, 300, 301, 134, 135, 136, 137, 138, 139, 140, 141, 142, 143, 144, 145, 26, 146, 147, 52, 56, 148, 149, 150, 151, 55, 152, 153, 154, 155, 156, 157, 158, 20, 159, 160, 161, 19, 162, 163, 164, 165, 166, 11, 12, 167, 168, 75, 169, 170, 171, 172, 173, 174, 175, 176, 177, 178, 179, 180, 181, 182, 183, 184, 185, 186, 187, 188, 189, 190, 191, 192, 193, 194, 195, 196, 197, 198, 199, 200, 201, 202, 203, 204, 205, 206, 207, 208, 31, 209, 210, 211, 212, 213, 214, 215, 216, 217, 218, 219, 220, 30, 221, 222, 223, 224, 225, 226, 227, 228, 229, 230, 231, 232, 233, 234, 235, 236, 237, 238, 239, 240, 241, 242, 243, 244, 245, 246, 247, 248, 249, 250, 251, 252, 253, 254, 747, 748, 749, 750, 751, 752, 753, 754, 707, 708, 709, 710, 743, 744, 745, 746, 755, 756, 757, 758, 759, 740, 741, 742, 760, 761, 762, 763, 764] (by decide +kernel) (by decide +kernel)) (goodIn_sub (fun _ h => List.mem_append_right _ h) (by decide +kernel))) (goodIn_sub (fun _ h => List.mem_append_left _ (List.mem_append_left _ (List.mem_append_left _ (List.mem_append_left _ (List.mem_append_right _ h))))) (by decide +kernel))) (goodIn_sub (fun _ h => List.mem_append_left _ (List.mem_append_left _ (List.mem_append_right _ h))) (by decide +kernel))) (goodIn_sub (fun _ h => List.mem_append_left _ (List.mem_append_right _ h)) (by decide +kernel))
set_option maxRecDepth 20000 in
theorem gL_law_L_withdraw : GoodIn wsL_law (va_wsS RL 99 yL_withdraw wsL_withdraw) := goodIn_app (goodIn_of _ (by decide +kernel)) ggL_law_L_withdraw
set_option maxRecDepth 100000 in
theorem dL_law_281 : decode cL_law 281 = .ok (.istore 5, 2) := by decide +kernel
set_option maxRecDepth 100000 in
theorem dL_law_283 : decode cL_law 283 = .ok (.aload_n 2, 1) := by decide +kernel
set_option maxRecDepth 100000 in
theorem dL_law_284 : decode cL_law 284 = .ok (.aload_n 0, 1) := by decide +kernel
set_option maxRecDepth 100000 in
theorem dL_law_285 : decode cL_law 285 = .ok (.iload 4, 2) := by decide +kernel
set_option maxRecDepth 100000 in
theorem dL_law_287 : decode cL_law 287 = .ok (.iconst 1, 1) := by decide +kernel
set_option maxRecDepth 100000 in
theorem dL_law_288 : decode cL_law 288 = .ok (.iadd, 1) := by decide +kernel
set_option maxRecDepth 100000 in
theorem dL_law_289 : decode cL_law 289 = .ok (.iaload, 1) := by decide +kernel
set_option maxRecDepth 100000 in
theorem dL_law_290 : decode cL_law 290 = .ok (.aload_n 0, 1) := by decide +kernel
set_option maxRecDepth 100000 in
theorem dL_law_291 : decode cL_law 291 = .ok (.iload 4, 2) := by decide +kernel
set_option maxRecDepth 100000 in
theorem dL_law_293 : decode cL_law 293 = .ok (.iconst 2, 1) := by decide +kernel
set_option maxRecDepth 100000 in
theorem dL_law_294 : decode cL_law 294 = .ok (.iadd, 1) := by decide +kernel
set_option maxRecDepth 100000 in
theorem dL_law_295 : decode cL_law 295 = .ok (.iaload, 1) := by decide +kernel
set_option maxRecDepth 100000 in
theorem dL_law_296 : decode cL_law 296 = .ok (.invokevirtual 102, 3) := by decide +kernel
set_option maxRecDepth 20000 in
theorem ggL_law_X5_withdraw : GoodIn wsL_law wsX5_withdraw := goodIn_r _ [305, 71, 114, 115, 116, 5, 117, 306, 307, 308, 309, 65, 67, 66, 310, 311, 312, 313, 259, 260, 261, 262, 72, 77, 78, 79, 80, 82, 83, 263, 264, 265, 266, 76, 73, 267, 268, 269, 270, 271, 272, 273, 274, 275, 276, 277, 278, 279, 280, 281, 282, 86, 87, 88, 89, 90, 711, 712, 713, 714, 715, 716, 717, 718, 719, 720, 721, 722, 723, 724, 725, 726, 727, 728, 729, 730, 731, 732, 733, 734, 735, 736, 737, 738, 739] (by decide +kernel) (by decide +kernel)
set_option maxRecDepth 20000 in
theorem gL_law_X5_withdraw : GoodIn wsL_law (wsV RL 102 RX5 yX5_withdraw wsX5_withdraw) := goodIn_app (goodIn_of _ (by decide +kernel)) ggL_law_X5_withdraw
set_option maxRecDepth 100000 in
theorem dL_law_299 : decode cL_law 299 = .ok (.istore 6, 2) := by decide +kernel
set_option maxRecDepth 100000 in
theorem dL_law_301 : decode cL_law 301 = .ok (.goto 584, 3) := by decide +kernel
set_option maxRecDepth 100000 in
theorem dL_law_304 : decode cL_law 304 = .ok (.aload_n 1, 1) := by decide +kernel
set_option maxRecDepth 100000 in
theorem dL_law_305 : decode cL_law 305 = .ok (.aload_n 0, 1) := by decide +kernel
set_option maxRecDepth 100000 in
theorem dL_law_306 : decode cL_law 306 = .ok (.iload 4, 2) := by decide +kernel
set_option maxRecDepth 100000 in
theorem dL_law_308 : decode cL_law 308 = .ok (.iconst 1, 1) := by decide +kernel
set_option maxRecDepth 100000 in
theorem dL_law_309 : decode cL_law 309 = .ok (.iadd, 1) := by decide +kernel
set_option maxRecDepth 100000 in
theorem dL_law_310 : decode cL_law 310 = .ok (.iaload, 1) := by decide +kernel
set_option maxRecDepth 100000 in
theorem dL_law_311 : decode cL_law 311 = .ok (.aload_n 3, 1) := by decide +kernel
set_option maxRecDepth 100000 in
theorem dL_law_312 : decode cL_law 312 = .ok (.invokestatic 103, 3) := by decide +kernel
set_option maxRecDepth 20000 in
theorem ggL_law_L_decide : GoodIn wsL_law wsL_decide := goodIn_ca (goodIn_ca (goodIn_ca (goodIn_r _ [316, 96, 122, 123, 317, 318, 319, 2, 320, 138, 139, 140, 141, 130, 131, 132, 133, 105, 106, 14, 107, 108, 109, 181, 144, 182, 183, 170, 321, 322, 323, 152, 24, 153, 154, 45, 324, 325, 326, 327, 328, 329, 184, 185, 186, 187, 168, 155, 156, 157, 158, 20, 159, 160, 161, 19, 162, 163, 330, 331, 332, 172, 171, 169, 333, 334, 335, 336, 337, 338, 339, 340, 46, 341, 23, 342, 343, 344, 237, 345, 346, 347, 348, 349, 350, 351, 15, 248, 249, 223, 250, 251, 252, 253, 254, 352, 42, 43, 44, 11, 12, 47, 48, 173, 174, 175, 176, 177, 178, 179, 180, 188, 189, 190, 191, 192, 193, 194, 195, 196, 197, 198, 199, 200, 201, 202, 203, 204, 205, 206, 207, 208, 31, 209, 210, 211, 212, 213, 214, 215, 216, 217, 218, 219, 220, 30, 221, 222, 224, 225, 226, 227, 228, 229, 230, 231, 232, 233, 234, 235, 236, 238, 239, 240, 241, 242, 243, 244, 245, 246, 247, 353, 354, 355, 356, 357, 358, 359, 360, 361, 26, 362, 363, 56, 57, 747, 748, 749, 750, 751, 752, 753, 754, 755, 756, 757, 758, 759, 707, 708, 709, 710, 743, 744, 745, 746, 740, 741, 742, 760, 761, 762, 763, 764] (by decide +kernel) (by decide +kernel)) (goodIn_sub (fun _ h => List.mem_append_left _ (List.mem_append_left _ (List.mem_append_right _ h))) (by decide +kernel))) (goodIn_sub (fun _ h => List.mem_append_left _ (List.mem_append_right _ h)) (by decide +kernel))) (goodIn_sub (fun _ h => List.mem_append_left _ (List.mem_append_left _ (List.mem_append_left _ (List.mem_append_left _ (List.mem_append_right _ h))))) (by decide +kernel))
set_option maxRecDepth 20000 in
theorem gL_law_L_decide : GoodIn wsL_law (va_wsS RL 103 yL_decide wsL_decide) := goodIn_app (goodIn_of _ (by decide +kernel)) ggL_law_L_decide
set_option maxRecDepth 100000 in
theorem dL_law_315 : decode cL_law 315 = .ok (.istore 5, 2) := by decide +kernel
set_option maxRecDepth 100000 in
theorem dL_law_317 : decode cL_law 317 = .ok (.aload_n 2, 1) := by decide +kernel
set_option maxRecDepth 100000 in
theorem dL_law_318 : decode cL_law 318 = .ok (.aload_n 0, 1) := by decide +kernel
set_option maxRecDepth 100000 in
theorem dL_law_319 : decode cL_law 319 = .ok (.iload 4, 2) := by decide +kernel
set_option maxRecDepth 100000 in
theorem dL_law_321 : decode cL_law 321 = .ok (.iconst 1, 1) := by decide +kernel
set_option maxRecDepth 100000 in
theorem dL_law_322 : decode cL_law 322 = .ok (.iadd, 1) := by decide +kernel
set_option maxRecDepth 100000 in
theorem dL_law_323 : decode cL_law 323 = .ok (.iaload, 1) := by decide +kernel
set_option maxRecDepth 100000 in
theorem dL_law_324 : decode cL_law 324 = .ok (.invokevirtual 106, 3) := by decide +kernel
set_option maxRecDepth 20000 in
theorem ggL_law_X5_decide : GoodIn wsL_law wsX5_decide := goodIn_r _ [367, 78, 80, 114, 82, 65, 64, 66, 67, 68, 69, 70, 79, 81, 115, 116, 5, 117, 368, 369, 370, 371, 91, 83, 276, 277, 278, 372, 373, 374, 375, 376, 377, 378, 379, 380, 381, 382, 267, 268, 269, 270, 271, 383, 384, 385, 15, 272, 273, 274, 275, 279, 280, 281, 282, 86, 87, 88, 89, 90, 386, 387, 388, 389, 71, 77, 711, 712, 713, 714, 715, 716, 717, 718, 719, 720, 721, 722, 723, 724, 725, 726, 727, 728, 729, 730, 731, 732, 733, 734, 735, 736, 737, 738, 739] (by decide +kernel) (by decide +kernel)
set_option maxRecDepth 20000 in
theorem gL_law_X5_decide : GoodIn wsL_law (wsV RL 106 RX5 yX5_decide wsX5_decide) := goodIn_app (goodIn_of _ (by decide +kernel)) ggL_law_X5_decide
set_option maxRecDepth 100000 in
theorem dL_law_327 : decode cL_law 327 = .ok (.istore 6, 2) := by decide +kernel
set_option maxRecDepth 100000 in
theorem dL_law_329 : decode cL_law 329 = .ok (.goto 556, 3) := by decide +kernel
set_option maxRecDepth 100000 in
theorem dL_law_332 : decode cL_law 332 = .ok (.aload_n 1, 1) := by decide +kernel
set_option maxRecDepth 100000 in
theorem dL_law_333 : decode cL_law 333 = .ok (.aload_n 0, 1) := by decide +kernel
set_option maxRecDepth 100000 in
theorem dL_law_334 : decode cL_law 334 = .ok (.iload 4, 2) := by decide +kernel
set_option maxRecDepth 100000 in
theorem dL_law_336 : decode cL_law 336 = .ok (.iconst 1, 1) := by decide +kernel
set_option maxRecDepth 100000 in
theorem dL_law_337 : decode cL_law 337 = .ok (.iadd, 1) := by decide +kernel
set_option maxRecDepth 100000 in
theorem dL_law_338 : decode cL_law 338 = .ok (.iaload, 1) := by decide +kernel
set_option maxRecDepth 100000 in
theorem dL_law_339 : decode cL_law 339 = .ok (.invokestatic 107, 3) := by decide +kernel
set_option maxRecDepth 20000 in
theorem ggL_law_L_giveUp : GoodIn wsL_law wsL_giveUp := goodIn_ca (goodIn_ca (goodIn_ca (goodIn_r _ [392, 96, 122, 123, 393, 394, 395, 2, 396, 130, 131, 132, 133, 105, 106, 14, 107, 108, 109, 397, 398, 399, 400, 138, 139, 155, 156, 157, 158, 140, 141, 20, 159, 160, 161, 19, 162, 163, 361, 26, 362, 363, 56, 57, 188, 189, 190, 191, 192, 193, 194, 195, 196, 197, 11, 12, 198, 199, 200, 201, 202, 203, 204, 205, 206, 207, 208, 31, 209, 210, 211, 212, 213, 214, 215, 216, 217, 218, 219, 220, 30, 221, 222, 223, 224, 225, 226, 227, 228, 229, 230, 231, 232, 233, 234, 235, 236, 237, 238, 239, 240, 241, 242, 243, 244, 245, 246, 247, 248, 249, 250, 251, 252, 253, 254, 747, 748, 749, 750, 751, 752, 753, 754, 755, 756, 757, 758, 759, 707, 708, 709, 710, 740, 741, 742, 760, 761, 762, 763, 764] (by decide +kernel) (by decide +kernel)) (goodIn_sub (fun _ h => List.mem_append_left _ (List.mem_append_left _ (List.mem_append_left _ (List.mem_append_left _ (List.mem_append_right _ h))))) (by decide +kernel))) (goodIn_sub (fun _ h => List.mem_append_left _ (List.mem_append_left _ (List.mem_append_right _ h))) (by decide +kernel))) (goodIn_sub (fun _ h => List.mem_append_left _ (List.mem_append_right _ h)) (by decide +kernel))
set_option maxRecDepth 20000 in
theorem gL_law_L_giveUp : GoodIn wsL_law (va_wsS RL 107 yL_giveUp wsL_giveUp) := goodIn_app (goodIn_of _ (by decide +kernel)) ggL_law_L_giveUp
set_option maxRecDepth 100000 in
theorem dL_law_342 : decode cL_law 342 = .ok (.istore 5, 2) := by decide +kernel
set_option maxRecDepth 100000 in
theorem dL_law_344 : decode cL_law 344 = .ok (.aload_n 2, 1) := by decide +kernel
set_option maxRecDepth 100000 in
theorem dL_law_345 : decode cL_law 345 = .ok (.aload_n 0, 1) := by decide +kernel
set_option maxRecDepth 100000 in
theorem dL_law_346 : decode cL_law 346 = .ok (.iload 4, 2) := by decide +kernel
set_option maxRecDepth 100000 in
theorem dL_law_348 : decode cL_law 348 = .ok (.iconst 1, 1) := by decide +kernel
set_option maxRecDepth 100000 in
theorem dL_law_349 : decode cL_law 349 = .ok (.iadd, 1) := by decide +kernel
set_option maxRecDepth 100000 in
theorem dL_law_350 : decode cL_law 350 = .ok (.iaload, 1) := by decide +kernel
set_option maxRecDepth 100000 in
theorem dL_law_351 : decode cL_law 351 = .ok (.invokevirtual 110, 3) := by decide +kernel
set_option maxRecDepth 20000 in
theorem ggL_law_X5_giveUp : GoodIn wsL_law wsX5_giveUp := goodIn_r _ [404, 78, 114, 77, 115, 116, 5, 117, 267, 268, 269, 270, 271, 272, 273, 274, 275, 276, 277, 278, 279, 280, 281, 282, 86, 87, 88, 89, 90, 711, 712, 713, 714, 715, 716, 717, 718, 719, 720, 721, 722, 723, 724, 725, 726, 727, 728, 729, 730, 731, 732, 733, 734, 735, 736, 737, 738, 739] (by decide +kernel) (by decide +kernel)
set_option maxRecDepth 20000 in
theorem gL_law_X5_giveUp : GoodIn wsL_law (wsV RL 110 RX5 yX5_giveUp wsX5_giveUp) := goodIn_app (goodIn_of _ (by decide +kernel)) ggL_law_X5_giveUp
set_option maxRecDepth 100000 in
theorem dL_law_354 : decode cL_law 354 = .ok (.goto 531, 3) := by decide +kernel
set_option maxRecDepth 100000 in
theorem dL_law_357 : decode cL_law 357 = .ok (.aload_n 1, 1) := by decide +kernel
set_option maxRecDepth 100000 in
theorem dL_law_358 : decode cL_law 358 = .ok (.aload_n 0, 1) := by decide +kernel
set_option maxRecDepth 100000 in
theorem dL_law_359 : decode cL_law 359 = .ok (.iload 4, 2) := by decide +kernel
set_option maxRecDepth 100000 in
theorem dL_law_361 : decode cL_law 361 = .ok (.iconst 1, 1) := by decide +kernel
set_option maxRecDepth 100000 in
theorem dL_law_362 : decode cL_law 362 = .ok (.iadd, 1) := by decide +kernel
set_option maxRecDepth 100000 in
theorem dL_law_363 : decode cL_law 363 = .ok (.iaload, 1) := by decide +kernel
set_option maxRecDepth 100000 in
theorem dL_law_364 : decode cL_law 364 = .ok (.aload_n 3, 1) := by decide +kernel
set_option maxRecDepth 100000 in
theorem dL_law_365 : decode cL_law 365 = .ok (.invokestatic 111, 3) := by decide +kernel
set_option maxRecDepth 20000 in
theorem ggL_law_L_resend : GoodIn wsL_law wsL_resend := goodIn_ca (goodIn_ca (goodIn_ca (goodIn_r _ [407, 96, 122, 123, 408, 409, 410, 2, 411, 130, 131, 132, 133, 105, 106, 14, 107, 108, 109, 397, 398, 399, 400, 138, 139, 357, 144, 358, 359, 360, 177, 178, 179, 168, 169, 180, 181, 182, 183, 170, 184, 185, 186, 187, 155, 156, 157, 158, 140, 141, 20, 159, 160, 161, 19, 162, 163, 173, 174, 175, 176, 188, 189, 190, 191, 192, 193, 194, 195, 196, 197, 11, 12, 198, 199, 200, 201, 202, 203, 204, 205, 206, 207, 208, 31, 209, 210, 211, 212, 213, 214, 215, 216, 217, 218, 219, 220, 30, 221, 222, 223, 224, 225, 226, 227, 228, 229, 230, 231, 232, 233, 234, 235, 236, 237, 238, 239, 240, 241, 242, 243, 244, 245, 246, 247, 248, 249, 250, 251, 252, 253, 254, 707, 708, 709, 710, 747, 748, 749, 750, 751, 752, 753, 754, 755, 756, 757, 758, 759, 740, 741, 742, 760, 761, 762, 763, 764] (by decide +kernel) (by decide +kernel)) (goodIn_sub (fun _ h => List.mem_append_left _ (List.mem_append_left _ (List.mem_append_left _ (List.mem_append_left _ (List.mem_append_right _ h))))) (by decide +kernel))) (goodIn_sub (fun _ h => List.mem_append_left _ (List.mem_append_left _ (List.mem_append_right _ h))) (by decide +kernel))) (goodIn_sub (fun _ h => List.mem_append_left _ (List.mem_append_right _ h)) (by decide +kernel))
set_option maxRecDepth 20000 in
theorem gL_law_L_resend : GoodIn wsL_law (va_wsS RL 111 yL_resend wsL_resend) := goodIn_app (goodIn_of _ (by decide +kernel)) ggL_law_L_resend
set_option maxRecDepth 100000 in
theorem dL_law_368 : decode cL_law 368 = .ok (.istore 5, 2) := by decide +kernel
set_option maxRecDepth 100000 in
theorem dL_law_370 : decode cL_law 370 = .ok (.aload_n 2, 1) := by decide +kernel
set_option maxRecDepth 100000 in
theorem dL_law_371 : decode cL_law 371 = .ok (.aload_n 0, 1) := by decide +kernel
set_option maxRecDepth 100000 in
theorem dL_law_372 : decode cL_law 372 = .ok (.iload 4, 2) := by decide +kernel
set_option maxRecDepth 100000 in
theorem dL_law_374 : decode cL_law 374 = .ok (.iconst 1, 1) := by decide +kernel
set_option maxRecDepth 100000 in
theorem dL_law_375 : decode cL_law 375 = .ok (.iadd, 1) := by decide +kernel
set_option maxRecDepth 100000 in
theorem dL_law_376 : decode cL_law 376 = .ok (.iaload, 1) := by decide +kernel
set_option maxRecDepth 100000 in
theorem dL_law_377 : decode cL_law 377 = .ok (.invokevirtual 113, 3) := by decide +kernel
set_option maxRecDepth 20000 in
theorem ggL_law_X5_resend : GoodIn wsL_law wsX5_resend := goodIn_r _ [415, 78, 114, 80, 81, 82, 115, 116, 5, 117, 380, 381, 382, 276, 277, 278, 267, 268, 269, 270, 271, 272, 273, 274, 275, 279, 280, 281, 282, 86, 87, 88, 89, 90, 711, 712, 713, 714, 715, 716, 717, 718, 719, 720, 721, 722, 723, 724, 725, 726, 727, 728, 729, 730, 731, 732, 733, 734, 735, 736, 737, 738, 739] (by decide +kernel) (by decide +kernel)
set_option maxRecDepth 20000 in
theorem gL_law_X5_resend : GoodIn wsL_law (wsV RL 113 RX5 yX5_resend wsX5_resend) := goodIn_app (goodIn_of _ (by decide +kernel)) ggL_law_X5_resend
set_option maxRecDepth 100000 in
theorem dL_law_380 : decode cL_law 380 = .ok (.istore 6, 2) := by decide +kernel
set_option maxRecDepth 100000 in
theorem dL_law_382 : decode cL_law 382 = .ok (.goto 503, 3) := by decide +kernel
set_option maxRecDepth 100000 in
theorem dL_law_385 : decode cL_law 385 = .ok (.aload_n 1, 1) := by decide +kernel
set_option maxRecDepth 100000 in
theorem dL_law_386 : decode cL_law 386 = .ok (.aload_n 0, 1) := by decide +kernel
set_option maxRecDepth 100000 in
theorem dL_law_387 : decode cL_law 387 = .ok (.iload 4, 2) := by decide +kernel
set_option maxRecDepth 100000 in
theorem dL_law_389 : decode cL_law 389 = .ok (.iconst 1, 1) := by decide +kernel
set_option maxRecDepth 100000 in
theorem dL_law_390 : decode cL_law 390 = .ok (.iadd, 1) := by decide +kernel
set_option maxRecDepth 100000 in
theorem dL_law_391 : decode cL_law 391 = .ok (.iaload, 1) := by decide +kernel
set_option maxRecDepth 100000 in
theorem dL_law_392 : decode cL_law 392 = .ok (.invokestatic 114, 3) := by decide +kernel
set_option maxRecDepth 20000 in
theorem ggL_law_L_unlock : GoodIn wsL_law wsL_unlock := goodIn_ca (goodIn_ca (goodIn_r _ [418, 96, 122, 419, 420, 421, 2, 422, 138, 139, 130, 131, 132, 133, 105, 106, 14, 107, 108, 109, 747, 748, 749, 750, 751, 752, 753, 754, 707, 708, 709, 710] (by decide +kernel) (by decide +kernel)) (goodIn_sub (fun _ h => List.mem_append_left _ (List.mem_append_left _ (List.mem_append_right _ h))) (by decide +kernel))) (goodIn_sub (fun _ h => List.mem_append_left _ (List.mem_append_left _ (List.mem_append_left _ (List.mem_append_left _ (List.mem_append_right _ h))))) (by decide +kernel))
set_option maxRecDepth 20000 in
theorem gL_law_L_unlock : GoodIn wsL_law (va_wsS RL 114 yL_unlock wsL_unlock) := goodIn_app (goodIn_of _ (by decide +kernel)) ggL_law_L_unlock
set_option maxRecDepth 100000 in
theorem dL_law_395 : decode cL_law 395 = .ok (.istore 5, 2) := by decide +kernel
set_option maxRecDepth 100000 in
theorem dL_law_397 : decode cL_law 397 = .ok (.aload_n 2, 1) := by decide +kernel
set_option maxRecDepth 100000 in
theorem dL_law_398 : decode cL_law 398 = .ok (.aload_n 0, 1) := by decide +kernel
set_option maxRecDepth 100000 in
theorem dL_law_399 : decode cL_law 399 = .ok (.iload 4, 2) := by decide +kernel
set_option maxRecDepth 100000 in
theorem dL_law_401 : decode cL_law 401 = .ok (.iconst 1, 1) := by decide +kernel
set_option maxRecDepth 100000 in
theorem dL_law_402 : decode cL_law 402 = .ok (.iadd, 1) := by decide +kernel
set_option maxRecDepth 100000 in
theorem dL_law_403 : decode cL_law 403 = .ok (.iaload, 1) := by decide +kernel
set_option maxRecDepth 100000 in
theorem dL_law_404 : decode cL_law 404 = .ok (.invokevirtual 116, 3) := by decide +kernel
set_option maxRecDepth 20000 in
theorem ggL_law_X5_unlock : GoodIn wsL_law wsX5_unlock := goodIn_r _ [426, 77, 78, 114, 115, 116, 5, 117, 711, 712, 713, 714, 715, 716, 717, 718, 719, 720, 721, 722, 723, 724, 725, 726, 727, 728, 729, 730, 731, 732, 733, 734, 735, 736, 737, 738, 739] (by decide +kernel) (by decide +kernel)
set_option maxRecDepth 20000 in
theorem gL_law_X5_unlock : GoodIn wsL_law (wsV RL 116 RX5 yX5_unlock wsX5_unlock) := goodIn_app (goodIn_of _ (by decide +kernel)) ggL_law_X5_unlock
set_option maxRecDepth 100000 in
theorem dL_law_407 : decode cL_law 407 = .ok (.goto 478, 3) := by decide +kernel
set_option maxRecDepth 100000 in
theorem dL_law_410 : decode cL_law 410 = .ok (.aload_n 1, 1) := by decide +kernel
set_option maxRecDepth 100000 in
theorem dL_law_411 : decode cL_law 411 = .ok (.aload_n 0, 1) := by decide +kernel
set_option maxRecDepth 100000 in
theorem dL_law_412 : decode cL_law 412 = .ok (.iload 4, 2) := by decide +kernel
set_option maxRecDepth 100000 in
theorem dL_law_414 : decode cL_law 414 = .ok (.iconst 1, 1) := by decide +kernel
set_option maxRecDepth 100000 in
theorem dL_law_415 : decode cL_law 415 = .ok (.iadd, 1) := by decide +kernel
set_option maxRecDepth 100000 in
theorem dL_law_416 : decode cL_law 416 = .ok (.iaload, 1) := by decide +kernel
set_option maxRecDepth 100000 in
theorem dL_law_417 : decode cL_law 417 = .ok (.aload_n 0, 1) := by decide +kernel
set_option maxRecDepth 100000 in
theorem dL_law_418 : decode cL_law 418 = .ok (.iload 4, 2) := by decide +kernel
set_option maxRecDepth 100000 in
theorem dL_law_420 : decode cL_law 420 = .ok (.iconst 2, 1) := by decide +kernel
set_option maxRecDepth 100000 in
theorem dL_law_421 : decode cL_law 421 = .ok (.iadd, 1) := by decide +kernel
set_option maxRecDepth 100000 in
theorem dL_law_422 : decode cL_law 422 = .ok (.iaload, 1) := by decide +kernel
set_option maxRecDepth 100000 in
theorem dL_law_423 : decode cL_law 423 = .ok (.invokestatic 117, 3) := by decide +kernel
set_option maxRecDepth 20000 in
theorem ggL_law_L_ask : GoodIn wsL_law wsL_ask := goodIn_ca (goodIn_ca (goodIn_ca (goodIn_r _ [429, 96, 122, 123, 430, 431, 432, 2, 433, 138, 139, 14, 101, 102, 103, 104, 105, 106, 107, 108, 109, 149, 26, 150, 151, 55, 155, 156, 157, 158, 140, 141, 20, 159, 160, 161, 19, 162, 163, 188, 189, 190, 191, 192, 193, 194, 195, 196, 197, 11, 12, 198, 199, 200, 201, 202, 203, 204, 205, 206, 207, 208, 31, 209, 210, 211, 212, 213, 214, 215, 216, 217, 218, 219, 220, 30, 221, 222, 223, 224, 225, 226, 227, 228, 229, 230, 231, 232, 233, 234, 235, 236, 237, 238, 239, 240, 241, 242, 243, 244, 245, 246, 247, 248, 249, 250, 251, 252, 253, 254, 707, 708, 709, 710, 747, 748, 749, 750, 751, 752, 753, 754, 740, 741, 742, 760, 761, 762, 763, 764] (by decide +kernel) (by decide +kernel)) (goodIn_sub (fun _ h => List.mem_append_left _ (List.mem_append_left _ (List.mem_append_right _ h))) (by decide +kernel))) (goodIn_sub (fun _ h => List.mem_append_left _ (List.mem_append_left _ (List.mem_append_left _ (List.mem_append_left _ (List.mem_append_right _ h))))) (by decide +kernel))) (goodIn_sub (fun _ h => List.mem_append_left _ (List.mem_append_right _ h)) (by decide +kernel))
set_option maxRecDepth 20000 in
theorem gL_law_L_ask : GoodIn wsL_law (va_wsS RL 117 yL_ask wsL_ask) := goodIn_app (goodIn_of _ (by decide +kernel)) ggL_law_L_ask
set_option maxRecDepth 100000 in
theorem dL_law_426 : decode cL_law 426 = .ok (.istore 5, 2) := by decide +kernel
set_option maxRecDepth 100000 in
theorem dL_law_428 : decode cL_law 428 = .ok (.aload_n 2, 1) := by decide +kernel
set_option maxRecDepth 100000 in
theorem dL_law_429 : decode cL_law 429 = .ok (.aload_n 0, 1) := by decide +kernel
set_option maxRecDepth 100000 in
theorem dL_law_430 : decode cL_law 430 = .ok (.iload 4, 2) := by decide +kernel
set_option maxRecDepth 100000 in
theorem dL_law_432 : decode cL_law 432 = .ok (.iconst 1, 1) := by decide +kernel
set_option maxRecDepth 100000 in
theorem dL_law_433 : decode cL_law 433 = .ok (.iadd, 1) := by decide +kernel
set_option maxRecDepth 100000 in
theorem dL_law_434 : decode cL_law 434 = .ok (.iaload, 1) := by decide +kernel
set_option maxRecDepth 100000 in
theorem dL_law_435 : decode cL_law 435 = .ok (.aload_n 0, 1) := by decide +kernel
set_option maxRecDepth 100000 in
theorem dL_law_436 : decode cL_law 436 = .ok (.iload 4, 2) := by decide +kernel
set_option maxRecDepth 100000 in
theorem dL_law_438 : decode cL_law 438 = .ok (.iconst 2, 1) := by decide +kernel
set_option maxRecDepth 100000 in
theorem dL_law_439 : decode cL_law 439 = .ok (.iadd, 1) := by decide +kernel
set_option maxRecDepth 100000 in
theorem dL_law_440 : decode cL_law 440 = .ok (.iaload, 1) := by decide +kernel
set_option maxRecDepth 100000 in
theorem dL_law_441 : decode cL_law 441 = .ok (.invokevirtual 120, 3) := by decide +kernel
set_option maxRecDepth 20000 in
theorem ggL_law_X5_ask : GoodIn wsL_law wsX5_ask := goodIn_r _ [437, 76, 73, 114, 65, 74, 115, 116, 5, 117, 267, 268, 269, 270, 271, 279, 280, 281, 282, 86, 87, 88, 89, 90, 711, 712, 713, 714, 715, 716, 717, 718, 719, 720, 721, 722, 723, 724, 725, 726, 727, 728, 729, 730, 731, 732, 733, 734, 735, 736, 737, 738, 739] (by decide +kernel) (by decide +kernel)
set_option maxRecDepth 20000 in
theorem gL_law_X5_ask : GoodIn wsL_law (wsV RL 120 RX5 yX5_ask wsX5_ask) := goodIn_app (goodIn_of _ (by decide +kernel)) ggL_law_X5_ask
set_option maxRecDepth 100000 in
theorem dL_law_444 : decode cL_law 444 = .ok (.goto 441, 3) := by decide +kernel
set_option maxRecDepth 100000 in
theorem dL_law_447 : decode cL_law 447 = .ok (.aload_n 1, 1) := by decide +kernel
set_option maxRecDepth 100000 in
theorem dL_law_448 : decode cL_law 448 = .ok (.aload_n 0, 1) := by decide +kernel
set_option maxRecDepth 100000 in
theorem dL_law_449 : decode cL_law 449 = .ok (.iload 4, 2) := by decide +kernel
set_option maxRecDepth 100000 in
theorem dL_law_451 : decode cL_law 451 = .ok (.iconst 1, 1) := by decide +kernel
set_option maxRecDepth 100000 in
theorem dL_law_452 : decode cL_law 452 = .ok (.iadd, 1) := by decide +kernel
set_option maxRecDepth 100000 in
theorem dL_law_453 : decode cL_law 453 = .ok (.iaload, 1) := by decide +kernel
set_option maxRecDepth 100000 in
theorem dL_law_454 : decode cL_law 454 = .ok (.aload_n 3, 1) := by decide +kernel
set_option maxRecDepth 100000 in
theorem dL_law_455 : decode cL_law 455 = .ok (.invokestatic 121, 3) := by decide +kernel
set_option maxRecDepth 20000 in
theorem ggL_law_L_stop : GoodIn wsL_law wsL_stop := goodIn_ca (goodIn_r _ [440, 96, 441, 442, 443, 2, 444, 130, 131, 132, 133, 105, 106, 14, 107, 108, 109, 361, 26, 362, 363, 56, 57, 747, 748, 749, 750, 751, 752, 753, 754, 707, 708, 709, 710] (by decide +kernel) (by decide +kernel)) (goodIn_sub (fun _ h => List.mem_append_left _ (List.mem_append_left _ (List.mem_append_left _ (List.mem_append_left _ (List.mem_append_right _ h))))) (by decide +kernel))
set_option maxRecDepth 20000 in
theorem gL_law_L_stop : GoodIn wsL_law (va_wsS RL 121 yL_stop wsL_stop) := goodIn_app (goodIn_of _ (by decide +kernel)) ggL_law_L_stop
set_option maxRecDepth 100000 in
theorem dL_law_458 : decode cL_law 458 = .ok (.istore 5, 2) := by decide +kernel
set_option maxRecDepth 100000 in
theorem dL_law_460 : decode cL_law 460 = .ok (.aload_n 2, 1) := by decide +kernel
set_option maxRecDepth 100000 in
theorem dL_law_461 : decode cL_law 461 = .ok (.aload_n 0, 1) := by decide +kernel
set_option maxRecDepth 100000 in
theorem dL_law_462 : decode cL_law 462 = .ok (.iload 4, 2) := by decide +kernel
set_option maxRecDepth 100000 in
theorem dL_law_464 : decode cL_law 464 = .ok (.iconst 1, 1) := by decide +kernel
set_option maxRecDepth 100000 in
theorem dL_law_465 : decode cL_law 465 = .ok (.iadd, 1) := by decide +kernel
set_option maxRecDepth 100000 in
theorem dL_law_466 : decode cL_law 466 = .ok (.iaload, 1) := by decide +kernel
set_option maxRecDepth 100000 in
theorem dL_law_467 : decode cL_law 467 = .ok (.invokevirtual 123, 3) := by decide +kernel
set_option maxRecDepth 20000 in
theorem ggL_law_X5_stop : GoodIn wsL_law wsX5_stop := goodIn_r _ [448, 114, 76, 77, 78, 115, 116, 5, 117, 711, 712, 713, 714, 715, 716, 717, 718, 719, 720, 721, 722, 723, 724, 725, 726, 727, 728, 729, 730, 731, 732, 733, 734, 735, 736, 737, 738, 739] (by decide +kernel) (by decide +kernel)
set_option maxRecDepth 20000 in
theorem gL_law_X5_stop : GoodIn wsL_law (wsV RL 123 RX5 yX5_stop wsX5_stop) := goodIn_app (goodIn_of _ (by decide +kernel)) ggL_law_X5_stop
set_option maxRecDepth 100000 in
theorem dL_law_470 : decode cL_law 470 = .ok (.istore 6, 2) := by decide +kernel
set_option maxRecDepth 100000 in
theorem dL_law_472 : decode cL_law 472 = .ok (.goto 413, 3) := by decide +kernel
set_option maxRecDepth 100000 in
theorem dL_law_475 : decode cL_law 475 = .ok (.aload_n 1, 1) := by decide +kernel
set_option maxRecDepth 100000 in
theorem dL_law_476 : decode cL_law 476 = .ok (.aload_n 0, 1) := by decide +kernel
set_option maxRecDepth 100000 in
theorem dL_law_477 : decode cL_law 477 = .ok (.iload 4, 2) := by decide +kernel
set_option maxRecDepth 100000 in
theorem dL_law_479 : decode cL_law 479 = .ok (.iconst 1, 1) := by decide +kernel
set_option maxRecDepth 100000 in
theorem dL_law_480 : decode cL_law 480 = .ok (.iadd, 1) := by decide +kernel
set_option maxRecDepth 100000 in
theorem dL_law_481 : decode cL_law 481 = .ok (.iaload, 1) := by decide +kernel
set_option maxRecDepth 100000 in
theorem dL_law_482 : decode cL_law 482 = .ok (.aload_n 3, 1) := by decide +kernel
set_option maxRecDepth 100000 in
theorem dL_law_483 : decode cL_law 483 = .ok (.invokestatic 124, 3) := by decide +kernel
set_option maxRecDepth 20000 in
theorem ggL_law_L_start : GoodIn wsL_law wsL_start := goodIn_ca (goodIn_r _ [451, 96, 452, 453, 454, 2, 455, 130, 131, 132, 133, 105, 106, 14, 107, 108, 109, 361, 26, 362, 363, 56, 57, 747, 748, 749, 750, 751, 752, 753, 754, 707, 708, 709, 710] (by decide +kernel) (by decide +kernel)) (goodIn_sub (fun _ h => List.mem_append_left _ (List.mem_append_left _ (List.mem_append_left _ (List.mem_append_left _ (List.mem_append_right _ h))))) (by decide +kernel))
set_option maxRecDepth 20000 in
theorem gL_law_L_start : GoodIn wsL_law (va_wsS RL 124 yL_start wsL_start) := goodIn_app (goodIn_of _ (by decide +kernel)) ggL_law_L_start
set_option maxRecDepth 100000 in
theorem dL_law_486 : decode cL_law 486 = .ok (.istore 5, 2) := by decide +kernel
set_option maxRecDepth 100000 in
theorem dL_law_488 : decode cL_law 488 = .ok (.aload_n 2, 1) := by decide +kernel
set_option maxRecDepth 100000 in
theorem dL_law_489 : decode cL_law 489 = .ok (.aload_n 0, 1) := by decide +kernel
set_option maxRecDepth 100000 in
theorem dL_law_490 : decode cL_law 490 = .ok (.iload 4, 2) := by decide +kernel
set_option maxRecDepth 100000 in
theorem dL_law_492 : decode cL_law 492 = .ok (.iconst 1, 1) := by decide +kernel
set_option maxRecDepth 100000 in
theorem dL_law_493 : decode cL_law 493 = .ok (.iadd, 1) := by decide +kernel
set_option maxRecDepth 100000 in
theorem dL_law_494 : decode cL_law 494 = .ok (.iaload, 1) := by decide +kernel
set_option maxRecDepth 100000 in
theorem dL_law_495 : decode cL_law 495 = .ok (.invokevirtual 126, 3) := by decide +kernel
set_option maxRecDepth 20000 in
theorem ggL_law_X5_start : GoodIn wsL_law wsX5_start := goodIn_r _ [459, 114, 76, 115, 116, 5, 117, 711, 712, 713, 714, 715, 716, 717, 718, 719, 720, 721, 722, 723, 724, 725, 726, 727, 728, 729, 730, 731, 732, 733, 734, 735, 736, 737, 738, 739] (by decide +kernel) (by decide +kernel)
set_option maxRecDepth 20000 in
theorem gL_law_X5_start : GoodIn wsL_law (wsV RL 126 RX5 yX5_start wsX5_start) := goodIn_app (goodIn_of _ (by decide +kernel)) ggL_law_X5_start
set_option maxRecDepth 100000 in
theorem dL_law_498 : decode cL_law 498 = .ok (.istore 6, 2) := by decide +kernel
set_option maxRecDepth 100000 in
theorem dL_law_500 : decode cL_law 500 = .ok (.aload_n 2, 1) := by decide +kernel
set_option maxRecDepth 100000 in
theorem dL_law_501 : decode cL_law 501 = .ok (.invokevirtual 127, 3) := by decide +kernel
set_option maxRecDepth 20000 in
theorem ggL_law_X5_thrown : GoodIn wsL_law wsX5_thrown := goodIn_r _ [463, 114, 711, 712, 713, 714, 715, 716, 717, 718, 719, 720, 721, 722, 723, 724, 725, 726, 727, 728, 729, 730, 731, 732, 733, 734, 735, 736, 737, 738, 739] (by decide +kernel) (by decide +kernel)
set_option maxRecDepth 20000 in
theorem gL_law_X5_thrown : GoodIn wsL_law (wsV RL 127 RX5 yX5_thrown wsX5_thrown) := goodIn_app (goodIn_of _ (by decide +kernel)) ggL_law_X5_thrown
set_option maxRecDepth 100000 in
theorem dL_law_504 : decode cL_law 504 = .ok (.iload 5, 2) := by decide +kernel
set_option maxRecDepth 100000 in
theorem dL_law_506 : decode cL_law 506 = .ok (.if_icmp .eq 5, 3) := by decide +kernel
set_option maxRecDepth 100000 in
theorem dL_law_511 : decode cL_law 511 = .ok (.iload 5, 2) := by decide +kernel
set_option maxRecDepth 100000 in
theorem dL_law_513 : decode cL_law 513 = .ok (.ifCond .ne 22, 3) := by decide +kernel
set_option maxRecDepth 100000 in
theorem dL_law_535 : decode cL_law 535 = .ok (.goto 350, 3) := by decide +kernel
set_option maxRecDepth 100000 in
theorem dL_law_516 : decode cL_law 516 = .ok (.aload_n 3, 1) := by decide +kernel
set_option maxRecDepth 100000 in
theorem dL_law_517 : decode cL_law 517 = .ok (.iconst 0, 1) := by decide +kernel
set_option maxRecDepth 100000 in
theorem dL_law_518 : decode cL_law 518 = .ok (.laload, 1) := by decide +kernel
set_option maxRecDepth 100000 in
theorem dL_law_519 : decode cL_law 519 = .ok (.iload 6, 2) := by decide +kernel
set_option maxRecDepth 100000 in
theorem dL_law_521 : decode cL_law 521 = .ok (.ifCond .eq 7, 3) := by decide +kernel
set_option maxRecDepth 100000 in
theorem dL_law_528 : decode cL_law 528 = .ok (.lconst 0, 1) := by decide +kernel
set_option maxRecDepth 100000 in
theorem dL_law_529 : decode cL_law 529 = .ok (.lcmp, 1) := by decide +kernel
set_option maxRecDepth 100000 in
theorem dL_law_530 : decode cL_law 530 = .ok (.ifCond .eq 5, 3) := by decide +kernel
set_option maxRecDepth 100000 in
theorem dL_law_524 : decode cL_law 524 = .ok (.lconst 1, 1) := by decide +kernel
set_option maxRecDepth 100000 in
theorem dL_law_525 : decode cL_law 525 = .ok (.goto 4, 3) := by decide +kernel
set_option maxRecDepth 100000 in
theorem dL_law_538 : decode cL_law 538 = .ok (.aload_n 1, 1) := by decide +kernel
set_option maxRecDepth 100000 in
theorem dL_law_539 : decode cL_law 539 = .ok (.invokevirtual 131, 3) := by decide +kernel
set_option maxRecDepth 20000 in
theorem ggL_law_X4_letters : GoodIn wsL_law wsX4_letters := goodIn_r _ [467, 20, 159, 160, 161, 19, 162, 163, 707, 708, 709, 710, 740, 741, 742] (by decide +kernel) (by decide +kernel)
set_option maxRecDepth 20000 in
theorem gL_law_X4_letters : GoodIn wsL_law (wsV RL 131 RX4 yX4_letters wsX4_letters) := goodIn_app (goodIn_of _ (by decide +kernel)) ggL_law_X4_letters
set_option maxRecDepth 100000 in
theorem dL_law_542 : decode cL_law 542 = .ok (.pop, 1) := by decide +kernel
set_option maxRecDepth 100000 in
theorem dL_law_543 : decode cL_law 543 = .ok (.aload_n 2, 1) := by decide +kernel
set_option maxRecDepth 100000 in
theorem dL_law_544 : decode cL_law 544 = .ok (.invokevirtual 134, 3) := by decide +kernel
set_option maxRecDepth 20000 in
theorem ggL_law_X5_letters : GoodIn wsL_law wsX5_letters := goodIn_r _ [471, 114, 271, 711, 712, 713, 714, 715, 716, 717, 718, 719, 720, 721, 722, 723, 724, 725, 726, 727, 728, 729, 730, 731, 732, 733, 734, 735, 736, 737, 738, 739] (by decide +kernel) (by decide +kernel)
set_option maxRecDepth 20000 in
theorem gL_law_X5_letters : GoodIn wsL_law (wsV RL 134 RX5 yX5_letters wsX5_letters) := goodIn_app (goodIn_of _ (by decide +kernel)) ggL_law_X5_letters
set_option maxRecDepth 100000 in
theorem dL_law_547 : decode cL_law 547 = .ok (.pop, 1) := by decide +kernel
set_option maxRecDepth 100000 in
theorem dL_law_548 : decode cL_law 548 = .ok (.goto 337, 3) := by decide +kernel
set_option maxRecDepth 100000 in
theorem dL_law_551 : decode cL_law 551 = .ok (.aload_n 1, 1) := by decide +kernel
set_option maxRecDepth 100000 in
theorem dL_law_552 : decode cL_law 552 = .ok (.aload_n 0, 1) := by decide +kernel
set_option maxRecDepth 100000 in
theorem dL_law_553 : decode cL_law 553 = .ok (.iload 4, 2) := by decide +kernel
set_option maxRecDepth 100000 in
theorem dL_law_555 : decode cL_law 555 = .ok (.iconst 1, 1) := by decide +kernel
set_option maxRecDepth 100000 in
theorem dL_law_556 : decode cL_law 556 = .ok (.iadd, 1) := by decide +kernel
set_option maxRecDepth 100000 in
theorem dL_law_557 : decode cL_law 557 = .ok (.iaload, 1) := by decide +kernel
set_option maxRecDepth 100000 in
theorem dL_law_558 : decode cL_law 558 = .ok (.aload_n 3, 1) := by decide +kernel
set_option maxRecDepth 100000 in
theorem dL_law_559 : decode cL_law 559 = .ok (.invokestatic 135, 3) := by decide +kernel
set_option maxRecDepth 20000 in
theorem ggL_law_L_deliver : GoodIn wsL_law wsL_deliver := goodIn_ca (goodIn_ca (goodIn_ca (goodIn_r _ [474, 96, 122, 123, 475, 476, 477, 2, 478, 138, 139, 14, 20, 479, 480, 481, 482, 483, 484, 485, 486, 487, 105, 106, 159, 160, 161, 19, 162, 163, 107, 108, 109, 488, 489, 490, 491, 492, 493, 494, 495, 496, 497, 498, 499, 500, 501, 502, 503, 31, 504, 505, 506, 507, 16, 508, 509, 510, 511, 512, 513, 181, 144, 182, 183, 170, 177, 178, 179, 168, 169, 180, 184, 185, 186, 187, 357, 358, 359, 360, 327, 328, 329, 155, 156, 157, 158, 140, 141, 514, 515, 516, 517, 518, 519, 520, 521, 207, 208, 522, 252, 253, 254, 523, 524, 525, 526, 527, 528, 529, 530, 145, 26, 146, 147, 52, 56, 148, 149, 150, 151, 55, 531, 532, 533, 534, 188, 189, 190, 191, 192, 193, 194, 195, 196, 197, 11, 12, 198, 199, 200, 201, 202, 203, 204, 205, 206, 209, 210, 211, 212, 213, 214, 215, 216, 217, 218, 219, 220, 30, 221, 222, 223, 224, 225, 226, 227, 228, 229, 230, 231, 232, 233, 234, 235, 236, 237, 238, 239, 240, 241, 242, 243, 244, 245, 246, 247, 248, 249, 250, 251, 535, 536, 537, 538, 539, 540, 541, 542, 543, 544, 545, 546, 24, 547, 548, 45, 46, 342, 152, 153, 154, 549, 550, 551, 54, 552, 553, 554, 555, 353, 354, 355, 356, 361, 362, 363, 57, 556, 557, 558, 559, 560, 561, 562, 563, 564, 565, 566, 567, 568, 569, 570, 571, 572, 573, 574, 575, 576, 58, 577, 578, 579, 707, 708, 709, 710, 760, 761, 762, 763, 764, 747, 748, 749, 750, 751, 752, 753, 754, 740, 741, 742, 755, 756, 757, 758, 759, 743, 744, 745, 746] (by decide +kernel) (by decide +kernel)) (goodIn_sub (fun _ h => List.mem_append_left _ (List.mem_append_left _ (List.mem_append_right _ h))) (by decide +kernel))) (goodIn_sub (fun _ h => List.mem_append_left _ (List.mem_append_left _ (List.mem_append_left _ (List.mem_append_left _ (List.mem_append_right _ h))))) (by decide +kernel))) (goodIn_sub (fun _ h => List.mem_append_left _ (List.mem_append_right _ h)) (by decide +kernel))
set_option maxRecDepth 20000 in
theorem gL_law_L_deliver : GoodIn wsL_law (va_wsS RL 135 yL_deliver wsL_deliver) := goodIn_app (goodIn_of _ (by decide +kernel)) ggL_law_L_deliver
set_option maxRecDepth 100000 in
theorem dL_law_562 : decode cL_law 562 = .ok (.istore 5, 2) := by decide +kernel
set_option maxRecDepth 100000 in
theorem dL_law_564 : decode cL_law 564 = .ok (.aload_n 2, 1) := by decide +kernel
set_option maxRecDepth 100000 in
theorem dL_law_565 : decode cL_law 565 = .ok (.aload_n 0, 1) := by decide +kernel
set_option maxRecDepth 100000 in
theorem dL_law_566 : decode cL_law 566 = .ok (.iload 4, 2) := by decide +kernel
set_option maxRecDepth 100000 in
theorem dL_law_568 : decode cL_law 568 = .ok (.iconst 1, 1) := by decide +kernel
set_option maxRecDepth 100000 in
theorem dL_law_569 : decode cL_law 569 = .ok (.iadd, 1) := by decide +kernel
set_option maxRecDepth 100000 in
theorem dL_law_570 : decode cL_law 570 = .ok (.iaload, 1) := by decide +kernel
set_option maxRecDepth 100000 in
theorem dL_law_571 : decode cL_law 571 = .ok (.invokevirtual 137, 3) := by decide +kernel
set_option maxRecDepth 20000 in
theorem ggL_law_X5_deliver : GoodIn wsL_law wsX5_deliver := goodIn_r _ [583, 87, 88, 76, 114, 86, 82, 81, 89, 90, 584, 585, 586, 5, 587, 271, 588, 589, 590, 591, 85, 84, 592, 593, 594, 595, 78, 80, 276, 277, 278, 380, 381, 382, 267, 268, 269, 270, 596, 597, 598, 599, 600, 601, 602, 603, 77, 71, 83, 65, 73, 74, 263, 264, 265, 266, 279, 280, 281, 282, 310, 311, 312, 313, 66, 386, 387, 388, 389, 272, 273, 274, 275, 604, 605, 606, 607, 608, 609, 610, 611, 68, 612, 613, 614, 615, 711, 712, 713, 714, 715, 716, 717, 718, 719, 720, 721, 722, 723, 724, 725, 726, 727, 728, 729, 730, 731, 732, 733, 734, 735, 736, 737, 738, 739] (by decide +kernel) (by decide +kernel)
set_option maxRecDepth 20000 in
theorem gL_law_X5_deliver : GoodIn wsL_law (wsV RL 137 RX5 yX5_deliver wsX5_deliver) := goodIn_app (goodIn_of _ (by decide +kernel)) ggL_law_X5_deliver
set_option maxRecDepth 100000 in
theorem dL_law_574 : decode cL_law 574 = .ok (.istore 6, 2) := by decide +kernel
set_option maxRecDepth 100000 in
theorem dL_law_576 : decode cL_law 576 = .ok (.goto 309, 3) := by decide +kernel
set_option maxRecDepth 100000 in
theorem dL_law_579 : decode cL_law 579 = .ok (.aload_n 1, 1) := by decide +kernel
set_option maxRecDepth 100000 in
theorem dL_law_580 : decode cL_law 580 = .ok (.aload_n 0, 1) := by decide +kernel
set_option maxRecDepth 100000 in
theorem dL_law_581 : decode cL_law 581 = .ok (.iload 4, 2) := by decide +kernel
set_option maxRecDepth 100000 in
theorem dL_law_583 : decode cL_law 583 = .ok (.iconst 1, 1) := by decide +kernel
set_option maxRecDepth 100000 in
theorem dL_law_584 : decode cL_law 584 = .ok (.iadd, 1) := by decide +kernel
set_option maxRecDepth 100000 in
theorem dL_law_585 : decode cL_law 585 = .ok (.iaload, 1) := by decide +kernel
set_option maxRecDepth 100000 in
theorem dL_law_586 : decode cL_law 586 = .ok (.invokestatic 138, 3) := by decide +kernel
set_option maxRecDepth 20000 in
theorem ggL_law_L_lose : GoodIn wsL_law wsL_lose := goodIn_ca (goodIn_r _ [618, 96, 619, 620, 621, 2, 622, 20, 484, 485, 486, 487, 105, 106, 159, 160, 161, 19, 162, 163, 107, 108, 109, 514, 515, 516, 517, 31, 492, 493, 494, 495, 496, 497, 498, 499, 518, 519, 520, 521, 207, 208, 522, 252, 253, 254, 707, 708, 709, 710, 740, 741, 742] (by decide +kernel) (by decide +kernel)) (goodIn_sub (fun _ h => List.mem_append_left _ (List.mem_append_left _ (List.mem_append_left _ (List.mem_append_left _ (List.mem_append_right _ h))))) (by decide +kernel))
set_option maxRecDepth 20000 in
theorem gL_law_L_lose : GoodIn wsL_law (va_wsS RL 138 yL_lose wsL_lose) := goodIn_app (goodIn_of _ (by decide +kernel)) ggL_law_L_lose
set_option maxRecDepth 100000 in
theorem dL_law_589 : decode cL_law 589 = .ok (.istore 5, 2) := by decide +kernel
set_option maxRecDepth 100000 in
theorem dL_law_591 : decode cL_law 591 = .ok (.aload_n 2, 1) := by decide +kernel
set_option maxRecDepth 100000 in
theorem dL_law_592 : decode cL_law 592 = .ok (.aload_n 0, 1) := by decide +kernel
set_option maxRecDepth 100000 in
theorem dL_law_593 : decode cL_law 593 = .ok (.iload 4, 2) := by decide +kernel
set_option maxRecDepth 100000 in
theorem dL_law_595 : decode cL_law 595 = .ok (.iconst 1, 1) := by decide +kernel
set_option maxRecDepth 100000 in
theorem dL_law_596 : decode cL_law 596 = .ok (.iadd, 1) := by decide +kernel
set_option maxRecDepth 100000 in
theorem dL_law_597 : decode cL_law 597 = .ok (.iaload, 1) := by decide +kernel
set_option maxRecDepth 100000 in
theorem dL_law_598 : decode cL_law 598 = .ok (.invokevirtual 140, 3) := by decide +kernel
set_option maxRecDepth 20000 in
theorem ggL_law_X5_lose : GoodIn wsL_law wsX5_lose := goodIn_r _ [626, 114, 584, 585, 586, 5, 587, 271, 596, 597, 598, 599, 86, 87, 88, 89, 90, 711, 712, 713, 714, 715, 716, 717, 718, 719, 720, 721, 722, 723, 724, 725, 726, 727, 728, 729, 730, 731, 732, 733, 734, 735, 736, 737, 738, 739] (by decide +kernel) (by decide +kernel)
set_option maxRecDepth 20000 in
theorem gL_law_X5_lose : GoodIn wsL_law (wsV RL 140 RX5 yX5_lose wsX5_lose) := goodIn_app (goodIn_of _ (by decide +kernel)) ggL_law_X5_lose
set_option maxRecDepth 100000 in
theorem dL_law_601 : decode cL_law 601 = .ok (.goto 284, 3) := by decide +kernel
set_option maxRecDepth 100000 in
theorem dL_law_604 : decode cL_law 604 = .ok (.aload_n 1, 1) := by decide +kernel
set_option maxRecDepth 100000 in
theorem dL_law_605 : decode cL_law 605 = .ok (.aload_n 0, 1) := by decide +kernel
set_option maxRecDepth 100000 in
theorem dL_law_606 : decode cL_law 606 = .ok (.iload 4, 2) := by decide +kernel
set_option maxRecDepth 100000 in
theorem dL_law_608 : decode cL_law 608 = .ok (.iconst 1, 1) := by decide +kernel
set_option maxRecDepth 100000 in
theorem dL_law_609 : decode cL_law 609 = .ok (.iadd, 1) := by decide +kernel
set_option maxRecDepth 100000 in
theorem dL_law_610 : decode cL_law 610 = .ok (.iaload, 1) := by decide +kernel
set_option maxRecDepth 100000 in
theorem dL_law_611 : decode cL_law 611 = .ok (.invokestatic 141, 3) := by decide +kernel
set_option maxRecDepth 20000 in
theorem ggL_law_L_twin : GoodIn wsL_law wsL_twin := goodIn_ca (goodIn_ca (goodIn_r _ [629, 96, 123, 630, 631, 632, 2, 633, 20, 479, 480, 481, 482, 483, 484, 485, 486, 487, 105, 106, 159, 160, 161, 19, 162, 163, 107, 108, 109, 488, 489, 490, 491, 492, 493, 494, 495, 496, 497, 498, 499, 500, 501, 502, 503, 31, 155, 156, 157, 158, 140, 141, 203, 204, 205, 206, 207, 208, 209, 210, 211, 212, 213, 214, 215, 216, 217, 218, 219, 220, 30, 221, 222, 223, 224, 225, 226, 227, 228, 229, 230, 231, 232, 233, 234, 235, 236, 237, 238, 239, 240, 241, 242, 243, 244, 245, 246, 247, 248, 249, 250, 251, 252, 253, 254, 707, 708, 709, 710, 740, 741, 742] (by decide +kernel) (by decide +kernel)) (goodIn_sub (fun _ h => List.mem_append_left _ (List.mem_append_left _ (List.mem_append_left _ (List.mem_append_left _ (List.mem_append_right _ h))))) (by decide +kernel))) (goodIn_sub (fun _ h => List.mem_append_left _ (List.mem_append_right _ h)) (by decide +kernel))
set_option maxRecDepth 20000 in
theorem gL_law_L_twin : GoodIn wsL_law (va_wsS RL 141 yL_twin wsL_twin) := goodIn_app (goodIn_of _ (by decide +kernel)) ggL_law_L_twin
set_option maxRecDepth 100000 in
theorem dL_law_614 : decode cL_law 614 = .ok (.istore 5, 2) := by decide +kernel
set_option maxRecDepth 100000 in
theorem dL_law_616 : decode cL_law 616 = .ok (.aload_n 2, 1) := by decide +kernel
set_option maxRecDepth 100000 in
theorem dL_law_617 : decode cL_law 617 = .ok (.aload_n 0, 1) := by decide +kernel
set_option maxRecDepth 100000 in
theorem dL_law_618 : decode cL_law 618 = .ok (.iload 4, 2) := by decide +kernel
set_option maxRecDepth 100000 in
theorem dL_law_620 : decode cL_law 620 = .ok (.iconst 1, 1) := by decide +kernel
set_option maxRecDepth 100000 in
theorem dL_law_621 : decode cL_law 621 = .ok (.iadd, 1) := by decide +kernel
set_option maxRecDepth 100000 in
theorem dL_law_622 : decode cL_law 622 = .ok (.iaload, 1) := by decide +kernel
set_option maxRecDepth 100000 in
theorem dL_law_623 : decode cL_law 623 = .ok (.invokevirtual 143, 3) := by decide +kernel
set_option maxRecDepth 20000 in
theorem ggL_law_X5_twin : GoodIn wsL_law wsX5_twin := goodIn_r _ [637, 114, 86, 87, 88, 89, 90, 584, 585, 586, 5, 587, 271, 267, 268, 269, 270, 279, 280, 281, 282, 711, 712, 713, 714, 715, 716, 717, 718, 719, 720, 721, 722, 723, 724, 725, 726, 727, 728, 729, 730, 731, 732, 733, 734, 735, 736, 737, 738, 739] (by decide +kernel) (by decide +kernel)
set_option maxRecDepth 20000 in
theorem gL_law_X5_twin : GoodIn wsL_law (wsV RL 143 RX5 yX5_twin wsX5_twin) := goodIn_app (goodIn_of _ (by decide +kernel)) ggL_law_X5_twin
set_option maxRecDepth 100000 in
theorem dL_law_626 : decode cL_law 626 = .ok (.goto 259, 3) := by decide +kernel
set_option maxRecDepth 100000 in
theorem dL_law_629 : decode cL_law 629 = .ok (.aload_n 1, 1) := by decide +kernel
set_option maxRecDepth 100000 in
theorem dL_law_630 : decode cL_law 630 = .ok (.aload_n 0, 1) := by decide +kernel
set_option maxRecDepth 100000 in
theorem dL_law_631 : decode cL_law 631 = .ok (.iload 4, 2) := by decide +kernel
set_option maxRecDepth 100000 in
theorem dL_law_633 : decode cL_law 633 = .ok (.iconst 1, 1) := by decide +kernel
set_option maxRecDepth 100000 in
theorem dL_law_634 : decode cL_law 634 = .ok (.iadd, 1) := by decide +kernel
set_option maxRecDepth 100000 in
theorem dL_law_635 : decode cL_law 635 = .ok (.iaload, 1) := by decide +kernel
set_option maxRecDepth 100000 in
theorem dL_law_636 : decode cL_law 636 = .ok (.aload_n 0, 1) := by decide +kernel
set_option maxRecDepth 100000 in
theorem dL_law_637 : decode cL_law 637 = .ok (.iload 4, 2) := by decide +kernel
set_option maxRecDepth 100000 in
theorem dL_law_639 : decode cL_law 639 = .ok (.iconst 2, 1) := by decide +kernel
set_option maxRecDepth 100000 in
theorem dL_law_640 : decode cL_law 640 = .ok (.iadd, 1) := by decide +kernel
set_option maxRecDepth 100000 in
theorem dL_law_641 : decode cL_law 641 = .ok (.iaload, 1) := by decide +kernel
set_option maxRecDepth 100000 in
theorem dL_law_642 : decode cL_law 642 = .ok (.aload_n 3, 1) := by decide +kernel
set_option maxRecDepth 100000 in
theorem dL_law_643 : decode cL_law 643 = .ok (.invokestatic 144, 3) := by decide +kernel
set_option maxRecDepth 20000 in
theorem ggL_law_L_letter : GoodIn wsL_law wsL_letter := goodIn_ca (goodIn_ca (goodIn_r _ [640, 96, 121, 641, 642, 643, 2, 644, 128, 129, 479, 480, 481, 482, 20, 483, 484, 485, 486, 487, 105, 106, 159, 160, 161, 19, 162, 163, 107, 108, 109, 488, 489, 490, 491, 492, 493, 494, 495, 496, 497, 498, 499, 500, 501, 502, 503, 31, 760, 761, 762, 763, 764, 707, 708, 709, 710, 740, 741, 742] (by decide +kernel) (by decide +kernel)) (goodIn_sub (fun _ h => List.mem_append_left _ (List.mem_append_left _ (List.mem_append_left _ (List.mem_append_right _ h)))) (by decide +kernel))) (goodIn_sub (fun _ h => List.mem_append_left _ (List.mem_append_left _ (List.mem_append_left _ (List.mem_append_left _ (List.mem_append_right _ h))))) (by decide +kernel))
set_option maxRecDepth 20000 in
theorem gL_law_L_letter : GoodIn wsL_law (va_wsS RL 144 yL_letter wsL_letter) := goodIn_app (goodIn_of _ (by decide +kernel)) ggL_law_L_letter
set_option maxRecDepth 100000 in
theorem dL_law_646 : decode cL_law 646 = .ok (.istore 5, 2) := by decide +kernel
set_option maxRecDepth 100000 in
theorem dL_law_648 : decode cL_law 648 = .ok (.aload_n 2, 1) := by decide +kernel
set_option maxRecDepth 100000 in
theorem dL_law_649 : decode cL_law 649 = .ok (.aload_n 0, 1) := by decide +kernel
set_option maxRecDepth 100000 in
theorem dL_law_650 : decode cL_law 650 = .ok (.iload 4, 2) := by decide +kernel
set_option maxRecDepth 100000 in
theorem dL_law_652 : decode cL_law 652 = .ok (.iconst 1, 1) := by decide +kernel
set_option maxRecDepth 100000 in
theorem dL_law_653 : decode cL_law 653 = .ok (.iadd, 1) := by decide +kernel
set_option maxRecDepth 100000 in
theorem dL_law_654 : decode cL_law 654 = .ok (.iaload, 1) := by decide +kernel
set_option maxRecDepth 100000 in
theorem dL_law_655 : decode cL_law 655 = .ok (.aload_n 0, 1) := by decide +kernel
set_option maxRecDepth 100000 in
theorem dL_law_656 : decode cL_law 656 = .ok (.iload 4, 2) := by decide +kernel
set_option maxRecDepth 100000 in
theorem dL_law_658 : decode cL_law 658 = .ok (.iconst 2, 1) := by decide +kernel
set_option maxRecDepth 100000 in
theorem dL_law_659 : decode cL_law 659 = .ok (.iadd, 1) := by decide +kernel
set_option maxRecDepth 100000 in
theorem dL_law_660 : decode cL_law 660 = .ok (.iaload, 1) := by decide +kernel
set_option maxRecDepth 100000 in
theorem dL_law_661 : decode cL_law 661 = .ok (.invokevirtual 146, 3) := by decide +kernel
set_option maxRecDepth 20000 in
theorem ggL_law_X5_letter : GoodIn wsL_law wsX5_letter := goodIn_r _ [648, 114, 86, 87, 88, 89, 584, 585, 586, 5, 587, 271, 711, 712, 713, 714, 715, 716, 717, 718, 719, 720, 721, 722, 723, 724, 725, 726, 727, 728, 729, 730, 731, 732, 733, 734, 735, 736, 737, 738, 739] (by decide +kernel) (by decide +kernel)
set_option maxRecDepth 20000 in
theorem gL_law_X5_letter : GoodIn wsL_law (wsV RL 146 RX5 yX5_letter wsX5_letter) := goodIn_app (goodIn_of _ (by decide +kernel)) ggL_law_X5_letter
set_option maxRecDepth 100000 in
theorem dL_law_664 : decode cL_law 664 = .ok (.istore 6, 2) := by decide +kernel
set_option maxRecDepth 100000 in
theorem dL_law_666 : decode cL_law 666 = .ok (.goto 219, 3) := by decide +kernel
set_option maxRecDepth 100000 in
theorem dL_law_669 : decode cL_law 669 = .ok (.aload_n 1, 1) := by decide +kernel
set_option maxRecDepth 100000 in
theorem dL_law_670 : decode cL_law 670 = .ok (.aload_n 0, 1) := by decide +kernel
set_option maxRecDepth 100000 in
theorem dL_law_671 : decode cL_law 671 = .ok (.iload 4, 2) := by decide +kernel
set_option maxRecDepth 100000 in
theorem dL_law_673 : decode cL_law 673 = .ok (.iconst 1, 1) := by decide +kernel
set_option maxRecDepth 100000 in
theorem dL_law_674 : decode cL_law 674 = .ok (.iadd, 1) := by decide +kernel
set_option maxRecDepth 100000 in
theorem dL_law_675 : decode cL_law 675 = .ok (.iaload, 1) := by decide +kernel
set_option maxRecDepth 100000 in
theorem dL_law_676 : decode cL_law 676 = .ok (.aload_n 3, 1) := by decide +kernel
set_option maxRecDepth 100000 in
theorem dL_law_677 : decode cL_law 677 = .ok (.invokestatic 147, 3) := by decide +kernel
set_option maxRecDepth 20000 in
theorem ggL_law_L_count : GoodIn wsL_law wsL_count := goodIn_ca (goodIn_r _ [651, 96, 652, 653, 654, 2, 655, 130, 131, 132, 133, 105, 106, 14, 107, 108, 109, 152, 24, 153, 154, 45, 747, 748, 749, 750, 751, 752, 753, 754, 707, 708, 709, 710, 743, 744, 745, 746] (by decide +kernel) (by decide +kernel)) (goodIn_sub (fun _ h => List.mem_append_left _ (List.mem_append_left _ (List.mem_append_left _ (List.mem_append_left _ (List.mem_append_right _ h))))) (by decide +kernel))
set_option maxRecDepth 20000 in
theorem gL_law_L_count : GoodIn wsL_law (va_wsS RL 147 yL_count wsL_count) := goodIn_app (goodIn_of _ (by decide +kernel)) ggL_law_L_count
set_option maxRecDepth 100000 in
theorem dL_law_680 : decode cL_law 680 = .ok (.istore 5, 2) := by decide +kernel
set_option maxRecDepth 100000 in
theorem dL_law_682 : decode cL_law 682 = .ok (.aload_n 2, 1) := by decide +kernel
set_option maxRecDepth 100000 in
theorem dL_law_683 : decode cL_law 683 = .ok (.aload_n 0, 1) := by decide +kernel
set_option maxRecDepth 100000 in
theorem dL_law_684 : decode cL_law 684 = .ok (.iload 4, 2) := by decide +kernel
set_option maxRecDepth 100000 in
theorem dL_law_686 : decode cL_law 686 = .ok (.iconst 1, 1) := by decide +kernel
set_option maxRecDepth 100000 in
theorem dL_law_687 : decode cL_law 687 = .ok (.iadd, 1) := by decide +kernel
set_option maxRecDepth 100000 in
theorem dL_law_688 : decode cL_law 688 = .ok (.iaload, 1) := by decide +kernel
set_option maxRecDepth 100000 in
theorem dL_law_689 : decode cL_law 689 = .ok (.invokevirtual 149, 3) := by decide +kernel
set_option maxRecDepth 20000 in
theorem ggL_law_X5_count : GoodIn wsL_law wsX5_count := goodIn_r _ [659, 114, 65, 71, 115, 116, 5, 117, 711, 712, 713, 714, 715, 716, 717, 718, 719, 720, 721, 722, 723, 724, 725, 726, 727, 728, 729, 730, 731, 732, 733, 734, 735, 736, 737, 738, 739] (by decide +kernel) (by decide +kernel)
set_option maxRecDepth 20000 in
theorem gL_law_X5_count : GoodIn wsL_law (wsV RL 149 RX5 yX5_count wsX5_count) := goodIn_app (goodIn_of _ (by decide +kernel)) ggL_law_X5_count
set_option maxRecDepth 100000 in
theorem dL_law_692 : decode cL_law 692 = .ok (.istore 6, 2) := by decide +kernel
set_option maxRecDepth 100000 in
theorem dL_law_694 : decode cL_law 694 = .ok (.goto 191, 3) := by decide +kernel
set_option maxRecDepth 100000 in
theorem dL_law_697 : decode cL_law 697 = .ok (.aload_n 1, 1) := by decide +kernel
set_option maxRecDepth 100000 in
theorem dL_law_698 : decode cL_law 698 = .ok (.aload_n 0, 1) := by decide +kernel
set_option maxRecDepth 100000 in
theorem dL_law_699 : decode cL_law 699 = .ok (.iload 4, 2) := by decide +kernel
set_option maxRecDepth 100000 in
theorem dL_law_701 : decode cL_law 701 = .ok (.iconst 1, 1) := by decide +kernel
set_option maxRecDepth 100000 in
theorem dL_law_702 : decode cL_law 702 = .ok (.iadd, 1) := by decide +kernel
set_option maxRecDepth 100000 in
theorem dL_law_703 : decode cL_law 703 = .ok (.iaload, 1) := by decide +kernel
set_option maxRecDepth 100000 in
theorem dL_law_704 : decode cL_law 704 = .ok (.aload_n 0, 1) := by decide +kernel
set_option maxRecDepth 100000 in
theorem dL_law_705 : decode cL_law 705 = .ok (.iload 4, 2) := by decide +kernel
set_option maxRecDepth 100000 in
theorem dL_law_707 : decode cL_law 707 = .ok (.iconst 2, 1) := by decide +kernel
set_option maxRecDepth 100000 in
theorem dL_law_708 : decode cL_law 708 = .ok (.iadd, 1) := by decide +kernel
set_option maxRecDepth 100000 in
theorem dL_law_709 : decode cL_law 709 = .ok (.iaload, 1) := by decide +kernel
set_option maxRecDepth 100000 in
theorem dL_law_710 : decode cL_law 710 = .ok (.aload_n 0, 1) := by decide +kernel
set_option maxRecDepth 100000 in
theorem dL_law_711 : decode cL_law 711 = .ok (.iload 4, 2) := by decide +kernel
set_option maxRecDepth 100000 in
theorem dL_law_713 : decode cL_law 713 = .ok (.iconst 3, 1) := by decide +kernel
set_option maxRecDepth 100000 in
theorem dL_law_714 : decode cL_law 714 = .ok (.iadd, 1) := by decide +kernel
set_option maxRecDepth 100000 in
theorem dL_law_715 : decode cL_law 715 = .ok (.iaload, 1) := by decide +kernel
set_option maxRecDepth 100000 in
theorem dL_law_716 : decode cL_law 716 = .ok (.ifCond .eq 7, 3) := by decide +kernel
set_option maxRecDepth 100000 in
theorem dL_law_723 : decode cL_law 723 = .ok (.iconst 0, 1) := by decide +kernel
set_option maxRecDepth 100000 in
theorem dL_law_724 : decode cL_law 724 = .ok (.aload_n 3, 1) := by decide +kernel
set_option maxRecDepth 100000 in
theorem dL_law_725 : decode cL_law 725 = .ok (.invokestatic 150, 3) := by decide +kernel
set_option maxRecDepth 20000 in
theorem ggL_law_L_entry : GoodIn wsL_law wsL_entry := goodIn_ca (goodIn_ca (goodIn_r _ [662, 96, 286, 663, 664, 665, 2, 666, 291, 292, 130, 131, 132, 133, 105, 106, 14, 107, 108, 109, 152, 24, 153, 154, 45, 747, 748, 749, 750, 751, 752, 753, 754, 743, 744, 745, 746, 707, 708, 709, 710] (by decide +kernel) (by decide +kernel)) (goodIn_sub (fun _ h => List.mem_append_right _ h) (by decide +kernel))) (goodIn_sub (fun _ h => List.mem_append_left _ (List.mem_append_left _ (List.mem_append_left _ (List.mem_append_left _ (List.mem_append_right _ h))))) (by decide +kernel))
set_option maxRecDepth 20000 in
theorem gL_law_L_entry : GoodIn wsL_law (va_wsS RL 150 yL_entry wsL_entry) := goodIn_app (goodIn_of _ (by decide +kernel)) ggL_law_L_entry
set_option maxRecDepth 100000 in
theorem dL_law_728 : decode cL_law 728 = .ok (.istore 5, 2) := by decide +kernel
set_option maxRecDepth 100000 in
theorem dL_law_730 : decode cL_law 730 = .ok (.aload_n 2, 1) := by decide +kernel
set_option maxRecDepth 100000 in
theorem dL_law_731 : decode cL_law 731 = .ok (.aload_n 0, 1) := by decide +kernel
set_option maxRecDepth 100000 in
theorem dL_law_732 : decode cL_law 732 = .ok (.iload 4, 2) := by decide +kernel
set_option maxRecDepth 100000 in
theorem dL_law_734 : decode cL_law 734 = .ok (.iconst 1, 1) := by decide +kernel
set_option maxRecDepth 100000 in
theorem dL_law_735 : decode cL_law 735 = .ok (.iadd, 1) := by decide +kernel
set_option maxRecDepth 100000 in
theorem dL_law_736 : decode cL_law 736 = .ok (.iaload, 1) := by decide +kernel
set_option maxRecDepth 100000 in
theorem dL_law_737 : decode cL_law 737 = .ok (.aload_n 0, 1) := by decide +kernel
set_option maxRecDepth 100000 in
theorem dL_law_738 : decode cL_law 738 = .ok (.iload 4, 2) := by decide +kernel
set_option maxRecDepth 100000 in
theorem dL_law_740 : decode cL_law 740 = .ok (.iconst 2, 1) := by decide +kernel
set_option maxRecDepth 100000 in
theorem dL_law_741 : decode cL_law 741 = .ok (.iadd, 1) := by decide +kernel
set_option maxRecDepth 100000 in
theorem dL_law_742 : decode cL_law 742 = .ok (.iaload, 1) := by decide +kernel
set_option maxRecDepth 100000 in
theorem dL_law_743 : decode cL_law 743 = .ok (.aload_n 0, 1) := by decide +kernel
set_option maxRecDepth 100000 in
theorem dL_law_744 : decode cL_law 744 = .ok (.iload 4, 2) := by decide +kernel
set_option maxRecDepth 100000 in
theorem dL_law_746 : decode cL_law 746 = .ok (.iconst 3, 1) := by decide +kernel
set_option maxRecDepth 100000 in
theorem dL_law_747 : decode cL_law 747 = .ok (.iadd, 1) := by decide +kernel
set_option maxRecDepth 100000 in
theorem dL_law_748 : decode cL_law 748 = .ok (.iaload, 1) := by decide +kernel
set_option maxRecDepth 100000 in
theorem dL_law_749 : decode cL_law 749 = .ok (.ifCond .eq 7, 3) := by decide +kernel
set_option maxRecDepth 100000 in
theorem dL_law_756 : decode cL_law 756 = .ok (.iconst 0, 1) := by decide +kernel
set_option maxRecDepth 100000 in
theorem dL_law_757 : decode cL_law 757 = .ok (.invokevirtual 152, 3) := by decide +kernel
set_option maxRecDepth 20000 in
theorem ggL_law_X5_entry : GoodIn wsL_law wsX5_entry := goodIn_r _ [670, 65, 71, 114, 68, 67, 115, 116, 5, 117, 310, 311, 312, 313, 66, 711, 712, 713, 714, 715, 716, 717, 718, 719, 720, 721, 722, 723, 724, 725, 726, 727, 728, 729, 730, 731, 732, 733, 734, 735, 736, 737, 738, 739] (by decide +kernel) (by decide +kernel)
set_option maxRecDepth 20000 in
theorem gL_law_X5_entry : GoodIn wsL_law (wsV RL 152 RX5 yX5_entry wsX5_entry) := goodIn_app (goodIn_of _ (by decide +kernel)) ggL_law_X5_entry
set_option maxRecDepth 100000 in
theorem dL_law_760 : decode cL_law 760 = .ok (.istore 6, 2) := by decide +kernel
set_option maxRecDepth 100000 in
theorem dL_law_762 : decode cL_law 762 = .ok (.goto 123, 3) := by decide +kernel
set_option maxRecDepth 100000 in
theorem dL_law_719 : decode cL_law 719 = .ok (.iconst 1, 1) := by decide +kernel
set_option maxRecDepth 100000 in
theorem dL_law_720 : decode cL_law 720 = .ok (.goto 4, 3) := by decide +kernel
set_option maxRecDepth 100000 in
theorem dL_law_752 : decode cL_law 752 = .ok (.iconst 1, 1) := by decide +kernel
set_option maxRecDepth 100000 in
theorem dL_law_753 : decode cL_law 753 = .ok (.goto 4, 3) := by decide +kernel
set_option maxRecDepth 100000 in
theorem dL_law_765 : decode cL_law 765 = .ok (.aload_n 1, 1) := by decide +kernel
set_option maxRecDepth 100000 in
theorem dL_law_766 : decode cL_law 766 = .ok (.aload_n 0, 1) := by decide +kernel
set_option maxRecDepth 100000 in
theorem dL_law_767 : decode cL_law 767 = .ok (.iload 4, 2) := by decide +kernel
set_option maxRecDepth 100000 in
theorem dL_law_769 : decode cL_law 769 = .ok (.iconst 1, 1) := by decide +kernel
set_option maxRecDepth 100000 in
theorem dL_law_770 : decode cL_law 770 = .ok (.iadd, 1) := by decide +kernel
set_option maxRecDepth 100000 in
theorem dL_law_771 : decode cL_law 771 = .ok (.iaload, 1) := by decide +kernel
set_option maxRecDepth 100000 in
theorem dL_law_772 : decode cL_law 772 = .ok (.aload_n 0, 1) := by decide +kernel
set_option maxRecDepth 100000 in
theorem dL_law_773 : decode cL_law 773 = .ok (.iload 4, 2) := by decide +kernel
set_option maxRecDepth 100000 in
theorem dL_law_775 : decode cL_law 775 = .ok (.iconst 2, 1) := by decide +kernel
set_option maxRecDepth 100000 in
theorem dL_law_776 : decode cL_law 776 = .ok (.iadd, 1) := by decide +kernel
set_option maxRecDepth 100000 in
theorem dL_law_777 : decode cL_law 777 = .ok (.iaload, 1) := by decide +kernel
set_option maxRecDepth 100000 in
theorem dL_law_778 : decode cL_law 778 = .ok (.aload_n 3, 1) := by decide +kernel
set_option maxRecDepth 100000 in
theorem dL_law_779 : decode cL_law 779 = .ok (.invokestatic 153, 3) := by decide +kernel
set_option maxRecDepth 20000 in
theorem ggL_law_L_about : GoodIn wsL_law wsL_about := goodIn_ca (goodIn_ca (goodIn_r _ [673, 96, 121, 674, 675, 676, 2, 677, 128, 129, 130, 131, 132, 133, 105, 106, 14, 107, 108, 109, 747, 748, 749, 750, 751, 752, 753, 754, 743, 744, 745, 746, 755, 756, 757, 758, 759, 707, 708, 709, 710] (by decide +kernel) (by decide +kernel)) (goodIn_sub (fun _ h => List.mem_append_left _ (List.mem_append_left _ (List.mem_append_left _ (List.mem_append_right _ h)))) (by decide +kernel))) (goodIn_sub (fun _ h => List.mem_append_left _ (List.mem_append_left _ (List.mem_append_left _ (List.mem_append_left _ (List.mem_append_right _ h))))) (by decide +kernel))
set_option maxRecDepth 20000 in
theorem gL_law_L_about : GoodIn wsL_law (va_wsS RL 153 yL_about wsL_about) := goodIn_app (goodIn_of _ (by decide +kernel)) ggL_law_L_about
set_option maxRecDepth 100000 in
theorem dL_law_782 : decode cL_law 782 = .ok (.istore 5, 2) := by decide +kernel
set_option maxRecDepth 100000 in
theorem dL_law_784 : decode cL_law 784 = .ok (.aload_n 2, 1) := by decide +kernel
set_option maxRecDepth 100000 in
theorem dL_law_785 : decode cL_law 785 = .ok (.aload_n 0, 1) := by decide +kernel
set_option maxRecDepth 100000 in
theorem dL_law_786 : decode cL_law 786 = .ok (.iload 4, 2) := by decide +kernel
set_option maxRecDepth 100000 in
theorem dL_law_788 : decode cL_law 788 = .ok (.iconst 1, 1) := by decide +kernel
set_option maxRecDepth 100000 in
theorem dL_law_789 : decode cL_law 789 = .ok (.iadd, 1) := by decide +kernel
set_option maxRecDepth 100000 in
theorem dL_law_790 : decode cL_law 790 = .ok (.iaload, 1) := by decide +kernel
set_option maxRecDepth 100000 in
theorem dL_law_791 : decode cL_law 791 = .ok (.aload_n 0, 1) := by decide +kernel
set_option maxRecDepth 100000 in
theorem dL_law_792 : decode cL_law 792 = .ok (.iload 4, 2) := by decide +kernel
set_option maxRecDepth 100000 in
theorem dL_law_794 : decode cL_law 794 = .ok (.iconst 2, 1) := by decide +kernel
set_option maxRecDepth 100000 in
theorem dL_law_795 : decode cL_law 795 = .ok (.iadd, 1) := by decide +kernel
set_option maxRecDepth 100000 in
theorem dL_law_796 : decode cL_law 796 = .ok (.iaload, 1) := by decide +kernel
set_option maxRecDepth 100000 in
theorem dL_law_797 : decode cL_law 797 = .ok (.invokevirtual 155, 3) := by decide +kernel
set_option maxRecDepth 20000 in
theorem ggL_law_X5_about : GoodIn wsL_law wsX5_about := goodIn_r _ [681, 114, 69, 71, 70, 72, 73, 77, 78, 76, 115, 116, 5, 117, 711, 712, 713, 714, 715, 716, 717, 718, 719, 720, 721, 722, 723, 724, 725, 726, 727, 728, 729, 730, 731, 732, 733, 734, 735, 736, 737, 738, 739] (by decide +kernel) (by decide +kernel)
set_option maxRecDepth 20000 in
theorem gL_law_X5_about : GoodIn wsL_law (wsV RL 155 RX5 yX5_about wsX5_about) := goodIn_app (goodIn_of _ (by decide +kernel)) ggL_law_X5_about
set_option maxRecDepth 100000 in
theorem dL_law_800 : decode cL_law 800 = .ok (.istore 6, 2) := by decide +kernel
set_option maxRecDepth 100000 in
theorem dL_law_802 : decode cL_law 802 = .ok (.goto 83, 3) := by decide +kernel
set_option maxRecDepth 100000 in
theorem dL_law_805 : decode cL_law 805 = .ok (.aload_n 1, 1) := by decide +kernel
set_option maxRecDepth 100000 in
theorem dL_law_806 : decode cL_law 806 = .ok (.aload_n 0, 1) := by decide +kernel
set_option maxRecDepth 100000 in
theorem dL_law_807 : decode cL_law 807 = .ok (.iload 4, 2) := by decide +kernel
set_option maxRecDepth 100000 in
theorem dL_law_809 : decode cL_law 809 = .ok (.iconst 1, 1) := by decide +kernel
set_option maxRecDepth 100000 in
theorem dL_law_810 : decode cL_law 810 = .ok (.iadd, 1) := by decide +kernel
set_option maxRecDepth 100000 in
theorem dL_law_811 : decode cL_law 811 = .ok (.iaload, 1) := by decide +kernel
set_option maxRecDepth 100000 in
theorem dL_law_812 : decode cL_law 812 = .ok (.aload_n 3, 1) := by decide +kernel
set_option maxRecDepth 100000 in
theorem dL_law_813 : decode cL_law 813 = .ok (.invokestatic 156, 3) := by decide +kernel
set_option maxRecDepth 20000 in
theorem ggL_law_L_allowed : GoodIn wsL_law wsL_allowed := goodIn_ca (goodIn_r _ [684, 121, 685, 686, 687, 2, 688, 128, 129, 14, 22, 107, 108, 109, 145, 26, 146, 147, 52, 56, 148, 149, 150, 151, 55, 321, 322, 323, 152, 24, 153, 154, 45, 324, 325, 326, 707, 708, 709, 710, 747, 748, 749, 750, 751, 752, 753, 754, 743, 744, 745, 746] (by decide +kernel) (by decide +kernel)) (goodIn_sub (fun _ h => List.mem_append_left _ (List.mem_append_left _ (List.mem_append_left _ (List.mem_append_right _ h)))) (by decide +kernel))
set_option maxRecDepth 20000 in
theorem gL_law_L_allowed : GoodIn wsL_law (va_wsS RL 156 yL_allowed wsL_allowed) := goodIn_app (goodIn_of _ (by decide +kernel)) ggL_law_L_allowed
set_option maxRecDepth 100000 in
theorem dL_law_816 : decode cL_law 816 = .ok (.istore 5, 2) := by decide +kernel
set_option maxRecDepth 100000 in
theorem dL_law_818 : decode cL_law 818 = .ok (.aload_n 2, 1) := by decide +kernel
set_option maxRecDepth 100000 in
theorem dL_law_819 : decode cL_law 819 = .ok (.aload_n 0, 1) := by decide +kernel
set_option maxRecDepth 100000 in
theorem dL_law_820 : decode cL_law 820 = .ok (.iload 4, 2) := by decide +kernel
set_option maxRecDepth 100000 in
theorem dL_law_822 : decode cL_law 822 = .ok (.iconst 1, 1) := by decide +kernel
set_option maxRecDepth 100000 in
theorem dL_law_823 : decode cL_law 823 = .ok (.iadd, 1) := by decide +kernel
set_option maxRecDepth 100000 in
theorem dL_law_824 : decode cL_law 824 = .ok (.iaload, 1) := by decide +kernel
set_option maxRecDepth 100000 in
theorem dL_law_825 : decode cL_law 825 = .ok (.invokevirtual 158, 3) := by decide +kernel
set_option maxRecDepth 20000 in
theorem ggL_law_X5_allowed : GoodIn wsL_law wsX5_allowed := goodIn_r _ [692, 114, 91, 71, 276, 277, 5, 278, 263, 264, 265, 266, 76, 77, 73, 372, 373, 374, 375, 65, 70, 69, 376, 377, 378, 379, 711, 712, 713, 714, 715, 716, 717, 718, 719, 720, 721, 722, 723, 724, 725, 726, 727, 728, 729, 730, 731, 732, 733, 734, 735, 736, 737, 738, 739] (by decide +kernel) (by decide +kernel)
set_option maxRecDepth 20000 in
theorem gL_law_X5_allowed : GoodIn wsL_law (wsV RL 158 RX5 yX5_allowed wsX5_allowed) := goodIn_app (goodIn_of _ (by decide +kernel)) ggL_law_X5_allowed
set_option maxRecDepth 100000 in
theorem dL_law_828 : decode cL_law 828 = .ok (.istore 6, 2) := by decide +kernel
set_option maxRecDepth 100000 in
theorem dL_law_830 : decode cL_law 830 = .ok (.goto 55, 3) := by decide +kernel
set_option maxRecDepth 100000 in
theorem dL_law_833 : decode cL_law 833 = .ok (.aload_n 1, 1) := by decide +kernel
set_option maxRecDepth 100000 in
theorem dL_law_834 : decode cL_law 834 = .ok (.aload_n 0, 1) := by decide +kernel
set_option maxRecDepth 100000 in
theorem dL_law_835 : decode cL_law 835 = .ok (.iload 4, 2) := by decide +kernel
set_option maxRecDepth 100000 in
theorem dL_law_837 : decode cL_law 837 = .ok (.iconst 1, 1) := by decide +kernel
set_option maxRecDepth 100000 in
theorem dL_law_838 : decode cL_law 838 = .ok (.iadd, 1) := by decide +kernel
set_option maxRecDepth 100000 in
theorem dL_law_839 : decode cL_law 839 = .ok (.iaload, 1) := by decide +kernel
set_option maxRecDepth 100000 in
theorem dL_law_840 : decode cL_law 840 = .ok (.aload_n 0, 1) := by decide +kernel
set_option maxRecDepth 100000 in
theorem dL_law_841 : decode cL_law 841 = .ok (.iload 4, 2) := by decide +kernel
set_option maxRecDepth 100000 in
theorem dL_law_843 : decode cL_law 843 = .ok (.iconst 2, 1) := by decide +kernel
set_option maxRecDepth 100000 in
theorem dL_law_844 : decode cL_law 844 = .ok (.iadd, 1) := by decide +kernel
set_option maxRecDepth 100000 in
theorem dL_law_845 : decode cL_law 845 = .ok (.iaload, 1) := by decide +kernel
set_option maxRecDepth 100000 in
theorem dL_law_846 : decode cL_law 846 = .ok (.aload_n 0, 1) := by decide +kernel
set_option maxRecDepth 100000 in
theorem dL_law_847 : decode cL_law 847 = .ok (.iload 4, 2) := by decide +kernel
set_option maxRecDepth 100000 in
theorem dL_law_849 : decode cL_law 849 = .ok (.iconst 3, 1) := by decide +kernel
set_option maxRecDepth 100000 in
theorem dL_law_850 : decode cL_law 850 = .ok (.iadd, 1) := by decide +kernel
set_option maxRecDepth 100000 in
theorem dL_law_851 : decode cL_law 851 = .ok (.iaload, 1) := by decide +kernel
set_option maxRecDepth 100000 in
theorem dL_law_852 : decode cL_law 852 = .ok (.aload_n 3, 1) := by decide +kernel
set_option maxRecDepth 100000 in
theorem dL_law_853 : decode cL_law 853 = .ok (.invokestatic 159, 3) := by decide +kernel
set_option maxRecDepth 20000 in
theorem ggL_law_L_inForce : GoodIn wsL_law wsL_inForce := goodIn_ca (goodIn_r _ [695, 96, 696, 697, 698, 2, 699, 130, 131, 132, 133, 105, 106, 14, 107, 108, 109, 152, 24, 153, 154, 45, 293, 294, 295, 700, 701, 702, 296, 297, 298, 299, 300, 747, 748, 749, 750, 751, 752, 753, 754, 743, 744, 745, 746, 707, 708, 709, 710] (by decide +kernel) (by decide +kernel)) (goodIn_sub (fun _ h => List.mem_append_left _ (List.mem_append_left _ (List.mem_append_left _ (List.mem_append_left _ (List.mem_append_right _ h))))) (by decide +kernel))
set_option maxRecDepth 20000 in
theorem gL_law_L_inForce : GoodIn wsL_law (va_wsS RL 159 yL_inForce wsL_inForce) := goodIn_app (goodIn_of _ (by decide +kernel)) ggL_law_L_inForce
set_option maxRecDepth 100000 in
theorem dL_law_856 : decode cL_law 856 = .ok (.istore 5, 2) := by decide +kernel
set_option maxRecDepth 100000 in
theorem dL_law_858 : decode cL_law 858 = .ok (.aload_n 2, 1) := by decide +kernel
set_option maxRecDepth 100000 in
theorem dL_law_859 : decode cL_law 859 = .ok (.aload_n 0, 1) := by decide +kernel
set_option maxRecDepth 100000 in
theorem dL_law_860 : decode cL_law 860 = .ok (.iload 4, 2) := by decide +kernel
set_option maxRecDepth 100000 in
theorem dL_law_862 : decode cL_law 862 = .ok (.iconst 1, 1) := by decide +kernel
set_option maxRecDepth 100000 in
theorem dL_law_863 : decode cL_law 863 = .ok (.iadd, 1) := by decide +kernel
set_option maxRecDepth 100000 in
theorem dL_law_864 : decode cL_law 864 = .ok (.iaload, 1) := by decide +kernel
set_option maxRecDepth 100000 in
theorem dL_law_865 : decode cL_law 865 = .ok (.aload_n 0, 1) := by decide +kernel
set_option maxRecDepth 100000 in
theorem dL_law_866 : decode cL_law 866 = .ok (.iload 4, 2) := by decide +kernel
set_option maxRecDepth 100000 in
theorem dL_law_868 : decode cL_law 868 = .ok (.iconst 2, 1) := by decide +kernel
set_option maxRecDepth 100000 in
theorem dL_law_869 : decode cL_law 869 = .ok (.iadd, 1) := by decide +kernel
set_option maxRecDepth 100000 in
theorem dL_law_870 : decode cL_law 870 = .ok (.iaload, 1) := by decide +kernel
set_option maxRecDepth 100000 in
theorem dL_law_871 : decode cL_law 871 = .ok (.aload_n 0, 1) := by decide +kernel
set_option maxRecDepth 100000 in
theorem dL_law_872 : decode cL_law 872 = .ok (.iload 4, 2) := by decide +kernel
set_option maxRecDepth 100000 in
theorem dL_law_874 : decode cL_law 874 = .ok (.iconst 3, 1) := by decide +kernel
set_option maxRecDepth 100000 in
theorem dL_law_875 : decode cL_law 875 = .ok (.iadd, 1) := by decide +kernel
set_option maxRecDepth 100000 in
theorem dL_law_876 : decode cL_law 876 = .ok (.iaload, 1) := by decide +kernel
set_option maxRecDepth 100000 in
theorem dL_law_877 : decode cL_law 877 = .ok (.invokevirtual 162, 3) := by decide +kernel
set_option maxRecDepth 20000 in
theorem ggL_law_X5_inForce : GoodIn wsL_law wsX5_inForce := goodIn_r _ [706, 114, 65, 71, 67, 115, 116, 5, 117, 306, 307, 308, 309, 66, 310, 311, 312, 313, 711, 712, 713, 714, 715, 716, 717, 718, 719, 720, 721, 722, 723, 724, 725, 726, 727, 728, 729, 730, 731, 732, 733, 734, 735, 736, 737, 738, 739] (by decide +kernel) (by decide +kernel)
set_option maxRecDepth 20000 in
theorem gL_law_X5_inForce : GoodIn wsL_law (wsV RL 162 RX5 yX5_inForce wsX5_inForce) := goodIn_app (goodIn_of _ (by decide +kernel)) ggL_law_X5_inForce
set_option maxRecDepth 100000 in
theorem dL_law_880 : decode cL_law 880 = .ok (.istore 6, 2) := by decide +kernel
set_option maxRecDepth 100000 in
theorem dL_law_882 : decode cL_law 882 = .ok (.goto 3, 3) := by decide +kernel
