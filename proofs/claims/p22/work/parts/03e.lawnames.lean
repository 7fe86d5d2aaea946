theorem dL_isEnd_0 : decode cL_isEnd 0 = .ok (.aload_n 1, 1) := by decide +kernel
theorem dL_isEnd_1 : decode cL_isEnd 1 = .ok (.bipush 14, 2) := by decide +kernel
theorem dL_isEnd_3 : decode cL_isEnd 3 = .ok (.iaload, 1) := by decide +kernel
theorem dL_isEnd_4 : decode cL_isEnd 4 = .ok (.ifCond .ge 22, 3) := by decide +kernel
theorem dL_isEnd_7 : decode cL_isEnd 7 = .ok (.aload_n 0, 1) := by decide +kernel
theorem dL_isEnd_8 : decode cL_isEnd 8 = .ok (.bipush 8, 2) := by decide +kernel
theorem dL_isEnd_10 : decode cL_isEnd 10 = .ok (.iconst 0, 1) := by decide +kernel
theorem dL_isEnd_11 : decode cL_isEnd 11 = .ok (.iconst 0, 1) := by decide +kernel
theorem dL_isEnd_12 : decode cL_isEnd 12 = .ok (.invokestatic 100, 3) := by decide +kernel
theorem dL_isEnd_15 : decode cL_isEnd 15 = .ok (.bipush (-10), 2) := by decide +kernel
theorem dL_isEnd_17 : decode cL_isEnd 17 = .ok (.if_icmp .ne 7, 3) := by decide +kernel
theorem dL_isEnd_20 : decode cL_isEnd 20 = .ok (.iconst 1, 1) := by decide +kernel
theorem dL_isEnd_21 : decode cL_isEnd 21 = .ok (.goto 4, 3) := by decide +kernel
theorem dL_isEnd_24 : decode cL_isEnd 24 = .ok (.iconst 0, 1) := by decide +kernel
theorem dL_isEnd_25 : decode cL_isEnd 25 = .ok (.ireturn, 1) := by decide +kernel
theorem dL_isEnd_26 : decode cL_isEnd 26 = .ok (.iconst 0, 1) := by decide +kernel
theorem dL_isEnd_27 : decode cL_isEnd 27 = .ok (.istore 5, 2) := by decide +kernel
theorem dL_isEnd_29 : decode cL_isEnd 29 = .ok (.iconst 0, 1) := by decide +kernel
theorem dL_isEnd_30 : decode cL_isEnd 30 = .ok (.istore 6, 2) := by decide +kernel
theorem dL_isEnd_32 : decode cL_isEnd 32 = .ok (.iload 6, 2) := by decide +kernel
theorem dL_isEnd_34 : decode cL_isEnd 34 = .ok (.bipush 6, 2) := by decide +kernel
theorem dL_isEnd_36 : decode cL_isEnd 36 = .ok (.if_icmp .ge 48, 3) := by decide +kernel
theorem dL_isEnd_39 : decode cL_isEnd 39 = .ok (.iload 5, 2) := by decide +kernel
theorem dL_isEnd_41 : decode cL_isEnd 41 = .ok (.aload_n 2, 1) := by decide +kernel
theorem dL_isEnd_42 : decode cL_isEnd 42 = .ok (.iload 6, 2) := by decide +kernel
theorem dL_isEnd_44 : decode cL_isEnd 44 = .ok (.iaload, 1) := by decide +kernel
theorem dL_isEnd_45 : decode cL_isEnd 45 = .ok (.bipush (-2), 2) := by decide +kernel
theorem dL_isEnd_47 : decode cL_isEnd 47 = .ok (.if_icmp .eq 13, 3) := by decide +kernel
theorem dL_isEnd_50 : decode cL_isEnd 50 = .ok (.aload_n 2, 1) := by decide +kernel
theorem dL_isEnd_51 : decode cL_isEnd 51 = .ok (.bipush 6, 2) := by decide +kernel
theorem dL_isEnd_53 : decode cL_isEnd 53 = .ok (.iload 6, 2) := by decide +kernel
theorem dL_isEnd_55 : decode cL_isEnd 55 = .ok (.iadd, 1) := by decide +kernel
theorem dL_isEnd_56 : decode cL_isEnd 56 = .ok (.iaload, 1) := by decide +kernel
theorem dL_isEnd_57 : decode cL_isEnd 57 = .ok (.ifCond .le 7, 3) := by decide +kernel
theorem dL_isEnd_60 : decode cL_isEnd 60 = .ok (.iconst 0, 1) := by decide +kernel
theorem dL_isEnd_61 : decode cL_isEnd 61 = .ok (.goto 14, 3) := by decide +kernel
theorem dL_isEnd_64 : decode cL_isEnd 64 = .ok (.iload 6, 2) := by decide +kernel
theorem dL_isEnd_66 : decode cL_isEnd 66 = .ok (.iconst 3, 1) := by decide +kernel
theorem dL_isEnd_67 : decode cL_isEnd 67 = .ok (.if_icmp .ge 7, 3) := by decide +kernel
theorem dL_isEnd_70 : decode cL_isEnd 70 = .ok (.iconst 1, 1) := by decide +kernel
theorem dL_isEnd_71 : decode cL_isEnd 71 = .ok (.goto 4, 3) := by decide +kernel
theorem dL_isEnd_74 : decode cL_isEnd 74 = .ok (.iconst (-1), 1) := by decide +kernel
theorem dL_isEnd_75 : decode cL_isEnd 75 = .ok (.iadd, 1) := by decide +kernel
theorem dL_isEnd_76 : decode cL_isEnd 76 = .ok (.istore 5, 2) := by decide +kernel
theorem dL_isEnd_78 : decode cL_isEnd 78 = .ok (.iinc 6 1, 3) := by decide +kernel
theorem dL_isEnd_81 : decode cL_isEnd 81 = .ok (.goto (-49), 3) := by decide +kernel
theorem dL_isEnd_84 : decode cL_isEnd 84 = .ok (.aload_n 1, 1) := by decide +kernel
theorem dL_isEnd_85 : decode cL_isEnd 85 = .ok (.bipush 14, 2) := by decide +kernel
theorem dL_isEnd_87 : decode cL_isEnd 87 = .ok (.iconst (-1), 1) := by decide +kernel
theorem dL_isEnd_88 : decode cL_isEnd 88 = .ok (.iastore, 1) := by decide +kernel
theorem dL_isEnd_89 : decode cL_isEnd 89 = .ok (.aload_n 1, 1) := by decide +kernel
theorem dL_isEnd_90 : decode cL_isEnd 90 = .ok (.bipush 17, 2) := by decide +kernel
theorem dL_isEnd_92 : decode cL_isEnd 92 = .ok (.iaload, 1) := by decide +kernel
theorem dL_isEnd_93 : decode cL_isEnd 93 = .ok (.istore 6, 2) := by decide +kernel
theorem dL_isEnd_95 : decode cL_isEnd 95 = .ok (.aload_n 1, 1) := by decide +kernel
theorem dL_isEnd_96 : decode cL_isEnd 96 = .ok (.bipush 18, 2) := by decide +kernel
theorem dL_isEnd_98 : decode cL_isEnd 98 = .ok (.iaload, 1) := by decide +kernel
theorem dL_isEnd_99 : decode cL_isEnd 99 = .ok (.istore 7, 2) := by decide +kernel
theorem dL_isEnd_101 : decode cL_isEnd 101 = .ok (.aload_n 3, 1) := by decide +kernel
theorem dL_isEnd_102 : decode cL_isEnd 102 = .ok (.iconst 3, 1) := by decide +kernel
theorem dL_isEnd_103 : decode cL_isEnd 103 = .ok (.iload 6, 2) := by decide +kernel
theorem dL_isEnd_105 : decode cL_isEnd 105 = .ok (.imul, 1) := by decide +kernel
theorem dL_isEnd_106 : decode cL_isEnd 106 = .ok (.dup2, 1) := by decide +kernel
theorem dL_isEnd_107 : decode cL_isEnd 107 = .ok (.iaload, 1) := by decide +kernel
theorem dL_isEnd_108 : decode cL_isEnd 108 = .ok (.iload 5, 2) := by decide +kernel
theorem dL_isEnd_110 : decode cL_isEnd 110 = .ok (.ifCond .le 7, 3) := by decide +kernel
theorem dL_isEnd_113 : decode cL_isEnd 113 = .ok (.iconst 3, 1) := by decide +kernel
theorem dL_isEnd_114 : decode cL_isEnd 114 = .ok (.goto 13, 3) := by decide +kernel
theorem dL_isEnd_117 : decode cL_isEnd 117 = .ok (.iload 5, 2) := by decide +kernel
theorem dL_isEnd_119 : decode cL_isEnd 119 = .ok (.ifCond .ne 7, 3) := by decide +kernel
theorem dL_isEnd_122 : decode cL_isEnd 122 = .ok (.iconst 1, 1) := by decide +kernel
theorem dL_isEnd_123 : decode cL_isEnd 123 = .ok (.goto 4, 3) := by decide +kernel
theorem dL_isEnd_126 : decode cL_isEnd 126 = .ok (.iconst 0, 1) := by decide +kernel
theorem dL_isEnd_127 : decode cL_isEnd 127 = .ok (.iadd, 1) := by decide +kernel
theorem dL_isEnd_128 : decode cL_isEnd 128 = .ok (.iastore, 1) := by decide +kernel
theorem dL_isEnd_129 : decode cL_isEnd 129 = .ok (.aload_n 3, 1) := by decide +kernel
theorem dL_isEnd_130 : decode cL_isEnd 130 = .ok (.iconst 3, 1) := by decide +kernel
theorem dL_isEnd_131 : decode cL_isEnd 131 = .ok (.iload 7, 2) := by decide +kernel
theorem dL_isEnd_133 : decode cL_isEnd 133 = .ok (.imul, 1) := by decide +kernel
theorem dL_isEnd_134 : decode cL_isEnd 134 = .ok (.dup2, 1) := by decide +kernel
theorem dL_isEnd_135 : decode cL_isEnd 135 = .ok (.iaload, 1) := by decide +kernel
theorem dL_isEnd_136 : decode cL_isEnd 136 = .ok (.iload 5, 2) := by decide +kernel
theorem dL_isEnd_138 : decode cL_isEnd 138 = .ok (.ifCond .le 7, 3) := by decide +kernel
theorem dL_isEnd_141 : decode cL_isEnd 141 = .ok (.iconst 0, 1) := by decide +kernel
theorem dL_isEnd_142 : decode cL_isEnd 142 = .ok (.goto 13, 3) := by decide +kernel
theorem dL_isEnd_145 : decode cL_isEnd 145 = .ok (.iload 5, 2) := by decide +kernel
theorem dL_isEnd_147 : decode cL_isEnd 147 = .ok (.ifCond .ne 7, 3) := by decide +kernel
theorem dL_isEnd_150 : decode cL_isEnd 150 = .ok (.iconst 1, 1) := by decide +kernel
theorem dL_isEnd_151 : decode cL_isEnd 151 = .ok (.goto 4, 3) := by decide +kernel
theorem dL_isEnd_154 : decode cL_isEnd 154 = .ok (.iconst 3, 1) := by decide +kernel
theorem dL_isEnd_155 : decode cL_isEnd 155 = .ok (.iadd, 1) := by decide +kernel
theorem dL_isEnd_156 : decode cL_isEnd 156 = .ok (.iastore, 1) := by decide +kernel
theorem dL_isEnd_157 : decode cL_isEnd 157 = .ok (.aload_n 3, 1) := by decide +kernel
theorem dL_isEnd_158 : decode cL_isEnd 158 = .ok (.iconst 3, 1) := by decide +kernel
theorem dL_isEnd_159 : decode cL_isEnd 159 = .ok (.iload 6, 2) := by decide +kernel
theorem dL_isEnd_161 : decode cL_isEnd 161 = .ok (.imul, 1) := by decide +kernel
theorem dL_isEnd_162 : decode cL_isEnd 162 = .ok (.iconst 2, 1) := by decide +kernel
theorem dL_isEnd_163 : decode cL_isEnd 163 = .ok (.iadd, 1) := by decide +kernel
theorem dL_isEnd_164 : decode cL_isEnd 164 = .ok (.dup2, 1) := by decide +kernel
theorem dL_isEnd_165 : decode cL_isEnd 165 = .ok (.iaload, 1) := by decide +kernel
theorem dL_isEnd_166 : decode cL_isEnd 166 = .ok (.iload 5, 2) := by decide +kernel
theorem dL_isEnd_168 : decode cL_isEnd 168 = .ok (.iadd, 1) := by decide +kernel
theorem dL_isEnd_169 : decode cL_isEnd 169 = .ok (.iastore, 1) := by decide +kernel
theorem dL_isEnd_170 : decode cL_isEnd 170 = .ok (.aload_n 3, 1) := by decide +kernel
theorem dL_isEnd_171 : decode cL_isEnd 171 = .ok (.iconst 3, 1) := by decide +kernel
theorem dL_isEnd_172 : decode cL_isEnd 172 = .ok (.iload 7, 2) := by decide +kernel
theorem dL_isEnd_174 : decode cL_isEnd 174 = .ok (.imul, 1) := by decide +kernel
theorem dL_isEnd_175 : decode cL_isEnd 175 = .ok (.iconst 2, 1) := by decide +kernel
theorem dL_isEnd_176 : decode cL_isEnd 176 = .ok (.iadd, 1) := by decide +kernel
theorem dL_isEnd_177 : decode cL_isEnd 177 = .ok (.dup2, 1) := by decide +kernel
theorem dL_isEnd_178 : decode cL_isEnd 178 = .ok (.iaload, 1) := by decide +kernel
theorem dL_isEnd_179 : decode cL_isEnd 179 = .ok (.iload 5, 2) := by decide +kernel
theorem dL_isEnd_181 : decode cL_isEnd 181 = .ok (.isub, 1) := by decide +kernel
theorem dL_isEnd_182 : decode cL_isEnd 182 = .ok (.iastore, 1) := by decide +kernel
theorem dL_isEnd_183 : decode cL_isEnd 183 = .ok (.aload 4, 2) := by decide +kernel
theorem dL_isEnd_185 : decode cL_isEnd 185 = .ok (.bipush 6, 2) := by decide +kernel
theorem dL_isEnd_187 : decode cL_isEnd 187 = .ok (.iload 6, 2) := by decide +kernel
theorem dL_isEnd_189 : decode cL_isEnd 189 = .ok (.imul, 1) := by decide +kernel
theorem dL_isEnd_190 : decode cL_isEnd 190 = .ok (.iload 7, 2) := by decide +kernel
theorem dL_isEnd_192 : decode cL_isEnd 192 = .ok (.iadd, 1) := by decide +kernel
theorem dL_isEnd_193 : decode cL_isEnd 193 = .ok (.dup2, 1) := by decide +kernel
theorem dL_isEnd_194 : decode cL_isEnd 194 = .ok (.iaload, 1) := by decide +kernel
theorem dL_isEnd_195 : decode cL_isEnd 195 = .ok (.iload 5, 2) := by decide +kernel
theorem dL_isEnd_197 : decode cL_isEnd 197 = .ok (.ifCond .le 7, 3) := by decide +kernel
theorem dL_isEnd_200 : decode cL_isEnd 200 = .ok (.iconst 1, 1) := by decide +kernel
theorem dL_isEnd_201 : decode cL_isEnd 201 = .ok (.goto 4, 3) := by decide +kernel
theorem dL_isEnd_204 : decode cL_isEnd 204 = .ok (.iconst 0, 1) := by decide +kernel
theorem dL_isEnd_205 : decode cL_isEnd 205 = .ok (.iadd, 1) := by decide +kernel
theorem dL_isEnd_206 : decode cL_isEnd 206 = .ok (.iastore, 1) := by decide +kernel
theorem dL_isEnd_207 : decode cL_isEnd 207 = .ok (.aload 4, 2) := by decide +kernel
theorem dL_isEnd_209 : decode cL_isEnd 209 = .ok (.bipush 6, 2) := by decide +kernel
theorem dL_isEnd_211 : decode cL_isEnd 211 = .ok (.iload 7, 2) := by decide +kernel
theorem dL_isEnd_213 : decode cL_isEnd 213 = .ok (.imul, 1) := by decide +kernel
theorem dL_isEnd_214 : decode cL_isEnd 214 = .ok (.iload 6, 2) := by decide +kernel
theorem dL_isEnd_216 : decode cL_isEnd 216 = .ok (.iadd, 1) := by decide +kernel
theorem dL_isEnd_217 : decode cL_isEnd 217 = .ok (.dup2, 1) := by decide +kernel
theorem dL_isEnd_218 : decode cL_isEnd 218 = .ok (.iaload, 1) := by decide +kernel
theorem dL_isEnd_219 : decode cL_isEnd 219 = .ok (.iload 5, 2) := by decide +kernel
theorem dL_isEnd_221 : decode cL_isEnd 221 = .ok (.ifCond .ge 7, 3) := by decide +kernel
theorem dL_isEnd_224 : decode cL_isEnd 224 = .ok (.iconst 1, 1) := by decide +kernel
theorem dL_isEnd_225 : decode cL_isEnd 225 = .ok (.goto 4, 3) := by decide +kernel
theorem dL_isEnd_228 : decode cL_isEnd 228 = .ok (.iconst 0, 1) := by decide +kernel
theorem dL_isEnd_229 : decode cL_isEnd 229 = .ok (.iadd, 1) := by decide +kernel
theorem dL_isEnd_230 : decode cL_isEnd 230 = .ok (.iastore, 1) := by decide +kernel
theorem dL_isEnd_231 : decode cL_isEnd 231 = .ok (.iconst 0, 1) := by decide +kernel
theorem dL_isEnd_232 : decode cL_isEnd 232 = .ok (.istore 8, 2) := by decide +kernel
theorem dL_isEnd_234 : decode cL_isEnd 234 = .ok (.iload 8, 2) := by decide +kernel
theorem dL_isEnd_236 : decode cL_isEnd 236 = .ok (.bipush 6, 2) := by decide +kernel
theorem dL_isEnd_238 : decode cL_isEnd 238 = .ok (.if_icmp .ge 63, 3) := by decide +kernel
theorem dL_isEnd_241 : decode cL_isEnd 241 = .ok (.aload_n 3, 1) := by decide +kernel
theorem dL_isEnd_242 : decode cL_isEnd 242 = .ok (.iconst 3, 1) := by decide +kernel
theorem dL_isEnd_243 : decode cL_isEnd 243 = .ok (.iload 8, 2) := by decide +kernel
theorem dL_isEnd_245 : decode cL_isEnd 245 = .ok (.imul, 1) := by decide +kernel
theorem dL_isEnd_246 : decode cL_isEnd 246 = .ok (.dup2, 1) := by decide +kernel
theorem dL_isEnd_247 : decode cL_isEnd 247 = .ok (.iaload, 1) := by decide +kernel
theorem dL_isEnd_248 : decode cL_isEnd 248 = .ok (.aload_n 3, 1) := by decide +kernel
theorem dL_isEnd_249 : decode cL_isEnd 249 = .ok (.iconst 3, 1) := by decide +kernel
theorem dL_isEnd_250 : decode cL_isEnd 250 = .ok (.iload 8, 2) := by decide +kernel
theorem dL_isEnd_252 : decode cL_isEnd 252 = .ok (.imul, 1) := by decide +kernel
theorem dL_isEnd_253 : decode cL_isEnd 253 = .ok (.iconst 1, 1) := by decide +kernel
theorem dL_isEnd_254 : decode cL_isEnd 254 = .ok (.iadd, 1) := by decide +kernel
theorem dL_isEnd_255 : decode cL_isEnd 255 = .ok (.iaload, 1) := by decide +kernel
theorem dL_isEnd_256 : decode cL_isEnd 256 = .ok (.iconst 1, 1) := by decide +kernel
theorem dL_isEnd_257 : decode cL_isEnd 257 = .ok (.if_icmp .le 7, 3) := by decide +kernel
theorem dL_isEnd_260 : decode cL_isEnd 260 = .ok (.iconst 1, 1) := by decide +kernel
theorem dL_isEnd_261 : decode cL_isEnd 261 = .ok (.goto 4, 3) := by decide +kernel
theorem dL_isEnd_264 : decode cL_isEnd 264 = .ok (.iconst 0, 1) := by decide +kernel
theorem dL_isEnd_265 : decode cL_isEnd 265 = .ok (.isub, 1) := by decide +kernel
theorem dL_isEnd_266 : decode cL_isEnd 266 = .ok (.iastore, 1) := by decide +kernel
theorem dL_isEnd_267 : decode cL_isEnd 267 = .ok (.aload_n 3, 1) := by decide +kernel
theorem dL_isEnd_268 : decode cL_isEnd 268 = .ok (.iconst 3, 1) := by decide +kernel
theorem dL_isEnd_269 : decode cL_isEnd 269 = .ok (.iload 8, 2) := by decide +kernel
theorem dL_isEnd_271 : decode cL_isEnd 271 = .ok (.imul, 1) := by decide +kernel
theorem dL_isEnd_272 : decode cL_isEnd 272 = .ok (.iconst 1, 1) := by decide +kernel
theorem dL_isEnd_273 : decode cL_isEnd 273 = .ok (.iadd, 1) := by decide +kernel
theorem dL_isEnd_274 : decode cL_isEnd 274 = .ok (.dup2, 1) := by decide +kernel
theorem dL_isEnd_275 : decode cL_isEnd 275 = .ok (.iaload, 1) := by decide +kernel
theorem dL_isEnd_276 : decode cL_isEnd 276 = .ok (.aload_n 3, 1) := by decide +kernel
theorem dL_isEnd_277 : decode cL_isEnd 277 = .ok (.iconst 3, 1) := by decide +kernel
theorem dL_isEnd_278 : decode cL_isEnd 278 = .ok (.iload 8, 2) := by decide +kernel
theorem dL_isEnd_280 : decode cL_isEnd 280 = .ok (.imul, 1) := by decide +kernel
theorem dL_isEnd_281 : decode cL_isEnd 281 = .ok (.iconst 1, 1) := by decide +kernel
theorem dL_isEnd_282 : decode cL_isEnd 282 = .ok (.iadd, 1) := by decide +kernel
theorem dL_isEnd_283 : decode cL_isEnd 283 = .ok (.iaload, 1) := by decide +kernel
theorem dL_isEnd_284 : decode cL_isEnd 284 = .ok (.iconst 1, 1) := by decide +kernel
theorem dL_isEnd_285 : decode cL_isEnd 285 = .ok (.if_icmp .le 7, 3) := by decide +kernel
theorem dL_isEnd_288 : decode cL_isEnd 288 = .ok (.iconst 2, 1) := by decide +kernel
theorem dL_isEnd_289 : decode cL_isEnd 289 = .ok (.goto 4, 3) := by decide +kernel
theorem dL_isEnd_292 : decode cL_isEnd 292 = .ok (.iconst 0, 1) := by decide +kernel
theorem dL_isEnd_293 : decode cL_isEnd 293 = .ok (.isub, 1) := by decide +kernel
theorem dL_isEnd_294 : decode cL_isEnd 294 = .ok (.iastore, 1) := by decide +kernel
theorem dL_isEnd_295 : decode cL_isEnd 295 = .ok (.iinc 8 1, 3) := by decide +kernel
theorem dL_isEnd_298 : decode cL_isEnd 298 = .ok (.goto (-64), 3) := by decide +kernel
theorem dL_isEnd_301 : decode cL_isEnd 301 = .ok (.aload_n 0, 1) := by decide +kernel
theorem dL_isEnd_302 : decode cL_isEnd 302 = .ok (.invokevirtual 44, 3) := by decide +kernel
theorem dL_isEnd_305 : decode cL_isEnd 305 = .ok (.iload 5, 2) := by decide +kernel
theorem dL_isEnd_307 : decode cL_isEnd 307 = .ok (.if_icmp .ne 7, 3) := by decide +kernel
theorem dL_isEnd_310 : decode cL_isEnd 310 = .ok (.iconst 1, 1) := by decide +kernel
theorem dL_isEnd_311 : decode cL_isEnd 311 = .ok (.goto 4, 3) := by decide +kernel
theorem dL_isEnd_314 : decode cL_isEnd 314 = .ok (.iconst 0, 1) := by decide +kernel
theorem dL_isEnd_315 : decode cL_isEnd 315 = .ok (.ireturn, 1) := by decide +kernel
set_option maxRecDepth 20000 in
theorem ggL_isBegun_L_does : GoodIn wsL_isBegun wsL_does := goodIn_ca (goodIn_ca (goodIn_ca (goodIn_r _ [4, 5, 6, 7, 8, 9, 10, 11, 12, 13, 14, 15, 16, 17, 18, 19, 20, 21, 22, 23, 24, 25, 26, 27, 28, 29, 30, 31, 32, 33, 34, 35, 36, 37, 38, 39, 40, 41, 42, 43, 3, 44, 45, 46, 47, 48, 49, 50, 51, 52, 53, 54, 55, 56, 57, 58, 59, 60, 61, 62, 63, 64, 65, 66, 67, 68, 69, 70, 71, 72, 73, 74, 75, 76, 77, 78, 79, 80, 81, 82, 83, 84, 85, 86, 87, 88, 89, 90, 91, 92, 93, 94, 95, 96, 97, 98, 99, 100, 101, 102, 103, 104, 105, 106, 107, 108, 109, 110, 111, 112, 113, 114, 115, 116, 117, 118, 119, 120, 121, 122, 123, 124, 125, 126, 127, 128, 129, 130, 131, 132, 133, 134, 135, 136, 137, 138, 139, 140, 141, 142, 143, 144, 145, 146, 147, 148, 149, 150, 151, 152, 153, 154, 155, 156, 157, 158, 159, 160, 161, 162, 163, 164, 165, 166, 167, 168, 169, 170, 171, 172, 173, 174, 175, 176, 177, 178, 179, 180, 181, 182, 183, 184, 185, 186, 187, 188, 189, 190, 191, 192, 193, 194, 195, 196, 197, 198, 199, 200, 201, 202, 203, 204, 205, 206, 207, 208, 209, 210, 211, 212, 213, 214, 215, 216, 217, 218, 219, 220, 221, 222, 223, 224, 225, 226, 227, 228, 229, 230, 231, 232, 233, 234, 235, 236, 237, 238, 239, 240, 241, 242, 243, 244, 245, 246, 247, 248, 249, 250, 251, 252, 253, 254, 255, 256, 257, 258, 259, 260, 261, 262, 263, 264, 265, 266, 267, 268, 269, 270, 271, 272, 273] (by decide +kernel) (by decide +kernel)) (goodIn_sub (fun _ h => List.mem_cons_of_mem _ (List.mem_append_left _ (List.mem_append_left _ (List.mem_append_right _ h)))) (by decide +kernel))) (goodIn_sub (fun _ h => List.mem_cons_of_mem _ (List.mem_append_left _ (List.mem_append_right _ h))) (by decide +kernel))) (goodIn_sub (fun _ h => List.mem_cons_of_mem _ (List.mem_append_right _ h)) (by decide +kernel))
set_option maxRecDepth 20000 in
theorem gL_isBegun_L_does : GoodIn wsL_isBegun (va_wsS RL 100 yL_does wsL_does) := goodIn_app (goodIn_of _ (by decide +kernel)) ggL_isBegun_L_does
theorem dL_isBegun_0 : decode cL_isBegun 0 = .ok (.iload_n 3, 1) := by decide +kernel
theorem dL_isBegun_1 : decode cL_isBegun 1 = .ok (.iconst 5, 1) := by decide +kernel
theorem dL_isBegun_2 : decode cL_isBegun 2 = .ok (.if_icmp .gt 9, 3) := by decide +kernel
theorem dL_isBegun_5 : decode cL_isBegun 5 = .ok (.iload 4, 2) := by decide +kernel
theorem dL_isBegun_7 : decode cL_isBegun 7 = .ok (.iconst 5, 1) := by decide +kernel
theorem dL_isBegun_8 : decode cL_isBegun 8 = .ok (.if_icmp .le 8, 3) := by decide +kernel
theorem dL_isBegun_11 : decode cL_isBegun 11 = .ok (.bipush (-30), 2) := by decide +kernel
theorem dL_isBegun_13 : decode cL_isBegun 13 = .ok (.goto 27, 3) := by decide +kernel
theorem dL_isBegun_16 : decode cL_isBegun 16 = .ok (.iload_n 3, 1) := by decide +kernel
theorem dL_isBegun_17 : decode cL_isBegun 17 = .ok (.iload 4, 2) := by decide +kernel
theorem dL_isBegun_19 : decode cL_isBegun 19 = .ok (.if_icmp .ne 8, 3) := by decide +kernel
theorem dL_isBegun_22 : decode cL_isBegun 22 = .ok (.bipush (-20), 2) := by decide +kernel
theorem dL_isBegun_24 : decode cL_isBegun 24 = .ok (.goto 16, 3) := by decide +kernel
theorem dL_isBegun_27 : decode cL_isBegun 27 = .ok (.aload_n 1, 1) := by decide +kernel
theorem dL_isBegun_28 : decode cL_isBegun 28 = .ok (.bipush 14, 2) := by decide +kernel
theorem dL_isBegun_30 : decode cL_isBegun 30 = .ok (.iaload, 1) := by decide +kernel
theorem dL_isBegun_31 : decode cL_isBegun 31 = .ok (.ifCond .lt 8, 3) := by decide +kernel
theorem dL_isBegun_34 : decode cL_isBegun 34 = .ok (.bipush (-10), 2) := by decide +kernel
theorem dL_isBegun_36 : decode cL_isBegun 36 = .ok (.goto 4, 3) := by decide +kernel
theorem dL_isBegun_39 : decode cL_isBegun 39 = .ok (.iconst 0, 1) := by decide +kernel
theorem dL_isBegun_40 : decode cL_isBegun 40 = .ok (.istore 5, 2) := by decide +kernel
theorem dL_isBegun_42 : decode cL_isBegun 42 = .ok (.iload 5, 2) := by decide +kernel
theorem dL_isBegun_44 : decode cL_isBegun 44 = .ok (.ifCond .ne 66, 3) := by decide +kernel
theorem dL_isBegun_47 : decode cL_isBegun 47 = .ok (.aload_n 1, 1) := by decide +kernel
theorem dL_isBegun_48 : decode cL_isBegun 48 = .ok (.bipush 14, 2) := by decide +kernel
theorem dL_isBegun_50 : decode cL_isBegun 50 = .ok (.iconst 0, 1) := by decide +kernel
theorem dL_isBegun_51 : decode cL_isBegun 51 = .ok (.iastore, 1) := by decide +kernel
theorem dL_isBegun_52 : decode cL_isBegun 52 = .ok (.aload_n 1, 1) := by decide +kernel
theorem dL_isBegun_53 : decode cL_isBegun 53 = .ok (.bipush 15, 2) := by decide +kernel
theorem dL_isBegun_55 : decode cL_isBegun 55 = .ok (.iconst 0, 1) := by decide +kernel
theorem dL_isBegun_56 : decode cL_isBegun 56 = .ok (.iastore, 1) := by decide +kernel
theorem dL_isBegun_57 : decode cL_isBegun 57 = .ok (.aload_n 1, 1) := by decide +kernel
theorem dL_isBegun_58 : decode cL_isBegun 58 = .ok (.bipush 16, 2) := by decide +kernel
theorem dL_isBegun_60 : decode cL_isBegun 60 = .ok (.iconst 0, 1) := by decide +kernel
theorem dL_isBegun_61 : decode cL_isBegun 61 = .ok (.iastore, 1) := by decide +kernel
theorem dL_isBegun_62 : decode cL_isBegun 62 = .ok (.aload_n 1, 1) := by decide +kernel
theorem dL_isBegun_63 : decode cL_isBegun 63 = .ok (.bipush 17, 2) := by decide +kernel
theorem dL_isBegun_65 : decode cL_isBegun 65 = .ok (.iload_n 3, 1) := by decide +kernel
theorem dL_isBegun_66 : decode cL_isBegun 66 = .ok (.iastore, 1) := by decide +kernel
theorem dL_isBegun_67 : decode cL_isBegun 67 = .ok (.aload_n 1, 1) := by decide +kernel
theorem dL_isBegun_68 : decode cL_isBegun 68 = .ok (.bipush 18, 2) := by decide +kernel
theorem dL_isBegun_70 : decode cL_isBegun 70 = .ok (.iload 4, 2) := by decide +kernel
theorem dL_isBegun_72 : decode cL_isBegun 72 = .ok (.iastore, 1) := by decide +kernel
theorem dL_isBegun_73 : decode cL_isBegun 73 = .ok (.iconst 0, 1) := by decide +kernel
theorem dL_isBegun_74 : decode cL_isBegun 74 = .ok (.istore 6, 2) := by decide +kernel
theorem dL_isBegun_76 : decode cL_isBegun 76 = .ok (.iload 6, 2) := by decide +kernel
theorem dL_isBegun_78 : decode cL_isBegun 78 = .ok (.bipush 6, 2) := by decide +kernel
theorem dL_isBegun_80 : decode cL_isBegun 80 = .ok (.if_icmp .ge 30, 3) := by decide +kernel
theorem dL_isBegun_83 : decode cL_isBegun 83 = .ok (.aload_n 2, 1) := by decide +kernel
theorem dL_isBegun_84 : decode cL_isBegun 84 = .ok (.iload 6, 2) := by decide +kernel
theorem dL_isBegun_86 : decode cL_isBegun 86 = .ok (.iconst (-1), 1) := by decide +kernel
theorem dL_isBegun_87 : decode cL_isBegun 87 = .ok (.iastore, 1) := by decide +kernel
theorem dL_isBegun_88 : decode cL_isBegun 88 = .ok (.aload_n 2, 1) := by decide +kernel
theorem dL_isBegun_89 : decode cL_isBegun 89 = .ok (.bipush 6, 2) := by decide +kernel
theorem dL_isBegun_91 : decode cL_isBegun 91 = .ok (.iload 6, 2) := by decide +kernel
theorem dL_isBegun_93 : decode cL_isBegun 93 = .ok (.iadd, 1) := by decide +kernel
theorem dL_isBegun_94 : decode cL_isBegun 94 = .ok (.iconst (-1), 1) := by decide +kernel
theorem dL_isBegun_95 : decode cL_isBegun 95 = .ok (.iastore, 1) := by decide +kernel
theorem dL_isBegun_96 : decode cL_isBegun 96 = .ok (.aload_n 2, 1) := by decide +kernel
theorem dL_isBegun_97 : decode cL_isBegun 97 = .ok (.bipush 12, 2) := by decide +kernel
theorem dL_isBegun_99 : decode cL_isBegun 99 = .ok (.iload 6, 2) := by decide +kernel
theorem dL_isBegun_101 : decode cL_isBegun 101 = .ok (.iadd, 1) := by decide +kernel
theorem dL_isBegun_102 : decode cL_isBegun 102 = .ok (.iconst (-1), 1) := by decide +kernel
theorem dL_isBegun_103 : decode cL_isBegun 103 = .ok (.iastore, 1) := by decide +kernel
theorem dL_isBegun_104 : decode cL_isBegun 104 = .ok (.iinc 6 1, 3) := by decide +kernel
theorem dL_isBegun_107 : decode cL_isBegun 107 = .ok (.goto (-31), 3) := by decide +kernel
theorem dL_isBegun_110 : decode cL_isBegun 110 = .ok (.aload_n 0, 1) := by decide +kernel
theorem dL_isBegun_111 : decode cL_isBegun 111 = .ok (.iconst 2, 1) := by decide +kernel
theorem dL_isBegun_112 : decode cL_isBegun 112 = .ok (.iload_n 3, 1) := by decide +kernel
theorem dL_isBegun_113 : decode cL_isBegun 113 = .ok (.iload 4, 2) := by decide +kernel
theorem dL_isBegun_115 : decode cL_isBegun 115 = .ok (.invokestatic 100, 3) := by decide +kernel
theorem dL_isBegun_118 : decode cL_isBegun 118 = .ok (.iload 5, 2) := by decide +kernel
theorem dL_isBegun_120 : decode cL_isBegun 120 = .ok (.if_icmp .ne 7, 3) := by decide +kernel
theorem dL_isBegun_123 : decode cL_isBegun 123 = .ok (.iconst 1, 1) := by decide +kernel
theorem dL_isBegun_124 : decode cL_isBegun 124 = .ok (.goto 4, 3) := by decide +kernel
theorem dL_isBegun_127 : decode cL_isBegun 127 = .ok (.iconst 0, 1) := by decide +kernel
theorem dL_isBegun_128 : decode cL_isBegun 128 = .ok (.ireturn, 1) := by decide +kernel
set_option maxRecDepth 20000 in
theorem ggL_isDone_L_part : GoodIn wsL_isDone wsL_part := goodIn_r _ [4, 5] (by decide +kernel) (by decide +kernel)
set_option maxRecDepth 20000 in
theorem gL_isDone_L_part : GoodIn wsL_isDone (va_wsS RL 103 yL_part wsL_part) := goodIn_app (goodIn_of _ (by decide +kernel)) ggL_isDone_L_part
set_option maxRecDepth 20000 in
theorem ggL_isDone_L_isBunker : GoodIn wsL_isDone wsL_isBunker := goodIn_r _ [8] (by decide +kernel) (by decide +kernel)
set_option maxRecDepth 20000 in
theorem gL_isDone_L_isBunker : GoodIn wsL_isDone (va_wsS RL 79 yL_isBunker wsL_isBunker) := goodIn_app (goodIn_of _ (by decide +kernel)) ggL_isDone_L_isBunker
set_option maxRecDepth 20000 in
theorem ggL_isDone_L_does : GoodIn wsL_isDone wsL_does := goodIn_ca (goodIn_ca (goodIn_ca (goodIn_r _ [11, 12, 13, 14, 15, 16, 17, 18, 19, 20, 21, 22, 23, 24, 25, 26, 27, 28, 29, 30, 31, 32, 33, 34, 35, 36, 37, 38, 39, 40, 41, 42, 43, 44, 45, 46, 47, 48, 49, 50, 3, 51, 52, 53, 54, 55, 56, 57, 58, 59, 60, 61, 62, 63, 64, 65, 66, 67, 68, 69, 70, 71, 72, 73, 74, 75, 76, 77, 78, 79, 80, 81, 82, 83, 84, 85, 86, 87, 88, 89, 90, 91, 92, 93, 94, 95, 96, 97, 98, 99, 100, 101, 102, 103, 104, 105, 106, 107, 108, 109, 110, 111, 112, 113, 114, 115, 116, 117, 118, 119, 120, 121, 122, 123, 124, 125, 126, 127, 128, 129, 130, 131, 132, 133, 134, 135, 136, 137, 138, 139, 140, 141, 142, 143, 144, 145, 146, 147, 148, 149, 150, 151, 152, 153, 154, 155, 156, 157, 158, 159, 160, 161, 162, 163, 164, 165, 166, 167, 168, 169, 170, 171, 172, 173, 174, 175, 176, 177, 178, 179, 180, 181, 182, 183, 184, 185, 186, 187, 188, 189, 190, 191, 192, 193, 194, 195, 196, 197, 198, 199, 200, 201, 202, 203, 204, 205, 206, 207, 208, 209, 210, 211, 212, 213, 214, 215, 216, 217, 218, 219, 220, 221, 222, 223, 224, 225, 226, 227, 228, 229, 230, 231, 232, 233, 234, 235, 236, 237, 238, 239, 240, 241, 242, 243, 244, 245, 246, 247, 248, 249, 250, 251, 252, 253, 302, 303, 304, 305, 306, 307, 308, 309, 310, 311, 312, 313, 314, 315, 316, 317, 318, 319, 320, 321, 322, 323, 324, 325, 326, 327, 328] (by decide +kernel) (by decide +kernel)) (goodIn_sub (fun _ h => List.mem_cons_of_mem _ (List.mem_append_left _ (List.mem_append_left _ (List.mem_append_right _ h)))) (by decide +kernel))) (goodIn_sub (fun _ h => List.mem_cons_of_mem _ (List.mem_append_left _ (List.mem_append_right _ h))) (by decide +kernel))) (goodIn_sub (fun _ h => List.mem_cons_of_mem _ (List.mem_append_right _ h)) (by decide +kernel))
set_option maxRecDepth 20000 in
theorem gL_isDone_L_does : GoodIn wsL_isDone (va_wsS RL 100 yL_does wsL_does) := goodIn_app (goodIn_of _ (by decide +kernel)) ggL_isDone_L_does
