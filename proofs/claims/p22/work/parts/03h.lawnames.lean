theorem dL_isDone_0 : decode cL_isDone 0 = .ok (.aload_n 1, 1) := by decide +kernel
theorem dL_isDone_1 : decode cL_isDone 1 = .ok (.iload_n 2, 1) := by decide +kernel
theorem dL_isDone_2 : decode cL_isDone 2 = .ok (.bipush 40, 2) := by decide +kernel
theorem dL_isDone_4 : decode cL_isDone 4 = .ok (.invokestatic 103, 3) := by decide +kernel
theorem dL_isDone_7 : decode cL_isDone 7 = .ok (.istore 8, 2) := by decide +kernel
theorem dL_isDone_9 : decode cL_isDone 9 = .ok (.aload_n 1, 1) := by decide +kernel
theorem dL_isDone_10 : decode cL_isDone 10 = .ok (.iload_n 2, 1) := by decide +kernel
theorem dL_isDone_11 : decode cL_isDone 11 = .ok (.iconst 1, 1) := by decide +kernel
theorem dL_isDone_12 : decode cL_isDone 12 = .ok (.iadd, 1) := by decide +kernel
theorem dL_isDone_13 : decode cL_isDone 13 = .ok (.sipush 6000, 3) := by decide +kernel
theorem dL_isDone_16 : decode cL_isDone 16 = .ok (.invokestatic 103, 3) := by decide +kernel
theorem dL_isDone_19 : decode cL_isDone 19 = .ok (.istore 9, 2) := by decide +kernel
theorem dL_isDone_21 : decode cL_isDone 21 = .ok (.aload_n 1, 1) := by decide +kernel
theorem dL_isDone_22 : decode cL_isDone 22 = .ok (.iload_n 2, 1) := by decide +kernel
theorem dL_isDone_23 : decode cL_isDone 23 = .ok (.iconst 2, 1) := by decide +kernel
theorem dL_isDone_24 : decode cL_isDone 24 = .ok (.iadd, 1) := by decide +kernel
theorem dL_isDone_25 : decode cL_isDone 25 = .ok (.sipush 7000, 3) := by decide +kernel
theorem dL_isDone_28 : decode cL_isDone 28 = .ok (.invokestatic 103, 3) := by decide +kernel
theorem dL_isDone_31 : decode cL_isDone 31 = .ok (.istore 10, 2) := by decide +kernel
theorem dL_isDone_33 : decode cL_isDone 33 = .ok (.iload 9, 2) := by decide +kernel
theorem dL_isDone_35 : decode cL_isDone 35 = .ok (.bipush 30, 2) := by decide +kernel
theorem dL_isDone_37 : decode cL_isDone 37 = .ok (.irem, 1) := by decide +kernel
theorem dL_isDone_38 : decode cL_isDone 38 = .ok (.ifCond .ne 8, 3) := by decide +kernel
theorem dL_isDone_41 : decode cL_isDone 41 = .ok (.bipush 6, 2) := by decide +kernel
theorem dL_isDone_43 : decode cL_isDone 43 = .ok (.goto 8, 3) := by decide +kernel
theorem dL_isDone_46 : decode cL_isDone 46 = .ok (.iload 9, 2) := by decide +kernel
theorem dL_isDone_48 : decode cL_isDone 48 = .ok (.bipush 6, 2) := by decide +kernel
theorem dL_isDone_50 : decode cL_isDone 50 = .ok (.irem, 1) := by decide +kernel
theorem dL_isDone_51 : decode cL_isDone 51 = .ok (.istore 11, 2) := by decide +kernel
theorem dL_isDone_53 : decode cL_isDone 53 = .ok (.iload 10, 2) := by decide +kernel
theorem dL_isDone_55 : decode cL_isDone 55 = .ok (.bipush 40, 2) := by decide +kernel
theorem dL_isDone_57 : decode cL_isDone 57 = .ok (.irem, 1) := by decide +kernel
theorem dL_isDone_58 : decode cL_isDone 58 = .ok (.ifCond .ne 9, 3) := by decide +kernel
theorem dL_isDone_61 : decode cL_isDone 61 = .ok (.sipush 144, 3) := by decide +kernel
theorem dL_isDone_64 : decode cL_isDone 64 = .ok (.goto 20, 3) := by decide +kernel
theorem dL_isDone_67 : decode cL_isDone 67 = .ok (.bipush 12, 2) := by decide +kernel
theorem dL_isDone_69 : decode cL_isDone 69 = .ok (.iload 10, 2) := by decide +kernel
theorem dL_isDone_71 : decode cL_isDone 71 = .ok (.bipush 6, 2) := by decide +kernel
theorem dL_isDone_73 : decode cL_isDone 73 = .ok (.irem, 1) := by decide +kernel
theorem dL_isDone_74 : decode cL_isDone 74 = .ok (.imul, 1) := by decide +kernel
theorem dL_isDone_75 : decode cL_isDone 75 = .ok (.iload 10, 2) := by decide +kernel
theorem dL_isDone_77 : decode cL_isDone 77 = .ok (.bipush 6, 2) := by decide +kernel
theorem dL_isDone_79 : decode cL_isDone 79 = .ok (.idiv, 1) := by decide +kernel
theorem dL_isDone_80 : decode cL_isDone 80 = .ok (.bipush 7, 2) := by decide +kernel
theorem dL_isDone_82 : decode cL_isDone 82 = .ok (.irem, 1) := by decide +kernel
theorem dL_isDone_83 : decode cL_isDone 83 = .ok (.iadd, 1) := by decide +kernel
theorem dL_isDone_84 : decode cL_isDone 84 = .ok (.istore 12, 2) := by decide +kernel
theorem dL_isDone_86 : decode cL_isDone 86 = .ok (.iload 8, 2) := by decide +kernel
theorem dL_isDone_88 : decode cL_isDone 88 = .ok (.bipush 6, 2) := by decide +kernel
theorem dL_isDone_90 : decode cL_isDone 90 = .ok (.if_icmp .ge 85, 3) := by decide +kernel
theorem dL_isDone_93 : decode cL_isDone 93 = .ok (.iload 12, 2) := by decide +kernel
theorem dL_isDone_95 : decode cL_isDone 95 = .ok (.sipush 144, 3) := by decide +kernel
theorem dL_isDone_98 : decode cL_isDone 98 = .ok (.if_icmp .ne 8, 3) := by decide +kernel
theorem dL_isDone_101 : decode cL_isDone 101 = .ok (.bipush (-30), 2) := by decide +kernel
theorem dL_isDone_103 : decode cL_isDone 103 = .ok (.goto 29, 3) := by decide +kernel
theorem dL_isDone_106 : decode cL_isDone 106 = .ok (.aload_n 3, 1) := by decide +kernel
theorem dL_isDone_107 : decode cL_isDone 107 = .ok (.bipush 14, 2) := by decide +kernel
theorem dL_isDone_109 : decode cL_isDone 109 = .ok (.iaload, 1) := by decide +kernel
theorem dL_isDone_110 : decode cL_isDone 110 = .ok (.ifCond .lt 8, 3) := by decide +kernel
theorem dL_isDone_113 : decode cL_isDone 113 = .ok (.bipush (-10), 2) := by decide +kernel
theorem dL_isDone_115 : decode cL_isDone 115 = .ok (.goto 17, 3) := by decide +kernel
theorem dL_isDone_118 : decode cL_isDone 118 = .ok (.aload_n 3, 1) := by decide +kernel
theorem dL_isDone_119 : decode cL_isDone 119 = .ok (.iload 12, 2) := by decide +kernel
theorem dL_isDone_121 : decode cL_isDone 121 = .ok (.invokestatic 79, 3) := by decide +kernel
theorem dL_isDone_124 : decode cL_isDone 124 = .ok (.ifCond .eq 7, 3) := by decide +kernel
theorem dL_isDone_127 : decode cL_isDone 127 = .ok (.iconst 0, 1) := by decide +kernel
theorem dL_isDone_128 : decode cL_isDone 128 = .ok (.goto 4, 3) := by decide +kernel
theorem dL_isDone_131 : decode cL_isDone 131 = .ok (.iconst 1, 1) := by decide +kernel
theorem dL_isDone_132 : decode cL_isDone 132 = .ok (.istore 13, 2) := by decide +kernel
theorem dL_isDone_134 : decode cL_isDone 134 = .ok (.iload 13, 2) := by decide +kernel
theorem dL_isDone_136 : decode cL_isDone 136 = .ok (.ifCond .lt 20, 3) := by decide +kernel
theorem dL_isDone_139 : decode cL_isDone 139 = .ok (.aload_n 3, 1) := by decide +kernel
theorem dL_isDone_140 : decode cL_isDone 140 = .ok (.iload 12, 2) := by decide +kernel
theorem dL_isDone_142 : decode cL_isDone 142 = .ok (.bipush 12, 2) := by decide +kernel
theorem dL_isDone_144 : decode cL_isDone 144 = .ok (.idiv, 1) := by decide +kernel
theorem dL_isDone_145 : decode cL_isDone 145 = .ok (.dup2, 1) := by decide +kernel
theorem dL_isDone_146 : decode cL_isDone 146 = .ok (.iaload, 1) := by decide +kernel
theorem dL_isDone_147 : decode cL_isDone 147 = .ok (.iconst 1, 1) := by decide +kernel
theorem dL_isDone_148 : decode cL_isDone 148 = .ok (.iload 12, 2) := by decide +kernel
theorem dL_isDone_150 : decode cL_isDone 150 = .ok (.bipush 12, 2) := by decide +kernel
theorem dL_isDone_152 : decode cL_isDone 152 = .ok (.irem, 1) := by decide +kernel
theorem dL_isDone_153 : decode cL_isDone 153 = .ok (.ishl, 1) := by decide +kernel
theorem dL_isDone_154 : decode cL_isDone 154 = .ok (.ixor, 1) := by decide +kernel
theorem dL_isDone_155 : decode cL_isDone 155 = .ok (.iastore, 1) := by decide +kernel
theorem dL_isDone_156 : decode cL_isDone 156 = .ok (.aload_n 0, 1) := by decide +kernel
theorem dL_isDone_157 : decode cL_isDone 157 = .ok (.iconst 0, 1) := by decide +kernel
theorem dL_isDone_158 : decode cL_isDone 158 = .ok (.iload 12, 2) := by decide +kernel
theorem dL_isDone_160 : decode cL_isDone 160 = .ok (.iconst 0, 1) := by decide +kernel
theorem dL_isDone_161 : decode cL_isDone 161 = .ok (.invokestatic 100, 3) := by decide +kernel
theorem dL_isDone_164 : decode cL_isDone 164 = .ok (.iload 13, 2) := by decide +kernel
theorem dL_isDone_166 : decode cL_isDone 166 = .ok (.if_icmp .ne 7, 3) := by decide +kernel
theorem dL_isDone_169 : decode cL_isDone 169 = .ok (.iconst 1, 1) := by decide +kernel
theorem dL_isDone_170 : decode cL_isDone 170 = .ok (.goto 4, 3) := by decide +kernel
theorem dL_isDone_173 : decode cL_isDone 173 = .ok (.iconst 0, 1) := by decide +kernel
theorem dL_isDone_174 : decode cL_isDone 174 = .ok (.ireturn, 1) := by decide +kernel
theorem dL_isDone_175 : decode cL_isDone 175 = .ok (.iload 8, 2) := by decide +kernel
theorem dL_isDone_177 : decode cL_isDone 177 = .ok (.bipush 6, 2) := by decide +kernel
theorem dL_isDone_179 : decode cL_isDone 179 = .ok (.if_icmp .ne 71, 3) := by decide +kernel
theorem dL_isDone_182 : decode cL_isDone 182 = .ok (.iload 9, 2) := by decide +kernel
theorem dL_isDone_184 : decode cL_isDone 184 = .ok (.iconst 3, 1) := by decide +kernel
theorem dL_isDone_185 : decode cL_isDone 185 = .ok (.irem, 1) := by decide +kernel
theorem dL_isDone_186 : decode cL_isDone 186 = .ok (.istore 13, 2) := by decide +kernel
theorem dL_isDone_188 : decode cL_isDone 188 = .ok (.iload 13, 2) := by decide +kernel
theorem dL_isDone_190 : decode cL_isDone 190 = .ok (.iconst 2, 1) := by decide +kernel
theorem dL_isDone_191 : decode cL_isDone 191 = .ok (.if_icmp .eq 11, 3) := by decide +kernel
theorem dL_isDone_194 : decode cL_isDone 194 = .ok (.iload 12, 2) := by decide +kernel
theorem dL_isDone_196 : decode cL_isDone 196 = .ok (.sipush 144, 3) := by decide +kernel
theorem dL_isDone_199 : decode cL_isDone 199 = .ok (.if_icmp .ne 8, 3) := by decide +kernel
theorem dL_isDone_202 : decode cL_isDone 202 = .ok (.bipush (-30), 2) := by decide +kernel
theorem dL_isDone_204 : decode cL_isDone 204 = .ok (.goto 10, 3) := by decide +kernel
theorem dL_isDone_207 : decode cL_isDone 207 = .ok (.aload_n 3, 1) := by decide +kernel
theorem dL_isDone_208 : decode cL_isDone 208 = .ok (.bipush 12, 2) := by decide +kernel
theorem dL_isDone_210 : decode cL_isDone 210 = .ok (.iload 13, 2) := by decide +kernel
theorem dL_isDone_212 : decode cL_isDone 212 = .ok (.iadd, 1) := by decide +kernel
theorem dL_isDone_213 : decode cL_isDone 213 = .ok (.iaload, 1) := by decide +kernel
theorem dL_isDone_214 : decode cL_isDone 214 = .ok (.istore 14, 2) := by decide +kernel
theorem dL_isDone_216 : decode cL_isDone 216 = .ok (.iload 14, 2) := by decide +kernel
theorem dL_isDone_218 : decode cL_isDone 218 = .ok (.ifCond .lt 12, 3) := by decide +kernel
theorem dL_isDone_221 : decode cL_isDone 221 = .ok (.aload_n 3, 1) := by decide +kernel
theorem dL_isDone_222 : decode cL_isDone 222 = .ok (.bipush 12, 2) := by decide +kernel
theorem dL_isDone_224 : decode cL_isDone 224 = .ok (.iload 13, 2) := by decide +kernel
theorem dL_isDone_226 : decode cL_isDone 226 = .ok (.iadd, 1) := by decide +kernel
theorem dL_isDone_227 : decode cL_isDone 227 = .ok (.iload 12, 2) := by decide +kernel
theorem dL_isDone_229 : decode cL_isDone 229 = .ok (.iastore, 1) := by decide +kernel
theorem dL_isDone_230 : decode cL_isDone 230 = .ok (.aload_n 0, 1) := by decide +kernel
theorem dL_isDone_231 : decode cL_isDone 231 = .ok (.iconst 1, 1) := by decide +kernel
theorem dL_isDone_232 : decode cL_isDone 232 = .ok (.iload 13, 2) := by decide +kernel
theorem dL_isDone_234 : decode cL_isDone 234 = .ok (.iload 12, 2) := by decide +kernel
theorem dL_isDone_236 : decode cL_isDone 236 = .ok (.invokestatic 100, 3) := by decide +kernel
theorem dL_isDone_239 : decode cL_isDone 239 = .ok (.iload 14, 2) := by decide +kernel
theorem dL_isDone_241 : decode cL_isDone 241 = .ok (.if_icmp .ne 7, 3) := by decide +kernel
theorem dL_isDone_244 : decode cL_isDone 244 = .ok (.iconst 1, 1) := by decide +kernel
theorem dL_isDone_245 : decode cL_isDone 245 = .ok (.goto 4, 3) := by decide +kernel
theorem dL_isDone_248 : decode cL_isDone 248 = .ok (.iconst 0, 1) := by decide +kernel
theorem dL_isDone_249 : decode cL_isDone 249 = .ok (.ireturn, 1) := by decide +kernel
theorem dL_isDone_250 : decode cL_isDone 250 = .ok (.iload 8, 2) := by decide +kernel
theorem dL_isDone_252 : decode cL_isDone 252 = .ok (.bipush 11, 2) := by decide +kernel
theorem dL_isDone_254 : decode cL_isDone 254 = .ok (.if_icmp .ge 21, 3) := by decide +kernel
theorem dL_isDone_257 : decode cL_isDone 257 = .ok (.aload_n 0, 1) := by decide +kernel
theorem dL_isDone_258 : decode cL_isDone 258 = .ok (.aload_n 3, 1) := by decide +kernel
theorem dL_isDone_259 : decode cL_isDone 259 = .ok (.aload 4, 2) := by decide +kernel
theorem dL_isDone_261 : decode cL_isDone 261 = .ok (.iload 9, 2) := by decide +kernel
theorem dL_isDone_263 : decode cL_isDone 263 = .ok (.bipush 7, 2) := by decide +kernel
theorem dL_isDone_265 : decode cL_isDone 265 = .ok (.irem, 1) := by decide +kernel
theorem dL_isDone_266 : decode cL_isDone 266 = .ok (.iload 10, 2) := by decide +kernel
theorem dL_isDone_268 : decode cL_isDone 268 = .ok (.bipush 6, 2) := by decide +kernel
theorem dL_isDone_270 : decode cL_isDone 270 = .ok (.irem, 1) := by decide +kernel
theorem dL_isDone_271 : decode cL_isDone 271 = .ok (.invokestatic 107, 3) := by decide +kernel
theorem dL_isDone_274 : decode cL_isDone 274 = .ok (.ireturn, 1) := by decide +kernel
theorem dL_isDone_275 : decode cL_isDone 275 = .ok (.iload 8, 2) := by decide +kernel
theorem dL_isDone_277 : decode cL_isDone 277 = .ok (.bipush 20, 2) := by decide +kernel
theorem dL_isDone_279 : decode cL_isDone 279 = .ok (.if_icmp .ge 72, 3) := by decide +kernel
theorem dL_isDone_282 : decode cL_isDone 282 = .ok (.iload 11, 2) := by decide +kernel
theorem dL_isDone_284 : decode cL_isDone 284 = .ok (.bipush 6, 2) := by decide +kernel
theorem dL_isDone_286 : decode cL_isDone 286 = .ok (.if_icmp .ge 35, 3) := by decide +kernel
theorem dL_isDone_289 : decode cL_isDone 289 = .ok (.aload 4, 2) := by decide +kernel
theorem dL_isDone_291 : decode cL_isDone 291 = .ok (.iload 11, 2) := by decide +kernel
theorem dL_isDone_293 : decode cL_isDone 293 = .ok (.iaload, 1) := by decide +kernel
theorem dL_isDone_294 : decode cL_isDone 294 = .ok (.ifCond .lt 27, 3) := by decide +kernel
theorem dL_isDone_297 : decode cL_isDone 297 = .ok (.iload 10, 2) := by decide +kernel
theorem dL_isDone_299 : decode cL_isDone 299 = .ok (.iconst 3, 1) := by decide +kernel
theorem dL_isDone_300 : decode cL_isDone 300 = .ok (.irem, 1) := by decide +kernel
theorem dL_isDone_301 : decode cL_isDone 301 = .ok (.ifCond .le 20, 3) := by decide +kernel
theorem dL_isDone_304 : decode cL_isDone 304 = .ok (.aload 4, 2) := by decide +kernel
theorem dL_isDone_306 : decode cL_isDone 306 = .ok (.iload 11, 2) := by decide +kernel
theorem dL_isDone_308 : decode cL_isDone 308 = .ok (.iaload, 1) := by decide +kernel
theorem dL_isDone_309 : decode cL_isDone 309 = .ok (.bipush 12, 2) := by decide +kernel
theorem dL_isDone_311 : decode cL_isDone 311 = .ok (.irem, 1) := by decide +kernel
theorem dL_isDone_312 : decode cL_isDone 312 = .ok (.bipush 11, 2) := by decide +kernel
theorem dL_isDone_314 : decode cL_isDone 314 = .ok (.if_icmp .ge 7, 3) := by decide +kernel
theorem dL_isDone_317 : decode cL_isDone 317 = .ok (.iconst 1, 1) := by decide +kernel
theorem dL_isDone_318 : decode cL_isDone 318 = .ok (.goto 4, 3) := by decide +kernel
theorem dL_isDone_321 : decode cL_isDone 321 = .ok (.iconst 0, 1) := by decide +kernel
theorem dL_isDone_322 : decode cL_isDone 322 = .ok (.istore 13, 2) := by decide +kernel
theorem dL_isDone_324 : decode cL_isDone 324 = .ok (.aload_n 0, 1) := by decide +kernel
theorem dL_isDone_325 : decode cL_isDone 325 = .ok (.aload_n 3, 1) := by decide +kernel
theorem dL_isDone_326 : decode cL_isDone 326 = .ok (.aload 4, 2) := by decide +kernel
theorem dL_isDone_328 : decode cL_isDone 328 = .ok (.iload 11, 2) := by decide +kernel
theorem dL_isDone_330 : decode cL_isDone 330 = .ok (.iload 13, 2) := by decide +kernel
theorem dL_isDone_332 : decode cL_isDone 332 = .ok (.ifCond .eq 13, 3) := by decide +kernel
theorem dL_isDone_335 : decode cL_isDone 335 = .ok (.aload 4, 2) := by decide +kernel
theorem dL_isDone_337 : decode cL_isDone 337 = .ok (.iload 11, 2) := by decide +kernel
theorem dL_isDone_339 : decode cL_isDone 339 = .ok (.iaload, 1) := by decide +kernel
theorem dL_isDone_340 : decode cL_isDone 340 = .ok (.iconst 1, 1) := by decide +kernel
theorem dL_isDone_341 : decode cL_isDone 341 = .ok (.iadd, 1) := by decide +kernel
theorem dL_isDone_342 : decode cL_isDone 342 = .ok (.goto 5, 3) := by decide +kernel
theorem dL_isDone_345 : decode cL_isDone 345 = .ok (.iload 12, 2) := by decide +kernel
theorem dL_isDone_347 : decode cL_isDone 347 = .ok (.invokestatic 111, 3) := by decide +kernel
theorem dL_isDone_350 : decode cL_isDone 350 = .ok (.ireturn, 1) := by decide +kernel
theorem dL_isDone_351 : decode cL_isDone 351 = .ok (.iload 8, 2) := by decide +kernel
theorem dL_isDone_353 : decode cL_isDone 353 = .ok (.bipush 27, 2) := by decide +kernel
theorem dL_isDone_355 : decode cL_isDone 355 = .ok (.if_icmp .ge 48, 3) := by decide +kernel
theorem dL_isDone_358 : decode cL_isDone 358 = .ok (.iload 10, 2) := by decide +kernel
theorem dL_isDone_360 : decode cL_isDone 360 = .ok (.bipush 42, 2) := by decide +kernel
theorem dL_isDone_362 : decode cL_isDone 362 = .ok (.idiv, 1) := by decide +kernel
theorem dL_isDone_363 : decode cL_isDone 363 = .ok (.bipush 6, 2) := by decide +kernel
theorem dL_isDone_365 : decode cL_isDone 365 = .ok (.irem, 1) := by decide +kernel
theorem dL_isDone_366 : decode cL_isDone 366 = .ok (.istore 13, 2) := by decide +kernel
theorem dL_isDone_368 : decode cL_isDone 368 = .ok (.aload_n 0, 1) := by decide +kernel
theorem dL_isDone_369 : decode cL_isDone 369 = .ok (.aload_n 3, 1) := by decide +kernel
theorem dL_isDone_370 : decode cL_isDone 370 = .ok (.aload 4, 2) := by decide +kernel
theorem dL_isDone_372 : decode cL_isDone 372 = .ok (.iload 11, 2) := by decide +kernel
theorem dL_isDone_374 : decode cL_isDone 374 = .ok (.aload 4, 2) := by decide +kernel
theorem dL_isDone_376 : decode cL_isDone 376 = .ok (.iload 13, 2) := by decide +kernel
theorem dL_isDone_378 : decode cL_isDone 378 = .ok (.iaload, 1) := by decide +kernel
theorem dL_isDone_379 : decode cL_isDone 379 = .ok (.ifCond .lt 18, 3) := by decide +kernel
theorem dL_isDone_382 : decode cL_isDone 382 = .ok (.iload 10, 2) := by decide +kernel
theorem dL_isDone_384 : decode cL_isDone 384 = .ok (.iconst 4, 1) := by decide +kernel
theorem dL_isDone_385 : decode cL_isDone 385 = .ok (.irem, 1) := by decide +kernel
theorem dL_isDone_386 : decode cL_isDone 386 = .ok (.ifCond .le 11, 3) := by decide +kernel
theorem dL_isDone_389 : decode cL_isDone 389 = .ok (.aload 4, 2) := by decide +kernel
theorem dL_isDone_391 : decode cL_isDone 391 = .ok (.iload 13, 2) := by decide +kernel
theorem dL_isDone_393 : decode cL_isDone 393 = .ok (.iaload, 1) := by decide +kernel
theorem dL_isDone_394 : decode cL_isDone 394 = .ok (.goto 5, 3) := by decide +kernel
theorem dL_isDone_397 : decode cL_isDone 397 = .ok (.iload 12, 2) := by decide +kernel
theorem dL_isDone_399 : decode cL_isDone 399 = .ok (.invokestatic 114, 3) := by decide +kernel
theorem dL_isDone_402 : decode cL_isDone 402 = .ok (.ireturn, 1) := by decide +kernel
theorem dL_isDone_403 : decode cL_isDone 403 = .ok (.iload 8, 2) := by decide +kernel
theorem dL_isDone_405 : decode cL_isDone 405 = .ok (.bipush 32, 2) := by decide +kernel
theorem dL_isDone_407 : decode cL_isDone 407 = .ok (.if_icmp .ge 111, 3) := by decide +kernel
theorem dL_isDone_410 : decode cL_isDone 410 = .ok (.iload 10, 2) := by decide +kernel
theorem dL_isDone_412 : decode cL_isDone 412 = .ok (.bipush 25, 2) := by decide +kernel
theorem dL_isDone_414 : decode cL_isDone 414 = .ok (.irem, 1) := by decide +kernel
theorem dL_isDone_415 : decode cL_isDone 415 = .ok (.ifCond .ne 8, 3) := by decide +kernel
theorem dL_isDone_418 : decode cL_isDone 418 = .ok (.bipush 51, 2) := by decide +kernel
theorem dL_isDone_420 : decode cL_isDone 420 = .ok (.goto 9, 3) := by decide +kernel
theorem dL_isDone_423 : decode cL_isDone 423 = .ok (.iconst 1, 1) := by decide +kernel
theorem dL_isDone_424 : decode cL_isDone 424 = .ok (.iload 10, 2) := by decide +kernel
theorem dL_isDone_426 : decode cL_isDone 426 = .ok (.iconst 4, 1) := by decide +kernel
theorem dL_isDone_427 : decode cL_isDone 427 = .ok (.irem, 1) := by decide +kernel
theorem dL_isDone_428 : decode cL_isDone 428 = .ok (.iadd, 1) := by decide +kernel
theorem dL_isDone_429 : decode cL_isDone 429 = .ok (.istore 13, 2) := by decide +kernel
theorem dL_isDone_431 : decode cL_isDone 431 = .ok (.aload_n 0, 1) := by decide +kernel
theorem dL_isDone_432 : decode cL_isDone 432 = .ok (.invokevirtual 93, 3) := by decide +kernel
theorem dL_isDone_435 : decode cL_isDone 435 = .ok (.istore 14, 2) := by decide +kernel
theorem dL_isDone_437 : decode cL_isDone 437 = .ok (.aload_n 0, 1) := by decide +kernel
theorem dL_isDone_438 : decode cL_isDone 438 = .ok (.iconst 5, 1) := by decide +kernel
theorem dL_isDone_439 : decode cL_isDone 439 = .ok (.iload 13, 2) := by decide +kernel
theorem dL_isDone_441 : decode cL_isDone 441 = .ok (.iconst 0, 1) := by decide +kernel
theorem dL_isDone_442 : decode cL_isDone 442 = .ok (.invokestatic 100, 3) := by decide +kernel
theorem dL_isDone_445 : decode cL_isDone 445 = .ok (.istore 15, 2) := by decide +kernel
theorem dL_isDone_447 : decode cL_isDone 447 = .ok (.iload 13, 2) := by decide +kernel
theorem dL_isDone_449 : decode cL_isDone 449 = .ok (.bipush 50, 2) := by decide +kernel
theorem dL_isDone_451 : decode cL_isDone 451 = .ok (.if_icmp .gt 10, 3) := by decide +kernel
theorem dL_isDone_454 : decode cL_isDone 454 = .ok (.aload_n 3, 1) := by decide +kernel
theorem dL_isDone_455 : decode cL_isDone 455 = .ok (.bipush 14, 2) := by decide +kernel
theorem dL_isDone_457 : decode cL_isDone 457 = .ok (.iaload, 1) := by decide +kernel
theorem dL_isDone_458 : decode cL_isDone 458 = .ok (.ifCond .ge 28, 3) := by decide +kernel
theorem dL_isDone_461 : decode cL_isDone 461 = .ok (.iload 15, 2) := by decide +kernel
theorem dL_isDone_463 : decode cL_isDone 463 = .ok (.iload 13, 2) := by decide +kernel
theorem dL_isDone_465 : decode cL_isDone 465 = .ok (.bipush 50, 2) := by decide +kernel
theorem dL_isDone_467 : decode cL_isDone 467 = .ok (.if_icmp .le 8, 3) := by decide +kernel
theorem dL_isDone_470 : decode cL_isDone 470 = .ok (.bipush (-20), 2) := by decide +kernel
theorem dL_isDone_472 : decode cL_isDone 472 = .ok (.goto 5, 3) := by decide +kernel
theorem dL_isDone_475 : decode cL_isDone 475 = .ok (.bipush (-10), 2) := by decide +kernel
theorem dL_isDone_477 : decode cL_isDone 477 = .ok (.if_icmp .ne 7, 3) := by decide +kernel
theorem dL_isDone_480 : decode cL_isDone 480 = .ok (.iconst 1, 1) := by decide +kernel
theorem dL_isDone_481 : decode cL_isDone 481 = .ok (.goto 4, 3) := by decide +kernel
theorem dL_isDone_484 : decode cL_isDone 484 = .ok (.iconst 0, 1) := by decide +kernel
theorem dL_isDone_485 : decode cL_isDone 485 = .ok (.ireturn, 1) := by decide +kernel
theorem dL_isDone_486 : decode cL_isDone 486 = .ok (.aload_n 3, 1) := by decide +kernel
theorem dL_isDone_487 : decode cL_isDone 487 = .ok (.bipush 14, 2) := by decide +kernel
theorem dL_isDone_489 : decode cL_isDone 489 = .ok (.dup2, 1) := by decide +kernel
theorem dL_isDone_490 : decode cL_isDone 490 = .ok (.iaload, 1) := by decide +kernel
theorem dL_isDone_491 : decode cL_isDone 491 = .ok (.iload 13, 2) := by decide +kernel
theorem dL_isDone_493 : decode cL_isDone 493 = .ok (.iadd, 1) := by decide +kernel
theorem dL_isDone_494 : decode cL_isDone 494 = .ok (.iastore, 1) := by decide +kernel
theorem dL_isDone_495 : decode cL_isDone 495 = .ok (.iload 15, 2) := by decide +kernel
theorem dL_isDone_497 : decode cL_isDone 497 = .ok (.ifCond .lt 19, 3) := by decide +kernel
theorem dL_isDone_500 : decode cL_isDone 500 = .ok (.iload 15, 2) := by decide +kernel
theorem dL_isDone_502 : decode cL_isDone 502 = .ok (.iload 14, 2) := by decide +kernel
theorem dL_isDone_504 : decode cL_isDone 504 = .ok (.aload_n 0, 1) := by decide +kernel
theorem dL_isDone_505 : decode cL_isDone 505 = .ok (.invokevirtual 93, 3) := by decide +kernel
theorem dL_isDone_508 : decode cL_isDone 508 = .ok (.isub, 1) := by decide +kernel
theorem dL_isDone_509 : decode cL_isDone 509 = .ok (.if_icmp .gt 7, 3) := by decide +kernel
theorem dL_isDone_512 : decode cL_isDone 512 = .ok (.iconst 1, 1) := by decide +kernel
theorem dL_isDone_513 : decode cL_isDone 513 = .ok (.goto 4, 3) := by decide +kernel
theorem dL_isDone_516 : decode cL_isDone 516 = .ok (.iconst 0, 1) := by decide +kernel
theorem dL_isDone_517 : decode cL_isDone 517 = .ok (.ireturn, 1) := by decide +kernel
theorem dL_isDone_518 : decode cL_isDone 518 = .ok (.iload 8, 2) := by decide +kernel
theorem dL_isDone_520 : decode cL_isDone 520 = .ok (.bipush 35, 2) := by decide +kernel
theorem dL_isDone_522 : decode cL_isDone 522 = .ok (.if_icmp .ge 39, 3) := by decide +kernel
theorem dL_isDone_525 : decode cL_isDone 525 = .ok (.aload_n 3, 1) := by decide +kernel
theorem dL_isDone_526 : decode cL_isDone 526 = .ok (.bipush 16, 2) := by decide +kernel
theorem dL_isDone_528 : decode cL_isDone 528 = .ok (.iaload, 1) := by decide +kernel
theorem dL_isDone_529 : decode cL_isDone 529 = .ok (.bipush 18, 2) := by decide +kernel
theorem dL_isDone_531 : decode cL_isDone 531 = .ok (.if_icmp .gt 24, 3) := by decide +kernel
theorem dL_isDone_534 : decode cL_isDone 534 = .ok (.aload_n 0, 1) := by decide +kernel
theorem dL_isDone_535 : decode cL_isDone 535 = .ok (.aload_n 3, 1) := by decide +kernel
theorem dL_isDone_536 : decode cL_isDone 536 = .ok (.aload 4, 2) := by decide +kernel
theorem dL_isDone_538 : decode cL_isDone 538 = .ok (.aload 5, 2) := by decide +kernel
theorem dL_isDone_540 : decode cL_isDone 540 = .ok (.iload 9, 2) := by decide +kernel
theorem dL_isDone_542 : decode cL_isDone 542 = .ok (.bipush 30, 2) := by decide +kernel
theorem dL_isDone_544 : decode cL_isDone 544 = .ok (.idiv, 1) := by decide +kernel
theorem dL_isDone_545 : decode cL_isDone 545 = .ok (.iconst 3, 1) := by decide +kernel
theorem dL_isDone_546 : decode cL_isDone 546 = .ok (.irem, 1) := by decide +kernel
theorem dL_isDone_547 : decode cL_isDone 547 = .ok (.iload 11, 2) := by decide +kernel
theorem dL_isDone_549 : decode cL_isDone 549 = .ok (.invokestatic 117, 3) := by decide +kernel
theorem dL_isDone_552 : decode cL_isDone 552 = .ok (.ifCond .eq 7, 3) := by decide +kernel
theorem dL_isDone_555 : decode cL_isDone 555 = .ok (.iconst 1, 1) := by decide +kernel
theorem dL_isDone_556 : decode cL_isDone 556 = .ok (.goto 4, 3) := by decide +kernel
theorem dL_isDone_559 : decode cL_isDone 559 = .ok (.iconst 0, 1) := by decide +kernel
theorem dL_isDone_560 : decode cL_isDone 560 = .ok (.ireturn, 1) := by decide +kernel
theorem dL_isDone_561 : decode cL_isDone 561 = .ok (.iload 8, 2) := by decide +kernel
theorem dL_isDone_563 : decode cL_isDone 563 = .ok (.bipush 37, 2) := by decide +kernel
theorem dL_isDone_565 : decode cL_isDone 565 = .ok (.if_icmp .ge 35, 3) := by decide +kernel
theorem dL_isDone_568 : decode cL_isDone 568 = .ok (.aload_n 0, 1) := by decide +kernel
theorem dL_isDone_569 : decode cL_isDone 569 = .ok (.aload_n 3, 1) := by decide +kernel
theorem dL_isDone_570 : decode cL_isDone 570 = .ok (.aload 4, 2) := by decide +kernel
theorem dL_isDone_572 : decode cL_isDone 572 = .ok (.aload 5, 2) := by decide +kernel
theorem dL_isDone_574 : decode cL_isDone 574 = .ok (.aload 6, 2) := by decide +kernel
theorem dL_isDone_576 : decode cL_isDone 576 = .ok (.iload 10, 2) := by decide +kernel
theorem dL_isDone_578 : decode cL_isDone 578 = .ok (.aload_n 3, 1) := by decide +kernel
theorem dL_isDone_579 : decode cL_isDone 579 = .ok (.bipush 14, 2) := by decide +kernel
theorem dL_isDone_581 : decode cL_isDone 581 = .ok (.iaload, 1) := by decide +kernel
theorem dL_isDone_582 : decode cL_isDone 582 = .ok (.ifCond .ge 7, 3) := by decide +kernel
theorem dL_isDone_585 : decode cL_isDone 585 = .ok (.iconst 2, 1) := by decide +kernel
theorem dL_isDone_586 : decode cL_isDone 586 = .ok (.goto 9, 3) := by decide +kernel
theorem dL_isDone_589 : decode cL_isDone 589 = .ok (.aload_n 3, 1) := by decide +kernel
theorem dL_isDone_590 : decode cL_isDone 590 = .ok (.bipush 16, 2) := by decide +kernel
theorem dL_isDone_592 : decode cL_isDone 592 = .ok (.iaload, 1) := by decide +kernel
theorem dL_isDone_593 : decode cL_isDone 593 = .ok (.iconst 1, 1) := by decide +kernel
theorem dL_isDone_594 : decode cL_isDone 594 = .ok (.iadd, 1) := by decide +kernel
theorem dL_isDone_595 : decode cL_isDone 595 = .ok (.irem, 1) := by decide +kernel
theorem dL_isDone_596 : decode cL_isDone 596 = .ok (.invokestatic 121, 3) := by decide +kernel
theorem dL_isDone_599 : decode cL_isDone 599 = .ok (.ireturn, 1) := by decide +kernel
theorem dL_isDone_600 : decode cL_isDone 600 = .ok (.iload 8, 2) := by decide +kernel
theorem dL_isDone_602 : decode cL_isDone 602 = .ok (.bipush 39, 2) := by decide +kernel
theorem dL_isDone_604 : decode cL_isDone 604 = .ok (.if_icmp .ge 15, 3) := by decide +kernel
theorem dL_isDone_607 : decode cL_isDone 607 = .ok (.aload_n 0, 1) := by decide +kernel
theorem dL_isDone_608 : decode cL_isDone 608 = .ok (.aload_n 3, 1) := by decide +kernel
theorem dL_isDone_609 : decode cL_isDone 609 = .ok (.aload 4, 2) := by decide +kernel
theorem dL_isDone_611 : decode cL_isDone 611 = .ok (.aload 6, 2) := by decide +kernel
theorem dL_isDone_613 : decode cL_isDone 613 = .ok (.aload 7, 2) := by decide +kernel
theorem dL_isDone_615 : decode cL_isDone 615 = .ok (.invokestatic 125, 3) := by decide +kernel
theorem dL_isDone_618 : decode cL_isDone 618 = .ok (.ireturn, 1) := by decide +kernel
theorem dL_isDone_619 : decode cL_isDone 619 = .ok (.aload_n 0, 1) := by decide +kernel
theorem dL_isDone_620 : decode cL_isDone 620 = .ok (.aload_n 3, 1) := by decide +kernel
theorem dL_isDone_621 : decode cL_isDone 621 = .ok (.iload 12, 2) := by decide +kernel
theorem dL_isDone_623 : decode cL_isDone 623 = .ok (.sipush 144, 3) := by decide +kernel
theorem dL_isDone_626 : decode cL_isDone 626 = .ok (.irem, 1) := by decide +kernel
theorem dL_isDone_627 : decode cL_isDone 627 = .ok (.invokestatic 129, 3) := by decide +kernel
theorem dL_isDone_630 : decode cL_isDone 630 = .ok (.ireturn, 1) := by decide +kernel
set_option maxRecDepth 20000 in
theorem ggL_law_X5_init : GoodIn wsL_law wsX5_init := goodIn_r _ [6, 7, 8, 9, 10, 11, 12, 13, 14, 15, 16, 17, 18, 19, 20, 21, 3, 22, 23, 24, 25, 26, 27, 28, 29, 30, 31, 32, 33, 34, 35, 36, 37, 38, 39, 40, 41, 42, 43, 44, 45, 46, 47, 48, 49, 50, 51, 52, 53, 54, 55, 56, 57, 58, 59, 60, 61, 62, 63, 64, 65, 66, 67, 68, 69, 70, 71, 413, 409, 410, 411, 412, 414, 415, 416, 417, 418, 419, 420, 421, 422, 423, 424, 425, 426, 427, 428, 429, 430, 431, 432, 433, 434, 435] (by decide +kernel) (by decide +kernel)
set_option maxRecDepth 20000 in
theorem gL_law_X5_init : GoodIn wsL_law (wsX5_init) := ggL_law_X5_init
set_option maxRecDepth 20000 in
theorem ggL_law_L_isRound : GoodIn wsL_law wsL_isRound := goodIn_ca (goodIn_r _ [75, 76, 77, 78, 2, 79, 17, 80, 81, 82, 16, 83, 32, 84, 85, 86, 87, 88, 89, 90, 91, 39, 62, 92, 93, 94, 74, 95, 96, 97, 98, 99, 100, 13, 101, 102, 103, 104, 105, 106, 107, 108, 12, 109, 27, 110, 111, 112, 113, 114, 115, 116, 117, 118, 119, 120, 121, 122, 123, 124, 125, 126, 127, 128, 129, 130, 131, 132, 133, 134, 135, 136, 137, 138, 139, 140, 141, 142, 33, 143, 144, 145, 146, 147, 148, 149, 150, 34, 151, 152, 153, 154, 21, 155, 156, 157, 158, 159, 160, 20, 161, 67, 162, 163, 164, 165, 166, 167, 168, 169, 68, 170, 171, 172, 173, 174, 175, 176, 177, 69, 178, 179, 180, 181, 182, 183, 184, 185, 186, 187, 188, 189, 71, 409, 410, 411, 412, 414, 415, 416, 417, 418, 419, 420, 421, 426, 427, 428, 429, 430, 413, 422, 423, 424, 425] (by decide +kernel) (by decide +kernel)) (goodIn_sub (fun _ h => List.mem_append_left _ (List.mem_append_left _ (List.mem_append_right _ h))) (by decide +kernel))
set_option maxRecDepth 20000 in
theorem gL_law_L_isRound : GoodIn wsL_law (va_wsS RL 134 yL_isRound wsL_isRound) := goodIn_app (goodIn_of _ (by decide +kernel)) ggL_law_L_isRound
