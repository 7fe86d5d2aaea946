theorem dL_isSight_0 : decode cL_isSight 0 = .ok (.aload_n 0, 1) := by decide +kernel
theorem dL_isSight_1 : decode cL_isSight 1 = .ok (.iload_n 2, 1) := by decide +kernel
theorem dL_isSight_2 : decode cL_isSight 2 = .ok (.iload_n 3, 1) := by decide +kernel
theorem dL_isSight_3 : decode cL_isSight 3 = .ok (.invokevirtual 54, 3) := by decide +kernel
theorem dL_isSight_6 : decode cL_isSight 6 = .ok (.istore 4, 2) := by decide +kernel
theorem dL_isSight_8 : decode cL_isSight 8 = .ok (.aload_n 1, 1) := by decide +kernel
theorem dL_isSight_9 : decode cL_isSight 9 = .ok (.iload_n 2, 1) := by decide +kernel
theorem dL_isSight_10 : decode cL_isSight 10 = .ok (.invokestatic 79, 3) := by decide +kernel
theorem dL_isSight_13 : decode cL_isSight 13 = .ok (.ifCond .ne 15, 3) := by decide +kernel
theorem dL_isSight_16 : decode cL_isSight 16 = .ok (.aload_n 1, 1) := by decide +kernel
theorem dL_isSight_17 : decode cL_isSight 17 = .ok (.iload_n 3, 1) := by decide +kernel
theorem dL_isSight_18 : decode cL_isSight 18 = .ok (.invokestatic 79, 3) := by decide +kernel
theorem dL_isSight_21 : decode cL_isSight 21 = .ok (.ifCond .ne 7, 3) := by decide +kernel
theorem dL_isSight_24 : decode cL_isSight 24 = .ok (.iconst 1, 1) := by decide +kernel
theorem dL_isSight_25 : decode cL_isSight 25 = .ok (.goto 4, 3) := by decide +kernel
theorem dL_isSight_28 : decode cL_isSight 28 = .ok (.iconst 0, 1) := by decide +kernel
theorem dL_isSight_29 : decode cL_isSight 29 = .ok (.istore 5, 2) := by decide +kernel
theorem dL_isSight_31 : decode cL_isSight 31 = .ok (.iload_n 3, 1) := by decide +kernel
theorem dL_isSight_32 : decode cL_isSight 32 = .ok (.bipush 12, 2) := by decide +kernel
theorem dL_isSight_34 : decode cL_isSight 34 = .ok (.idiv, 1) := by decide +kernel
theorem dL_isSight_35 : decode cL_isSight 35 = .ok (.iload_n 2, 1) := by decide +kernel
theorem dL_isSight_36 : decode cL_isSight 36 = .ok (.bipush 12, 2) := by decide +kernel
theorem dL_isSight_38 : decode cL_isSight 38 = .ok (.idiv, 1) := by decide +kernel
theorem dL_isSight_39 : decode cL_isSight 39 = .ok (.isub, 1) := by decide +kernel
theorem dL_isSight_40 : decode cL_isSight 40 = .ok (.istore 6, 2) := by decide +kernel
theorem dL_isSight_42 : decode cL_isSight 42 = .ok (.iload_n 3, 1) := by decide +kernel
theorem dL_isSight_43 : decode cL_isSight 43 = .ok (.bipush 12, 2) := by decide +kernel
theorem dL_isSight_45 : decode cL_isSight 45 = .ok (.irem, 1) := by decide +kernel
theorem dL_isSight_46 : decode cL_isSight 46 = .ok (.iload_n 2, 1) := by decide +kernel
theorem dL_isSight_47 : decode cL_isSight 47 = .ok (.bipush 12, 2) := by decide +kernel
theorem dL_isSight_49 : decode cL_isSight 49 = .ok (.irem, 1) := by decide +kernel
theorem dL_isSight_50 : decode cL_isSight 50 = .ok (.isub, 1) := by decide +kernel
theorem dL_isSight_51 : decode cL_isSight 51 = .ok (.istore 7, 2) := by decide +kernel
theorem dL_isSight_53 : decode cL_isSight 53 = .ok (.iload 6, 2) := by decide +kernel
theorem dL_isSight_55 : decode cL_isSight 55 = .ok (.ifCond .eq 23, 3) := by decide +kernel
theorem dL_isSight_58 : decode cL_isSight 58 = .ok (.iload 7, 2) := by decide +kernel
theorem dL_isSight_60 : decode cL_isSight 60 = .ok (.ifCond .eq 18, 3) := by decide +kernel
theorem dL_isSight_63 : decode cL_isSight 63 = .ok (.iload 6, 2) := by decide +kernel
theorem dL_isSight_65 : decode cL_isSight 65 = .ok (.iload 7, 2) := by decide +kernel
theorem dL_isSight_67 : decode cL_isSight 67 = .ok (.if_icmp .eq 11, 3) := by decide +kernel
theorem dL_isSight_70 : decode cL_isSight 70 = .ok (.iload 6, 2) := by decide +kernel
theorem dL_isSight_72 : decode cL_isSight 72 = .ok (.iload 7, 2) := by decide +kernel
theorem dL_isSight_74 : decode cL_isSight 74 = .ok (.ineg, 1) := by decide +kernel
theorem dL_isSight_75 : decode cL_isSight 75 = .ok (.if_icmp .ne 7, 3) := by decide +kernel
theorem dL_isSight_78 : decode cL_isSight 78 = .ok (.iconst 1, 1) := by decide +kernel
theorem dL_isSight_79 : decode cL_isSight 79 = .ok (.goto 4, 3) := by decide +kernel
theorem dL_isSight_82 : decode cL_isSight 82 = .ok (.iconst 0, 1) := by decide +kernel
theorem dL_isSight_83 : decode cL_isSight 83 = .ok (.istore 8, 2) := by decide +kernel
theorem dL_isSight_85 : decode cL_isSight 85 = .ok (.iload 5, 2) := by decide +kernel
theorem dL_isSight_87 : decode cL_isSight 87 = .ok (.istore 9, 2) := by decide +kernel
theorem dL_isSight_89 : decode cL_isSight 89 = .ok (.iload_n 2, 1) := by decide +kernel
theorem dL_isSight_90 : decode cL_isSight 90 = .ok (.iload_n 3, 1) := by decide +kernel
theorem dL_isSight_91 : decode cL_isSight 91 = .ok (.invokestatic 83, 3) := by decide +kernel
theorem dL_isSight_94 : decode cL_isSight 94 = .ok (.istore 10, 2) := by decide +kernel
theorem dL_isSight_96 : decode cL_isSight 96 = .ok (.iconst 1, 1) := by decide +kernel
theorem dL_isSight_97 : decode cL_isSight 97 = .ok (.istore 11, 2) := by decide +kernel
theorem dL_isSight_99 : decode cL_isSight 99 = .ok (.iload 11, 2) := by decide +kernel
theorem dL_isSight_101 : decode cL_isSight 101 = .ok (.iload 10, 2) := by decide +kernel
theorem dL_isSight_103 : decode cL_isSight 103 = .ok (.if_icmp .ge 52, 3) := by decide +kernel
theorem dL_isSight_106 : decode cL_isSight 106 = .ok (.iload 8, 2) := by decide +kernel
theorem dL_isSight_108 : decode cL_isSight 108 = .ok (.ifCond .eq 47, 3) := by decide +kernel
theorem dL_isSight_111 : decode cL_isSight 111 = .ok (.iload 9, 2) := by decide +kernel
theorem dL_isSight_113 : decode cL_isSight 113 = .ok (.ifCond .eq 33, 3) := by decide +kernel
theorem dL_isSight_116 : decode cL_isSight 116 = .ok (.aload_n 1, 1) := by decide +kernel
theorem dL_isSight_117 : decode cL_isSight 117 = .ok (.iload_n 2, 1) := by decide +kernel
theorem dL_isSight_118 : decode cL_isSight 118 = .ok (.iload 11, 2) := by decide +kernel
theorem dL_isSight_120 : decode cL_isSight 120 = .ok (.iload 6, 2) := by decide +kernel
theorem dL_isSight_122 : decode cL_isSight 122 = .ok (.iload 10, 2) := by decide +kernel
theorem dL_isSight_124 : decode cL_isSight 124 = .ok (.idiv, 1) := by decide +kernel
theorem dL_isSight_125 : decode cL_isSight 125 = .ok (.bipush 12, 2) := by decide +kernel
theorem dL_isSight_127 : decode cL_isSight 127 = .ok (.imul, 1) := by decide +kernel
theorem dL_isSight_128 : decode cL_isSight 128 = .ok (.iload 7, 2) := by decide +kernel
theorem dL_isSight_130 : decode cL_isSight 130 = .ok (.iload 10, 2) := by decide +kernel
theorem dL_isSight_132 : decode cL_isSight 132 = .ok (.idiv, 1) := by decide +kernel
theorem dL_isSight_133 : decode cL_isSight 133 = .ok (.iadd, 1) := by decide +kernel
theorem dL_isSight_134 : decode cL_isSight 134 = .ok (.imul, 1) := by decide +kernel
theorem dL_isSight_135 : decode cL_isSight 135 = .ok (.iadd, 1) := by decide +kernel
theorem dL_isSight_136 : decode cL_isSight 136 = .ok (.invokestatic 79, 3) := by decide +kernel
theorem dL_isSight_139 : decode cL_isSight 139 = .ok (.ifCond .ne 7, 3) := by decide +kernel
theorem dL_isSight_142 : decode cL_isSight 142 = .ok (.iconst 1, 1) := by decide +kernel
theorem dL_isSight_143 : decode cL_isSight 143 = .ok (.goto 4, 3) := by decide +kernel
theorem dL_isSight_146 : decode cL_isSight 146 = .ok (.iconst 0, 1) := by decide +kernel
theorem dL_isSight_147 : decode cL_isSight 147 = .ok (.istore 9, 2) := by decide +kernel
theorem dL_isSight_149 : decode cL_isSight 149 = .ok (.iinc 11 1, 3) := by decide +kernel
theorem dL_isSight_152 : decode cL_isSight 152 = .ok (.goto (-53), 3) := by decide +kernel
theorem dL_isSight_155 : decode cL_isSight 155 = .ok (.iconst 0, 1) := by decide +kernel
theorem dL_isSight_156 : decode cL_isSight 156 = .ok (.istore 11, 2) := by decide +kernel
theorem dL_isSight_158 : decode cL_isSight 158 = .ok (.iload_n 2, 1) := by decide +kernel
theorem dL_isSight_159 : decode cL_isSight 159 = .ok (.bipush 12, 2) := by decide +kernel
theorem dL_isSight_161 : decode cL_isSight 161 = .ok (.idiv, 1) := by decide +kernel
theorem dL_isSight_162 : decode cL_isSight 162 = .ok (.iload_n 3, 1) := by decide +kernel
theorem dL_isSight_163 : decode cL_isSight 163 = .ok (.bipush 12, 2) := by decide +kernel
theorem dL_isSight_165 : decode cL_isSight 165 = .ok (.idiv, 1) := by decide +kernel
theorem dL_isSight_166 : decode cL_isSight 166 = .ok (.if_icmp .ge 10, 3) := by decide +kernel
theorem dL_isSight_169 : decode cL_isSight 169 = .ok (.iload_n 2, 1) := by decide +kernel
theorem dL_isSight_170 : decode cL_isSight 170 = .ok (.bipush 12, 2) := by decide +kernel
theorem dL_isSight_172 : decode cL_isSight 172 = .ok (.idiv, 1) := by decide +kernel
theorem dL_isSight_173 : decode cL_isSight 173 = .ok (.goto 7, 3) := by decide +kernel
theorem dL_isSight_176 : decode cL_isSight 176 = .ok (.iload_n 3, 1) := by decide +kernel
theorem dL_isSight_177 : decode cL_isSight 177 = .ok (.bipush 12, 2) := by decide +kernel
theorem dL_isSight_179 : decode cL_isSight 179 = .ok (.idiv, 1) := by decide +kernel
theorem dL_isSight_180 : decode cL_isSight 180 = .ok (.istore 12, 2) := by decide +kernel
theorem dL_isSight_182 : decode cL_isSight 182 = .ok (.iload 12, 2) := by decide +kernel
theorem dL_isSight_184 : decode cL_isSight 184 = .ok (.iload_n 2, 1) := by decide +kernel
theorem dL_isSight_185 : decode cL_isSight 185 = .ok (.bipush 12, 2) := by decide +kernel
theorem dL_isSight_187 : decode cL_isSight 187 = .ok (.idiv, 1) := by decide +kernel
theorem dL_isSight_188 : decode cL_isSight 188 = .ok (.if_icmp .le 12, 3) := by decide +kernel
theorem dL_isSight_191 : decode cL_isSight 191 = .ok (.iload 12, 2) := by decide +kernel
theorem dL_isSight_193 : decode cL_isSight 193 = .ok (.iload_n 3, 1) := by decide +kernel
theorem dL_isSight_194 : decode cL_isSight 194 = .ok (.bipush 12, 2) := by decide +kernel
theorem dL_isSight_196 : decode cL_isSight 196 = .ok (.idiv, 1) := by decide +kernel
theorem dL_isSight_197 : decode cL_isSight 197 = .ok (.if_icmp .gt 18, 3) := by decide +kernel
theorem dL_isSight_200 : decode cL_isSight 200 = .ok (.iload 11, 2) := by decide +kernel
theorem dL_isSight_202 : decode cL_isSight 202 = .ok (.aload_n 1, 1) := by decide +kernel
theorem dL_isSight_203 : decode cL_isSight 203 = .ok (.iload 12, 2) := by decide +kernel
theorem dL_isSight_205 : decode cL_isSight 205 = .ok (.iaload, 1) := by decide +kernel
theorem dL_isSight_206 : decode cL_isSight 206 = .ok (.ior, 1) := by decide +kernel
theorem dL_isSight_207 : decode cL_isSight 207 = .ok (.istore 11, 2) := by decide +kernel
theorem dL_isSight_209 : decode cL_isSight 209 = .ok (.iinc 12 1, 3) := by decide +kernel
theorem dL_isSight_212 : decode cL_isSight 212 = .ok (.goto (-30), 3) := by decide +kernel
theorem dL_isSight_215 : decode cL_isSight 215 = .ok (.iload 4, 2) := by decide +kernel
theorem dL_isSight_217 : decode cL_isSight 217 = .ok (.aload_n 0, 1) := by decide +kernel
theorem dL_isSight_218 : decode cL_isSight 218 = .ok (.iload_n 3, 1) := by decide +kernel
theorem dL_isSight_219 : decode cL_isSight 219 = .ok (.iload_n 2, 1) := by decide +kernel
theorem dL_isSight_220 : decode cL_isSight 220 = .ok (.invokevirtual 54, 3) := by decide +kernel
theorem dL_isSight_223 : decode cL_isSight 223 = .ok (.if_icmp .ne 42, 3) := by decide +kernel
theorem dL_isSight_226 : decode cL_isSight 226 = .ok (.iload 8, 2) := by decide +kernel
theorem dL_isSight_228 : decode cL_isSight 228 = .ok (.ifCond .eq 13, 3) := by decide +kernel
theorem dL_isSight_231 : decode cL_isSight 231 = .ok (.iload 4, 2) := by decide +kernel
theorem dL_isSight_233 : decode cL_isSight 233 = .ok (.iload 9, 2) := by decide +kernel
theorem dL_isSight_235 : decode cL_isSight 235 = .ok (.if_icmp .ne 30, 3) := by decide +kernel
theorem dL_isSight_238 : decode cL_isSight 238 = .ok (.goto 13, 3) := by decide +kernel
theorem dL_isSight_241 : decode cL_isSight 241 = .ok (.iload 4, 2) := by decide +kernel
theorem dL_isSight_243 : decode cL_isSight 243 = .ok (.ifCond .eq 8, 3) := by decide +kernel
theorem dL_isSight_246 : decode cL_isSight 246 = .ok (.iload 5, 2) := by decide +kernel
theorem dL_isSight_248 : decode cL_isSight 248 = .ok (.ifCond .eq 17, 3) := by decide +kernel
theorem dL_isSight_251 : decode cL_isSight 251 = .ok (.iload 11, 2) := by decide +kernel
theorem dL_isSight_253 : decode cL_isSight 253 = .ok (.ifCond .gt 8, 3) := by decide +kernel
theorem dL_isSight_256 : decode cL_isSight 256 = .ok (.iload 4, 2) := by decide +kernel
theorem dL_isSight_258 : decode cL_isSight 258 = .ok (.ifCond .eq 7, 3) := by decide +kernel
theorem dL_isSight_261 : decode cL_isSight 261 = .ok (.iconst 1, 1) := by decide +kernel
theorem dL_isSight_262 : decode cL_isSight 262 = .ok (.goto 4, 3) := by decide +kernel
theorem dL_isSight_265 : decode cL_isSight 265 = .ok (.iconst 0, 1) := by decide +kernel
theorem dL_isSight_266 : decode cL_isSight 266 = .ok (.ireturn, 1) := by decide +kernel
set_option maxRecDepth 20000 in
theorem ggL_isView_X5_sees : GoodIn wsL_isView wsX5_sees := goodIn_ca (goodIn_r _ [5, 6, 7, 8, 4, 9, 10, 11, 12, 13, 14, 15, 16, 17, 18, 19, 20, 21, 22, 23, 24, 25, 26, 27, 28, 29, 30, 44, 45, 46, 47, 48] (by decide +kernel) (by decide +kernel)) (goodIn_sub (fun _ h => List.mem_cons_of_mem _ (List.mem_append_right _ h)) (by decide +kernel))
set_option maxRecDepth 20000 in
theorem gL_isView_X5_sees : GoodIn wsL_isView (wsV RL 54 RX5 yX5_sees wsX5_sees) := goodIn_app (goodIn_of _ (by decide +kernel)) ggL_isView_X5_sees
set_option maxRecDepth 20000 in
theorem ggL_isView_X5_view : GoodIn wsL_isView wsX5_view := goodIn_ca (goodIn_r _ [34, 6, 7, 8, 4, 9, 10, 11, 35, 36, 37, 15, 38, 39, 13, 14, 16, 17, 18, 19, 20, 21, 22, 23, 24, 25, 26, 27, 28, 29, 30, 44, 45, 46, 47, 48] (by decide +kernel) (by decide +kernel)) (goodIn_sub (fun _ h => List.mem_cons_of_mem _ (List.mem_append_right _ h)) (by decide +kernel))
set_option maxRecDepth 20000 in
theorem gL_isView_X5_view : GoodIn wsL_isView (wsV RL 58 RX5 yX5_view wsX5_view) := goodIn_app (goodIn_of _ (by decide +kernel)) ggL_isView_X5_view
set_option maxRecDepth 20000 in
theorem ggL_isView_L_isBunker : GoodIn wsL_isView wsL_isBunker := goodIn_r _ [43] (by decide +kernel) (by decide +kernel)
set_option maxRecDepth 20000 in
theorem gL_isView_L_isBunker : GoodIn wsL_isView (va_wsS RL 79 yL_isBunker wsL_isBunker) := goodIn_app (goodIn_of _ (by decide +kernel)) ggL_isView_L_isBunker
theorem dL_isView_0 : decode cL_isView 0 = .ok (.iconst 0, 1) := by decide +kernel
theorem dL_isView_1 : decode cL_isView 1 = .ok (.istore_n 3, 1) := by decide +kernel
theorem dL_isView_2 : decode cL_isView 2 = .ok (.iconst 0, 1) := by decide +kernel
theorem dL_isView_3 : decode cL_isView 3 = .ok (.istore 4, 2) := by decide +kernel
theorem dL_isView_5 : decode cL_isView 5 = .ok (.iload 4, 2) := by decide +kernel
theorem dL_isView_7 : decode cL_isView 7 = .ok (.sipush 144, 3) := by decide +kernel
theorem dL_isView_10 : decode cL_isView 10 = .ok (.if_icmp .ge 27, 3) := by decide +kernel
theorem dL_isView_13 : decode cL_isView 13 = .ok (.iload_n 3, 1) := by decide +kernel
theorem dL_isView_14 : decode cL_isView 14 = .ok (.aload_n 0, 1) := by decide +kernel
theorem dL_isView_15 : decode cL_isView 15 = .ok (.iload_n 2, 1) := by decide +kernel
theorem dL_isView_16 : decode cL_isView 16 = .ok (.iload 4, 2) := by decide +kernel
theorem dL_isView_18 : decode cL_isView 18 = .ok (.invokevirtual 54, 3) := by decide +kernel
theorem dL_isView_21 : decode cL_isView 21 = .ok (.ifCond .eq 7, 3) := by decide +kernel
theorem dL_isView_24 : decode cL_isView 24 = .ok (.iconst 1, 1) := by decide +kernel
theorem dL_isView_25 : decode cL_isView 25 = .ok (.goto 4, 3) := by decide +kernel
theorem dL_isView_28 : decode cL_isView 28 = .ok (.iconst 0, 1) := by decide +kernel
theorem dL_isView_29 : decode cL_isView 29 = .ok (.iadd, 1) := by decide +kernel
theorem dL_isView_30 : decode cL_isView 30 = .ok (.istore_n 3, 1) := by decide +kernel
theorem dL_isView_31 : decode cL_isView 31 = .ok (.iinc 4 1, 3) := by decide +kernel
theorem dL_isView_34 : decode cL_isView 34 = .ok (.goto (-29), 3) := by decide +kernel
theorem dL_isView_37 : decode cL_isView 37 = .ok (.aload_n 0, 1) := by decide +kernel
theorem dL_isView_38 : decode cL_isView 38 = .ok (.iload_n 2, 1) := by decide +kernel
theorem dL_isView_39 : decode cL_isView 39 = .ok (.invokevirtual 58, 3) := by decide +kernel
theorem dL_isView_42 : decode cL_isView 42 = .ok (.iload_n 3, 1) := by decide +kernel
theorem dL_isView_43 : decode cL_isView 43 = .ok (.if_icmp .ne 24, 3) := by decide +kernel
theorem dL_isView_46 : decode cL_isView 46 = .ok (.iload_n 3, 1) := by decide +kernel
theorem dL_isView_47 : decode cL_isView 47 = .ok (.ifCond .ne 7, 3) := by decide +kernel
theorem dL_isView_50 : decode cL_isView 50 = .ok (.iconst 1, 1) := by decide +kernel
theorem dL_isView_51 : decode cL_isView 51 = .ok (.goto 4, 3) := by decide +kernel
theorem dL_isView_54 : decode cL_isView 54 = .ok (.iconst 0, 1) := by decide +kernel
theorem dL_isView_55 : decode cL_isView 55 = .ok (.aload_n 1, 1) := by decide +kernel
theorem dL_isView_56 : decode cL_isView 56 = .ok (.iload_n 2, 1) := by decide +kernel
theorem dL_isView_57 : decode cL_isView 57 = .ok (.invokestatic 79, 3) := by decide +kernel
theorem dL_isView_60 : decode cL_isView 60 = .ok (.if_icmp .ne 7, 3) := by decide +kernel
theorem dL_isView_63 : decode cL_isView 63 = .ok (.iconst 1, 1) := by decide +kernel
theorem dL_isView_64 : decode cL_isView 64 = .ok (.goto 4, 3) := by decide +kernel
theorem dL_isView_67 : decode cL_isView 67 = .ok (.iconst 0, 1) := by decide +kernel
theorem dL_isView_68 : decode cL_isView 68 = .ok (.ireturn, 1) := by decide +kernel
set_option maxRecDepth 20000 in
theorem ggL_isTable_L_asks : GoodIn wsL_isTable wsL_asks := goodIn_ca (goodIn_r _ [4, 5, 6, 7, 8, 9, 10, 11, 12, 13, 14, 15, 16, 17, 18, 19, 20, 21, 22, 23, 24, 25, 26, 27, 28, 29, 30, 31, 32, 33, 34, 35, 36, 37, 38, 39, 40, 41, 42, 43, 44, 45, 46, 47, 48, 49, 50, 51, 52, 53, 54, 55, 56, 57, 58, 59, 60, 61, 62, 63, 64, 65, 66, 67, 68, 69, 70, 71, 72, 73, 74, 75, 76, 77, 78, 79, 80, 81, 82, 83, 84, 85, 86, 87, 88, 89, 90, 91, 92, 93, 94, 95, 96, 97, 98, 99, 100, 101, 102, 103, 104, 105, 106, 107, 108, 109, 110, 111, 112, 113, 114, 115, 116, 117, 118, 119, 120, 121, 122, 123, 124, 125, 126, 127, 128, 129] (by decide +kernel) (by decide +kernel)) (goodIn_sub (fun _ h => List.mem_cons_of_mem _ (List.mem_append_right _ h)) (by decide +kernel))
set_option maxRecDepth 20000 in
theorem gL_isTable_L_asks : GoodIn wsL_isTable (va_wsS RL 86 yL_asks wsL_asks) := goodIn_app (goodIn_of _ (by decide +kernel)) ggL_isTable_L_asks
set_option maxRecDepth 20000 in
theorem ggL_isTable_X5_points : GoodIn wsL_isTable wsX5_points := goodIn_ca (goodIn_r _ [71, 72, 73, 74, 9, 75, 15, 16, 76, 77, 78, 79, 80, 81, 113, 114, 115, 116, 126, 127, 128, 129] (by decide +kernel) (by decide +kernel)) (goodIn_sub (fun _ h => List.mem_cons_of_mem _ (List.mem_append_right _ h)) (by decide +kernel))
set_option maxRecDepth 20000 in
theorem gL_isTable_X5_points : GoodIn wsL_isTable (wsV RL 67 RX5 yX5_points wsX5_points) := goodIn_app (goodIn_of _ (by decide +kernel)) ggL_isTable_X5_points
set_option maxRecDepth 20000 in
theorem ggL_isTable_X5_fines : GoodIn wsL_isTable wsX5_fines := goodIn_ca (goodIn_r _ [85, 72, 73, 74, 9, 75, 15, 16, 86, 87, 88, 79, 89, 90, 113, 114, 115, 116, 126, 127, 128, 129] (by decide +kernel) (by decide +kernel)) (goodIn_sub (fun _ h => List.mem_cons_of_mem _ (List.mem_append_right _ h)) (by decide +kernel))
set_option maxRecDepth 20000 in
theorem gL_isTable_X5_fines : GoodIn wsL_isTable (wsV RL 70 RX5 yX5_fines wsX5_fines) := goodIn_app (goodIn_of _ (by decide +kernel)) ggL_isTable_X5_fines
set_option maxRecDepth 20000 in
theorem ggL_isTable_X5_difference : GoodIn wsL_isTable wsX5_difference := goodIn_ca (goodIn_r _ [94, 72, 73, 74, 9, 75, 15, 16, 95, 96, 97, 79, 98, 99, 113, 114, 115, 116, 126, 127, 128, 129] (by decide +kernel) (by decide +kernel)) (goodIn_sub (fun _ h => List.mem_cons_of_mem _ (List.mem_append_right _ h)) (by decide +kernel))
set_option maxRecDepth 20000 in
theorem gL_isTable_X5_difference : GoodIn wsL_isTable (wsV RL 73 RX5 yX5_difference wsX5_difference) := goodIn_app (goodIn_of _ (by decide +kernel)) ggL_isTable_X5_difference
set_option maxRecDepth 20000 in
theorem ggL_isTable_X5_place : GoodIn wsL_isTable wsX5_place := goodIn_ca (goodIn_r _ [103, 72, 73, 74, 9, 75, 15, 16, 104, 105, 106, 79, 107, 108, 109, 110, 111, 81, 112, 99, 113, 114, 115, 116, 126, 127, 128, 129] (by decide +kernel) (by decide +kernel)) (goodIn_sub (fun _ h => List.mem_cons_of_mem _ (List.mem_append_right _ h)) (by decide +kernel))
set_option maxRecDepth 20000 in
theorem gL_isTable_X5_place : GoodIn wsL_isTable (wsV RL 76 RX5 yX5_place wsX5_place) := goodIn_app (goodIn_of _ (by decide +kernel)) ggL_isTable_X5_place
theorem dL_isTable_0 : decode cL_isTable 0 = .ok (.aload_n 0, 1) := by decide +kernel
theorem dL_isTable_1 : decode cL_isTable 1 = .ok (.iconst 4, 1) := by decide +kernel
theorem dL_isTable_2 : decode cL_isTable 2 = .ok (.bipush 6, 2) := by decide +kernel
theorem dL_isTable_4 : decode cL_isTable 4 = .ok (.iconst 0, 1) := by decide +kernel
theorem dL_isTable_5 : decode cL_isTable 5 = .ok (.invokestatic 86, 3) := by decide +kernel
theorem dL_isTable_8 : decode cL_isTable 8 = .ok (.bipush (-30), 2) := by decide +kernel
theorem dL_isTable_10 : decode cL_isTable 10 = .ok (.if_icmp .ne 46, 3) := by decide +kernel
theorem dL_isTable_13 : decode cL_isTable 13 = .ok (.aload_n 0, 1) := by decide +kernel
theorem dL_isTable_14 : decode cL_isTable 14 = .ok (.iconst 5, 1) := by decide +kernel
theorem dL_isTable_15 : decode cL_isTable 15 = .ok (.iconst (-1), 1) := by decide +kernel
theorem dL_isTable_16 : decode cL_isTable 16 = .ok (.iconst 0, 1) := by decide +kernel
theorem dL_isTable_17 : decode cL_isTable 17 = .ok (.invokestatic 86, 3) := by decide +kernel
theorem dL_isTable_20 : decode cL_isTable 20 = .ok (.bipush (-30), 2) := by decide +kernel
theorem dL_isTable_22 : decode cL_isTable 22 = .ok (.if_icmp .ne 34, 3) := by decide +kernel
theorem dL_isTable_25 : decode cL_isTable 25 = .ok (.aload_n 0, 1) := by decide +kernel
theorem dL_isTable_26 : decode cL_isTable 26 = .ok (.bipush 6, 2) := by decide +kernel
theorem dL_isTable_28 : decode cL_isTable 28 = .ok (.bipush 6, 2) := by decide +kernel
theorem dL_isTable_30 : decode cL_isTable 30 = .ok (.iconst 0, 1) := by decide +kernel
theorem dL_isTable_31 : decode cL_isTable 31 = .ok (.invokestatic 86, 3) := by decide +kernel
theorem dL_isTable_34 : decode cL_isTable 34 = .ok (.bipush (-30), 2) := by decide +kernel
theorem dL_isTable_36 : decode cL_isTable 36 = .ok (.if_icmp .ne 20, 3) := by decide +kernel
theorem dL_isTable_39 : decode cL_isTable 39 = .ok (.aload_n 0, 1) := by decide +kernel
theorem dL_isTable_40 : decode cL_isTable 40 = .ok (.bipush 7, 2) := by decide +kernel
theorem dL_isTable_42 : decode cL_isTable 42 = .ok (.iconst (-1), 1) := by decide +kernel
theorem dL_isTable_43 : decode cL_isTable 43 = .ok (.iconst 0, 1) := by decide +kernel
theorem dL_isTable_44 : decode cL_isTable 44 = .ok (.invokestatic 86, 3) := by decide +kernel
theorem dL_isTable_47 : decode cL_isTable 47 = .ok (.bipush (-30), 2) := by decide +kernel
theorem dL_isTable_49 : decode cL_isTable 49 = .ok (.if_icmp .ne 7, 3) := by decide +kernel
theorem dL_isTable_52 : decode cL_isTable 52 = .ok (.iconst 1, 1) := by decide +kernel
theorem dL_isTable_53 : decode cL_isTable 53 = .ok (.goto 4, 3) := by decide +kernel
theorem dL_isTable_56 : decode cL_isTable 56 = .ok (.iconst 0, 1) := by decide +kernel
theorem dL_isTable_57 : decode cL_isTable 57 = .ok (.istore_n 3, 1) := by decide +kernel
theorem dL_isTable_58 : decode cL_isTable 58 = .ok (.iconst 0, 1) := by decide +kernel
theorem dL_isTable_59 : decode cL_isTable 59 = .ok (.istore 4, 2) := by decide +kernel
theorem dL_isTable_61 : decode cL_isTable 61 = .ok (.iload 4, 2) := by decide +kernel
theorem dL_isTable_63 : decode cL_isTable 63 = .ok (.bipush 6, 2) := by decide +kernel
theorem dL_isTable_65 : decode cL_isTable 65 = .ok (.if_icmp .ge 214, 3) := by decide +kernel
theorem dL_isTable_68 : decode cL_isTable 68 = .ok (.iload_n 3, 1) := by decide +kernel
theorem dL_isTable_69 : decode cL_isTable 69 = .ok (.ifCond .eq 210, 3) := by decide +kernel
theorem dL_isTable_72 : decode cL_isTable 72 = .ok (.iconst 1, 1) := by decide +kernel
theorem dL_isTable_73 : decode cL_isTable 73 = .ok (.istore 5, 2) := by decide +kernel
theorem dL_isTable_75 : decode cL_isTable 75 = .ok (.iconst 0, 1) := by decide +kernel
theorem dL_isTable_76 : decode cL_isTable 76 = .ok (.istore 6, 2) := by decide +kernel
theorem dL_isTable_78 : decode cL_isTable 78 = .ok (.iload 6, 2) := by decide +kernel
theorem dL_isTable_80 : decode cL_isTable 80 = .ok (.bipush 6, 2) := by decide +kernel
theorem dL_isTable_82 : decode cL_isTable 82 = .ok (.if_icmp .ge 125, 3) := by decide +kernel
theorem dL_isTable_85 : decode cL_isTable 85 = .ok (.aload_n 1, 1) := by decide +kernel
theorem dL_isTable_86 : decode cL_isTable 86 = .ok (.iconst 3, 1) := by decide +kernel
theorem dL_isTable_87 : decode cL_isTable 87 = .ok (.iload 6, 2) := by decide +kernel
theorem dL_isTable_89 : decode cL_isTable 89 = .ok (.imul, 1) := by decide +kernel
theorem dL_isTable_90 : decode cL_isTable 90 = .ok (.iaload, 1) := by decide +kernel
theorem dL_isTable_91 : decode cL_isTable 91 = .ok (.aload_n 1, 1) := by decide +kernel
theorem dL_isTable_92 : decode cL_isTable 92 = .ok (.iconst 3, 1) := by decide +kernel
theorem dL_isTable_93 : decode cL_isTable 93 = .ok (.iload 4, 2) := by decide +kernel
theorem dL_isTable_95 : decode cL_isTable 95 = .ok (.imul, 1) := by decide +kernel
theorem dL_isTable_96 : decode cL_isTable 96 = .ok (.iaload, 1) := by decide +kernel
theorem dL_isTable_97 : decode cL_isTable 97 = .ok (.isub, 1) := by decide +kernel
theorem dL_isTable_98 : decode cL_isTable 98 = .ok (.istore 7, 2) := by decide +kernel
theorem dL_isTable_100 : decode cL_isTable 100 = .ok (.aload_n 2, 1) := by decide +kernel
theorem dL_isTable_101 : decode cL_isTable 101 = .ok (.bipush 6, 2) := by decide +kernel
theorem dL_isTable_103 : decode cL_isTable 103 = .ok (.iload 6, 2) := by decide +kernel
theorem dL_isTable_105 : decode cL_isTable 105 = .ok (.imul, 1) := by decide +kernel
theorem dL_isTable_106 : decode cL_isTable 106 = .ok (.iload 4, 2) := by decide +kernel
theorem dL_isTable_108 : decode cL_isTable 108 = .ok (.iadd, 1) := by decide +kernel
theorem dL_isTable_109 : decode cL_isTable 109 = .ok (.iaload, 1) := by decide +kernel
theorem dL_isTable_110 : decode cL_isTable 110 = .ok (.aload_n 2, 1) := by decide +kernel
theorem dL_isTable_111 : decode cL_isTable 111 = .ok (.bipush 6, 2) := by decide +kernel
theorem dL_isTable_113 : decode cL_isTable 113 = .ok (.iload 4, 2) := by decide +kernel
theorem dL_isTable_115 : decode cL_isTable 115 = .ok (.imul, 1) := by decide +kernel
theorem dL_isTable_116 : decode cL_isTable 116 = .ok (.iload 6, 2) := by decide +kernel
theorem dL_isTable_118 : decode cL_isTable 118 = .ok (.iadd, 1) := by decide +kernel
theorem dL_isTable_119 : decode cL_isTable 119 = .ok (.iaload, 1) := by decide +kernel
theorem dL_isTable_120 : decode cL_isTable 120 = .ok (.isub, 1) := by decide +kernel
theorem dL_isTable_121 : decode cL_isTable 121 = .ok (.istore 8, 2) := by decide +kernel
theorem dL_isTable_123 : decode cL_isTable 123 = .ok (.aload_n 1, 1) := by decide +kernel
theorem dL_isTable_124 : decode cL_isTable 124 = .ok (.iconst 3, 1) := by decide +kernel
theorem dL_isTable_125 : decode cL_isTable 125 = .ok (.iload 6, 2) := by decide +kernel
theorem dL_isTable_127 : decode cL_isTable 127 = .ok (.imul, 1) := by decide +kernel
theorem dL_isTable_128 : decode cL_isTable 128 = .ok (.iconst 2, 1) := by decide +kernel
theorem dL_isTable_129 : decode cL_isTable 129 = .ok (.iadd, 1) := by decide +kernel
theorem dL_isTable_130 : decode cL_isTable 130 = .ok (.iaload, 1) := by decide +kernel
theorem dL_isTable_131 : decode cL_isTable 131 = .ok (.aload_n 1, 1) := by decide +kernel
theorem dL_isTable_132 : decode cL_isTable 132 = .ok (.iconst 3, 1) := by decide +kernel
theorem dL_isTable_133 : decode cL_isTable 133 = .ok (.iload 4, 2) := by decide +kernel
theorem dL_isTable_135 : decode cL_isTable 135 = .ok (.imul, 1) := by decide +kernel
theorem dL_isTable_136 : decode cL_isTable 136 = .ok (.iconst 2, 1) := by decide +kernel
theorem dL_isTable_137 : decode cL_isTable 137 = .ok (.iadd, 1) := by decide +kernel
theorem dL_isTable_138 : decode cL_isTable 138 = .ok (.iaload, 1) := by decide +kernel
theorem dL_isTable_139 : decode cL_isTable 139 = .ok (.isub, 1) := by decide +kernel
theorem dL_isTable_140 : decode cL_isTable 140 = .ok (.istore 9, 2) := by decide +kernel
theorem dL_isTable_142 : decode cL_isTable 142 = .ok (.iload 7, 2) := by decide +kernel
theorem dL_isTable_144 : decode cL_isTable 144 = .ok (.ifCond .gt 35, 3) := by decide +kernel
theorem dL_isTable_147 : decode cL_isTable 147 = .ok (.iload 7, 2) := by decide +kernel
theorem dL_isTable_149 : decode cL_isTable 149 = .ok (.ifCond .ne 34, 3) := by decide +kernel
theorem dL_isTable_152 : decode cL_isTable 152 = .ok (.iload 8, 2) := by decide +kernel
theorem dL_isTable_154 : decode cL_isTable 154 = .ok (.ifCond .gt 25, 3) := by decide +kernel
theorem dL_isTable_157 : decode cL_isTable 157 = .ok (.iload 8, 2) := by decide +kernel
theorem dL_isTable_159 : decode cL_isTable 159 = .ok (.ifCond .ne 24, 3) := by decide +kernel
theorem dL_isTable_162 : decode cL_isTable 162 = .ok (.iload 9, 2) := by decide +kernel
theorem dL_isTable_164 : decode cL_isTable 164 = .ok (.ifCond .gt 15, 3) := by decide +kernel
theorem dL_isTable_167 : decode cL_isTable 167 = .ok (.iload 9, 2) := by decide +kernel
theorem dL_isTable_169 : decode cL_isTable 169 = .ok (.ifCond .ne 14, 3) := by decide +kernel
theorem dL_isTable_172 : decode cL_isTable 172 = .ok (.iload 6, 2) := by decide +kernel
theorem dL_isTable_174 : decode cL_isTable 174 = .ok (.iload 4, 2) := by decide +kernel
theorem dL_isTable_176 : decode cL_isTable 176 = .ok (.if_icmp .ge 7, 3) := by decide +kernel
theorem dL_isTable_179 : decode cL_isTable 179 = .ok (.iconst 1, 1) := by decide +kernel
theorem dL_isTable_180 : decode cL_isTable 180 = .ok (.goto 4, 3) := by decide +kernel
theorem dL_isTable_183 : decode cL_isTable 183 = .ok (.iconst 0, 1) := by decide +kernel
theorem dL_isTable_184 : decode cL_isTable 184 = .ok (.istore 10, 2) := by decide +kernel
theorem dL_isTable_186 : decode cL_isTable 186 = .ok (.iload 5, 2) := by decide +kernel
theorem dL_isTable_188 : decode cL_isTable 188 = .ok (.iload 10, 2) := by decide +kernel
theorem dL_isTable_190 : decode cL_isTable 190 = .ok (.ifCond .eq 7, 3) := by decide +kernel
theorem dL_isTable_193 : decode cL_isTable 193 = .ok (.iconst 1, 1) := by decide +kernel
theorem dL_isTable_194 : decode cL_isTable 194 = .ok (.goto 4, 3) := by decide +kernel
theorem dL_isTable_197 : decode cL_isTable 197 = .ok (.iconst 0, 1) := by decide +kernel
theorem dL_isTable_198 : decode cL_isTable 198 = .ok (.iadd, 1) := by decide +kernel
theorem dL_isTable_199 : decode cL_isTable 199 = .ok (.istore 5, 2) := by decide +kernel
theorem dL_isTable_201 : decode cL_isTable 201 = .ok (.iinc 6 1, 3) := by decide +kernel
theorem dL_isTable_204 : decode cL_isTable 204 = .ok (.goto (-126), 3) := by decide +kernel
theorem dL_isTable_207 : decode cL_isTable 207 = .ok (.aload_n 0, 1) := by decide +kernel
theorem dL_isTable_208 : decode cL_isTable 208 = .ok (.iload 4, 2) := by decide +kernel
theorem dL_isTable_210 : decode cL_isTable 210 = .ok (.invokevirtual 67, 3) := by decide +kernel
theorem dL_isTable_213 : decode cL_isTable 213 = .ok (.aload_n 1, 1) := by decide +kernel
theorem dL_isTable_214 : decode cL_isTable 214 = .ok (.iconst 3, 1) := by decide +kernel
theorem dL_isTable_215 : decode cL_isTable 215 = .ok (.iload 4, 2) := by decide +kernel
theorem dL_isTable_217 : decode cL_isTable 217 = .ok (.imul, 1) := by decide +kernel
theorem dL_isTable_218 : decode cL_isTable 218 = .ok (.iaload, 1) := by decide +kernel
theorem dL_isTable_219 : decode cL_isTable 219 = .ok (.if_icmp .ne 52, 3) := by decide +kernel
theorem dL_isTable_222 : decode cL_isTable 222 = .ok (.aload_n 0, 1) := by decide +kernel
theorem dL_isTable_223 : decode cL_isTable 223 = .ok (.iload 4, 2) := by decide +kernel
theorem dL_isTable_225 : decode cL_isTable 225 = .ok (.invokevirtual 70, 3) := by decide +kernel
theorem dL_isTable_228 : decode cL_isTable 228 = .ok (.aload_n 1, 1) := by decide +kernel
theorem dL_isTable_229 : decode cL_isTable 229 = .ok (.iconst 3, 1) := by decide +kernel
theorem dL_isTable_230 : decode cL_isTable 230 = .ok (.iload 4, 2) := by decide +kernel
theorem dL_isTable_232 : decode cL_isTable 232 = .ok (.imul, 1) := by decide +kernel
theorem dL_isTable_233 : decode cL_isTable 233 = .ok (.iconst 1, 1) := by decide +kernel
theorem dL_isTable_234 : decode cL_isTable 234 = .ok (.iadd, 1) := by decide +kernel
theorem dL_isTable_235 : decode cL_isTable 235 = .ok (.iaload, 1) := by decide +kernel
theorem dL_isTable_236 : decode cL_isTable 236 = .ok (.if_icmp .ne 35, 3) := by decide +kernel
theorem dL_isTable_239 : decode cL_isTable 239 = .ok (.aload_n 0, 1) := by decide +kernel
theorem dL_isTable_240 : decode cL_isTable 240 = .ok (.iload 4, 2) := by decide +kernel
theorem dL_isTable_242 : decode cL_isTable 242 = .ok (.invokevirtual 73, 3) := by decide +kernel
theorem dL_isTable_245 : decode cL_isTable 245 = .ok (.aload_n 1, 1) := by decide +kernel
theorem dL_isTable_246 : decode cL_isTable 246 = .ok (.iconst 3, 1) := by decide +kernel
theorem dL_isTable_247 : decode cL_isTable 247 = .ok (.iload 4, 2) := by decide +kernel
theorem dL_isTable_249 : decode cL_isTable 249 = .ok (.imul, 1) := by decide +kernel
theorem dL_isTable_250 : decode cL_isTable 250 = .ok (.iconst 2, 1) := by decide +kernel
theorem dL_isTable_251 : decode cL_isTable 251 = .ok (.iadd, 1) := by decide +kernel
theorem dL_isTable_252 : decode cL_isTable 252 = .ok (.iaload, 1) := by decide +kernel
theorem dL_isTable_253 : decode cL_isTable 253 = .ok (.if_icmp .ne 18, 3) := by decide +kernel
theorem dL_isTable_256 : decode cL_isTable 256 = .ok (.aload_n 0, 1) := by decide +kernel
theorem dL_isTable_257 : decode cL_isTable 257 = .ok (.iload 4, 2) := by decide +kernel
theorem dL_isTable_259 : decode cL_isTable 259 = .ok (.invokevirtual 76, 3) := by decide +kernel
theorem dL_isTable_262 : decode cL_isTable 262 = .ok (.iload 5, 2) := by decide +kernel
theorem dL_isTable_264 : decode cL_isTable 264 = .ok (.if_icmp .ne 7, 3) := by decide +kernel
theorem dL_isTable_267 : decode cL_isTable 267 = .ok (.iconst 1, 1) := by decide +kernel
theorem dL_isTable_268 : decode cL_isTable 268 = .ok (.goto 4, 3) := by decide +kernel
theorem dL_isTable_271 : decode cL_isTable 271 = .ok (.iconst 0, 1) := by decide +kernel
theorem dL_isTable_272 : decode cL_isTable 272 = .ok (.istore_n 3, 1) := by decide +kernel
theorem dL_isTable_273 : decode cL_isTable 273 = .ok (.iinc 4 1, 3) := by decide +kernel
theorem dL_isTable_276 : decode cL_isTable 276 = .ok (.goto (-215), 3) := by decide +kernel
theorem dL_isTable_279 : decode cL_isTable 279 = .ok (.iload_n 3, 1) := by decide +kernel
theorem dL_isTable_280 : decode cL_isTable 280 = .ok (.ireturn, 1) := by decide +kernel
set_option maxRecDepth 20000 in
theorem ggL_isRound_X5_tick : GoodIn wsL_isRound wsX5_tick := goodIn_r _ [5, 6, 7, 8, 9, 10, 11, 12, 133, 134, 135, 136, 137, 138, 139, 140, 141, 142, 143, 144] (by decide +kernel) (by decide +kernel)
set_option maxRecDepth 20000 in
theorem gL_isRound_X5_tick : GoodIn wsL_isRound (wsV RL 90 RX5 yX5_tick wsX5_tick) := goodIn_app (goodIn_of _ (by decide +kernel)) ggL_isRound_X5_tick
set_option maxRecDepth 20000 in
theorem ggL_isRound_X5_flying : GoodIn wsL_isRound wsX5_flying := goodIn_r _ [16, 6, 17, 18, 19, 10, 20, 21, 22, 23, 12, 133, 134, 135, 136, 137, 138, 139, 140, 141, 142, 143, 144, 145, 146, 147, 148, 149] (by decide +kernel) (by decide +kernel)
set_option maxRecDepth 20000 in
theorem gL_isRound_X5_flying : GoodIn wsL_isRound (wsV RL 93 RX5 yX5_flying wsX5_flying) := goodIn_app (goodIn_of _ (by decide +kernel)) ggL_isRound_X5_flying
set_option maxRecDepth 20000 in
theorem ggL_isRound_L_asks : GoodIn wsL_isRound wsL_asks := goodIn_ca (goodIn_r _ [27, 28, 29, 30, 31, 4, 32, 33, 34, 35, 36, 37, 38, 39, 40, 41, 42, 43, 44, 45, 46, 47, 48, 49, 50, 51, 52, 53, 54, 55, 56, 57, 58, 59, 60, 61, 62, 63, 64, 65, 66, 67, 68, 69, 70, 6, 71, 72, 73, 74, 75, 76, 10, 77, 78, 79, 80, 81, 82, 83, 84, 85, 86, 87, 88, 89, 90, 91, 92, 93, 94, 95, 96, 97, 98, 99, 100, 101, 102, 103, 104, 105, 106, 107, 108, 109, 110, 111, 112, 113, 114, 115, 116, 117, 118, 119, 120, 121, 122, 123, 124, 125, 126, 127, 128, 129, 130, 131, 132, 133, 134, 135, 136, 150, 137, 138, 139, 140, 141, 142, 143, 144, 151, 152, 153, 154] (by decide +kernel) (by decide +kernel)) (goodIn_sub (fun _ h => List.mem_cons_of_mem _ (List.mem_append_right _ h)) (by decide +kernel))
set_option maxRecDepth 20000 in
theorem gL_isRound_L_asks : GoodIn wsL_isRound (va_wsS RL 86 yL_asks wsL_asks) := goodIn_app (goodIn_of _ (by decide +kernel)) ggL_isRound_L_asks
set_option maxRecDepth 20000 in
theorem ggL_isRound_X5_hit : GoodIn wsL_isRound wsX5_hit := goodIn_ca (goodIn_r _ [82, 6, 71, 72, 4, 73, 37, 38, 83, 84, 85, 10, 86, 87, 133, 134, 135, 136, 137, 138, 139, 140, 141, 142, 143, 144] (by decide +kernel) (by decide +kernel)) (goodIn_sub (fun _ h => List.mem_cons_of_mem _ (List.mem_append_right _ h)) (by decide +kernel))
set_option maxRecDepth 20000 in
theorem gL_isRound_X5_hit : GoodIn wsL_isRound (wsV RL 64 RX5 yX5_hit wsX5_hit) := goodIn_app (goodIn_of _ (by decide +kernel)) ggL_isRound_X5_hit
set_option maxRecDepth 20000 in
theorem ggL_isRound_X5_where : GoodIn wsL_isRound wsX5_where := goodIn_ca (goodIn_r _ [70, 6, 71, 72, 4, 73, 37, 38, 74, 75, 76, 10, 77, 78, 133, 134, 135, 136, 137, 138, 139, 140, 141, 142, 143, 144] (by decide +kernel) (by decide +kernel)) (goodIn_sub (fun _ h => List.mem_cons_of_mem _ (List.mem_append_right _ h)) (by decide +kernel))
set_option maxRecDepth 20000 in
theorem gL_isRound_X5_where : GoodIn wsL_isRound (wsV RL 61 RX5 yX5_where wsX5_where) := goodIn_app (goodIn_of _ (by decide +kernel)) ggL_isRound_X5_where
