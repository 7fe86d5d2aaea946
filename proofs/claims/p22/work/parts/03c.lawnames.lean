theorem dL_isRound_0 : decode cL_isRound 0 = .ok (.aload_n 1, 1) := by decide +kernel
theorem dL_isRound_1 : decode cL_isRound 1 = .ok (.bipush 14, 2) := by decide +kernel
theorem dL_isRound_3 : decode cL_isRound 3 = .ok (.iaload, 1) := by decide +kernel
theorem dL_isRound_4 : decode cL_isRound 4 = .ok (.ifCond .lt 7, 3) := by decide +kernel
theorem dL_isRound_7 : decode cL_isRound 7 = .ok (.iconst 1, 1) := by decide +kernel
theorem dL_isRound_8 : decode cL_isRound 8 = .ok (.goto 4, 3) := by decide +kernel
theorem dL_isRound_11 : decode cL_isRound 11 = .ok (.iconst 0, 1) := by decide +kernel
theorem dL_isRound_12 : decode cL_isRound 12 = .ok (.istore_n 3, 1) := by decide +kernel
theorem dL_isRound_13 : decode cL_isRound 13 = .ok (.aload_n 0, 1) := by decide +kernel
theorem dL_isRound_14 : decode cL_isRound 14 = .ok (.invokevirtual 90, 3) := by decide +kernel
theorem dL_isRound_17 : decode cL_isRound 17 = .ok (.aload_n 1, 1) := by decide +kernel
theorem dL_isRound_18 : decode cL_isRound 18 = .ok (.bipush 14, 2) := by decide +kernel
theorem dL_isRound_20 : decode cL_isRound 20 = .ok (.iaload, 1) := by decide +kernel
theorem dL_isRound_21 : decode cL_isRound 21 = .ok (.if_icmp .ne 58, 3) := by decide +kernel
theorem dL_isRound_24 : decode cL_isRound 24 = .ok (.aload_n 0, 1) := by decide +kernel
theorem dL_isRound_25 : decode cL_isRound 25 = .ok (.invokevirtual 93, 3) := by decide +kernel
theorem dL_isRound_28 : decode cL_isRound 28 = .ok (.ifCond .lt 51, 3) := by decide +kernel
theorem dL_isRound_31 : decode cL_isRound 31 = .ok (.aload_n 0, 1) := by decide +kernel
theorem dL_isRound_32 : decode cL_isRound 32 = .ok (.invokevirtual 93, 3) := by decide +kernel
theorem dL_isRound_35 : decode cL_isRound 35 = .ok (.iload_n 3, 1) := by decide +kernel
theorem dL_isRound_36 : decode cL_isRound 36 = .ok (.ifCond .eq 10, 3) := by decide +kernel
theorem dL_isRound_39 : decode cL_isRound 39 = .ok (.aload_n 1, 1) := by decide +kernel
theorem dL_isRound_40 : decode cL_isRound 40 = .ok (.bipush 15, 2) := by decide +kernel
theorem dL_isRound_42 : decode cL_isRound 42 = .ok (.iaload, 1) := by decide +kernel
theorem dL_isRound_43 : decode cL_isRound 43 = .ok (.goto 4, 3) := by decide +kernel
theorem dL_isRound_46 : decode cL_isRound 46 = .ok (.iconst 0, 1) := by decide +kernel
theorem dL_isRound_47 : decode cL_isRound 47 = .ok (.if_icmp .gt 32, 3) := by decide +kernel
theorem dL_isRound_50 : decode cL_isRound 50 = .ok (.aload_n 0, 1) := by decide +kernel
theorem dL_isRound_51 : decode cL_isRound 51 = .ok (.iconst 2, 1) := by decide +kernel
theorem dL_isRound_52 : decode cL_isRound 52 = .ok (.bipush 6, 2) := by decide +kernel
theorem dL_isRound_54 : decode cL_isRound 54 = .ok (.iconst 0, 1) := by decide +kernel
theorem dL_isRound_55 : decode cL_isRound 55 = .ok (.invokestatic 86, 3) := by decide +kernel
theorem dL_isRound_58 : decode cL_isRound 58 = .ok (.bipush (-30), 2) := by decide +kernel
theorem dL_isRound_60 : decode cL_isRound 60 = .ok (.if_icmp .ne 19, 3) := by decide +kernel
theorem dL_isRound_63 : decode cL_isRound 63 = .ok (.aload_n 0, 1) := by decide +kernel
theorem dL_isRound_64 : decode cL_isRound 64 = .ok (.iconst 3, 1) := by decide +kernel
theorem dL_isRound_65 : decode cL_isRound 65 = .ok (.iconst (-1), 1) := by decide +kernel
theorem dL_isRound_66 : decode cL_isRound 66 = .ok (.iconst 0, 1) := by decide +kernel
theorem dL_isRound_67 : decode cL_isRound 67 = .ok (.invokestatic 86, 3) := by decide +kernel
theorem dL_isRound_70 : decode cL_isRound 70 = .ok (.bipush (-30), 2) := by decide +kernel
theorem dL_isRound_72 : decode cL_isRound 72 = .ok (.if_icmp .ne 7, 3) := by decide +kernel
theorem dL_isRound_75 : decode cL_isRound 75 = .ok (.iconst 1, 1) := by decide +kernel
theorem dL_isRound_76 : decode cL_isRound 76 = .ok (.goto 4, 3) := by decide +kernel
theorem dL_isRound_79 : decode cL_isRound 79 = .ok (.iconst 0, 1) := by decide +kernel
theorem dL_isRound_80 : decode cL_isRound 80 = .ok (.istore 4, 2) := by decide +kernel
theorem dL_isRound_82 : decode cL_isRound 82 = .ok (.iconst 0, 1) := by decide +kernel
theorem dL_isRound_83 : decode cL_isRound 83 = .ok (.istore 5, 2) := by decide +kernel
theorem dL_isRound_85 : decode cL_isRound 85 = .ok (.iload 5, 2) := by decide +kernel
theorem dL_isRound_87 : decode cL_isRound 87 = .ok (.bipush 6, 2) := by decide +kernel
theorem dL_isRound_89 : decode cL_isRound 89 = .ok (.if_icmp .ge 115, 3) := by decide +kernel
theorem dL_isRound_92 : decode cL_isRound 92 = .ok (.iload 4, 2) := by decide +kernel
theorem dL_isRound_94 : decode cL_isRound 94 = .ok (.ifCond .eq 110, 3) := by decide +kernel
theorem dL_isRound_97 : decode cL_isRound 97 = .ok (.aload_n 0, 1) := by decide +kernel
theorem dL_isRound_98 : decode cL_isRound 98 = .ok (.iload 5, 2) := by decide +kernel
theorem dL_isRound_100 : decode cL_isRound 100 = .ok (.invokevirtual 64, 3) := by decide +kernel
theorem dL_isRound_103 : decode cL_isRound 103 = .ok (.istore 6, 2) := by decide +kernel
theorem dL_isRound_105 : decode cL_isRound 105 = .ok (.aload_n 0, 1) := by decide +kernel
theorem dL_isRound_106 : decode cL_isRound 106 = .ok (.iload 5, 2) := by decide +kernel
theorem dL_isRound_108 : decode cL_isRound 108 = .ok (.invokevirtual 61, 3) := by decide +kernel
theorem dL_isRound_111 : decode cL_isRound 111 = .ok (.iload_n 3, 1) := by decide +kernel
theorem dL_isRound_112 : decode cL_isRound 112 = .ok (.ifCond .eq 10, 3) := by decide +kernel
theorem dL_isRound_115 : decode cL_isRound 115 = .ok (.aload_n 2, 1) := by decide +kernel
theorem dL_isRound_116 : decode cL_isRound 116 = .ok (.iload 5, 2) := by decide +kernel
theorem dL_isRound_118 : decode cL_isRound 118 = .ok (.iaload, 1) := by decide +kernel
theorem dL_isRound_119 : decode cL_isRound 119 = .ok (.goto 5, 3) := by decide +kernel
theorem dL_isRound_122 : decode cL_isRound 122 = .ok (.bipush (-2), 2) := by decide +kernel
theorem dL_isRound_124 : decode cL_isRound 124 = .ok (.if_icmp .ne 62, 3) := by decide +kernel
theorem dL_isRound_127 : decode cL_isRound 127 = .ok (.iload 6, 2) := by decide +kernel
theorem dL_isRound_129 : decode cL_isRound 129 = .ok (.iconst (-1), 1) := by decide +kernel
theorem dL_isRound_130 : decode cL_isRound 130 = .ok (.if_icmp .lt 56, 3) := by decide +kernel
theorem dL_isRound_133 : decode cL_isRound 133 = .ok (.iload 6, 2) := by decide +kernel
theorem dL_isRound_135 : decode cL_isRound 135 = .ok (.aload_n 1, 1) := by decide +kernel
theorem dL_isRound_136 : decode cL_isRound 136 = .ok (.bipush 14, 2) := by decide +kernel
theorem dL_isRound_138 : decode cL_isRound 138 = .ok (.iaload, 1) := by decide +kernel
theorem dL_isRound_139 : decode cL_isRound 139 = .ok (.if_icmp .gt 47, 3) := by decide +kernel
theorem dL_isRound_142 : decode cL_isRound 142 = .ok (.iload 6, 2) := by decide +kernel
theorem dL_isRound_144 : decode cL_isRound 144 = .ok (.ifCond .eq 42, 3) := by decide +kernel
theorem dL_isRound_147 : decode cL_isRound 147 = .ok (.iload_n 3, 1) := by decide +kernel
theorem dL_isRound_148 : decode cL_isRound 148 = .ok (.ifCond .eq 28, 3) := by decide +kernel
theorem dL_isRound_151 : decode cL_isRound 151 = .ok (.aload_n 2, 1) := by decide +kernel
theorem dL_isRound_152 : decode cL_isRound 152 = .ok (.bipush 6, 2) := by decide +kernel
theorem dL_isRound_154 : decode cL_isRound 154 = .ok (.iload 5, 2) := by decide +kernel
theorem dL_isRound_156 : decode cL_isRound 156 = .ok (.iadd, 1) := by decide +kernel
theorem dL_isRound_157 : decode cL_isRound 157 = .ok (.iaload, 1) := by decide +kernel
theorem dL_isRound_158 : decode cL_isRound 158 = .ok (.ifCond .lt 24, 3) := by decide +kernel
theorem dL_isRound_161 : decode cL_isRound 161 = .ok (.iload 6, 2) := by decide +kernel
theorem dL_isRound_163 : decode cL_isRound 163 = .ok (.aload_n 2, 1) := by decide +kernel
theorem dL_isRound_164 : decode cL_isRound 164 = .ok (.bipush 6, 2) := by decide +kernel
theorem dL_isRound_166 : decode cL_isRound 166 = .ok (.iload 5, 2) := by decide +kernel
theorem dL_isRound_168 : decode cL_isRound 168 = .ok (.iadd, 1) := by decide +kernel
theorem dL_isRound_169 : decode cL_isRound 169 = .ok (.iaload, 1) := by decide +kernel
theorem dL_isRound_170 : decode cL_isRound 170 = .ok (.if_icmp .ne 16, 3) := by decide +kernel
theorem dL_isRound_173 : decode cL_isRound 173 = .ok (.goto 9, 3) := by decide +kernel
theorem dL_isRound_176 : decode cL_isRound 176 = .ok (.iload 6, 2) := by decide +kernel
theorem dL_isRound_178 : decode cL_isRound 178 = .ok (.iconst (-1), 1) := by decide +kernel
theorem dL_isRound_179 : decode cL_isRound 179 = .ok (.if_icmp .ne 7, 3) := by decide +kernel
theorem dL_isRound_182 : decode cL_isRound 182 = .ok (.iconst 1, 1) := by decide +kernel
theorem dL_isRound_183 : decode cL_isRound 183 = .ok (.goto 4, 3) := by decide +kernel
theorem dL_isRound_186 : decode cL_isRound 186 = .ok (.iconst 0, 1) := by decide +kernel
theorem dL_isRound_187 : decode cL_isRound 187 = .ok (.istore 4, 2) := by decide +kernel
theorem dL_isRound_189 : decode cL_isRound 189 = .ok (.aload_n 2, 1) := by decide +kernel
theorem dL_isRound_190 : decode cL_isRound 190 = .ok (.bipush 6, 2) := by decide +kernel
theorem dL_isRound_192 : decode cL_isRound 192 = .ok (.iload 5, 2) := by decide +kernel
theorem dL_isRound_194 : decode cL_isRound 194 = .ok (.iadd, 1) := by decide +kernel
theorem dL_isRound_195 : decode cL_isRound 195 = .ok (.iload 6, 2) := by decide +kernel
theorem dL_isRound_197 : decode cL_isRound 197 = .ok (.iastore, 1) := by decide +kernel
theorem dL_isRound_198 : decode cL_isRound 198 = .ok (.iinc 5 1, 3) := by decide +kernel
theorem dL_isRound_201 : decode cL_isRound 201 = .ok (.goto (-116), 3) := by decide +kernel
theorem dL_isRound_204 : decode cL_isRound 204 = .ok (.iload 4, 2) := by decide +kernel
theorem dL_isRound_206 : decode cL_isRound 206 = .ok (.ireturn, 1) := by decide +kernel
set_option maxRecDepth 20000 in
theorem ggL_isFree_L_isBunker : GoodIn wsL_isFree wsL_isBunker := goodIn_r _ [4] (by decide +kernel) (by decide +kernel)
set_option maxRecDepth 20000 in
theorem gL_isFree_L_isBunker : GoodIn wsL_isFree (va_wsS RL 79 yL_isBunker wsL_isBunker) := goodIn_app (goodIn_of _ (by decide +kernel)) ggL_isFree_L_isBunker
theorem dL_isFree_0 : decode cL_isFree 0 = .ok (.aload_n 0, 1) := by decide +kernel
theorem dL_isFree_1 : decode cL_isFree 1 = .ok (.iload_n 2, 1) := by decide +kernel
theorem dL_isFree_2 : decode cL_isFree 2 = .ok (.invokestatic 79, 3) := by decide +kernel
theorem dL_isFree_5 : decode cL_isFree 5 = .ok (.ifCond .ne 7, 3) := by decide +kernel
theorem dL_isFree_8 : decode cL_isFree 8 = .ok (.iconst 1, 1) := by decide +kernel
theorem dL_isFree_9 : decode cL_isFree 9 = .ok (.goto 4, 3) := by decide +kernel
theorem dL_isFree_12 : decode cL_isFree 12 = .ok (.iconst 0, 1) := by decide +kernel
theorem dL_isFree_13 : decode cL_isFree 13 = .ok (.istore_n 3, 1) := by decide +kernel
theorem dL_isFree_14 : decode cL_isFree 14 = .ok (.iconst 0, 1) := by decide +kernel
theorem dL_isFree_15 : decode cL_isFree 15 = .ok (.istore 4, 2) := by decide +kernel
theorem dL_isFree_17 : decode cL_isFree 17 = .ok (.iload 4, 2) := by decide +kernel
theorem dL_isFree_19 : decode cL_isFree 19 = .ok (.bipush 6, 2) := by decide +kernel
theorem dL_isFree_21 : decode cL_isFree 21 = .ok (.if_icmp .ge 27, 3) := by decide +kernel
theorem dL_isFree_24 : decode cL_isFree 24 = .ok (.iload_n 3, 1) := by decide +kernel
theorem dL_isFree_25 : decode cL_isFree 25 = .ok (.ifCond .eq 15, 3) := by decide +kernel
theorem dL_isFree_28 : decode cL_isFree 28 = .ok (.aload_n 1, 1) := by decide +kernel
theorem dL_isFree_29 : decode cL_isFree 29 = .ok (.iload 4, 2) := by decide +kernel
theorem dL_isFree_31 : decode cL_isFree 31 = .ok (.iaload, 1) := by decide +kernel
theorem dL_isFree_32 : decode cL_isFree 32 = .ok (.iload_n 2, 1) := by decide +kernel
theorem dL_isFree_33 : decode cL_isFree 33 = .ok (.if_icmp .eq 7, 3) := by decide +kernel
theorem dL_isFree_36 : decode cL_isFree 36 = .ok (.iconst 1, 1) := by decide +kernel
theorem dL_isFree_37 : decode cL_isFree 37 = .ok (.goto 4, 3) := by decide +kernel
theorem dL_isFree_40 : decode cL_isFree 40 = .ok (.iconst 0, 1) := by decide +kernel
theorem dL_isFree_41 : decode cL_isFree 41 = .ok (.istore_n 3, 1) := by decide +kernel
theorem dL_isFree_42 : decode cL_isFree 42 = .ok (.iinc 4 1, 3) := by decide +kernel
theorem dL_isFree_45 : decode cL_isFree 45 = .ok (.goto (-28), 3) := by decide +kernel
theorem dL_isFree_48 : decode cL_isFree 48 = .ok (.iload_n 3, 1) := by decide +kernel
theorem dL_isFree_49 : decode cL_isFree 49 = .ok (.ireturn, 1) := by decide +kernel
set_option maxRecDepth 20000 in
theorem ggL_isMove_L_apart : GoodIn wsL_isMove wsL_apart := goodIn_r _ [4] (by decide +kernel) (by decide +kernel)
set_option maxRecDepth 20000 in
theorem gL_isMove_L_apart : GoodIn wsL_isMove (va_wsS RL 83 yL_apart wsL_apart) := goodIn_app (goodIn_of _ (by decide +kernel)) ggL_isMove_L_apart
set_option maxRecDepth 20000 in
theorem ggL_isMove_L_isFree : GoodIn wsL_isMove wsL_isFree := goodIn_r _ [7, 8, 9, 3, 10] (by decide +kernel) (by decide +kernel)
set_option maxRecDepth 20000 in
theorem gL_isMove_L_isFree : GoodIn wsL_isMove (va_wsS RL 96 yL_isFree wsL_isFree) := goodIn_app (goodIn_of _ (by decide +kernel)) ggL_isMove_L_isFree
set_option maxRecDepth 20000 in
theorem ggL_isMove_L_does : GoodIn wsL_isMove wsL_does := goodIn_ca (goodIn_ca (goodIn_ca (goodIn_r _ [13, 14, 15, 16, 17, 18, 19, 20, 21, 22, 23, 24, 25, 26, 27, 28, 29, 30, 31, 32, 33, 34, 35, 36, 37, 38, 39, 40, 41, 42, 43, 44, 45, 46, 47, 48, 49, 50, 51, 52, 3, 53, 54, 55, 56, 57, 58, 59, 60, 61, 62, 63, 64, 65, 66, 67, 68, 69, 70, 71, 72, 73, 74, 75, 76, 77, 78, 79, 80, 81, 82, 83, 84, 85, 86, 87, 88, 89, 90, 91, 92, 93, 94, 95, 96, 97, 98, 99, 100, 101, 102, 103, 104, 105, 106, 107, 108, 109, 110, 111, 112, 113, 114, 115, 116, 117, 118, 119, 120, 121, 122, 123, 124, 125, 126, 127, 128, 129, 130, 131, 132, 133, 134, 135, 136, 137, 138, 139, 140, 141, 142, 143, 144, 145, 146, 147, 148, 149, 150, 151, 152, 153, 154, 155, 156, 157, 158, 159, 160, 161, 162, 163, 164, 165, 166, 167, 168, 169, 170, 171, 172, 173, 174, 175, 176, 177, 178, 179, 180, 181, 182, 183, 184, 185, 186, 187, 188, 189, 190, 191, 192, 193, 194, 195, 196, 197, 198, 199, 200, 201, 202, 203, 204, 205, 206, 207, 208, 209, 210, 211, 212, 213, 214, 215, 216, 217, 218, 219, 220, 221, 222, 223, 224, 225, 226, 227, 228, 229, 230, 231, 232, 233, 234, 235, 236, 237, 238, 239, 240, 241, 242, 243, 244, 245, 246, 247, 248, 249, 250, 251, 252, 253, 254, 255, 256, 257, 258, 259, 260, 261, 262, 263, 264, 265, 266, 267, 268, 269, 270, 271, 272, 273, 274, 275, 276, 277, 278, 279, 280, 281, 282] (by decide +kernel) (by decide +kernel)) (goodIn_sub (fun _ h => List.mem_cons_of_mem _ (List.mem_append_left _ (List.mem_append_left _ (List.mem_append_right _ h)))) (by decide +kernel))) (goodIn_sub (fun _ h => List.mem_cons_of_mem _ (List.mem_append_left _ (List.mem_append_right _ h))) (by decide +kernel))) (goodIn_sub (fun _ h => List.mem_cons_of_mem _ (List.mem_append_right _ h)) (by decide +kernel))
set_option maxRecDepth 20000 in
theorem gL_isMove_L_does : GoodIn wsL_isMove (va_wsS RL 100 yL_does wsL_does) := goodIn_app (goodIn_of _ (by decide +kernel)) ggL_isMove_L_does
theorem dL_isMove_0 : decode cL_isMove 0 = .ok (.iload_n 3, 1) := by decide +kernel
theorem dL_isMove_1 : decode cL_isMove 1 = .ok (.bipush 6, 2) := by decide +kernel
theorem dL_isMove_3 : decode cL_isMove 3 = .ok (.if_icmp .ge 15, 3) := by decide +kernel
theorem dL_isMove_6 : decode cL_isMove 6 = .ok (.iload 4, 2) := by decide +kernel
theorem dL_isMove_8 : decode cL_isMove 8 = .ok (.sipush 144, 3) := by decide +kernel
theorem dL_isMove_11 : decode cL_isMove 11 = .ok (.if_icmp .ge 7, 3) := by decide +kernel
theorem dL_isMove_14 : decode cL_isMove 14 = .ok (.iconst 1, 1) := by decide +kernel
theorem dL_isMove_15 : decode cL_isMove 15 = .ok (.goto 4, 3) := by decide +kernel
theorem dL_isMove_18 : decode cL_isMove 18 = .ok (.iconst 0, 1) := by decide +kernel
theorem dL_isMove_19 : decode cL_isMove 19 = .ok (.istore 5, 2) := by decide +kernel
theorem dL_isMove_21 : decode cL_isMove 21 = .ok (.iload 5, 2) := by decide +kernel
theorem dL_isMove_23 : decode cL_isMove 23 = .ok (.ifCond .eq 51, 3) := by decide +kernel
theorem dL_isMove_26 : decode cL_isMove 26 = .ok (.aload_n 1, 1) := by decide +kernel
theorem dL_isMove_27 : decode cL_isMove 27 = .ok (.bipush 14, 2) := by decide +kernel
theorem dL_isMove_29 : decode cL_isMove 29 = .ok (.iaload, 1) := by decide +kernel
theorem dL_isMove_30 : decode cL_isMove 30 = .ok (.ifCond .lt 44, 3) := by decide +kernel
theorem dL_isMove_33 : decode cL_isMove 33 = .ok (.aload_n 2, 1) := by decide +kernel
theorem dL_isMove_34 : decode cL_isMove 34 = .ok (.iload_n 3, 1) := by decide +kernel
theorem dL_isMove_35 : decode cL_isMove 35 = .ok (.iaload, 1) := by decide +kernel
theorem dL_isMove_36 : decode cL_isMove 36 = .ok (.bipush (-2), 2) := by decide +kernel
theorem dL_isMove_38 : decode cL_isMove 38 = .ok (.if_icmp .le 36, 3) := by decide +kernel
theorem dL_isMove_41 : decode cL_isMove 41 = .ok (.aload_n 2, 1) := by decide +kernel
theorem dL_isMove_42 : decode cL_isMove 42 = .ok (.iload_n 3, 1) := by decide +kernel
theorem dL_isMove_43 : decode cL_isMove 43 = .ok (.iaload, 1) := by decide +kernel
theorem dL_isMove_44 : decode cL_isMove 44 = .ok (.iconst (-1), 1) := by decide +kernel
theorem dL_isMove_45 : decode cL_isMove 45 = .ok (.if_icmp .eq 15, 3) := by decide +kernel
theorem dL_isMove_48 : decode cL_isMove 48 = .ok (.aload_n 2, 1) := by decide +kernel
theorem dL_isMove_49 : decode cL_isMove 49 = .ok (.iload_n 3, 1) := by decide +kernel
theorem dL_isMove_50 : decode cL_isMove 50 = .ok (.iaload, 1) := by decide +kernel
theorem dL_isMove_51 : decode cL_isMove 51 = .ok (.iload 4, 2) := by decide +kernel
theorem dL_isMove_53 : decode cL_isMove 53 = .ok (.invokestatic 83, 3) := by decide +kernel
theorem dL_isMove_56 : decode cL_isMove 56 = .ok (.iconst 1, 1) := by decide +kernel
theorem dL_isMove_57 : decode cL_isMove 57 = .ok (.if_icmp .ne 17, 3) := by decide +kernel
theorem dL_isMove_60 : decode cL_isMove 60 = .ok (.aload_n 1, 1) := by decide +kernel
theorem dL_isMove_61 : decode cL_isMove 61 = .ok (.aload_n 2, 1) := by decide +kernel
theorem dL_isMove_62 : decode cL_isMove 62 = .ok (.iload 4, 2) := by decide +kernel
theorem dL_isMove_64 : decode cL_isMove 64 = .ok (.invokestatic 96, 3) := by decide +kernel
theorem dL_isMove_67 : decode cL_isMove 67 = .ok (.ifCond .eq 7, 3) := by decide +kernel
theorem dL_isMove_70 : decode cL_isMove 70 = .ok (.iconst 1, 1) := by decide +kernel
theorem dL_isMove_71 : decode cL_isMove 71 = .ok (.goto 4, 3) := by decide +kernel
theorem dL_isMove_74 : decode cL_isMove 74 = .ok (.iconst 0, 1) := by decide +kernel
theorem dL_isMove_75 : decode cL_isMove 75 = .ok (.istore 6, 2) := by decide +kernel
theorem dL_isMove_77 : decode cL_isMove 77 = .ok (.iload 5, 2) := by decide +kernel
theorem dL_isMove_79 : decode cL_isMove 79 = .ok (.ifCond .ne 8, 3) := by decide +kernel
theorem dL_isMove_82 : decode cL_isMove 82 = .ok (.bipush (-30), 2) := by decide +kernel
theorem dL_isMove_84 : decode cL_isMove 84 = .ok (.goto 16, 3) := by decide +kernel
theorem dL_isMove_87 : decode cL_isMove 87 = .ok (.iload 6, 2) := by decide +kernel
theorem dL_isMove_89 : decode cL_isMove 89 = .ok (.ifCond .eq 9, 3) := by decide +kernel
theorem dL_isMove_92 : decode cL_isMove 92 = .ok (.aload_n 2, 1) := by decide +kernel
theorem dL_isMove_93 : decode cL_isMove 93 = .ok (.iload_n 3, 1) := by decide +kernel
theorem dL_isMove_94 : decode cL_isMove 94 = .ok (.iaload, 1) := by decide +kernel
theorem dL_isMove_95 : decode cL_isMove 95 = .ok (.goto 5, 3) := by decide +kernel
theorem dL_isMove_98 : decode cL_isMove 98 = .ok (.bipush (-10), 2) := by decide +kernel
theorem dL_isMove_100 : decode cL_isMove 100 = .ok (.istore 7, 2) := by decide +kernel
theorem dL_isMove_102 : decode cL_isMove 102 = .ok (.iload 6, 2) := by decide +kernel
theorem dL_isMove_104 : decode cL_isMove 104 = .ok (.ifCond .eq 8, 3) := by decide +kernel
theorem dL_isMove_107 : decode cL_isMove 107 = .ok (.aload_n 2, 1) := by decide +kernel
theorem dL_isMove_108 : decode cL_isMove 108 = .ok (.iload_n 3, 1) := by decide +kernel
theorem dL_isMove_109 : decode cL_isMove 109 = .ok (.iload 4, 2) := by decide +kernel
theorem dL_isMove_111 : decode cL_isMove 111 = .ok (.iastore, 1) := by decide +kernel
theorem dL_isMove_112 : decode cL_isMove 112 = .ok (.aload_n 0, 1) := by decide +kernel
theorem dL_isMove_113 : decode cL_isMove 113 = .ok (.iconst 3, 1) := by decide +kernel
theorem dL_isMove_114 : decode cL_isMove 114 = .ok (.iload_n 3, 1) := by decide +kernel
theorem dL_isMove_115 : decode cL_isMove 115 = .ok (.iload 4, 2) := by decide +kernel
theorem dL_isMove_117 : decode cL_isMove 117 = .ok (.invokestatic 100, 3) := by decide +kernel
theorem dL_isMove_120 : decode cL_isMove 120 = .ok (.iload 7, 2) := by decide +kernel
theorem dL_isMove_122 : decode cL_isMove 122 = .ok (.if_icmp .ne 7, 3) := by decide +kernel
theorem dL_isMove_125 : decode cL_isMove 125 = .ok (.iconst 1, 1) := by decide +kernel
theorem dL_isMove_126 : decode cL_isMove 126 = .ok (.goto 4, 3) := by decide +kernel
theorem dL_isMove_129 : decode cL_isMove 129 = .ok (.iconst 0, 1) := by decide +kernel
theorem dL_isMove_130 : decode cL_isMove 130 = .ok (.ireturn, 1) := by decide +kernel
set_option maxRecDepth 20000 in
theorem ggL_isShot_L_apart : GoodIn wsL_isShot wsL_apart := goodIn_r _ [4] (by decide +kernel) (by decide +kernel)
set_option maxRecDepth 20000 in
theorem gL_isShot_L_apart : GoodIn wsL_isShot (va_wsS RL 83 yL_apart wsL_apart) := goodIn_app (goodIn_of _ (by decide +kernel)) ggL_isShot_L_apart
set_option maxRecDepth 20000 in
theorem ggL_isShot_X5_flying : GoodIn wsL_isShot wsX5_flying := goodIn_r _ [9, 10, 11, 12, 13, 14, 15, 16, 17, 18, 19, 258, 259, 260, 261, 262, 263, 264, 265, 266, 267, 268, 269, 270, 271, 272, 273, 274] (by decide +kernel) (by decide +kernel)
set_option maxRecDepth 20000 in
theorem gL_isShot_X5_flying : GoodIn wsL_isShot (wsV RL 93 RX5 yX5_flying wsX5_flying) := goodIn_app (goodIn_of _ (by decide +kernel)) ggL_isShot_X5_flying
set_option maxRecDepth 20000 in
theorem ggL_isShot_L_does : GoodIn wsL_isShot wsL_does := goodIn_ca (goodIn_ca (goodIn_ca (goodIn_r _ [22, 23, 24, 25, 26, 27, 28, 8, 29, 30, 31, 10, 32, 33, 34, 35, 36, 37, 38, 39, 40, 14, 41, 19, 42, 43, 44, 45, 46, 47, 48, 49, 50, 51, 52, 53, 54, 55, 56, 57, 3, 58, 59, 60, 61, 62, 63, 64, 65, 66, 67, 68, 69, 70, 71, 72, 73, 74, 75, 76, 77, 78, 79, 80, 16, 17, 81, 82, 83, 84, 85, 86, 87, 88, 89, 90, 91, 92, 93, 94, 95, 96, 97, 98, 99, 100, 101, 102, 103, 104, 105, 106, 107, 108, 109, 110, 111, 112, 113, 114, 115, 116, 117, 118, 119, 120, 121, 122, 123, 124, 125, 126, 127, 128, 129, 130, 131, 132, 133, 134, 135, 136, 137, 138, 139, 140, 141, 142, 143, 144, 145, 146, 147, 148, 149, 150, 18, 151, 152, 153, 154, 155, 156, 157, 158, 159, 160, 161, 162, 163, 164, 165, 166, 167, 168, 169, 170, 171, 172, 173, 174, 175, 176, 177, 178, 179, 180, 181, 182, 183, 184, 185, 186, 187, 188, 189, 190, 191, 192, 193, 194, 195, 196, 197, 198, 199, 200, 201, 202, 203, 204, 205, 206, 207, 208, 209, 210, 211, 212, 213, 214, 215, 216, 217, 218, 219, 220, 221, 222, 223, 224, 225, 226, 227, 228, 229, 230, 231, 232, 233, 234, 235, 236, 237, 238, 239, 240, 241, 242, 243, 244, 245, 246, 247, 248, 249, 250, 251, 252, 253, 254, 255, 256, 257, 258, 259, 260, 261, 262, 263, 264, 265, 266, 267, 268, 269, 275, 270, 271, 272, 273, 274, 276, 277, 278, 279, 280, 281, 282, 283, 284] (by decide +kernel) (by decide +kernel)) (goodIn_sub (fun _ h => List.mem_cons_of_mem _ (List.mem_append_left _ (List.mem_append_left _ (List.mem_append_right _ h)))) (by decide +kernel))) (goodIn_sub (fun _ h => List.mem_cons_of_mem _ (List.mem_append_left _ (List.mem_append_right _ h))) (by decide +kernel))) (goodIn_sub (fun _ h => List.mem_cons_of_mem _ (List.mem_append_right _ h)) (by decide +kernel))
set_option maxRecDepth 20000 in
theorem gL_isShot_L_does : GoodIn wsL_isShot (va_wsS RL 100 yL_does wsL_does) := goodIn_app (goodIn_of _ (by decide +kernel)) ggL_isShot_L_does
theorem dL_isShot_0 : decode cL_isShot 0 = .ok (.iload_n 3, 1) := by decide +kernel
theorem dL_isShot_1 : decode cL_isShot 1 = .ok (.bipush 6, 2) := by decide +kernel
theorem dL_isShot_3 : decode cL_isShot 3 = .ok (.if_icmp .ge 15, 3) := by decide +kernel
theorem dL_isShot_6 : decode cL_isShot 6 = .ok (.iload 4, 2) := by decide +kernel
theorem dL_isShot_8 : decode cL_isShot 8 = .ok (.sipush 144, 3) := by decide +kernel
theorem dL_isShot_11 : decode cL_isShot 11 = .ok (.if_icmp .ge 7, 3) := by decide +kernel
theorem dL_isShot_14 : decode cL_isShot 14 = .ok (.iconst 1, 1) := by decide +kernel
theorem dL_isShot_15 : decode cL_isShot 15 = .ok (.goto 4, 3) := by decide +kernel
theorem dL_isShot_18 : decode cL_isShot 18 = .ok (.iconst 0, 1) := by decide +kernel
theorem dL_isShot_19 : decode cL_isShot 19 = .ok (.istore 5, 2) := by decide +kernel
theorem dL_isShot_21 : decode cL_isShot 21 = .ok (.iload 5, 2) := by decide +kernel
theorem dL_isShot_23 : decode cL_isShot 23 = .ok (.ifCond .eq 50, 3) := by decide +kernel
theorem dL_isShot_26 : decode cL_isShot 26 = .ok (.aload_n 1, 1) := by decide +kernel
theorem dL_isShot_27 : decode cL_isShot 27 = .ok (.bipush 14, 2) := by decide +kernel
theorem dL_isShot_29 : decode cL_isShot 29 = .ok (.iaload, 1) := by decide +kernel
theorem dL_isShot_30 : decode cL_isShot 30 = .ok (.ifCond .lt 43, 3) := by decide +kernel
theorem dL_isShot_33 : decode cL_isShot 33 = .ok (.aload_n 2, 1) := by decide +kernel
theorem dL_isShot_34 : decode cL_isShot 34 = .ok (.iload_n 3, 1) := by decide +kernel
theorem dL_isShot_35 : decode cL_isShot 35 = .ok (.iaload, 1) := by decide +kernel
theorem dL_isShot_36 : decode cL_isShot 36 = .ok (.ifCond .lt 37, 3) := by decide +kernel
theorem dL_isShot_39 : decode cL_isShot 39 = .ok (.aload_n 2, 1) := by decide +kernel
theorem dL_isShot_40 : decode cL_isShot 40 = .ok (.bipush 12, 2) := by decide +kernel
theorem dL_isShot_42 : decode cL_isShot 42 = .ok (.iload_n 3, 1) := by decide +kernel
theorem dL_isShot_43 : decode cL_isShot 43 = .ok (.iadd, 1) := by decide +kernel
theorem dL_isShot_44 : decode cL_isShot 44 = .ok (.iaload, 1) := by decide +kernel
theorem dL_isShot_45 : decode cL_isShot 45 = .ok (.aload_n 1, 1) := by decide +kernel
theorem dL_isShot_46 : decode cL_isShot 46 = .ok (.bipush 14, 2) := by decide +kernel
theorem dL_isShot_48 : decode cL_isShot 48 = .ok (.iaload, 1) := by decide +kernel
theorem dL_isShot_49 : decode cL_isShot 49 = .ok (.if_icmp .eq 24, 3) := by decide +kernel
theorem dL_isShot_52 : decode cL_isShot 52 = .ok (.aload_n 2, 1) := by decide +kernel
theorem dL_isShot_53 : decode cL_isShot 53 = .ok (.iload_n 3, 1) := by decide +kernel
theorem dL_isShot_54 : decode cL_isShot 54 = .ok (.iaload, 1) := by decide +kernel
theorem dL_isShot_55 : decode cL_isShot 55 = .ok (.iload 4, 2) := by decide +kernel
theorem dL_isShot_57 : decode cL_isShot 57 = .ok (.if_icmp .eq 16, 3) := by decide +kernel
theorem dL_isShot_60 : decode cL_isShot 60 = .ok (.aload_n 1, 1) := by decide +kernel
theorem dL_isShot_61 : decode cL_isShot 61 = .ok (.bipush 15, 2) := by decide +kernel
theorem dL_isShot_63 : decode cL_isShot 63 = .ok (.iaload, 1) := by decide +kernel
theorem dL_isShot_64 : decode cL_isShot 64 = .ok (.bipush 100, 2) := by decide +kernel
theorem dL_isShot_66 : decode cL_isShot 66 = .ok (.if_icmp .ge 7, 3) := by decide +kernel
theorem dL_isShot_69 : decode cL_isShot 69 = .ok (.iconst 1, 1) := by decide +kernel
theorem dL_isShot_70 : decode cL_isShot 70 = .ok (.goto 4, 3) := by decide +kernel
theorem dL_isShot_73 : decode cL_isShot 73 = .ok (.iconst 0, 1) := by decide +kernel
theorem dL_isShot_74 : decode cL_isShot 74 = .ok (.istore 6, 2) := by decide +kernel
theorem dL_isShot_76 : decode cL_isShot 76 = .ok (.iload 5, 2) := by decide +kernel
theorem dL_isShot_78 : decode cL_isShot 78 = .ok (.ifCond .ne 8, 3) := by decide +kernel
theorem dL_isShot_81 : decode cL_isShot 81 = .ok (.bipush (-30), 2) := by decide +kernel
theorem dL_isShot_83 : decode cL_isShot 83 = .ok (.goto 30, 3) := by decide +kernel
theorem dL_isShot_86 : decode cL_isShot 86 = .ok (.iload 6, 2) := by decide +kernel
theorem dL_isShot_88 : decode cL_isShot 88 = .ok (.ifCond .eq 23, 3) := by decide +kernel
theorem dL_isShot_91 : decode cL_isShot 91 = .ok (.aload_n 1, 1) := by decide +kernel
theorem dL_isShot_92 : decode cL_isShot 92 = .ok (.bipush 14, 2) := by decide +kernel
theorem dL_isShot_94 : decode cL_isShot 94 = .ok (.iaload, 1) := by decide +kernel
theorem dL_isShot_95 : decode cL_isShot 95 = .ok (.aload_n 2, 1) := by decide +kernel
theorem dL_isShot_96 : decode cL_isShot 96 = .ok (.iload_n 3, 1) := by decide +kernel
theorem dL_isShot_97 : decode cL_isShot 97 = .ok (.iaload, 1) := by decide +kernel
theorem dL_isShot_98 : decode cL_isShot 98 = .ok (.iload 4, 2) := by decide +kernel
theorem dL_isShot_100 : decode cL_isShot 100 = .ok (.invokestatic 83, 3) := by decide +kernel
theorem dL_isShot_103 : decode cL_isShot 103 = .ok (.iconst 3, 1) := by decide +kernel
theorem dL_isShot_104 : decode cL_isShot 104 = .ok (.iadd, 1) := by decide +kernel
theorem dL_isShot_105 : decode cL_isShot 105 = .ok (.iconst 4, 1) := by decide +kernel
theorem dL_isShot_106 : decode cL_isShot 106 = .ok (.idiv, 1) := by decide +kernel
theorem dL_isShot_107 : decode cL_isShot 107 = .ok (.iadd, 1) := by decide +kernel
theorem dL_isShot_108 : decode cL_isShot 108 = .ok (.goto 5, 3) := by decide +kernel
theorem dL_isShot_111 : decode cL_isShot 111 = .ok (.bipush (-10), 2) := by decide +kernel
theorem dL_isShot_113 : decode cL_isShot 113 = .ok (.istore 7, 2) := by decide +kernel
theorem dL_isShot_115 : decode cL_isShot 115 = .ok (.aload_n 0, 1) := by decide +kernel
theorem dL_isShot_116 : decode cL_isShot 116 = .ok (.invokevirtual 93, 3) := by decide +kernel
theorem dL_isShot_119 : decode cL_isShot 119 = .ok (.istore 8, 2) := by decide +kernel
theorem dL_isShot_121 : decode cL_isShot 121 = .ok (.iload 6, 2) := by decide +kernel
theorem dL_isShot_123 : decode cL_isShot 123 = .ok (.ifCond .eq 21, 3) := by decide +kernel
theorem dL_isShot_126 : decode cL_isShot 126 = .ok (.aload_n 2, 1) := by decide +kernel
theorem dL_isShot_127 : decode cL_isShot 127 = .ok (.bipush 12, 2) := by decide +kernel
theorem dL_isShot_129 : decode cL_isShot 129 = .ok (.iload_n 3, 1) := by decide +kernel
theorem dL_isShot_130 : decode cL_isShot 130 = .ok (.iadd, 1) := by decide +kernel
theorem dL_isShot_131 : decode cL_isShot 131 = .ok (.aload_n 1, 1) := by decide +kernel
theorem dL_isShot_132 : decode cL_isShot 132 = .ok (.bipush 14, 2) := by decide +kernel
theorem dL_isShot_134 : decode cL_isShot 134 = .ok (.iaload, 1) := by decide +kernel
theorem dL_isShot_135 : decode cL_isShot 135 = .ok (.iastore, 1) := by decide +kernel
theorem dL_isShot_136 : decode cL_isShot 136 = .ok (.aload_n 1, 1) := by decide +kernel
theorem dL_isShot_137 : decode cL_isShot 137 = .ok (.bipush 15, 2) := by decide +kernel
theorem dL_isShot_139 : decode cL_isShot 139 = .ok (.dup2, 1) := by decide +kernel
theorem dL_isShot_140 : decode cL_isShot 140 = .ok (.iaload, 1) := by decide +kernel
theorem dL_isShot_141 : decode cL_isShot 141 = .ok (.iconst 1, 1) := by decide +kernel
theorem dL_isShot_142 : decode cL_isShot 142 = .ok (.iadd, 1) := by decide +kernel
theorem dL_isShot_143 : decode cL_isShot 143 = .ok (.iastore, 1) := by decide +kernel
theorem dL_isShot_144 : decode cL_isShot 144 = .ok (.aload_n 0, 1) := by decide +kernel
theorem dL_isShot_145 : decode cL_isShot 145 = .ok (.iconst 4, 1) := by decide +kernel
theorem dL_isShot_146 : decode cL_isShot 146 = .ok (.iload_n 3, 1) := by decide +kernel
theorem dL_isShot_147 : decode cL_isShot 147 = .ok (.iload 4, 2) := by decide +kernel
theorem dL_isShot_149 : decode cL_isShot 149 = .ok (.invokestatic 100, 3) := by decide +kernel
theorem dL_isShot_152 : decode cL_isShot 152 = .ok (.iload 7, 2) := by decide +kernel
theorem dL_isShot_154 : decode cL_isShot 154 = .ok (.if_icmp .ne 27, 3) := by decide +kernel
theorem dL_isShot_157 : decode cL_isShot 157 = .ok (.aload_n 0, 1) := by decide +kernel
theorem dL_isShot_158 : decode cL_isShot 158 = .ok (.invokevirtual 93, 3) := by decide +kernel
theorem dL_isShot_161 : decode cL_isShot 161 = .ok (.iload 8, 2) := by decide +kernel
theorem dL_isShot_163 : decode cL_isShot 163 = .ok (.iload 6, 2) := by decide +kernel
theorem dL_isShot_165 : decode cL_isShot 165 = .ok (.ifCond .eq 7, 3) := by decide +kernel
theorem dL_isShot_168 : decode cL_isShot 168 = .ok (.iconst 1, 1) := by decide +kernel
theorem dL_isShot_169 : decode cL_isShot 169 = .ok (.goto 4, 3) := by decide +kernel
theorem dL_isShot_172 : decode cL_isShot 172 = .ok (.iconst 0, 1) := by decide +kernel
theorem dL_isShot_173 : decode cL_isShot 173 = .ok (.iadd, 1) := by decide +kernel
theorem dL_isShot_174 : decode cL_isShot 174 = .ok (.if_icmp .ne 7, 3) := by decide +kernel
theorem dL_isShot_177 : decode cL_isShot 177 = .ok (.iconst 1, 1) := by decide +kernel
theorem dL_isShot_178 : decode cL_isShot 178 = .ok (.goto 4, 3) := by decide +kernel
theorem dL_isShot_181 : decode cL_isShot 181 = .ok (.iconst 0, 1) := by decide +kernel
theorem dL_isShot_182 : decode cL_isShot 182 = .ok (.ireturn, 1) := by decide +kernel
set_option maxRecDepth 20000 in
theorem ggL_isCall_X5_sees : GoodIn wsL_isCall wsX5_sees := goodIn_ca (goodIn_r _ [5, 6, 7, 8, 4, 9, 10, 11, 12, 13, 14, 15, 16, 17, 18, 19, 20, 21, 22, 23, 24, 25, 26, 27, 28, 29, 30, 251, 252, 253, 254, 255] (by decide +kernel) (by decide +kernel)) (goodIn_sub (fun _ h => List.mem_cons_of_mem _ (List.mem_append_left _ (List.mem_append_left _ (List.mem_append_right _ h)))) (by decide +kernel))
set_option maxRecDepth 20000 in
theorem gL_isCall_X5_sees : GoodIn wsL_isCall (wsV RL 54 RX5 yX5_sees wsX5_sees) := goodIn_app (goodIn_of _ (by decide +kernel)) ggL_isCall_X5_sees
set_option maxRecDepth 20000 in
theorem ggL_isCall_L_does : GoodIn wsL_isCall wsL_does := goodIn_ca (goodIn_ca (goodIn_ca (goodIn_r _ [34, 35, 36, 37, 38, 39, 40, 4, 41, 42, 43, 44, 6, 7, 8, 9, 10, 11, 45, 46, 47, 48, 49, 50, 51, 52, 53, 15, 54, 17, 55, 56, 57, 58, 59, 60, 61, 62, 63, 64, 33, 65, 66, 67, 68, 69, 70, 71, 72, 73, 74, 75, 76, 77, 78, 79, 80, 81, 82, 83, 84, 85, 86, 87, 88, 89, 90, 91, 92, 93, 94, 95, 96, 97, 98, 99, 100, 101, 102, 103, 104, 105, 106, 107, 108, 109, 28, 29, 20, 30, 22, 23, 24, 110, 111, 112, 113, 114, 115, 116, 117, 118, 119, 120, 121, 122, 123, 124, 125, 126, 127, 128, 129, 130, 131, 132, 133, 134, 135, 136, 137, 138, 139, 140, 141, 142, 143, 144, 145, 146, 147, 148, 149, 150, 151, 152, 153, 154, 155, 156, 157, 158, 159, 160, 161, 162, 13, 14, 16, 18, 19, 21, 25, 26, 27, 163, 164, 165, 166, 12, 167, 168, 169, 170, 171, 172, 173, 174, 175, 176, 177, 178, 179, 180, 181, 182, 183, 184, 185, 186, 187, 188, 189, 190, 191, 192, 193, 194, 195, 196, 197, 198, 199, 200, 201, 202, 203, 204, 205, 206, 207, 208, 209, 210, 211, 212, 213, 214, 215, 216, 217, 218, 219, 220, 221, 222, 223, 224, 225, 226, 227, 228, 229, 230, 231, 232, 233, 234, 235, 236, 237, 238, 239, 240, 241, 242, 243, 244, 245, 246, 247, 248, 249, 250, 251, 252, 253, 254, 256, 257, 258, 259, 260, 261, 262, 263, 255, 264, 265, 266, 267, 268, 269, 270, 271, 272, 273, 274, 275, 276, 277] (by decide +kernel) (by decide +kernel)) (goodIn_sub (fun _ h => List.mem_cons_of_mem _ (List.mem_append_left _ (List.mem_append_right _ h))) (by decide +kernel))) (goodIn_sub (fun _ h => List.mem_cons_of_mem _ (List.mem_append_left _ (List.mem_append_left _ (List.mem_append_right _ h)))) (by decide +kernel))) (goodIn_sub (fun _ h => List.mem_cons_of_mem _ (List.mem_append_right _ h)) (by decide +kernel))
set_option maxRecDepth 20000 in
theorem gL_isCall_L_does : GoodIn wsL_isCall (va_wsS RL 100 yL_does wsL_does) := goodIn_app (goodIn_of _ (by decide +kernel)) ggL_isCall_L_does
