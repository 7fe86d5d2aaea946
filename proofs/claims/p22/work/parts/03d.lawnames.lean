theorem dL_isCall_0 : decode cL_isCall 0 = .ok (.iload 4, 2) := by decide +kernel
theorem dL_isCall_2 : decode cL_isCall 2 = .ok (.iconst 2, 1) := by decide +kernel
theorem dL_isCall_3 : decode cL_isCall 3 = .ok (.if_icmp .ge 14, 3) := by decide +kernel
theorem dL_isCall_6 : decode cL_isCall 6 = .ok (.iload 5, 2) := by decide +kernel
theorem dL_isCall_8 : decode cL_isCall 8 = .ok (.bipush 6, 2) := by decide +kernel
theorem dL_isCall_10 : decode cL_isCall 10 = .ok (.if_icmp .ge 7, 3) := by decide +kernel
theorem dL_isCall_13 : decode cL_isCall 13 = .ok (.iconst 1, 1) := by decide +kernel
theorem dL_isCall_14 : decode cL_isCall 14 = .ok (.goto 4, 3) := by decide +kernel
theorem dL_isCall_17 : decode cL_isCall 17 = .ok (.iconst 0, 1) := by decide +kernel
theorem dL_isCall_18 : decode cL_isCall 18 = .ok (.istore 6, 2) := by decide +kernel
theorem dL_isCall_20 : decode cL_isCall 20 = .ok (.iload 6, 2) := by decide +kernel
theorem dL_isCall_22 : decode cL_isCall 22 = .ok (.ifCond .eq 39, 3) := by decide +kernel
theorem dL_isCall_25 : decode cL_isCall 25 = .ok (.aload_n 1, 1) := by decide +kernel
theorem dL_isCall_26 : decode cL_isCall 26 = .ok (.bipush 14, 2) := by decide +kernel
theorem dL_isCall_28 : decode cL_isCall 28 = .ok (.iaload, 1) := by decide +kernel
theorem dL_isCall_29 : decode cL_isCall 29 = .ok (.ifCond .lt 32, 3) := by decide +kernel
theorem dL_isCall_32 : decode cL_isCall 32 = .ok (.aload_n 2, 1) := by decide +kernel
theorem dL_isCall_33 : decode cL_isCall 33 = .ok (.iload 5, 2) := by decide +kernel
theorem dL_isCall_35 : decode cL_isCall 35 = .ok (.iaload, 1) := by decide +kernel
theorem dL_isCall_36 : decode cL_isCall 36 = .ok (.ifCond .lt 25, 3) := by decide +kernel
theorem dL_isCall_39 : decode cL_isCall 39 = .ok (.aload_n 0, 1) := by decide +kernel
theorem dL_isCall_40 : decode cL_isCall 40 = .ok (.aload_n 1, 1) := by decide +kernel
theorem dL_isCall_41 : decode cL_isCall 41 = .ok (.bipush 12, 2) := by decide +kernel
theorem dL_isCall_43 : decode cL_isCall 43 = .ok (.iload 4, 2) := by decide +kernel
theorem dL_isCall_45 : decode cL_isCall 45 = .ok (.iadd, 1) := by decide +kernel
theorem dL_isCall_46 : decode cL_isCall 46 = .ok (.iaload, 1) := by decide +kernel
theorem dL_isCall_47 : decode cL_isCall 47 = .ok (.aload_n 2, 1) := by decide +kernel
theorem dL_isCall_48 : decode cL_isCall 48 = .ok (.iload 5, 2) := by decide +kernel
theorem dL_isCall_50 : decode cL_isCall 50 = .ok (.iaload, 1) := by decide +kernel
theorem dL_isCall_51 : decode cL_isCall 51 = .ok (.invokevirtual 54, 3) := by decide +kernel
theorem dL_isCall_54 : decode cL_isCall 54 = .ok (.ifCond .eq 7, 3) := by decide +kernel
theorem dL_isCall_57 : decode cL_isCall 57 = .ok (.iconst 1, 1) := by decide +kernel
theorem dL_isCall_58 : decode cL_isCall 58 = .ok (.goto 4, 3) := by decide +kernel
theorem dL_isCall_61 : decode cL_isCall 61 = .ok (.iconst 0, 1) := by decide +kernel
theorem dL_isCall_62 : decode cL_isCall 62 = .ok (.istore 7, 2) := by decide +kernel
theorem dL_isCall_64 : decode cL_isCall 64 = .ok (.iload 6, 2) := by decide +kernel
theorem dL_isCall_66 : decode cL_isCall 66 = .ok (.ifCond .ne 8, 3) := by decide +kernel
theorem dL_isCall_69 : decode cL_isCall 69 = .ok (.bipush (-30), 2) := by decide +kernel
theorem dL_isCall_71 : decode cL_isCall 71 = .ok (.goto 17, 3) := by decide +kernel
theorem dL_isCall_74 : decode cL_isCall 74 = .ok (.iload 7, 2) := by decide +kernel
theorem dL_isCall_76 : decode cL_isCall 76 = .ok (.ifCond .eq 10, 3) := by decide +kernel
theorem dL_isCall_79 : decode cL_isCall 79 = .ok (.aload_n 1, 1) := by decide +kernel
theorem dL_isCall_80 : decode cL_isCall 80 = .ok (.bipush 16, 2) := by decide +kernel
theorem dL_isCall_82 : decode cL_isCall 82 = .ok (.iaload, 1) := by decide +kernel
theorem dL_isCall_83 : decode cL_isCall 83 = .ok (.goto 5, 3) := by decide +kernel
theorem dL_isCall_86 : decode cL_isCall 86 = .ok (.bipush (-10), 2) := by decide +kernel
theorem dL_isCall_88 : decode cL_isCall 88 = .ok (.istore 8, 2) := by decide +kernel
theorem dL_isCall_90 : decode cL_isCall 90 = .ok (.iload 7, 2) := by decide +kernel
theorem dL_isCall_92 : decode cL_isCall 92 = .ok (.ifCond .eq 43, 3) := by decide +kernel
theorem dL_isCall_95 : decode cL_isCall 95 = .ok (.aload_n 1, 1) := by decide +kernel
theorem dL_isCall_96 : decode cL_isCall 96 = .ok (.bipush 16, 2) := by decide +kernel
theorem dL_isCall_98 : decode cL_isCall 98 = .ok (.iaload, 1) := by decide +kernel
theorem dL_isCall_99 : decode cL_isCall 99 = .ok (.bipush 20, 2) := by decide +kernel
theorem dL_isCall_101 : decode cL_isCall 101 = .ok (.if_icmp .ge 34, 3) := by decide +kernel
theorem dL_isCall_104 : decode cL_isCall 104 = .ok (.aload_n 3, 1) := by decide +kernel
theorem dL_isCall_105 : decode cL_isCall 105 = .ok (.aload_n 1, 1) := by decide +kernel
theorem dL_isCall_106 : decode cL_isCall 106 = .ok (.bipush 16, 2) := by decide +kernel
theorem dL_isCall_108 : decode cL_isCall 108 = .ok (.iaload, 1) := by decide +kernel
theorem dL_isCall_109 : decode cL_isCall 109 = .ok (.iload 5, 2) := by decide +kernel
theorem dL_isCall_111 : decode cL_isCall 111 = .ok (.iastore, 1) := by decide +kernel
theorem dL_isCall_112 : decode cL_isCall 112 = .ok (.aload_n 3, 1) := by decide +kernel
theorem dL_isCall_113 : decode cL_isCall 113 = .ok (.bipush 20, 2) := by decide +kernel
theorem dL_isCall_115 : decode cL_isCall 115 = .ok (.aload_n 1, 1) := by decide +kernel
theorem dL_isCall_116 : decode cL_isCall 116 = .ok (.bipush 16, 2) := by decide +kernel
theorem dL_isCall_118 : decode cL_isCall 118 = .ok (.iaload, 1) := by decide +kernel
theorem dL_isCall_119 : decode cL_isCall 119 = .ok (.iadd, 1) := by decide +kernel
theorem dL_isCall_120 : decode cL_isCall 120 = .ok (.aload_n 2, 1) := by decide +kernel
theorem dL_isCall_121 : decode cL_isCall 121 = .ok (.iload 5, 2) := by decide +kernel
theorem dL_isCall_123 : decode cL_isCall 123 = .ok (.iaload, 1) := by decide +kernel
theorem dL_isCall_124 : decode cL_isCall 124 = .ok (.iastore, 1) := by decide +kernel
theorem dL_isCall_125 : decode cL_isCall 125 = .ok (.aload_n 3, 1) := by decide +kernel
theorem dL_isCall_126 : decode cL_isCall 126 = .ok (.bipush 40, 2) := by decide +kernel
theorem dL_isCall_128 : decode cL_isCall 128 = .ok (.aload_n 1, 1) := by decide +kernel
theorem dL_isCall_129 : decode cL_isCall 129 = .ok (.bipush 16, 2) := by decide +kernel
theorem dL_isCall_131 : decode cL_isCall 131 = .ok (.iaload, 1) := by decide +kernel
theorem dL_isCall_132 : decode cL_isCall 132 = .ok (.iadd, 1) := by decide +kernel
theorem dL_isCall_133 : decode cL_isCall 133 = .ok (.iconst 0, 1) := by decide +kernel
theorem dL_isCall_134 : decode cL_isCall 134 = .ok (.iastore, 1) := by decide +kernel
theorem dL_isCall_135 : decode cL_isCall 135 = .ok (.iload 7, 2) := by decide +kernel
theorem dL_isCall_137 : decode cL_isCall 137 = .ok (.ifCond .eq 17, 3) := by decide +kernel
theorem dL_isCall_140 : decode cL_isCall 140 = .ok (.aload_n 1, 1) := by decide +kernel
theorem dL_isCall_141 : decode cL_isCall 141 = .ok (.bipush 16, 2) := by decide +kernel
theorem dL_isCall_143 : decode cL_isCall 143 = .ok (.dup2, 1) := by decide +kernel
theorem dL_isCall_144 : decode cL_isCall 144 = .ok (.iaload, 1) := by decide +kernel
theorem dL_isCall_145 : decode cL_isCall 145 = .ok (.iconst 1, 1) := by decide +kernel
theorem dL_isCall_146 : decode cL_isCall 146 = .ok (.iadd, 1) := by decide +kernel
theorem dL_isCall_147 : decode cL_isCall 147 = .ok (.iastore, 1) := by decide +kernel
theorem dL_isCall_148 : decode cL_isCall 148 = .ok (.aload_n 2, 1) := by decide +kernel
theorem dL_isCall_149 : decode cL_isCall 149 = .ok (.iload 5, 2) := by decide +kernel
theorem dL_isCall_151 : decode cL_isCall 151 = .ok (.bipush (-2), 2) := by decide +kernel
theorem dL_isCall_153 : decode cL_isCall 153 = .ok (.iastore, 1) := by decide +kernel
theorem dL_isCall_154 : decode cL_isCall 154 = .ok (.aload_n 0, 1) := by decide +kernel
theorem dL_isCall_155 : decode cL_isCall 155 = .ok (.bipush 6, 2) := by decide +kernel
theorem dL_isCall_157 : decode cL_isCall 157 = .ok (.iload 4, 2) := by decide +kernel
theorem dL_isCall_159 : decode cL_isCall 159 = .ok (.iload 5, 2) := by decide +kernel
theorem dL_isCall_161 : decode cL_isCall 161 = .ok (.invokestatic 100, 3) := by decide +kernel
theorem dL_isCall_164 : decode cL_isCall 164 = .ok (.iload 8, 2) := by decide +kernel
theorem dL_isCall_166 : decode cL_isCall 166 = .ok (.if_icmp .ne 7, 3) := by decide +kernel
theorem dL_isCall_169 : decode cL_isCall 169 = .ok (.iconst 1, 1) := by decide +kernel
theorem dL_isCall_170 : decode cL_isCall 170 = .ok (.goto 4, 3) := by decide +kernel
theorem dL_isCall_173 : decode cL_isCall 173 = .ok (.iconst 0, 1) := by decide +kernel
theorem dL_isCall_174 : decode cL_isCall 174 = .ok (.ireturn, 1) := by decide +kernel
set_option maxRecDepth 20000 in
theorem ggL_isDispute_L_does : GoodIn wsL_isDispute wsL_does := goodIn_ca (goodIn_ca (goodIn_ca (goodIn_r _ [4, 5, 6, 7, 8, 9, 10, 11, 12, 13, 14, 15, 16, 17, 18, 19, 20, 21, 22, 23, 24, 25, 26, 27, 28, 29, 30, 31, 32, 33, 34, 35, 36, 37, 38, 39, 40, 41, 42, 43, 3, 44, 45, 46, 47, 48, 49, 50, 51, 52, 53, 54, 55, 56, 57, 58, 59, 60, 61, 62, 63, 64, 65, 66, 67, 68, 69, 70, 71, 72, 73, 74, 75, 76, 77, 78, 79, 80, 81, 82, 83, 84, 85, 86, 87, 88, 89, 90, 91, 92, 93, 94, 95, 96, 97, 98, 99, 100, 101, 102, 103, 104, 105, 106, 107, 108, 109, 110, 111, 112, 113, 114, 115, 116, 117, 118, 119, 120, 121, 122, 123, 124, 125, 126, 127, 128, 129, 130, 131, 132, 133, 134, 135, 136, 137, 138, 139, 140, 141, 142, 143, 144, 145, 146, 147, 148, 149, 150, 151, 152, 153, 154, 155, 156, 157, 158, 159, 160, 161, 162, 163, 164, 165, 166, 167, 168, 169, 170, 171, 172, 173, 174, 175, 176, 177, 178, 179, 180, 181, 182, 183, 184, 185, 186, 187, 188, 189, 190, 191, 192, 193, 194, 195, 196, 197, 198, 199, 200, 201, 202, 203, 204, 205, 206, 207, 208, 209, 210, 211, 212, 213, 214, 215, 216, 217, 218, 219, 220, 221, 222, 223, 224, 225, 226, 227, 228, 229, 230, 231, 232, 233, 234, 235, 236, 237, 238, 239, 240, 241, 242, 243, 244, 245, 246, 253, 254, 255, 256, 257, 258, 259, 260, 261, 262, 263, 264, 265, 266, 267, 268, 269, 270, 271, 272, 273, 274, 275, 276, 277, 278, 279] (by decide +kernel) (by decide +kernel)) (goodIn_sub (fun _ h => List.mem_cons_of_mem _ (List.mem_append_left _ (List.mem_append_left _ (List.mem_append_right _ h)))) (by decide +kernel))) (goodIn_sub (fun _ h => List.mem_cons_of_mem _ (List.mem_append_left _ (List.mem_append_right _ h))) (by decide +kernel))) (goodIn_sub (fun _ h => List.mem_cons_of_mem _ (List.mem_append_right _ h)) (by decide +kernel))
set_option maxRecDepth 20000 in
theorem gL_isDispute_L_does : GoodIn wsL_isDispute (va_wsS RL 100 yL_does wsL_does) := goodIn_app (goodIn_of _ (by decide +kernel)) ggL_isDispute_L_does
set_option maxRecDepth 20000 in
theorem ggL_isDispute_L_isFree : GoodIn wsL_isDispute wsL_isFree := goodIn_r _ [249, 250, 251, 3, 252] (by decide +kernel) (by decide +kernel)
set_option maxRecDepth 20000 in
theorem gL_isDispute_L_isFree : GoodIn wsL_isDispute (va_wsS RL 96 yL_isFree wsL_isFree) := goodIn_app (goodIn_of _ (by decide +kernel)) ggL_isDispute_L_isFree
theorem dL_isDispute_0 : decode cL_isDispute 0 = .ok (.aload_n 1, 1) := by decide +kernel
theorem dL_isDispute_1 : decode cL_isDispute 1 = .ok (.bipush 14, 2) := by decide +kernel
theorem dL_isDispute_3 : decode cL_isDispute 3 = .ok (.iaload, 1) := by decide +kernel
theorem dL_isDispute_4 : decode cL_isDispute 4 = .ok (.ifCond .lt 16, 3) := by decide +kernel
theorem dL_isDispute_7 : decode cL_isDispute 7 = .ok (.iload 5, 2) := by decide +kernel
theorem dL_isDispute_9 : decode cL_isDispute 9 = .ok (.aload_n 1, 1) := by decide +kernel
theorem dL_isDispute_10 : decode cL_isDispute 10 = .ok (.bipush 16, 2) := by decide +kernel
theorem dL_isDispute_12 : decode cL_isDispute 12 = .ok (.iaload, 1) := by decide +kernel
theorem dL_isDispute_13 : decode cL_isDispute 13 = .ok (.if_icmp .ge 7, 3) := by decide +kernel
theorem dL_isDispute_16 : decode cL_isDispute 16 = .ok (.iconst 1, 1) := by decide +kernel
theorem dL_isDispute_17 : decode cL_isDispute 17 = .ok (.goto 4, 3) := by decide +kernel
theorem dL_isDispute_20 : decode cL_isDispute 20 = .ok (.iconst 0, 1) := by decide +kernel
theorem dL_isDispute_21 : decode cL_isDispute 21 = .ok (.istore 6, 2) := by decide +kernel
theorem dL_isDispute_23 : decode cL_isDispute 23 = .ok (.iload 6, 2) := by decide +kernel
theorem dL_isDispute_25 : decode cL_isDispute 25 = .ok (.ifCond .eq 14, 3) := by decide +kernel
theorem dL_isDispute_28 : decode cL_isDispute 28 = .ok (.aload_n 3, 1) := by decide +kernel
theorem dL_isDispute_29 : decode cL_isDispute 29 = .ok (.bipush 40, 2) := by decide +kernel
theorem dL_isDispute_31 : decode cL_isDispute 31 = .ok (.iload 5, 2) := by decide +kernel
theorem dL_isDispute_33 : decode cL_isDispute 33 = .ok (.iadd, 1) := by decide +kernel
theorem dL_isDispute_34 : decode cL_isDispute 34 = .ok (.iaload, 1) := by decide +kernel
theorem dL_isDispute_35 : decode cL_isDispute 35 = .ok (.iconst 1, 1) := by decide +kernel
theorem dL_isDispute_36 : decode cL_isDispute 36 = .ok (.if_icmp .ne 33, 3) := by decide +kernel
theorem dL_isDispute_39 : decode cL_isDispute 39 = .ok (.aload_n 0, 1) := by decide +kernel
theorem dL_isDispute_40 : decode cL_isDispute 40 = .ok (.bipush 7, 2) := by decide +kernel
theorem dL_isDispute_42 : decode cL_isDispute 42 = .ok (.iload 5, 2) := by decide +kernel
theorem dL_isDispute_44 : decode cL_isDispute 44 = .ok (.iconst 0, 1) := by decide +kernel
theorem dL_isDispute_45 : decode cL_isDispute 45 = .ok (.invokestatic 100, 3) := by decide +kernel
theorem dL_isDispute_48 : decode cL_isDispute 48 = .ok (.iload 6, 2) := by decide +kernel
theorem dL_isDispute_50 : decode cL_isDispute 50 = .ok (.ifCond .eq 8, 3) := by decide +kernel
theorem dL_isDispute_53 : decode cL_isDispute 53 = .ok (.bipush (-10), 2) := by decide +kernel
theorem dL_isDispute_55 : decode cL_isDispute 55 = .ok (.goto 5, 3) := by decide +kernel
theorem dL_isDispute_58 : decode cL_isDispute 58 = .ok (.bipush (-30), 2) := by decide +kernel
theorem dL_isDispute_60 : decode cL_isDispute 60 = .ok (.if_icmp .ne 7, 3) := by decide +kernel
theorem dL_isDispute_63 : decode cL_isDispute 63 = .ok (.iconst 1, 1) := by decide +kernel
theorem dL_isDispute_64 : decode cL_isDispute 64 = .ok (.goto 4, 3) := by decide +kernel
theorem dL_isDispute_67 : decode cL_isDispute 67 = .ok (.iconst 0, 1) := by decide +kernel
theorem dL_isDispute_68 : decode cL_isDispute 68 = .ok (.ireturn, 1) := by decide +kernel
theorem dL_isDispute_69 : decode cL_isDispute 69 = .ok (.aload_n 3, 1) := by decide +kernel
theorem dL_isDispute_70 : decode cL_isDispute 70 = .ok (.iload 5, 2) := by decide +kernel
theorem dL_isDispute_72 : decode cL_isDispute 72 = .ok (.iaload, 1) := by decide +kernel
theorem dL_isDispute_73 : decode cL_isDispute 73 = .ok (.istore 7, 2) := by decide +kernel
theorem dL_isDispute_75 : decode cL_isDispute 75 = .ok (.aload_n 3, 1) := by decide +kernel
theorem dL_isDispute_76 : decode cL_isDispute 76 = .ok (.bipush 40, 2) := by decide +kernel
theorem dL_isDispute_78 : decode cL_isDispute 78 = .ok (.iload 5, 2) := by decide +kernel
theorem dL_isDispute_80 : decode cL_isDispute 80 = .ok (.iadd, 1) := by decide +kernel
theorem dL_isDispute_81 : decode cL_isDispute 81 = .ok (.iconst 1, 1) := by decide +kernel
theorem dL_isDispute_82 : decode cL_isDispute 82 = .ok (.iastore, 1) := by decide +kernel
theorem dL_isDispute_83 : decode cL_isDispute 83 = .ok (.aload_n 2, 1) := by decide +kernel
theorem dL_isDispute_84 : decode cL_isDispute 84 = .ok (.bipush 6, 2) := by decide +kernel
theorem dL_isDispute_86 : decode cL_isDispute 86 = .ok (.iload 7, 2) := by decide +kernel
theorem dL_isDispute_88 : decode cL_isDispute 88 = .ok (.iadd, 1) := by decide +kernel
theorem dL_isDispute_89 : decode cL_isDispute 89 = .ok (.iaload, 1) := by decide +kernel
theorem dL_isDispute_90 : decode cL_isDispute 90 = .ok (.ifCond .le 7, 3) := by decide +kernel
theorem dL_isDispute_93 : decode cL_isDispute 93 = .ok (.iconst 1, 1) := by decide +kernel
theorem dL_isDispute_94 : decode cL_isDispute 94 = .ok (.goto 4, 3) := by decide +kernel
theorem dL_isDispute_97 : decode cL_isDispute 97 = .ok (.iconst 0, 1) := by decide +kernel
theorem dL_isDispute_98 : decode cL_isDispute 98 = .ok (.istore 8, 2) := by decide +kernel
theorem dL_isDispute_100 : decode cL_isDispute 100 = .ok (.iload 8, 2) := by decide +kernel
theorem dL_isDispute_102 : decode cL_isDispute 102 = .ok (.ifCond .eq 32, 3) := by decide +kernel
theorem dL_isDispute_105 : decode cL_isDispute 105 = .ok (.aload 4, 2) := by decide +kernel
theorem dL_isDispute_107 : decode cL_isDispute 107 = .ok (.iconst 3, 1) := by decide +kernel
theorem dL_isDispute_108 : decode cL_isDispute 108 = .ok (.aload_n 1, 1) := by decide +kernel
theorem dL_isDispute_109 : decode cL_isDispute 109 = .ok (.iload 7, 2) := by decide +kernel
theorem dL_isDispute_111 : decode cL_isDispute 111 = .ok (.iconst 3, 1) := by decide +kernel
theorem dL_isDispute_112 : decode cL_isDispute 112 = .ok (.if_icmp .ge 8, 3) := by decide +kernel
theorem dL_isDispute_115 : decode cL_isDispute 115 = .ok (.bipush 17, 2) := by decide +kernel
theorem dL_isDispute_117 : decode cL_isDispute 117 = .ok (.goto 5, 3) := by decide +kernel
theorem dL_isDispute_120 : decode cL_isDispute 120 = .ok (.bipush 18, 2) := by decide +kernel
theorem dL_isDispute_122 : decode cL_isDispute 122 = .ok (.iaload, 1) := by decide +kernel
theorem dL_isDispute_123 : decode cL_isDispute 123 = .ok (.imul, 1) := by decide +kernel
theorem dL_isDispute_124 : decode cL_isDispute 124 = .ok (.iconst 1, 1) := by decide +kernel
theorem dL_isDispute_125 : decode cL_isDispute 125 = .ok (.iadd, 1) := by decide +kernel
theorem dL_isDispute_126 : decode cL_isDispute 126 = .ok (.dup2, 1) := by decide +kernel
theorem dL_isDispute_127 : decode cL_isDispute 127 = .ok (.iaload, 1) := by decide +kernel
theorem dL_isDispute_128 : decode cL_isDispute 128 = .ok (.iconst 1, 1) := by decide +kernel
theorem dL_isDispute_129 : decode cL_isDispute 129 = .ok (.iadd, 1) := by decide +kernel
theorem dL_isDispute_130 : decode cL_isDispute 130 = .ok (.iastore, 1) := by decide +kernel
theorem dL_isDispute_131 : decode cL_isDispute 131 = .ok (.goto 33, 3) := by decide +kernel
theorem dL_isDispute_134 : decode cL_isDispute 134 = .ok (.aload_n 2, 1) := by decide +kernel
theorem dL_isDispute_135 : decode cL_isDispute 135 = .ok (.iload 7, 2) := by decide +kernel
theorem dL_isDispute_137 : decode cL_isDispute 137 = .ok (.aload_n 1, 1) := by decide +kernel
theorem dL_isDispute_138 : decode cL_isDispute 138 = .ok (.aload_n 2, 1) := by decide +kernel
theorem dL_isDispute_139 : decode cL_isDispute 139 = .ok (.aload_n 3, 1) := by decide +kernel
theorem dL_isDispute_140 : decode cL_isDispute 140 = .ok (.bipush 20, 2) := by decide +kernel
theorem dL_isDispute_142 : decode cL_isDispute 142 = .ok (.iload 5, 2) := by decide +kernel
theorem dL_isDispute_144 : decode cL_isDispute 144 = .ok (.iadd, 1) := by decide +kernel
theorem dL_isDispute_145 : decode cL_isDispute 145 = .ok (.iaload, 1) := by decide +kernel
theorem dL_isDispute_146 : decode cL_isDispute 146 = .ok (.invokestatic 96, 3) := by decide +kernel
theorem dL_isDispute_149 : decode cL_isDispute 149 = .ok (.ifCond .eq 13, 3) := by decide +kernel
theorem dL_isDispute_152 : decode cL_isDispute 152 = .ok (.aload_n 3, 1) := by decide +kernel
theorem dL_isDispute_153 : decode cL_isDispute 153 = .ok (.bipush 20, 2) := by decide +kernel
theorem dL_isDispute_155 : decode cL_isDispute 155 = .ok (.iload 5, 2) := by decide +kernel
theorem dL_isDispute_157 : decode cL_isDispute 157 = .ok (.iadd, 1) := by decide +kernel
theorem dL_isDispute_158 : decode cL_isDispute 158 = .ok (.iaload, 1) := by decide +kernel
theorem dL_isDispute_159 : decode cL_isDispute 159 = .ok (.goto 4, 3) := by decide +kernel
theorem dL_isDispute_162 : decode cL_isDispute 162 = .ok (.iconst (-1), 1) := by decide +kernel
theorem dL_isDispute_163 : decode cL_isDispute 163 = .ok (.iastore, 1) := by decide +kernel
theorem dL_isDispute_164 : decode cL_isDispute 164 = .ok (.aload_n 0, 1) := by decide +kernel
theorem dL_isDispute_165 : decode cL_isDispute 165 = .ok (.bipush 7, 2) := by decide +kernel
theorem dL_isDispute_167 : decode cL_isDispute 167 = .ok (.iload 5, 2) := by decide +kernel
theorem dL_isDispute_169 : decode cL_isDispute 169 = .ok (.iconst 0, 1) := by decide +kernel
theorem dL_isDispute_170 : decode cL_isDispute 170 = .ok (.invokestatic 100, 3) := by decide +kernel
theorem dL_isDispute_173 : decode cL_isDispute 173 = .ok (.iload 8, 2) := by decide +kernel
theorem dL_isDispute_175 : decode cL_isDispute 175 = .ok (.ifCond .eq 7, 3) := by decide +kernel
theorem dL_isDispute_178 : decode cL_isDispute 178 = .ok (.iconst 1, 1) := by decide +kernel
theorem dL_isDispute_179 : decode cL_isDispute 179 = .ok (.goto 4, 3) := by decide +kernel
theorem dL_isDispute_182 : decode cL_isDispute 182 = .ok (.iconst 0, 1) := by decide +kernel
theorem dL_isDispute_183 : decode cL_isDispute 183 = .ok (.if_icmp .ne 7, 3) := by decide +kernel
theorem dL_isDispute_186 : decode cL_isDispute 186 = .ok (.iconst 1, 1) := by decide +kernel
theorem dL_isDispute_187 : decode cL_isDispute 187 = .ok (.goto 4, 3) := by decide +kernel
theorem dL_isDispute_190 : decode cL_isDispute 190 = .ok (.iconst 0, 1) := by decide +kernel
theorem dL_isDispute_191 : decode cL_isDispute 191 = .ok (.ireturn, 1) := by decide +kernel
set_option maxRecDepth 20000 in
theorem ggL_isEnd_L_does : GoodIn wsL_isEnd wsL_does := goodIn_ca (goodIn_ca (goodIn_ca (goodIn_r _ [4, 5, 6, 7, 8, 9, 10, 11, 12, 13, 14, 15, 16, 17, 18, 19, 20, 21, 22, 23, 24, 25, 26, 27, 28, 29, 30, 31, 32, 33, 34, 35, 36, 37, 38, 39, 40, 41, 42, 43, 3, 44, 45, 46, 47, 48, 49, 50, 51, 52, 53, 54, 55, 56, 57, 58, 59, 60, 61, 62, 63, 64, 65, 66, 67, 68, 69, 70, 71, 72, 73, 74, 75, 76, 77, 78, 79, 80, 81, 82, 83, 84, 85, 86, 87, 88, 89, 90, 91, 92, 93, 94, 95, 96, 97, 98, 99, 100, 101, 102, 103, 104, 105, 106, 107, 108, 109, 110, 111, 112, 113, 114, 115, 116, 117, 118, 119, 120, 121, 122, 123, 124, 125, 126, 127, 128, 129, 130, 131, 132, 133, 134, 135, 136, 137, 138, 139, 140, 141, 142, 143, 144, 145, 146, 147, 148, 149, 150, 151, 152, 153, 154, 155, 156, 157, 158, 159, 160, 161, 162, 163, 164, 165, 166, 167, 168, 169, 170, 171, 172, 173, 174, 175, 176, 177, 178, 179, 180, 181, 182, 183, 184, 185, 186, 187, 188, 189, 190, 191, 192, 193, 194, 195, 196, 197, 198, 199, 200, 201, 202, 203, 204, 205, 206, 207, 208, 209, 210, 211, 212, 213, 214, 215, 216, 217, 218, 219, 220, 221, 222, 223, 224, 225, 226, 227, 228, 229, 230, 231, 232, 233, 234, 235, 236, 237, 238, 239, 240, 241, 242, 243, 244, 245, 246, 247, 248, 249, 250, 251, 252, 253, 254, 255, 256, 257, 258, 259, 260, 261, 262, 263, 264, 265, 266, 267, 268, 269, 270, 271, 272, 273] (by decide +kernel) (by decide +kernel)) (goodIn_sub (fun _ h => List.mem_cons_of_mem _ (List.mem_append_left _ (List.mem_append_left _ (List.mem_append_right _ h)))) (by decide +kernel))) (goodIn_sub (fun _ h => List.mem_cons_of_mem _ (List.mem_append_left _ (List.mem_append_right _ h))) (by decide +kernel))) (goodIn_sub (fun _ h => List.mem_cons_of_mem _ (List.mem_append_right _ h)) (by decide +kernel))
set_option maxRecDepth 20000 in
theorem gL_isEnd_L_does : GoodIn wsL_isEnd (va_wsS RL 100 yL_does wsL_does) := goodIn_app (goodIn_of _ (by decide +kernel)) ggL_isEnd_L_does
set_option maxRecDepth 20000 in
theorem ggL_isEnd_X5_end : GoodIn wsL_isEnd wsX5_end := goodIn_ca (goodIn_r _ [215, 15, 185, 78, 79, 80, 11, 81, 13, 14, 22, 23, 24, 25, 26, 27, 216, 217, 218, 219, 64, 65, 220, 221, 222, 223, 58, 224, 225, 226, 227, 59, 228, 229, 230, 209, 231, 232, 233, 234, 235, 236, 237, 238, 239, 240, 241, 242, 211, 243, 244, 245, 246, 60, 61, 62, 63, 66, 67, 68, 69, 70, 247, 248, 249, 250, 251, 252, 253, 254, 255, 256, 257, 258, 270, 271, 272, 273, 260, 261, 262, 263, 264, 265, 266, 267, 268, 269] (by decide +kernel) (by decide +kernel)) (goodIn_sub (fun _ h => List.mem_cons_of_mem _ (List.mem_append_left _ (List.mem_append_left _ (List.mem_append_right _ h)))) (by decide +kernel))
set_option maxRecDepth 20000 in
theorem gL_isEnd_X5_end : GoodIn wsL_isEnd (wsV RL 44 RX5 yX5_end wsX5_end) := goodIn_app (goodIn_of _ (by decide +kernel)) ggL_isEnd_X5_end
