theorem goodIn_hd {big a : List Cond} {c : Cond} (hc : c ∈ big) (h1 : k2_isCode c = true) (ha : GoodIn big a) : GoodIn big (c :: a) := fun w h => (List.mem_cons.mp h).elim (fun e => by
  subst e
  refine ⟨hc, ?_⟩
  cases w <;> first | (simp [k2_isCode] at h1; done) | exact Or.inl rfl) (fun h => ha w h)
theorem dL_part_0 : decode cL_part 0 = .ok (.iload_n 1, 1) := by decide +kernel
theorem dL_part_1 : decode cL_part 1 = .ok (.aload_n 0, 1) := by decide +kernel
theorem dL_part_2 : decode cL_part 2 = .ok (.arraylength, 1) := by decide +kernel
theorem dL_part_3 : decode cL_part 3 = .ok (.if_icmp .ge 9, 3) := by decide +kernel
theorem dL_part_6 : decode cL_part 6 = .ok (.aload_n 0, 1) := by decide +kernel
theorem dL_part_7 : decode cL_part 7 = .ok (.iload_n 1, 1) := by decide +kernel
theorem dL_part_8 : decode cL_part 8 = .ok (.iaload, 1) := by decide +kernel
theorem dL_part_9 : decode cL_part 9 = .ok (.goto 16, 3) := by decide +kernel
theorem dL_part_12 : decode cL_part 12 = .ok (.sipush 431, 3) := by decide +kernel
theorem dL_part_15 : decode cL_part 15 = .ok (.iload_n 1, 1) := by decide +kernel
theorem dL_part_16 : decode cL_part 16 = .ok (.imul, 1) := by decide +kernel
theorem dL_part_17 : decode cL_part 17 = .ok (.sipush 283, 3) := by decide +kernel
theorem dL_part_20 : decode cL_part 20 = .ok (.iload_n 1, 1) := by decide +kernel
theorem dL_part_21 : decode cL_part 21 = .ok (.imul, 1) := by decide +kernel
theorem dL_part_22 : decode cL_part 22 = .ok (.iload_n 1, 1) := by decide +kernel
theorem dL_part_23 : decode cL_part 23 = .ok (.imul, 1) := by decide +kernel
theorem dL_part_24 : decode cL_part 24 = .ok (.iadd, 1) := by decide +kernel
theorem dL_part_25 : decode cL_part 25 = .ok (.istore_n 3, 1) := by decide +kernel
theorem dL_part_26 : decode cL_part 26 = .ok (.iload_n 3, 1) := by decide +kernel
theorem dL_part_27 : decode cL_part 27 = .ok (.ldc 7, 2) := by decide +kernel
theorem dL_part_29 : decode cL_part 29 = .ok (.iand, 1) := by decide +kernel
theorem dL_part_30 : decode cL_part 30 = .ok (.iload_n 2, 1) := by decide +kernel
theorem dL_part_31 : decode cL_part 31 = .ok (.irem, 1) := by decide +kernel
theorem dL_part_32 : decode cL_part 32 = .ok (.ireturn, 1) := by decide +kernel
set_option maxRecDepth 20000 in
theorem ggL_begins_X5_begin : GoodIn wsL_begins wsX5_begin := goodIn_ca (goodIn_ca (goodIn_ca (goodIn_r _ [5, 6, 7, 8, 9, 10, 11, 12, 4, 13, 14, 15, 16, 17, 18, 19, 20, 21, 22, 23, 24, 25, 26, 27, 28, 29, 30, 31, 32, 33, 34, 35, 36, 37, 38, 39, 40, 41, 42, 43, 44, 45, 46, 47, 48, 49, 50, 51, 52, 53, 54, 55, 56, 57, 58, 59, 60] (by decide +kernel) (by decide +kernel)) (goodIn_sub (fun _ h => List.mem_cons_of_mem _ (List.mem_append_left _ (List.mem_append_left _ (List.mem_append_right _ h)))) (by decide +kernel))) (goodIn_sub (fun _ h => List.mem_cons_of_mem _ (List.mem_append_left _ (List.mem_append_right _ h))) (by decide +kernel))) (goodIn_sub (fun _ h => List.mem_cons_of_mem _ (List.mem_append_right _ h)) (by decide +kernel))
set_option maxRecDepth 20000 in
theorem gL_begins_X5_begin : GoodIn wsL_begins (wsV RL 8 RX5 yX5_begin wsX5_begin) := goodIn_app (goodIn_of _ (by decide +kernel)) ggL_begins_X5_begin
theorem dL_begins_0 : decode cL_begins 0 = .ok (.aload_n 0, 1) := by decide +kernel
theorem dL_begins_1 : decode cL_begins 1 = .ok (.iload_n 1, 1) := by decide +kernel
theorem dL_begins_2 : decode cL_begins 2 = .ok (.iload_n 2, 1) := by decide +kernel
theorem dL_begins_3 : decode cL_begins 3 = .ok (.invokevirtual 8, 3) := by decide +kernel
theorem dL_begins_6 : decode cL_begins 6 = .ok (.iconst 0, 1) := by decide +kernel
theorem dL_begins_7 : decode cL_begins 7 = .ok (.ireturn, 1) := by decide +kernel
set_option maxRecDepth 20000 in
theorem ggL_does_X5_toggleBunker : GoodIn wsL_does wsX5_toggleBunker := goodIn_ca (goodIn_ca (goodIn_r _ [8, 9, 10, 11, 12, 13, 14, 7, 15, 16, 17, 18, 19, 20, 21, 22, 23, 24, 25, 26, 27, 28, 29, 244, 245, 246, 247, 248, 249, 250, 251, 252, 253, 254, 255, 256] (by decide +kernel) (by decide +kernel)) (goodIn_sub (fun _ h => List.mem_cons_of_mem _ (List.mem_append_left _ (List.mem_append_left _ (List.mem_append_right _ h)))) (by decide +kernel))) (goodIn_sub (fun _ h => List.mem_cons_of_mem _ (List.mem_append_left _ (List.mem_append_right _ h))) (by decide +kernel))
set_option maxRecDepth 20000 in
theorem gL_does_X5_toggleBunker : GoodIn wsL_does (wsV RL 14 RX5 yX5_toggleBunker wsX5_toggleBunker) := goodIn_app (goodIn_of _ (by decide +kernel)) ggL_does_X5_toggleBunker
set_option maxRecDepth 20000 in
theorem ggL_does_X5_setReferee : GoodIn wsL_does wsX5_setReferee := goodIn_ca (goodIn_r _ [33, 34, 35, 36, 7, 37, 16, 17, 13, 14, 15, 244, 245, 246, 247] (by decide +kernel) (by decide +kernel)) (goodIn_sub (fun _ h => List.mem_cons_of_mem _ (List.mem_append_left _ (List.mem_append_right _ h))) (by decide +kernel))
set_option maxRecDepth 20000 in
theorem gL_does_X5_setReferee : GoodIn wsL_does (wsV RL 18 RX5 yX5_setReferee wsX5_setReferee) := goodIn_app (goodIn_of _ (by decide +kernel)) ggL_does_X5_setReferee
set_option maxRecDepth 20000 in
theorem ggL_does_L_begins : GoodIn wsL_does wsL_begins := goodIn_ca (goodIn_ca (goodIn_ca (goodIn_r _ [41, 42, 43, 44, 7, 45, 46, 47, 9, 10, 11, 48, 49, 50, 16, 17, 18, 19, 20, 21, 22, 23, 51, 52, 53, 54, 55, 56, 57, 58, 59, 60, 61, 62, 63, 64, 65, 66, 67, 244, 245, 246, 247, 248, 249, 250, 251, 252, 253, 254, 255, 257, 258, 259, 260, 261, 262, 263, 264, 265, 266] (by decide +kernel) (by decide +kernel)) (goodIn_sub (fun _ h => List.mem_cons_of_mem _ (List.mem_append_right _ h)) (by decide +kernel))) (goodIn_sub (fun _ h => List.mem_cons_of_mem _ (List.mem_append_left _ (List.mem_append_left _ (List.mem_append_right _ h)))) (by decide +kernel))) (goodIn_sub (fun _ h => List.mem_cons_of_mem _ (List.mem_append_left _ (List.mem_append_right _ h))) (by decide +kernel))
set_option maxRecDepth 20000 in
theorem gL_does_L_begins : GoodIn wsL_does (va_wsS RL 22 yL_begins wsL_begins) := goodIn_app (goodIn_of _ (by decide +kernel)) ggL_does_L_begins
set_option maxRecDepth 20000 in
theorem ggL_does_X5_move : GoodIn wsL_does wsX5_move := goodIn_ca (goodIn_ca (goodIn_r _ [71, 9, 10, 11, 12, 72, 73, 7, 74, 16, 17, 13, 14, 15, 75, 76, 77, 78, 18, 19, 20, 21, 22, 23, 79, 80, 81, 82, 61, 83, 84, 27, 85, 86, 87, 88, 89, 90, 91, 92, 93, 94, 95, 96, 29, 97, 98, 99, 100, 101, 102, 103, 104, 244, 245, 246, 247, 248, 249, 250, 251, 252, 253, 254, 255, 256] (by decide +kernel) (by decide +kernel)) (goodIn_sub (fun _ h => List.mem_cons_of_mem _ (List.mem_append_left _ (List.mem_append_left _ (List.mem_append_right _ h)))) (by decide +kernel))) (goodIn_sub (fun _ h => List.mem_cons_of_mem _ (List.mem_append_left _ (List.mem_append_right _ h))) (by decide +kernel))
set_option maxRecDepth 20000 in
theorem gL_does_X5_move : GoodIn wsL_does (wsV RL 28 RX5 yX5_move wsX5_move) := goodIn_app (goodIn_of _ (by decide +kernel)) ggL_does_X5_move
set_option maxRecDepth 20000 in
theorem ggL_does_X5_shoot : GoodIn wsL_does wsX5_shoot := goodIn_ca (goodIn_ca (goodIn_r _ [108, 9, 10, 11, 72, 73, 7, 74, 16, 17, 13, 14, 15, 75, 76, 77, 78, 18, 19, 20, 21, 22, 23, 79, 80, 81, 82, 61, 109, 110, 111, 112, 63, 64, 65, 113, 114, 115, 116, 117, 84, 27, 85, 86, 87, 88, 89, 90, 91, 92, 118, 119, 120, 121, 122, 123, 124, 125, 126, 127, 244, 245, 246, 247, 248, 249, 250, 251, 252, 253, 254, 255, 257, 258, 259, 260, 261] (by decide +kernel) (by decide +kernel)) (goodIn_sub (fun _ h => List.mem_cons_of_mem _ (List.mem_append_left _ (List.mem_append_left _ (List.mem_append_right _ h)))) (by decide +kernel))) (goodIn_sub (fun _ h => List.mem_cons_of_mem _ (List.mem_append_left _ (List.mem_append_right _ h))) (by decide +kernel))
set_option maxRecDepth 20000 in
theorem gL_does_X5_shoot : GoodIn wsL_does (wsV RL 31 RX5 yX5_shoot wsX5_shoot) := goodIn_app (goodIn_of _ (by decide +kernel)) ggL_does_X5_shoot
set_option maxRecDepth 20000 in
theorem ggL_does_X5_pass : GoodIn wsL_does wsX5_pass := goodIn_ca (goodIn_ca (goodIn_r _ [131, 46, 47, 11, 12, 75, 76, 77, 7, 78, 9, 10, 18, 19, 20, 21, 22, 23, 132, 133, 134, 135, 64, 65, 136, 137, 138, 139, 140, 141, 142, 143, 62, 144, 98, 99, 100, 61, 145, 146, 147, 27, 148, 29, 149, 150, 88, 151, 90, 91, 92, 152, 153, 154, 86, 87, 89, 244, 245, 246, 247, 248, 249, 250, 251, 252, 253, 254, 255, 257, 258, 259, 260, 261, 256] (by decide +kernel) (by decide +kernel)) (goodIn_sub (fun _ h => List.mem_cons_of_mem _ (List.mem_append_right _ h)) (by decide +kernel))) (goodIn_sub (fun _ h => List.mem_cons_of_mem _ (List.mem_append_left _ (List.mem_append_left _ (List.mem_append_right _ h)))) (by decide +kernel))
set_option maxRecDepth 20000 in
theorem gL_does_X5_pass : GoodIn wsL_does (wsV RL 34 RX5 yX5_pass wsX5_pass) := goodIn_app (goodIn_of _ (by decide +kernel)) ggL_does_X5_pass
set_option maxRecDepth 20000 in
theorem ggL_does_X5_call : GoodIn wsL_does wsX5_call := goodIn_ca (goodIn_ca (goodIn_r _ [158, 9, 10, 11, 12, 34, 35, 36, 7, 37, 16, 17, 72, 73, 74, 75, 76, 77, 78, 18, 19, 20, 21, 22, 23, 79, 80, 81, 82, 61, 159, 146, 147, 27, 148, 29, 149, 150, 88, 151, 90, 91, 92, 152, 153, 154, 86, 87, 89, 160, 161, 162, 163, 66, 67, 164, 165, 166, 167, 168, 169, 170, 171, 172, 173, 174, 175, 176, 177, 244, 245, 246, 247, 248, 249, 250, 251, 252, 253, 254, 255, 256, 262, 263, 264, 265, 266] (by decide +kernel) (by decide +kernel)) (goodIn_sub (fun _ h => List.mem_cons_of_mem _ (List.mem_append_left _ (List.mem_append_left _ (List.mem_append_right _ h)))) (by decide +kernel))) (goodIn_sub (fun _ h => List.mem_cons_of_mem _ (List.mem_append_left _ (List.mem_append_right _ h))) (by decide +kernel))
set_option maxRecDepth 20000 in
theorem gL_does_X5_call : GoodIn wsL_does (wsV RL 38 RX5 yX5_call wsX5_call) := goodIn_app (goodIn_of _ (by decide +kernel)) ggL_does_X5_call
set_option maxRecDepth 20000 in
theorem ggL_does_X5_dispute : GoodIn wsL_does wsX5_dispute := goodIn_ca (goodIn_ca (goodIn_r _ [181, 16, 17, 9, 10, 11, 182, 183, 184, 185, 21, 186, 66, 67, 187, 188, 189, 190, 191, 192, 193, 194, 195, 196, 62, 197, 198, 61, 144, 98, 99, 100, 199, 200, 201, 202, 55, 56, 203, 204, 205, 206, 207, 208, 244, 245, 246, 247, 248, 249, 250, 251, 252, 253, 254, 255, 262, 263, 264, 265, 266, 267, 268, 269, 270] (by decide +kernel) (by decide +kernel)) (goodIn_sub (fun _ h => List.mem_cons_of_mem _ (List.mem_append_left _ (List.mem_append_right _ h))) (by decide +kernel))) (goodIn_sub (fun _ h => List.mem_cons_of_mem _ (List.mem_append_left _ (List.mem_append_left _ (List.mem_append_right _ h)))) (by decide +kernel))
set_option maxRecDepth 20000 in
theorem gL_does_X5_dispute : GoodIn wsL_does (wsV RL 41 RX5 yX5_dispute wsX5_dispute) := goodIn_app (goodIn_of _ (by decide +kernel)) ggL_does_X5_dispute
set_option maxRecDepth 20000 in
theorem ggL_does_X5_end : GoodIn wsL_does wsX5_end := goodIn_ca (goodIn_r _ [212, 11, 182, 75, 76, 77, 7, 78, 9, 10, 18, 19, 20, 21, 22, 23, 213, 214, 215, 216, 61, 62, 217, 218, 219, 220, 55, 221, 222, 223, 224, 56, 225, 226, 227, 206, 228, 229, 230, 231, 232, 233, 234, 235, 236, 237, 238, 239, 208, 240, 241, 242, 243, 57, 58, 59, 60, 63, 64, 65, 66, 67, 244, 245, 246, 247, 248, 249, 250, 251, 252, 253, 254, 255, 267, 268, 269, 270, 257, 258, 259, 260, 261, 262, 263, 264, 265, 266] (by decide +kernel) (by decide +kernel)) (goodIn_sub (fun _ h => List.mem_cons_of_mem _ (List.mem_append_left _ (List.mem_append_left _ (List.mem_append_right _ h)))) (by decide +kernel))
set_option maxRecDepth 20000 in
theorem gL_does_X5_end : GoodIn wsL_does (wsV RL 44 RX5 yX5_end wsX5_end) := goodIn_app (goodIn_of _ (by decide +kernel)) ggL_does_X5_end
theorem dL_does_0 : decode cL_does 0 = .ok (.iload_n 1, 1) := by decide +kernel
theorem dL_does_1 : decode cL_does 1 = .ok (.ifCond .ne 19, 3) := by decide +kernel
theorem dL_does_4 : decode cL_does 4 = .ok (.aload_n 0, 1) := by decide +kernel
theorem dL_does_5 : decode cL_does 5 = .ok (.iload_n 2, 1) := by decide +kernel
theorem dL_does_6 : decode cL_does 6 = .ok (.invokevirtual 14, 3) := by decide +kernel
theorem dL_does_9 : decode cL_does 9 = .ok (.ifCond .eq 7, 3) := by decide +kernel
theorem dL_does_12 : decode cL_does 12 = .ok (.iconst 1, 1) := by decide +kernel
theorem dL_does_13 : decode cL_does 13 = .ok (.goto 117, 3) := by decide +kernel
theorem dL_does_16 : decode cL_does 16 = .ok (.iconst 0, 1) := by decide +kernel
theorem dL_does_17 : decode cL_does 17 = .ok (.goto 113, 3) := by decide +kernel
theorem dL_does_20 : decode cL_does 20 = .ok (.iload_n 1, 1) := by decide +kernel
theorem dL_does_21 : decode cL_does 21 = .ok (.iconst 1, 1) := by decide +kernel
theorem dL_does_22 : decode cL_does 22 = .ok (.if_icmp .ne 12, 3) := by decide +kernel
theorem dL_does_25 : decode cL_does 25 = .ok (.aload_n 0, 1) := by decide +kernel
theorem dL_does_26 : decode cL_does 26 = .ok (.iload_n 2, 1) := by decide +kernel
theorem dL_does_27 : decode cL_does 27 = .ok (.iload_n 3, 1) := by decide +kernel
theorem dL_does_28 : decode cL_does 28 = .ok (.invokevirtual 18, 3) := by decide +kernel
theorem dL_does_31 : decode cL_does 31 = .ok (.goto 99, 3) := by decide +kernel
theorem dL_does_34 : decode cL_does 34 = .ok (.iload_n 1, 1) := by decide +kernel
theorem dL_does_35 : decode cL_does 35 = .ok (.iconst 2, 1) := by decide +kernel
theorem dL_does_36 : decode cL_does 36 = .ok (.if_icmp .ne 12, 3) := by decide +kernel
theorem dL_does_39 : decode cL_does 39 = .ok (.aload_n 0, 1) := by decide +kernel
theorem dL_does_40 : decode cL_does 40 = .ok (.iload_n 2, 1) := by decide +kernel
theorem dL_does_41 : decode cL_does 41 = .ok (.iload_n 3, 1) := by decide +kernel
theorem dL_does_42 : decode cL_does 42 = .ok (.invokestatic 22, 3) := by decide +kernel
theorem dL_does_45 : decode cL_does 45 = .ok (.goto 85, 3) := by decide +kernel
theorem dL_does_48 : decode cL_does 48 = .ok (.iload_n 1, 1) := by decide +kernel
theorem dL_does_49 : decode cL_does 49 = .ok (.iconst 3, 1) := by decide +kernel
theorem dL_does_50 : decode cL_does 50 = .ok (.if_icmp .ne 12, 3) := by decide +kernel
theorem dL_does_53 : decode cL_does 53 = .ok (.aload_n 0, 1) := by decide +kernel
theorem dL_does_54 : decode cL_does 54 = .ok (.iload_n 2, 1) := by decide +kernel
theorem dL_does_55 : decode cL_does 55 = .ok (.iload_n 3, 1) := by decide +kernel
theorem dL_does_56 : decode cL_does 56 = .ok (.invokevirtual 28, 3) := by decide +kernel
theorem dL_does_59 : decode cL_does 59 = .ok (.goto 71, 3) := by decide +kernel
theorem dL_does_62 : decode cL_does 62 = .ok (.iload_n 1, 1) := by decide +kernel
theorem dL_does_63 : decode cL_does 63 = .ok (.iconst 4, 1) := by decide +kernel
theorem dL_does_64 : decode cL_does 64 = .ok (.if_icmp .ne 12, 3) := by decide +kernel
theorem dL_does_67 : decode cL_does 67 = .ok (.aload_n 0, 1) := by decide +kernel
theorem dL_does_68 : decode cL_does 68 = .ok (.iload_n 2, 1) := by decide +kernel
theorem dL_does_69 : decode cL_does 69 = .ok (.iload_n 3, 1) := by decide +kernel
theorem dL_does_70 : decode cL_does 70 = .ok (.invokevirtual 31, 3) := by decide +kernel
theorem dL_does_73 : decode cL_does 73 = .ok (.goto 57, 3) := by decide +kernel
theorem dL_does_76 : decode cL_does 76 = .ok (.iload_n 1, 1) := by decide +kernel
theorem dL_does_77 : decode cL_does 77 = .ok (.iconst 5, 1) := by decide +kernel
theorem dL_does_78 : decode cL_does 78 = .ok (.if_icmp .ne 11, 3) := by decide +kernel
theorem dL_does_81 : decode cL_does 81 = .ok (.aload_n 0, 1) := by decide +kernel
theorem dL_does_82 : decode cL_does 82 = .ok (.iload_n 2, 1) := by decide +kernel
theorem dL_does_83 : decode cL_does 83 = .ok (.invokevirtual 34, 3) := by decide +kernel
theorem dL_does_86 : decode cL_does 86 = .ok (.goto 44, 3) := by decide +kernel
theorem dL_does_89 : decode cL_does 89 = .ok (.iload_n 1, 1) := by decide +kernel
theorem dL_does_90 : decode cL_does 90 = .ok (.bipush 6, 2) := by decide +kernel
theorem dL_does_92 : decode cL_does 92 = .ok (.if_icmp .ne 12, 3) := by decide +kernel
theorem dL_does_95 : decode cL_does 95 = .ok (.aload_n 0, 1) := by decide +kernel
theorem dL_does_96 : decode cL_does 96 = .ok (.iload_n 2, 1) := by decide +kernel
theorem dL_does_97 : decode cL_does 97 = .ok (.iload_n 3, 1) := by decide +kernel
theorem dL_does_98 : decode cL_does 98 = .ok (.invokevirtual 38, 3) := by decide +kernel
theorem dL_does_101 : decode cL_does 101 = .ok (.goto 29, 3) := by decide +kernel
theorem dL_does_104 : decode cL_does 104 = .ok (.iload_n 1, 1) := by decide +kernel
theorem dL_does_105 : decode cL_does 105 = .ok (.bipush 7, 2) := by decide +kernel
theorem dL_does_107 : decode cL_does 107 = .ok (.if_icmp .ne 19, 3) := by decide +kernel
theorem dL_does_110 : decode cL_does 110 = .ok (.aload_n 0, 1) := by decide +kernel
theorem dL_does_111 : decode cL_does 111 = .ok (.iload_n 2, 1) := by decide +kernel
theorem dL_does_112 : decode cL_does 112 = .ok (.invokevirtual 41, 3) := by decide +kernel
theorem dL_does_115 : decode cL_does 115 = .ok (.ifCond .eq 7, 3) := by decide +kernel
theorem dL_does_118 : decode cL_does 118 = .ok (.iconst 1, 1) := by decide +kernel
theorem dL_does_119 : decode cL_does 119 = .ok (.goto 11, 3) := by decide +kernel
theorem dL_does_122 : decode cL_does 122 = .ok (.iconst 0, 1) := by decide +kernel
theorem dL_does_123 : decode cL_does 123 = .ok (.goto 7, 3) := by decide +kernel
theorem dL_does_126 : decode cL_does 126 = .ok (.aload_n 0, 1) := by decide +kernel
theorem dL_does_127 : decode cL_does 127 = .ok (.invokevirtual 44, 3) := by decide +kernel
theorem dL_does_130 : decode cL_does 130 = .ok (.ireturn, 1) := by decide +kernel
theorem dL_does_131 : decode cL_does 131 = .ok (.astore 4, 2) := by decide +kernel
theorem dL_does_133 : decode cL_does 133 = .ok (.bipush (-30), 2) := by decide +kernel
theorem dL_does_135 : decode cL_does 135 = .ok (.ireturn, 1) := by decide +kernel
theorem dL_does_136 : decode cL_does 136 = .ok (.astore 4, 2) := by decide +kernel
theorem dL_does_138 : decode cL_does 138 = .ok (.bipush (-20), 2) := by decide +kernel
theorem dL_does_140 : decode cL_does 140 = .ok (.ireturn, 1) := by decide +kernel
theorem dL_does_141 : decode cL_does 141 = .ok (.astore 4, 2) := by decide +kernel
theorem dL_does_143 : decode cL_does 143 = .ok (.bipush (-10), 2) := by decide +kernel
theorem dL_does_145 : decode cL_does 145 = .ok (.ireturn, 1) := by decide +kernel
set_option maxRecDepth 20000 in
theorem ggL_asks_X5_sees : GoodIn wsL_asks wsX5_sees := goodIn_ca (goodIn_r _ [6, 7, 8, 9, 5, 10, 11, 12, 13, 14, 15, 16, 17, 18, 19, 20, 21, 22, 23, 24, 25, 26, 27, 28, 29, 30, 31, 109, 110, 111, 112, 113] (by decide +kernel) (by decide +kernel)) (goodIn_sub (fun _ h => List.mem_cons_of_mem _ (List.mem_append_right _ h)) (by decide +kernel))
set_option maxRecDepth 20000 in
theorem gL_asks_X5_sees : GoodIn wsL_asks (wsV RL 54 RX5 yX5_sees wsX5_sees) := goodIn_app (goodIn_of _ (by decide +kernel)) ggL_asks_X5_sees
set_option maxRecDepth 20000 in
theorem ggL_asks_X5_view : GoodIn wsL_asks wsX5_view := goodIn_ca (goodIn_r _ [35, 7, 8, 9, 5, 10, 11, 12, 36, 37, 38, 16, 39, 40, 14, 15, 17, 18, 19, 20, 21, 22, 23, 24, 25, 26, 27, 28, 29, 30, 31, 109, 110, 111, 112, 113] (by decide +kernel) (by decide +kernel)) (goodIn_sub (fun _ h => List.mem_cons_of_mem _ (List.mem_append_right _ h)) (by decide +kernel))
set_option maxRecDepth 20000 in
theorem gL_asks_X5_view : GoodIn wsL_asks (wsV RL 58 RX5 yX5_view wsX5_view) := goodIn_app (goodIn_of _ (by decide +kernel)) ggL_asks_X5_view
set_option maxRecDepth 20000 in
theorem ggL_asks_X5_where : GoodIn wsL_asks wsX5_where := goodIn_ca (goodIn_r _ [44, 45, 46, 47, 5, 48, 11, 12, 49, 50, 51, 52, 53, 54, 109, 110, 111, 112, 114, 115, 116, 117, 118, 119, 120, 121] (by decide +kernel) (by decide +kernel)) (goodIn_sub (fun _ h => List.mem_cons_of_mem _ (List.mem_append_right _ h)) (by decide +kernel))
set_option maxRecDepth 20000 in
theorem gL_asks_X5_where : GoodIn wsL_asks (wsV RL 61 RX5 yX5_where wsX5_where) := goodIn_app (goodIn_of _ (by decide +kernel)) ggL_asks_X5_where
set_option maxRecDepth 20000 in
theorem ggL_asks_X5_hit : GoodIn wsL_asks wsX5_hit := goodIn_ca (goodIn_r _ [58, 45, 46, 47, 5, 48, 11, 12, 59, 60, 61, 52, 62, 63, 109, 110, 111, 112, 114, 115, 116, 117, 118, 119, 120, 121] (by decide +kernel) (by decide +kernel)) (goodIn_sub (fun _ h => List.mem_cons_of_mem _ (List.mem_append_right _ h)) (by decide +kernel))
set_option maxRecDepth 20000 in
theorem gL_asks_X5_hit : GoodIn wsL_asks (wsV RL 64 RX5 yX5_hit wsX5_hit) := goodIn_app (goodIn_of _ (by decide +kernel)) ggL_asks_X5_hit
set_option maxRecDepth 20000 in
theorem ggL_asks_X5_points : GoodIn wsL_asks wsX5_points := goodIn_ca (goodIn_r _ [67, 68, 69, 70, 5, 71, 11, 12, 72, 73, 74, 75, 76, 77, 109, 110, 111, 112, 122, 123, 124, 125] (by decide +kernel) (by decide +kernel)) (goodIn_sub (fun _ h => List.mem_cons_of_mem _ (List.mem_append_right _ h)) (by decide +kernel))
set_option maxRecDepth 20000 in
theorem gL_asks_X5_points : GoodIn wsL_asks (wsV RL 67 RX5 yX5_points wsX5_points) := goodIn_app (goodIn_of _ (by decide +kernel)) ggL_asks_X5_points
set_option maxRecDepth 20000 in
theorem ggL_asks_X5_fines : GoodIn wsL_asks wsX5_fines := goodIn_ca (goodIn_r _ [81, 68, 69, 70, 5, 71, 11, 12, 82, 83, 84, 75, 85, 86, 109, 110, 111, 112, 122, 123, 124, 125] (by decide +kernel) (by decide +kernel)) (goodIn_sub (fun _ h => List.mem_cons_of_mem _ (List.mem_append_right _ h)) (by decide +kernel))
set_option maxRecDepth 20000 in
theorem gL_asks_X5_fines : GoodIn wsL_asks (wsV RL 70 RX5 yX5_fines wsX5_fines) := goodIn_app (goodIn_of _ (by decide +kernel)) ggL_asks_X5_fines
set_option maxRecDepth 20000 in
theorem ggL_asks_X5_difference : GoodIn wsL_asks wsX5_difference := goodIn_ca (goodIn_r _ [90, 68, 69, 70, 5, 71, 11, 12, 91, 92, 93, 75, 94, 95, 109, 110, 111, 112, 122, 123, 124, 125] (by decide +kernel) (by decide +kernel)) (goodIn_sub (fun _ h => List.mem_cons_of_mem _ (List.mem_append_right _ h)) (by decide +kernel))
set_option maxRecDepth 20000 in
theorem gL_asks_X5_difference : GoodIn wsL_asks (wsV RL 73 RX5 yX5_difference wsX5_difference) := goodIn_app (goodIn_of _ (by decide +kernel)) ggL_asks_X5_difference
set_option maxRecDepth 20000 in
theorem ggL_asks_X5_place : GoodIn wsL_asks wsX5_place := goodIn_ca (goodIn_r _ [99, 68, 69, 70, 5, 71, 11, 12, 100, 101, 102, 75, 103, 104, 105, 106, 107, 77, 108, 95, 109, 110, 111, 112, 122, 123, 124, 125] (by decide +kernel) (by decide +kernel)) (goodIn_sub (fun _ h => List.mem_cons_of_mem _ (List.mem_append_right _ h)) (by decide +kernel))
set_option maxRecDepth 20000 in
theorem gL_asks_X5_place : GoodIn wsL_asks (wsV RL 76 RX5 yX5_place wsX5_place) := goodIn_app (goodIn_of _ (by decide +kernel)) ggL_asks_X5_place
theorem dL_asks_0 : decode cL_asks 0 = .ok (.iload_n 1, 1) := by decide +kernel
theorem dL_asks_1 : decode cL_asks 1 = .ok (.ifCond .ne 20, 3) := by decide +kernel
theorem dL_asks_4 : decode cL_asks 4 = .ok (.aload_n 0, 1) := by decide +kernel
theorem dL_asks_5 : decode cL_asks 5 = .ok (.iload_n 2, 1) := by decide +kernel
theorem dL_asks_6 : decode cL_asks 6 = .ok (.iload_n 3, 1) := by decide +kernel
theorem dL_asks_7 : decode cL_asks 7 = .ok (.invokevirtual 54, 3) := by decide +kernel
theorem dL_asks_10 : decode cL_asks 10 = .ok (.ifCond .eq 7, 3) := by decide +kernel
theorem dL_asks_13 : decode cL_asks 13 = .ok (.iconst 1, 1) := by decide +kernel
theorem dL_asks_14 : decode cL_asks 14 = .ok (.goto 91, 3) := by decide +kernel
theorem dL_asks_17 : decode cL_asks 17 = .ok (.iconst 0, 1) := by decide +kernel
theorem dL_asks_18 : decode cL_asks 18 = .ok (.goto 87, 3) := by decide +kernel
theorem dL_asks_21 : decode cL_asks 21 = .ok (.iload_n 1, 1) := by decide +kernel
theorem dL_asks_22 : decode cL_asks 22 = .ok (.iconst 1, 1) := by decide +kernel
theorem dL_asks_23 : decode cL_asks 23 = .ok (.if_icmp .ne 11, 3) := by decide +kernel
theorem dL_asks_26 : decode cL_asks 26 = .ok (.aload_n 0, 1) := by decide +kernel
theorem dL_asks_27 : decode cL_asks 27 = .ok (.iload_n 2, 1) := by decide +kernel
theorem dL_asks_28 : decode cL_asks 28 = .ok (.invokevirtual 58, 3) := by decide +kernel
theorem dL_asks_31 : decode cL_asks 31 = .ok (.goto 74, 3) := by decide +kernel
theorem dL_asks_34 : decode cL_asks 34 = .ok (.iload_n 1, 1) := by decide +kernel
theorem dL_asks_35 : decode cL_asks 35 = .ok (.iconst 2, 1) := by decide +kernel
theorem dL_asks_36 : decode cL_asks 36 = .ok (.if_icmp .ne 11, 3) := by decide +kernel
theorem dL_asks_39 : decode cL_asks 39 = .ok (.aload_n 0, 1) := by decide +kernel
theorem dL_asks_40 : decode cL_asks 40 = .ok (.iload_n 2, 1) := by decide +kernel
theorem dL_asks_41 : decode cL_asks 41 = .ok (.invokevirtual 61, 3) := by decide +kernel
theorem dL_asks_44 : decode cL_asks 44 = .ok (.goto 61, 3) := by decide +kernel
theorem dL_asks_47 : decode cL_asks 47 = .ok (.iload_n 1, 1) := by decide +kernel
theorem dL_asks_48 : decode cL_asks 48 = .ok (.iconst 3, 1) := by decide +kernel
theorem dL_asks_49 : decode cL_asks 49 = .ok (.if_icmp .ne 11, 3) := by decide +kernel
theorem dL_asks_52 : decode cL_asks 52 = .ok (.aload_n 0, 1) := by decide +kernel
theorem dL_asks_53 : decode cL_asks 53 = .ok (.iload_n 2, 1) := by decide +kernel
theorem dL_asks_54 : decode cL_asks 54 = .ok (.invokevirtual 64, 3) := by decide +kernel
theorem dL_asks_57 : decode cL_asks 57 = .ok (.goto 48, 3) := by decide +kernel
theorem dL_asks_60 : decode cL_asks 60 = .ok (.iload_n 1, 1) := by decide +kernel
theorem dL_asks_61 : decode cL_asks 61 = .ok (.iconst 4, 1) := by decide +kernel
theorem dL_asks_62 : decode cL_asks 62 = .ok (.if_icmp .ne 11, 3) := by decide +kernel
theorem dL_asks_65 : decode cL_asks 65 = .ok (.aload_n 0, 1) := by decide +kernel
theorem dL_asks_66 : decode cL_asks 66 = .ok (.iload_n 2, 1) := by decide +kernel
theorem dL_asks_67 : decode cL_asks 67 = .ok (.invokevirtual 67, 3) := by decide +kernel
theorem dL_asks_70 : decode cL_asks 70 = .ok (.goto 35, 3) := by decide +kernel
theorem dL_asks_73 : decode cL_asks 73 = .ok (.iload_n 1, 1) := by decide +kernel
theorem dL_asks_74 : decode cL_asks 74 = .ok (.iconst 5, 1) := by decide +kernel
theorem dL_asks_75 : decode cL_asks 75 = .ok (.if_icmp .ne 11, 3) := by decide +kernel
theorem dL_asks_78 : decode cL_asks 78 = .ok (.aload_n 0, 1) := by decide +kernel
theorem dL_asks_79 : decode cL_asks 79 = .ok (.iload_n 2, 1) := by decide +kernel
theorem dL_asks_80 : decode cL_asks 80 = .ok (.invokevirtual 70, 3) := by decide +kernel
theorem dL_asks_83 : decode cL_asks 83 = .ok (.goto 22, 3) := by decide +kernel
theorem dL_asks_86 : decode cL_asks 86 = .ok (.iload_n 1, 1) := by decide +kernel
theorem dL_asks_87 : decode cL_asks 87 = .ok (.bipush 6, 2) := by decide +kernel
theorem dL_asks_89 : decode cL_asks 89 = .ok (.if_icmp .ne 11, 3) := by decide +kernel
theorem dL_asks_92 : decode cL_asks 92 = .ok (.aload_n 0, 1) := by decide +kernel
theorem dL_asks_93 : decode cL_asks 93 = .ok (.iload_n 2, 1) := by decide +kernel
theorem dL_asks_94 : decode cL_asks 94 = .ok (.invokevirtual 73, 3) := by decide +kernel
theorem dL_asks_97 : decode cL_asks 97 = .ok (.goto 8, 3) := by decide +kernel
theorem dL_asks_100 : decode cL_asks 100 = .ok (.aload_n 0, 1) := by decide +kernel
theorem dL_asks_101 : decode cL_asks 101 = .ok (.iload_n 2, 1) := by decide +kernel
theorem dL_asks_102 : decode cL_asks 102 = .ok (.invokevirtual 76, 3) := by decide +kernel
theorem dL_asks_105 : decode cL_asks 105 = .ok (.ireturn, 1) := by decide +kernel
theorem dL_asks_106 : decode cL_asks 106 = .ok (.astore 4, 2) := by decide +kernel
theorem dL_asks_108 : decode cL_asks 108 = .ok (.bipush (-30), 2) := by decide +kernel
theorem dL_asks_110 : decode cL_asks 110 = .ok (.ireturn, 1) := by decide +kernel
theorem dL_isBunker_0 : decode cL_isBunker 0 = .ok (.aload_n 0, 1) := by decide +kernel
theorem dL_isBunker_1 : decode cL_isBunker 1 = .ok (.iload_n 1, 1) := by decide +kernel
theorem dL_isBunker_2 : decode cL_isBunker 2 = .ok (.bipush 12, 2) := by decide +kernel
theorem dL_isBunker_4 : decode cL_isBunker 4 = .ok (.idiv, 1) := by decide +kernel
theorem dL_isBunker_5 : decode cL_isBunker 5 = .ok (.iaload, 1) := by decide +kernel
theorem dL_isBunker_6 : decode cL_isBunker 6 = .ok (.iload_n 1, 1) := by decide +kernel
theorem dL_isBunker_7 : decode cL_isBunker 7 = .ok (.bipush 12, 2) := by decide +kernel
theorem dL_isBunker_9 : decode cL_isBunker 9 = .ok (.irem, 1) := by decide +kernel
theorem dL_isBunker_10 : decode cL_isBunker 10 = .ok (.ishr, 1) := by decide +kernel
theorem dL_isBunker_11 : decode cL_isBunker 11 = .ok (.iconst 1, 1) := by decide +kernel
theorem dL_isBunker_12 : decode cL_isBunker 12 = .ok (.iand, 1) := by decide +kernel
theorem dL_isBunker_13 : decode cL_isBunker 13 = .ok (.iconst 1, 1) := by decide +kernel
theorem dL_isBunker_14 : decode cL_isBunker 14 = .ok (.if_icmp .ne 7, 3) := by decide +kernel
theorem dL_isBunker_17 : decode cL_isBunker 17 = .ok (.iconst 1, 1) := by decide +kernel
theorem dL_isBunker_18 : decode cL_isBunker 18 = .ok (.goto 4, 3) := by decide +kernel
theorem dL_isBunker_21 : decode cL_isBunker 21 = .ok (.iconst 0, 1) := by decide +kernel
theorem dL_isBunker_22 : decode cL_isBunker 22 = .ok (.ireturn, 1) := by decide +kernel
theorem dL_apart_0 : decode cL_apart 0 = .ok (.iload_n 0, 1) := by decide +kernel
theorem dL_apart_1 : decode cL_apart 1 = .ok (.bipush 12, 2) := by decide +kernel
theorem dL_apart_3 : decode cL_apart 3 = .ok (.idiv, 1) := by decide +kernel
theorem dL_apart_4 : decode cL_apart 4 = .ok (.iload_n 1, 1) := by decide +kernel
theorem dL_apart_5 : decode cL_apart 5 = .ok (.bipush 12, 2) := by decide +kernel
theorem dL_apart_7 : decode cL_apart 7 = .ok (.idiv, 1) := by decide +kernel
theorem dL_apart_8 : decode cL_apart 8 = .ok (.if_icmp .le 15, 3) := by decide +kernel
theorem dL_apart_11 : decode cL_apart 11 = .ok (.iload_n 0, 1) := by decide +kernel
theorem dL_apart_12 : decode cL_apart 12 = .ok (.bipush 12, 2) := by decide +kernel
theorem dL_apart_14 : decode cL_apart 14 = .ok (.idiv, 1) := by decide +kernel
theorem dL_apart_15 : decode cL_apart 15 = .ok (.iload_n 1, 1) := by decide +kernel
theorem dL_apart_16 : decode cL_apart 16 = .ok (.bipush 12, 2) := by decide +kernel
theorem dL_apart_18 : decode cL_apart 18 = .ok (.idiv, 1) := by decide +kernel
theorem dL_apart_19 : decode cL_apart 19 = .ok (.isub, 1) := by decide +kernel
theorem dL_apart_20 : decode cL_apart 20 = .ok (.goto 12, 3) := by decide +kernel
theorem dL_apart_23 : decode cL_apart 23 = .ok (.iload_n 1, 1) := by decide +kernel
theorem dL_apart_24 : decode cL_apart 24 = .ok (.bipush 12, 2) := by decide +kernel
theorem dL_apart_26 : decode cL_apart 26 = .ok (.idiv, 1) := by decide +kernel
theorem dL_apart_27 : decode cL_apart 27 = .ok (.iload_n 0, 1) := by decide +kernel
theorem dL_apart_28 : decode cL_apart 28 = .ok (.bipush 12, 2) := by decide +kernel
theorem dL_apart_30 : decode cL_apart 30 = .ok (.idiv, 1) := by decide +kernel
theorem dL_apart_31 : decode cL_apart 31 = .ok (.isub, 1) := by decide +kernel
theorem dL_apart_32 : decode cL_apart 32 = .ok (.istore_n 2, 1) := by decide +kernel
theorem dL_apart_33 : decode cL_apart 33 = .ok (.iload_n 0, 1) := by decide +kernel
theorem dL_apart_34 : decode cL_apart 34 = .ok (.bipush 12, 2) := by decide +kernel
theorem dL_apart_36 : decode cL_apart 36 = .ok (.irem, 1) := by decide +kernel
theorem dL_apart_37 : decode cL_apart 37 = .ok (.iload_n 1, 1) := by decide +kernel
theorem dL_apart_38 : decode cL_apart 38 = .ok (.bipush 12, 2) := by decide +kernel
theorem dL_apart_40 : decode cL_apart 40 = .ok (.irem, 1) := by decide +kernel
theorem dL_apart_41 : decode cL_apart 41 = .ok (.if_icmp .le 15, 3) := by decide +kernel
theorem dL_apart_44 : decode cL_apart 44 = .ok (.iload_n 0, 1) := by decide +kernel
theorem dL_apart_45 : decode cL_apart 45 = .ok (.bipush 12, 2) := by decide +kernel
theorem dL_apart_47 : decode cL_apart 47 = .ok (.irem, 1) := by decide +kernel
theorem dL_apart_48 : decode cL_apart 48 = .ok (.iload_n 1, 1) := by decide +kernel
theorem dL_apart_49 : decode cL_apart 49 = .ok (.bipush 12, 2) := by decide +kernel
theorem dL_apart_51 : decode cL_apart 51 = .ok (.irem, 1) := by decide +kernel
theorem dL_apart_52 : decode cL_apart 52 = .ok (.isub, 1) := by decide +kernel
theorem dL_apart_53 : decode cL_apart 53 = .ok (.goto 12, 3) := by decide +kernel
theorem dL_apart_56 : decode cL_apart 56 = .ok (.iload_n 1, 1) := by decide +kernel
theorem dL_apart_57 : decode cL_apart 57 = .ok (.bipush 12, 2) := by decide +kernel
theorem dL_apart_59 : decode cL_apart 59 = .ok (.irem, 1) := by decide +kernel
theorem dL_apart_60 : decode cL_apart 60 = .ok (.iload_n 0, 1) := by decide +kernel
theorem dL_apart_61 : decode cL_apart 61 = .ok (.bipush 12, 2) := by decide +kernel
theorem dL_apart_63 : decode cL_apart 63 = .ok (.irem, 1) := by decide +kernel
theorem dL_apart_64 : decode cL_apart 64 = .ok (.isub, 1) := by decide +kernel
theorem dL_apart_65 : decode cL_apart 65 = .ok (.istore_n 3, 1) := by decide +kernel
theorem dL_apart_66 : decode cL_apart 66 = .ok (.iload_n 2, 1) := by decide +kernel
theorem dL_apart_67 : decode cL_apart 67 = .ok (.iload_n 3, 1) := by decide +kernel
theorem dL_apart_68 : decode cL_apart 68 = .ok (.if_icmp .le 7, 3) := by decide +kernel
theorem dL_apart_71 : decode cL_apart 71 = .ok (.iload_n 2, 1) := by decide +kernel
theorem dL_apart_72 : decode cL_apart 72 = .ok (.goto 4, 3) := by decide +kernel
theorem dL_apart_75 : decode cL_apart 75 = .ok (.iload_n 3, 1) := by decide +kernel
theorem dL_apart_76 : decode cL_apart 76 = .ok (.ireturn, 1) := by decide +kernel
set_option maxRecDepth 20000 in
theorem ggL_isSight_X5_sees : GoodIn wsL_isSight wsX5_sees := goodIn_ca (goodIn_r _ [5, 6, 7, 8, 4, 9, 10, 11, 12, 13, 14, 15, 16, 17, 18, 19, 20, 21, 22, 23, 24, 25, 26, 27, 28, 29, 30, 38, 39, 40, 41, 42] (by decide +kernel) (by decide +kernel)) (goodIn_sub (fun _ h => List.mem_cons_of_mem _ (List.mem_append_right _ h)) (by decide +kernel))
set_option maxRecDepth 20000 in
theorem gL_isSight_X5_sees : GoodIn wsL_isSight (wsV RL 54 RX5 yX5_sees wsX5_sees) := goodIn_app (goodIn_of _ (by decide +kernel)) ggL_isSight_X5_sees
set_option maxRecDepth 20000 in
theorem ggL_isSight_L_isBunker : GoodIn wsL_isSight wsL_isBunker := goodIn_r _ [34] (by decide +kernel) (by decide +kernel)
set_option maxRecDepth 20000 in
theorem gL_isSight_L_isBunker : GoodIn wsL_isSight (va_wsS RL 79 yL_isBunker wsL_isBunker) := goodIn_app (goodIn_of _ (by decide +kernel)) ggL_isSight_L_isBunker
set_option maxRecDepth 20000 in
theorem ggL_isSight_L_apart : GoodIn wsL_isSight wsL_apart := goodIn_r _ [37] (by decide +kernel) (by decide +kernel)
set_option maxRecDepth 20000 in
theorem gL_isSight_L_apart : GoodIn wsL_isSight (va_wsS RL 83 yL_apart wsL_apart) := goodIn_app (goodIn_of _ (by decide +kernel)) ggL_isSight_L_apart
