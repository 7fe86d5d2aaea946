theorem wsL_law_x0 : ∀ w ∈ (vx_atS RX5 139 "java/lang/IndexOutOfBoundsException" ["java/lang/RuntimeException", "java/lang/Exception"]).filter goodWord, w ∈ lw_tbl := by decide +kernel
theorem wsL_law_x1 : ∀ w ∈ (vx_atS RX5 46 "java/lang/IllegalStateException" ["java/lang/RuntimeException", "java/lang/Exception"]).filter goodWord, w ∈ lw_tbl := by decide +kernel
theorem wsL_law_x2 : ∀ w ∈ (vx_atS RX5 71 "java/lang/IllegalArgumentException" ["java/lang/RuntimeException", "java/lang/Exception"]).filter goodWord, w ∈ lw_tbl := by decide +kernel
theorem wsL_law_in : ∀ w ∈ wsL_law, w ∈ lw_tbl := fun w h => (List.mem_append.mp h).elim (fun h => (List.mem_append.mp h).elim (fun h => (List.mem_append.mp h).elim (fun h => wsL_law_in0 w h) (fun h => wsL_law_x0 w h)) (fun h => wsL_law_x1 w h)) (fun h => wsL_law_x2 w h)
theorem inlX0 : ∀ w ∈ wsX00, w ∈ wsL_law := fun _ h => List.mem_append_left _ (List.mem_append_left _ (List.mem_append_left _ (List.mem_append_left _ (List.mem_append_right _ h))))
theorem inX0 : ∀ w ∈ wsX00, w ∈ lw_tbl := fun w h => wsL_law_in w (inlX0 w h)
theorem inlX1 : ∀ w ∈ wsX10, w ∈ wsL_law := fun _ h => List.mem_append_left _ (List.mem_append_left _ (List.mem_append_left _ (List.mem_append_left _ (List.mem_append_left _ (List.mem_append_left _ (List.mem_append_left _ (List.mem_append_left _ (List.mem_append_right _ h))))))))
theorem inX1 : ∀ w ∈ wsX10, w ∈ lw_tbl := fun w h => wsL_law_in w (inlX1 w h)
theorem inlX2 : ∀ w ∈ wsX20, w ∈ wsL_law := fun _ h => List.mem_append_left _ (List.mem_append_left _ (List.mem_append_left _ (List.mem_append_left _ (List.mem_append_left _ (List.mem_append_left _ (List.mem_append_left _ (List.mem_append_right _ h)))))))
theorem inX2 : ∀ w ∈ wsX20, w ∈ lw_tbl := fun w h => wsL_law_in w (inlX2 w h)
theorem inlX3 : ∀ w ∈ wsX30, w ∈ wsL_law := fun _ h => List.mem_append_left _ (List.mem_append_left _ (List.mem_append_left _ (List.mem_append_left _ (List.mem_append_left _ (List.mem_append_right _ h)))))
theorem inX3 : ∀ w ∈ wsX30, w ∈ lw_tbl := fun w h => wsL_law_in w (inlX3 w h)
theorem inlX4 : ∀ w ∈ wsX40, w ∈ wsL_law := fun _ h => List.mem_append_left _ (List.mem_append_left _ (List.mem_append_left _ (List.mem_append_left _ (List.mem_append_left _ (List.mem_append_left _ (List.mem_append_right _ h))))))
theorem inX4 : ∀ w ∈ wsX40, w ∈ lw_tbl := fun w h => wsL_law_in w (inlX4 w h)
theorem inlX5 : ∀ w ∈ wsX50, w ∈ wsL_law := fun _ h => List.mem_append_left _ (List.mem_append_left _ (List.mem_append_left _ (List.mem_append_left _ (List.mem_append_left _ (List.mem_append_left _ (List.mem_append_left _ (List.mem_append_left _ (List.mem_append_left _ (List.mem_append_right _ h)))))))))
theorem inX5 : ∀ w ∈ wsX50, w ∈ lw_tbl := fun w h => wsL_law_in w (inlX5 w h)
theorem inX6 : ∀ w ∈ wsX60, w ∈ lw_tbl := by decide +kernel
theorem inJ9 : ∀ w ∈ wsJ90, w ∈ lw_tbl := by decide +kernel
theorem inJ0 : ∀ w ∈ wsJ00, w ∈ lw_tbl := by decide +kernel
theorem dX0_init_0 : decode cX0_init 0 = .ok (.aload_n 0, 1) := by decide +kernel
theorem dX0_init_1 : decode cX0_init 1 = .ok (.invokespecial 3, 3) := by decide +kernel
theorem dX0_init_4 : decode cX0_init 4 = .ok (.aload_n 0, 1) := by decide +kernel
theorem dX0_init_5 : decode cX0_init 5 = .ok (.sipush 512, 3) := by decide +kernel
theorem dX0_init_8 : decode cX0_init 8 = .ok (.newarray .int, 2) := by decide +kernel
theorem dX0_init_10 : decode cX0_init 10 = .ok (.putfield 9, 3) := by decide +kernel
theorem dX0_init_13 : decode cX0_init 13 = .ok (.aload_n 0, 1) := by decide +kernel
theorem dX0_init_14 : decode cX0_init 14 = .ok (.sipush 512, 3) := by decide +kernel
theorem dX0_init_17 : decode cX0_init 17 = .ok (.newarray .int, 2) := by decide +kernel
theorem dX0_init_19 : decode cX0_init 19 = .ok (.putfield 15, 3) := by decide +kernel
theorem dX0_init_22 : decode cX0_init 22 = .ok (.aload_n 0, 1) := by decide +kernel
theorem dX0_init_23 : decode cX0_init 23 = .ok (.sipush 512, 3) := by decide +kernel
theorem dX0_init_26 : decode cX0_init 26 = .ok (.newarray .int, 2) := by decide +kernel
theorem dX0_init_28 : decode cX0_init 28 = .ok (.putfield 18, 3) := by decide +kernel
theorem dX0_init_31 : decode cX0_init 31 = .ok (.aload_n 0, 1) := by decide +kernel
theorem dX0_init_32 : decode cX0_init 32 = .ok (.sipush 512, 3) := by decide +kernel
theorem dX0_init_35 : decode cX0_init 35 = .ok (.newarray .boolean, 2) := by decide +kernel
theorem dX0_init_37 : decode cX0_init 37 = .ok (.putfield 21, 3) := by decide +kernel
theorem dX0_init_40 : decode cX0_init 40 = .ok (.return_, 1) := by decide +kernel
theorem dX0_add_0 : decode cX0_add 0 = .ok (.aload_n 0, 1) := by decide +kernel
theorem dX0_add_1 : decode cX0_add 1 = .ok (.getfield 9, 3) := by decide +kernel
theorem dX0_add_4 : decode cX0_add 4 = .ok (.aload_n 0, 1) := by decide +kernel
theorem dX0_add_5 : decode cX0_add 5 = .ok (.getfield 25, 3) := by decide +kernel
theorem dX0_add_8 : decode cX0_add 8 = .ok (.iload_n 1, 1) := by decide +kernel
theorem dX0_add_9 : decode cX0_add 9 = .ok (.iastore, 1) := by decide +kernel
theorem dX0_add_10 : decode cX0_add 10 = .ok (.aload_n 0, 1) := by decide +kernel
theorem dX0_add_11 : decode cX0_add 11 = .ok (.getfield 15, 3) := by decide +kernel
theorem dX0_add_14 : decode cX0_add 14 = .ok (.aload_n 0, 1) := by decide +kernel
theorem dX0_add_15 : decode cX0_add 15 = .ok (.getfield 25, 3) := by decide +kernel
theorem dX0_add_18 : decode cX0_add 18 = .ok (.iload_n 2, 1) := by decide +kernel
theorem dX0_add_19 : decode cX0_add 19 = .ok (.iastore, 1) := by decide +kernel
theorem dX0_add_20 : decode cX0_add 20 = .ok (.aload_n 0, 1) := by decide +kernel
theorem dX0_add_21 : decode cX0_add 21 = .ok (.getfield 18, 3) := by decide +kernel
theorem dX0_add_24 : decode cX0_add 24 = .ok (.aload_n 0, 1) := by decide +kernel
theorem dX0_add_25 : decode cX0_add 25 = .ok (.getfield 25, 3) := by decide +kernel
theorem dX0_add_28 : decode cX0_add 28 = .ok (.iload_n 3, 1) := by decide +kernel
theorem dX0_add_29 : decode cX0_add 29 = .ok (.iastore, 1) := by decide +kernel
theorem dX0_add_30 : decode cX0_add 30 = .ok (.aload_n 0, 1) := by decide +kernel
theorem dX0_add_31 : decode cX0_add 31 = .ok (.getfield 21, 3) := by decide +kernel
theorem dX0_add_34 : decode cX0_add 34 = .ok (.aload_n 0, 1) := by decide +kernel
theorem dX0_add_35 : decode cX0_add 35 = .ok (.getfield 25, 3) := by decide +kernel
theorem dX0_add_38 : decode cX0_add 38 = .ok (.iconst 0, 1) := by decide +kernel
theorem dX0_add_39 : decode cX0_add 39 = .ok (.bastore, 1) := by decide +kernel
theorem dX0_add_40 : decode cX0_add 40 = .ok (.aload_n 0, 1) := by decide +kernel
theorem dX0_add_41 : decode cX0_add 41 = .ok (.dup, 1) := by decide +kernel
theorem dX0_add_42 : decode cX0_add 42 = .ok (.getfield 25, 3) := by decide +kernel
theorem dX0_add_45 : decode cX0_add 45 = .ok (.iconst 1, 1) := by decide +kernel
theorem dX0_add_46 : decode cX0_add 46 = .ok (.iadd, 1) := by decide +kernel
theorem dX0_add_47 : decode cX0_add 47 = .ok (.putfield 25, 3) := by decide +kernel
theorem dX0_add_50 : decode cX0_add 50 = .ok (.aload_n 0, 1) := by decide +kernel
theorem dX0_add_51 : decode cX0_add 51 = .ok (.getfield 25, 3) := by decide +kernel
theorem dX0_add_54 : decode cX0_add 54 = .ok (.iconst 1, 1) := by decide +kernel
theorem dX0_add_55 : decode cX0_add 55 = .ok (.isub, 1) := by decide +kernel
theorem dX0_add_56 : decode cX0_add 56 = .ok (.ireturn, 1) := by decide +kernel
theorem dX1_init_0 : decode cX1_init 0 = .ok (.aload_n 0, 1) := by decide +kernel
theorem dX1_init_1 : decode cX1_init 1 = .ok (.invokespecial 3, 3) := by decide +kernel
theorem dX1_init_4 : decode cX1_init 4 = .ok (.aload_n 0, 1) := by decide +kernel
theorem dX1_init_5 : decode cX1_init 5 = .ok (.sipush 144, 3) := by decide +kernel
theorem dX1_init_8 : decode cX1_init 8 = .ok (.newarray .boolean, 2) := by decide +kernel
theorem dX1_init_10 : decode cX1_init 10 = .ok (.putfield 9, 3) := by decide +kernel
theorem dX1_init_13 : decode cX1_init 13 = .ok (.return_, 1) := by decide +kernel
theorem dX1_distance_0 : decode cX1_distance 0 = .ok (.iload_n 0, 1) := by decide +kernel
theorem dX1_distance_1 : decode cX1_distance 1 = .ok (.bipush 12, 2) := by decide +kernel
theorem dX1_distance_3 : decode cX1_distance 3 = .ok (.idiv, 1) := by decide +kernel
theorem dX1_distance_4 : decode cX1_distance 4 = .ok (.iload_n 1, 1) := by decide +kernel
theorem dX1_distance_5 : decode cX1_distance 5 = .ok (.bipush 12, 2) := by decide +kernel
theorem dX1_distance_7 : decode cX1_distance 7 = .ok (.idiv, 1) := by decide +kernel
theorem dX1_distance_8 : decode cX1_distance 8 = .ok (.isub, 1) := by decide +kernel
theorem dX1_distance_9 : decode cX1_distance 9 = .ok (.invokestatic 15, 3) := by decide +kernel
theorem dX1_distance_12 : decode cX1_distance 12 = .ok (.istore_n 2, 1) := by decide +kernel
theorem dX1_distance_13 : decode cX1_distance 13 = .ok (.iload_n 0, 1) := by decide +kernel
theorem dX1_distance_14 : decode cX1_distance 14 = .ok (.bipush 12, 2) := by decide +kernel
theorem dX1_distance_16 : decode cX1_distance 16 = .ok (.irem, 1) := by decide +kernel
theorem dX1_distance_17 : decode cX1_distance 17 = .ok (.iload_n 1, 1) := by decide +kernel
theorem dX1_distance_18 : decode cX1_distance 18 = .ok (.bipush 12, 2) := by decide +kernel
theorem dX1_distance_20 : decode cX1_distance 20 = .ok (.irem, 1) := by decide +kernel
theorem dX1_distance_21 : decode cX1_distance 21 = .ok (.isub, 1) := by decide +kernel
theorem dX1_distance_22 : decode cX1_distance 22 = .ok (.invokestatic 15, 3) := by decide +kernel
theorem dX1_distance_25 : decode cX1_distance 25 = .ok (.istore_n 3, 1) := by decide +kernel
theorem dX1_distance_26 : decode cX1_distance 26 = .ok (.iload_n 2, 1) := by decide +kernel
theorem dX1_distance_27 : decode cX1_distance 27 = .ok (.iload_n 3, 1) := by decide +kernel
theorem dX1_distance_28 : decode cX1_distance 28 = .ok (.invokestatic 21, 3) := by decide +kernel
theorem dX1_distance_31 : decode cX1_distance 31 = .ok (.ireturn, 1) := by decide +kernel
theorem dX1_hasBunker_0 : decode cX1_hasBunker 0 = .ok (.aload_n 0, 1) := by decide +kernel
theorem dX1_hasBunker_1 : decode cX1_hasBunker 1 = .ok (.getfield 9, 3) := by decide +kernel
theorem dX1_hasBunker_4 : decode cX1_hasBunker 4 = .ok (.iload_n 1, 1) := by decide +kernel
theorem dX1_hasBunker_5 : decode cX1_hasBunker 5 = .ok (.baload, 1) := by decide +kernel
theorem dX1_hasBunker_6 : decode cX1_hasBunker 6 = .ok (.ireturn, 1) := by decide +kernel
theorem dX1_turnBunker_0 : decode cX1_turnBunker 0 = .ok (.aload_n 0, 1) := by decide +kernel
theorem dX1_turnBunker_1 : decode cX1_turnBunker 1 = .ok (.getfield 9, 3) := by decide +kernel
theorem dX1_turnBunker_4 : decode cX1_turnBunker 4 = .ok (.iload_n 1, 1) := by decide +kernel
theorem dX1_turnBunker_5 : decode cX1_turnBunker 5 = .ok (.aload_n 0, 1) := by decide +kernel
theorem dX1_turnBunker_6 : decode cX1_turnBunker 6 = .ok (.getfield 9, 3) := by decide +kernel
theorem dX1_turnBunker_9 : decode cX1_turnBunker 9 = .ok (.iload_n 1, 1) := by decide +kernel
theorem dX1_turnBunker_10 : decode cX1_turnBunker 10 = .ok (.baload, 1) := by decide +kernel
theorem dX1_turnBunker_11 : decode cX1_turnBunker 11 = .ok (.ifCond .ne 7, 3) := by decide +kernel
theorem dX1_turnBunker_14 : decode cX1_turnBunker 14 = .ok (.iconst 1, 1) := by decide +kernel
theorem dX1_turnBunker_15 : decode cX1_turnBunker 15 = .ok (.goto 4, 3) := by decide +kernel
theorem dX1_turnBunker_18 : decode cX1_turnBunker 18 = .ok (.iconst 0, 1) := by decide +kernel
theorem dX1_turnBunker_19 : decode cX1_turnBunker 19 = .ok (.bastore, 1) := by decide +kernel
theorem dX1_turnBunker_20 : decode cX1_turnBunker 20 = .ok (.aload_n 0, 1) := by decide +kernel
theorem dX1_turnBunker_21 : decode cX1_turnBunker 21 = .ok (.getfield 9, 3) := by decide +kernel
theorem dX1_turnBunker_24 : decode cX1_turnBunker 24 = .ok (.iload_n 1, 1) := by decide +kernel
theorem dX1_turnBunker_25 : decode cX1_turnBunker 25 = .ok (.baload, 1) := by decide +kernel
theorem dX1_turnBunker_26 : decode cX1_turnBunker 26 = .ok (.ireturn, 1) := by decide +kernel
set_option maxRecDepth 20000 in
theorem ggX1_countSeen_X1_hasSight : GoodIn wsX1_countSeen wsX1_hasSight := goodIn_r _ [5, 6, 7, 8, 9, 10, 11, 12, 13, 14, 15, 4, 16, 17, 18, 19, 20] (by decide +kernel) (by decide +kernel)
set_option maxRecDepth 20000 in
theorem gX1_countSeen_X1_hasSight : GoodIn wsX1_countSeen (wsV RX1 25 RX1 yX1_hasSight wsX1_hasSight) := goodIn_app (goodIn_of _ (by decide +kernel)) ggX1_countSeen_X1_hasSight
theorem dX1_countSeen_0 : decode cX1_countSeen 0 = .ok (.iconst 0, 1) := by decide +kernel
theorem dX1_countSeen_1 : decode cX1_countSeen 1 = .ok (.istore_n 2, 1) := by decide +kernel
theorem dX1_countSeen_2 : decode cX1_countSeen 2 = .ok (.iconst 0, 1) := by decide +kernel
theorem dX1_countSeen_3 : decode cX1_countSeen 3 = .ok (.istore_n 3, 1) := by decide +kernel
theorem dX1_countSeen_4 : decode cX1_countSeen 4 = .ok (.iload_n 3, 1) := by decide +kernel
theorem dX1_countSeen_5 : decode cX1_countSeen 5 = .ok (.sipush 144, 3) := by decide +kernel
theorem dX1_countSeen_8 : decode cX1_countSeen 8 = .ok (.if_icmp .ge 21, 3) := by decide +kernel
theorem dX1_countSeen_11 : decode cX1_countSeen 11 = .ok (.aload_n 0, 1) := by decide +kernel
theorem dX1_countSeen_12 : decode cX1_countSeen 12 = .ok (.iload_n 1, 1) := by decide +kernel
theorem dX1_countSeen_13 : decode cX1_countSeen 13 = .ok (.iload_n 3, 1) := by decide +kernel
theorem dX1_countSeen_14 : decode cX1_countSeen 14 = .ok (.invokevirtual 25, 3) := by decide +kernel
theorem dX1_countSeen_17 : decode cX1_countSeen 17 = .ok (.ifCond .eq 6, 3) := by decide +kernel
theorem dX1_countSeen_20 : decode cX1_countSeen 20 = .ok (.iinc 2 1, 3) := by decide +kernel
theorem dX1_countSeen_23 : decode cX1_countSeen 23 = .ok (.iinc 3 1, 3) := by decide +kernel
theorem dX1_countSeen_26 : decode cX1_countSeen 26 = .ok (.goto (-22), 3) := by decide +kernel
theorem dX1_countSeen_29 : decode cX1_countSeen 29 = .ok (.iload_n 2, 1) := by decide +kernel
theorem dX1_countSeen_30 : decode cX1_countSeen 30 = .ok (.ireturn, 1) := by decide +kernel
set_option maxRecDepth 20000 in
theorem ggX1_hasSight_X1_lineEnters : GoodIn wsX1_hasSight wsX1_lineEnters := goodIn_r _ [12, 13, 14, 4, 15] (by decide +kernel) (by decide +kernel)
set_option maxRecDepth 20000 in
theorem gX1_hasSight_X1_lineEnters : GoodIn wsX1_hasSight (va_wsS RX1 32 yX1_lineEnters wsX1_lineEnters) := goodIn_app (goodIn_of _ (by decide +kernel)) ggX1_hasSight_X1_lineEnters
theorem dX1_hasSight_0 : decode cX1_hasSight 0 = .ok (.iload_n 1, 1) := by decide +kernel
theorem dX1_hasSight_1 : decode cX1_hasSight 1 = .ok (.iload_n 2, 1) := by decide +kernel
theorem dX1_hasSight_2 : decode cX1_hasSight 2 = .ok (.if_icmp .ne 18, 3) := by decide +kernel
theorem dX1_hasSight_5 : decode cX1_hasSight 5 = .ok (.aload_n 0, 1) := by decide +kernel
theorem dX1_hasSight_6 : decode cX1_hasSight 6 = .ok (.getfield 9, 3) := by decide +kernel
theorem dX1_hasSight_9 : decode cX1_hasSight 9 = .ok (.iload_n 1, 1) := by decide +kernel
theorem dX1_hasSight_10 : decode cX1_hasSight 10 = .ok (.baload, 1) := by decide +kernel
theorem dX1_hasSight_11 : decode cX1_hasSight 11 = .ok (.ifCond .ne 7, 3) := by decide +kernel
theorem dX1_hasSight_14 : decode cX1_hasSight 14 = .ok (.iconst 1, 1) := by decide +kernel
theorem dX1_hasSight_15 : decode cX1_hasSight 15 = .ok (.goto 4, 3) := by decide +kernel
theorem dX1_hasSight_18 : decode cX1_hasSight 18 = .ok (.iconst 0, 1) := by decide +kernel
theorem dX1_hasSight_19 : decode cX1_hasSight 19 = .ok (.ireturn, 1) := by decide +kernel
theorem dX1_hasSight_20 : decode cX1_hasSight 20 = .ok (.iload_n 1, 1) := by decide +kernel
theorem dX1_hasSight_21 : decode cX1_hasSight 21 = .ok (.bipush 12, 2) := by decide +kernel
theorem dX1_hasSight_23 : decode cX1_hasSight 23 = .ok (.idiv, 1) := by decide +kernel
theorem dX1_hasSight_24 : decode cX1_hasSight 24 = .ok (.iload_n 2, 1) := by decide +kernel
theorem dX1_hasSight_25 : decode cX1_hasSight 25 = .ok (.bipush 12, 2) := by decide +kernel
theorem dX1_hasSight_27 : decode cX1_hasSight 27 = .ok (.idiv, 1) := by decide +kernel
theorem dX1_hasSight_28 : decode cX1_hasSight 28 = .ok (.invokestatic 29, 3) := by decide +kernel
theorem dX1_hasSight_31 : decode cX1_hasSight 31 = .ok (.istore_n 3, 1) := by decide +kernel
theorem dX1_hasSight_32 : decode cX1_hasSight 32 = .ok (.iload_n 1, 1) := by decide +kernel
theorem dX1_hasSight_33 : decode cX1_hasSight 33 = .ok (.bipush 12, 2) := by decide +kernel
theorem dX1_hasSight_35 : decode cX1_hasSight 35 = .ok (.idiv, 1) := by decide +kernel
theorem dX1_hasSight_36 : decode cX1_hasSight 36 = .ok (.iload_n 2, 1) := by decide +kernel
theorem dX1_hasSight_37 : decode cX1_hasSight 37 = .ok (.bipush 12, 2) := by decide +kernel
theorem dX1_hasSight_39 : decode cX1_hasSight 39 = .ok (.idiv, 1) := by decide +kernel
theorem dX1_hasSight_40 : decode cX1_hasSight 40 = .ok (.invokestatic 21, 3) := by decide +kernel
theorem dX1_hasSight_43 : decode cX1_hasSight 43 = .ok (.istore 4, 2) := by decide +kernel
theorem dX1_hasSight_45 : decode cX1_hasSight 45 = .ok (.iload_n 1, 1) := by decide +kernel
theorem dX1_hasSight_46 : decode cX1_hasSight 46 = .ok (.bipush 12, 2) := by decide +kernel
theorem dX1_hasSight_48 : decode cX1_hasSight 48 = .ok (.irem, 1) := by decide +kernel
theorem dX1_hasSight_49 : decode cX1_hasSight 49 = .ok (.iload_n 2, 1) := by decide +kernel
theorem dX1_hasSight_50 : decode cX1_hasSight 50 = .ok (.bipush 12, 2) := by decide +kernel
theorem dX1_hasSight_52 : decode cX1_hasSight 52 = .ok (.irem, 1) := by decide +kernel
theorem dX1_hasSight_53 : decode cX1_hasSight 53 = .ok (.invokestatic 29, 3) := by decide +kernel
theorem dX1_hasSight_56 : decode cX1_hasSight 56 = .ok (.istore 5, 2) := by decide +kernel
theorem dX1_hasSight_58 : decode cX1_hasSight 58 = .ok (.iload_n 1, 1) := by decide +kernel
theorem dX1_hasSight_59 : decode cX1_hasSight 59 = .ok (.bipush 12, 2) := by decide +kernel
theorem dX1_hasSight_61 : decode cX1_hasSight 61 = .ok (.irem, 1) := by decide +kernel
theorem dX1_hasSight_62 : decode cX1_hasSight 62 = .ok (.iload_n 2, 1) := by decide +kernel
theorem dX1_hasSight_63 : decode cX1_hasSight 63 = .ok (.bipush 12, 2) := by decide +kernel
theorem dX1_hasSight_65 : decode cX1_hasSight 65 = .ok (.irem, 1) := by decide +kernel
theorem dX1_hasSight_66 : decode cX1_hasSight 66 = .ok (.invokestatic 21, 3) := by decide +kernel
theorem dX1_hasSight_69 : decode cX1_hasSight 69 = .ok (.istore 6, 2) := by decide +kernel
theorem dX1_hasSight_71 : decode cX1_hasSight 71 = .ok (.iload_n 3, 1) := by decide +kernel
theorem dX1_hasSight_72 : decode cX1_hasSight 72 = .ok (.istore 7, 2) := by decide +kernel
theorem dX1_hasSight_74 : decode cX1_hasSight 74 = .ok (.iload 7, 2) := by decide +kernel
theorem dX1_hasSight_76 : decode cX1_hasSight 76 = .ok (.iload 4, 2) := by decide +kernel
theorem dX1_hasSight_78 : decode cX1_hasSight 78 = .ok (.if_icmp .gt 58, 3) := by decide +kernel
theorem dX1_hasSight_81 : decode cX1_hasSight 81 = .ok (.iload 5, 2) := by decide +kernel
theorem dX1_hasSight_83 : decode cX1_hasSight 83 = .ok (.istore 8, 2) := by decide +kernel
theorem dX1_hasSight_85 : decode cX1_hasSight 85 = .ok (.iload 8, 2) := by decide +kernel
theorem dX1_hasSight_87 : decode cX1_hasSight 87 = .ok (.iload 6, 2) := by decide +kernel
theorem dX1_hasSight_89 : decode cX1_hasSight 89 = .ok (.if_icmp .gt 41, 3) := by decide +kernel
theorem dX1_hasSight_92 : decode cX1_hasSight 92 = .ok (.bipush 12, 2) := by decide +kernel
theorem dX1_hasSight_94 : decode cX1_hasSight 94 = .ok (.iload 7, 2) := by decide +kernel
theorem dX1_hasSight_96 : decode cX1_hasSight 96 = .ok (.imul, 1) := by decide +kernel
theorem dX1_hasSight_97 : decode cX1_hasSight 97 = .ok (.iload 8, 2) := by decide +kernel
theorem dX1_hasSight_99 : decode cX1_hasSight 99 = .ok (.iadd, 1) := by decide +kernel
theorem dX1_hasSight_100 : decode cX1_hasSight 100 = .ok (.istore 9, 2) := by decide +kernel
theorem dX1_hasSight_102 : decode cX1_hasSight 102 = .ok (.aload_n 0, 1) := by decide +kernel
theorem dX1_hasSight_103 : decode cX1_hasSight 103 = .ok (.getfield 9, 3) := by decide +kernel
theorem dX1_hasSight_106 : decode cX1_hasSight 106 = .ok (.iload 9, 2) := by decide +kernel
theorem dX1_hasSight_108 : decode cX1_hasSight 108 = .ok (.baload, 1) := by decide +kernel
theorem dX1_hasSight_109 : decode cX1_hasSight 109 = .ok (.ifCond .eq 15, 3) := by decide +kernel
theorem dX1_hasSight_112 : decode cX1_hasSight 112 = .ok (.iload_n 1, 1) := by decide +kernel
theorem dX1_hasSight_113 : decode cX1_hasSight 113 = .ok (.iload_n 2, 1) := by decide +kernel
theorem dX1_hasSight_114 : decode cX1_hasSight 114 = .ok (.iload 9, 2) := by decide +kernel
theorem dX1_hasSight_116 : decode cX1_hasSight 116 = .ok (.invokestatic 32, 3) := by decide +kernel
theorem dX1_hasSight_119 : decode cX1_hasSight 119 = .ok (.ifCond .eq 5, 3) := by decide +kernel
theorem dX1_hasSight_122 : decode cX1_hasSight 122 = .ok (.iconst 0, 1) := by decide +kernel
theorem dX1_hasSight_123 : decode cX1_hasSight 123 = .ok (.ireturn, 1) := by decide +kernel
theorem dX1_hasSight_124 : decode cX1_hasSight 124 = .ok (.iinc 8 1, 3) := by decide +kernel
theorem dX1_hasSight_127 : decode cX1_hasSight 127 = .ok (.goto (-42), 3) := by decide +kernel
theorem dX1_hasSight_130 : decode cX1_hasSight 130 = .ok (.iinc 7 1, 3) := by decide +kernel
theorem dX1_hasSight_133 : decode cX1_hasSight 133 = .ok (.goto (-59), 3) := by decide +kernel
theorem dX1_hasSight_136 : decode cX1_hasSight 136 = .ok (.iconst 1, 1) := by decide +kernel
theorem dX1_hasSight_137 : decode cX1_hasSight 137 = .ok (.ireturn, 1) := by decide +kernel
theorem dX1_lineEnters_0 : decode cX1_lineEnters 0 = .ok (.iload_n 1, 1) := by decide +kernel
theorem dX1_lineEnters_1 : decode cX1_lineEnters 1 = .ok (.bipush 12, 2) := by decide +kernel
theorem dX1_lineEnters_3 : decode cX1_lineEnters 3 = .ok (.idiv, 1) := by decide +kernel
theorem dX1_lineEnters_4 : decode cX1_lineEnters 4 = .ok (.iload_n 0, 1) := by decide +kernel
theorem dX1_lineEnters_5 : decode cX1_lineEnters 5 = .ok (.bipush 12, 2) := by decide +kernel
theorem dX1_lineEnters_7 : decode cX1_lineEnters 7 = .ok (.idiv, 1) := by decide +kernel
theorem dX1_lineEnters_8 : decode cX1_lineEnters 8 = .ok (.isub, 1) := by decide +kernel
theorem dX1_lineEnters_9 : decode cX1_lineEnters 9 = .ok (.istore_n 3, 1) := by decide +kernel
theorem dX1_lineEnters_10 : decode cX1_lineEnters 10 = .ok (.iload_n 1, 1) := by decide +kernel
theorem dX1_lineEnters_11 : decode cX1_lineEnters 11 = .ok (.bipush 12, 2) := by decide +kernel
theorem dX1_lineEnters_13 : decode cX1_lineEnters 13 = .ok (.irem, 1) := by decide +kernel
theorem dX1_lineEnters_14 : decode cX1_lineEnters 14 = .ok (.iload_n 0, 1) := by decide +kernel
theorem dX1_lineEnters_15 : decode cX1_lineEnters 15 = .ok (.bipush 12, 2) := by decide +kernel
theorem dX1_lineEnters_17 : decode cX1_lineEnters 17 = .ok (.irem, 1) := by decide +kernel
theorem dX1_lineEnters_18 : decode cX1_lineEnters 18 = .ok (.isub, 1) := by decide +kernel
theorem dX1_lineEnters_19 : decode cX1_lineEnters 19 = .ok (.istore 4, 2) := by decide +kernel
theorem dX1_lineEnters_21 : decode cX1_lineEnters 21 = .ok (.iload_n 2, 1) := by decide +kernel
theorem dX1_lineEnters_22 : decode cX1_lineEnters 22 = .ok (.bipush 12, 2) := by decide +kernel
theorem dX1_lineEnters_24 : decode cX1_lineEnters 24 = .ok (.idiv, 1) := by decide +kernel
theorem dX1_lineEnters_25 : decode cX1_lineEnters 25 = .ok (.iload_n 0, 1) := by decide +kernel
theorem dX1_lineEnters_26 : decode cX1_lineEnters 26 = .ok (.bipush 12, 2) := by decide +kernel
theorem dX1_lineEnters_28 : decode cX1_lineEnters 28 = .ok (.idiv, 1) := by decide +kernel
theorem dX1_lineEnters_29 : decode cX1_lineEnters 29 = .ok (.isub, 1) := by decide +kernel
theorem dX1_lineEnters_30 : decode cX1_lineEnters 30 = .ok (.istore 5, 2) := by decide +kernel
theorem dX1_lineEnters_32 : decode cX1_lineEnters 32 = .ok (.iload_n 2, 1) := by decide +kernel
theorem dX1_lineEnters_33 : decode cX1_lineEnters 33 = .ok (.bipush 12, 2) := by decide +kernel
theorem dX1_lineEnters_35 : decode cX1_lineEnters 35 = .ok (.irem, 1) := by decide +kernel
theorem dX1_lineEnters_36 : decode cX1_lineEnters 36 = .ok (.iload_n 0, 1) := by decide +kernel
theorem dX1_lineEnters_37 : decode cX1_lineEnters 37 = .ok (.bipush 12, 2) := by decide +kernel
theorem dX1_lineEnters_39 : decode cX1_lineEnters 39 = .ok (.irem, 1) := by decide +kernel
theorem dX1_lineEnters_40 : decode cX1_lineEnters 40 = .ok (.isub, 1) := by decide +kernel
theorem dX1_lineEnters_41 : decode cX1_lineEnters 41 = .ok (.istore 6, 2) := by decide +kernel
theorem dX1_lineEnters_43 : decode cX1_lineEnters 43 = .ok (.iload_n 3, 1) := by decide +kernel
theorem dX1_lineEnters_44 : decode cX1_lineEnters 44 = .ok (.iload 6, 2) := by decide +kernel
theorem dX1_lineEnters_46 : decode cX1_lineEnters 46 = .ok (.imul, 1) := by decide +kernel
theorem dX1_lineEnters_47 : decode cX1_lineEnters 47 = .ok (.iload 4, 2) := by decide +kernel
theorem dX1_lineEnters_49 : decode cX1_lineEnters 49 = .ok (.iload 5, 2) := by decide +kernel
theorem dX1_lineEnters_51 : decode cX1_lineEnters 51 = .ok (.imul, 1) := by decide +kernel
theorem dX1_lineEnters_52 : decode cX1_lineEnters 52 = .ok (.isub, 1) := by decide +kernel
theorem dX1_lineEnters_53 : decode cX1_lineEnters 53 = .ok (.istore 7, 2) := by decide +kernel
theorem dX1_lineEnters_55 : decode cX1_lineEnters 55 = .ok (.iconst 2, 1) := by decide +kernel
theorem dX1_lineEnters_56 : decode cX1_lineEnters 56 = .ok (.iload 7, 2) := by decide +kernel
theorem dX1_lineEnters_58 : decode cX1_lineEnters 58 = .ok (.invokestatic 15, 3) := by decide +kernel
theorem dX1_lineEnters_61 : decode cX1_lineEnters 61 = .ok (.imul, 1) := by decide +kernel
theorem dX1_lineEnters_62 : decode cX1_lineEnters 62 = .ok (.iload_n 3, 1) := by decide +kernel
theorem dX1_lineEnters_63 : decode cX1_lineEnters 63 = .ok (.invokestatic 15, 3) := by decide +kernel
theorem dX1_lineEnters_66 : decode cX1_lineEnters 66 = .ok (.iload 4, 2) := by decide +kernel
theorem dX1_lineEnters_68 : decode cX1_lineEnters 68 = .ok (.invokestatic 15, 3) := by decide +kernel
theorem dX1_lineEnters_71 : decode cX1_lineEnters 71 = .ok (.iadd, 1) := by decide +kernel
theorem dX1_lineEnters_72 : decode cX1_lineEnters 72 = .ok (.if_icmp .ge 7, 3) := by decide +kernel
theorem dX1_lineEnters_75 : decode cX1_lineEnters 75 = .ok (.iconst 1, 1) := by decide +kernel
theorem dX1_lineEnters_76 : decode cX1_lineEnters 76 = .ok (.goto 4, 3) := by decide +kernel
theorem dX1_lineEnters_79 : decode cX1_lineEnters 79 = .ok (.iconst 0, 1) := by decide +kernel
theorem dX1_lineEnters_80 : decode cX1_lineEnters 80 = .ok (.ireturn, 1) := by decide +kernel
set_option maxRecDepth 20000 in
theorem ggX2_init_X3_init : GoodIn wsX2_init wsX3_init := goodIn_r _ [18, 19, 2, 3, 5, 20, 21, 22, 23, 47, 48, 49, 50, 51] (by decide +kernel) (by decide +kernel)
set_option maxRecDepth 20000 in
theorem gX2_init_X3_init_n27 : GoodIn wsX2_init (wsX3_init) := ggX2_init_X3_init
set_option maxRecDepth 20000 in
theorem ggX2_init_X0_init : GoodIn wsX2_init wsX0_init := goodIn_r _ [25, 26, 2, 3, 5, 27, 28, 29, 30, 31, 52, 53, 54, 55, 56] (by decide +kernel) (by decide +kernel)
set_option maxRecDepth 20000 in
theorem gX2_init_X0_init_n34 : GoodIn wsX2_init (wsX0_init) := ggX2_init_X0_init
set_option maxRecDepth 20000 in
theorem ggX2_init_X2_reset : GoodIn wsX2_init wsX2_reset := goodIn_r _ [36, 6, 7, 8, 12, 37, 16, 38, 39, 40, 41, 42, 43, 44, 45, 46, 47, 48, 49, 50, 51, 52, 53, 54, 55, 56] (by decide +kernel) (by decide +kernel)
set_option maxRecDepth 20000 in
theorem gX2_init_X2_reset : GoodIn wsX2_init (wsV RX2 39 RX2 yX2_reset wsX2_reset) := goodIn_app (goodIn_of _ (by decide +kernel)) ggX2_init_X2_reset
theorem dX2_init_0 : decode cX2_init 0 = .ok (.aload_n 0, 1) := by decide +kernel
theorem dX2_init_1 : decode cX2_init 1 = .ok (.invokespecial 3, 3) := by decide +kernel
theorem dX2_init_4 : decode cX2_init 4 = .ok (.aload_n 0, 1) := by decide +kernel
theorem dX2_init_5 : decode cX2_init 5 = .ok (.iconst (-1), 1) := by decide +kernel
theorem dX2_init_6 : decode cX2_init 6 = .ok (.putfield 9, 3) := by decide +kernel
theorem dX2_init_9 : decode cX2_init 9 = .ok (.aload_n 0, 1) := by decide +kernel
theorem dX2_init_10 : decode cX2_init 10 = .ok (.bipush 6, 2) := by decide +kernel
theorem dX2_init_12 : decode cX2_init 12 = .ok (.newarray .int, 2) := by decide +kernel
theorem dX2_init_14 : decode cX2_init 14 = .ok (.putfield 15, 3) := by decide +kernel
theorem dX2_init_17 : decode cX2_init 17 = .ok (.aload_n 0, 1) := by decide +kernel
theorem dX2_init_18 : decode cX2_init 18 = .ok (.bipush 6, 2) := by decide +kernel
theorem dX2_init_20 : decode cX2_init 20 = .ok (.newarray .int, 2) := by decide +kernel
theorem dX2_init_22 : decode cX2_init 22 = .ok (.putfield 19, 3) := by decide +kernel
theorem dX2_init_25 : decode cX2_init 25 = .ok (.aload_n 0, 1) := by decide +kernel
theorem dX2_init_26 : decode cX2_init 26 = .ok (.bipush 6, 2) := by decide +kernel
theorem dX2_init_28 : decode cX2_init 28 = .ok (.newarray .int, 2) := by decide +kernel
theorem dX2_init_30 : decode cX2_init 30 = .ok (.putfield 22, 3) := by decide +kernel
theorem dX2_init_33 : decode cX2_init 33 = .ok (.aload_n 0, 1) := by decide +kernel
theorem dX2_init_34 : decode cX2_init 34 = .ok (.new 25, 3) := by decide +kernel
theorem dX2_init_37 : decode cX2_init 37 = .ok (.dup, 1) := by decide +kernel
theorem dX2_init_38 : decode cX2_init 38 = .ok (.invokespecial 27, 3) := by decide +kernel
theorem dX2_init_41 : decode cX2_init 41 = .ok (.putfield 28, 3) := by decide +kernel
theorem dX2_init_44 : decode cX2_init 44 = .ok (.aload_n 0, 1) := by decide +kernel
theorem dX2_init_45 : decode cX2_init 45 = .ok (.new 32, 3) := by decide +kernel
theorem dX2_init_48 : decode cX2_init 48 = .ok (.dup, 1) := by decide +kernel
theorem dX2_init_49 : decode cX2_init 49 = .ok (.invokespecial 34, 3) := by decide +kernel
theorem dX2_init_52 : decode cX2_init 52 = .ok (.putfield 35, 3) := by decide +kernel
theorem dX2_init_55 : decode cX2_init 55 = .ok (.aload_n 0, 1) := by decide +kernel
theorem dX2_init_56 : decode cX2_init 56 = .ok (.bipush (-2), 2) := by decide +kernel
theorem dX2_init_58 : decode cX2_init 58 = .ok (.invokevirtual 39, 3) := by decide +kernel
theorem dX2_init_61 : decode cX2_init 61 = .ok (.return_, 1) := by decide +kernel
set_option maxRecDepth 20000 in
theorem ggX2_start_X2_reset : GoodIn wsX2_start wsX2_reset := goodIn_r _ [8, 9, 10, 11, 12, 13, 14, 15, 16, 17, 18, 19, 20, 21, 22, 23, 24, 25, 26, 27, 28, 29, 30, 31, 32, 33] (by decide +kernel) (by decide +kernel)
set_option maxRecDepth 20000 in
theorem gX2_start_X2_reset : GoodIn wsX2_start (wsV RX2 39 RX2 yX2_reset wsX2_reset) := goodIn_app (goodIn_of _ (by decide +kernel)) ggX2_start_X2_reset
theorem dX2_start_0 : decode cX2_start 0 = .ok (.aload_n 0, 1) := by decide +kernel
theorem dX2_start_1 : decode cX2_start 1 = .ok (.iload_n 1, 1) := by decide +kernel
theorem dX2_start_2 : decode cX2_start 2 = .ok (.putfield 43, 3) := by decide +kernel
theorem dX2_start_5 : decode cX2_start 5 = .ok (.aload_n 0, 1) := by decide +kernel
theorem dX2_start_6 : decode cX2_start 6 = .ok (.iload_n 2, 1) := by decide +kernel
theorem dX2_start_7 : decode cX2_start 7 = .ok (.putfield 46, 3) := by decide +kernel
theorem dX2_start_10 : decode cX2_start 10 = .ok (.aload_n 0, 1) := by decide +kernel
theorem dX2_start_11 : decode cX2_start 11 = .ok (.iconst 0, 1) := by decide +kernel
theorem dX2_start_12 : decode cX2_start 12 = .ok (.putfield 9, 3) := by decide +kernel
theorem dX2_start_15 : decode cX2_start 15 = .ok (.aload_n 0, 1) := by decide +kernel
theorem dX2_start_16 : decode cX2_start 16 = .ok (.iconst (-1), 1) := by decide +kernel
theorem dX2_start_17 : decode cX2_start 17 = .ok (.invokevirtual 39, 3) := by decide +kernel
theorem dX2_start_20 : decode cX2_start 20 = .ok (.return_, 1) := by decide +kernel
set_option maxRecDepth 20000 in
theorem ggX2_close_X2_reset : GoodIn wsX2_close wsX2_reset := goodIn_r _ [6, 7, 8, 9, 10, 11, 12, 13, 14, 15, 16, 17, 18, 19, 20, 21, 22, 23, 24, 25, 26, 27, 28, 29, 30, 31] (by decide +kernel) (by decide +kernel)
set_option maxRecDepth 20000 in
theorem gX2_close_X2_reset : GoodIn wsX2_close (wsV RX2 39 RX2 yX2_reset wsX2_reset) := goodIn_app (goodIn_of _ (by decide +kernel)) ggX2_close_X2_reset
theorem dX2_close_0 : decode cX2_close 0 = .ok (.aload_n 0, 1) := by decide +kernel
theorem dX2_close_1 : decode cX2_close 1 = .ok (.iconst (-1), 1) := by decide +kernel
theorem dX2_close_2 : decode cX2_close 2 = .ok (.putfield 9, 3) := by decide +kernel
theorem dX2_close_5 : decode cX2_close 5 = .ok (.aload_n 0, 1) := by decide +kernel
theorem dX2_close_6 : decode cX2_close 6 = .ok (.bipush (-2), 2) := by decide +kernel
theorem dX2_close_8 : decode cX2_close 8 = .ok (.invokevirtual 39, 3) := by decide +kernel
theorem dX2_close_11 : decode cX2_close 11 = .ok (.return_, 1) := by decide +kernel
theorem dX2_reset_0 : decode cX2_reset 0 = .ok (.iconst 0, 1) := by decide +kernel
theorem dX2_reset_1 : decode cX2_reset 1 = .ok (.istore_n 2, 1) := by decide +kernel
theorem dX2_reset_2 : decode cX2_reset 2 = .ok (.iload_n 2, 1) := by decide +kernel
theorem dX2_reset_3 : decode cX2_reset 3 = .ok (.bipush 6, 2) := by decide +kernel
theorem dX2_reset_5 : decode cX2_reset 5 = .ok (.if_icmp .ge 30, 3) := by decide +kernel
theorem dX2_reset_8 : decode cX2_reset 8 = .ok (.aload_n 0, 1) := by decide +kernel
theorem dX2_reset_9 : decode cX2_reset 9 = .ok (.getfield 15, 3) := by decide +kernel
theorem dX2_reset_12 : decode cX2_reset 12 = .ok (.iload_n 2, 1) := by decide +kernel
theorem dX2_reset_13 : decode cX2_reset 13 = .ok (.iload_n 1, 1) := by decide +kernel
theorem dX2_reset_14 : decode cX2_reset 14 = .ok (.iastore, 1) := by decide +kernel
theorem dX2_reset_15 : decode cX2_reset 15 = .ok (.aload_n 0, 1) := by decide +kernel
theorem dX2_reset_16 : decode cX2_reset 16 = .ok (.getfield 19, 3) := by decide +kernel
theorem dX2_reset_19 : decode cX2_reset 19 = .ok (.iload_n 2, 1) := by decide +kernel
theorem dX2_reset_20 : decode cX2_reset 20 = .ok (.iconst (-1), 1) := by decide +kernel
theorem dX2_reset_21 : decode cX2_reset 21 = .ok (.iastore, 1) := by decide +kernel
theorem dX2_reset_22 : decode cX2_reset 22 = .ok (.aload_n 0, 1) := by decide +kernel
theorem dX2_reset_23 : decode cX2_reset 23 = .ok (.getfield 22, 3) := by decide +kernel
theorem dX2_reset_26 : decode cX2_reset 26 = .ok (.iload_n 2, 1) := by decide +kernel
theorem dX2_reset_27 : decode cX2_reset 27 = .ok (.iconst (-1), 1) := by decide +kernel
theorem dX2_reset_28 : decode cX2_reset 28 = .ok (.iastore, 1) := by decide +kernel
theorem dX2_reset_29 : decode cX2_reset 29 = .ok (.iinc 2 1, 3) := by decide +kernel
theorem dX2_reset_32 : decode cX2_reset 32 = .ok (.goto (-30), 3) := by decide +kernel
theorem dX2_reset_35 : decode cX2_reset 35 = .ok (.aload_n 0, 1) := by decide +kernel
theorem dX2_reset_36 : decode cX2_reset 36 = .ok (.getfield 28, 3) := by decide +kernel
theorem dX2_reset_39 : decode cX2_reset 39 = .ok (.iconst 0, 1) := by decide +kernel
theorem dX2_reset_40 : decode cX2_reset 40 = .ok (.putfield 49, 3) := by decide +kernel
theorem dX2_reset_43 : decode cX2_reset 43 = .ok (.aload_n 0, 1) := by decide +kernel
theorem dX2_reset_44 : decode cX2_reset 44 = .ok (.getfield 35, 3) := by decide +kernel
theorem dX2_reset_47 : decode cX2_reset 47 = .ok (.iconst 0, 1) := by decide +kernel
theorem dX2_reset_48 : decode cX2_reset 48 = .ok (.putfield 52, 3) := by decide +kernel
theorem dX2_reset_51 : decode cX2_reset 51 = .ok (.return_, 1) := by decide +kernel
theorem dX2_isPlayed_0 : decode cX2_isPlayed 0 = .ok (.aload_n 0, 1) := by decide +kernel
theorem dX2_isPlayed_1 : decode cX2_isPlayed 1 = .ok (.getfield 9, 3) := by decide +kernel
theorem dX2_isPlayed_4 : decode cX2_isPlayed 4 = .ok (.iconst (-1), 1) := by decide +kernel
theorem dX2_isPlayed_5 : decode cX2_isPlayed 5 = .ok (.if_icmp .eq 7, 3) := by decide +kernel
theorem dX2_isPlayed_8 : decode cX2_isPlayed 8 = .ok (.iconst 1, 1) := by decide +kernel
theorem dX2_isPlayed_9 : decode cX2_isPlayed 9 = .ok (.goto 4, 3) := by decide +kernel
theorem dX2_isPlayed_12 : decode cX2_isPlayed 12 = .ok (.iconst 0, 1) := by decide +kernel
theorem dX2_isPlayed_13 : decode cX2_isPlayed 13 = .ok (.ireturn, 1) := by decide +kernel
theorem dX2_time_0 : decode cX2_time 0 = .ok (.aload_n 0, 1) := by decide +kernel
theorem dX2_time_1 : decode cX2_time 1 = .ok (.getfield 9, 3) := by decide +kernel
theorem dX2_time_4 : decode cX2_time 4 = .ok (.ireturn, 1) := by decide +kernel
theorem dX2_homeTeam_0 : decode cX2_homeTeam 0 = .ok (.aload_n 0, 1) := by decide +kernel
theorem dX2_homeTeam_1 : decode cX2_homeTeam 1 = .ok (.getfield 43, 3) := by decide +kernel
theorem dX2_homeTeam_4 : decode cX2_homeTeam 4 = .ok (.ireturn, 1) := by decide +kernel
theorem dX2_awayTeam_0 : decode cX2_awayTeam 0 = .ok (.aload_n 0, 1) := by decide +kernel
theorem dX2_awayTeam_1 : decode cX2_awayTeam 1 = .ok (.getfield 46, 3) := by decide +kernel
theorem dX2_awayTeam_4 : decode cX2_awayTeam 4 = .ok (.ireturn, 1) := by decide +kernel
theorem dX2_cellOf_0 : decode cX2_cellOf 0 = .ok (.aload_n 0, 1) := by decide +kernel
theorem dX2_cellOf_1 : decode cX2_cellOf 1 = .ok (.getfield 15, 3) := by decide +kernel
theorem dX2_cellOf_4 : decode cX2_cellOf 4 = .ok (.iload_n 1, 1) := by decide +kernel
theorem dX2_cellOf_5 : decode cX2_cellOf 5 = .ok (.iaload, 1) := by decide +kernel
theorem dX2_cellOf_6 : decode cX2_cellOf 6 = .ok (.ireturn, 1) := by decide +kernel
theorem dX2_hitOf_0 : decode cX2_hitOf 0 = .ok (.aload_n 0, 1) := by decide +kernel
theorem dX2_hitOf_1 : decode cX2_hitOf 1 = .ok (.getfield 19, 3) := by decide +kernel
theorem dX2_hitOf_4 : decode cX2_hitOf 4 = .ok (.iload_n 1, 1) := by decide +kernel
theorem dX2_hitOf_5 : decode cX2_hitOf 5 = .ok (.iaload, 1) := by decide +kernel
theorem dX2_hitOf_6 : decode cX2_hitOf 6 = .ok (.ireturn, 1) := by decide +kernel
theorem dX2_playerOn_0 : decode cX2_playerOn 0 = .ok (.iconst 0, 1) := by decide +kernel
theorem dX2_playerOn_1 : decode cX2_playerOn 1 = .ok (.istore_n 2, 1) := by decide +kernel
theorem dX2_playerOn_2 : decode cX2_playerOn 2 = .ok (.iload_n 2, 1) := by decide +kernel
theorem dX2_playerOn_3 : decode cX2_playerOn 3 = .ok (.bipush 6, 2) := by decide +kernel
theorem dX2_playerOn_5 : decode cX2_playerOn 5 = .ok (.if_icmp .ge 21, 3) := by decide +kernel
theorem dX2_playerOn_8 : decode cX2_playerOn 8 = .ok (.aload_n 0, 1) := by decide +kernel
theorem dX2_playerOn_9 : decode cX2_playerOn 9 = .ok (.getfield 15, 3) := by decide +kernel
theorem dX2_playerOn_12 : decode cX2_playerOn 12 = .ok (.iload_n 2, 1) := by decide +kernel
theorem dX2_playerOn_13 : decode cX2_playerOn 13 = .ok (.iaload, 1) := by decide +kernel
theorem dX2_playerOn_14 : decode cX2_playerOn 14 = .ok (.iload_n 1, 1) := by decide +kernel
theorem dX2_playerOn_15 : decode cX2_playerOn 15 = .ok (.if_icmp .ne 5, 3) := by decide +kernel
theorem dX2_playerOn_18 : decode cX2_playerOn 18 = .ok (.iload_n 2, 1) := by decide +kernel
theorem dX2_playerOn_19 : decode cX2_playerOn 19 = .ok (.ireturn, 1) := by decide +kernel
theorem dX2_playerOn_20 : decode cX2_playerOn 20 = .ok (.iinc 2 1, 3) := by decide +kernel
theorem dX2_playerOn_23 : decode cX2_playerOn 23 = .ok (.goto (-21), 3) := by decide +kernel
theorem dX2_playerOn_26 : decode cX2_playerOn 26 = .ok (.iconst (-1), 1) := by decide +kernel
theorem dX2_playerOn_27 : decode cX2_playerOn 27 = .ok (.ireturn, 1) := by decide +kernel
theorem dX2_put_0 : decode cX2_put 0 = .ok (.aload_n 0, 1) := by decide +kernel
theorem dX2_put_1 : decode cX2_put 1 = .ok (.getfield 15, 3) := by decide +kernel
theorem dX2_put_4 : decode cX2_put 4 = .ok (.iload_n 1, 1) := by decide +kernel
theorem dX2_put_5 : decode cX2_put 5 = .ok (.iload_n 2, 1) := by decide +kernel
theorem dX2_put_6 : decode cX2_put 6 = .ok (.iastore, 1) := by decide +kernel
theorem dX2_put_7 : decode cX2_put 7 = .ok (.return_, 1) := by decide +kernel
theorem dX2_mayFire_0 : decode cX2_mayFire 0 = .ok (.aload_n 0, 1) := by decide +kernel
theorem dX2_mayFire_1 : decode cX2_mayFire 1 = .ok (.getfield 22, 3) := by decide +kernel
theorem dX2_mayFire_4 : decode cX2_mayFire 4 = .ok (.iload_n 1, 1) := by decide +kernel
theorem dX2_mayFire_5 : decode cX2_mayFire 5 = .ok (.iaload, 1) := by decide +kernel
theorem dX2_mayFire_6 : decode cX2_mayFire 6 = .ok (.aload_n 0, 1) := by decide +kernel
theorem dX2_mayFire_7 : decode cX2_mayFire 7 = .ok (.getfield 9, 3) := by decide +kernel
theorem dX2_mayFire_10 : decode cX2_mayFire 10 = .ok (.if_icmp .eq 19, 3) := by decide +kernel
theorem dX2_mayFire_13 : decode cX2_mayFire 13 = .ok (.aload_n 0, 1) := by decide +kernel
theorem dX2_mayFire_14 : decode cX2_mayFire 14 = .ok (.getfield 28, 3) := by decide +kernel
theorem dX2_mayFire_17 : decode cX2_mayFire 17 = .ok (.getfield 49, 3) := by decide +kernel
theorem dX2_mayFire_20 : decode cX2_mayFire 20 = .ok (.bipush 100, 2) := by decide +kernel
theorem dX2_mayFire_22 : decode cX2_mayFire 22 = .ok (.if_icmp .ge 7, 3) := by decide +kernel
theorem dX2_mayFire_25 : decode cX2_mayFire 25 = .ok (.iconst 1, 1) := by decide +kernel
theorem dX2_mayFire_26 : decode cX2_mayFire 26 = .ok (.goto 4, 3) := by decide +kernel
theorem dX2_mayFire_29 : decode cX2_mayFire 29 = .ok (.iconst 0, 1) := by decide +kernel
theorem dX2_mayFire_30 : decode cX2_mayFire 30 = .ok (.ireturn, 1) := by decide +kernel
set_option maxRecDepth 20000 in
theorem ggX2_fire_X1_distance : GoodIn wsX2_fire wsX1_distance := goodIn_r _ [8, 9, 10, 11, 12, 13, 14, 15] (by decide +kernel) (by decide +kernel)
set_option maxRecDepth 20000 in
theorem gX2_fire_X1_distance : GoodIn wsX2_fire (va_wsS RX2 53 yX1_distance wsX1_distance) := goodIn_app (goodIn_of _ (by decide +kernel)) ggX2_fire_X1_distance
set_option maxRecDepth 20000 in
theorem ggX2_fire_X3_add : GoodIn wsX2_fire wsX3_add := goodIn_r _ [20, 21, 22, 23, 24, 25, 34, 35, 36, 37, 38] (by decide +kernel) (by decide +kernel)
set_option maxRecDepth 20000 in
theorem gX2_fire_X3_add : GoodIn wsX2_fire (wsV RX2 59 RX3 yX3_add wsX3_add) := goodIn_app (goodIn_of _ (by decide +kernel)) ggX2_fire_X3_add
theorem dX2_fire_0 : decode cX2_fire 0 = .ok (.aload_n 0, 1) := by decide +kernel
theorem dX2_fire_1 : decode cX2_fire 1 = .ok (.getfield 15, 3) := by decide +kernel
theorem dX2_fire_4 : decode cX2_fire 4 = .ok (.iload_n 1, 1) := by decide +kernel
theorem dX2_fire_5 : decode cX2_fire 5 = .ok (.iaload, 1) := by decide +kernel
theorem dX2_fire_6 : decode cX2_fire 6 = .ok (.istore_n 3, 1) := by decide +kernel
theorem dX2_fire_7 : decode cX2_fire 7 = .ok (.aload_n 0, 1) := by decide +kernel
theorem dX2_fire_8 : decode cX2_fire 8 = .ok (.getfield 9, 3) := by decide +kernel
theorem dX2_fire_11 : decode cX2_fire 11 = .ok (.iload_n 3, 1) := by decide +kernel
theorem dX2_fire_12 : decode cX2_fire 12 = .ok (.iload_n 2, 1) := by decide +kernel
theorem dX2_fire_13 : decode cX2_fire 13 = .ok (.invokestatic 53, 3) := by decide +kernel
theorem dX2_fire_16 : decode cX2_fire 16 = .ok (.iconst 3, 1) := by decide +kernel
theorem dX2_fire_17 : decode cX2_fire 17 = .ok (.iadd, 1) := by decide +kernel
theorem dX2_fire_18 : decode cX2_fire 18 = .ok (.iconst 4, 1) := by decide +kernel
theorem dX2_fire_19 : decode cX2_fire 19 = .ok (.idiv, 1) := by decide +kernel
theorem dX2_fire_20 : decode cX2_fire 20 = .ok (.iadd, 1) := by decide +kernel
theorem dX2_fire_21 : decode cX2_fire 21 = .ok (.istore 4, 2) := by decide +kernel
theorem dX2_fire_23 : decode cX2_fire 23 = .ok (.aload_n 0, 1) := by decide +kernel
theorem dX2_fire_24 : decode cX2_fire 24 = .ok (.getfield 22, 3) := by decide +kernel
theorem dX2_fire_27 : decode cX2_fire 27 = .ok (.iload_n 1, 1) := by decide +kernel
theorem dX2_fire_28 : decode cX2_fire 28 = .ok (.aload_n 0, 1) := by decide +kernel
theorem dX2_fire_29 : decode cX2_fire 29 = .ok (.getfield 9, 3) := by decide +kernel
theorem dX2_fire_32 : decode cX2_fire 32 = .ok (.iastore, 1) := by decide +kernel
theorem dX2_fire_33 : decode cX2_fire 33 = .ok (.aload_n 0, 1) := by decide +kernel
theorem dX2_fire_34 : decode cX2_fire 34 = .ok (.getfield 28, 3) := by decide +kernel
theorem dX2_fire_37 : decode cX2_fire 37 = .ok (.iload_n 1, 1) := by decide +kernel
theorem dX2_fire_38 : decode cX2_fire 38 = .ok (.iload_n 3, 1) := by decide +kernel
theorem dX2_fire_39 : decode cX2_fire 39 = .ok (.iload_n 2, 1) := by decide +kernel
theorem dX2_fire_40 : decode cX2_fire 40 = .ok (.iload 4, 2) := by decide +kernel
theorem dX2_fire_42 : decode cX2_fire 42 = .ok (.invokevirtual 59, 3) := by decide +kernel
theorem dX2_fire_45 : decode cX2_fire 45 = .ok (.iload 4, 2) := by decide +kernel
theorem dX2_fire_47 : decode cX2_fire 47 = .ok (.ireturn, 1) := by decide +kernel
theorem dX2_countFlying_0 : decode cX2_countFlying 0 = .ok (.iconst 0, 1) := by decide +kernel
theorem dX2_countFlying_1 : decode cX2_countFlying 1 = .ok (.istore_n 1, 1) := by decide +kernel
theorem dX2_countFlying_2 : decode cX2_countFlying 2 = .ok (.iconst 0, 1) := by decide +kernel
theorem dX2_countFlying_3 : decode cX2_countFlying 3 = .ok (.istore_n 2, 1) := by decide +kernel
theorem dX2_countFlying_4 : decode cX2_countFlying 4 = .ok (.iload_n 2, 1) := by decide +kernel
theorem dX2_countFlying_5 : decode cX2_countFlying 5 = .ok (.aload_n 0, 1) := by decide +kernel
theorem dX2_countFlying_6 : decode cX2_countFlying 6 = .ok (.getfield 28, 3) := by decide +kernel
theorem dX2_countFlying_9 : decode cX2_countFlying 9 = .ok (.getfield 49, 3) := by decide +kernel
theorem dX2_countFlying_12 : decode cX2_countFlying 12 = .ok (.if_icmp .ge 28, 3) := by decide +kernel
theorem dX2_countFlying_15 : decode cX2_countFlying 15 = .ok (.aload_n 0, 1) := by decide +kernel
theorem dX2_countFlying_16 : decode cX2_countFlying 16 = .ok (.getfield 28, 3) := by decide +kernel
theorem dX2_countFlying_19 : decode cX2_countFlying 19 = .ok (.getfield 63, 3) := by decide +kernel
theorem dX2_countFlying_22 : decode cX2_countFlying 22 = .ok (.iload_n 2, 1) := by decide +kernel
theorem dX2_countFlying_23 : decode cX2_countFlying 23 = .ok (.iaload, 1) := by decide +kernel
theorem dX2_countFlying_24 : decode cX2_countFlying 24 = .ok (.aload_n 0, 1) := by decide +kernel
theorem dX2_countFlying_25 : decode cX2_countFlying 25 = .ok (.getfield 9, 3) := by decide +kernel
theorem dX2_countFlying_28 : decode cX2_countFlying 28 = .ok (.if_icmp .le 6, 3) := by decide +kernel
theorem dX2_countFlying_31 : decode cX2_countFlying 31 = .ok (.iinc 1 1, 3) := by decide +kernel
theorem dX2_countFlying_34 : decode cX2_countFlying 34 = .ok (.iinc 2 1, 3) := by decide +kernel
theorem dX2_countFlying_37 : decode cX2_countFlying 37 = .ok (.goto (-33), 3) := by decide +kernel
theorem dX2_countFlying_40 : decode cX2_countFlying 40 = .ok (.iload_n 1, 1) := by decide +kernel
theorem dX2_countFlying_41 : decode cX2_countFlying 41 = .ok (.ireturn, 1) := by decide +kernel
set_option maxRecDepth 20000 in
theorem ggX2_nextTick_X2_strikes : GoodIn wsX2_nextTick wsX2_strikes := goodIn_r _ [9, 2, 10, 11, 12, 13, 1, 14, 15, 16, 8, 17, 18, 19, 20, 21, 22, 23, 24, 25, 26, 27, 28, 29, 30, 31, 32, 33, 34, 35, 36, 37, 38, 39, 40, 41, 42, 43, 44, 45, 46, 47, 48, 49, 50, 51] (by decide +kernel) (by decide +kernel)
set_option maxRecDepth 20000 in
theorem gX2_nextTick_X2_strikes : GoodIn wsX2_nextTick (wsV RX2 66 RX2 yX2_strikes wsX2_strikes) := goodIn_app (goodIn_of _ (by decide +kernel)) ggX2_nextTick_X2_strikes
theorem dX2_nextTick_0 : decode cX2_nextTick 0 = .ok (.aload_n 0, 1) := by decide +kernel
theorem dX2_nextTick_1 : decode cX2_nextTick 1 = .ok (.dup, 1) := by decide +kernel
theorem dX2_nextTick_2 : decode cX2_nextTick 2 = .ok (.getfield 9, 3) := by decide +kernel
theorem dX2_nextTick_5 : decode cX2_nextTick 5 = .ok (.iconst 1, 1) := by decide +kernel
theorem dX2_nextTick_6 : decode cX2_nextTick 6 = .ok (.iadd, 1) := by decide +kernel
theorem dX2_nextTick_7 : decode cX2_nextTick 7 = .ok (.putfield 9, 3) := by decide +kernel
theorem dX2_nextTick_10 : decode cX2_nextTick 10 = .ok (.iconst 0, 1) := by decide +kernel
theorem dX2_nextTick_11 : decode cX2_nextTick 11 = .ok (.istore_n 2, 1) := by decide +kernel
theorem dX2_nextTick_12 : decode cX2_nextTick 12 = .ok (.iconst 0, 1) := by decide +kernel
theorem dX2_nextTick_13 : decode cX2_nextTick 13 = .ok (.istore_n 3, 1) := by decide +kernel
theorem dX2_nextTick_14 : decode cX2_nextTick 14 = .ok (.iload_n 3, 1) := by decide +kernel
theorem dX2_nextTick_15 : decode cX2_nextTick 15 = .ok (.aload_n 0, 1) := by decide +kernel
theorem dX2_nextTick_16 : decode cX2_nextTick 16 = .ok (.getfield 28, 3) := by decide +kernel
theorem dX2_nextTick_19 : decode cX2_nextTick 19 = .ok (.getfield 49, 3) := by decide +kernel
theorem dX2_nextTick_22 : decode cX2_nextTick 22 = .ok (.if_icmp .ge 37, 3) := by decide +kernel
theorem dX2_nextTick_25 : decode cX2_nextTick 25 = .ok (.aload_n 0, 1) := by decide +kernel
theorem dX2_nextTick_26 : decode cX2_nextTick 26 = .ok (.getfield 28, 3) := by decide +kernel
theorem dX2_nextTick_29 : decode cX2_nextTick 29 = .ok (.getfield 63, 3) := by decide +kernel
theorem dX2_nextTick_32 : decode cX2_nextTick 32 = .ok (.iload_n 3, 1) := by decide +kernel
theorem dX2_nextTick_33 : decode cX2_nextTick 33 = .ok (.iaload, 1) := by decide +kernel
theorem dX2_nextTick_34 : decode cX2_nextTick 34 = .ok (.aload_n 0, 1) := by decide +kernel
theorem dX2_nextTick_35 : decode cX2_nextTick 35 = .ok (.getfield 9, 3) := by decide +kernel
theorem dX2_nextTick_38 : decode cX2_nextTick 38 = .ok (.if_icmp .ne 15, 3) := by decide +kernel
theorem dX2_nextTick_41 : decode cX2_nextTick 41 = .ok (.aload_n 0, 1) := by decide +kernel
theorem dX2_nextTick_42 : decode cX2_nextTick 42 = .ok (.iload_n 3, 1) := by decide +kernel
theorem dX2_nextTick_43 : decode cX2_nextTick 43 = .ok (.aload_n 1, 1) := by decide +kernel
theorem dX2_nextTick_44 : decode cX2_nextTick 44 = .ok (.invokevirtual 66, 3) := by decide +kernel
theorem dX2_nextTick_47 : decode cX2_nextTick 47 = .ok (.ifCond .eq 6, 3) := by decide +kernel
theorem dX2_nextTick_50 : decode cX2_nextTick 50 = .ok (.iinc 2 1, 3) := by decide +kernel
theorem dX2_nextTick_53 : decode cX2_nextTick 53 = .ok (.iinc 3 1, 3) := by decide +kernel
theorem dX2_nextTick_56 : decode cX2_nextTick 56 = .ok (.goto (-42), 3) := by decide +kernel
theorem dX2_nextTick_59 : decode cX2_nextTick 59 = .ok (.iload_n 2, 1) := by decide +kernel
theorem dX2_nextTick_60 : decode cX2_nextTick 60 = .ok (.ireturn, 1) := by decide +kernel
set_option maxRecDepth 20000 in
theorem ggX2_strikes_X2_playerOn : GoodIn wsX2_strikes wsX2_playerOn := goodIn_r _ [11, 12, 32, 33, 34, 35, 36, 37, 38, 39] (by decide +kernel) (by decide +kernel)
set_option maxRecDepth 20000 in
theorem gX2_strikes_X2_playerOn : GoodIn wsX2_strikes (wsV RX2 73 RX2 yX2_playerOn wsX2_playerOn) := goodIn_app (goodIn_of _ (by decide +kernel)) ggX2_strikes_X2_playerOn
set_option maxRecDepth 20000 in
theorem ggX2_strikes_X1_hasSight : GoodIn wsX2_strikes wsX1_hasSight := goodIn_r _ [17, 18, 19, 20, 21, 22, 23, 24, 25, 26, 27, 16, 28, 29, 30, 31, 45] (by decide +kernel) (by decide +kernel)
set_option maxRecDepth 20000 in
theorem gX2_strikes_X1_hasSight : GoodIn wsX2_strikes (wsV RX2 83 RX1 yX1_hasSight wsX1_hasSight) := goodIn_app (goodIn_of _ (by decide +kernel)) ggX2_strikes_X1_hasSight
theorem dX2_strikes_0 : decode cX2_strikes 0 = .ok (.aload_n 0, 1) := by decide +kernel
theorem dX2_strikes_1 : decode cX2_strikes 1 = .ok (.getfield 28, 3) := by decide +kernel
theorem dX2_strikes_4 : decode cX2_strikes 4 = .ok (.getfield 70, 3) := by decide +kernel
theorem dX2_strikes_7 : decode cX2_strikes 7 = .ok (.iload_n 1, 1) := by decide +kernel
theorem dX2_strikes_8 : decode cX2_strikes 8 = .ok (.iaload, 1) := by decide +kernel
theorem dX2_strikes_9 : decode cX2_strikes 9 = .ok (.istore_n 3, 1) := by decide +kernel
theorem dX2_strikes_10 : decode cX2_strikes 10 = .ok (.aload_n 0, 1) := by decide +kernel
theorem dX2_strikes_11 : decode cX2_strikes 11 = .ok (.iload_n 3, 1) := by decide +kernel
theorem dX2_strikes_12 : decode cX2_strikes 12 = .ok (.invokevirtual 73, 3) := by decide +kernel
theorem dX2_strikes_15 : decode cX2_strikes 15 = .ok (.istore 4, 2) := by decide +kernel
theorem dX2_strikes_17 : decode cX2_strikes 17 = .ok (.iload 4, 2) := by decide +kernel
theorem dX2_strikes_19 : decode cX2_strikes 19 = .ok (.iconst (-1), 1) := by decide +kernel
theorem dX2_strikes_20 : decode cX2_strikes 20 = .ok (.if_icmp .eq 17, 3) := by decide +kernel
theorem dX2_strikes_23 : decode cX2_strikes 23 = .ok (.iload 4, 2) := by decide +kernel
theorem dX2_strikes_25 : decode cX2_strikes 25 = .ok (.aload_n 0, 1) := by decide +kernel
theorem dX2_strikes_26 : decode cX2_strikes 26 = .ok (.getfield 28, 3) := by decide +kernel
theorem dX2_strikes_29 : decode cX2_strikes 29 = .ok (.getfield 77, 3) := by decide +kernel
theorem dX2_strikes_32 : decode cX2_strikes 32 = .ok (.iload_n 1, 1) := by decide +kernel
theorem dX2_strikes_33 : decode cX2_strikes 33 = .ok (.iaload, 1) := by decide +kernel
theorem dX2_strikes_34 : decode cX2_strikes 34 = .ok (.if_icmp .ne 5, 3) := by decide +kernel
theorem dX2_strikes_37 : decode cX2_strikes 37 = .ok (.iconst 0, 1) := by decide +kernel
theorem dX2_strikes_38 : decode cX2_strikes 38 = .ok (.ireturn, 1) := by decide +kernel
theorem dX2_strikes_39 : decode cX2_strikes 39 = .ok (.aload_n 2, 1) := by decide +kernel
theorem dX2_strikes_40 : decode cX2_strikes 40 = .ok (.aload_n 0, 1) := by decide +kernel
theorem dX2_strikes_41 : decode cX2_strikes 41 = .ok (.getfield 28, 3) := by decide +kernel
theorem dX2_strikes_44 : decode cX2_strikes 44 = .ok (.getfield 80, 3) := by decide +kernel
theorem dX2_strikes_47 : decode cX2_strikes 47 = .ok (.iload_n 1, 1) := by decide +kernel
theorem dX2_strikes_48 : decode cX2_strikes 48 = .ok (.iaload, 1) := by decide +kernel
theorem dX2_strikes_49 : decode cX2_strikes 49 = .ok (.iload_n 3, 1) := by decide +kernel
theorem dX2_strikes_50 : decode cX2_strikes 50 = .ok (.invokevirtual 83, 3) := by decide +kernel
theorem dX2_strikes_53 : decode cX2_strikes 53 = .ok (.ifCond .ne 5, 3) := by decide +kernel
theorem dX2_strikes_56 : decode cX2_strikes 56 = .ok (.iconst 0, 1) := by decide +kernel
theorem dX2_strikes_57 : decode cX2_strikes 57 = .ok (.ireturn, 1) := by decide +kernel
theorem dX2_strikes_58 : decode cX2_strikes 58 = .ok (.aload_n 0, 1) := by decide +kernel
theorem dX2_strikes_59 : decode cX2_strikes 59 = .ok (.getfield 19, 3) := by decide +kernel
theorem dX2_strikes_62 : decode cX2_strikes 62 = .ok (.iload 4, 2) := by decide +kernel
theorem dX2_strikes_64 : decode cX2_strikes 64 = .ok (.iaload, 1) := by decide +kernel
theorem dX2_strikes_65 : decode cX2_strikes 65 = .ok (.iconst (-1), 1) := by decide +kernel
theorem dX2_strikes_66 : decode cX2_strikes 66 = .ok (.if_icmp .ne 14, 3) := by decide +kernel
theorem dX2_strikes_69 : decode cX2_strikes 69 = .ok (.aload_n 0, 1) := by decide +kernel
theorem dX2_strikes_70 : decode cX2_strikes 70 = .ok (.getfield 19, 3) := by decide +kernel
theorem dX2_strikes_73 : decode cX2_strikes 73 = .ok (.iload 4, 2) := by decide +kernel
theorem dX2_strikes_75 : decode cX2_strikes 75 = .ok (.aload_n 0, 1) := by decide +kernel
theorem dX2_strikes_76 : decode cX2_strikes 76 = .ok (.getfield 9, 3) := by decide +kernel
theorem dX2_strikes_79 : decode cX2_strikes 79 = .ok (.iastore, 1) := by decide +kernel
theorem dX2_strikes_80 : decode cX2_strikes 80 = .ok (.iconst 1, 1) := by decide +kernel
theorem dX2_strikes_81 : decode cX2_strikes 81 = .ok (.ireturn, 1) := by decide +kernel
theorem dX2_mayCall_0 : decode cX2_mayCall 0 = .ok (.aload_n 0, 1) := by decide +kernel
theorem dX2_mayCall_1 : decode cX2_mayCall 1 = .ok (.getfield 35, 3) := by decide +kernel
theorem dX2_mayCall_4 : decode cX2_mayCall 4 = .ok (.getfield 52, 3) := by decide +kernel
theorem dX2_mayCall_7 : decode cX2_mayCall 7 = .ok (.sipush 512, 3) := by decide +kernel
theorem dX2_mayCall_10 : decode cX2_mayCall 10 = .ok (.if_icmp .ge 7, 3) := by decide +kernel
theorem dX2_mayCall_13 : decode cX2_mayCall 13 = .ok (.iconst 1, 1) := by decide +kernel
theorem dX2_mayCall_14 : decode cX2_mayCall 14 = .ok (.goto 4, 3) := by decide +kernel
theorem dX2_mayCall_17 : decode cX2_mayCall 17 = .ok (.iconst 0, 1) := by decide +kernel
theorem dX2_mayCall_18 : decode cX2_mayCall 18 = .ok (.ireturn, 1) := by decide +kernel
set_option maxRecDepth 20000 in
theorem ggX2_callOut_X0_add : GoodIn wsX2_callOut wsX0_add := goodIn_r _ [8, 9, 10, 11, 12, 13, 22, 23, 24, 25, 26] (by decide +kernel) (by decide +kernel)
set_option maxRecDepth 20000 in
theorem gX2_callOut_X0_add : GoodIn wsX2_callOut (wsV RX2 87 RX0 yX0_add wsX0_add) := goodIn_app (goodIn_of _ (by decide +kernel)) ggX2_callOut_X0_add
theorem dX2_callOut_0 : decode cX2_callOut 0 = .ok (.aload_n 0, 1) := by decide +kernel
theorem dX2_callOut_1 : decode cX2_callOut 1 = .ok (.getfield 35, 3) := by decide +kernel
theorem dX2_callOut_4 : decode cX2_callOut 4 = .ok (.iload_n 1, 1) := by decide +kernel
theorem dX2_callOut_5 : decode cX2_callOut 5 = .ok (.aload_n 0, 1) := by decide +kernel
theorem dX2_callOut_6 : decode cX2_callOut 6 = .ok (.getfield 15, 3) := by decide +kernel
theorem dX2_callOut_9 : decode cX2_callOut 9 = .ok (.iload_n 1, 1) := by decide +kernel
theorem dX2_callOut_10 : decode cX2_callOut 10 = .ok (.iaload, 1) := by decide +kernel
theorem dX2_callOut_11 : decode cX2_callOut 11 = .ok (.aload_n 0, 1) := by decide +kernel
theorem dX2_callOut_12 : decode cX2_callOut 12 = .ok (.getfield 9, 3) := by decide +kernel
theorem dX2_callOut_15 : decode cX2_callOut 15 = .ok (.invokevirtual 87, 3) := by decide +kernel
theorem dX2_callOut_18 : decode cX2_callOut 18 = .ok (.istore_n 2, 1) := by decide +kernel
theorem dX2_callOut_19 : decode cX2_callOut 19 = .ok (.aload_n 0, 1) := by decide +kernel
theorem dX2_callOut_20 : decode cX2_callOut 20 = .ok (.getfield 15, 3) := by decide +kernel
theorem dX2_callOut_23 : decode cX2_callOut 23 = .ok (.iload_n 1, 1) := by decide +kernel
theorem dX2_callOut_24 : decode cX2_callOut 24 = .ok (.bipush (-2), 2) := by decide +kernel
theorem dX2_callOut_26 : decode cX2_callOut 26 = .ok (.iastore, 1) := by decide +kernel
theorem dX2_callOut_27 : decode cX2_callOut 27 = .ok (.iload_n 2, 1) := by decide +kernel
theorem dX2_callOut_28 : decode cX2_callOut 28 = .ok (.ireturn, 1) := by decide +kernel
theorem dX2_hasCall_0 : decode cX2_hasCall 0 = .ok (.iload_n 1, 1) := by decide +kernel
theorem dX2_hasCall_1 : decode cX2_hasCall 1 = .ok (.ifCond .lt 18, 3) := by decide +kernel
theorem dX2_hasCall_4 : decode cX2_hasCall 4 = .ok (.iload_n 1, 1) := by decide +kernel
theorem dX2_hasCall_5 : decode cX2_hasCall 5 = .ok (.aload_n 0, 1) := by decide +kernel
theorem dX2_hasCall_6 : decode cX2_hasCall 6 = .ok (.getfield 35, 3) := by decide +kernel
theorem dX2_hasCall_9 : decode cX2_hasCall 9 = .ok (.getfield 52, 3) := by decide +kernel
theorem dX2_hasCall_12 : decode cX2_hasCall 12 = .ok (.if_icmp .ge 7, 3) := by decide +kernel
theorem dX2_hasCall_15 : decode cX2_hasCall 15 = .ok (.iconst 1, 1) := by decide +kernel
theorem dX2_hasCall_16 : decode cX2_hasCall 16 = .ok (.goto 4, 3) := by decide +kernel
theorem dX2_hasCall_19 : decode cX2_hasCall 19 = .ok (.iconst 0, 1) := by decide +kernel
theorem dX2_hasCall_20 : decode cX2_hasCall 20 = .ok (.ireturn, 1) := by decide +kernel
theorem dX2_isDisputed_0 : decode cX2_isDisputed 0 = .ok (.aload_n 0, 1) := by decide +kernel
theorem dX2_isDisputed_1 : decode cX2_isDisputed 1 = .ok (.getfield 35, 3) := by decide +kernel
theorem dX2_isDisputed_4 : decode cX2_isDisputed 4 = .ok (.getfield 90, 3) := by decide +kernel
theorem dX2_isDisputed_7 : decode cX2_isDisputed 7 = .ok (.iload_n 1, 1) := by decide +kernel
theorem dX2_isDisputed_8 : decode cX2_isDisputed 8 = .ok (.baload, 1) := by decide +kernel
theorem dX2_isDisputed_9 : decode cX2_isDisputed 9 = .ok (.ireturn, 1) := by decide +kernel
theorem dX2_teamCalled_0 : decode cX2_teamCalled 0 = .ok (.aload_n 0, 1) := by decide +kernel
theorem dX2_teamCalled_1 : decode cX2_teamCalled 1 = .ok (.getfield 35, 3) := by decide +kernel
theorem dX2_teamCalled_4 : decode cX2_teamCalled 4 = .ok (.getfield 94, 3) := by decide +kernel
theorem dX2_teamCalled_7 : decode cX2_teamCalled 7 = .ok (.iload_n 1, 1) := by decide +kernel
theorem dX2_teamCalled_8 : decode cX2_teamCalled 8 = .ok (.iaload, 1) := by decide +kernel
theorem dX2_teamCalled_9 : decode cX2_teamCalled 9 = .ok (.iconst 3, 1) := by decide +kernel
theorem dX2_teamCalled_10 : decode cX2_teamCalled 10 = .ok (.if_icmp .ge 10, 3) := by decide +kernel
theorem dX2_teamCalled_13 : decode cX2_teamCalled 13 = .ok (.aload_n 0, 1) := by decide +kernel
theorem dX2_teamCalled_14 : decode cX2_teamCalled 14 = .ok (.getfield 43, 3) := by decide +kernel
theorem dX2_teamCalled_17 : decode cX2_teamCalled 17 = .ok (.goto 7, 3) := by decide +kernel
theorem dX2_teamCalled_20 : decode cX2_teamCalled 20 = .ok (.aload_n 0, 1) := by decide +kernel
theorem dX2_teamCalled_21 : decode cX2_teamCalled 21 = .ok (.getfield 46, 3) := by decide +kernel
theorem dX2_teamCalled_24 : decode cX2_teamCalled 24 = .ok (.ireturn, 1) := by decide +kernel
set_option maxRecDepth 20000 in
theorem ggX2_judge_X2_playerOn : GoodIn wsX2_judge wsX2_playerOn := goodIn_r _ [12, 7, 13, 14, 15, 16, 17, 18, 19, 20] (by decide +kernel) (by decide +kernel)
set_option maxRecDepth 20000 in
theorem gX2_judge_X2_playerOn : GoodIn wsX2_judge (wsV RX2 73 RX2 yX2_playerOn wsX2_playerOn) := goodIn_app (goodIn_of _ (by decide +kernel)) ggX2_judge_X2_playerOn
theorem dX2_judge_0 : decode cX2_judge 0 = .ok (.aload_n 0, 1) := by decide +kernel
theorem dX2_judge_1 : decode cX2_judge 1 = .ok (.getfield 35, 3) := by decide +kernel
theorem dX2_judge_4 : decode cX2_judge 4 = .ok (.getfield 94, 3) := by decide +kernel
theorem dX2_judge_7 : decode cX2_judge 7 = .ok (.iload_n 1, 1) := by decide +kernel
theorem dX2_judge_8 : decode cX2_judge 8 = .ok (.iaload, 1) := by decide +kernel
theorem dX2_judge_9 : decode cX2_judge 9 = .ok (.istore_n 2, 1) := by decide +kernel
theorem dX2_judge_10 : decode cX2_judge 10 = .ok (.aload_n 0, 1) := by decide +kernel
theorem dX2_judge_11 : decode cX2_judge 11 = .ok (.getfield 35, 3) := by decide +kernel
theorem dX2_judge_14 : decode cX2_judge 14 = .ok (.getfield 90, 3) := by decide +kernel
theorem dX2_judge_17 : decode cX2_judge 17 = .ok (.iload_n 1, 1) := by decide +kernel
theorem dX2_judge_18 : decode cX2_judge 18 = .ok (.iconst 1, 1) := by decide +kernel
theorem dX2_judge_19 : decode cX2_judge 19 = .ok (.bastore, 1) := by decide +kernel
theorem dX2_judge_20 : decode cX2_judge 20 = .ok (.aload_n 0, 1) := by decide +kernel
theorem dX2_judge_21 : decode cX2_judge 21 = .ok (.getfield 19, 3) := by decide +kernel
theorem dX2_judge_24 : decode cX2_judge 24 = .ok (.iload_n 2, 1) := by decide +kernel
theorem dX2_judge_25 : decode cX2_judge 25 = .ok (.iaload, 1) := by decide +kernel
theorem dX2_judge_26 : decode cX2_judge 26 = .ok (.iconst (-1), 1) := by decide +kernel
theorem dX2_judge_27 : decode cX2_judge 27 = .ok (.if_icmp .eq 23, 3) := by decide +kernel
theorem dX2_judge_30 : decode cX2_judge 30 = .ok (.aload_n 0, 1) := by decide +kernel
theorem dX2_judge_31 : decode cX2_judge 31 = .ok (.getfield 19, 3) := by decide +kernel
theorem dX2_judge_34 : decode cX2_judge 34 = .ok (.iload_n 2, 1) := by decide +kernel
theorem dX2_judge_35 : decode cX2_judge 35 = .ok (.iaload, 1) := by decide +kernel
theorem dX2_judge_36 : decode cX2_judge 36 = .ok (.aload_n 0, 1) := by decide +kernel
theorem dX2_judge_37 : decode cX2_judge 37 = .ok (.getfield 35, 3) := by decide +kernel
theorem dX2_judge_40 : decode cX2_judge 40 = .ok (.getfield 97, 3) := by decide +kernel
theorem dX2_judge_43 : decode cX2_judge 43 = .ok (.iload_n 1, 1) := by decide +kernel
theorem dX2_judge_44 : decode cX2_judge 44 = .ok (.iaload, 1) := by decide +kernel
theorem dX2_judge_45 : decode cX2_judge 45 = .ok (.if_icmp .gt 5, 3) := by decide +kernel
theorem dX2_judge_48 : decode cX2_judge 48 = .ok (.iconst 1, 1) := by decide +kernel
theorem dX2_judge_49 : decode cX2_judge 49 = .ok (.ireturn, 1) := by decide +kernel
theorem dX2_judge_50 : decode cX2_judge 50 = .ok (.aload_n 0, 1) := by decide +kernel
theorem dX2_judge_51 : decode cX2_judge 51 = .ok (.getfield 35, 3) := by decide +kernel
theorem dX2_judge_54 : decode cX2_judge 54 = .ok (.getfield 100, 3) := by decide +kernel
theorem dX2_judge_57 : decode cX2_judge 57 = .ok (.iload_n 1, 1) := by decide +kernel
theorem dX2_judge_58 : decode cX2_judge 58 = .ok (.iaload, 1) := by decide +kernel
theorem dX2_judge_59 : decode cX2_judge 59 = .ok (.istore_n 3, 1) := by decide +kernel
theorem dX2_judge_60 : decode cX2_judge 60 = .ok (.aload_n 0, 1) := by decide +kernel
theorem dX2_judge_61 : decode cX2_judge 61 = .ok (.getfield 15, 3) := by decide +kernel
theorem dX2_judge_64 : decode cX2_judge 64 = .ok (.iload_n 2, 1) := by decide +kernel
theorem dX2_judge_65 : decode cX2_judge 65 = .ok (.aload_n 0, 1) := by decide +kernel
theorem dX2_judge_66 : decode cX2_judge 66 = .ok (.iload_n 3, 1) := by decide +kernel
theorem dX2_judge_67 : decode cX2_judge 67 = .ok (.invokevirtual 73, 3) := by decide +kernel
theorem dX2_judge_70 : decode cX2_judge 70 = .ok (.iconst (-1), 1) := by decide +kernel
theorem dX2_judge_71 : decode cX2_judge 71 = .ok (.if_icmp .ne 7, 3) := by decide +kernel
theorem dX2_judge_74 : decode cX2_judge 74 = .ok (.iload_n 3, 1) := by decide +kernel
theorem dX2_judge_75 : decode cX2_judge 75 = .ok (.goto 4, 3) := by decide +kernel
theorem dX2_judge_78 : decode cX2_judge 78 = .ok (.iconst (-1), 1) := by decide +kernel
theorem dX2_judge_79 : decode cX2_judge 79 = .ok (.iastore, 1) := by decide +kernel
theorem dX2_judge_80 : decode cX2_judge 80 = .ok (.iconst 0, 1) := by decide +kernel
theorem dX2_judge_81 : decode cX2_judge 81 = .ok (.ireturn, 1) := by decide +kernel
theorem dX2_margin_0 : decode cX2_margin 0 = .ok (.iconst 0, 1) := by decide +kernel
theorem dX2_margin_1 : decode cX2_margin 1 = .ok (.istore_n 1, 1) := by decide +kernel
theorem dX2_margin_2 : decode cX2_margin 2 = .ok (.iconst 0, 1) := by decide +kernel
theorem dX2_margin_3 : decode cX2_margin 3 = .ok (.istore_n 2, 1) := by decide +kernel
theorem dX2_margin_4 : decode cX2_margin 4 = .ok (.iload_n 2, 1) := by decide +kernel
theorem dX2_margin_5 : decode cX2_margin 5 = .ok (.bipush 6, 2) := by decide +kernel
theorem dX2_margin_7 : decode cX2_margin 7 = .ok (.if_icmp .ge 43, 3) := by decide +kernel
theorem dX2_margin_10 : decode cX2_margin 10 = .ok (.aload_n 0, 1) := by decide +kernel
theorem dX2_margin_11 : decode cX2_margin 11 = .ok (.getfield 15, 3) := by decide +kernel
theorem dX2_margin_14 : decode cX2_margin 14 = .ok (.iload_n 2, 1) := by decide +kernel
theorem dX2_margin_15 : decode cX2_margin 15 = .ok (.iaload, 1) := by decide +kernel
theorem dX2_margin_16 : decode cX2_margin 16 = .ok (.bipush (-2), 2) := by decide +kernel
theorem dX2_margin_18 : decode cX2_margin 18 = .ok (.if_icmp .eq 26, 3) := by decide +kernel
theorem dX2_margin_21 : decode cX2_margin 21 = .ok (.aload_n 0, 1) := by decide +kernel
theorem dX2_margin_22 : decode cX2_margin 22 = .ok (.getfield 19, 3) := by decide +kernel
theorem dX2_margin_25 : decode cX2_margin 25 = .ok (.iload_n 2, 1) := by decide +kernel
theorem dX2_margin_26 : decode cX2_margin 26 = .ok (.iaload, 1) := by decide +kernel
theorem dX2_margin_27 : decode cX2_margin 27 = .ok (.iconst (-1), 1) := by decide +kernel
theorem dX2_margin_28 : decode cX2_margin 28 = .ok (.if_icmp .ne 16, 3) := by decide +kernel
theorem dX2_margin_31 : decode cX2_margin 31 = .ok (.iload_n 1, 1) := by decide +kernel
theorem dX2_margin_32 : decode cX2_margin 32 = .ok (.iload_n 2, 1) := by decide +kernel
theorem dX2_margin_33 : decode cX2_margin 33 = .ok (.iconst 3, 1) := by decide +kernel
theorem dX2_margin_34 : decode cX2_margin 34 = .ok (.if_icmp .ge 7, 3) := by decide +kernel
theorem dX2_margin_37 : decode cX2_margin 37 = .ok (.iconst 1, 1) := by decide +kernel
theorem dX2_margin_38 : decode cX2_margin 38 = .ok (.goto 4, 3) := by decide +kernel
theorem dX2_margin_41 : decode cX2_margin 41 = .ok (.iconst (-1), 1) := by decide +kernel
theorem dX2_margin_42 : decode cX2_margin 42 = .ok (.iadd, 1) := by decide +kernel
theorem dX2_margin_43 : decode cX2_margin 43 = .ok (.istore_n 1, 1) := by decide +kernel
theorem dX2_margin_44 : decode cX2_margin 44 = .ok (.iinc 2 1, 3) := by decide +kernel
theorem dX2_margin_47 : decode cX2_margin 47 = .ok (.goto (-43), 3) := by decide +kernel
theorem dX2_margin_50 : decode cX2_margin 50 = .ok (.iload_n 1, 1) := by decide +kernel
theorem dX2_margin_51 : decode cX2_margin 51 = .ok (.ireturn, 1) := by decide +kernel
theorem dX3_init_0 : decode cX3_init 0 = .ok (.aload_n 0, 1) := by decide +kernel
theorem dX3_init_1 : decode cX3_init 1 = .ok (.invokespecial 3, 3) := by decide +kernel
theorem dX3_init_4 : decode cX3_init 4 = .ok (.aload_n 0, 1) := by decide +kernel
theorem dX3_init_5 : decode cX3_init 5 = .ok (.bipush 100, 2) := by decide +kernel
theorem dX3_init_7 : decode cX3_init 7 = .ok (.newarray .int, 2) := by decide +kernel
theorem dX3_init_9 : decode cX3_init 9 = .ok (.putfield 9, 3) := by decide +kernel
theorem dX3_init_12 : decode cX3_init 12 = .ok (.aload_n 0, 1) := by decide +kernel
theorem dX3_init_13 : decode cX3_init 13 = .ok (.bipush 100, 2) := by decide +kernel
theorem dX3_init_15 : decode cX3_init 15 = .ok (.newarray .int, 2) := by decide +kernel
theorem dX3_init_17 : decode cX3_init 17 = .ok (.putfield 15, 3) := by decide +kernel
theorem dX3_init_20 : decode cX3_init 20 = .ok (.aload_n 0, 1) := by decide +kernel
theorem dX3_init_21 : decode cX3_init 21 = .ok (.bipush 100, 2) := by decide +kernel
theorem dX3_init_23 : decode cX3_init 23 = .ok (.newarray .int, 2) := by decide +kernel
theorem dX3_init_25 : decode cX3_init 25 = .ok (.putfield 18, 3) := by decide +kernel
theorem dX3_init_28 : decode cX3_init 28 = .ok (.aload_n 0, 1) := by decide +kernel
theorem dX3_init_29 : decode cX3_init 29 = .ok (.bipush 100, 2) := by decide +kernel
theorem dX3_init_31 : decode cX3_init 31 = .ok (.newarray .int, 2) := by decide +kernel
theorem dX3_init_33 : decode cX3_init 33 = .ok (.putfield 21, 3) := by decide +kernel
theorem dX3_init_36 : decode cX3_init 36 = .ok (.return_, 1) := by decide +kernel
theorem dX3_add_0 : decode cX3_add 0 = .ok (.aload_n 0, 1) := by decide +kernel
theorem dX3_add_1 : decode cX3_add 1 = .ok (.getfield 9, 3) := by decide +kernel
theorem dX3_add_4 : decode cX3_add 4 = .ok (.aload_n 0, 1) := by decide +kernel
theorem dX3_add_5 : decode cX3_add 5 = .ok (.getfield 24, 3) := by decide +kernel
theorem dX3_add_8 : decode cX3_add 8 = .ok (.iload_n 1, 1) := by decide +kernel
theorem dX3_add_9 : decode cX3_add 9 = .ok (.iastore, 1) := by decide +kernel
theorem dX3_add_10 : decode cX3_add 10 = .ok (.aload_n 0, 1) := by decide +kernel
theorem dX3_add_11 : decode cX3_add 11 = .ok (.getfield 15, 3) := by decide +kernel
theorem dX3_add_14 : decode cX3_add 14 = .ok (.aload_n 0, 1) := by decide +kernel
theorem dX3_add_15 : decode cX3_add 15 = .ok (.getfield 24, 3) := by decide +kernel
theorem dX3_add_18 : decode cX3_add 18 = .ok (.iload_n 2, 1) := by decide +kernel
theorem dX3_add_19 : decode cX3_add 19 = .ok (.iastore, 1) := by decide +kernel
theorem dX3_add_20 : decode cX3_add 20 = .ok (.aload_n 0, 1) := by decide +kernel
theorem dX3_add_21 : decode cX3_add 21 = .ok (.getfield 18, 3) := by decide +kernel
theorem dX3_add_24 : decode cX3_add 24 = .ok (.aload_n 0, 1) := by decide +kernel
theorem dX3_add_25 : decode cX3_add 25 = .ok (.getfield 24, 3) := by decide +kernel
theorem dX3_add_28 : decode cX3_add 28 = .ok (.iload_n 3, 1) := by decide +kernel
theorem dX3_add_29 : decode cX3_add 29 = .ok (.iastore, 1) := by decide +kernel
theorem dX3_add_30 : decode cX3_add 30 = .ok (.aload_n 0, 1) := by decide +kernel
theorem dX3_add_31 : decode cX3_add 31 = .ok (.getfield 21, 3) := by decide +kernel
theorem dX3_add_34 : decode cX3_add 34 = .ok (.aload_n 0, 1) := by decide +kernel
theorem dX3_add_35 : decode cX3_add 35 = .ok (.getfield 24, 3) := by decide +kernel
theorem dX3_add_38 : decode cX3_add 38 = .ok (.iload 4, 2) := by decide +kernel
theorem dX3_add_40 : decode cX3_add 40 = .ok (.iastore, 1) := by decide +kernel
theorem dX3_add_41 : decode cX3_add 41 = .ok (.aload_n 0, 1) := by decide +kernel
theorem dX3_add_42 : decode cX3_add 42 = .ok (.dup, 1) := by decide +kernel
theorem dX3_add_43 : decode cX3_add 43 = .ok (.getfield 24, 3) := by decide +kernel
theorem dX3_add_46 : decode cX3_add 46 = .ok (.iconst 1, 1) := by decide +kernel
theorem dX3_add_47 : decode cX3_add 47 = .ok (.iadd, 1) := by decide +kernel
theorem dX3_add_48 : decode cX3_add 48 = .ok (.putfield 24, 3) := by decide +kernel
theorem dX3_add_51 : decode cX3_add 51 = .ok (.return_, 1) := by decide +kernel
theorem dX4_init_0 : decode cX4_init 0 = .ok (.aload_n 0, 1) := by decide +kernel
theorem dX4_init_1 : decode cX4_init 1 = .ok (.invokespecial 3, 3) := by decide +kernel
theorem dX4_init_4 : decode cX4_init 4 = .ok (.aload_n 0, 1) := by decide +kernel
theorem dX4_init_5 : decode cX4_init 5 = .ok (.bipush 6, 2) := by decide +kernel
theorem dX4_init_7 : decode cX4_init 7 = .ok (.newarray .int, 2) := by decide +kernel
theorem dX4_init_9 : decode cX4_init 9 = .ok (.putfield 9, 3) := by decide +kernel
theorem dX4_init_12 : decode cX4_init 12 = .ok (.aload_n 0, 1) := by decide +kernel
theorem dX4_init_13 : decode cX4_init 13 = .ok (.bipush 6, 2) := by decide +kernel
theorem dX4_init_15 : decode cX4_init 15 = .ok (.newarray .int, 2) := by decide +kernel
theorem dX4_init_17 : decode cX4_init 17 = .ok (.putfield 15, 3) := by decide +kernel
theorem dX4_init_20 : decode cX4_init 20 = .ok (.aload_n 0, 1) := by decide +kernel
theorem dX4_init_21 : decode cX4_init 21 = .ok (.bipush 6, 2) := by decide +kernel
theorem dX4_init_23 : decode cX4_init 23 = .ok (.newarray .int, 2) := by decide +kernel
theorem dX4_init_25 : decode cX4_init 25 = .ok (.putfield 18, 3) := by decide +kernel
theorem dX4_init_28 : decode cX4_init 28 = .ok (.aload_n 0, 1) := by decide +kernel
theorem dX4_init_29 : decode cX4_init 29 = .ok (.bipush 6, 2) := by decide +kernel
theorem dX4_init_31 : decode cX4_init 31 = .ok (.bipush 6, 2) := by decide +kernel
theorem dX4_init_33 : decode cX4_init 33 = .ok (.multianewarray 21 2, 4) := by decide +kernel
theorem dX4_init_37 : decode cX4_init 37 = .ok (.putfield 23, 3) := by decide +kernel
theorem dX4_init_40 : decode cX4_init 40 = .ok (.return_, 1) := by decide +kernel
theorem dX4_pointsOf_0 : decode cX4_pointsOf 0 = .ok (.aload_n 0, 1) := by decide +kernel
theorem dX4_pointsOf_1 : decode cX4_pointsOf 1 = .ok (.getfield 9, 3) := by decide +kernel
theorem dX4_pointsOf_4 : decode cX4_pointsOf 4 = .ok (.iload_n 1, 1) := by decide +kernel
theorem dX4_pointsOf_5 : decode cX4_pointsOf 5 = .ok (.iaload, 1) := by decide +kernel
theorem dX4_pointsOf_6 : decode cX4_pointsOf 6 = .ok (.ireturn, 1) := by decide +kernel
theorem dX4_finesOf_0 : decode cX4_finesOf 0 = .ok (.aload_n 0, 1) := by decide +kernel
theorem dX4_finesOf_1 : decode cX4_finesOf 1 = .ok (.getfield 15, 3) := by decide +kernel
theorem dX4_finesOf_4 : decode cX4_finesOf 4 = .ok (.iload_n 1, 1) := by decide +kernel
theorem dX4_finesOf_5 : decode cX4_finesOf 5 = .ok (.iaload, 1) := by decide +kernel
theorem dX4_finesOf_6 : decode cX4_finesOf 6 = .ok (.ireturn, 1) := by decide +kernel
theorem dX4_differenceOf_0 : decode cX4_differenceOf 0 = .ok (.aload_n 0, 1) := by decide +kernel
theorem dX4_differenceOf_1 : decode cX4_differenceOf 1 = .ok (.getfield 18, 3) := by decide +kernel
theorem dX4_differenceOf_4 : decode cX4_differenceOf 4 = .ok (.iload_n 1, 1) := by decide +kernel
theorem dX4_differenceOf_5 : decode cX4_differenceOf 5 = .ok (.iaload, 1) := by decide +kernel
theorem dX4_differenceOf_6 : decode cX4_differenceOf 6 = .ok (.ireturn, 1) := by decide +kernel
theorem dX4_fine_0 : decode cX4_fine 0 = .ok (.aload_n 0, 1) := by decide +kernel
theorem dX4_fine_1 : decode cX4_fine 1 = .ok (.getfield 15, 3) := by decide +kernel
theorem dX4_fine_4 : decode cX4_fine 4 = .ok (.iload_n 1, 1) := by decide +kernel
theorem dX4_fine_5 : decode cX4_fine 5 = .ok (.dup2, 1) := by decide +kernel
theorem dX4_fine_6 : decode cX4_fine 6 = .ok (.iaload, 1) := by decide +kernel
theorem dX4_fine_7 : decode cX4_fine 7 = .ok (.iconst 1, 1) := by decide +kernel
theorem dX4_fine_8 : decode cX4_fine 8 = .ok (.iadd, 1) := by decide +kernel
theorem dX4_fine_9 : decode cX4_fine 9 = .ok (.iastore, 1) := by decide +kernel
theorem dX4_fine_10 : decode cX4_fine 10 = .ok (.return_, 1) := by decide +kernel
set_option maxRecDepth 20000 in
theorem ggX4_enter_X4_enterWin : GoodIn wsX4_enter wsX4_enterWin := goodIn_r _ [7, 2, 8, 14, 15, 16, 17] (by decide +kernel) (by decide +kernel)
set_option maxRecDepth 20000 in
theorem gX4_enter_X4_enterWin : GoodIn wsX4_enter (wsV RX4 26 RX4 yX4_enterWin wsX4_enterWin) := goodIn_app (goodIn_of _ (by decide +kernel)) ggX4_enter_X4_enterWin
set_option maxRecDepth 20000 in
theorem ggX4_enter_X4_takePenalties : GoodIn wsX4_enter wsX4_takePenalties := goodIn_r _ [12, 13, 2, 14, 15, 16, 17] (by decide +kernel) (by decide +kernel)
set_option maxRecDepth 20000 in
theorem gX4_enter_X4_takePenalties : GoodIn wsX4_enter (wsV RX4 30 RX4 yX4_takePenalties wsX4_takePenalties) := goodIn_app (goodIn_of _ (by decide +kernel)) ggX4_enter_X4_takePenalties
theorem dX4_enter_0 : decode cX4_enter 0 = .ok (.aload_n 0, 1) := by decide +kernel
theorem dX4_enter_1 : decode cX4_enter 1 = .ok (.getfield 18, 3) := by decide +kernel
theorem dX4_enter_4 : decode cX4_enter 4 = .ok (.iload_n 1, 1) := by decide +kernel
theorem dX4_enter_5 : decode cX4_enter 5 = .ok (.dup2, 1) := by decide +kernel
theorem dX4_enter_6 : decode cX4_enter 6 = .ok (.iaload, 1) := by decide +kernel
theorem dX4_enter_7 : decode cX4_enter 7 = .ok (.iload_n 3, 1) := by decide +kernel
theorem dX4_enter_8 : decode cX4_enter 8 = .ok (.iadd, 1) := by decide +kernel
theorem dX4_enter_9 : decode cX4_enter 9 = .ok (.iastore, 1) := by decide +kernel
theorem dX4_enter_10 : decode cX4_enter 10 = .ok (.aload_n 0, 1) := by decide +kernel
theorem dX4_enter_11 : decode cX4_enter 11 = .ok (.getfield 18, 3) := by decide +kernel
theorem dX4_enter_14 : decode cX4_enter 14 = .ok (.iload_n 2, 1) := by decide +kernel
theorem dX4_enter_15 : decode cX4_enter 15 = .ok (.dup2, 1) := by decide +kernel
theorem dX4_enter_16 : decode cX4_enter 16 = .ok (.iaload, 1) := by decide +kernel
theorem dX4_enter_17 : decode cX4_enter 17 = .ok (.iload_n 3, 1) := by decide +kernel
theorem dX4_enter_18 : decode cX4_enter 18 = .ok (.isub, 1) := by decide +kernel
theorem dX4_enter_19 : decode cX4_enter 19 = .ok (.iastore, 1) := by decide +kernel
theorem dX4_enter_20 : decode cX4_enter 20 = .ok (.iload_n 3, 1) := by decide +kernel
theorem dX4_enter_21 : decode cX4_enter 21 = .ok (.ifCond .le 12, 3) := by decide +kernel
theorem dX4_enter_24 : decode cX4_enter 24 = .ok (.aload_n 0, 1) := by decide +kernel
theorem dX4_enter_25 : decode cX4_enter 25 = .ok (.iload_n 1, 1) := by decide +kernel
theorem dX4_enter_26 : decode cX4_enter 26 = .ok (.iload_n 2, 1) := by decide +kernel
theorem dX4_enter_27 : decode cX4_enter 27 = .ok (.invokevirtual 26, 3) := by decide +kernel
theorem dX4_enter_30 : decode cX4_enter 30 = .ok (.goto 36, 3) := by decide +kernel
theorem dX4_enter_33 : decode cX4_enter 33 = .ok (.iload_n 3, 1) := by decide +kernel
theorem dX4_enter_34 : decode cX4_enter 34 = .ok (.ifCond .ge 12, 3) := by decide +kernel
theorem dX4_enter_37 : decode cX4_enter 37 = .ok (.aload_n 0, 1) := by decide +kernel
theorem dX4_enter_38 : decode cX4_enter 38 = .ok (.iload_n 2, 1) := by decide +kernel
theorem dX4_enter_39 : decode cX4_enter 39 = .ok (.iload_n 1, 1) := by decide +kernel
theorem dX4_enter_40 : decode cX4_enter 40 = .ok (.invokevirtual 26, 3) := by decide +kernel
theorem dX4_enter_43 : decode cX4_enter 43 = .ok (.goto 23, 3) := by decide +kernel
theorem dX4_enter_46 : decode cX4_enter 46 = .ok (.aload_n 0, 1) := by decide +kernel
theorem dX4_enter_47 : decode cX4_enter 47 = .ok (.getfield 9, 3) := by decide +kernel
theorem dX4_enter_50 : decode cX4_enter 50 = .ok (.iload_n 1, 1) := by decide +kernel
theorem dX4_enter_51 : decode cX4_enter 51 = .ok (.dup2, 1) := by decide +kernel
theorem dX4_enter_52 : decode cX4_enter 52 = .ok (.iaload, 1) := by decide +kernel
theorem dX4_enter_53 : decode cX4_enter 53 = .ok (.iconst 1, 1) := by decide +kernel
theorem dX4_enter_54 : decode cX4_enter 54 = .ok (.iadd, 1) := by decide +kernel
theorem dX4_enter_55 : decode cX4_enter 55 = .ok (.iastore, 1) := by decide +kernel
theorem dX4_enter_56 : decode cX4_enter 56 = .ok (.aload_n 0, 1) := by decide +kernel
theorem dX4_enter_57 : decode cX4_enter 57 = .ok (.getfield 9, 3) := by decide +kernel
theorem dX4_enter_60 : decode cX4_enter 60 = .ok (.iload_n 2, 1) := by decide +kernel
theorem dX4_enter_61 : decode cX4_enter 61 = .ok (.dup2, 1) := by decide +kernel
theorem dX4_enter_62 : decode cX4_enter 62 = .ok (.iaload, 1) := by decide +kernel
theorem dX4_enter_63 : decode cX4_enter 63 = .ok (.iconst 1, 1) := by decide +kernel
theorem dX4_enter_64 : decode cX4_enter 64 = .ok (.iadd, 1) := by decide +kernel
theorem dX4_enter_65 : decode cX4_enter 65 = .ok (.iastore, 1) := by decide +kernel
theorem dX4_enter_66 : decode cX4_enter 66 = .ok (.aload_n 0, 1) := by decide +kernel
theorem dX4_enter_67 : decode cX4_enter 67 = .ok (.invokevirtual 30, 3) := by decide +kernel
theorem dX4_enter_70 : decode cX4_enter 70 = .ok (.return_, 1) := by decide +kernel
theorem dX4_enterWin_0 : decode cX4_enterWin 0 = .ok (.aload_n 0, 1) := by decide +kernel
theorem dX4_enterWin_1 : decode cX4_enterWin 1 = .ok (.getfield 9, 3) := by decide +kernel
theorem dX4_enterWin_4 : decode cX4_enterWin 4 = .ok (.iload_n 1, 1) := by decide +kernel
theorem dX4_enterWin_5 : decode cX4_enterWin 5 = .ok (.dup2, 1) := by decide +kernel
theorem dX4_enterWin_6 : decode cX4_enterWin 6 = .ok (.iaload, 1) := by decide +kernel
theorem dX4_enterWin_7 : decode cX4_enterWin 7 = .ok (.iconst 3, 1) := by decide +kernel
theorem dX4_enterWin_8 : decode cX4_enterWin 8 = .ok (.iadd, 1) := by decide +kernel
theorem dX4_enterWin_9 : decode cX4_enterWin 9 = .ok (.iastore, 1) := by decide +kernel
theorem dX4_enterWin_10 : decode cX4_enterWin 10 = .ok (.aload_n 0, 1) := by decide +kernel
theorem dX4_enterWin_11 : decode cX4_enterWin 11 = .ok (.getfield 23, 3) := by decide +kernel
theorem dX4_enterWin_14 : decode cX4_enterWin 14 = .ok (.iload_n 1, 1) := by decide +kernel
theorem dX4_enterWin_15 : decode cX4_enterWin 15 = .ok (.aaload, 1) := by decide +kernel
theorem dX4_enterWin_16 : decode cX4_enterWin 16 = .ok (.iload_n 2, 1) := by decide +kernel
theorem dX4_enterWin_17 : decode cX4_enterWin 17 = .ok (.dup2, 1) := by decide +kernel
theorem dX4_enterWin_18 : decode cX4_enterWin 18 = .ok (.iaload, 1) := by decide +kernel
theorem dX4_enterWin_19 : decode cX4_enterWin 19 = .ok (.iconst 1, 1) := by decide +kernel
theorem dX4_enterWin_20 : decode cX4_enterWin 20 = .ok (.iadd, 1) := by decide +kernel
theorem dX4_enterWin_21 : decode cX4_enterWin 21 = .ok (.iastore, 1) := by decide +kernel
theorem dX4_enterWin_22 : decode cX4_enterWin 22 = .ok (.return_, 1) := by decide +kernel
theorem dX4_takePenalties_0 : decode cX4_takePenalties 0 = .ok (.iconst 0, 1) := by decide +kernel
theorem dX4_takePenalties_1 : decode cX4_takePenalties 1 = .ok (.istore_n 1, 1) := by decide +kernel
theorem dX4_takePenalties_2 : decode cX4_takePenalties 2 = .ok (.iload_n 1, 1) := by decide +kernel
theorem dX4_takePenalties_3 : decode cX4_takePenalties 3 = .ok (.bipush 6, 2) := by decide +kernel
theorem dX4_takePenalties_5 : decode cX4_takePenalties 5 = .ok (.if_icmp .ge 39, 3) := by decide +kernel
theorem dX4_takePenalties_8 : decode cX4_takePenalties 8 = .ok (.aload_n 0, 1) := by decide +kernel
theorem dX4_takePenalties_9 : decode cX4_takePenalties 9 = .ok (.getfield 15, 3) := by decide +kernel
theorem dX4_takePenalties_12 : decode cX4_takePenalties 12 = .ok (.iload_n 1, 1) := by decide +kernel
theorem dX4_takePenalties_13 : decode cX4_takePenalties 13 = .ok (.iaload, 1) := by decide +kernel
theorem dX4_takePenalties_14 : decode cX4_takePenalties 14 = .ok (.iconst 2, 1) := by decide +kernel
theorem dX4_takePenalties_15 : decode cX4_takePenalties 15 = .ok (.if_icmp .lt 23, 3) := by decide +kernel
theorem dX4_takePenalties_18 : decode cX4_takePenalties 18 = .ok (.aload_n 0, 1) := by decide +kernel
theorem dX4_takePenalties_19 : decode cX4_takePenalties 19 = .ok (.getfield 9, 3) := by decide +kernel
theorem dX4_takePenalties_22 : decode cX4_takePenalties 22 = .ok (.iload_n 1, 1) := by decide +kernel
theorem dX4_takePenalties_23 : decode cX4_takePenalties 23 = .ok (.dup2, 1) := by decide +kernel
theorem dX4_takePenalties_24 : decode cX4_takePenalties 24 = .ok (.iaload, 1) := by decide +kernel
theorem dX4_takePenalties_25 : decode cX4_takePenalties 25 = .ok (.iconst 1, 1) := by decide +kernel
theorem dX4_takePenalties_26 : decode cX4_takePenalties 26 = .ok (.isub, 1) := by decide +kernel
theorem dX4_takePenalties_27 : decode cX4_takePenalties 27 = .ok (.iastore, 1) := by decide +kernel
theorem dX4_takePenalties_28 : decode cX4_takePenalties 28 = .ok (.aload_n 0, 1) := by decide +kernel
theorem dX4_takePenalties_29 : decode cX4_takePenalties 29 = .ok (.getfield 15, 3) := by decide +kernel
theorem dX4_takePenalties_32 : decode cX4_takePenalties 32 = .ok (.iload_n 1, 1) := by decide +kernel
theorem dX4_takePenalties_33 : decode cX4_takePenalties 33 = .ok (.dup2, 1) := by decide +kernel
theorem dX4_takePenalties_34 : decode cX4_takePenalties 34 = .ok (.iaload, 1) := by decide +kernel
theorem dX4_takePenalties_35 : decode cX4_takePenalties 35 = .ok (.iconst 2, 1) := by decide +kernel
theorem dX4_takePenalties_36 : decode cX4_takePenalties 36 = .ok (.isub, 1) := by decide +kernel
theorem dX4_takePenalties_37 : decode cX4_takePenalties 37 = .ok (.iastore, 1) := by decide +kernel
theorem dX4_takePenalties_38 : decode cX4_takePenalties 38 = .ok (.iinc 1 1, 3) := by decide +kernel
theorem dX4_takePenalties_41 : decode cX4_takePenalties 41 = .ok (.goto (-39), 3) := by decide +kernel
theorem dX4_takePenalties_44 : decode cX4_takePenalties 44 = .ok (.return_, 1) := by decide +kernel
set_option maxRecDepth 20000 in
theorem ggX4_placeOf_X4_isAhead : GoodIn wsX4_placeOf wsX4_isAhead := goodIn_r _ [5, 6, 7, 8, 9, 10, 11, 12] (by decide +kernel) (by decide +kernel)
set_option maxRecDepth 20000 in
theorem gX4_placeOf_X4_isAhead : GoodIn wsX4_placeOf (wsV RX4 33 RX4 yX4_isAhead wsX4_isAhead) := goodIn_app (goodIn_of _ (by decide +kernel)) ggX4_placeOf_X4_isAhead
theorem dX4_placeOf_0 : decode cX4_placeOf 0 = .ok (.iconst 1, 1) := by decide +kernel
theorem dX4_placeOf_1 : decode cX4_placeOf 1 = .ok (.istore_n 2, 1) := by decide +kernel
theorem dX4_placeOf_2 : decode cX4_placeOf 2 = .ok (.iconst 0, 1) := by decide +kernel
theorem dX4_placeOf_3 : decode cX4_placeOf 3 = .ok (.istore_n 3, 1) := by decide +kernel
theorem dX4_placeOf_4 : decode cX4_placeOf 4 = .ok (.iload_n 3, 1) := by decide +kernel
theorem dX4_placeOf_5 : decode cX4_placeOf 5 = .ok (.bipush 6, 2) := by decide +kernel
theorem dX4_placeOf_7 : decode cX4_placeOf 7 = .ok (.if_icmp .ge 26, 3) := by decide +kernel
theorem dX4_placeOf_10 : decode cX4_placeOf 10 = .ok (.iload_n 3, 1) := by decide +kernel
theorem dX4_placeOf_11 : decode cX4_placeOf 11 = .ok (.iload_n 1, 1) := by decide +kernel
theorem dX4_placeOf_12 : decode cX4_placeOf 12 = .ok (.if_icmp .eq 15, 3) := by decide +kernel
theorem dX4_placeOf_15 : decode cX4_placeOf 15 = .ok (.aload_n 0, 1) := by decide +kernel
theorem dX4_placeOf_16 : decode cX4_placeOf 16 = .ok (.iload_n 3, 1) := by decide +kernel
theorem dX4_placeOf_17 : decode cX4_placeOf 17 = .ok (.iload_n 1, 1) := by decide +kernel
theorem dX4_placeOf_18 : decode cX4_placeOf 18 = .ok (.invokevirtual 33, 3) := by decide +kernel
theorem dX4_placeOf_21 : decode cX4_placeOf 21 = .ok (.ifCond .eq 6, 3) := by decide +kernel
theorem dX4_placeOf_24 : decode cX4_placeOf 24 = .ok (.iinc 2 1, 3) := by decide +kernel
theorem dX4_placeOf_27 : decode cX4_placeOf 27 = .ok (.iinc 3 1, 3) := by decide +kernel
theorem dX4_placeOf_30 : decode cX4_placeOf 30 = .ok (.goto (-26), 3) := by decide +kernel
theorem dX4_placeOf_33 : decode cX4_placeOf 33 = .ok (.iload_n 2, 1) := by decide +kernel
theorem dX4_placeOf_34 : decode cX4_placeOf 34 = .ok (.ireturn, 1) := by decide +kernel
theorem dX4_isAhead_0 : decode cX4_isAhead 0 = .ok (.aload_n 0, 1) := by decide +kernel
theorem dX4_isAhead_1 : decode cX4_isAhead 1 = .ok (.getfield 9, 3) := by decide +kernel
theorem dX4_isAhead_4 : decode cX4_isAhead 4 = .ok (.iload_n 1, 1) := by decide +kernel
theorem dX4_isAhead_5 : decode cX4_isAhead 5 = .ok (.iaload, 1) := by decide +kernel
theorem dX4_isAhead_6 : decode cX4_isAhead 6 = .ok (.aload_n 0, 1) := by decide +kernel
theorem dX4_isAhead_7 : decode cX4_isAhead 7 = .ok (.getfield 9, 3) := by decide +kernel
theorem dX4_isAhead_10 : decode cX4_isAhead 10 = .ok (.iload_n 2, 1) := by decide +kernel
theorem dX4_isAhead_11 : decode cX4_isAhead 11 = .ok (.iaload, 1) := by decide +kernel
theorem dX4_isAhead_12 : decode cX4_isAhead 12 = .ok (.if_icmp .eq 24, 3) := by decide +kernel
theorem dX4_isAhead_15 : decode cX4_isAhead 15 = .ok (.aload_n 0, 1) := by decide +kernel
theorem dX4_isAhead_16 : decode cX4_isAhead 16 = .ok (.getfield 9, 3) := by decide +kernel
theorem dX4_isAhead_19 : decode cX4_isAhead 19 = .ok (.iload_n 1, 1) := by decide +kernel
theorem dX4_isAhead_20 : decode cX4_isAhead 20 = .ok (.iaload, 1) := by decide +kernel
theorem dX4_isAhead_21 : decode cX4_isAhead 21 = .ok (.aload_n 0, 1) := by decide +kernel
theorem dX4_isAhead_22 : decode cX4_isAhead 22 = .ok (.getfield 9, 3) := by decide +kernel
theorem dX4_isAhead_25 : decode cX4_isAhead 25 = .ok (.iload_n 2, 1) := by decide +kernel
theorem dX4_isAhead_26 : decode cX4_isAhead 26 = .ok (.iaload, 1) := by decide +kernel
theorem dX4_isAhead_27 : decode cX4_isAhead 27 = .ok (.if_icmp .le 7, 3) := by decide +kernel
theorem dX4_isAhead_30 : decode cX4_isAhead 30 = .ok (.iconst 1, 1) := by decide +kernel
theorem dX4_isAhead_31 : decode cX4_isAhead 31 = .ok (.goto 4, 3) := by decide +kernel
theorem dX4_isAhead_34 : decode cX4_isAhead 34 = .ok (.iconst 0, 1) := by decide +kernel
theorem dX4_isAhead_35 : decode cX4_isAhead 35 = .ok (.ireturn, 1) := by decide +kernel
theorem dX4_isAhead_36 : decode cX4_isAhead 36 = .ok (.aload_n 0, 1) := by decide +kernel
theorem dX4_isAhead_37 : decode cX4_isAhead 37 = .ok (.getfield 23, 3) := by decide +kernel
theorem dX4_isAhead_40 : decode cX4_isAhead 40 = .ok (.iload_n 1, 1) := by decide +kernel
theorem dX4_isAhead_41 : decode cX4_isAhead 41 = .ok (.aaload, 1) := by decide +kernel
theorem dX4_isAhead_42 : decode cX4_isAhead 42 = .ok (.iload_n 2, 1) := by decide +kernel
theorem dX4_isAhead_43 : decode cX4_isAhead 43 = .ok (.iaload, 1) := by decide +kernel
theorem dX4_isAhead_44 : decode cX4_isAhead 44 = .ok (.aload_n 0, 1) := by decide +kernel
theorem dX4_isAhead_45 : decode cX4_isAhead 45 = .ok (.getfield 23, 3) := by decide +kernel
theorem dX4_isAhead_48 : decode cX4_isAhead 48 = .ok (.iload_n 2, 1) := by decide +kernel
theorem dX4_isAhead_49 : decode cX4_isAhead 49 = .ok (.aaload, 1) := by decide +kernel
theorem dX4_isAhead_50 : decode cX4_isAhead 50 = .ok (.iload_n 1, 1) := by decide +kernel
theorem dX4_isAhead_51 : decode cX4_isAhead 51 = .ok (.iaload, 1) := by decide +kernel
theorem dX4_isAhead_52 : decode cX4_isAhead 52 = .ok (.if_icmp .eq 28, 3) := by decide +kernel
theorem dX4_isAhead_55 : decode cX4_isAhead 55 = .ok (.aload_n 0, 1) := by decide +kernel
theorem dX4_isAhead_56 : decode cX4_isAhead 56 = .ok (.getfield 23, 3) := by decide +kernel
theorem dX4_isAhead_59 : decode cX4_isAhead 59 = .ok (.iload_n 1, 1) := by decide +kernel
theorem dX4_isAhead_60 : decode cX4_isAhead 60 = .ok (.aaload, 1) := by decide +kernel
theorem dX4_isAhead_61 : decode cX4_isAhead 61 = .ok (.iload_n 2, 1) := by decide +kernel
theorem dX4_isAhead_62 : decode cX4_isAhead 62 = .ok (.iaload, 1) := by decide +kernel
theorem dX4_isAhead_63 : decode cX4_isAhead 63 = .ok (.aload_n 0, 1) := by decide +kernel
theorem dX4_isAhead_64 : decode cX4_isAhead 64 = .ok (.getfield 23, 3) := by decide +kernel
theorem dX4_isAhead_67 : decode cX4_isAhead 67 = .ok (.iload_n 2, 1) := by decide +kernel
theorem dX4_isAhead_68 : decode cX4_isAhead 68 = .ok (.aaload, 1) := by decide +kernel
theorem dX4_isAhead_69 : decode cX4_isAhead 69 = .ok (.iload_n 1, 1) := by decide +kernel
theorem dX4_isAhead_70 : decode cX4_isAhead 70 = .ok (.iaload, 1) := by decide +kernel
theorem dX4_isAhead_71 : decode cX4_isAhead 71 = .ok (.if_icmp .le 7, 3) := by decide +kernel
theorem dX4_isAhead_74 : decode cX4_isAhead 74 = .ok (.iconst 1, 1) := by decide +kernel
theorem dX4_isAhead_75 : decode cX4_isAhead 75 = .ok (.goto 4, 3) := by decide +kernel
theorem dX4_isAhead_78 : decode cX4_isAhead 78 = .ok (.iconst 0, 1) := by decide +kernel
theorem dX4_isAhead_79 : decode cX4_isAhead 79 = .ok (.ireturn, 1) := by decide +kernel
theorem dX4_isAhead_80 : decode cX4_isAhead 80 = .ok (.aload_n 0, 1) := by decide +kernel
theorem dX4_isAhead_81 : decode cX4_isAhead 81 = .ok (.getfield 18, 3) := by decide +kernel
theorem dX4_isAhead_84 : decode cX4_isAhead 84 = .ok (.iload_n 1, 1) := by decide +kernel
theorem dX4_isAhead_85 : decode cX4_isAhead 85 = .ok (.iaload, 1) := by decide +kernel
theorem dX4_isAhead_86 : decode cX4_isAhead 86 = .ok (.aload_n 0, 1) := by decide +kernel
theorem dX4_isAhead_87 : decode cX4_isAhead 87 = .ok (.getfield 18, 3) := by decide +kernel
theorem dX4_isAhead_90 : decode cX4_isAhead 90 = .ok (.iload_n 2, 1) := by decide +kernel
theorem dX4_isAhead_91 : decode cX4_isAhead 91 = .ok (.iaload, 1) := by decide +kernel
theorem dX4_isAhead_92 : decode cX4_isAhead 92 = .ok (.if_icmp .eq 24, 3) := by decide +kernel
theorem dX4_isAhead_95 : decode cX4_isAhead 95 = .ok (.aload_n 0, 1) := by decide +kernel
theorem dX4_isAhead_96 : decode cX4_isAhead 96 = .ok (.getfield 18, 3) := by decide +kernel
theorem dX4_isAhead_99 : decode cX4_isAhead 99 = .ok (.iload_n 1, 1) := by decide +kernel
theorem dX4_isAhead_100 : decode cX4_isAhead 100 = .ok (.iaload, 1) := by decide +kernel
theorem dX4_isAhead_101 : decode cX4_isAhead 101 = .ok (.aload_n 0, 1) := by decide +kernel
theorem dX4_isAhead_102 : decode cX4_isAhead 102 = .ok (.getfield 18, 3) := by decide +kernel
theorem dX4_isAhead_105 : decode cX4_isAhead 105 = .ok (.iload_n 2, 1) := by decide +kernel
theorem dX4_isAhead_106 : decode cX4_isAhead 106 = .ok (.iaload, 1) := by decide +kernel
theorem dX4_isAhead_107 : decode cX4_isAhead 107 = .ok (.if_icmp .le 7, 3) := by decide +kernel
theorem dX4_isAhead_110 : decode cX4_isAhead 110 = .ok (.iconst 1, 1) := by decide +kernel
theorem dX4_isAhead_111 : decode cX4_isAhead 111 = .ok (.goto 4, 3) := by decide +kernel
theorem dX4_isAhead_114 : decode cX4_isAhead 114 = .ok (.iconst 0, 1) := by decide +kernel
theorem dX4_isAhead_115 : decode cX4_isAhead 115 = .ok (.ireturn, 1) := by decide +kernel
theorem dX4_isAhead_116 : decode cX4_isAhead 116 = .ok (.iload_n 1, 1) := by decide +kernel
theorem dX4_isAhead_117 : decode cX4_isAhead 117 = .ok (.iload_n 2, 1) := by decide +kernel
theorem dX4_isAhead_118 : decode cX4_isAhead 118 = .ok (.if_icmp .ge 7, 3) := by decide +kernel
theorem dX4_isAhead_121 : decode cX4_isAhead 121 = .ok (.iconst 1, 1) := by decide +kernel
theorem dX4_isAhead_122 : decode cX4_isAhead 122 = .ok (.goto 4, 3) := by decide +kernel
theorem dX4_isAhead_125 : decode cX4_isAhead 125 = .ok (.iconst 0, 1) := by decide +kernel
theorem dX4_isAhead_126 : decode cX4_isAhead 126 = .ok (.ireturn, 1) := by decide +kernel
set_option maxRecDepth 20000 in
theorem ggX5_init_X1_init : GoodIn wsX5_init wsX1_init := goodIn_r _ [19, 20, 2, 3, 21, 22, 67] (by decide +kernel) (by decide +kernel)
set_option maxRecDepth 20000 in
theorem gX5_init_X1_init_n11 : GoodIn wsX5_init (wsX1_init) := ggX5_init_X1_init
set_option maxRecDepth 20000 in
theorem ggX5_init_X2_init : GoodIn wsX5_init wsX2_init := goodIn_r _ [25, 26, 2, 3, 27, 16, 28, 29, 30, 31, 32, 33, 34, 35, 36, 37, 38, 39, 40, 41, 42, 43, 44, 45, 46, 47, 48, 49, 50, 51, 21, 52, 53, 54, 55, 10, 56, 57, 58, 72, 73, 74, 75, 76, 77, 78, 79, 84, 85, 86, 87, 88, 89, 90, 91, 92, 93] (by decide +kernel) (by decide +kernel)
set_option maxRecDepth 20000 in
theorem gX5_init_X2_init : GoodIn wsX5_init (wsX2_init) := ggX5_init_X2_init
set_option maxRecDepth 20000 in
theorem ggX5_init_X4_init : GoodIn wsX5_init wsX4_init := goodIn_r _ [60, 61, 2, 3, 16, 62, 63, 64, 65, 66, 80, 81, 82, 83] (by decide +kernel) (by decide +kernel)
set_option maxRecDepth 20000 in
theorem gX5_init_X4_init_n25 : GoodIn wsX5_init (wsX4_init) := ggX5_init_X4_init
theorem dX5_init_0 : decode cX5_init 0 = .ok (.aload_n 0, 1) := by decide +kernel
theorem dX5_init_1 : decode cX5_init 1 = .ok (.invokespecial 3, 3) := by decide +kernel
theorem dX5_init_4 : decode cX5_init 4 = .ok (.aload_n 0, 1) := by decide +kernel
theorem dX5_init_5 : decode cX5_init 5 = .ok (.new 9, 3) := by decide +kernel
theorem dX5_init_8 : decode cX5_init 8 = .ok (.dup, 1) := by decide +kernel
theorem dX5_init_9 : decode cX5_init 9 = .ok (.invokespecial 11, 3) := by decide +kernel
theorem dX5_init_12 : decode cX5_init 12 = .ok (.putfield 12, 3) := by decide +kernel
theorem dX5_init_15 : decode cX5_init 15 = .ok (.aload_n 0, 1) := by decide +kernel
theorem dX5_init_16 : decode cX5_init 16 = .ok (.new 16, 3) := by decide +kernel
theorem dX5_init_19 : decode cX5_init 19 = .ok (.dup, 1) := by decide +kernel
theorem dX5_init_20 : decode cX5_init 20 = .ok (.invokespecial 18, 3) := by decide +kernel
theorem dX5_init_23 : decode cX5_init 23 = .ok (.putfield 19, 3) := by decide +kernel
theorem dX5_init_26 : decode cX5_init 26 = .ok (.aload_n 0, 1) := by decide +kernel
theorem dX5_init_27 : decode cX5_init 27 = .ok (.new 23, 3) := by decide +kernel
theorem dX5_init_30 : decode cX5_init 30 = .ok (.dup, 1) := by decide +kernel
theorem dX5_init_31 : decode cX5_init 31 = .ok (.invokespecial 25, 3) := by decide +kernel
theorem dX5_init_34 : decode cX5_init 34 = .ok (.putfield 26, 3) := by decide +kernel
theorem dX5_init_37 : decode cX5_init 37 = .ok (.aload_n 0, 1) := by decide +kernel
theorem dX5_init_38 : decode cX5_init 38 = .ok (.iconst 2, 1) := by decide +kernel
theorem dX5_init_39 : decode cX5_init 39 = .ok (.newarray .int, 2) := by decide +kernel
theorem dX5_init_41 : decode cX5_init 41 = .ok (.dup, 1) := by decide +kernel
theorem dX5_init_42 : decode cX5_init 42 = .ok (.iconst 0, 1) := by decide +kernel
theorem dX5_init_43 : decode cX5_init 43 = .ok (.iconst 0, 1) := by decide +kernel
theorem dX5_init_44 : decode cX5_init 44 = .ok (.iastore, 1) := by decide +kernel
theorem dX5_init_45 : decode cX5_init 45 = .ok (.dup, 1) := by decide +kernel
theorem dX5_init_46 : decode cX5_init 46 = .ok (.iconst 1, 1) := by decide +kernel
theorem dX5_init_47 : decode cX5_init 47 = .ok (.sipush 143, 3) := by decide +kernel
theorem dX5_init_50 : decode cX5_init 50 = .ok (.iastore, 1) := by decide +kernel
theorem dX5_init_51 : decode cX5_init 51 = .ok (.putfield 30, 3) := by decide +kernel
theorem dX5_init_54 : decode cX5_init 54 = .ok (.return_, 1) := by decide +kernel
set_option maxRecDepth 20000 in
theorem ggX5_toggleBunker_X5_checkCell : GoodIn wsX5_toggleBunker wsX5_checkCell := goodIn_ca (goodIn_r _ [8, 9, 10] (by decide +kernel) (by decide +kernel)) (goodIn_sub (fun _ h => List.mem_cons_of_mem _ (List.mem_append_right _ h)) (by decide +kernel))
set_option maxRecDepth 20000 in
theorem gX5_toggleBunker_X5_checkCell : GoodIn wsX5_toggleBunker (va_wsS RX5 34 yX5_checkCell wsX5_checkCell) := goodIn_app (goodIn_of _ (by decide +kernel)) ggX5_toggleBunker_X5_checkCell
set_option maxRecDepth 20000 in
theorem ggX5_toggleBunker_X2_isPlayed : GoodIn wsX5_toggleBunker wsX2_isPlayed := goodIn_r _ [15, 16, 27, 28, 29, 30, 31, 32, 33, 34] (by decide +kernel) (by decide +kernel)
set_option maxRecDepth 20000 in
theorem gX5_toggleBunker_X2_isPlayed : GoodIn wsX5_toggleBunker (wsV RX5 38 RX2 yX2_isPlayed wsX2_isPlayed) := goodIn_app (goodIn_of _ (by decide +kernel)) ggX5_toggleBunker_X2_isPlayed
set_option maxRecDepth 20000 in
theorem ggX5_toggleBunker_X1_turnBunker : GoodIn wsX5_toggleBunker wsX1_turnBunker := goodIn_r _ [21, 22, 35] (by decide +kernel) (by decide +kernel)
set_option maxRecDepth 20000 in
theorem gX5_toggleBunker_X1_turnBunker : GoodIn wsX5_toggleBunker (wsV RX5 49 RX1 yX1_turnBunker wsX1_turnBunker) := goodIn_app (goodIn_of _ (by decide +kernel)) ggX5_toggleBunker_X1_turnBunker
theorem dX5_toggleBunker_0 : decode cX5_toggleBunker 0 = .ok (.iload_n 1, 1) := by decide +kernel
theorem dX5_toggleBunker_1 : decode cX5_toggleBunker 1 = .ok (.invokestatic 34, 3) := by decide +kernel
theorem dX5_toggleBunker_4 : decode cX5_toggleBunker 4 = .ok (.aload_n 0, 1) := by decide +kernel
theorem dX5_toggleBunker_5 : decode cX5_toggleBunker 5 = .ok (.getfield 19, 3) := by decide +kernel
theorem dX5_toggleBunker_8 : decode cX5_toggleBunker 8 = .ok (.invokevirtual 38, 3) := by decide +kernel
theorem dX5_toggleBunker_11 : decode cX5_toggleBunker 11 = .ok (.ifCond .eq 13, 3) := by decide +kernel
theorem dX5_toggleBunker_14 : decode cX5_toggleBunker 14 = .ok (.new 42, 3) := by decide +kernel
theorem dX5_toggleBunker_17 : decode cX5_toggleBunker 17 = .ok (.dup, 1) := by decide +kernel
theorem dX5_toggleBunker_18 : decode cX5_toggleBunker 18 = .ok (.ldc 44, 2) := by decide +kernel
theorem dX5_toggleBunker_20 : decode cX5_toggleBunker 20 = .ok (.invokespecial 46, 3) := by decide +kernel
theorem dX5_toggleBunker_23 : decode cX5_toggleBunker 23 = .ok (.athrow, 1) := by decide +kernel
theorem dX5_toggleBunker_24 : decode cX5_toggleBunker 24 = .ok (.aload_n 0, 1) := by decide +kernel
theorem dX5_toggleBunker_25 : decode cX5_toggleBunker 25 = .ok (.getfield 12, 3) := by decide +kernel
theorem dX5_toggleBunker_28 : decode cX5_toggleBunker 28 = .ok (.iload_n 1, 1) := by decide +kernel
theorem dX5_toggleBunker_29 : decode cX5_toggleBunker 29 = .ok (.invokevirtual 49, 3) := by decide +kernel
theorem dX5_toggleBunker_32 : decode cX5_toggleBunker 32 = .ok (.ireturn, 1) := by decide +kernel
set_option maxRecDepth 20000 in
theorem ggX5_sees_X5_checkCell : GoodIn wsX5_sees wsX5_checkCell := goodIn_ca (goodIn_r _ [5, 6, 7] (by decide +kernel) (by decide +kernel)) (goodIn_sub (fun _ h => List.mem_cons_of_mem _ (List.mem_append_right _ h)) (by decide +kernel))
set_option maxRecDepth 20000 in
theorem gX5_sees_X5_checkCell : GoodIn wsX5_sees (va_wsS RX5 34 yX5_checkCell wsX5_checkCell) := goodIn_app (goodIn_of _ (by decide +kernel)) ggX5_sees_X5_checkCell
set_option maxRecDepth 20000 in
theorem ggX5_sees_X1_hasSight : GoodIn wsX5_sees wsX1_hasSight := goodIn_r _ [12, 13, 14, 15, 16, 17, 18, 19, 20, 21, 22, 11, 23, 24, 25, 26, 31] (by decide +kernel) (by decide +kernel)
set_option maxRecDepth 20000 in
theorem gX5_sees_X1_hasSight : GoodIn wsX5_sees (wsV RX5 53 RX1 yX1_hasSight wsX1_hasSight) := goodIn_app (goodIn_of _ (by decide +kernel)) ggX5_sees_X1_hasSight
theorem dX5_sees_0 : decode cX5_sees 0 = .ok (.iload_n 1, 1) := by decide +kernel
theorem dX5_sees_1 : decode cX5_sees 1 = .ok (.invokestatic 34, 3) := by decide +kernel
theorem dX5_sees_4 : decode cX5_sees 4 = .ok (.iload_n 2, 1) := by decide +kernel
theorem dX5_sees_5 : decode cX5_sees 5 = .ok (.invokestatic 34, 3) := by decide +kernel
theorem dX5_sees_8 : decode cX5_sees 8 = .ok (.aload_n 0, 1) := by decide +kernel
theorem dX5_sees_9 : decode cX5_sees 9 = .ok (.getfield 12, 3) := by decide +kernel
theorem dX5_sees_12 : decode cX5_sees 12 = .ok (.iload_n 1, 1) := by decide +kernel
theorem dX5_sees_13 : decode cX5_sees 13 = .ok (.iload_n 2, 1) := by decide +kernel
theorem dX5_sees_14 : decode cX5_sees 14 = .ok (.invokevirtual 53, 3) := by decide +kernel
theorem dX5_sees_17 : decode cX5_sees 17 = .ok (.ireturn, 1) := by decide +kernel
set_option maxRecDepth 20000 in
theorem ggX5_view_X5_checkCell : GoodIn wsX5_view wsX5_checkCell := goodIn_ca (goodIn_r _ [5, 6, 7] (by decide +kernel) (by decide +kernel)) (goodIn_sub (fun _ h => List.mem_cons_of_mem _ (List.mem_append_right _ h)) (by decide +kernel))
set_option maxRecDepth 20000 in
theorem gX5_view_X5_checkCell : GoodIn wsX5_view (va_wsS RX5 34 yX5_checkCell wsX5_checkCell) := goodIn_app (goodIn_of _ (by decide +kernel)) ggX5_view_X5_checkCell
set_option maxRecDepth 20000 in
theorem ggX5_view_X1_countSeen : GoodIn wsX5_view wsX1_countSeen := goodIn_r _ [12, 13, 14, 15, 11, 16, 17, 18, 19, 20, 21, 22, 23, 24, 25, 26, 27, 28, 29, 30, 35] (by decide +kernel) (by decide +kernel)
set_option maxRecDepth 20000 in
theorem gX5_view_X1_countSeen : GoodIn wsX5_view (wsV RX5 57 RX1 yX1_countSeen wsX1_countSeen) := goodIn_app (goodIn_of _ (by decide +kernel)) ggX5_view_X1_countSeen
theorem dX5_view_0 : decode cX5_view 0 = .ok (.iload_n 1, 1) := by decide +kernel
theorem dX5_view_1 : decode cX5_view 1 = .ok (.invokestatic 34, 3) := by decide +kernel
theorem dX5_view_4 : decode cX5_view 4 = .ok (.aload_n 0, 1) := by decide +kernel
theorem dX5_view_5 : decode cX5_view 5 = .ok (.getfield 12, 3) := by decide +kernel
theorem dX5_view_8 : decode cX5_view 8 = .ok (.iload_n 1, 1) := by decide +kernel
theorem dX5_view_9 : decode cX5_view 9 = .ok (.invokevirtual 57, 3) := by decide +kernel
theorem dX5_view_12 : decode cX5_view 12 = .ok (.ireturn, 1) := by decide +kernel
set_option maxRecDepth 20000 in
theorem ggX5_setReferee_X5_checkReferee : GoodIn wsX5_setReferee wsX5_checkReferee := goodIn_ca (goodIn_r _ [5, 6, 7] (by decide +kernel) (by decide +kernel)) (goodIn_sub (fun _ h => List.mem_cons_of_mem _ (List.mem_append_right _ h)) (by decide +kernel))
set_option maxRecDepth 20000 in
theorem gX5_setReferee_X5_checkReferee : GoodIn wsX5_setReferee (va_wsS RX5 61 yX5_checkReferee wsX5_checkReferee) := goodIn_app (goodIn_of _ (by decide +kernel)) ggX5_setReferee_X5_checkReferee
set_option maxRecDepth 20000 in
theorem ggX5_setReferee_X5_checkCell : GoodIn wsX5_setReferee wsX5_checkCell := goodIn_ca (goodIn_r _ [10, 6, 7] (by decide +kernel) (by decide +kernel)) (goodIn_sub (fun _ h => List.mem_cons_of_mem _ (List.mem_append_right _ h)) (by decide +kernel))
set_option maxRecDepth 20000 in
theorem gX5_setReferee_X5_checkCell : GoodIn wsX5_setReferee (va_wsS RX5 34 yX5_checkCell wsX5_checkCell) := goodIn_app (goodIn_of _ (by decide +kernel)) ggX5_setReferee_X5_checkCell
theorem dX5_setReferee_0 : decode cX5_setReferee 0 = .ok (.iload_n 1, 1) := by decide +kernel
theorem dX5_setReferee_1 : decode cX5_setReferee 1 = .ok (.invokestatic 61, 3) := by decide +kernel
theorem dX5_setReferee_4 : decode cX5_setReferee 4 = .ok (.iload_n 2, 1) := by decide +kernel
theorem dX5_setReferee_5 : decode cX5_setReferee 5 = .ok (.invokestatic 34, 3) := by decide +kernel
theorem dX5_setReferee_8 : decode cX5_setReferee 8 = .ok (.aload_n 0, 1) := by decide +kernel
theorem dX5_setReferee_9 : decode cX5_setReferee 9 = .ok (.getfield 30, 3) := by decide +kernel
theorem dX5_setReferee_12 : decode cX5_setReferee 12 = .ok (.iload_n 1, 1) := by decide +kernel
theorem dX5_setReferee_13 : decode cX5_setReferee 13 = .ok (.iaload, 1) := by decide +kernel
theorem dX5_setReferee_14 : decode cX5_setReferee 14 = .ok (.istore_n 3, 1) := by decide +kernel
theorem dX5_setReferee_15 : decode cX5_setReferee 15 = .ok (.aload_n 0, 1) := by decide +kernel
theorem dX5_setReferee_16 : decode cX5_setReferee 16 = .ok (.getfield 30, 3) := by decide +kernel
theorem dX5_setReferee_19 : decode cX5_setReferee 19 = .ok (.iload_n 1, 1) := by decide +kernel
theorem dX5_setReferee_20 : decode cX5_setReferee 20 = .ok (.iload_n 2, 1) := by decide +kernel
theorem dX5_setReferee_21 : decode cX5_setReferee 21 = .ok (.iastore, 1) := by decide +kernel
theorem dX5_setReferee_22 : decode cX5_setReferee 22 = .ok (.iload_n 3, 1) := by decide +kernel
theorem dX5_setReferee_23 : decode cX5_setReferee 23 = .ok (.ireturn, 1) := by decide +kernel
set_option maxRecDepth 20000 in
theorem ggX5_begin_X5_checkTeam : GoodIn wsX5_begin wsX5_checkTeam := goodIn_ca (goodIn_r _ [9, 10, 11] (by decide +kernel) (by decide +kernel)) (goodIn_sub (fun _ h => List.mem_cons_of_mem _ (List.mem_append_right _ h)) (by decide +kernel))
set_option maxRecDepth 20000 in
theorem gX5_begin_X5_checkTeam : GoodIn wsX5_begin (va_wsS RX5 64 yX5_checkTeam wsX5_checkTeam) := goodIn_app (goodIn_of _ (by decide +kernel)) ggX5_begin_X5_checkTeam
set_option maxRecDepth 20000 in
theorem ggX5_begin_X2_isPlayed : GoodIn wsX5_begin wsX2_isPlayed := goodIn_r _ [16, 17, 39, 40, 41, 42, 43, 44, 45, 46] (by decide +kernel) (by decide +kernel)
set_option maxRecDepth 20000 in
theorem gX5_begin_X2_isPlayed : GoodIn wsX5_begin (wsV RX5 38 RX2 yX2_isPlayed wsX2_isPlayed) := goodIn_app (goodIn_of _ (by decide +kernel)) ggX5_begin_X2_isPlayed
set_option maxRecDepth 20000 in
theorem ggX5_begin_X2_start : GoodIn wsX5_begin wsX2_start := goodIn_r _ [21, 22, 23, 17, 24, 25, 26, 15, 27, 28, 29, 30, 31, 32, 33, 34, 39, 40, 41, 42, 43, 44, 45, 46, 47, 48, 49, 50, 51, 52, 53, 54, 55, 56] (by decide +kernel) (by decide +kernel)
set_option maxRecDepth 20000 in
theorem gX5_begin_X2_start : GoodIn wsX5_begin (wsV RX5 72 RX2 yX2_start wsX2_start) := goodIn_app (goodIn_of _ (by decide +kernel)) ggX5_begin_X2_start
theorem dX5_begin_0 : decode cX5_begin 0 = .ok (.iload_n 1, 1) := by decide +kernel
theorem dX5_begin_1 : decode cX5_begin 1 = .ok (.invokestatic 64, 3) := by decide +kernel
theorem dX5_begin_4 : decode cX5_begin 4 = .ok (.iload_n 2, 1) := by decide +kernel
theorem dX5_begin_5 : decode cX5_begin 5 = .ok (.invokestatic 64, 3) := by decide +kernel
theorem dX5_begin_8 : decode cX5_begin 8 = .ok (.iload_n 1, 1) := by decide +kernel
theorem dX5_begin_9 : decode cX5_begin 9 = .ok (.iload_n 2, 1) := by decide +kernel
theorem dX5_begin_10 : decode cX5_begin 10 = .ok (.if_icmp .ne 13, 3) := by decide +kernel
theorem dX5_begin_13 : decode cX5_begin 13 = .ok (.new 67, 3) := by decide +kernel
theorem dX5_begin_16 : decode cX5_begin 16 = .ok (.dup, 1) := by decide +kernel
theorem dX5_begin_17 : decode cX5_begin 17 = .ok (.ldc 69, 2) := by decide +kernel
theorem dX5_begin_19 : decode cX5_begin 19 = .ok (.invokespecial 71, 3) := by decide +kernel
theorem dX5_begin_22 : decode cX5_begin 22 = .ok (.athrow, 1) := by decide +kernel
theorem dX5_begin_23 : decode cX5_begin 23 = .ok (.aload_n 0, 1) := by decide +kernel
theorem dX5_begin_24 : decode cX5_begin 24 = .ok (.getfield 19, 3) := by decide +kernel
theorem dX5_begin_27 : decode cX5_begin 27 = .ok (.invokevirtual 38, 3) := by decide +kernel
theorem dX5_begin_30 : decode cX5_begin 30 = .ok (.ifCond .eq 13, 3) := by decide +kernel
theorem dX5_begin_33 : decode cX5_begin 33 = .ok (.new 42, 3) := by decide +kernel
theorem dX5_begin_36 : decode cX5_begin 36 = .ok (.dup, 1) := by decide +kernel
theorem dX5_begin_37 : decode cX5_begin 37 = .ok (.ldc 44, 2) := by decide +kernel
theorem dX5_begin_39 : decode cX5_begin 39 = .ok (.invokespecial 46, 3) := by decide +kernel
theorem dX5_begin_42 : decode cX5_begin 42 = .ok (.athrow, 1) := by decide +kernel
theorem dX5_begin_43 : decode cX5_begin 43 = .ok (.aload_n 0, 1) := by decide +kernel
theorem dX5_begin_44 : decode cX5_begin 44 = .ok (.getfield 19, 3) := by decide +kernel
theorem dX5_begin_47 : decode cX5_begin 47 = .ok (.iload_n 1, 1) := by decide +kernel
theorem dX5_begin_48 : decode cX5_begin 48 = .ok (.iload_n 2, 1) := by decide +kernel
theorem dX5_begin_49 : decode cX5_begin 49 = .ok (.invokevirtual 72, 3) := by decide +kernel
theorem dX5_begin_52 : decode cX5_begin 52 = .ok (.return_, 1) := by decide +kernel
set_option maxRecDepth 20000 in
theorem ggX5_move_X5_checkPlayer : GoodIn wsX5_move wsX5_checkPlayer := goodIn_ca (goodIn_r _ [8, 9, 10] (by decide +kernel) (by decide +kernel)) (goodIn_sub (fun _ h => List.mem_cons_of_mem _ (List.mem_append_right _ h)) (by decide +kernel))
set_option maxRecDepth 20000 in
theorem gX5_move_X5_checkPlayer : GoodIn wsX5_move (va_wsS RX5 76 yX5_checkPlayer wsX5_checkPlayer) := goodIn_app (goodIn_of _ (by decide +kernel)) ggX5_move_X5_checkPlayer
set_option maxRecDepth 20000 in
theorem ggX5_move_X5_checkCell : GoodIn wsX5_move wsX5_checkCell := goodIn_ca (goodIn_r _ [13, 9, 10] (by decide +kernel) (by decide +kernel)) (goodIn_sub (fun _ h => List.mem_cons_of_mem _ (List.mem_append_right _ h)) (by decide +kernel))
set_option maxRecDepth 20000 in
theorem gX5_move_X5_checkCell : GoodIn wsX5_move (va_wsS RX5 34 yX5_checkCell wsX5_checkCell) := goodIn_app (goodIn_of _ (by decide +kernel)) ggX5_move_X5_checkCell
set_option maxRecDepth 20000 in
theorem ggX5_move_X5_checkRound : GoodIn wsX5_move wsX5_checkRound := goodIn_ca (goodIn_r _ [17, 1, 2, 3, 18, 19, 20, 21, 22, 23, 53, 54, 55, 56, 57, 58, 59, 60, 61, 62, 63, 64] (by decide +kernel) (by decide +kernel)) (goodIn_sub (fun _ h => List.mem_cons_of_mem _ (List.mem_append_left _ (List.mem_append_right _ h))) (by decide +kernel))
set_option maxRecDepth 20000 in
theorem gX5_move_X5_checkRound : GoodIn wsX5_move (wsV RX5 79 RX5 yX5_checkRound wsX5_checkRound) := goodIn_app (goodIn_of _ (by decide +kernel)) ggX5_move_X5_checkRound
set_option maxRecDepth 20000 in
theorem ggX5_move_X2_cellOf : GoodIn wsX5_move wsX2_cellOf := goodIn_r _ [27, 28, 57, 58, 59, 60, 61, 62, 63, 64] (by decide +kernel) (by decide +kernel)
set_option maxRecDepth 20000 in
theorem gX5_move_X2_cellOf : GoodIn wsX5_move (wsV RX5 82 RX2 yX2_cellOf wsX2_cellOf) := goodIn_app (goodIn_of _ (by decide +kernel)) ggX5_move_X2_cellOf
set_option maxRecDepth 20000 in
theorem ggX5_move_X1_distance : GoodIn wsX5_move wsX1_distance := goodIn_r _ [32, 33, 34, 35, 36, 37, 38, 39] (by decide +kernel) (by decide +kernel)
set_option maxRecDepth 20000 in
theorem gX5_move_X1_distance : GoodIn wsX5_move (va_wsS RX5 87 yX1_distance wsX1_distance) := goodIn_app (goodIn_of _ (by decide +kernel)) ggX5_move_X1_distance
set_option maxRecDepth 20000 in
theorem ggX5_move_X1_hasBunker : GoodIn wsX5_move wsX1_hasBunker := goodIn_r _ [43, 44, 65] (by decide +kernel) (by decide +kernel)
set_option maxRecDepth 20000 in
theorem gX5_move_X1_hasBunker : GoodIn wsX5_move (wsV RX5 93 RX1 yX1_hasBunker wsX1_hasBunker) := goodIn_app (goodIn_of _ (by decide +kernel)) ggX5_move_X1_hasBunker
set_option maxRecDepth 20000 in
theorem ggX5_move_X2_playerOn : GoodIn wsX5_move wsX2_playerOn := goodIn_r _ [48, 28, 57, 58, 59, 60, 61, 62, 63, 64] (by decide +kernel) (by decide +kernel)
set_option maxRecDepth 20000 in
theorem gX5_move_X2_playerOn : GoodIn wsX5_move (wsV RX5 96 RX2 yX2_playerOn wsX2_playerOn) := goodIn_app (goodIn_of _ (by decide +kernel)) ggX5_move_X2_playerOn
set_option maxRecDepth 20000 in
theorem ggX5_move_X2_put : GoodIn wsX5_move wsX2_put := goodIn_r _ [52, 28, 57, 58, 59, 60, 61, 62, 63, 64] (by decide +kernel) (by decide +kernel)
set_option maxRecDepth 20000 in
theorem gX5_move_X2_put : GoodIn wsX5_move (wsV RX5 101 RX2 yX2_put wsX2_put) := goodIn_app (goodIn_of _ (by decide +kernel)) ggX5_move_X2_put
theorem dX5_move_0 : decode cX5_move 0 = .ok (.iload_n 1, 1) := by decide +kernel
theorem dX5_move_1 : decode cX5_move 1 = .ok (.invokestatic 76, 3) := by decide +kernel
theorem dX5_move_4 : decode cX5_move 4 = .ok (.iload_n 2, 1) := by decide +kernel
theorem dX5_move_5 : decode cX5_move 5 = .ok (.invokestatic 34, 3) := by decide +kernel
theorem dX5_move_8 : decode cX5_move 8 = .ok (.aload_n 0, 1) := by decide +kernel
theorem dX5_move_9 : decode cX5_move 9 = .ok (.invokevirtual 79, 3) := by decide +kernel
theorem dX5_move_12 : decode cX5_move 12 = .ok (.aload_n 0, 1) := by decide +kernel
theorem dX5_move_13 : decode cX5_move 13 = .ok (.getfield 19, 3) := by decide +kernel
theorem dX5_move_16 : decode cX5_move 16 = .ok (.iload_n 1, 1) := by decide +kernel
theorem dX5_move_17 : decode cX5_move 17 = .ok (.invokevirtual 82, 3) := by decide +kernel
theorem dX5_move_20 : decode cX5_move 20 = .ok (.istore_n 3, 1) := by decide +kernel
theorem dX5_move_21 : decode cX5_move 21 = .ok (.iload_n 3, 1) := by decide +kernel
theorem dX5_move_22 : decode cX5_move 22 = .ok (.bipush (-2), 2) := by decide +kernel
theorem dX5_move_24 : decode cX5_move 24 = .ok (.if_icmp .ne 13, 3) := by decide +kernel
theorem dX5_move_27 : decode cX5_move 27 = .ok (.new 42, 3) := by decide +kernel
theorem dX5_move_30 : decode cX5_move 30 = .ok (.dup, 1) := by decide +kernel
theorem dX5_move_31 : decode cX5_move 31 = .ok (.ldc 85, 2) := by decide +kernel
theorem dX5_move_33 : decode cX5_move 33 = .ok (.invokespecial 46, 3) := by decide +kernel
theorem dX5_move_36 : decode cX5_move 36 = .ok (.athrow, 1) := by decide +kernel
theorem dX5_move_37 : decode cX5_move 37 = .ok (.iload_n 3, 1) := by decide +kernel
theorem dX5_move_38 : decode cX5_move 38 = .ok (.ifCond .lt 22, 3) := by decide +kernel
theorem dX5_move_41 : decode cX5_move 41 = .ok (.iload_n 3, 1) := by decide +kernel
theorem dX5_move_42 : decode cX5_move 42 = .ok (.iload_n 2, 1) := by decide +kernel
theorem dX5_move_43 : decode cX5_move 43 = .ok (.invokestatic 87, 3) := by decide +kernel
theorem dX5_move_46 : decode cX5_move 46 = .ok (.iconst 1, 1) := by decide +kernel
theorem dX5_move_47 : decode cX5_move 47 = .ok (.if_icmp .eq 13, 3) := by decide +kernel
theorem dX5_move_50 : decode cX5_move 50 = .ok (.new 42, 3) := by decide +kernel
theorem dX5_move_53 : decode cX5_move 53 = .ok (.dup, 1) := by decide +kernel
theorem dX5_move_54 : decode cX5_move 54 = .ok (.ldc 91, 2) := by decide +kernel
theorem dX5_move_56 : decode cX5_move 56 = .ok (.invokespecial 46, 3) := by decide +kernel
theorem dX5_move_59 : decode cX5_move 59 = .ok (.athrow, 1) := by decide +kernel
theorem dX5_move_60 : decode cX5_move 60 = .ok (.aload_n 0, 1) := by decide +kernel
theorem dX5_move_61 : decode cX5_move 61 = .ok (.getfield 12, 3) := by decide +kernel
theorem dX5_move_64 : decode cX5_move 64 = .ok (.iload_n 2, 1) := by decide +kernel
theorem dX5_move_65 : decode cX5_move 65 = .ok (.invokevirtual 93, 3) := by decide +kernel
theorem dX5_move_68 : decode cX5_move 68 = .ok (.ifCond .ne 15, 3) := by decide +kernel
theorem dX5_move_71 : decode cX5_move 71 = .ok (.aload_n 0, 1) := by decide +kernel
theorem dX5_move_72 : decode cX5_move 72 = .ok (.getfield 19, 3) := by decide +kernel
theorem dX5_move_75 : decode cX5_move 75 = .ok (.iload_n 2, 1) := by decide +kernel
theorem dX5_move_76 : decode cX5_move 76 = .ok (.invokevirtual 96, 3) := by decide +kernel
theorem dX5_move_79 : decode cX5_move 79 = .ok (.iconst (-1), 1) := by decide +kernel
theorem dX5_move_80 : decode cX5_move 80 = .ok (.if_icmp .eq 13, 3) := by decide +kernel
theorem dX5_move_83 : decode cX5_move 83 = .ok (.new 42, 3) := by decide +kernel
theorem dX5_move_86 : decode cX5_move 86 = .ok (.dup, 1) := by decide +kernel
theorem dX5_move_87 : decode cX5_move 87 = .ok (.ldc 99, 2) := by decide +kernel
theorem dX5_move_89 : decode cX5_move 89 = .ok (.invokespecial 46, 3) := by decide +kernel
theorem dX5_move_92 : decode cX5_move 92 = .ok (.athrow, 1) := by decide +kernel
theorem dX5_move_93 : decode cX5_move 93 = .ok (.aload_n 0, 1) := by decide +kernel
theorem dX5_move_94 : decode cX5_move 94 = .ok (.getfield 19, 3) := by decide +kernel
theorem dX5_move_97 : decode cX5_move 97 = .ok (.iload_n 1, 1) := by decide +kernel
theorem dX5_move_98 : decode cX5_move 98 = .ok (.iload_n 2, 1) := by decide +kernel
theorem dX5_move_99 : decode cX5_move 99 = .ok (.invokevirtual 101, 3) := by decide +kernel
theorem dX5_move_102 : decode cX5_move 102 = .ok (.iload_n 3, 1) := by decide +kernel
theorem dX5_move_103 : decode cX5_move 103 = .ok (.ireturn, 1) := by decide +kernel
set_option maxRecDepth 20000 in
theorem ggX5_shoot_X5_checkPlayer : GoodIn wsX5_shoot wsX5_checkPlayer := goodIn_ca (goodIn_r _ [7, 8, 9] (by decide +kernel) (by decide +kernel)) (goodIn_sub (fun _ h => List.mem_cons_of_mem _ (List.mem_append_right _ h)) (by decide +kernel))
set_option maxRecDepth 20000 in
theorem gX5_shoot_X5_checkPlayer : GoodIn wsX5_shoot (va_wsS RX5 76 yX5_checkPlayer wsX5_checkPlayer) := goodIn_app (goodIn_of _ (by decide +kernel)) ggX5_shoot_X5_checkPlayer
set_option maxRecDepth 20000 in
theorem ggX5_shoot_X5_checkCell : GoodIn wsX5_shoot wsX5_checkCell := goodIn_ca (goodIn_r _ [12, 8, 9] (by decide +kernel) (by decide +kernel)) (goodIn_sub (fun _ h => List.mem_cons_of_mem _ (List.mem_append_right _ h)) (by decide +kernel))
set_option maxRecDepth 20000 in
theorem gX5_shoot_X5_checkCell : GoodIn wsX5_shoot (va_wsS RX5 34 yX5_checkCell wsX5_checkCell) := goodIn_app (goodIn_of _ (by decide +kernel)) ggX5_shoot_X5_checkCell
set_option maxRecDepth 20000 in
theorem ggX5_shoot_X5_checkRound : GoodIn wsX5_shoot wsX5_checkRound := goodIn_ca (goodIn_r _ [16, 1, 2, 3, 17, 18, 19, 20, 21, 22, 60, 61, 62, 63, 64, 65, 66, 67, 68, 69, 70, 71] (by decide +kernel) (by decide +kernel)) (goodIn_sub (fun _ h => List.mem_cons_of_mem _ (List.mem_append_left _ (List.mem_append_right _ h))) (by decide +kernel))
set_option maxRecDepth 20000 in
theorem gX5_shoot_X5_checkRound : GoodIn wsX5_shoot (wsV RX5 79 RX5 yX5_checkRound wsX5_checkRound) := goodIn_app (goodIn_of _ (by decide +kernel)) ggX5_shoot_X5_checkRound
set_option maxRecDepth 20000 in
theorem ggX5_shoot_X2_cellOf : GoodIn wsX5_shoot wsX2_cellOf := goodIn_r _ [26, 27, 64, 65, 66, 67, 68, 69, 70, 71] (by decide +kernel) (by decide +kernel)
set_option maxRecDepth 20000 in
theorem gX5_shoot_X2_cellOf : GoodIn wsX5_shoot (wsV RX5 82 RX2 yX2_cellOf wsX2_cellOf) := goodIn_app (goodIn_of _ (by decide +kernel)) ggX5_shoot_X2_cellOf
set_option maxRecDepth 20000 in
theorem ggX5_shoot_X2_mayFire : GoodIn wsX5_shoot wsX2_mayFire := goodIn_r _ [31, 32, 22, 33, 34, 64, 65, 66, 67, 68, 69, 70, 71, 72, 73, 74, 75, 76] (by decide +kernel) (by decide +kernel)
set_option maxRecDepth 20000 in
theorem gX5_shoot_X2_mayFire : GoodIn wsX5_shoot (wsV RX5 108 RX2 yX2_mayFire wsX2_mayFire) := goodIn_app (goodIn_of _ (by decide +kernel)) ggX5_shoot_X2_mayFire
set_option maxRecDepth 20000 in
theorem ggX5_shoot_X2_fire : GoodIn wsX5_shoot wsX2_fire := goodIn_r _ [38, 27, 22, 32, 33, 39, 40, 41, 42, 43, 44, 45, 46, 47, 48, 49, 50, 51, 52, 53, 54, 55, 56, 57, 58, 59, 64, 65, 66, 67, 68, 69, 70, 71, 72, 73, 74, 75, 76] (by decide +kernel) (by decide +kernel)
set_option maxRecDepth 20000 in
theorem gX5_shoot_X2_fire : GoodIn wsX5_shoot (wsV RX5 113 RX2 yX2_fire wsX2_fire) := goodIn_app (goodIn_of _ (by decide +kernel)) ggX5_shoot_X2_fire
theorem dX5_shoot_0 : decode cX5_shoot 0 = .ok (.iload_n 1, 1) := by decide +kernel
theorem dX5_shoot_1 : decode cX5_shoot 1 = .ok (.invokestatic 76, 3) := by decide +kernel
theorem dX5_shoot_4 : decode cX5_shoot 4 = .ok (.iload_n 2, 1) := by decide +kernel
theorem dX5_shoot_5 : decode cX5_shoot 5 = .ok (.invokestatic 34, 3) := by decide +kernel
theorem dX5_shoot_8 : decode cX5_shoot 8 = .ok (.aload_n 0, 1) := by decide +kernel
theorem dX5_shoot_9 : decode cX5_shoot 9 = .ok (.invokevirtual 79, 3) := by decide +kernel
theorem dX5_shoot_12 : decode cX5_shoot 12 = .ok (.aload_n 0, 1) := by decide +kernel
theorem dX5_shoot_13 : decode cX5_shoot 13 = .ok (.getfield 19, 3) := by decide +kernel
theorem dX5_shoot_16 : decode cX5_shoot 16 = .ok (.iload_n 1, 1) := by decide +kernel
theorem dX5_shoot_17 : decode cX5_shoot 17 = .ok (.invokevirtual 82, 3) := by decide +kernel
theorem dX5_shoot_20 : decode cX5_shoot 20 = .ok (.istore_n 3, 1) := by decide +kernel
theorem dX5_shoot_21 : decode cX5_shoot 21 = .ok (.iload_n 3, 1) := by decide +kernel
theorem dX5_shoot_22 : decode cX5_shoot 22 = .ok (.ifCond .ge 13, 3) := by decide +kernel
theorem dX5_shoot_25 : decode cX5_shoot 25 = .ok (.new 42, 3) := by decide +kernel
theorem dX5_shoot_28 : decode cX5_shoot 28 = .ok (.dup, 1) := by decide +kernel
theorem dX5_shoot_29 : decode cX5_shoot 29 = .ok (.ldc 104, 2) := by decide +kernel
theorem dX5_shoot_31 : decode cX5_shoot 31 = .ok (.invokespecial 46, 3) := by decide +kernel
theorem dX5_shoot_34 : decode cX5_shoot 34 = .ok (.athrow, 1) := by decide +kernel
theorem dX5_shoot_35 : decode cX5_shoot 35 = .ok (.iload_n 3, 1) := by decide +kernel
theorem dX5_shoot_36 : decode cX5_shoot 36 = .ok (.iload_n 2, 1) := by decide +kernel
theorem dX5_shoot_37 : decode cX5_shoot 37 = .ok (.if_icmp .ne 13, 3) := by decide +kernel
theorem dX5_shoot_40 : decode cX5_shoot 40 = .ok (.new 42, 3) := by decide +kernel
theorem dX5_shoot_43 : decode cX5_shoot 43 = .ok (.dup, 1) := by decide +kernel
theorem dX5_shoot_44 : decode cX5_shoot 44 = .ok (.ldc 106, 2) := by decide +kernel
theorem dX5_shoot_46 : decode cX5_shoot 46 = .ok (.invokespecial 46, 3) := by decide +kernel
theorem dX5_shoot_49 : decode cX5_shoot 49 = .ok (.athrow, 1) := by decide +kernel
theorem dX5_shoot_50 : decode cX5_shoot 50 = .ok (.aload_n 0, 1) := by decide +kernel
theorem dX5_shoot_51 : decode cX5_shoot 51 = .ok (.getfield 19, 3) := by decide +kernel
theorem dX5_shoot_54 : decode cX5_shoot 54 = .ok (.iload_n 1, 1) := by decide +kernel
theorem dX5_shoot_55 : decode cX5_shoot 55 = .ok (.invokevirtual 108, 3) := by decide +kernel
theorem dX5_shoot_58 : decode cX5_shoot 58 = .ok (.ifCond .ne 13, 3) := by decide +kernel
theorem dX5_shoot_61 : decode cX5_shoot 61 = .ok (.new 42, 3) := by decide +kernel
theorem dX5_shoot_64 : decode cX5_shoot 64 = .ok (.dup, 1) := by decide +kernel
theorem dX5_shoot_65 : decode cX5_shoot 65 = .ok (.ldc 111, 2) := by decide +kernel
theorem dX5_shoot_67 : decode cX5_shoot 67 = .ok (.invokespecial 46, 3) := by decide +kernel
theorem dX5_shoot_70 : decode cX5_shoot 70 = .ok (.athrow, 1) := by decide +kernel
theorem dX5_shoot_71 : decode cX5_shoot 71 = .ok (.aload_n 0, 1) := by decide +kernel
theorem dX5_shoot_72 : decode cX5_shoot 72 = .ok (.getfield 19, 3) := by decide +kernel
theorem dX5_shoot_75 : decode cX5_shoot 75 = .ok (.iload_n 1, 1) := by decide +kernel
theorem dX5_shoot_76 : decode cX5_shoot 76 = .ok (.iload_n 2, 1) := by decide +kernel
theorem dX5_shoot_77 : decode cX5_shoot 77 = .ok (.invokevirtual 113, 3) := by decide +kernel
theorem dX5_shoot_80 : decode cX5_shoot 80 = .ok (.ireturn, 1) := by decide +kernel
set_option maxRecDepth 20000 in
theorem ggX5_pass_X5_checkRound : GoodIn wsX5_pass wsX5_checkRound := goodIn_ca (goodIn_r _ [9, 10, 11, 3, 12, 13, 14, 15, 16, 17, 57, 58, 59, 60, 61, 62, 63, 64, 65, 66, 67, 68] (by decide +kernel) (by decide +kernel)) (goodIn_sub (fun _ h => List.mem_cons_of_mem _ (List.mem_append_right _ h)) (by decide +kernel))
set_option maxRecDepth 20000 in
theorem gX5_pass_X5_checkRound : GoodIn wsX5_pass (wsV RX5 79 RX5 yX5_checkRound wsX5_checkRound) := goodIn_app (goodIn_of _ (by decide +kernel)) ggX5_pass_X5_checkRound
set_option maxRecDepth 20000 in
theorem ggX5_pass_X2_nextTick : GoodIn wsX5_pass wsX2_nextTick := goodIn_r _ [21, 17, 22, 23, 24, 25, 26, 27, 15, 28, 29, 30, 31, 32, 33, 34, 35, 36, 37, 38, 39, 40, 41, 42, 43, 44, 45, 46, 47, 48, 49, 50, 51, 52, 53, 54, 55, 56, 61, 62, 63, 64, 65, 66, 67, 68, 69, 70, 71, 72, 73, 74] (by decide +kernel) (by decide +kernel)
set_option maxRecDepth 20000 in
theorem gX5_pass_X2_nextTick : GoodIn wsX5_pass (wsV RX5 118 RX2 yX2_nextTick wsX2_nextTick) := goodIn_app (goodIn_of _ (by decide +kernel)) ggX5_pass_X2_nextTick
theorem dX5_pass_0 : decode cX5_pass 0 = .ok (.iload_n 1, 1) := by decide +kernel
theorem dX5_pass_1 : decode cX5_pass 1 = .ok (.iconst 1, 1) := by decide +kernel
theorem dX5_pass_2 : decode cX5_pass 2 = .ok (.if_icmp .lt 9, 3) := by decide +kernel
theorem dX5_pass_5 : decode cX5_pass 5 = .ok (.iload_n 1, 1) := by decide +kernel
theorem dX5_pass_6 : decode cX5_pass 6 = .ok (.bipush 50, 2) := by decide +kernel
theorem dX5_pass_8 : decode cX5_pass 8 = .ok (.if_icmp .le 13, 3) := by decide +kernel
theorem dX5_pass_11 : decode cX5_pass 11 = .ok (.new 67, 3) := by decide +kernel
theorem dX5_pass_14 : decode cX5_pass 14 = .ok (.dup, 1) := by decide +kernel
theorem dX5_pass_15 : decode cX5_pass 15 = .ok (.ldc 116, 2) := by decide +kernel
theorem dX5_pass_17 : decode cX5_pass 17 = .ok (.invokespecial 71, 3) := by decide +kernel
theorem dX5_pass_20 : decode cX5_pass 20 = .ok (.athrow, 1) := by decide +kernel
theorem dX5_pass_21 : decode cX5_pass 21 = .ok (.aload_n 0, 1) := by decide +kernel
theorem dX5_pass_22 : decode cX5_pass 22 = .ok (.invokevirtual 79, 3) := by decide +kernel
theorem dX5_pass_25 : decode cX5_pass 25 = .ok (.iconst 0, 1) := by decide +kernel
theorem dX5_pass_26 : decode cX5_pass 26 = .ok (.istore_n 2, 1) := by decide +kernel
theorem dX5_pass_27 : decode cX5_pass 27 = .ok (.iconst 0, 1) := by decide +kernel
theorem dX5_pass_28 : decode cX5_pass 28 = .ok (.istore_n 3, 1) := by decide +kernel
theorem dX5_pass_29 : decode cX5_pass 29 = .ok (.iload_n 3, 1) := by decide +kernel
theorem dX5_pass_30 : decode cX5_pass 30 = .ok (.iload_n 1, 1) := by decide +kernel
theorem dX5_pass_31 : decode cX5_pass 31 = .ok (.if_icmp .ge 23, 3) := by decide +kernel
theorem dX5_pass_34 : decode cX5_pass 34 = .ok (.iload_n 2, 1) := by decide +kernel
theorem dX5_pass_35 : decode cX5_pass 35 = .ok (.aload_n 0, 1) := by decide +kernel
theorem dX5_pass_36 : decode cX5_pass 36 = .ok (.getfield 19, 3) := by decide +kernel
theorem dX5_pass_39 : decode cX5_pass 39 = .ok (.aload_n 0, 1) := by decide +kernel
theorem dX5_pass_40 : decode cX5_pass 40 = .ok (.getfield 12, 3) := by decide +kernel
theorem dX5_pass_43 : decode cX5_pass 43 = .ok (.invokevirtual 118, 3) := by decide +kernel
theorem dX5_pass_46 : decode cX5_pass 46 = .ok (.iadd, 1) := by decide +kernel
theorem dX5_pass_47 : decode cX5_pass 47 = .ok (.istore_n 2, 1) := by decide +kernel
theorem dX5_pass_48 : decode cX5_pass 48 = .ok (.iinc 3 1, 3) := by decide +kernel
theorem dX5_pass_51 : decode cX5_pass 51 = .ok (.goto (-22), 3) := by decide +kernel
theorem dX5_pass_54 : decode cX5_pass 54 = .ok (.iload_n 2, 1) := by decide +kernel
theorem dX5_pass_55 : decode cX5_pass 55 = .ok (.ireturn, 1) := by decide +kernel
set_option maxRecDepth 20000 in
theorem ggX5_call_X5_checkReferee : GoodIn wsX5_call wsX5_checkReferee := goodIn_ca (goodIn_r _ [9, 10, 11] (by decide +kernel) (by decide +kernel)) (goodIn_sub (fun _ h => List.mem_cons_of_mem _ (List.mem_append_right _ h)) (by decide +kernel))
set_option maxRecDepth 20000 in
theorem gX5_call_X5_checkReferee : GoodIn wsX5_call (va_wsS RX5 61 yX5_checkReferee wsX5_checkReferee) := goodIn_app (goodIn_of _ (by decide +kernel)) ggX5_call_X5_checkReferee
set_option maxRecDepth 20000 in
theorem ggX5_call_X5_checkPlayer : GoodIn wsX5_call wsX5_checkPlayer := goodIn_ca (goodIn_r _ [14, 10, 11] (by decide +kernel) (by decide +kernel)) (goodIn_sub (fun _ h => List.mem_cons_of_mem _ (List.mem_append_right _ h)) (by decide +kernel))
set_option maxRecDepth 20000 in
theorem gX5_call_X5_checkPlayer : GoodIn wsX5_call (va_wsS RX5 76 yX5_checkPlayer wsX5_checkPlayer) := goodIn_app (goodIn_of _ (by decide +kernel)) ggX5_call_X5_checkPlayer
set_option maxRecDepth 20000 in
theorem ggX5_call_X5_checkRound : GoodIn wsX5_call wsX5_checkRound := goodIn_ca (goodIn_r _ [18, 1, 2, 3, 19, 20, 21, 22, 23, 24, 69, 70, 71, 72, 73, 74, 75, 76, 77, 78, 79, 80] (by decide +kernel) (by decide +kernel)) (goodIn_sub (fun _ h => List.mem_cons_of_mem _ (List.mem_append_left _ (List.mem_append_right _ h))) (by decide +kernel))
set_option maxRecDepth 20000 in
theorem gX5_call_X5_checkRound : GoodIn wsX5_call (wsV RX5 79 RX5 yX5_checkRound wsX5_checkRound) := goodIn_app (goodIn_of _ (by decide +kernel)) ggX5_call_X5_checkRound
set_option maxRecDepth 20000 in
theorem ggX5_call_X2_cellOf : GoodIn wsX5_call wsX2_cellOf := goodIn_r _ [28, 29, 73, 74, 75, 76, 77, 78, 79, 80] (by decide +kernel) (by decide +kernel)
set_option maxRecDepth 20000 in
theorem gX5_call_X2_cellOf : GoodIn wsX5_call (wsV RX5 82 RX2 yX2_cellOf wsX2_cellOf) := goodIn_app (goodIn_of _ (by decide +kernel)) ggX5_call_X2_cellOf
set_option maxRecDepth 20000 in
theorem ggX5_call_X1_hasSight : GoodIn wsX5_call wsX1_hasSight := goodIn_r _ [34, 35, 36, 37, 38, 39, 40, 41, 42, 43, 44, 33, 45, 46, 47, 48, 81] (by decide +kernel) (by decide +kernel)
set_option maxRecDepth 20000 in
theorem gX5_call_X1_hasSight : GoodIn wsX5_call (wsV RX5 53 RX1 yX1_hasSight wsX1_hasSight) := goodIn_app (goodIn_of _ (by decide +kernel)) ggX5_call_X1_hasSight
set_option maxRecDepth 20000 in
theorem ggX5_call_X2_mayCall : GoodIn wsX5_call wsX2_mayCall := goodIn_r _ [52, 53, 54, 73, 74, 75, 76, 77, 78, 79, 80, 82, 83, 84, 85, 86] (by decide +kernel) (by decide +kernel)
set_option maxRecDepth 20000 in
theorem gX5_call_X2_mayCall : GoodIn wsX5_call (wsV RX5 124 RX2 yX2_mayCall wsX2_mayCall) := goodIn_app (goodIn_of _ (by decide +kernel)) ggX5_call_X2_mayCall
set_option maxRecDepth 20000 in
theorem ggX5_call_X2_callOut : GoodIn wsX5_call wsX2_callOut := goodIn_r _ [58, 53, 29, 24, 59, 60, 61, 62, 63, 64, 65, 66, 67, 68, 73, 74, 75, 76, 77, 78, 79, 80, 82, 83, 84, 85, 86] (by decide +kernel) (by decide +kernel)
set_option maxRecDepth 20000 in
theorem gX5_call_X2_callOut : GoodIn wsX5_call (wsV RX5 129 RX2 yX2_callOut wsX2_callOut) := goodIn_app (goodIn_of _ (by decide +kernel)) ggX5_call_X2_callOut
theorem dX5_call_0 : decode cX5_call 0 = .ok (.iload_n 1, 1) := by decide +kernel
theorem dX5_call_1 : decode cX5_call 1 = .ok (.invokestatic 61, 3) := by decide +kernel
theorem dX5_call_4 : decode cX5_call 4 = .ok (.iload_n 2, 1) := by decide +kernel
theorem dX5_call_5 : decode cX5_call 5 = .ok (.invokestatic 76, 3) := by decide +kernel
theorem dX5_call_8 : decode cX5_call 8 = .ok (.aload_n 0, 1) := by decide +kernel
theorem dX5_call_9 : decode cX5_call 9 = .ok (.invokevirtual 79, 3) := by decide +kernel
theorem dX5_call_12 : decode cX5_call 12 = .ok (.aload_n 0, 1) := by decide +kernel
theorem dX5_call_13 : decode cX5_call 13 = .ok (.getfield 19, 3) := by decide +kernel
theorem dX5_call_16 : decode cX5_call 16 = .ok (.iload_n 2, 1) := by decide +kernel
theorem dX5_call_17 : decode cX5_call 17 = .ok (.invokevirtual 82, 3) := by decide +kernel
theorem dX5_call_20 : decode cX5_call 20 = .ok (.istore_n 3, 1) := by decide +kernel
theorem dX5_call_21 : decode cX5_call 21 = .ok (.iload_n 3, 1) := by decide +kernel
theorem dX5_call_22 : decode cX5_call 22 = .ok (.ifCond .ge 13, 3) := by decide +kernel
theorem dX5_call_25 : decode cX5_call 25 = .ok (.new 42, 3) := by decide +kernel
theorem dX5_call_28 : decode cX5_call 28 = .ok (.dup, 1) := by decide +kernel
theorem dX5_call_29 : decode cX5_call 29 = .ok (.ldc 104, 2) := by decide +kernel
theorem dX5_call_31 : decode cX5_call 31 = .ok (.invokespecial 46, 3) := by decide +kernel
theorem dX5_call_34 : decode cX5_call 34 = .ok (.athrow, 1) := by decide +kernel
theorem dX5_call_35 : decode cX5_call 35 = .ok (.aload_n 0, 1) := by decide +kernel
theorem dX5_call_36 : decode cX5_call 36 = .ok (.getfield 12, 3) := by decide +kernel
theorem dX5_call_39 : decode cX5_call 39 = .ok (.aload_n 0, 1) := by decide +kernel
theorem dX5_call_40 : decode cX5_call 40 = .ok (.getfield 30, 3) := by decide +kernel
theorem dX5_call_43 : decode cX5_call 43 = .ok (.iload_n 1, 1) := by decide +kernel
theorem dX5_call_44 : decode cX5_call 44 = .ok (.iaload, 1) := by decide +kernel
theorem dX5_call_45 : decode cX5_call 45 = .ok (.iload_n 3, 1) := by decide +kernel
theorem dX5_call_46 : decode cX5_call 46 = .ok (.invokevirtual 53, 3) := by decide +kernel
theorem dX5_call_49 : decode cX5_call 49 = .ok (.ifCond .ne 13, 3) := by decide +kernel
theorem dX5_call_52 : decode cX5_call 52 = .ok (.new 42, 3) := by decide +kernel
theorem dX5_call_55 : decode cX5_call 55 = .ok (.dup, 1) := by decide +kernel
theorem dX5_call_56 : decode cX5_call 56 = .ok (.ldc 122, 2) := by decide +kernel
theorem dX5_call_58 : decode cX5_call 58 = .ok (.invokespecial 46, 3) := by decide +kernel
theorem dX5_call_61 : decode cX5_call 61 = .ok (.athrow, 1) := by decide +kernel
theorem dX5_call_62 : decode cX5_call 62 = .ok (.aload_n 0, 1) := by decide +kernel
theorem dX5_call_63 : decode cX5_call 63 = .ok (.getfield 19, 3) := by decide +kernel
theorem dX5_call_66 : decode cX5_call 66 = .ok (.invokevirtual 124, 3) := by decide +kernel
theorem dX5_call_69 : decode cX5_call 69 = .ok (.ifCond .ne 13, 3) := by decide +kernel
theorem dX5_call_72 : decode cX5_call 72 = .ok (.new 42, 3) := by decide +kernel
theorem dX5_call_75 : decode cX5_call 75 = .ok (.dup, 1) := by decide +kernel
theorem dX5_call_76 : decode cX5_call 76 = .ok (.ldc 127, 2) := by decide +kernel
theorem dX5_call_78 : decode cX5_call 78 = .ok (.invokespecial 46, 3) := by decide +kernel
theorem dX5_call_81 : decode cX5_call 81 = .ok (.athrow, 1) := by decide +kernel
theorem dX5_call_82 : decode cX5_call 82 = .ok (.aload_n 0, 1) := by decide +kernel
theorem dX5_call_83 : decode cX5_call 83 = .ok (.getfield 19, 3) := by decide +kernel
theorem dX5_call_86 : decode cX5_call 86 = .ok (.iload_n 2, 1) := by decide +kernel
theorem dX5_call_87 : decode cX5_call 87 = .ok (.invokevirtual 129, 3) := by decide +kernel
theorem dX5_call_90 : decode cX5_call 90 = .ok (.ireturn, 1) := by decide +kernel
set_option maxRecDepth 20000 in
theorem ggX5_dispute_X2_hasCall : GoodIn wsX5_dispute wsX2_hasCall := goodIn_r _ [11, 12, 13, 48, 49, 50, 51, 52, 53, 54, 55, 56, 57, 58, 59, 60] (by decide +kernel) (by decide +kernel)
set_option maxRecDepth 20000 in
theorem gX5_dispute_X2_hasCall : GoodIn wsX5_dispute (wsV RX5 132 RX2 yX2_hasCall wsX2_hasCall) := goodIn_app (goodIn_of _ (by decide +kernel)) ggX5_dispute_X2_hasCall
set_option maxRecDepth 20000 in
theorem ggX5_dispute_X2_isDisputed : GoodIn wsX5_dispute wsX2_isDisputed := goodIn_r _ [17, 12, 18, 48, 49, 50, 51, 52, 53, 54, 55, 56, 57, 58, 59, 60] (by decide +kernel) (by decide +kernel)
set_option maxRecDepth 20000 in
theorem gX5_dispute_X2_isDisputed : GoodIn wsX5_dispute (wsV RX5 140 RX2 yX2_isDisputed wsX2_isDisputed) := goodIn_app (goodIn_of _ (by decide +kernel)) ggX5_dispute_X2_isDisputed
set_option maxRecDepth 20000 in
theorem ggX5_dispute_X2_judge : GoodIn wsX5_dispute wsX2_judge := goodIn_r _ [22, 12, 23, 18, 24, 25, 26, 27, 28, 29, 30, 10, 31, 48, 49, 50, 51, 52, 53, 54, 55, 56, 57, 58, 59, 60] (by decide +kernel) (by decide +kernel)
set_option maxRecDepth 20000 in
theorem gX5_dispute_X2_judge : GoodIn wsX5_dispute (wsV RX5 145 RX2 yX2_judge wsX2_judge) := goodIn_app (goodIn_of _ (by decide +kernel)) ggX5_dispute_X2_judge
set_option maxRecDepth 20000 in
theorem ggX5_dispute_X2_teamCalled : GoodIn wsX5_dispute wsX2_teamCalled := goodIn_r _ [35, 12, 23, 36, 37, 48, 49, 50, 51, 52, 53, 54, 55, 56, 57, 58, 59, 60] (by decide +kernel) (by decide +kernel)
set_option maxRecDepth 20000 in
theorem gX5_dispute_X2_teamCalled : GoodIn wsX5_dispute (wsV RX5 148 RX2 yX2_teamCalled wsX2_teamCalled) := goodIn_app (goodIn_of _ (by decide +kernel)) ggX5_dispute_X2_teamCalled
set_option maxRecDepth 20000 in
theorem ggX5_dispute_X4_fine : GoodIn wsX5_dispute wsX4_fine := goodIn_r _ [42, 43, 61, 62, 63, 64] (by decide +kernel) (by decide +kernel)
set_option maxRecDepth 20000 in
theorem gX5_dispute_X4_fine : GoodIn wsX5_dispute (wsV RX5 151 RX4 yX4_fine wsX4_fine) := goodIn_app (goodIn_of _ (by decide +kernel)) ggX5_dispute_X4_fine
theorem dX5_dispute_0 : decode cX5_dispute 0 = .ok (.aload_n 0, 1) := by decide +kernel
theorem dX5_dispute_1 : decode cX5_dispute 1 = .ok (.getfield 19, 3) := by decide +kernel
theorem dX5_dispute_4 : decode cX5_dispute 4 = .ok (.iload_n 1, 1) := by decide +kernel
theorem dX5_dispute_5 : decode cX5_dispute 5 = .ok (.invokevirtual 132, 3) := by decide +kernel
theorem dX5_dispute_8 : decode cX5_dispute 8 = .ok (.ifCond .ne 13, 3) := by decide +kernel
theorem dX5_dispute_11 : decode cX5_dispute 11 = .ok (.new 135, 3) := by decide +kernel
theorem dX5_dispute_14 : decode cX5_dispute 14 = .ok (.dup, 1) := by decide +kernel
theorem dX5_dispute_15 : decode cX5_dispute 15 = .ok (.ldc 137, 2) := by decide +kernel
theorem dX5_dispute_17 : decode cX5_dispute 17 = .ok (.invokespecial 139, 3) := by decide +kernel
theorem dX5_dispute_20 : decode cX5_dispute 20 = .ok (.athrow, 1) := by decide +kernel
theorem dX5_dispute_21 : decode cX5_dispute 21 = .ok (.aload_n 0, 1) := by decide +kernel
theorem dX5_dispute_22 : decode cX5_dispute 22 = .ok (.getfield 19, 3) := by decide +kernel
theorem dX5_dispute_25 : decode cX5_dispute 25 = .ok (.iload_n 1, 1) := by decide +kernel
theorem dX5_dispute_26 : decode cX5_dispute 26 = .ok (.invokevirtual 140, 3) := by decide +kernel
theorem dX5_dispute_29 : decode cX5_dispute 29 = .ok (.ifCond .eq 13, 3) := by decide +kernel
theorem dX5_dispute_32 : decode cX5_dispute 32 = .ok (.new 42, 3) := by decide +kernel
theorem dX5_dispute_35 : decode cX5_dispute 35 = .ok (.dup, 1) := by decide +kernel
theorem dX5_dispute_36 : decode cX5_dispute 36 = .ok (.ldc 143, 2) := by decide +kernel
theorem dX5_dispute_38 : decode cX5_dispute 38 = .ok (.invokespecial 46, 3) := by decide +kernel
theorem dX5_dispute_41 : decode cX5_dispute 41 = .ok (.athrow, 1) := by decide +kernel
theorem dX5_dispute_42 : decode cX5_dispute 42 = .ok (.aload_n 0, 1) := by decide +kernel
theorem dX5_dispute_43 : decode cX5_dispute 43 = .ok (.getfield 19, 3) := by decide +kernel
theorem dX5_dispute_46 : decode cX5_dispute 46 = .ok (.iload_n 1, 1) := by decide +kernel
theorem dX5_dispute_47 : decode cX5_dispute 47 = .ok (.invokevirtual 145, 3) := by decide +kernel
theorem dX5_dispute_50 : decode cX5_dispute 50 = .ok (.istore_n 2, 1) := by decide +kernel
theorem dX5_dispute_51 : decode cX5_dispute 51 = .ok (.iload_n 2, 1) := by decide +kernel
theorem dX5_dispute_52 : decode cX5_dispute 52 = .ok (.ifCond .eq 18, 3) := by decide +kernel
theorem dX5_dispute_55 : decode cX5_dispute 55 = .ok (.aload_n 0, 1) := by decide +kernel
theorem dX5_dispute_56 : decode cX5_dispute 56 = .ok (.getfield 26, 3) := by decide +kernel
theorem dX5_dispute_59 : decode cX5_dispute 59 = .ok (.aload_n 0, 1) := by decide +kernel
theorem dX5_dispute_60 : decode cX5_dispute 60 = .ok (.getfield 19, 3) := by decide +kernel
theorem dX5_dispute_63 : decode cX5_dispute 63 = .ok (.iload_n 1, 1) := by decide +kernel
theorem dX5_dispute_64 : decode cX5_dispute 64 = .ok (.invokevirtual 148, 3) := by decide +kernel
theorem dX5_dispute_67 : decode cX5_dispute 67 = .ok (.invokevirtual 151, 3) := by decide +kernel
theorem dX5_dispute_70 : decode cX5_dispute 70 = .ok (.iload_n 2, 1) := by decide +kernel
theorem dX5_dispute_71 : decode cX5_dispute 71 = .ok (.ireturn, 1) := by decide +kernel
set_option maxRecDepth 20000 in
theorem ggX5_end_X5_checkRound : GoodIn wsX5_end wsX5_checkRound := goodIn_ca (goodIn_r _ [7, 8, 9, 1, 10, 11, 12, 13, 14, 15, 62, 63, 64, 65, 66, 67, 68, 69, 70, 71, 72, 73] (by decide +kernel) (by decide +kernel)) (goodIn_sub (fun _ h => List.mem_cons_of_mem _ (List.mem_append_right _ h)) (by decide +kernel))
set_option maxRecDepth 20000 in
theorem gX5_end_X5_checkRound : GoodIn wsX5_end (wsV RX5 79 RX5 yX5_checkRound wsX5_checkRound) := goodIn_app (goodIn_of _ (by decide +kernel)) ggX5_end_X5_checkRound
set_option maxRecDepth 20000 in
theorem ggX5_end_X2_margin : GoodIn wsX5_end wsX2_margin := goodIn_r _ [19, 20, 21, 66, 67, 68, 69, 70, 71, 72, 73] (by decide +kernel) (by decide +kernel)
set_option maxRecDepth 20000 in
theorem gX5_end_X2_margin : GoodIn wsX5_end (wsV RX5 154 RX2 yX2_margin wsX2_margin) := goodIn_app (goodIn_of _ (by decide +kernel)) ggX5_end_X2_margin
set_option maxRecDepth 20000 in
theorem ggX5_end_X2_homeTeam : GoodIn wsX5_end wsX2_homeTeam := goodIn_r _ [25, 26, 66, 67, 68, 69, 70, 71, 72, 73] (by decide +kernel) (by decide +kernel)
set_option maxRecDepth 20000 in
theorem gX5_end_X2_homeTeam : GoodIn wsX5_end (wsV RX5 158 RX2 yX2_homeTeam wsX2_homeTeam) := goodIn_app (goodIn_of _ (by decide +kernel)) ggX5_end_X2_homeTeam
set_option maxRecDepth 20000 in
theorem ggX5_end_X2_awayTeam : GoodIn wsX5_end wsX2_awayTeam := goodIn_r _ [30, 31, 66, 67, 68, 69, 70, 71, 72, 73] (by decide +kernel) (by decide +kernel)
set_option maxRecDepth 20000 in
theorem gX5_end_X2_awayTeam : GoodIn wsX5_end (wsV RX5 161 RX2 yX2_awayTeam wsX2_awayTeam) := goodIn_app (goodIn_of _ (by decide +kernel)) ggX5_end_X2_awayTeam
set_option maxRecDepth 20000 in
theorem ggX5_end_X4_enter : GoodIn wsX5_end wsX4_enter := goodIn_r _ [36, 37, 38, 39, 40, 41, 35, 42, 43, 44, 45, 46, 47, 48, 74, 75, 76, 77] (by decide +kernel) (by decide +kernel)
set_option maxRecDepth 20000 in
theorem gX5_end_X4_enter : GoodIn wsX5_end (wsV RX5 164 RX4 yX4_enter wsX4_enter) := goodIn_app (goodIn_of _ (by decide +kernel)) ggX5_end_X4_enter
set_option maxRecDepth 20000 in
theorem ggX5_end_X2_close : GoodIn wsX5_end wsX2_close := goodIn_r _ [52, 15, 53, 54, 55, 13, 56, 20, 21, 57, 58, 59, 60, 61, 66, 67, 68, 69, 70, 71, 72, 73, 78, 79, 80, 81, 82, 83, 84, 85, 86, 87] (by decide +kernel) (by decide +kernel)
set_option maxRecDepth 20000 in
theorem gX5_end_X2_close : GoodIn wsX5_end (wsV RX5 168 RX2 yX2_close wsX2_close) := goodIn_app (goodIn_of _ (by decide +kernel)) ggX5_end_X2_close
theorem dX5_end_0 : decode cX5_end 0 = .ok (.aload_n 0, 1) := by decide +kernel
theorem dX5_end_1 : decode cX5_end 1 = .ok (.invokevirtual 79, 3) := by decide +kernel
theorem dX5_end_4 : decode cX5_end 4 = .ok (.aload_n 0, 1) := by decide +kernel
theorem dX5_end_5 : decode cX5_end 5 = .ok (.getfield 19, 3) := by decide +kernel
theorem dX5_end_8 : decode cX5_end 8 = .ok (.invokevirtual 154, 3) := by decide +kernel
theorem dX5_end_11 : decode cX5_end 11 = .ok (.istore_n 1, 1) := by decide +kernel
theorem dX5_end_12 : decode cX5_end 12 = .ok (.aload_n 0, 1) := by decide +kernel
theorem dX5_end_13 : decode cX5_end 13 = .ok (.getfield 26, 3) := by decide +kernel
theorem dX5_end_16 : decode cX5_end 16 = .ok (.aload_n 0, 1) := by decide +kernel
theorem dX5_end_17 : decode cX5_end 17 = .ok (.getfield 19, 3) := by decide +kernel
theorem dX5_end_20 : decode cX5_end 20 = .ok (.invokevirtual 158, 3) := by decide +kernel
theorem dX5_end_23 : decode cX5_end 23 = .ok (.aload_n 0, 1) := by decide +kernel
theorem dX5_end_24 : decode cX5_end 24 = .ok (.getfield 19, 3) := by decide +kernel
theorem dX5_end_27 : decode cX5_end 27 = .ok (.invokevirtual 161, 3) := by decide +kernel
theorem dX5_end_30 : decode cX5_end 30 = .ok (.iload_n 1, 1) := by decide +kernel
theorem dX5_end_31 : decode cX5_end 31 = .ok (.invokevirtual 164, 3) := by decide +kernel
theorem dX5_end_34 : decode cX5_end 34 = .ok (.aload_n 0, 1) := by decide +kernel
theorem dX5_end_35 : decode cX5_end 35 = .ok (.getfield 19, 3) := by decide +kernel
theorem dX5_end_38 : decode cX5_end 38 = .ok (.invokevirtual 168, 3) := by decide +kernel
theorem dX5_end_41 : decode cX5_end 41 = .ok (.iload_n 1, 1) := by decide +kernel
theorem dX5_end_42 : decode cX5_end 42 = .ok (.ireturn, 1) := by decide +kernel
set_option maxRecDepth 20000 in
theorem ggX5_tick_X2_time : GoodIn wsX5_tick wsX2_time := goodIn_r _ [6, 7, 12, 13, 14, 15, 16, 17, 18, 19] (by decide +kernel) (by decide +kernel)
set_option maxRecDepth 20000 in
theorem gX5_tick_X2_time : GoodIn wsX5_tick (wsV RX5 171 RX2 yX2_time wsX2_time) := goodIn_app (goodIn_of _ (by decide +kernel)) ggX5_tick_X2_time
theorem dX5_tick_0 : decode cX5_tick 0 = .ok (.aload_n 0, 1) := by decide +kernel
theorem dX5_tick_1 : decode cX5_tick 1 = .ok (.getfield 19, 3) := by decide +kernel
theorem dX5_tick_4 : decode cX5_tick 4 = .ok (.invokevirtual 171, 3) := by decide +kernel
theorem dX5_tick_7 : decode cX5_tick 7 = .ok (.ireturn, 1) := by decide +kernel
set_option maxRecDepth 20000 in
theorem ggX5_where_X5_checkPlayer : GoodIn wsX5_where wsX5_checkPlayer := goodIn_ca (goodIn_r _ [5, 6, 7] (by decide +kernel) (by decide +kernel)) (goodIn_sub (fun _ h => List.mem_cons_of_mem _ (List.mem_append_right _ h)) (by decide +kernel))
set_option maxRecDepth 20000 in
theorem gX5_where_X5_checkPlayer : GoodIn wsX5_where (va_wsS RX5 76 yX5_checkPlayer wsX5_checkPlayer) := goodIn_app (goodIn_of _ (by decide +kernel)) ggX5_where_X5_checkPlayer
set_option maxRecDepth 20000 in
theorem ggX5_where_X2_cellOf : GoodIn wsX5_where wsX2_cellOf := goodIn_r _ [12, 13, 18, 19, 20, 21, 22, 23, 24, 25] (by decide +kernel) (by decide +kernel)
set_option maxRecDepth 20000 in
theorem gX5_where_X2_cellOf : GoodIn wsX5_where (wsV RX5 82 RX2 yX2_cellOf wsX2_cellOf) := goodIn_app (goodIn_of _ (by decide +kernel)) ggX5_where_X2_cellOf
theorem dX5_where_0 : decode cX5_where 0 = .ok (.iload_n 1, 1) := by decide +kernel
theorem dX5_where_1 : decode cX5_where 1 = .ok (.invokestatic 76, 3) := by decide +kernel
theorem dX5_where_4 : decode cX5_where 4 = .ok (.aload_n 0, 1) := by decide +kernel
theorem dX5_where_5 : decode cX5_where 5 = .ok (.getfield 19, 3) := by decide +kernel
theorem dX5_where_8 : decode cX5_where 8 = .ok (.iload_n 1, 1) := by decide +kernel
theorem dX5_where_9 : decode cX5_where 9 = .ok (.invokevirtual 82, 3) := by decide +kernel
theorem dX5_where_12 : decode cX5_where 12 = .ok (.ireturn, 1) := by decide +kernel
set_option maxRecDepth 20000 in
theorem ggX5_hit_X5_checkPlayer : GoodIn wsX5_hit wsX5_checkPlayer := goodIn_ca (goodIn_r _ [5, 6, 7] (by decide +kernel) (by decide +kernel)) (goodIn_sub (fun _ h => List.mem_cons_of_mem _ (List.mem_append_right _ h)) (by decide +kernel))
set_option maxRecDepth 20000 in
theorem gX5_hit_X5_checkPlayer : GoodIn wsX5_hit (va_wsS RX5 76 yX5_checkPlayer wsX5_checkPlayer) := goodIn_app (goodIn_of _ (by decide +kernel)) ggX5_hit_X5_checkPlayer
set_option maxRecDepth 20000 in
theorem ggX5_hit_X2_hitOf : GoodIn wsX5_hit wsX2_hitOf := goodIn_r _ [12, 13, 18, 19, 20, 21, 22, 23, 24, 25] (by decide +kernel) (by decide +kernel)
set_option maxRecDepth 20000 in
theorem gX5_hit_X2_hitOf : GoodIn wsX5_hit (wsV RX5 174 RX2 yX2_hitOf wsX2_hitOf) := goodIn_app (goodIn_of _ (by decide +kernel)) ggX5_hit_X2_hitOf
theorem dX5_hit_0 : decode cX5_hit 0 = .ok (.iload_n 1, 1) := by decide +kernel
theorem dX5_hit_1 : decode cX5_hit 1 = .ok (.invokestatic 76, 3) := by decide +kernel
theorem dX5_hit_4 : decode cX5_hit 4 = .ok (.aload_n 0, 1) := by decide +kernel
theorem dX5_hit_5 : decode cX5_hit 5 = .ok (.getfield 19, 3) := by decide +kernel
theorem dX5_hit_8 : decode cX5_hit 8 = .ok (.iload_n 1, 1) := by decide +kernel
theorem dX5_hit_9 : decode cX5_hit 9 = .ok (.invokevirtual 174, 3) := by decide +kernel
theorem dX5_hit_12 : decode cX5_hit 12 = .ok (.ireturn, 1) := by decide +kernel
set_option maxRecDepth 20000 in
theorem ggX5_flying_X2_countFlying : GoodIn wsX5_flying wsX2_countFlying := goodIn_r _ [6, 7, 8, 9, 10, 15, 16, 17, 18, 19, 20, 21, 22, 23, 24, 25, 26, 27] (by decide +kernel) (by decide +kernel)
set_option maxRecDepth 20000 in
theorem gX5_flying_X2_countFlying : GoodIn wsX5_flying (wsV RX5 177 RX2 yX2_countFlying wsX2_countFlying) := goodIn_app (goodIn_of _ (by decide +kernel)) ggX5_flying_X2_countFlying
theorem dX5_flying_0 : decode cX5_flying 0 = .ok (.aload_n 0, 1) := by decide +kernel
theorem dX5_flying_1 : decode cX5_flying 1 = .ok (.getfield 19, 3) := by decide +kernel
theorem dX5_flying_4 : decode cX5_flying 4 = .ok (.invokevirtual 177, 3) := by decide +kernel
theorem dX5_flying_7 : decode cX5_flying 7 = .ok (.ireturn, 1) := by decide +kernel
set_option maxRecDepth 20000 in
theorem ggX5_points_X5_checkTeam : GoodIn wsX5_points wsX5_checkTeam := goodIn_ca (goodIn_r _ [5, 6, 7] (by decide +kernel) (by decide +kernel)) (goodIn_sub (fun _ h => List.mem_cons_of_mem _ (List.mem_append_right _ h)) (by decide +kernel))
set_option maxRecDepth 20000 in
theorem gX5_points_X5_checkTeam : GoodIn wsX5_points (va_wsS RX5 64 yX5_checkTeam wsX5_checkTeam) := goodIn_app (goodIn_of _ (by decide +kernel)) ggX5_points_X5_checkTeam
set_option maxRecDepth 20000 in
theorem ggX5_points_X4_pointsOf : GoodIn wsX5_points wsX4_pointsOf := goodIn_r _ [12, 13, 18, 19, 20, 21] (by decide +kernel) (by decide +kernel)
set_option maxRecDepth 20000 in
theorem gX5_points_X4_pointsOf : GoodIn wsX5_points (wsV RX5 180 RX4 yX4_pointsOf wsX4_pointsOf) := goodIn_app (goodIn_of _ (by decide +kernel)) ggX5_points_X4_pointsOf
theorem dX5_points_0 : decode cX5_points 0 = .ok (.iload_n 1, 1) := by decide +kernel
theorem dX5_points_1 : decode cX5_points 1 = .ok (.invokestatic 64, 3) := by decide +kernel
theorem dX5_points_4 : decode cX5_points 4 = .ok (.aload_n 0, 1) := by decide +kernel
theorem dX5_points_5 : decode cX5_points 5 = .ok (.getfield 26, 3) := by decide +kernel
theorem dX5_points_8 : decode cX5_points 8 = .ok (.iload_n 1, 1) := by decide +kernel
theorem dX5_points_9 : decode cX5_points 9 = .ok (.invokevirtual 180, 3) := by decide +kernel
theorem dX5_points_12 : decode cX5_points 12 = .ok (.ireturn, 1) := by decide +kernel
set_option maxRecDepth 20000 in
theorem ggX5_fines_X5_checkTeam : GoodIn wsX5_fines wsX5_checkTeam := goodIn_ca (goodIn_r _ [5, 6, 7] (by decide +kernel) (by decide +kernel)) (goodIn_sub (fun _ h => List.mem_cons_of_mem _ (List.mem_append_right _ h)) (by decide +kernel))
set_option maxRecDepth 20000 in
theorem gX5_fines_X5_checkTeam : GoodIn wsX5_fines (va_wsS RX5 64 yX5_checkTeam wsX5_checkTeam) := goodIn_app (goodIn_of _ (by decide +kernel)) ggX5_fines_X5_checkTeam
set_option maxRecDepth 20000 in
theorem ggX5_fines_X4_finesOf : GoodIn wsX5_fines wsX4_finesOf := goodIn_r _ [12, 13, 18, 19, 20, 21] (by decide +kernel) (by decide +kernel)
set_option maxRecDepth 20000 in
theorem gX5_fines_X4_finesOf : GoodIn wsX5_fines (wsV RX5 183 RX4 yX4_finesOf wsX4_finesOf) := goodIn_app (goodIn_of _ (by decide +kernel)) ggX5_fines_X4_finesOf
theorem dX5_fines_0 : decode cX5_fines 0 = .ok (.iload_n 1, 1) := by decide +kernel
theorem dX5_fines_1 : decode cX5_fines 1 = .ok (.invokestatic 64, 3) := by decide +kernel
theorem dX5_fines_4 : decode cX5_fines 4 = .ok (.aload_n 0, 1) := by decide +kernel
theorem dX5_fines_5 : decode cX5_fines 5 = .ok (.getfield 26, 3) := by decide +kernel
theorem dX5_fines_8 : decode cX5_fines 8 = .ok (.iload_n 1, 1) := by decide +kernel
theorem dX5_fines_9 : decode cX5_fines 9 = .ok (.invokevirtual 183, 3) := by decide +kernel
theorem dX5_fines_12 : decode cX5_fines 12 = .ok (.ireturn, 1) := by decide +kernel
set_option maxRecDepth 20000 in
theorem ggX5_difference_X5_checkTeam : GoodIn wsX5_difference wsX5_checkTeam := goodIn_ca (goodIn_r _ [5, 6, 7] (by decide +kernel) (by decide +kernel)) (goodIn_sub (fun _ h => List.mem_cons_of_mem _ (List.mem_append_right _ h)) (by decide +kernel))
set_option maxRecDepth 20000 in
theorem gX5_difference_X5_checkTeam : GoodIn wsX5_difference (va_wsS RX5 64 yX5_checkTeam wsX5_checkTeam) := goodIn_app (goodIn_of _ (by decide +kernel)) ggX5_difference_X5_checkTeam
set_option maxRecDepth 20000 in
theorem ggX5_difference_X4_differenceOf : GoodIn wsX5_difference wsX4_differenceOf := goodIn_r _ [12, 13, 18, 19, 20, 21] (by decide +kernel) (by decide +kernel)
set_option maxRecDepth 20000 in
theorem gX5_difference_X4_differenceOf : GoodIn wsX5_difference (wsV RX5 186 RX4 yX4_differenceOf wsX4_differenceOf) := goodIn_app (goodIn_of _ (by decide +kernel)) ggX5_difference_X4_differenceOf
theorem dX5_difference_0 : decode cX5_difference 0 = .ok (.iload_n 1, 1) := by decide +kernel
theorem dX5_difference_1 : decode cX5_difference 1 = .ok (.invokestatic 64, 3) := by decide +kernel
theorem dX5_difference_4 : decode cX5_difference 4 = .ok (.aload_n 0, 1) := by decide +kernel
theorem dX5_difference_5 : decode cX5_difference 5 = .ok (.getfield 26, 3) := by decide +kernel
theorem dX5_difference_8 : decode cX5_difference 8 = .ok (.iload_n 1, 1) := by decide +kernel
theorem dX5_difference_9 : decode cX5_difference 9 = .ok (.invokevirtual 186, 3) := by decide +kernel
theorem dX5_difference_12 : decode cX5_difference 12 = .ok (.ireturn, 1) := by decide +kernel
set_option maxRecDepth 20000 in
theorem ggX5_place_X5_checkTeam : GoodIn wsX5_place wsX5_checkTeam := goodIn_ca (goodIn_r _ [5, 6, 7] (by decide +kernel) (by decide +kernel)) (goodIn_sub (fun _ h => List.mem_cons_of_mem _ (List.mem_append_right _ h)) (by decide +kernel))
set_option maxRecDepth 20000 in
theorem gX5_place_X5_checkTeam : GoodIn wsX5_place (va_wsS RX5 64 yX5_checkTeam wsX5_checkTeam) := goodIn_app (goodIn_of _ (by decide +kernel)) ggX5_place_X5_checkTeam
set_option maxRecDepth 20000 in
theorem ggX5_place_X4_placeOf : GoodIn wsX5_place wsX4_placeOf := goodIn_r _ [12, 13, 14, 15, 11, 16, 17, 18, 19, 24, 25, 26, 27] (by decide +kernel) (by decide +kernel)
set_option maxRecDepth 20000 in
theorem gX5_place_X4_placeOf : GoodIn wsX5_place (wsV RX5 189 RX4 yX4_placeOf wsX4_placeOf) := goodIn_app (goodIn_of _ (by decide +kernel)) ggX5_place_X4_placeOf
theorem dX5_place_0 : decode cX5_place 0 = .ok (.iload_n 1, 1) := by decide +kernel
theorem dX5_place_1 : decode cX5_place 1 = .ok (.invokestatic 64, 3) := by decide +kernel
theorem dX5_place_4 : decode cX5_place 4 = .ok (.aload_n 0, 1) := by decide +kernel
theorem dX5_place_5 : decode cX5_place 5 = .ok (.getfield 26, 3) := by decide +kernel
theorem dX5_place_8 : decode cX5_place 8 = .ok (.iload_n 1, 1) := by decide +kernel
theorem dX5_place_9 : decode cX5_place 9 = .ok (.invokevirtual 189, 3) := by decide +kernel
theorem dX5_place_12 : decode cX5_place 12 = .ok (.ireturn, 1) := by decide +kernel
theorem dX5_checkCell_0 : decode cX5_checkCell 0 = .ok (.iload_n 0, 1) := by decide +kernel
theorem dX5_checkCell_1 : decode cX5_checkCell 1 = .ok (.ifCond .lt 10, 3) := by decide +kernel
theorem dX5_checkCell_4 : decode cX5_checkCell 4 = .ok (.iload_n 0, 1) := by decide +kernel
theorem dX5_checkCell_5 : decode cX5_checkCell 5 = .ok (.sipush 144, 3) := by decide +kernel
theorem dX5_checkCell_8 : decode cX5_checkCell 8 = .ok (.if_icmp .lt 13, 3) := by decide +kernel
theorem dX5_checkCell_11 : decode cX5_checkCell 11 = .ok (.new 135, 3) := by decide +kernel
theorem dX5_checkCell_14 : decode cX5_checkCell 14 = .ok (.dup, 1) := by decide +kernel
theorem dX5_checkCell_15 : decode cX5_checkCell 15 = .ok (.ldc 192, 2) := by decide +kernel
theorem dX5_checkCell_17 : decode cX5_checkCell 17 = .ok (.invokespecial 139, 3) := by decide +kernel
theorem dX5_checkCell_20 : decode cX5_checkCell 20 = .ok (.athrow, 1) := by decide +kernel
theorem dX5_checkCell_21 : decode cX5_checkCell 21 = .ok (.return_, 1) := by decide +kernel
theorem dX5_checkTeam_0 : decode cX5_checkTeam 0 = .ok (.iload_n 0, 1) := by decide +kernel
theorem dX5_checkTeam_1 : decode cX5_checkTeam 1 = .ok (.ifCond .lt 9, 3) := by decide +kernel
theorem dX5_checkTeam_4 : decode cX5_checkTeam 4 = .ok (.iload_n 0, 1) := by decide +kernel
theorem dX5_checkTeam_5 : decode cX5_checkTeam 5 = .ok (.bipush 6, 2) := by decide +kernel
theorem dX5_checkTeam_7 : decode cX5_checkTeam 7 = .ok (.if_icmp .lt 13, 3) := by decide +kernel
theorem dX5_checkTeam_10 : decode cX5_checkTeam 10 = .ok (.new 135, 3) := by decide +kernel
theorem dX5_checkTeam_13 : decode cX5_checkTeam 13 = .ok (.dup, 1) := by decide +kernel
theorem dX5_checkTeam_14 : decode cX5_checkTeam 14 = .ok (.ldc 194, 2) := by decide +kernel
theorem dX5_checkTeam_16 : decode cX5_checkTeam 16 = .ok (.invokespecial 139, 3) := by decide +kernel
theorem dX5_checkTeam_19 : decode cX5_checkTeam 19 = .ok (.athrow, 1) := by decide +kernel
theorem dX5_checkTeam_20 : decode cX5_checkTeam 20 = .ok (.return_, 1) := by decide +kernel
theorem dX5_checkPlayer_0 : decode cX5_checkPlayer 0 = .ok (.iload_n 0, 1) := by decide +kernel
theorem dX5_checkPlayer_1 : decode cX5_checkPlayer 1 = .ok (.ifCond .lt 9, 3) := by decide +kernel
theorem dX5_checkPlayer_4 : decode cX5_checkPlayer 4 = .ok (.iload_n 0, 1) := by decide +kernel
theorem dX5_checkPlayer_5 : decode cX5_checkPlayer 5 = .ok (.bipush 6, 2) := by decide +kernel
theorem dX5_checkPlayer_7 : decode cX5_checkPlayer 7 = .ok (.if_icmp .lt 13, 3) := by decide +kernel
theorem dX5_checkPlayer_10 : decode cX5_checkPlayer 10 = .ok (.new 135, 3) := by decide +kernel
theorem dX5_checkPlayer_13 : decode cX5_checkPlayer 13 = .ok (.dup, 1) := by decide +kernel
theorem dX5_checkPlayer_14 : decode cX5_checkPlayer 14 = .ok (.ldc 196, 2) := by decide +kernel
theorem dX5_checkPlayer_16 : decode cX5_checkPlayer 16 = .ok (.invokespecial 139, 3) := by decide +kernel
theorem dX5_checkPlayer_19 : decode cX5_checkPlayer 19 = .ok (.athrow, 1) := by decide +kernel
theorem dX5_checkPlayer_20 : decode cX5_checkPlayer 20 = .ok (.return_, 1) := by decide +kernel
theorem dX5_checkReferee_0 : decode cX5_checkReferee 0 = .ok (.iload_n 0, 1) := by decide +kernel
theorem dX5_checkReferee_1 : decode cX5_checkReferee 1 = .ok (.ifCond .lt 8, 3) := by decide +kernel
theorem dX5_checkReferee_4 : decode cX5_checkReferee 4 = .ok (.iload_n 0, 1) := by decide +kernel
theorem dX5_checkReferee_5 : decode cX5_checkReferee 5 = .ok (.iconst 2, 1) := by decide +kernel
theorem dX5_checkReferee_6 : decode cX5_checkReferee 6 = .ok (.if_icmp .lt 13, 3) := by decide +kernel
theorem dX5_checkReferee_9 : decode cX5_checkReferee 9 = .ok (.new 135, 3) := by decide +kernel
theorem dX5_checkReferee_12 : decode cX5_checkReferee 12 = .ok (.dup, 1) := by decide +kernel
theorem dX5_checkReferee_13 : decode cX5_checkReferee 13 = .ok (.ldc 198, 2) := by decide +kernel
theorem dX5_checkReferee_15 : decode cX5_checkReferee 15 = .ok (.invokespecial 139, 3) := by decide +kernel
theorem dX5_checkReferee_18 : decode cX5_checkReferee 18 = .ok (.athrow, 1) := by decide +kernel
theorem dX5_checkReferee_19 : decode cX5_checkReferee 19 = .ok (.return_, 1) := by decide +kernel
set_option maxRecDepth 20000 in
theorem ggX5_checkRound_X2_isPlayed : GoodIn wsX5_checkRound wsX2_isPlayed := goodIn_r _ [8, 9, 14, 15, 16, 17, 18, 19, 20, 21] (by decide +kernel) (by decide +kernel)
set_option maxRecDepth 20000 in
theorem gX5_checkRound_X2_isPlayed : GoodIn wsX5_checkRound (wsV RX5 38 RX2 yX2_isPlayed wsX2_isPlayed) := goodIn_app (goodIn_of _ (by decide +kernel)) ggX5_checkRound_X2_isPlayed
theorem dX5_checkRound_0 : decode cX5_checkRound 0 = .ok (.aload_n 0, 1) := by decide +kernel
theorem dX5_checkRound_1 : decode cX5_checkRound 1 = .ok (.getfield 19, 3) := by decide +kernel
theorem dX5_checkRound_4 : decode cX5_checkRound 4 = .ok (.invokevirtual 38, 3) := by decide +kernel
theorem dX5_checkRound_7 : decode cX5_checkRound 7 = .ok (.ifCond .ne 13, 3) := by decide +kernel
theorem dX5_checkRound_10 : decode cX5_checkRound 10 = .ok (.new 42, 3) := by decide +kernel
theorem dX5_checkRound_13 : decode cX5_checkRound 13 = .ok (.dup, 1) := by decide +kernel
theorem dX5_checkRound_14 : decode cX5_checkRound 14 = .ok (.ldc 200, 2) := by decide +kernel
theorem dX5_checkRound_16 : decode cX5_checkRound 16 = .ok (.invokespecial 46, 3) := by decide +kernel
theorem dX5_checkRound_19 : decode cX5_checkRound 19 = .ok (.athrow, 1) := by decide +kernel
theorem dX5_checkRound_20 : decode cX5_checkRound 20 = .ok (.return_, 1) := by decide +kernel
theorem dJ9_abs_0f7a4_0 : decode cJ9_abs_0f7a4 0 = .ok (.iload_n 0, 1) := by decide +kernel
theorem dJ9_abs_0f7a4_1 : decode cJ9_abs_0f7a4 1 = .ok (.ifCond .ge 8, 3) := by decide +kernel
theorem dJ9_abs_0f7a4_4 : decode cJ9_abs_0f7a4 4 = .ok (.iload_n 0, 1) := by decide +kernel
theorem dJ9_abs_0f7a4_5 : decode cJ9_abs_0f7a4 5 = .ok (.ineg, 1) := by decide +kernel
theorem dJ9_abs_0f7a4_6 : decode cJ9_abs_0f7a4 6 = .ok (.goto 4, 3) := by decide +kernel
theorem dJ9_abs_0f7a4_9 : decode cJ9_abs_0f7a4 9 = .ok (.iload_n 0, 1) := by decide +kernel
theorem dJ9_abs_0f7a4_10 : decode cJ9_abs_0f7a4 10 = .ok (.ireturn, 1) := by decide +kernel
theorem dJ9_max_7cf53_0 : decode cJ9_max_7cf53 0 = .ok (.iload_n 0, 1) := by decide +kernel
theorem dJ9_max_7cf53_1 : decode cJ9_max_7cf53 1 = .ok (.iload_n 1, 1) := by decide +kernel
theorem dJ9_max_7cf53_2 : decode cJ9_max_7cf53 2 = .ok (.if_icmp .lt 7, 3) := by decide +kernel
theorem dJ9_max_7cf53_5 : decode cJ9_max_7cf53 5 = .ok (.iload_n 0, 1) := by decide +kernel
theorem dJ9_max_7cf53_6 : decode cJ9_max_7cf53 6 = .ok (.goto 4, 3) := by decide +kernel
theorem dJ9_max_7cf53_9 : decode cJ9_max_7cf53 9 = .ok (.iload_n 1, 1) := by decide +kernel
theorem dJ9_max_7cf53_10 : decode cJ9_max_7cf53 10 = .ok (.ireturn, 1) := by decide +kernel
theorem dJ9_min_7cf53_0 : decode cJ9_min_7cf53 0 = .ok (.iload_n 0, 1) := by decide +kernel
theorem dJ9_min_7cf53_1 : decode cJ9_min_7cf53 1 = .ok (.iload_n 1, 1) := by decide +kernel
theorem dJ9_min_7cf53_2 : decode cJ9_min_7cf53 2 = .ok (.if_icmp .gt 7, 3) := by decide +kernel
theorem dJ9_min_7cf53_5 : decode cJ9_min_7cf53 5 = .ok (.iload_n 0, 1) := by decide +kernel
theorem dJ9_min_7cf53_6 : decode cJ9_min_7cf53 6 = .ok (.goto 4, 3) := by decide +kernel
theorem dJ9_min_7cf53_9 : decode cJ9_min_7cf53 9 = .ok (.iload_n 1, 1) := by decide +kernel
theorem dJ9_min_7cf53_10 : decode cJ9_min_7cf53 10 = .ok (.ireturn, 1) := by decide +kernel
