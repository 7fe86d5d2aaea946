theorem wsL_law_x0 : ∀ w ∈ (vx_atS RX5 46 "java/lang/IllegalStateException" ["java/lang/RuntimeException", "java/lang/Exception"]).filter goodWord, w ∈ lw_tbl := by decide +kernel
theorem wsL_law_x1 : ∀ w ∈ (vx_atS RX5 139 "java/lang/IndexOutOfBoundsException" ["java/lang/RuntimeException", "java/lang/Exception"]).filter goodWord, w ∈ lw_tbl := by decide +kernel
theorem wsL_law_x2 : ∀ w ∈ (vx_atS RX5 71 "java/lang/IllegalArgumentException" ["java/lang/RuntimeException", "java/lang/Exception"]).filter goodWord, w ∈ lw_tbl := by decide +kernel
theorem wsL_law_in : ∀ w ∈ wsL_law, w ∈ lw_tbl := fun w h => (List.mem_append.mp h).elim (fun h => (List.mem_append.mp h).elim (fun h => (List.mem_append.mp h).elim (fun h => wsL_law_in0 w h) (fun h => wsL_law_x0 w h)) (fun h => wsL_law_x1 w h)) (fun h => wsL_law_x2 w h)
theorem inlX0 : ∀ w ∈ wsX00, w ∈ wsL_law := fun _ h => List.mem_append_left _ (List.mem_append_left _ (List.mem_append_left _ (List.mem_append_left _ (List.mem_append_right _ h))))
theorem inX0 : ∀ w ∈ wsX00, w ∈ lw_tbl := fun w h => wsL_law_in w (inlX0 w h)
theorem inlX1 : ∀ w ∈ wsX10, w ∈ wsL_law := fun _ h => List.mem_append_left _ (List.mem_append_left _ (List.mem_append_left _ (List.mem_append_left _ (List.mem_append_left _ (List.mem_append_left _ (List.mem_append_left _ (List.mem_append_left _ (List.mem_append_right _ h))))))))
theorem inX1 : ∀ w ∈ wsX10, w ∈ lw_tbl := fun w h => wsL_law_in w (inlX1 w h)
theorem inlX2 : ∀ w ∈ wsX20, w ∈ wsL_law := fun _ h => List.mem_append_left _ (List.mem_append_left _ (List.mem_append_left _ (List.mem_append_left _ (List.mem_append_left _ (List.mem_append_left _ (List.mem_append_left _ (List.mem_append_right _ h)))))))
theorem inX2 : ∀ w ∈ wsX20, w ∈ lw_tbl := fun w h => wsL_law_in w (inlX2 w h)
theorem inlX3 : ∀ w ∈ wsX30, w ∈ wsL_law := fun _ h => List.mem_append_left _ (List.mem_append_left _ (List.mem_append_left _ (List.mem_append_left _ (List.mem_append_left _ (List.mem_append_right _ h)))))
theorem inX3 : ∀ w ∈ wsX30, w ∈ lw_tbl := fun w h => wsL_law_in w (inlX3 w h)
theorem inlX4 : ∀ w ∈ wsX40, w ∈ wsL_law := fun _ h => List.mem_append_left _ (List.mem_append_left _ (List.mem_append_left _ (List.mem_append_left _ (List.mem_append_left _ (List.mem_append_left _ (List.mem_append_right _ h))))))
theorem inX4 : ∀ w ∈ wsX40, w ∈ lw_tbl := fun w h => wsL_law_in w (inlX4 w h)
theorem inlX5 : ∀ w ∈ wsX50, w ∈ wsL_law := fun _ h => List.mem_append_left _ (List.mem_append_left _ (List.mem_append_left _ (List.mem_append_left _ (List.mem_append_left _ (List.mem_append_left _ (List.mem_append_left _ (List.mem_append_left _ (List.mem_append_left _ (List.mem_append_left _ (List.mem_append_right _ h))))))))))
theorem inX5 : ∀ w ∈ wsX50, w ∈ lw_tbl := fun w h => wsL_law_in w (inlX5 w h)
theorem inlX6 : ∀ w ∈ wsX60, w ∈ wsL_law := fun _ h => List.mem_append_left _ (List.mem_append_left _ (List.mem_append_left _ (List.mem_append_left _ (List.mem_append_left _ (List.mem_append_left _ (List.mem_append_left _ (List.mem_append_left _ (List.mem_append_left _ (List.mem_append_right _ h)))))))))
theorem inX6 : ∀ w ∈ wsX60, w ∈ lw_tbl := fun w h => wsL_law_in w (inlX6 w h)
theorem inJ9 : ∀ w ∈ wsJ90, w ∈ lw_tbl := by decide +kernel
theorem inJ0 : ∀ w ∈ wsJ00, w ∈ lw_tbl := by decide +kernel
theorem dX0_init_0 : decode cX0_init 0 = .ok (.aload_n 0, 1) := by decide +kernel
theorem dX0_init_1 : decode cX0_init 1 = .ok (.invokespecial 3, 3) := by decide +kernel
theorem dX0_init_4 : decode cX0_init 4 = .ok (.aload_n 0, 1) := by decide +kernel
theorem dX0_init_5 : decode cX0_init 5 = .ok (.sipush 512, 3) := by decide +kernel
theorem dX0_init_8 : decode cX0_init 8 = .ok (.newarray .int, 2) := by decide +kernel
theorem dX0_init_10 : decode cX0_init 10 = .ok (.putfield 9, 3) := by decide +kernel
theorem dX0_init_13 : decode cX0_init 13 = .ok (.aload_n 0, 1) := by decide +kernel
theorem dX0_init_14 : decode cX0_init 14 = .ok (.sipush 512, 3) := by decide +kernel
theorem dX0_init_17 : decode cX0_init 17 = .ok (.newarray .int, 2) := by decide +kernel
theorem dX0_init_19 : decode cX0_init 19 = .ok (.putfield 15, 3) := by decide +kernel
theorem dX0_init_22 : decode cX0_init 22 = .ok (.aload_n 0, 1) := by decide +kernel
theorem dX0_init_23 : decode cX0_init 23 = .ok (.sipush 512, 3) := by decide +kernel
theorem dX0_init_26 : decode cX0_init 26 = .ok (.newarray .int, 2) := by decide +kernel
theorem dX0_init_28 : decode cX0_init 28 = .ok (.putfield 18, 3) := by decide +kernel
theorem dX0_init_31 : decode cX0_init 31 = .ok (.aload_n 0, 1) := by decide +kernel
theorem dX0_init_32 : decode cX0_init 32 = .ok (.sipush 512, 3) := by decide +kernel
theorem dX0_init_35 : decode cX0_init 35 = .ok (.newarray .boolean, 2) := by decide +kernel
theorem dX0_init_37 : decode cX0_init 37 = .ok (.putfield 21, 3) := by decide +kernel
theorem dX0_init_40 : decode cX0_init 40 = .ok (.return_, 1) := by decide +kernel
theorem dX0_add_0 : decode cX0_add 0 = .ok (.aload_n 0, 1) := by decide +kernel
theorem dX0_add_1 : decode cX0_add 1 = .ok (.getfield 9, 3) := by decide +kernel
theorem dX0_add_4 : decode cX0_add 4 = .ok (.aload_n 0, 1) := by decide +kernel
theorem dX0_add_5 : decode cX0_add 5 = .ok (.getfield 25, 3) := by decide +kernel
theorem dX0_add_8 : decode cX0_add 8 = .ok (.iload_n 1, 1) := by decide +kernel
theorem dX0_add_9 : decode cX0_add 9 = .ok (.iastore, 1) := by decide +kernel
theorem dX0_add_10 : decode cX0_add 10 = .ok (.aload_n 0, 1) := by decide +kernel
theorem dX0_add_11 : decode cX0_add 11 = .ok (.getfield 15, 3) := by decide +kernel
theorem dX0_add_14 : decode cX0_add 14 = .ok (.aload_n 0, 1) := by decide +kernel
theorem dX0_add_15 : decode cX0_add 15 = .ok (.getfield 25, 3) := by decide +kernel
theorem dX0_add_18 : decode cX0_add 18 = .ok (.iload_n 2, 1) := by decide +kernel
theorem dX0_add_19 : decode cX0_add 19 = .ok (.iastore, 1) := by decide +kernel
theorem dX0_add_20 : decode cX0_add 20 = .ok (.aload_n 0, 1) := by decide +kernel
theorem dX0_add_21 : decode cX0_add 21 = .ok (.getfield 18, 3) := by decide +kernel
theorem dX0_add_24 : decode cX0_add 24 = .ok (.aload_n 0, 1) := by decide +kernel
theorem dX0_add_25 : decode cX0_add 25 = .ok (.getfield 25, 3) := by decide +kernel
theorem dX0_add_28 : decode cX0_add 28 = .ok (.iload_n 3, 1) := by decide +kernel
theorem dX0_add_29 : decode cX0_add 29 = .ok (.iastore, 1) := by decide +kernel
theorem dX0_add_30 : decode cX0_add 30 = .ok (.aload_n 0, 1) := by decide +kernel
theorem dX0_add_31 : decode cX0_add 31 = .ok (.getfield 21, 3) := by decide +kernel
theorem dX0_add_34 : decode cX0_add 34 = .ok (.aload_n 0, 1) := by decide +kernel
theorem dX0_add_35 : decode cX0_add 35 = .ok (.getfield 25, 3) := by decide +kernel
theorem dX0_add_38 : decode cX0_add 38 = .ok (.iconst 0, 1) := by decide +kernel
theorem dX0_add_39 : decode cX0_add 39 = .ok (.bastore, 1) := by decide +kernel
theorem dX0_add_40 : decode cX0_add 40 = .ok (.aload_n 0, 1) := by decide +kernel
theorem dX0_add_41 : decode cX0_add 41 = .ok (.dup, 1) := by decide +kernel
theorem dX0_add_42 : decode cX0_add 42 = .ok (.getfield 25, 3) := by decide +kernel
theorem dX0_add_45 : decode cX0_add 45 = .ok (.iconst 1, 1) := by decide +kernel
theorem dX0_add_46 : decode cX0_add 46 = .ok (.iadd, 1) := by decide +kernel
theorem dX0_add_47 : decode cX0_add 47 = .ok (.putfield 25, 3) := by decide +kernel
theorem dX0_add_50 : decode cX0_add 50 = .ok (.aload_n 0, 1) := by decide +kernel
theorem dX0_add_51 : decode cX0_add 51 = .ok (.getfield 25, 3) := by decide +kernel
theorem dX0_add_54 : decode cX0_add 54 = .ok (.iconst 1, 1) := by decide +kernel
theorem dX0_add_55 : decode cX0_add 55 = .ok (.isub, 1) := by decide +kernel
theorem dX0_add_56 : decode cX0_add 56 = .ok (.ireturn, 1) := by decide +kernel
theorem dX1_init_0 : decode cX1_init 0 = .ok (.aload_n 0, 1) := by decide +kernel
theorem dX1_init_1 : decode cX1_init 1 = .ok (.invokespecial 3, 3) := by decide +kernel
theorem dX1_init_4 : decode cX1_init 4 = .ok (.aload_n 0, 1) := by decide +kernel
theorem dX1_init_5 : decode cX1_init 5 = .ok (.sipush 144, 3) := by decide +kernel
theorem dX1_init_8 : decode cX1_init 8 = .ok (.newarray .boolean, 2) := by decide +kernel
theorem dX1_init_10 : decode cX1_init 10 = .ok (.putfield 9, 3) := by decide +kernel
theorem dX1_init_13 : decode cX1_init 13 = .ok (.return_, 1) := by decide +kernel
theorem dX1_distance_0 : decode cX1_distance 0 = .ok (.iload_n 0, 1) := by decide +kernel
theorem dX1_distance_1 : decode cX1_distance 1 = .ok (.bipush 12, 2) := by decide +kernel
theorem dX1_distance_3 : decode cX1_distance 3 = .ok (.idiv, 1) := by decide +kernel
theorem dX1_distance_4 : decode cX1_distance 4 = .ok (.iload_n 1, 1) := by decide +kernel
theorem dX1_distance_5 : decode cX1_distance 5 = .ok (.bipush 12, 2) := by decide +kernel
theorem dX1_distance_7 : decode cX1_distance 7 = .ok (.idiv, 1) := by decide +kernel
theorem dX1_distance_8 : decode cX1_distance 8 = .ok (.isub, 1) := by decide +kernel
theorem dX1_distance_9 : decode cX1_distance 9 = .ok (.invokestatic 15, 3) := by decide +kernel
theorem dX1_distance_12 : decode cX1_distance 12 = .ok (.istore_n 2, 1) := by decide +kernel
theorem dX1_distance_13 : decode cX1_distance 13 = .ok (.iload_n 0, 1) := by decide +kernel
theorem dX1_distance_14 : decode cX1_distance 14 = .ok (.bipush 12, 2) := by decide +kernel
theorem dX1_distance_16 : decode cX1_distance 16 = .ok (.irem, 1) := by decide +kernel
theorem dX1_distance_17 : decode cX1_distance 17 = .ok (.iload_n 1, 1) := by decide +kernel
theorem dX1_distance_18 : decode cX1_distance 18 = .ok (.bipush 12, 2) := by decide +kernel
theorem dX1_distance_20 : decode cX1_distance 20 = .ok (.irem, 1) := by decide +kernel
theorem dX1_distance_21 : decode cX1_distance 21 = .ok (.isub, 1) := by decide +kernel
theorem dX1_distance_22 : decode cX1_distance 22 = .ok (.invokestatic 15, 3) := by decide +kernel
theorem dX1_distance_25 : decode cX1_distance 25 = .ok (.istore_n 3, 1) := by decide +kernel
theorem dX1_distance_26 : decode cX1_distance 26 = .ok (.iload_n 2, 1) := by decide +kernel
theorem dX1_distance_27 : decode cX1_distance 27 = .ok (.iload_n 3, 1) := by decide +kernel
theorem dX1_distance_28 : decode cX1_distance 28 = .ok (.invokestatic 21, 3) := by decide +kernel
theorem dX1_distance_31 : decode cX1_distance 31 = .ok (.ireturn, 1) := by decide +kernel
theorem dX1_hasBunker_0 : decode cX1_hasBunker 0 = .ok (.aload_n 0, 1) := by decide +kernel
theorem dX1_hasBunker_1 : decode cX1_hasBunker 1 = .ok (.getfield 9, 3) := by decide +kernel
theorem dX1_hasBunker_4 : decode cX1_hasBunker 4 = .ok (.iload_n 1, 1) := by decide +kernel
theorem dX1_hasBunker_5 : decode cX1_hasBunker 5 = .ok (.baload, 1) := by decide +kernel
theorem dX1_hasBunker_6 : decode cX1_hasBunker 6 = .ok (.ireturn, 1) := by decide +kernel
theorem dX1_turnBunker_0 : decode cX1_turnBunker 0 = .ok (.aload_n 0, 1) := by decide +kernel
theorem dX1_turnBunker_1 : decode cX1_turnBunker 1 = .ok (.getfield 9, 3) := by decide +kernel
theorem dX1_turnBunker_4 : decode cX1_turnBunker 4 = .ok (.iload_n 1, 1) := by decide +kernel
theorem dX1_turnBunker_5 : decode cX1_turnBunker 5 = .ok (.aload_n 0, 1) := by decide +kernel
theorem dX1_turnBunker_6 : decode cX1_turnBunker 6 = .ok (.getfield 9, 3) := by decide +kernel
theorem dX1_turnBunker_9 : decode cX1_turnBunker 9 = .ok (.iload_n 1, 1) := by decide +kernel
theorem dX1_turnBunker_10 : decode cX1_turnBunker 10 = .ok (.baload, 1) := by decide +kernel
theorem dX1_turnBunker_11 : decode cX1_turnBunker 11 = .ok (.ifCond .ne 7, 3) := by decide +kernel
theorem dX1_turnBunker_14 : decode cX1_turnBunker 14 = .ok (.iconst 1, 1) := by decide +kernel
theorem dX1_turnBunker_15 : decode cX1_turnBunker 15 = .ok (.goto 4, 3) := by decide +kernel
theorem dX1_turnBunker_18 : decode cX1_turnBunker 18 = .ok (.iconst 0, 1) := by decide +kernel
theorem dX1_turnBunker_19 : decode cX1_turnBunker 19 = .ok (.bastore, 1) := by decide +kernel
theorem dX1_turnBunker_20 : decode cX1_turnBunker 20 = .ok (.aload_n 0, 1) := by decide +kernel
theorem dX1_turnBunker_21 : decode cX1_turnBunker 21 = .ok (.getfield 9, 3) := by decide +kernel
theorem dX1_turnBunker_24 : decode cX1_turnBunker 24 = .ok (.iload_n 1, 1) := by decide +kernel
theorem dX1_turnBunker_25 : decode cX1_turnBunker 25 = .ok (.baload, 1) := by decide +kernel
theorem dX1_turnBunker_26 : decode cX1_turnBunker 26 = .ok (.ireturn, 1) := by decide +kernel
set_option maxRecDepth 20000 in
theorem ggX1_countSeen_X1_hasSight : GoodIn wsX1_countSeen wsX1_hasSight := goodIn_r _ [5, 6, 7, 8, 9, 10, 11, 12, 13, 14, 15, 4, 16, 17, 18, 19, 20] (by decide +kernel) (by decide +kernel)
set_option maxRecDepth 20000 in
theorem gX1_countSeen_X1_hasSight : GoodIn wsX1_countSeen (wsV RX1 25 RX1 yX1_hasSight wsX1_hasSight) := goodIn_app (goodIn_of _ (by decide +kernel)) ggX1_countSeen_X1_hasSight
theorem dX1_countSeen_0 : decode cX1_countSeen 0 = .ok (.iconst 0, 1) := by decide +kernel
theorem dX1_countSeen_1 : decode cX1_countSeen 1 = .ok (.istore_n 2, 1) := by decide +kernel
theorem dX1_countSeen_2 : decode cX1_countSeen 2 = .ok (.iconst 0, 1) := by decide +kernel
theorem dX1_countSeen_3 : decode cX1_countSeen 3 = .ok (.istore_n 3, 1) := by decide +kernel
theorem dX1_countSeen_4 : decode cX1_countSeen 4 = .ok (.iload_n 3, 1) := by decide +kernel
theorem dX1_countSeen_5 : decode cX1_countSeen 5 = .ok (.sipush 144, 3) := by decide +kernel
theorem dX1_countSeen_8 : decode cX1_countSeen 8 = .ok (.if_icmp .ge 21, 3) := by decide +kernel
theorem dX1_countSeen_11 : decode cX1_countSeen 11 = .ok (.aload_n 0, 1) := by decide +kernel
theorem dX1_countSeen_12 : decode cX1_countSeen 12 = .ok (.iload_n 1, 1) := by decide +kernel
theorem dX1_countSeen_13 : decode cX1_countSeen 13 = .ok (.iload_n 3, 1) := by decide +kernel
theorem dX1_countSeen_14 : decode cX1_countSeen 14 = .ok (.invokevirtual 25, 3) := by decide +kernel
theorem dX1_countSeen_17 : decode cX1_countSeen 17 = .ok (.ifCond .eq 6, 3) := by decide +kernel
theorem dX1_countSeen_20 : decode cX1_countSeen 20 = .ok (.iinc 2 1, 3) := by decide +kernel
theorem dX1_countSeen_23 : decode cX1_countSeen 23 = .ok (.iinc 3 1, 3) := by decide +kernel
theorem dX1_countSeen_26 : decode cX1_countSeen 26 = .ok (.goto (-22), 3) := by decide +kernel
theorem dX1_countSeen_29 : decode cX1_countSeen 29 = .ok (.iload_n 2, 1) := by decide +kernel
theorem dX1_countSeen_30 : decode cX1_countSeen 30 = .ok (.ireturn, 1) := by decide +kernel
set_option maxRecDepth 20000 in
theorem ggX1_hasSight_X1_lineEnters : GoodIn wsX1_hasSight wsX1_lineEnters := goodIn_r _ [12, 13, 14, 4, 15] (by decide +kernel) (by decide +kernel)
set_option maxRecDepth 20000 in
theorem gX1_hasSight_X1_lineEnters : GoodIn wsX1_hasSight (va_wsS RX1 32 yX1_lineEnters wsX1_lineEnters) := goodIn_app (goodIn_of _ (by decide +kernel)) ggX1_hasSight_X1_lineEnters
theorem dX1_hasSight_0 : decode cX1_hasSight 0 = .ok (.iload_n 1, 1) := by decide +kernel
theorem dX1_hasSight_1 : decode cX1_hasSight 1 = .ok (.iload_n 2, 1) := by decide +kernel
theorem dX1_hasSight_2 : decode cX1_hasSight 2 = .ok (.if_icmp .ne 18, 3) := by decide +kernel
theorem dX1_hasSight_5 : decode cX1_hasSight 5 = .ok (.aload_n 0, 1) := by decide +kernel
theorem dX1_hasSight_6 : decode cX1_hasSight 6 = .ok (.getfield 9, 3) := by decide +kernel
theorem dX1_hasSight_9 : decode cX1_hasSight 9 = .ok (.iload_n 1, 1) := by decide +kernel
theorem dX1_hasSight_10 : decode cX1_hasSight 10 = .ok (.baload, 1) := by decide +kernel
theorem dX1_hasSight_11 : decode cX1_hasSight 11 = .ok (.ifCond .ne 7, 3) := by decide +kernel
theorem dX1_hasSight_14 : decode cX1_hasSight 14 = .ok (.iconst 1, 1) := by decide +kernel
theorem dX1_hasSight_15 : decode cX1_hasSight 15 = .ok (.goto 4, 3) := by decide +kernel
theorem dX1_hasSight_18 : decode cX1_hasSight 18 = .ok (.iconst 0, 1) := by decide +kernel
theorem dX1_hasSight_19 : decode cX1_hasSight 19 = .ok (.ireturn, 1) := by decide +kernel
theorem dX1_hasSight_20 : decode cX1_hasSight 20 = .ok (.iload_n 1, 1) := by decide +kernel
theorem dX1_hasSight_21 : decode cX1_hasSight 21 = .ok (.bipush 12, 2) := by decide +kernel
theorem dX1_hasSight_23 : decode cX1_hasSight 23 = .ok (.idiv, 1) := by decide +kernel
theorem dX1_hasSight_24 : decode cX1_hasSight 24 = .ok (.iload_n 2, 1) := by decide +kernel
theorem dX1_hasSight_25 : decode cX1_hasSight 25 = .ok (.bipush 12, 2) := by decide +kernel
theorem dX1_hasSight_27 : decode cX1_hasSight 27 = .ok (.idiv, 1) := by decide +kernel
theorem dX1_hasSight_28 : decode cX1_hasSight 28 = .ok (.invokestatic 29, 3) := by decide +kernel
theorem dX1_hasSight_31 : decode cX1_hasSight 31 = .ok (.istore_n 3, 1) := by decide +kernel
theorem dX1_hasSight_32 : decode cX1_hasSight 32 = .ok (.iload_n 1, 1) := by decide +kernel
theorem dX1_hasSight_33 : decode cX1_hasSight 33 = .ok (.bipush 12, 2) := by decide +kernel
theorem dX1_hasSight_35 : decode cX1_hasSight 35 = .ok (.idiv, 1) := by decide +kernel
theorem dX1_hasSight_36 : decode cX1_hasSight 36 = .ok (.iload_n 2, 1) := by decide +kernel
theorem dX1_hasSight_37 : decode cX1_hasSight 37 = .ok (.bipush 12, 2) := by decide +kernel
theorem dX1_hasSight_39 : decode cX1_hasSight 39 = .ok (.idiv, 1) := by decide +kernel
theorem dX1_hasSight_40 : decode cX1_hasSight 40 = .ok (.invokestatic 21, 3) := by decide +kernel
theorem dX1_hasSight_43 : decode cX1_hasSight 43 = .ok (.istore 4, 2) := by decide +kernel
theorem dX1_hasSight_45 : decode cX1_hasSight 45 = .ok (.iload_n 1, 1) := by decide +kernel
theorem dX1_hasSight_46 : decode cX1_hasSight 46 = .ok (.bipush 12, 2) := by decide +kernel
theorem dX1_hasSight_48 : decode cX1_hasSight 48 = .ok (.irem, 1) := by decide +kernel
theorem dX1_hasSight_49 : decode cX1_hasSight 49 = .ok (.iload_n 2, 1) := by decide +kernel
theorem dX1_hasSight_50 : decode cX1_hasSight 50 = .ok (.bipush 12, 2) := by decide +kernel
theorem dX1_hasSight_52 : decode cX1_hasSight 52 = .ok (.irem, 1) := by decide +kernel
theorem dX1_hasSight_53 : decode cX1_hasSight 53 = .ok (.invokestatic 29, 3) := by decide +kernel
theorem dX1_hasSight_56 : decode cX1_hasSight 56 = .ok (.istore 5, 2) := by decide +kernel
theorem dX1_hasSight_58 : decode cX1_hasSight 58 = .ok (.iload_n 1, 1) := by decide +kernel
theorem dX1_hasSight_59 : decode cX1_hasSight 59 = .ok (.bipush 12, 2) := by decide +kernel
theorem dX1_hasSight_61 : decode cX1_hasSight 61 = .ok (.irem, 1) := by decide +kernel
theorem dX1_hasSight_62 : decode cX1_hasSight 62 = .ok (.iload_n 2, 1) := by decide +kernel
theorem dX1_hasSight_63 : decode cX1_hasSight 63 = .ok (.bipush 12, 2) := by decide +kernel
theorem dX1_hasSight_65 : decode cX1_hasSight 65 = .ok (.irem, 1) := by decide +kernel
theorem dX1_hasSight_66 : decode cX1_hasSight 66 = .ok (.invokestatic 21, 3) := by decide +kernel
theorem dX1_hasSight_69 : decode cX1_hasSight 69 = .ok (.istore 6, 2) := by decide +kernel
theorem dX1_hasSight_71 : decode cX1_hasSight 71 = .ok (.iload_n 3, 1) := by decide +kernel
theorem dX1_hasSight_72 : decode cX1_hasSight 72 = .ok (.istore 7, 2) := by decide +kernel
theorem dX1_hasSight_74 : decode cX1_hasSight 74 = .ok (.iload 7, 2) := by decide +kernel
theorem dX1_hasSight_76 : decode cX1_hasSight 76 = .ok (.iload 4, 2) := by decide +kernel
theorem dX1_hasSight_78 : decode cX1_hasSight 78 = .ok (.if_icmp .gt 58, 3) := by decide +kernel
theorem dX1_hasSight_81 : decode cX1_hasSight 81 = .ok (.iload 5, 2) := by decide +kernel
theorem dX1_hasSight_83 : decode cX1_hasSight 83 = .ok (.istore 8, 2) := by decide +kernel
theorem dX1_hasSight_85 : decode cX1_hasSight 85 = .ok (.iload 8, 2) := by decide +kernel
theorem dX1_hasSight_87 : decode cX1_hasSight 87 = .ok (.iload 6, 2) := by decide +kernel
theorem dX1_hasSight_89 : decode cX1_hasSight 89 = .ok (.if_icmp .gt 41, 3) := by decide +kernel
theorem dX1_hasSight_92 : decode cX1_hasSight 92 = .ok (.bipush 12, 2) := by decide +kernel
theorem dX1_hasSight_94 : decode cX1_hasSight 94 = .ok (.iload 7, 2) := by decide +kernel
theorem dX1_hasSight_96 : decode cX1_hasSight 96 = .ok (.imul, 1) := by decide +kernel
theorem dX1_hasSight_97 : decode cX1_hasSight 97 = .ok (.iload 8, 2) := by decide +kernel
theorem dX1_hasSight_99 : decode cX1_hasSight 99 = .ok (.iadd, 1) := by decide +kernel
theorem dX1_hasSight_100 : decode cX1_hasSight 100 = .ok (.istore 9, 2) := by decide +kernel
theorem dX1_hasSight_102 : decode cX1_hasSight 102 = .ok (.aload_n 0, 1) := by decide +kernel
theorem dX1_hasSight_103 : decode cX1_hasSight 103 = .ok (.getfield 9, 3) := by decide +kernel
theorem dX1_hasSight_106 : decode cX1_hasSight 106 = .ok (.iload 9, 2) := by decide +kernel
theorem dX1_hasSight_108 : decode cX1_hasSight 108 = .ok (.baload, 1) := by decide +kernel
theorem dX1_hasSight_109 : decode cX1_hasSight 109 = .ok (.ifCond .eq 15, 3) := by decide +kernel
theorem dX1_hasSight_112 : decode cX1_hasSight 112 = .ok (.iload_n 1, 1) := by decide +kernel
theorem dX1_hasSight_113 : decode cX1_hasSight 113 = .ok (.iload_n 2, 1) := by decide +kernel
theorem dX1_hasSight_114 : decode cX1_hasSight 114 = .ok (.iload 9, 2) := by decide +kernel
theorem dX1_hasSight_116 : decode cX1_hasSight 116 = .ok (.invokestatic 32, 3) := by decide +kernel
theorem dX1_hasSight_119 : decode cX1_hasSight 119 = .ok (.ifCond .eq 5, 3) := by decide +kernel
theorem dX1_hasSight_122 : decode cX1_hasSight 122 = .ok (.iconst 0, 1) := by decide +kernel
theorem dX1_hasSight_123 : decode cX1_hasSight 123 = .ok (.ireturn, 1) := by decide +kernel
theorem dX1_hasSight_124 : decode cX1_hasSight 124 = .ok (.iinc 8 1, 3) := by decide +kernel
theorem dX1_hasSight_127 : decode cX1_hasSight 127 = .ok (.goto (-42), 3) := by decide +kernel
theorem dX1_hasSight_130 : decode cX1_hasSight 130 = .ok (.iinc 7 1, 3) := by decide +kernel
theorem dX1_hasSight_133 : decode cX1_hasSight 133 = .ok (.goto (-59), 3) := by decide +kernel
theorem dX1_hasSight_136 : decode cX1_hasSight 136 = .ok (.iconst 1, 1) := by decide +kernel
theorem dX1_hasSight_137 : decode cX1_hasSight 137 = .ok (.ireturn, 1) := by decide +kernel
theorem dX1_lineEnters_0 : decode cX1_lineEnters 0 = .ok (.iload_n 1, 1) := by decide +kernel
theorem dX1_lineEnters_1 : decode cX1_lineEnters 1 = .ok (.bipush 12, 2) := by decide +kernel
theorem dX1_lineEnters_3 : decode cX1_lineEnters 3 = .ok (.idiv, 1) := by decide +kernel
theorem dX1_lineEnters_4 : decode cX1_lineEnters 4 = .ok (.iload_n 0, 1) := by decide +kernel
theorem dX1_lineEnters_5 : decode cX1_lineEnters 5 = .ok (.bipush 12, 2) := by decide +kernel
theorem dX1_lineEnters_7 : decode cX1_lineEnters 7 = .ok (.idiv, 1) := by decide +kernel
theorem dX1_lineEnters_8 : decode cX1_lineEnters 8 = .ok (.isub, 1) := by decide +kernel
theorem dX1_lineEnters_9 : decode cX1_lineEnters 9 = .ok (.istore_n 3, 1) := by decide +kernel
theorem dX1_lineEnters_10 : decode cX1_lineEnters 10 = .ok (.iload_n 1, 1) := by decide +kernel
theorem dX1_lineEnters_11 : decode cX1_lineEnters 11 = .ok (.bipush 12, 2) := by decide +kernel
theorem dX1_lineEnters_13 : decode cX1_lineEnters 13 = .ok (.irem, 1) := by decide +kernel
theorem dX1_lineEnters_14 : decode cX1_lineEnters 14 = .ok (.iload_n 0, 1) := by decide +kernel
theorem dX1_lineEnters_15 : decode cX1_lineEnters 15 = .ok (.bipush 12, 2) := by decide +kernel
theorem dX1_lineEnters_17 : decode cX1_lineEnters 17 = .ok (.irem, 1) := by decide +kernel
theorem dX1_lineEnters_18 : decode cX1_lineEnters 18 = .ok (.isub, 1) := by decide +kernel
theorem dX1_lineEnters_19 : decode cX1_lineEnters 19 = .ok (.istore 4, 2) := by decide +kernel
theorem dX1_lineEnters_21 : decode cX1_lineEnters 21 = .ok (.iload_n 2, 1) := by decide +kernel
theorem dX1_lineEnters_22 : decode cX1_lineEnters 22 = .ok (.bipush 12, 2) := by decide +kernel
theorem dX1_lineEnters_24 : decode cX1_lineEnters 24 = .ok (.idiv, 1) := by decide +kernel
theorem dX1_lineEnters_25 : decode cX1_lineEnters 25 = .ok (.iload_n 0, 1) := by decide +kernel
theorem dX1_lineEnters_26 : decode cX1_lineEnters 26 = .ok (.bipush 12, 2) := by decide +kernel
theorem dX1_lineEnters_28 : decode cX1_lineEnters 28 = .ok (.idiv, 1) := by decide +kernel
theorem dX1_lineEnters_29 : decode cX1_lineEnters 29 = .ok (.isub, 1) := by decide +kernel
theorem dX1_lineEnters_30 : decode cX1_lineEnters 30 = .ok (.istore 5, 2) := by decide +kernel
theorem dX1_lineEnters_32 : decode cX1_lineEnters 32 = .ok (.iload_n 2, 1) := by decide +kernel
theorem dX1_lineEnters_33 : decode cX1_lineEnters 33 = .ok (.bipush 12, 2) := by decide +kernel
theorem dX1_lineEnters_35 : decode cX1_lineEnters 35 = .ok (.irem, 1) := by decide +kernel
theorem dX1_lineEnters_36 : decode cX1_lineEnters 36 = .ok (.iload_n 0, 1) := by decide +kernel
theorem dX1_lineEnters_37 : decode cX1_lineEnters 37 = .ok (.bipush 12, 2) := by decide +kernel
theorem dX1_lineEnters_39 : decode cX1_lineEnters 39 = .ok (.irem, 1) := by decide +kernel
theorem dX1_lineEnters_40 : decode cX1_lineEnters 40 = .ok (.isub, 1) := by decide +kernel
theorem dX1_lineEnters_41 : decode cX1_lineEnters 41 = .ok (.istore 6, 2) := by decide +kernel
theorem dX1_lineEnters_43 : decode cX1_lineEnters 43 = .ok (.iload_n 3, 1) := by decide +kernel
theorem dX1_lineEnters_44 : decode cX1_lineEnters 44 = .ok (.iload 6, 2) := by decide +kernel
theorem dX1_lineEnters_46 : decode cX1_lineEnters 46 = .ok (.imul, 1) := by decide +kernel
theorem dX1_lineEnters_47 : decode cX1_lineEnters 47 = .ok (.iload 4, 2) := by decide +kernel
theorem dX1_lineEnters_49 : decode cX1_lineEnters 49 = .ok (.iload 5, 2) := by decide +kernel
theorem dX1_lineEnters_51 : decode cX1_lineEnters 51 = .ok (.imul, 1) := by decide +kernel
theorem dX1_lineEnters_52 : decode cX1_lineEnters 52 = .ok (.isub, 1) := by decide +kernel
theorem dX1_lineEnters_53 : decode cX1_lineEnters 53 = .ok (.istore 7, 2) := by decide +kernel
theorem dX1_lineEnters_55 : decode cX1_lineEnters 55 = .ok (.iconst 2, 1) := by decide +kernel
theorem dX1_lineEnters_56 : decode cX1_lineEnters 56 = .ok (.iload 7, 2) := by decide +kernel
theorem dX1_lineEnters_58 : decode cX1_lineEnters 58 = .ok (.invokestatic 15, 3) := by decide +kernel
theorem dX1_lineEnters_61 : decode cX1_lineEnters 61 = .ok (.imul, 1) := by decide +kernel
theorem dX1_lineEnters_62 : decode cX1_lineEnters 62 = .ok (.iload_n 3, 1) := by decide +kernel
theorem dX1_lineEnters_63 : decode cX1_lineEnters 63 = .ok (.invokestatic 15, 3) := by decide +kernel
theorem dX1_lineEnters_66 : decode cX1_lineEnters 66 = .ok (.iload 4, 2) := by decide +kernel
theorem dX1_lineEnters_68 : decode cX1_lineEnters 68 = .ok (.invokestatic 15, 3) := by decide +kernel
theorem dX1_lineEnters_71 : decode cX1_lineEnters 71 = .ok (.iadd, 1) := by decide +kernel
theorem dX1_lineEnters_72 : decode cX1_lineEnters 72 = .ok (.if_icmp .ge 7, 3) := by decide +kernel
theorem dX1_lineEnters_75 : decode cX1_lineEnters 75 = .ok (.iconst 1, 1) := by decide +kernel
theorem dX1_lineEnters_76 : decode cX1_lineEnters 76 = .ok (.goto 4, 3) := by decide +kernel
theorem dX1_lineEnters_79 : decode cX1_lineEnters 79 = .ok (.iconst 0, 1) := by decide +kernel
theorem dX1_lineEnters_80 : decode cX1_lineEnters 80 = .ok (.ireturn, 1) := by decide +kernel
set_option maxRecDepth 20000 in
theorem ggX2_init_X3_init : GoodIn wsX2_init wsX3_init := goodIn_r _ [18, 19, 2, 3, 5, 20, 21, 22, 23, 47, 48, 49, 50, 51] (by decide +kernel) (by decide +kernel)
set_option maxRecDepth 20000 in
theorem gX2_init_X3_init_n27 : GoodIn wsX2_init (wsX3_init) := ggX2_init_X3_init
set_option maxRecDepth 20000 in
theorem ggX2_init_X0_init : GoodIn wsX2_init wsX0_init := goodIn_r _ [25, 26, 2, 3, 5, 27, 28, 29, 30, 31, 52, 53, 54, 55, 56] (by decide +kernel) (by decide +kernel)
set_option maxRecDepth 20000 in
theorem gX2_init_X0_init_n34 : GoodIn wsX2_init (wsX0_init) := ggX2_init_X0_init
set_option maxRecDepth 20000 in
theorem ggX2_init_X2_reset : GoodIn wsX2_init wsX2_reset := goodIn_r _ [36, 6, 7, 8, 12, 37, 16, 38, 39, 40, 41, 42, 43, 44, 45, 46, 47, 48, 49, 50, 51, 52, 53, 54, 55, 56] (by decide +kernel) (by decide +kernel)
set_option maxRecDepth 20000 in
theorem gX2_init_X2_reset : GoodIn wsX2_init (wsV RX2 39 RX2 yX2_reset wsX2_reset) := goodIn_app (goodIn_of _ (by decide +kernel)) ggX2_init_X2_reset
theorem dX2_init_0 : decode cX2_init 0 = .ok (.aload_n 0, 1) := by decide +kernel
theorem dX2_init_1 : decode cX2_init 1 = .ok (.invokespecial 3, 3) := by decide +kernel
theorem dX2_init_4 : decode cX2_init 4 = .ok (.aload_n 0, 1) := by decide +kernel
theorem dX2_init_5 : decode cX2_init 5 = .ok (.iconst (-1), 1) := by decide +kernel
theorem dX2_init_6 : decode cX2_init 6 = .ok (.putfield 9, 3) := by decide +kernel
theorem dX2_init_9 : decode cX2_init 9 = .ok (.aload_n 0, 1) := by decide +kernel
theorem dX2_init_10 : decode cX2_init 10 = .ok (.bipush 6, 2) := by decide +kernel
theorem dX2_init_12 : decode cX2_init 12 = .ok (.newarray .int, 2) := by decide +kernel
theorem dX2_init_14 : decode cX2_init 14 = .ok (.putfield 15, 3) := by decide +kernel
theorem dX2_init_17 : decode cX2_init 17 = .ok (.aload_n 0, 1) := by decide +kernel
theorem dX2_init_18 : decode cX2_init 18 = .ok (.bipush 6, 2) := by decide +kernel
theorem dX2_init_20 : decode cX2_init 20 = .ok (.newarray .int, 2) := by decide +kernel
theorem dX2_init_22 : decode cX2_init 22 = .ok (.putfield 19, 3) := by decide +kernel
theorem dX2_init_25 : decode cX2_init 25 = .ok (.aload_n 0, 1) := by decide +kernel
theorem dX2_init_26 : decode cX2_init 26 = .ok (.bipush 6, 2) := by decide +kernel
theorem dX2_init_28 : decode cX2_init 28 = .ok (.newarray .int, 2) := by decide +kernel
theorem dX2_init_30 : decode cX2_init 30 = .ok (.putfield 22, 3) := by decide +kernel
theorem dX2_init_33 : decode cX2_init 33 = .ok (.aload_n 0, 1) := by decide +kernel
theorem dX2_init_34 : decode cX2_init 34 = .ok (.new 25, 3) := by decide +kernel
theorem dX2_init_37 : decode cX2_init 37 = .ok (.dup, 1) := by decide +kernel
theorem dX2_init_38 : decode cX2_init 38 = .ok (.invokespecial 27, 3) := by decide +kernel
theorem dX2_init_41 : decode cX2_init 41 = .ok (.putfield 28, 3) := by decide +kernel
theorem dX2_init_44 : decode cX2_init 44 = .ok (.aload_n 0, 1) := by decide +kernel
theorem dX2_init_45 : decode cX2_init 45 = .ok (.new 32, 3) := by decide +kernel
theorem dX2_init_48 : decode cX2_init 48 = .ok (.dup, 1) := by decide +kernel
theorem dX2_init_49 : decode cX2_init 49 = .ok (.invokespecial 34, 3) := by decide +kernel
theorem dX2_init_52 : decode cX2_init 52 = .ok (.putfield 35, 3) := by decide +kernel
theorem dX2_init_55 : decode cX2_init 55 = .ok (.aload_n 0, 1) := by decide +kernel
theorem dX2_init_56 : decode cX2_init 56 = .ok (.bipush (-2), 2) := by decide +kernel
theorem dX2_init_58 : decode cX2_init 58 = .ok (.invokevirtual 39, 3) := by decide +kernel
theorem dX2_init_61 : decode cX2_init 61 = .ok (.return_, 1) := by decide +kernel
set_option maxRecDepth 20000 in
theorem ggX2_start_X2_reset : GoodIn wsX2_start wsX2_reset := goodIn_r _ [8, 9, 10, 11, 12, 13, 14, 15, 16, 17, 18, 19, 20, 21, 22, 23, 24, 25, 26, 27, 28, 29, 30, 31, 32, 33] (by decide +kernel) (by decide +kernel)
set_option maxRecDepth 20000 in
theorem gX2_start_X2_reset : GoodIn wsX2_start (wsV RX2 39 RX2 yX2_reset wsX2_reset) := goodIn_app (goodIn_of _ (by decide +kernel)) ggX2_start_X2_reset
theorem dX2_start_0 : decode cX2_start 0 = .ok (.aload_n 0, 1) := by decide +kernel
theorem dX2_start_1 : decode cX2_start 1 = .ok (.iload_n 1, 1) := by decide +kernel
theorem dX2_start_2 : decode cX2_start 2 = .ok (.putfield 43, 3) := by decide +kernel
theorem dX2_start_5 : decode cX2_start 5 = .ok (.aload_n 0, 1) := by decide +kernel
theorem dX2_start_6 : decode cX2_start 6 = .ok (.iload_n 2, 1) := by decide +kernel
theorem dX2_start_7 : decode cX2_start 7 = .ok (.putfield 46, 3) := by decide +kernel
theorem dX2_start_10 : decode cX2_start 10 = .ok (.aload_n 0, 1) := by decide +kernel
theorem dX2_start_11 : decode cX2_start 11 = .ok (.iconst 0, 1) := by decide +kernel
theorem dX2_start_12 : decode cX2_start 12 = .ok (.putfield 9, 3) := by decide +kernel
theorem dX2_start_15 : decode cX2_start 15 = .ok (.aload_n 0, 1) := by decide +kernel
theorem dX2_start_16 : decode cX2_start 16 = .ok (.iconst (-1), 1) := by decide +kernel
theorem dX2_start_17 : decode cX2_start 17 = .ok (.invokevirtual 39, 3) := by decide +kernel
theorem dX2_start_20 : decode cX2_start 20 = .ok (.return_, 1) := by decide +kernel
set_option maxRecDepth 20000 in
theorem ggX2_close_X2_reset : GoodIn wsX2_close wsX2_reset := goodIn_r _ [6, 7, 8, 9, 10, 11, 12, 13, 14, 15, 16, 17, 18, 19, 20, 21, 22, 23, 24, 25, 26, 27, 28, 29, 30, 31] (by decide +kernel) (by decide +kernel)
set_option maxRecDepth 20000 in
theorem gX2_close_X2_reset : GoodIn wsX2_close (wsV RX2 39 RX2 yX2_reset wsX2_reset) := goodIn_app (goodIn_of _ (by decide +kernel)) ggX2_close_X2_reset
theorem dX2_close_0 : decode cX2_close 0 = .ok (.aload_n 0, 1) := by decide +kernel
theorem dX2_close_1 : decode cX2_close 1 = .ok (.iconst (-1), 1) := by decide +kernel
theorem dX2_close_2 : decode cX2_close 2 = .ok (.putfield 9, 3) := by decide +kernel
theorem dX2_close_5 : decode cX2_close 5 = .ok (.aload_n 0, 1) := by decide +kernel
theorem dX2_close_6 : decode cX2_close 6 = .ok (.bipush (-2), 2) := by decide +kernel
theorem dX2_close_8 : decode cX2_close 8 = .ok (.invokevirtual 39, 3) := by decide +kernel
theorem dX2_close_11 : decode cX2_close 11 = .ok (.return_, 1) := by decide +kernel
theorem dX2_reset_0 : decode cX2_reset 0 = .ok (.iconst 0, 1) := by decide +kernel
theorem dX2_reset_1 : decode cX2_reset 1 = .ok (.istore_n 2, 1) := by decide +kernel
theorem dX2_reset_2 : decode cX2_reset 2 = .ok (.iload_n 2, 1) := by decide +kernel
theorem dX2_reset_3 : decode cX2_reset 3 = .ok (.bipush 6, 2) := by decide +kernel
theorem dX2_reset_5 : decode cX2_reset 5 = .ok (.if_icmp .ge 30, 3) := by decide +kernel
theorem dX2_reset_8 : decode cX2_reset 8 = .ok (.aload_n 0, 1) := by decide +kernel
theorem dX2_reset_9 : decode cX2_reset 9 = .ok (.getfield 15, 3) := by decide +kernel
theorem dX2_reset_12 : decode cX2_reset 12 = .ok (.iload_n 2, 1) := by decide +kernel
theorem dX2_reset_13 : decode cX2_reset 13 = .ok (.iload_n 1, 1) := by decide +kernel
theorem dX2_reset_14 : decode cX2_reset 14 = .ok (.iastore, 1) := by decide +kernel
theorem dX2_reset_15 : decode cX2_reset 15 = .ok (.aload_n 0, 1) := by decide +kernel
theorem dX2_reset_16 : decode cX2_reset 16 = .ok (.getfield 19, 3) := by decide +kernel
theorem dX2_reset_19 : decode cX2_reset 19 = .ok (.iload_n 2, 1) := by decide +kernel
theorem dX2_reset_20 : decode cX2_reset 20 = .ok (.iconst (-1), 1) := by decide +kernel
theorem dX2_reset_21 : decode cX2_reset 21 = .ok (.iastore, 1) := by decide +kernel
theorem dX2_reset_22 : decode cX2_reset 22 = .ok (.aload_n 0, 1) := by decide +kernel
theorem dX2_reset_23 : decode cX2_reset 23 = .ok (.getfield 22, 3) := by decide +kernel
theorem dX2_reset_26 : decode cX2_reset 26 = .ok (.iload_n 2, 1) := by decide +kernel
theorem dX2_reset_27 : decode cX2_reset 27 = .ok (.iconst (-1), 1) := by decide +kernel
theorem dX2_reset_28 : decode cX2_reset 28 = .ok (.iastore, 1) := by decide +kernel
theorem dX2_reset_29 : decode cX2_reset 29 = .ok (.iinc 2 1, 3) := by decide +kernel
theorem dX2_reset_32 : decode cX2_reset 32 = .ok (.goto (-30), 3) := by decide +kernel
theorem dX2_reset_35 : decode cX2_reset 35 = .ok (.aload_n 0, 1) := by decide +kernel
theorem dX2_reset_36 : decode cX2_reset 36 = .ok (.getfield 28, 3) := by decide +kernel
theorem dX2_reset_39 : decode cX2_reset 39 = .ok (.iconst 0, 1) := by decide +kernel
theorem dX2_reset_40 : decode cX2_reset 40 = .ok (.putfield 49, 3) := by decide +kernel
theorem dX2_reset_43 : decode cX2_reset 43 = .ok (.aload_n 0, 1) := by decide +kernel
theorem dX2_reset_44 : decode cX2_reset 44 = .ok (.getfield 35, 3) := by decide +kernel
theorem dX2_reset_47 : decode cX2_reset 47 = .ok (.iconst 0, 1) := by decide +kernel
theorem dX2_reset_48 : decode cX2_reset 48 = .ok (.putfield 52, 3) := by decide +kernel
theorem dX2_reset_51 : decode cX2_reset 51 = .ok (.return_, 1) := by decide +kernel
theorem dX2_isPlayed_0 : decode cX2_isPlayed 0 = .ok (.aload_n 0, 1) := by decide +kernel
theorem dX2_isPlayed_1 : decode cX2_isPlayed 1 = .ok (.getfield 9, 3) := by decide +kernel
theorem dX2_isPlayed_4 : decode cX2_isPlayed 4 = .ok (.iconst (-1), 1) := by decide +kernel
theorem dX2_isPlayed_5 : decode cX2_isPlayed 5 = .ok (.if_icmp .eq 7, 3) := by decide +kernel
theorem dX2_isPlayed_8 : decode cX2_isPlayed 8 = .ok (.iconst 1, 1) := by decide +kernel
theorem dX2_isPlayed_9 : decode cX2_isPlayed 9 = .ok (.goto 4, 3) := by decide +kernel
theorem dX2_isPlayed_12 : decode cX2_isPlayed 12 = .ok (.iconst 0, 1) := by decide +kernel
theorem dX2_isPlayed_13 : decode cX2_isPlayed 13 = .ok (.ireturn, 1) := by decide +kernel
theorem dX2_time_0 : decode cX2_time 0 = .ok (.aload_n 0, 1) := by decide +kernel
theorem dX2_time_1 : decode cX2_time 1 = .ok (.getfield 9, 3) := by decide +kernel
theorem dX2_time_4 : decode cX2_time 4 = .ok (.ireturn, 1) := by decide +kernel
theorem dX2_homeTeam_0 : decode cX2_homeTeam 0 = .ok (.aload_n 0, 1) := by decide +kernel
theorem dX2_homeTeam_1 : decode cX2_homeTeam 1 = .ok (.getfield 43, 3) := by decide +kernel
theorem dX2_homeTeam_4 : decode cX2_homeTeam 4 = .ok (.ireturn, 1) := by decide +kernel
theorem dX2_awayTeam_0 : decode cX2_awayTeam 0 = .ok (.aload_n 0, 1) := by decide +kernel
theorem dX2_awayTeam_1 : decode cX2_awayTeam 1 = .ok (.getfield 46, 3) := by decide +kernel
theorem dX2_awayTeam_4 : decode cX2_awayTeam 4 = .ok (.ireturn, 1) := by decide +kernel
theorem dX2_cellOf_0 : decode cX2_cellOf 0 = .ok (.aload_n 0, 1) := by decide +kernel
theorem dX2_cellOf_1 : decode cX2_cellOf 1 = .ok (.getfield 15, 3) := by decide +kernel
theorem dX2_cellOf_4 : decode cX2_cellOf 4 = .ok (.iload_n 1, 1) := by decide +kernel
theorem dX2_cellOf_5 : decode cX2_cellOf 5 = .ok (.iaload, 1) := by decide +kernel
theorem dX2_cellOf_6 : decode cX2_cellOf 6 = .ok (.ireturn, 1) := by decide +kernel
theorem dX2_hitOf_0 : decode cX2_hitOf 0 = .ok (.aload_n 0, 1) := by decide +kernel
theorem dX2_hitOf_1 : decode cX2_hitOf 1 = .ok (.getfield 19, 3) := by decide +kernel
theorem dX2_hitOf_4 : decode cX2_hitOf 4 = .ok (.iload_n 1, 1) := by decide +kernel
theorem dX2_hitOf_5 : decode cX2_hitOf 5 = .ok (.iaload, 1) := by decide +kernel
theorem dX2_hitOf_6 : decode cX2_hitOf 6 = .ok (.ireturn, 1) := by decide +kernel
theorem dX2_playerOn_0 : decode cX2_playerOn 0 = .ok (.iconst 0, 1) := by decide +kernel
theorem dX2_playerOn_1 : decode cX2_playerOn 1 = .ok (.istore_n 2, 1) := by decide +kernel
theorem dX2_playerOn_2 : decode cX2_playerOn 2 = .ok (.iload_n 2, 1) := by decide +kernel
theorem dX2_playerOn_3 : decode cX2_playerOn 3 = .ok (.bipush 6, 2) := by decide +kernel
theorem dX2_playerOn_5 : decode cX2_playerOn 5 = .ok (.if_icmp .ge 21, 3) := by decide +kernel
theorem dX2_playerOn_8 : decode cX2_playerOn 8 = .ok (.aload_n 0, 1) := by decide +kernel
theorem dX2_playerOn_9 : decode cX2_playerOn 9 = .ok (.getfield 15, 3) := by decide +kernel
theorem dX2_playerOn_12 : decode cX2_playerOn 12 = .ok (.iload_n 2, 1) := by decide +kernel
theorem dX2_playerOn_13 : decode cX2_playerOn 13 = .ok (.iaload, 1) := by decide +kernel
theorem dX2_playerOn_14 : decode cX2_playerOn 14 = .ok (.iload_n 1, 1) := by decide +kernel
theorem dX2_playerOn_15 : decode cX2_playerOn 15 = .ok (.if_icmp .ne 5, 3) := by decide +kernel
theorem dX2_playerOn_18 : decode cX2_playerOn 18 = .ok (.iload_n 2, 1) := by decide +kernel
theorem dX2_playerOn_19 : decode cX2_playerOn 19 = .ok (.ireturn, 1) := by decide +kernel
theorem dX2_playerOn_20 : decode cX2_playerOn 20 = .ok (.iinc 2 1, 3) := by decide +kernel
theorem dX2_playerOn_23 : decode cX2_playerOn 23 = .ok (.goto (-21), 3) := by decide +kernel
theorem dX2_playerOn_26 : decode cX2_playerOn 26 = .ok (.iconst (-1), 1) := by decide +kernel
theorem dX2_playerOn_27 : decode cX2_playerOn 27 = .ok (.ireturn, 1) := by decide +kernel
theorem dX2_put_0 : decode cX2_put 0 = .ok (.aload_n 0, 1) := by decide +kernel
theorem dX2_put_1 : decode cX2_put 1 = .ok (.getfield 15, 3) := by decide +kernel
theorem dX2_put_4 : decode cX2_put 4 = .ok (.iload_n 1, 1) := by decide +kernel
theorem dX2_put_5 : decode cX2_put 5 = .ok (.iload_n 2, 1) := by decide +kernel
theorem dX2_put_6 : decode cX2_put 6 = .ok (.iastore, 1) := by decide +kernel
theorem dX2_put_7 : decode cX2_put 7 = .ok (.return_, 1) := by decide +kernel
theorem dX2_mayFire_0 : decode cX2_mayFire 0 = .ok (.aload_n 0, 1) := by decide +kernel
theorem dX2_mayFire_1 : decode cX2_mayFire 1 = .ok (.getfield 22, 3) := by decide +kernel
theorem dX2_mayFire_4 : decode cX2_mayFire 4 = .ok (.iload_n 1, 1) := by decide +kernel
theorem dX2_mayFire_5 : decode cX2_mayFire 5 = .ok (.iaload, 1) := by decide +kernel
theorem dX2_mayFire_6 : decode cX2_mayFire 6 = .ok (.aload_n 0, 1) := by decide +kernel
theorem dX2_mayFire_7 : decode cX2_mayFire 7 = .ok (.getfield 9, 3) := by decide +kernel
theorem dX2_mayFire_10 : decode cX2_mayFire 10 = .ok (.if_icmp .eq 19, 3) := by decide +kernel
theorem dX2_mayFire_13 : decode cX2_mayFire 13 = .ok (.aload_n 0, 1) := by decide +kernel
theorem dX2_mayFire_14 : decode cX2_mayFire 14 = .ok (.getfield 28, 3) := by decide +kernel
theorem dX2_mayFire_17 : decode cX2_mayFire 17 = .ok (.getfield 49, 3) := by decide +kernel
theorem dX2_mayFire_20 : decode cX2_mayFire 20 = .ok (.bipush 100, 2) := by decide +kernel
theorem dX2_mayFire_22 : decode cX2_mayFire 22 = .ok (.if_icmp .ge 7, 3) := by decide +kernel
theorem dX2_mayFire_25 : decode cX2_mayFire 25 = .ok (.iconst 1, 1) := by decide +kernel
theorem dX2_mayFire_26 : decode cX2_mayFire 26 = .ok (.goto 4, 3) := by decide +kernel
theorem dX2_mayFire_29 : decode cX2_mayFire 29 = .ok (.iconst 0, 1) := by decide +kernel
theorem dX2_mayFire_30 : decode cX2_mayFire 30 = .ok (.ireturn, 1) := by decide +kernel
set_option maxRecDepth 20000 in
theorem ggX2_fire_X1_distance : GoodIn wsX2_fire wsX1_distance := goodIn_r _ [8, 9, 10, 11, 12, 13, 14, 15] (by decide +kernel) (by decide +kernel)
set_option maxRecDepth 20000 in
theorem gX2_fire_X1_distance : GoodIn wsX2_fire (va_wsS RX2 53 yX1_distance wsX1_distance) := goodIn_app (goodIn_of _ (by decide +kernel)) ggX2_fire_X1_distance
set_option maxRecDepth 20000 in
theorem ggX2_fire_X3_add : GoodIn wsX2_fire wsX3_add := goodIn_r _ [20, 21, 22, 23, 24, 25, 34, 35, 36, 37, 38] (by decide +kernel) (by decide +kernel)
set_option maxRecDepth 20000 in
theorem gX2_fire_X3_add : GoodIn wsX2_fire (wsV RX2 59 RX3 yX3_add wsX3_add) := goodIn_app (goodIn_of _ (by decide +kernel)) ggX2_fire_X3_add
theorem dX2_fire_0 : decode cX2_fire 0 = .ok (.aload_n 0, 1) := by decide +kernel
theorem dX2_fire_1 : decode cX2_fire 1 = .ok (.getfield 15, 3) := by decide +kernel
theorem dX2_fire_4 : decode cX2_fire 4 = .ok (.iload_n 1, 1) := by decide +kernel
theorem dX2_fire_5 : decode cX2_fire 5 = .ok (.iaload, 1) := by decide +kernel
theorem dX2_fire_6 : decode cX2_fire 6 = .ok (.istore_n 3, 1) := by decide +kernel
theorem dX2_fire_7 : decode cX2_fire 7 = .ok (.aload_n 0, 1) := by decide +kernel
theorem dX2_fire_8 : decode cX2_fire 8 = .ok (.getfield 9, 3) := by decide +kernel
theorem dX2_fire_11 : decode cX2_fire 11 = .ok (.iload_n 3, 1) := by decide +kernel
theorem dX2_fire_12 : decode cX2_fire 12 = .ok (.iload_n 2, 1) := by decide +kernel
theorem dX2_fire_13 : decode cX2_fire 13 = .ok (.invokestatic 53, 3) := by decide +kernel
theorem dX2_fire_16 : decode cX2_fire 16 = .ok (.iconst 3, 1) := by decide +kernel
theorem dX2_fire_17 : decode cX2_fire 17 = .ok (.iadd, 1) := by decide +kernel
theorem dX2_fire_18 : decode cX2_fire 18 = .ok (.iconst 4, 1) := by decide +kernel
theorem dX2_fire_19 : decode cX2_fire 19 = .ok (.idiv, 1) := by decide +kernel
theorem dX2_fire_20 : decode cX2_fire 20 = .ok (.iadd, 1) := by decide +kernel
theorem dX2_fire_21 : decode cX2_fire 21 = .ok (.istore 4, 2) := by decide +kernel
theorem dX2_fire_23 : decode cX2_fire 23 = .ok (.aload_n 0, 1) := by decide +kernel
theorem dX2_fire_24 : decode cX2_fire 24 = .ok (.getfield 22, 3) := by decide +kernel
theorem dX2_fire_27 : decode cX2_fire 27 = .ok (.iload_n 1, 1) := by decide +kernel
theorem dX2_fire_28 : decode cX2_fire 28 = .ok (.aload_n 0, 1) := by decide +kernel
theorem dX2_fire_29 : decode cX2_fire 29 = .ok (.getfield 9, 3) := by decide +kernel
theorem dX2_fire_32 : decode cX2_fire 32 = .ok (.iastore, 1) := by decide +kernel
theorem dX2_fire_33 : decode cX2_fire 33 = .ok (.aload_n 0, 1) := by decide +kernel
theorem dX2_fire_34 : decode cX2_fire 34 = .ok (.getfield 28, 3) := by decide +kernel
theorem dX2_fire_37 : decode cX2_fire 37 = .ok (.iload_n 1, 1) := by decide +kernel
theorem dX2_fire_38 : decode cX2_fire 38 = .ok (.iload_n 3, 1) := by decide +kernel
theorem dX2_fire_39 : decode cX2_fire 39 = .ok (.iload_n 2, 1) := by decide +kernel
theorem dX2_fire_40 : decode cX2_fire 40 = .ok (.iload 4, 2) := by decide +kernel
theorem dX2_fire_42 : decode cX2_fire 42 = .ok (.invokevirtual 59, 3) := by decide +kernel
theorem dX2_fire_45 : decode cX2_fire 45 = .ok (.iload 4, 2) := by decide +kernel
theorem dX2_fire_47 : decode cX2_fire 47 = .ok (.ireturn, 1) := by decide +kernel
theorem dX2_countFlying_0 : decode cX2_countFlying 0 = .ok (.iconst 0, 1) := by decide +kernel
theorem dX2_countFlying_1 : decode cX2_countFlying 1 = .ok (.istore_n 1, 1) := by decide +kernel
theorem dX2_countFlying_2 : decode cX2_countFlying 2 = .ok (.iconst 0, 1) := by decide +kernel
theorem dX2_countFlying_3 : decode cX2_countFlying 3 = .ok (.istore_n 2, 1) := by decide +kernel
theorem dX2_countFlying_4 : decode cX2_countFlying 4 = .ok (.iload_n 2, 1) := by decide +kernel
theorem dX2_countFlying_5 : decode cX2_countFlying 5 = .ok (.aload_n 0, 1) := by decide +kernel
theorem dX2_countFlying_6 : decode cX2_countFlying 6 = .ok (.getfield 28, 3) := by decide +kernel
theorem dX2_countFlying_9 : decode cX2_countFlying 9 = .ok (.getfield 49, 3) := by decide +kernel
theorem dX2_countFlying_12 : decode cX2_countFlying 12 = .ok (.if_icmp .ge 28, 3) := by decide +kernel
theorem dX2_countFlying_15 : decode cX2_countFlying 15 = .ok (.aload_n 0, 1) := by decide +kernel
theorem dX2_countFlying_16 : decode cX2_countFlying 16 = .ok (.getfield 28, 3) := by decide +kernel
theorem dX2_countFlying_19 : decode cX2_countFlying 19 = .ok (.getfield 63, 3) := by decide +kernel
theorem dX2_countFlying_22 : decode cX2_countFlying 22 = .ok (.iload_n 2, 1) := by decide +kernel
theorem dX2_countFlying_23 : decode cX2_countFlying 23 = .ok (.iaload, 1) := by decide +kernel
theorem dX2_countFlying_24 : decode cX2_countFlying 24 = .ok (.aload_n 0, 1) := by decide +kernel
theorem dX2_countFlying_25 : decode cX2_countFlying 25 = .ok (.getfield 9, 3) := by decide +kernel
theorem dX2_countFlying_28 : decode cX2_countFlying 28 = .ok (.if_icmp .le 6, 3) := by decide +kernel
theorem dX2_countFlying_31 : decode cX2_countFlying 31 = .ok (.iinc 1 1, 3) := by decide +kernel
theorem dX2_countFlying_34 : decode cX2_countFlying 34 = .ok (.iinc 2 1, 3) := by decide +kernel
theorem dX2_countFlying_37 : decode cX2_countFlying 37 = .ok (.goto (-33), 3) := by decide +kernel
theorem dX2_countFlying_40 : decode cX2_countFlying 40 = .ok (.iload_n 1, 1) := by decide +kernel
theorem dX2_countFlying_41 : decode cX2_countFlying 41 = .ok (.ireturn, 1) := by decide +kernel
set_option maxRecDepth 20000 in
theorem ggX2_nextTick_X2_strikes : GoodIn wsX2_nextTick wsX2_strikes := goodIn_r _ [9, 2, 10, 11, 12, 13, 1, 14, 15, 16, 8, 17, 18, 19, 20, 21, 22, 23, 24, 25, 26, 27, 28, 29, 30, 31, 32, 33, 34, 35, 36, 37, 38, 39, 40, 41, 42, 43, 44, 45, 46, 47, 48, 49, 50, 51] (by decide +kernel) (by decide +kernel)
set_option maxRecDepth 20000 in
theorem gX2_nextTick_X2_strikes : GoodIn wsX2_nextTick (wsV RX2 66 RX2 yX2_strikes wsX2_strikes) := goodIn_app (goodIn_of _ (by decide +kernel)) ggX2_nextTick_X2_strikes
theorem dX2_nextTick_0 : decode cX2_nextTick 0 = .ok (.aload_n 0, 1) := by decide +kernel
theorem dX2_nextTick_1 : decode cX2_nextTick 1 = .ok (.dup, 1) := by decide +kernel
theorem dX2_nextTick_2 : decode cX2_nextTick 2 = .ok (.getfield 9, 3) := by decide +kernel
theorem dX2_nextTick_5 : decode cX2_nextTick 5 = .ok (.iconst 1, 1) := by decide +kernel
theorem dX2_nextTick_6 : decode cX2_nextTick 6 = .ok (.iadd, 1) := by decide +kernel
theorem dX2_nextTick_7 : decode cX2_nextTick 7 = .ok (.putfield 9, 3) := by decide +kernel
theorem dX2_nextTick_10 : decode cX2_nextTick 10 = .ok (.iconst 0, 1) := by decide +kernel
theorem dX2_nextTick_11 : decode cX2_nextTick 11 = .ok (.istore_n 2, 1) := by decide +kernel
theorem dX2_nextTick_12 : decode cX2_nextTick 12 = .ok (.iconst 0, 1) := by decide +kernel
theorem dX2_nextTick_13 : decode cX2_nextTick 13 = .ok (.istore_n 3, 1) := by decide +kernel
theorem dX2_nextTick_14 : decode cX2_nextTick 14 = .ok (.iload_n 3, 1) := by decide +kernel
theorem dX2_nextTick_15 : decode cX2_nextTick 15 = .ok (.aload_n 0, 1) := by decide +kernel
theorem dX2_nextTick_16 : decode cX2_nextTick 16 = .ok (.getfield 28, 3) := by decide +kernel
theorem dX2_nextTick_19 : decode cX2_nextTick 19 = .ok (.getfield 49, 3) := by decide +kernel
theorem dX2_nextTick_22 : decode cX2_nextTick 22 = .ok (.if_icmp .ge 37, 3) := by decide +kernel
theorem dX2_nextTick_25 : decode cX2_nextTick 25 = .ok (.aload_n 0, 1) := by decide +kernel
theorem dX2_nextTick_26 : decode cX2_nextTick 26 = .ok (.getfield 28, 3) := by decide +kernel
theorem dX2_nextTick_29 : decode cX2_nextTick 29 = .ok (.getfield 63, 3) := by decide +kernel
theorem dX2_nextTick_32 : decode cX2_nextTick 32 = .ok (.iload_n 3, 1) := by decide +kernel
theorem dX2_nextTick_33 : decode cX2_nextTick 33 = .ok (.iaload, 1) := by decide +kernel
theorem dX2_nextTick_34 : decode cX2_nextTick 34 = .ok (.aload_n 0, 1) := by decide +kernel
theorem dX2_nextTick_35 : decode cX2_nextTick 35 = .ok (.getfield 9, 3) := by decide +kernel
theorem dX2_nextTick_38 : decode cX2_nextTick 38 = .ok (.if_icmp .ne 15, 3) := by decide +kernel
theorem dX2_nextTick_41 : decode cX2_nextTick 41 = .ok (.aload_n 0, 1) := by decide +kernel
theorem dX2_nextTick_42 : decode cX2_nextTick 42 = .ok (.iload_n 3, 1) := by decide +kernel
theorem dX2_nextTick_43 : decode cX2_nextTick 43 = .ok (.aload_n 1, 1) := by decide +kernel
theorem dX2_nextTick_44 : decode cX2_nextTick 44 = .ok (.invokevirtual 66, 3) := by decide +kernel
theorem dX2_nextTick_47 : decode cX2_nextTick 47 = .ok (.ifCond .eq 6, 3) := by decide +kernel
theorem dX2_nextTick_50 : decode cX2_nextTick 50 = .ok (.iinc 2 1, 3) := by decide +kernel
theorem dX2_nextTick_53 : decode cX2_nextTick 53 = .ok (.iinc 3 1, 3) := by decide +kernel
theorem dX2_nextTick_56 : decode cX2_nextTick 56 = .ok (.goto (-42), 3) := by decide +kernel
theorem dX2_nextTick_59 : decode cX2_nextTick 59 = .ok (.iload_n 2, 1) := by decide +kernel
theorem dX2_nextTick_60 : decode cX2_nextTick 60 = .ok (.ireturn, 1) := by decide +kernel
set_option maxRecDepth 20000 in
theorem ggX2_strikes_X2_playerOn : GoodIn wsX2_strikes wsX2_playerOn := goodIn_r _ [11, 12, 32, 33, 34, 35, 36, 37, 38, 39] (by decide +kernel) (by decide +kernel)
set_option maxRecDepth 20000 in
theorem gX2_strikes_X2_playerOn : GoodIn wsX2_strikes (wsV RX2 73 RX2 yX2_playerOn wsX2_playerOn) := goodIn_app (goodIn_of _ (by decide +kernel)) ggX2_strikes_X2_playerOn
set_option maxRecDepth 20000 in
theorem ggX2_strikes_X1_hasSight : GoodIn wsX2_strikes wsX1_hasSight := goodIn_r _ [17, 18, 19, 20, 21, 22, 23, 24, 25, 26, 27, 16, 28, 29, 30, 31, 45] (by decide +kernel) (by decide +kernel)
set_option maxRecDepth 20000 in
theorem gX2_strikes_X1_hasSight : GoodIn wsX2_strikes (wsV RX2 83 RX1 yX1_hasSight wsX1_hasSight) := goodIn_app (goodIn_of _ (by decide +kernel)) ggX2_strikes_X1_hasSight
theorem dX2_strikes_0 : decode cX2_strikes 0 = .ok (.aload_n 0, 1) := by decide +kernel
theorem dX2_strikes_1 : decode cX2_strikes 1 = .ok (.getfield 28, 3) := by decide +kernel
theorem dX2_strikes_4 : decode cX2_strikes 4 = .ok (.getfield 70, 3) := by decide +kernel
theorem dX2_strikes_7 : decode cX2_strikes 7 = .ok (.iload_n 1, 1) := by decide +kernel
theorem dX2_strikes_8 : decode cX2_strikes 8 = .ok (.iaload, 1) := by decide +kernel
theorem dX2_strikes_9 : decode cX2_strikes 9 = .ok (.istore_n 3, 1) := by decide +kernel
theorem dX2_strikes_10 : decode cX2_strikes 10 = .ok (.aload_n 0, 1) := by decide +kernel
theorem dX2_strikes_11 : decode cX2_strikes 11 = .ok (.iload_n 3, 1) := by decide +kernel
theorem dX2_strikes_12 : decode cX2_strikes 12 = .ok (.invokevirtual 73, 3) := by decide +kernel
theorem dX2_strikes_15 : decode cX2_strikes 15 = .ok (.istore 4, 2) := by decide +kernel
theorem dX2_strikes_17 : decode cX2_strikes 17 = .ok (.iload 4, 2) := by decide +kernel
theorem dX2_strikes_19 : decode cX2_strikes 19 = .ok (.iconst (-1), 1) := by decide +kernel
theorem dX2_strikes_20 : decode cX2_strikes 20 = .ok (.if_icmp .eq 17, 3) := by decide +kernel
theorem dX2_strikes_23 : decode cX2_strikes 23 = .ok (.iload 4, 2) := by decide +kernel
theorem dX2_strikes_25 : decode cX2_strikes 25 = .ok (.aload_n 0, 1) := by decide +kernel
theorem dX2_strikes_26 : decode cX2_strikes 26 = .ok (.getfield 28, 3) := by decide +kernel
theorem dX2_strikes_29 : decode cX2_strikes 29 = .ok (.getfield 77, 3) := by decide +kernel
theorem dX2_strikes_32 : decode cX2_strikes 32 = .ok (.iload_n 1, 1) := by decide +kernel
theorem dX2_strikes_33 : decode cX2_strikes 33 = .ok (.iaload, 1) := by decide +kernel
theorem dX2_strikes_34 : decode cX2_strikes 34 = .ok (.if_icmp .ne 5, 3) := by decide +kernel
theorem dX2_strikes_37 : decode cX2_strikes 37 = .ok (.iconst 0, 1) := by decide +kernel
theorem dX2_strikes_38 : decode cX2_strikes 38 = .ok (.ireturn, 1) := by decide +kernel
theorem dX2_strikes_39 : decode cX2_strikes 39 = .ok (.aload_n 2, 1) := by decide +kernel
theorem dX2_strikes_40 : decode cX2_strikes 40 = .ok (.aload_n 0, 1) := by decide +kernel
theorem dX2_strikes_41 : decode cX2_strikes 41 = .ok (.getfield 28, 3) := by decide +kernel
theorem dX2_strikes_44 : decode cX2_strikes 44 = .ok (.getfield 80, 3) := by decide +kernel
theorem dX2_strikes_47 : decode cX2_strikes 47 = .ok (.iload_n 1, 1) := by decide +kernel
theorem dX2_strikes_48 : decode cX2_strikes 48 = .ok (.iaload, 1) := by decide +kernel
theorem dX2_strikes_49 : decode cX2_strikes 49 = .ok (.iload_n 3, 1) := by decide +kernel
theorem dX2_strikes_50 : decode cX2_strikes 50 = .ok (.invokevirtual 83, 3) := by decide +kernel
theorem dX2_strikes_53 : decode cX2_strikes 53 = .ok (.ifCond .ne 5, 3) := by decide +kernel
theorem dX2_strikes_56 : decode cX2_strikes 56 = .ok (.iconst 0, 1) := by decide +kernel
theorem dX2_strikes_57 : decode cX2_strikes 57 = .ok (.ireturn, 1) := by decide +kernel
theorem dX2_strikes_58 : decode cX2_strikes 58 = .ok (.aload_n 0, 1) := by decide +kernel
theorem dX2_strikes_59 : decode cX2_strikes 59 = .ok (.getfield 19, 3) := by decide +kernel
theorem dX2_strikes_62 : decode cX2_strikes 62 = .ok (.iload 4, 2) := by decide +kernel
theorem dX2_strikes_64 : decode cX2_strikes 64 = .ok (.iaload, 1) := by decide +kernel
theorem dX2_strikes_65 : decode cX2_strikes 65 = .ok (.iconst (-1), 1) := by decide +kernel
theorem dX2_strikes_66 : decode cX2_strikes 66 = .ok (.if_icmp .ne 14, 3) := by decide +kernel
theorem dX2_strikes_69 : decode cX2_strikes 69 = .ok (.aload_n 0, 1) := by decide +kernel
theorem dX2_strikes_70 : decode cX2_strikes 70 = .ok (.getfield 19, 3) := by decide +kernel
theorem dX2_strikes_73 : decode cX2_strikes 73 = .ok (.iload 4, 2) := by decide +kernel
theorem dX2_strikes_75 : decode cX2_strikes 75 = .ok (.aload_n 0, 1) := by decide +kernel
theorem dX2_strikes_76 : decode cX2_strikes 76 = .ok (.getfield 9, 3) := by decide +kernel
theorem dX2_strikes_79 : decode cX2_strikes 79 = .ok (.iastore, 1) := by decide +kernel
theorem dX2_strikes_80 : decode cX2_strikes 80 = .ok (.iconst 1, 1) := by decide +kernel
theorem dX2_strikes_81 : decode cX2_strikes 81 = .ok (.ireturn, 1) := by decide +kernel
theorem dX2_mayCall_0 : decode cX2_mayCall 0 = .ok (.aload_n 0, 1) := by decide +kernel
theorem dX2_mayCall_1 : decode cX2_mayCall 1 = .ok (.getfield 35, 3) := by decide +kernel
theorem dX2_mayCall_4 : decode cX2_mayCall 4 = .ok (.getfield 52, 3) := by decide +kernel
theorem dX2_mayCall_7 : decode cX2_mayCall 7 = .ok (.sipush 512, 3) := by decide +kernel
theorem dX2_mayCall_10 : decode cX2_mayCall 10 = .ok (.if_icmp .ge 7, 3) := by decide +kernel
theorem dX2_mayCall_13 : decode cX2_mayCall 13 = .ok (.iconst 1, 1) := by decide +kernel
theorem dX2_mayCall_14 : decode cX2_mayCall 14 = .ok (.goto 4, 3) := by decide +kernel
theorem dX2_mayCall_17 : decode cX2_mayCall 17 = .ok (.iconst 0, 1) := by decide +kernel
theorem dX2_mayCall_18 : decode cX2_mayCall 18 = .ok (.ireturn, 1) := by decide +kernel
set_option maxRecDepth 20000 in
theorem ggX2_callOut_X0_add : GoodIn wsX2_callOut wsX0_add := goodIn_r _ [8, 9, 10, 11, 12, 13, 22, 23, 24, 25, 26] (by decide +kernel) (by decide +kernel)
set_option maxRecDepth 20000 in
theorem gX2_callOut_X0_add : GoodIn wsX2_callOut (wsV RX2 87 RX0 yX0_add wsX0_add) := goodIn_app (goodIn_of _ (by decide +kernel)) ggX2_callOut_X0_add
theorem dX2_callOut_0 : decode cX2_callOut 0 = .ok (.aload_n 0, 1) := by decide +kernel
theorem dX2_callOut_1 : decode cX2_callOut 1 = .ok (.getfield 35, 3) := by decide +kernel
theorem dX2_callOut_4 : decode cX2_callOut 4 = .ok (.iload_n 1, 1) := by decide +kernel
theorem dX2_callOut_5 : decode cX2_callOut 5 = .ok (.aload_n 0, 1) := by decide +kernel
theorem dX2_callOut_6 : decode cX2_callOut 6 = .ok (.getfield 15, 3) := by decide +kernel
theorem dX2_callOut_9 : decode cX2_callOut 9 = .ok (.iload_n 1, 1) := by decide +kernel
theorem dX2_callOut_10 : decode cX2_callOut 10 = .ok (.iaload, 1) := by decide +kernel
theorem dX2_callOut_11 : decode cX2_callOut 11 = .ok (.aload_n 0, 1) := by decide +kernel
theorem dX2_callOut_12 : decode cX2_callOut 12 = .ok (.getfield 9, 3) := by decide +kernel
theorem dX2_callOut_15 : decode cX2_callOut 15 = .ok (.invokevirtual 87, 3) := by decide +kernel
theorem dX2_callOut_18 : decode cX2_callOut 18 = .ok (.istore_n 2, 1) := by decide +kernel
theorem dX2_callOut_19 : decode cX2_callOut 19 = .ok (.aload_n 0, 1) := by decide +kernel
theorem dX2_callOut_20 : decode cX2_callOut 20 = .ok (.getfield 15, 3) := by decide +kernel
theorem dX2_callOut_23 : decode cX2_callOut 23 = .ok (.iload_n 1, 1) := by decide +kernel
theorem dX2_callOut_24 : decode cX2_callOut 24 = .ok (.bipush (-2), 2) := by decide +kernel
theorem dX2_callOut_26 : decode cX2_callOut 26 = .ok (.iastore, 1) := by decide +kernel
theorem dX2_callOut_27 : decode cX2_callOut 27 = .ok (.iload_n 2, 1) := by decide +kernel
theorem dX2_callOut_28 : decode cX2_callOut 28 = .ok (.ireturn, 1) := by decide +kernel
theorem dX2_hasCall_0 : decode cX2_hasCall 0 = .ok (.iload_n 1, 1) := by decide +kernel
theorem dX2_hasCall_1 : decode cX2_hasCall 1 = .ok (.ifCond .lt 18, 3) := by decide +kernel
theorem dX2_hasCall_4 : decode cX2_hasCall 4 = .ok (.iload_n 1, 1) := by decide +kernel
theorem dX2_hasCall_5 : decode cX2_hasCall 5 = .ok (.aload_n 0, 1) := by decide +kernel
theorem dX2_hasCall_6 : decode cX2_hasCall 6 = .ok (.getfield 35, 3) := by decide +kernel
theorem dX2_hasCall_9 : decode cX2_hasCall 9 = .ok (.getfield 52, 3) := by decide +kernel
theorem dX2_hasCall_12 : decode cX2_hasCall 12 = .ok (.if_icmp .ge 7, 3) := by decide +kernel
theorem dX2_hasCall_15 : decode cX2_hasCall 15 = .ok (.iconst 1, 1) := by decide +kernel
theorem dX2_hasCall_16 : decode cX2_hasCall 16 = .ok (.goto 4, 3) := by decide +kernel
theorem dX2_hasCall_19 : decode cX2_hasCall 19 = .ok (.iconst 0, 1) := by decide +kernel
theorem dX2_hasCall_20 : decode cX2_hasCall 20 = .ok (.ireturn, 1) := by decide +kernel
theorem dX2_isDisputed_0 : decode cX2_isDisputed 0 = .ok (.aload_n 0, 1) := by decide +kernel
theorem dX2_isDisputed_1 : decode cX2_isDisputed 1 = .ok (.getfield 35, 3) := by decide +kernel
theorem dX2_isDisputed_4 : decode cX2_isDisputed 4 = .ok (.getfield 90, 3) := by decide +kernel
theorem dX2_isDisputed_7 : decode cX2_isDisputed 7 = .ok (.iload_n 1, 1) := by decide +kernel
theorem dX2_isDisputed_8 : decode cX2_isDisputed 8 = .ok (.baload, 1) := by decide +kernel
theorem dX2_isDisputed_9 : decode cX2_isDisputed 9 = .ok (.ireturn, 1) := by decide +kernel
theorem dX2_teamCalled_0 : decode cX2_teamCalled 0 = .ok (.aload_n 0, 1) := by decide +kernel
theorem dX2_teamCalled_1 : decode cX2_teamCalled 1 = .ok (.getfield 35, 3) := by decide +kernel
theorem dX2_teamCalled_4 : decode cX2_teamCalled 4 = .ok (.getfield 94, 3) := by decide +kernel
theorem dX2_teamCalled_7 : decode cX2_teamCalled 7 = .ok (.iload_n 1, 1) := by decide +kernel
theorem dX2_teamCalled_8 : decode cX2_teamCalled 8 = .ok (.iaload, 1) := by decide +kernel
theorem dX2_teamCalled_9 : decode cX2_teamCalled 9 = .ok (.iconst 3, 1) := by decide +kernel
theorem dX2_teamCalled_10 : decode cX2_teamCalled 10 = .ok (.if_icmp .ge 10, 3) := by decide +kernel
theorem dX2_teamCalled_13 : decode cX2_teamCalled 13 = .ok (.aload_n 0, 1) := by decide +kernel
theorem dX2_teamCalled_14 : decode cX2_teamCalled 14 = .ok (.getfield 43, 3) := by decide +kernel
theorem dX2_teamCalled_17 : decode cX2_teamCalled 17 = .ok (.goto 7, 3) := by decide +kernel
theorem dX2_teamCalled_20 : decode cX2_teamCalled 20 = .ok (.aload_n 0, 1) := by decide +kernel
theorem dX2_teamCalled_21 : decode cX2_teamCalled 21 = .ok (.getfield 46, 3) := by decide +kernel
theorem dX2_teamCalled_24 : decode cX2_teamCalled 24 = .ok (.ireturn, 1) := by decide +kernel
set_option maxRecDepth 20000 in
theorem ggX2_judge_X2_playerOn : GoodIn wsX2_judge wsX2_playerOn := goodIn_r _ [12, 7, 13, 14, 15, 16, 17, 18, 19, 20] (by decide +kernel) (by decide +kernel)
set_option maxRecDepth 20000 in
theorem gX2_judge_X2_playerOn : GoodIn wsX2_judge (wsV RX2 73 RX2 yX2_playerOn wsX2_playerOn) := goodIn_app (goodIn_of _ (by decide +kernel)) ggX2_judge_X2_playerOn
theorem dX2_judge_0 : decode cX2_judge 0 = .ok (.aload_n 0, 1) := by decide +kernel
theorem dX2_judge_1 : decode cX2_judge 1 = .ok (.getfield 35, 3) := by decide +kernel
theorem dX2_judge_4 : decode cX2_judge 4 = .ok (.getfield 94, 3) := by decide +kernel
theorem dX2_judge_7 : decode cX2_judge 7 = .ok (.iload_n 1, 1) := by decide +kernel
theorem dX2_judge_8 : decode cX2_judge 8 = .ok (.iaload, 1) := by decide +kernel
theorem dX2_judge_9 : decode cX2_judge 9 = .ok (.istore_n 2, 1) := by decide +kernel
theorem dX2_judge_10 : decode cX2_judge 10 = .ok (.aload_n 0, 1) := by decide +kernel
theorem dX2_judge_11 : decode cX2_judge 11 = .ok (.getfield 35, 3) := by decide +kernel
theorem dX2_judge_14 : decode cX2_judge 14 = .ok (.getfield 90, 3) := by decide +kernel
theorem dX2_judge_17 : decode cX2_judge 17 = .ok (.iload_n 1, 1) := by decide +kernel
theorem dX2_judge_18 : decode cX2_judge 18 = .ok (.iconst 1, 1) := by decide +kernel
theorem dX2_judge_19 : decode cX2_judge 19 = .ok (.bastore, 1) := by decide +kernel
theorem dX2_judge_20 : decode cX2_judge 20 = .ok (.aload_n 0, 1) := by decide +kernel
theorem dX2_judge_21 : decode cX2_judge 21 = .ok (.getfield 19, 3) := by decide +kernel
theorem dX2_judge_24 : decode cX2_judge 24 = .ok (.iload_n 2, 1) := by decide +kernel
theorem dX2_judge_25 : decode cX2_judge 25 = .ok (.iaload, 1) := by decide +kernel
theorem dX2_judge_26 : decode cX2_judge 26 = .ok (.iconst (-1), 1) := by decide +kernel
theorem dX2_judge_27 : decode cX2_judge 27 = .ok (.if_icmp .eq 23, 3) := by decide +kernel
theorem dX2_judge_30 : decode cX2_judge 30 = .ok (.aload_n 0, 1) := by decide +kernel
theorem dX2_judge_31 : decode cX2_judge 31 = .ok (.getfield 19, 3) := by decide +kernel
theorem dX2_judge_34 : decode cX2_judge 34 = .ok (.iload_n 2, 1) := by decide +kernel
theorem dX2_judge_35 : decode cX2_judge 35 = .ok (.iaload, 1) := by decide +kernel
theorem dX2_judge_36 : decode cX2_judge 36 = .ok (.aload_n 0, 1) := by decide +kernel
theorem dX2_judge_37 : decode cX2_judge 37 = .ok (.getfield 35, 3) := by decide +kernel
theorem dX2_judge_40 : decode cX2_judge 40 = .ok (.getfield 97, 3) := by decide +kernel
theorem dX2_judge_43 : decode cX2_judge 43 = .ok (.iload_n 1, 1) := by decide +kernel
theorem dX2_judge_44 : decode cX2_judge 44 = .ok (.iaload, 1) := by decide +kernel
theorem dX2_judge_45 : decode cX2_judge 45 = .ok (.if_icmp .gt 5, 3) := by decide +kernel
theorem dX2_judge_48 : decode cX2_judge 48 = .ok (.iconst 1, 1) := by decide +kernel
theorem dX2_judge_49 : decode cX2_judge 49 = .ok (.ireturn, 1) := by decide +kernel
theorem dX2_judge_50 : decode cX2_judge 50 = .ok (.aload_n 0, 1) := by decide +kernel
theorem dX2_judge_51 : decode cX2_judge 51 = .ok (.getfield 35, 3) := by decide +kernel
theorem dX2_judge_54 : decode cX2_judge 54 = .ok (.getfield 100, 3) := by decide +kernel
theorem dX2_judge_57 : decode cX2_judge 57 = .ok (.iload_n 1, 1) := by decide +kernel
theorem dX2_judge_58 : decode cX2_judge 58 = .ok (.iaload, 1) := by decide +kernel
theorem dX2_judge_59 : decode cX2_judge 59 = .ok (.istore_n 3, 1) := by decide +kernel
theorem dX2_judge_60 : decode cX2_judge 60 = .ok (.aload_n 0, 1) := by decide +kernel
theorem dX2_judge_61 : decode cX2_judge 61 = .ok (.getfield 15, 3) := by decide +kernel
theorem dX2_judge_64 : decode cX2_judge 64 = .ok (.iload_n 2, 1) := by decide +kernel
theorem dX2_judge_65 : decode cX2_judge 65 = .ok (.aload_n 0, 1) := by decide +kernel
theorem dX2_judge_66 : decode cX2_judge 66 = .ok (.iload_n 3, 1) := by decide +kernel
theorem dX2_judge_67 : decode cX2_judge 67 = .ok (.invokevirtual 73, 3) := by decide +kernel
theorem dX2_judge_70 : decode cX2_judge 70 = .ok (.iconst (-1), 1) := by decide +kernel
theorem dX2_judge_71 : decode cX2_judge 71 = .ok (.if_icmp .ne 7, 3) := by decide +kernel
theorem dX2_judge_74 : decode cX2_judge 74 = .ok (.iload_n 3, 1) := by decide +kernel
theorem dX2_judge_75 : decode cX2_judge 75 = .ok (.goto 4, 3) := by decide +kernel
theorem dX2_judge_78 : decode cX2_judge 78 = .ok (.iconst (-1), 1) := by decide +kernel
theorem dX2_judge_79 : decode cX2_judge 79 = .ok (.iastore, 1) := by decide +kernel
theorem dX2_judge_80 : decode cX2_judge 80 = .ok (.iconst 0, 1) := by decide +kernel
theorem dX2_judge_81 : decode cX2_judge 81 = .ok (.ireturn, 1) := by decide +kernel
theorem dX2_margin_0 : decode cX2_margin 0 = .ok (.iconst 0, 1) := by decide +kernel
theorem dX2_margin_1 : decode cX2_margin 1 = .ok (.istore_n 1, 1) := by decide +kernel
theorem dX2_margin_2 : decode cX2_margin 2 = .ok (.iconst 0, 1) := by decide +kernel
theorem dX2_margin_3 : decode cX2_margin 3 = .ok (.istore_n 2, 1) := by decide +kernel
theorem dX2_margin_4 : decode cX2_margin 4 = .ok (.iload_n 2, 1) := by decide +kernel
theorem dX2_margin_5 : decode cX2_margin 5 = .ok (.bipush 6, 2) := by decide +kernel
theorem dX2_margin_7 : decode cX2_margin 7 = .ok (.if_icmp .ge 43, 3) := by decide +kernel
theorem dX2_margin_10 : decode cX2_margin 10 = .ok (.aload_n 0, 1) := by decide +kernel
theorem dX2_margin_11 : decode cX2_margin 11 = .ok (.getfield 15, 3) := by decide +kernel
theorem dX2_margin_14 : decode cX2_margin 14 = .ok (.iload_n 2, 1) := by decide +kernel
theorem dX2_margin_15 : decode cX2_margin 15 = .ok (.iaload, 1) := by decide +kernel
theorem dX2_margin_16 : decode cX2_margin 16 = .ok (.bipush (-2), 2) := by decide +kernel
theorem dX2_margin_18 : decode cX2_margin 18 = .ok (.if_icmp .eq 26, 3) := by decide +kernel
theorem dX2_margin_21 : decode cX2_margin 21 = .ok (.aload_n 0, 1) := by decide +kernel
theorem dX2_margin_22 : decode cX2_margin 22 = .ok (.getfield 19, 3) := by decide +kernel
theorem dX2_margin_25 : decode cX2_margin 25 = .ok (.iload_n 2, 1) := by decide +kernel
theorem dX2_margin_26 : decode cX2_margin 26 = .ok (.iaload, 1) := by decide +kernel
theorem dX2_margin_27 : decode cX2_margin 27 = .ok (.iconst (-1), 1) := by decide +kernel
theorem dX2_margin_28 : decode cX2_margin 28 = .ok (.if_icmp .ne 16, 3) := by decide +kernel
theorem dX2_margin_31 : decode cX2_margin 31 = .ok (.iload_n 1, 1) := by decide +kernel
theorem dX2_margin_32 : decode cX2_margin 32 = .ok (.iload_n 2, 1) := by decide +kernel
theorem dX2_margin_33 : decode cX2_margin 33 = .ok (.iconst 3, 1) := by decide +kernel
theorem dX2_margin_34 : decode cX2_margin 34 = .ok (.if_icmp .ge 7, 3) := by decide +kernel
theorem dX2_margin_37 : decode cX2_margin 37 = .ok (.iconst 1, 1) := by decide +kernel
theorem dX2_margin_38 : decode cX2_margin 38 = .ok (.goto 4, 3) := by decide +kernel
theorem dX2_margin_41 : decode cX2_margin 41 = .ok (.iconst (-1), 1) := by decide +kernel
theorem dX2_margin_42 : decode cX2_margin 42 = .ok (.iadd, 1) := by decide +kernel
theorem dX2_margin_43 : decode cX2_margin 43 = .ok (.istore_n 1, 1) := by decide +kernel
theorem dX2_margin_44 : decode cX2_margin 44 = .ok (.iinc 2 1, 3) := by decide +kernel
theorem dX2_margin_47 : decode cX2_margin 47 = .ok (.goto (-43), 3) := by decide +kernel
theorem dX2_margin_50 : decode cX2_margin 50 = .ok (.iload_n 1, 1) := by decide +kernel
theorem dX2_margin_51 : decode cX2_margin 51 = .ok (.ireturn, 1) := by decide +kernel
theorem dX3_init_0 : decode cX3_init 0 = .ok (.aload_n 0, 1) := by decide +kernel
theorem dX3_init_1 : decode cX3_init 1 = .ok (.invokespecial 3, 3) := by decide +kernel
theorem dX3_init_4 : decode cX3_init 4 = .ok (.aload_n 0, 1) := by decide +kernel
theorem dX3_init_5 : decode cX3_init 5 = .ok (.bipush 100, 2) := by decide +kernel
theorem dX3_init_7 : decode cX3_init 7 = .ok (.newarray .int, 2) := by decide +kernel
theorem dX3_init_9 : decode cX3_init 9 = .ok (.putfield 9, 3) := by decide +kernel
theorem dX3_init_12 : decode cX3_init 12 = .ok (.aload_n 0, 1) := by decide +kernel
theorem dX3_init_13 : decode cX3_init 13 = .ok (.bipush 100, 2) := by decide +kernel
theorem dX3_init_15 : decode cX3_init 15 = .ok (.newarray .int, 2) := by decide +kernel
theorem dX3_init_17 : decode cX3_init 17 = .ok (.putfield 15, 3) := by decide +kernel
theorem dX3_init_20 : decode cX3_init 20 = .ok (.aload_n 0, 1) := by decide +kernel
theorem dX3_init_21 : decode cX3_init 21 = .ok (.bipush 100, 2) := by decide +kernel
theorem dX3_init_23 : decode cX3_init 23 = .ok (.newarray .int, 2) := by decide +kernel
theorem dX3_init_25 : decode cX3_init 25 = .ok (.putfield 18, 3) := by decide +kernel
theorem dX3_init_28 : decode cX3_init 28 = .ok (.aload_n 0, 1) := by decide +kernel
theorem dX3_init_29 : decode cX3_init 29 = .ok (.bipush 100, 2) := by decide +kernel
theorem dX3_init_31 : decode cX3_init 31 = .ok (.newarray .int, 2) := by decide +kernel
theorem dX3_init_33 : decode cX3_init 33 = .ok (.putfield 21, 3) := by decide +kernel
theorem dX3_init_36 : decode cX3_init 36 = .ok (.return_, 1) := by decide +kernel
theorem dX3_add_0 : decode cX3_add 0 = .ok (.aload_n 0, 1) := by decide +kernel
theorem dX3_add_1 : decode cX3_add 1 = .ok (.getfield 9, 3) := by decide +kernel
theorem dX3_add_4 : decode cX3_add 4 = .ok (.aload_n 0, 1) := by decide +kernel
theorem dX3_add_5 : decode cX3_add 5 = .ok (.getfield 24, 3) := by decide +kernel
theorem dX3_add_8 : decode cX3_add 8 = .ok (.iload_n 1, 1) := by decide +kernel
theorem dX3_add_9 : decode cX3_add 9 = .ok (.iastore, 1) := by decide +kernel
theorem dX3_add_10 : decode cX3_add 10 = .ok (.aload_n 0, 1) := by decide +kernel
theorem dX3_add_11 : decode cX3_add 11 = .ok (.getfield 15, 3) := by decide +kernel
theorem dX3_add_14 : decode cX3_add 14 = .ok (.aload_n 0, 1) := by decide +kernel
theorem dX3_add_15 : decode cX3_add 15 = .ok (.getfield 24, 3) := by decide +kernel
theorem dX3_add_18 : decode cX3_add 18 = .ok (.iload_n 2, 1) := by decide +kernel
theorem dX3_add_19 : decode cX3_add 19 = .ok (.iastore, 1) := by decide +kernel
theorem dX3_add_20 : decode cX3_add 20 = .ok (.aload_n 0, 1) := by decide +kernel
theorem dX3_add_21 : decode cX3_add 21 = .ok (.getfield 18, 3) := by decide +kernel
theorem dX3_add_24 : decode cX3_add 24 = .ok (.aload_n 0, 1) := by decide +kernel
theorem dX3_add_25 : decode cX3_add 25 = .ok (.getfield 24, 3) := by decide +kernel
theorem dX3_add_28 : decode cX3_add 28 = .ok (.iload_n 3, 1) := by decide +kernel
theorem dX3_add_29 : decode cX3_add 29 = .ok (.iastore, 1) := by decide +kernel
theorem dX3_add_30 : decode cX3_add 30 = .ok (.aload_n 0, 1) := by decide +kernel
theorem dX3_add_31 : decode cX3_add 31 = .ok (.getfield 21, 3) := by decide +kernel
theorem dX3_add_34 : decode cX3_add 34 = .ok (.aload_n 0, 1) := by decide +kernel
theorem dX3_add_35 : decode cX3_add 35 = .ok (.getfield 24, 3) := by decide +kernel
theorem dX3_add_38 : decode cX3_add 38 = .ok (.iload 4, 2) := by decide +kernel
theorem dX3_add_40 : decode cX3_add 40 = .ok (.iastore, 1) := by decide +kernel
theorem dX3_add_41 : decode cX3_add 41 = .ok (.aload_n 0, 1) := by decide +kernel
theorem dX3_add_42 : decode cX3_add 42 = .ok (.dup, 1) := by decide +kernel
theorem dX3_add_43 : decode cX3_add 43 = .ok (.getfield 24, 3) := by decide +kernel
theorem dX3_add_46 : decode cX3_add 46 = .ok (.iconst 1, 1) := by decide +kernel
theorem dX3_add_47 : decode cX3_add 47 = .ok (.iadd, 1) := by decide +kernel
theorem dX3_add_48 : decode cX3_add 48 = .ok (.putfield 24, 3) := by decide +kernel
theorem dX3_add_51 : decode cX3_add 51 = .ok (.return_, 1) := by decide +kernel
theorem dX4_init_0 : decode cX4_init 0 = .ok (.aload_n 0, 1) := by decide +kernel
theorem dX4_init_1 : decode cX4_init 1 = .ok (.invokespecial 3, 3) := by decide +kernel
theorem dX4_init_4 : decode cX4_init 4 = .ok (.aload_n 0, 1) := by decide +kernel
theorem dX4_init_5 : decode cX4_init 5 = .ok (.bipush 6, 2) := by decide +kernel
theorem dX4_init_7 : decode cX4_init 7 = .ok (.newarray .int, 2) := by decide +kernel
theorem dX4_init_9 : decode cX4_init 9 = .ok (.putfield 9, 3) := by decide +kernel
theorem dX4_init_12 : decode cX4_init 12 = .ok (.aload_n 0, 1) := by decide +kernel
theorem dX4_init_13 : decode cX4_init 13 = .ok (.bipush 6, 2) := by decide +kernel
theorem dX4_init_15 : decode cX4_init 15 = .ok (.newarray .int, 2) := by decide +kernel
theorem dX4_init_17 : decode cX4_init 17 = .ok (.putfield 15, 3) := by decide +kernel
theorem dX4_init_20 : decode cX4_init 20 = .ok (.aload_n 0, 1) := by decide +kernel
theorem dX4_init_21 : decode cX4_init 21 = .ok (.bipush 6, 2) := by decide +kernel
theorem dX4_init_23 : decode cX4_init 23 = .ok (.newarray .int, 2) := by decide +kernel
theorem dX4_init_25 : decode cX4_init 25 = .ok (.putfield 18, 3) := by decide +kernel
theorem dX4_init_28 : decode cX4_init 28 = .ok (.aload_n 0, 1) := by decide +kernel
theorem dX4_init_29 : decode cX4_init 29 = .ok (.bipush 6, 2) := by decide +kernel
theorem dX4_init_31 : decode cX4_init 31 = .ok (.bipush 6, 2) := by decide +kernel
theorem dX4_init_33 : decode cX4_init 33 = .ok (.multianewarray 21 2, 4) := by decide +kernel
theorem dX4_init_37 : decode cX4_init 37 = .ok (.putfield 23, 3) := by decide +kernel
theorem dX4_init_40 : decode cX4_init 40 = .ok (.return_, 1) := by decide +kernel
theorem dX4_pointsOf_0 : decode cX4_pointsOf 0 = .ok (.aload_n 0, 1) := by decide +kernel
theorem dX4_pointsOf_1 : decode cX4_pointsOf 1 = .ok (.getfield 9, 3) := by decide +kernel
theorem dX4_pointsOf_4 : decode cX4_pointsOf 4 = .ok (.iload_n 1, 1) := by decide +kernel
theorem dX4_pointsOf_5 : decode cX4_pointsOf 5 = .ok (.iaload, 1) := by decide +kernel
theorem dX4_pointsOf_6 : decode cX4_pointsOf 6 = .ok (.ireturn, 1) := by decide +kernel
theorem dX4_finesOf_0 : decode cX4_finesOf 0 = .ok (.aload_n 0, 1) := by decide +kernel
theorem dX4_finesOf_1 : decode cX4_finesOf 1 = .ok (.getfield 15, 3) := by decide +kernel
theorem dX4_finesOf_4 : decode cX4_finesOf 4 = .ok (.iload_n 1, 1) := by decide +kernel
theorem dX4_finesOf_5 : decode cX4_finesOf 5 = .ok (.iaload, 1) := by decide +kernel
theorem dX4_finesOf_6 : decode cX4_finesOf 6 = .ok (.ireturn, 1) := by decide +kernel
theorem dX4_differenceOf_0 : decode cX4_differenceOf 0 = .ok (.aload_n 0, 1) := by decide +kernel
theorem dX4_differenceOf_1 : decode cX4_differenceOf 1 = .ok (.getfield 18, 3) := by decide +kernel
theorem dX4_differenceOf_4 : decode cX4_differenceOf 4 = .ok (.iload_n 1, 1) := by decide +kernel
theorem dX4_differenceOf_5 : decode cX4_differenceOf 5 = .ok (.iaload, 1) := by decide +kernel
theorem dX4_differenceOf_6 : decode cX4_differenceOf 6 = .ok (.ireturn, 1) := by decide +kernel
theorem dX4_fine_0 : decode cX4_fine 0 = .ok (.aload_n 0, 1) := by decide +kernel
theorem dX4_fine_1 : decode cX4_fine 1 = .ok (.getfield 15, 3) := by decide +kernel
theorem dX4_fine_4 : decode cX4_fine 4 = .ok (.iload_n 1, 1) := by decide +kernel
theorem dX4_fine_5 : decode cX4_fine 5 = .ok (.dup2, 1) := by decide +kernel
theorem dX4_fine_6 : decode cX4_fine 6 = .ok (.iaload, 1) := by decide +kernel
theorem dX4_fine_7 : decode cX4_fine 7 = .ok (.iconst 1, 1) := by decide +kernel
theorem dX4_fine_8 : decode cX4_fine 8 = .ok (.iadd, 1) := by decide +kernel
theorem dX4_fine_9 : decode cX4_fine 9 = .ok (.iastore, 1) := by decide +kernel
theorem dX4_fine_10 : decode cX4_fine 10 = .ok (.return_, 1) := by decide +kernel
set_option maxRecDepth 20000 in
theorem ggX4_enter_X4_enterWin : GoodIn wsX4_enter wsX4_enterWin := goodIn_r _ [7, 2, 8, 14, 15, 16, 17] (by decide +kernel) (by decide +kernel)
set_option maxRecDepth 20000 in
theorem gX4_enter_X4_enterWin : GoodIn wsX4_enter (wsV RX4 26 RX4 yX4_enterWin wsX4_enterWin) := goodIn_app (goodIn_of _ (by decide +kernel)) ggX4_enter_X4_enterWin
set_option maxRecDepth 20000 in
theorem ggX4_enter_X4_takePenalties : GoodIn wsX4_enter wsX4_takePenalties := goodIn_r _ [12, 13, 2, 14, 15, 16, 17] (by decide +kernel) (by decide +kernel)
set_option maxRecDepth 20000 in
theorem gX4_enter_X4_takePenalties : GoodIn wsX4_enter (wsV RX4 30 RX4 yX4_takePenalties wsX4_takePenalties) := goodIn_app (goodIn_of _ (by decide +kernel)) ggX4_enter_X4_takePenalties
theorem dX4_enter_0 : decode cX4_enter 0 = .ok (.aload_n 0, 1) := by decide +kernel
theorem dX4_enter_1 : decode cX4_enter 1 = .ok (.getfield 18, 3) := by decide +kernel
theorem dX4_enter_4 : decode cX4_enter 4 = .ok (.iload_n 1, 1) := by decide +kernel
theorem dX4_enter_5 : decode cX4_enter 5 = .ok (.dup2, 1) := by decide +kernel
theorem dX4_enter_6 : decode cX4_enter 6 = .ok (.iaload, 1) := by decide +kernel
theorem dX4_enter_7 : decode cX4_enter 7 = .ok (.iload_n 3, 1) := by decide +kernel
theorem dX4_enter_8 : decode cX4_enter 8 = .ok (.iadd, 1) := by decide +kernel
theorem dX4_enter_9 : decode cX4_enter 9 = .ok (.iastore, 1) := by decide +kernel
theorem dX4_enter_10 : decode cX4_enter 10 = .ok (.aload_n 0, 1) := by decide +kernel
theorem dX4_enter_11 : decode cX4_enter 11 = .ok (.getfield 18, 3) := by decide +kernel
theorem dX4_enter_14 : decode cX4_enter 14 = .ok (.iload_n 2, 1) := by decide +kernel
theorem dX4_enter_15 : decode cX4_enter 15 = .ok (.dup2, 1) := by decide +kernel
theorem dX4_enter_16 : decode cX4_enter 16 = .ok (.iaload, 1) := by decide +kernel
theorem dX4_enter_17 : decode cX4_enter 17 = .ok (.iload_n 3, 1) := by decide +kernel
theorem dX4_enter_18 : decode cX4_enter 18 = .ok (.isub, 1) := by decide +kernel
theorem dX4_enter_19 : decode cX4_enter 19 = .ok (.iastore, 1) := by decide +kernel
theorem dX4_enter_20 : decode cX4_enter 20 = .ok (.iload_n 3, 1) := by decide +kernel
theorem dX4_enter_21 : decode cX4_enter 21 = .ok (.ifCond .le 12, 3) := by decide +kernel
theorem dX4_enter_24 : decode cX4_enter 24 = .ok (.aload_n 0, 1) := by decide +kernel
theorem dX4_enter_25 : decode cX4_enter 25 = .ok (.iload_n 1, 1) := by decide +kernel
theorem dX4_enter_26 : decode cX4_enter 26 = .ok (.iload_n 2, 1) := by decide +kernel
theorem dX4_enter_27 : decode cX4_enter 27 = .ok (.invokevirtual 26, 3) := by decide +kernel
theorem dX4_enter_30 : decode cX4_enter 30 = .ok (.goto 36, 3) := by decide +kernel
theorem dX4_enter_33 : decode cX4_enter 33 = .ok (.iload_n 3, 1) := by decide +kernel
theorem dX4_enter_34 : decode cX4_enter 34 = .ok (.ifCond .ge 12, 3) := by decide +kernel
theorem dX4_enter_37 : decode cX4_enter 37 = .ok (.aload_n 0, 1) := by decide +kernel
theorem dX4_enter_38 : decode cX4_enter 38 = .ok (.iload_n 2, 1) := by decide +kernel
theorem dX4_enter_39 : decode cX4_enter 39 = .ok (.iload_n 1, 1) := by decide +kernel
theorem dX4_enter_40 : decode cX4_enter 40 = .ok (.invokevirtual 26, 3) := by decide +kernel
theorem dX4_enter_43 : decode cX4_enter 43 = .ok (.goto 23, 3) := by decide +kernel
theorem dX4_enter_46 : decode cX4_enter 46 = .ok (.aload_n 0, 1) := by decide +kernel
theorem dX4_enter_47 : decode cX4_enter 47 = .ok (.getfield 9, 3) := by decide +kernel
theorem dX4_enter_50 : decode cX4_enter 50 = .ok (.iload_n 1, 1) := by decide +kernel
theorem dX4_enter_51 : decode cX4_enter 51 = .ok (.dup2, 1) := by decide +kernel
theorem dX4_enter_52 : decode cX4_enter 52 = .ok (.iaload, 1) := by decide +kernel
theorem dX4_enter_53 : decode cX4_enter 53 = .ok (.iconst 1, 1) := by decide +kernel
theorem dX4_enter_54 : decode cX4_enter 54 = .ok (.iadd, 1) := by decide +kernel
theorem dX4_enter_55 : decode cX4_enter 55 = .ok (.iastore, 1) := by decide +kernel
theorem dX4_enter_56 : decode cX4_enter 56 = .ok (.aload_n 0, 1) := by decide +kernel
theorem dX4_enter_57 : decode cX4_enter 57 = .ok (.getfield 9, 3) := by decide +kernel
theorem dX4_enter_60 : decode cX4_enter 60 = .ok (.iload_n 2, 1) := by decide +kernel
theorem dX4_enter_61 : decode cX4_enter 61 = .ok (.dup2, 1) := by decide +kernel
theorem dX4_enter_62 : decode cX4_enter 62 = .ok (.iaload, 1) := by decide +kernel
theorem dX4_enter_63 : decode cX4_enter 63 = .ok (.iconst 1, 1) := by decide +kernel
theorem dX4_enter_64 : decode cX4_enter 64 = .ok (.iadd, 1) := by decide +kernel
theorem dX4_enter_65 : decode cX4_enter 65 = .ok (.iastore, 1) := by decide +kernel
theorem dX4_enter_66 : decode cX4_enter 66 = .ok (.aload_n 0, 1) := by decide +kernel
theorem dX4_enter_67 : decode cX4_enter 67 = .ok (.invokevirtual 30, 3) := by decide +kernel
theorem dX4_enter_70 : decode cX4_enter 70 = .ok (.return_, 1) := by decide +kernel
theorem dX4_enterWin_0 : decode cX4_enterWin 0 = .ok (.aload_n 0, 1) := by decide +kernel
theorem dX4_enterWin_1 : decode cX4_enterWin 1 = .ok (.getfield 9, 3) := by decide +kernel
theorem dX4_enterWin_4 : decode cX4_enterWin 4 = .ok (.iload_n 1, 1) := by decide +kernel
theorem dX4_enterWin_5 : decode cX4_enterWin 5 = .ok (.dup2, 1) := by decide +kernel
theorem dX4_enterWin_6 : decode cX4_enterWin 6 = .ok (.iaload, 1) := by decide +kernel
theorem dX4_enterWin_7 : decode cX4_enterWin 7 = .ok (.iconst 3, 1) := by decide +kernel
theorem dX4_enterWin_8 : decode cX4_enterWin 8 = .ok (.iadd, 1) := by decide +kernel
theorem dX4_enterWin_9 : decode cX4_enterWin 9 = .ok (.iastore, 1) := by decide +kernel
theorem dX4_enterWin_10 : decode cX4_enterWin 10 = .ok (.aload_n 0, 1) := by decide +kernel
theorem dX4_enterWin_11 : decode cX4_enterWin 11 = .ok (.getfield 23, 3) := by decide +kernel
theorem dX4_enterWin_14 : decode cX4_enterWin 14 = .ok (.iload_n 1, 1) := by decide +kernel
theorem dX4_enterWin_15 : decode cX4_enterWin 15 = .ok (.aaload, 1) := by decide +kernel
theorem dX4_enterWin_16 : decode cX4_enterWin 16 = .ok (.iload_n 2, 1) := by decide +kernel
theorem dX4_enterWin_17 : decode cX4_enterWin 17 = .ok (.dup2, 1) := by decide +kernel
theorem dX4_enterWin_18 : decode cX4_enterWin 18 = .ok (.iaload, 1) := by decide +kernel
theorem dX4_enterWin_19 : decode cX4_enterWin 19 = .ok (.iconst 1, 1) := by decide +kernel
theorem dX4_enterWin_20 : decode cX4_enterWin 20 = .ok (.iadd, 1) := by decide +kernel
theorem dX4_enterWin_21 : decode cX4_enterWin 21 = .ok (.iastore, 1) := by decide +kernel
theorem dX4_enterWin_22 : decode cX4_enterWin 22 = .ok (.return_, 1) := by decide +kernel
theorem dX4_takePenalties_0 : decode cX4_takePenalties 0 = .ok (.iconst 0, 1) := by decide +kernel
theorem dX4_takePenalties_1 : decode cX4_takePenalties 1 = .ok (.istore_n 1, 1) := by decide +kernel
theorem dX4_takePenalties_2 : decode cX4_takePenalties 2 = .ok (.iload_n 1, 1) := by decide +kernel
theorem dX4_takePenalties_3 : decode cX4_takePenalties 3 = .ok (.bipush 6, 2) := by decide +kernel
theorem dX4_takePenalties_5 : decode cX4_takePenalties 5 = .ok (.if_icmp .ge 39, 3) := by decide +kernel
theorem dX4_takePenalties_8 : decode cX4_takePenalties 8 = .ok (.aload_n 0, 1) := by decide +kernel
theorem dX4_takePenalties_9 : decode cX4_takePenalties 9 = .ok (.getfield 15, 3) := by decide +kernel
theorem dX4_takePenalties_12 : decode cX4_takePenalties 12 = .ok (.iload_n 1, 1) := by decide +kernel
theorem dX4_takePenalties_13 : decode cX4_takePenalties 13 = .ok (.iaload, 1) := by decide +kernel
theorem dX4_takePenalties_14 : decode cX4_takePenalties 14 = .ok (.iconst 2, 1) := by decide +kernel
theorem dX4_takePenalties_15 : decode cX4_takePenalties 15 = .ok (.if_icmp .lt 23, 3) := by decide +kernel
theorem dX4_takePenalties_18 : decode cX4_takePenalties 18 = .ok (.aload_n 0, 1) := by decide +kernel
theorem dX4_takePenalties_19 : decode cX4_takePenalties 19 = .ok (.getfield 9, 3) := by decide +kernel
theorem dX4_takePenalties_22 : decode cX4_takePenalties 22 = .ok (.iload_n 1, 1) := by decide +kernel
theorem dX4_takePenalties_23 : decode cX4_takePenalties 23 = .ok (.dup2, 1) := by decide +kernel
theorem dX4_takePenalties_24 : decode cX4_takePenalties 24 = .ok (.iaload, 1) := by decide +kernel
theorem dX4_takePenalties_25 : decode cX4_takePenalties 25 = .ok (.iconst 1, 1) := by decide +kernel
theorem dX4_takePenalties_26 : decode cX4_takePenalties 26 = .ok (.isub, 1) := by decide +kernel
theorem dX4_takePenalties_27 : decode cX4_takePenalties 27 = .ok (.iastore, 1) := by decide +kernel
theorem dX4_takePenalties_28 : decode cX4_takePenalties 28 = .ok (.aload_n 0, 1) := by decide +kernel
theorem dX4_takePenalties_29 : decode cX4_takePenalties 29 = .ok (.getfield 15, 3) := by decide +kernel
theorem dX4_takePenalties_32 : decode cX4_takePenalties 32 = .ok (.iload_n 1, 1) := by decide +kernel
theorem dX4_takePenalties_33 : decode cX4_takePenalties 33 = .ok (.dup2, 1) := by decide +kernel
theorem dX4_takePenalties_34 : decode cX4_takePenalties 34 = .ok (.iaload, 1) := by decide +kernel
theorem dX4_takePenalties_35 : decode cX4_takePenalties 35 = .ok (.iconst 2, 1) := by decide +kernel
theorem dX4_takePenalties_36 : decode cX4_takePenalties 36 = .ok (.isub, 1) := by decide +kernel
theorem dX4_takePenalties_37 : decode cX4_takePenalties 37 = .ok (.iastore, 1) := by decide +kernel
theorem dX4_takePenalties_38 : decode cX4_takePenalties 38 = .ok (.iinc 1 1, 3) := by decide +kernel
theorem dX4_takePenalties_41 : decode cX4_takePenalties 41 = .ok (.goto (-39), 3) := by decide +kernel
theorem dX4_takePenalties_44 : decode cX4_takePenalties 44 = .ok (.return_, 1) := by decide +kernel
set_option maxRecDepth 20000 in
theorem ggX4_placeOf_X4_isAhead : GoodIn wsX4_placeOf wsX4_isAhead := goodIn_r _ [5, 6, 7, 8, 9, 10, 11, 12] (by decide +kernel) (by decide +kernel)
set_option maxRecDepth 20000 in
theorem gX4_placeOf_X4_isAhead : GoodIn wsX4_placeOf (wsV RX4 33 RX4 yX4_isAhead wsX4_isAhead) := goodIn_app (goodIn_of _ (by decide +kernel)) ggX4_placeOf_X4_isAhead
theorem dX4_placeOf_0 : decode cX4_placeOf 0 = .ok (.iconst 1, 1) := by decide +kernel
theorem dX4_placeOf_1 : decode cX4_placeOf 1 = .ok (.istore_n 2, 1) := by decide +kernel
theorem dX4_placeOf_2 : decode cX4_placeOf 2 = .ok (.iconst 0, 1) := by decide +kernel
theorem dX4_placeOf_3 : decode cX4_placeOf 3 = .ok (.istore_n 3, 1) := by decide +kernel
theorem dX4_placeOf_4 : decode cX4_placeOf 4 = .ok (.iload_n 3, 1) := by decide +kernel
theorem dX4_placeOf_5 : decode cX4_placeOf 5 = .ok (.bipush 6, 2) := by decide +kernel
theorem dX4_placeOf_7 : decode cX4_placeOf 7 = .ok (.if_icmp .ge 26, 3) := by decide +kernel
theorem dX4_placeOf_10 : decode cX4_placeOf 10 = .ok (.iload_n 3, 1) := by decide +kernel
theorem dX4_placeOf_11 : decode cX4_placeOf 11 = .ok (.iload_n 1, 1) := by decide +kernel
theorem dX4_placeOf_12 : decode cX4_placeOf 12 = .ok (.if_icmp .eq 15, 3) := by decide +kernel
theorem dX4_placeOf_15 : decode cX4_placeOf 15 = .ok (.aload_n 0, 1) := by decide +kernel
theorem dX4_placeOf_16 : decode cX4_placeOf 16 = .ok (.iload_n 3, 1) := by decide +kernel
theorem dX4_placeOf_17 : decode cX4_placeOf 17 = .ok (.iload_n 1, 1) := by decide +kernel
theorem dX4_placeOf_18 : decode cX4_placeOf 18 = .ok (.invokevirtual 33, 3) := by decide +kernel
theorem dX4_placeOf_21 : decode cX4_placeOf 21 = .ok (.ifCond .eq 6, 3) := by decide +kernel
theorem dX4_placeOf_24 : decode cX4_placeOf 24 = .ok (.iinc 2 1, 3) := by decide +kernel
theorem dX4_placeOf_27 : decode cX4_placeOf 27 = .ok (.iinc 3 1, 3) := by decide +kernel
theorem dX4_placeOf_30 : decode cX4_placeOf 30 = .ok (.goto (-26), 3) := by decide +kernel
theorem dX4_placeOf_33 : decode cX4_placeOf 33 = .ok (.iload_n 2, 1) := by decide +kernel
theorem dX4_placeOf_34 : decode cX4_placeOf 34 = .ok (.ireturn, 1) := by decide +kernel
theorem dX4_isAhead_0 : decode cX4_isAhead 0 = .ok (.aload_n 0, 1) := by decide +kernel
theorem dX4_isAhead_1 : decode cX4_isAhead 1 = .ok (.getfield 9, 3) := by decide +kernel
theorem dX4_isAhead_4 : decode cX4_isAhead 4 = .ok (.iload_n 1, 1) := by decide +kernel
theorem dX4_isAhead_5 : decode cX4_isAhead 5 = .ok (.iaload, 1) := by decide +kernel
theorem dX4_isAhead_6 : decode cX4_isAhead 6 = .ok (.aload_n 0, 1) := by decide +kernel
theorem dX4_isAhead_7 : decode cX4_isAhead 7 = .ok (.getfield 9, 3) := by decide +kernel
theorem dX4_isAhead_10 : decode cX4_isAhead 10 = .ok (.iload_n 2, 1) := by decide +kernel
theorem dX4_isAhead_11 : decode cX4_isAhead 11 = .ok (.iaload, 1) := by decide +kernel
theorem dX4_isAhead_12 : decode cX4_isAhead 12 = .ok (.if_icmp .eq 24, 3) := by decide +kernel
theorem dX4_isAhead_15 : decode cX4_isAhead 15 = .ok (.aload_n 0, 1) := by decide +kernel
theorem dX4_isAhead_16 : decode cX4_isAhead 16 = .ok (.getfield 9, 3) := by decide +kernel
theorem dX4_isAhead_19 : decode cX4_isAhead 19 = .ok (.iload_n 1, 1) := by decide +kernel
theorem dX4_isAhead_20 : decode cX4_isAhead 20 = .ok (.iaload, 1) := by decide +kernel
theorem dX4_isAhead_21 : decode cX4_isAhead 21 = .ok (.aload_n 0, 1) := by decide +kernel
theorem dX4_isAhead_22 : decode cX4_isAhead 22 = .ok (.getfield 9, 3) := by decide +kernel
theorem dX4_isAhead_25 : decode cX4_isAhead 25 = .ok (.iload_n 2, 1) := by decide +kernel
theorem dX4_isAhead_26 : decode cX4_isAhead 26 = .ok (.iaload, 1) := by decide +kernel
theorem dX4_isAhead_27 : decode cX4_isAhead 27 = .ok (.if_icmp .le 7, 3) := by decide +kernel
theorem dX4_isAhead_30 : decode cX4_isAhead 30 = .ok (.iconst 1, 1) := by decide +kernel
theorem dX4_isAhead_31 : decode cX4_isAhead 31 = .ok (.goto 4, 3) := by decide +kernel
theorem dX4_isAhead_34 : decode cX4_isAhead 34 = .ok (.iconst 0, 1) := by decide +kernel
theorem dX4_isAhead_35 : decode cX4_isAhead 35 = .ok (.ireturn, 1) := by decide +kernel
theorem dX4_isAhead_36 : decode cX4_isAhead 36 = .ok (.aload_n 0, 1) := by decide +kernel
theorem dX4_isAhead_37 : decode cX4_isAhead 37 = .ok (.getfield 23, 3) := by decide +kernel
theorem dX4_isAhead_40 : decode cX4_isAhead 40 = .ok (.iload_n 1, 1) := by decide +kernel
theorem dX4_isAhead_41 : decode cX4_isAhead 41 = .ok (.aaload, 1) := by decide +kernel
theorem dX4_isAhead_42 : decode cX4_isAhead 42 = .ok (.iload_n 2, 1) := by decide +kernel
theorem dX4_isAhead_43 : decode cX4_isAhead 43 = .ok (.iaload, 1) := by decide +kernel
theorem dX4_isAhead_44 : decode cX4_isAhead 44 = .ok (.aload_n 0, 1) := by decide +kernel
theorem dX4_isAhead_45 : decode cX4_isAhead 45 = .ok (.getfield 23, 3) := by decide +kernel
theorem dX4_isAhead_48 : decode cX4_isAhead 48 = .ok (.iload_n 2, 1) := by decide +kernel
theorem dX4_isAhead_49 : decode cX4_isAhead 49 = .ok (.aaload, 1) := by decide +kernel
theorem dX4_isAhead_50 : decode cX4_isAhead 50 = .ok (.iload_n 1, 1) := by decide +kernel
theorem dX4_isAhead_51 : decode cX4_isAhead 51 = .ok (.iaload, 1) := by decide +kernel
theorem dX4_isAhead_52 : decode cX4_isAhead 52 = .ok (.if_icmp .eq 28, 3) := by decide +kernel
theorem dX4_isAhead_55 : decode cX4_isAhead 55 = .ok (.aload_n 0, 1) := by decide +kernel
theorem dX4_isAhead_56 : decode cX4_isAhead 56 = .ok (.getfield 23, 3) := by decide +kernel
theorem dX4_isAhead_59 : decode cX4_isAhead 59 = .ok (.iload_n 1, 1) := by decide +kernel
theorem dX4_isAhead_60 : decode cX4_isAhead 60 = .ok (.aaload, 1) := by decide +kernel
theorem dX4_isAhead_61 : decode cX4_isAhead 61 = .ok (.iload_n 2, 1) := by decide +kernel
theorem dX4_isAhead_62 : decode cX4_isAhead 62 = .ok (.iaload, 1) := by decide +kernel
theorem dX4_isAhead_63 : decode cX4_isAhead 63 = .ok (.aload_n 0, 1) := by decide +kernel
theorem dX4_isAhead_64 : decode cX4_isAhead 64 = .ok (.getfield 23, 3) := by decide +kernel
theorem dX4_isAhead_67 : decode cX4_isAhead 67 = .ok (.iload_n 2, 1) := by decide +kernel
theorem dX4_isAhead_68 : decode cX4_isAhead 68 = .ok (.aaload, 1) := by decide +kernel
theorem dX4_isAhead_69 : decode cX4_isAhead 69 = .ok (.iload_n 1, 1) := by decide +kernel
theorem dX4_isAhead_70 : decode cX4_isAhead 70 = .ok (.iaload, 1) := by decide +kernel
theorem dX4_isAhead_71 : decode cX4_isAhead 71 = .ok (.if_icmp .le 7, 3) := by decide +kernel
theorem dX4_isAhead_74 : decode cX4_isAhead 74 = .ok (.iconst 1, 1) := by decide +kernel
theorem dX4_isAhead_75 : decode cX4_isAhead 75 = .ok (.goto 4, 3) := by decide +kernel
theorem dX4_isAhead_78 : decode cX4_isAhead 78 = .ok (.iconst 0, 1) := by decide +kernel
theorem dX4_isAhead_79 : decode cX4_isAhead 79 = .ok (.ireturn, 1) := by decide +kernel
theorem dX4_isAhead_80 : decode cX4_isAhead 80 = .ok (.aload_n 0, 1) := by decide +kernel
theorem dX4_isAhead_81 : decode cX4_isAhead 81 = .ok (.getfield 18, 3) := by decide +kernel
theorem dX4_isAhead_84 : decode cX4_isAhead 84 = .ok (.iload_n 1, 1) := by decide +kernel
theorem dX4_isAhead_85 : decode cX4_isAhead 85 = .ok (.iaload, 1) := by decide +kernel
theorem dX4_isAhead_86 : decode cX4_isAhead 86 = .ok (.aload_n 0, 1) := by decide +kernel
theorem dX4_isAhead_87 : decode cX4_isAhead 87 = .ok (.getfield 18, 3) := by decide +kernel
theorem dX4_isAhead_90 : decode cX4_isAhead 90 = .ok (.iload_n 2, 1) := by decide +kernel
theorem dX4_isAhead_91 : decode cX4_isAhead 91 = .ok (.iaload, 1) := by decide +kernel
theorem dX4_isAhead_92 : decode cX4_isAhead 92 = .ok (.if_icmp .eq 24, 3) := by decide +kernel
theorem dX4_isAhead_95 : decode cX4_isAhead 95 = .ok (.aload_n 0, 1) := by decide +kernel
theorem dX4_isAhead_96 : decode cX4_isAhead 96 = .ok (.getfield 18, 3) := by decide +kernel
theorem dX4_isAhead_99 : decode cX4_isAhead 99 = .ok (.iload_n 1, 1) := by decide +kernel
theorem dX4_isAhead_100 : decode cX4_isAhead 100 = .ok (.iaload, 1) := by decide +kernel
theorem dX4_isAhead_101 : decode cX4_isAhead 101 = .ok (.aload_n 0, 1) := by decide +kernel
theorem dX4_isAhead_102 : decode cX4_isAhead 102 = .ok (.getfield 18, 3) := by decide +kernel
theorem dX4_isAhead_105 : decode cX4_isAhead 105 = .ok (.iload_n 2, 1) := by decide +kernel
theorem dX4_isAhead_106 : decode cX4_isAhead 106 = .ok (.iaload, 1) := by decide +kernel
theorem dX4_isAhead_107 : decode cX4_isAhead 107 = .ok (.if_icmp .le 7, 3) := by decide +kernel
theorem dX4_isAhead_110 : decode cX4_isAhead 110 = .ok (.iconst 1, 1) := by decide +kernel
theorem dX4_isAhead_111 : decode cX4_isAhead 111 = .ok (.goto 4, 3) := by decide +kernel
theorem dX4_isAhead_114 : decode cX4_isAhead 114 = .ok (.iconst 0, 1) := by decide +kernel
theorem dX4_isAhead_115 : decode cX4_isAhead 115 = .ok (.ireturn, 1) := by decide +kernel
theorem dX4_isAhead_116 : decode cX4_isAhead 116 = .ok (.iload_n 1, 1) := by decide +kernel
theorem dX4_isAhead_117 : decode cX4_isAhead 117 = .ok (.iload_n 2, 1) := by decide +kernel
theorem dX4_isAhead_118 : decode cX4_isAhead 118 = .ok (.if_icmp .ge 7, 3) := by decide +kernel
theorem dX4_isAhead_121 : decode cX4_isAhead 121 = .ok (.iconst 1, 1) := by decide +kernel
theorem dX4_isAhead_122 : decode cX4_isAhead 122 = .ok (.goto 4, 3) := by decide +kernel
theorem dX4_isAhead_125 : decode cX4_isAhead 125 = .ok (.iconst 0, 1) := by decide +kernel
theorem dX4_isAhead_126 : decode cX4_isAhead 126 = .ok (.ireturn, 1) := by decide +kernel
set_option maxRecDepth 20000 in
theorem ggX5_init_X1_init : GoodIn wsX5_init wsX1_init := goodIn_r _ [19, 20, 2, 3, 21, 22, 67] (by decide +kernel) (by decide +kernel)
set_option maxRecDepth 20000 in
theorem gX5_init_X1_init_n11 : GoodIn wsX5_init (wsX1_init) := ggX5_init_X1_init
set_option maxRecDepth 20000 in
theorem ggX5_init_X2_init : GoodIn wsX5_init wsX2_init := goodIn_r _ [25, 26, 2, 3, 27, 16, 28, 29, 30, 31, 32, 33, 34, 35, 36, 37, 38, 39, 40, 41, 42, 43, 44, 45, 46, 47, 48, 49, 50, 51, 21, 52, 53, 54, 55, 10, 56, 57, 58, 72, 73, 74, 75, 76, 77, 78, 79, 84, 85, 86, 87, 88, 89, 90, 91, 92, 93] (by decide +kernel) (by decide +kernel)
set_option maxRecDepth 20000 in
theorem gX5_init_X2_init : GoodIn wsX5_init (wsX2_init) := ggX5_init_X2_init
set_option maxRecDepth 20000 in
theorem ggX5_init_X4_init : GoodIn wsX5_init wsX4_init := goodIn_r _ [60, 61, 2, 3, 16, 62, 63, 64, 65, 66, 80, 81, 82, 83] (by decide +kernel) (by decide +kernel)
set_option maxRecDepth 20000 in
theorem gX5_init_X4_init_n25 : GoodIn wsX5_init (wsX4_init) := ggX5_init_X4_init
theorem dX5_init_0 : decode cX5_init 0 = .ok (.aload_n 0, 1) := by decide +kernel
theorem dX5_init_1 : decode cX5_init 1 = .ok (.invokespecial 3, 3) := by decide +kernel
theorem dX5_init_4 : decode cX5_init 4 = .ok (.aload_n 0, 1) := by decide +kernel
theorem dX5_init_5 : decode cX5_init 5 = .ok (.new 9, 3) := by decide +kernel
theorem dX5_init_8 : decode cX5_init 8 = .ok (.dup, 1) := by decide +kernel
theorem dX5_init_9 : decode cX5_init 9 = .ok (.invokespecial 11, 3) := by decide +kernel
theorem dX5_init_12 : decode cX5_init 12 = .ok (.putfield 12, 3) := by decide +kernel
theorem dX5_init_15 : decode cX5_init 15 = .ok (.aload_n 0, 1) := by decide +kernel
theorem dX5_init_16 : decode cX5_init 16 = .ok (.new 16, 3) := by decide +kernel
theorem dX5_init_19 : decode cX5_init 19 = .ok (.dup, 1) := by decide +kernel
theorem dX5_init_20 : decode cX5_init 20 = .ok (.invokespecial 18, 3) := by decide +kernel
theorem dX5_init_23 : decode cX5_init 23 = .ok (.putfield 19, 3) := by decide +kernel
theorem dX5_init_26 : decode cX5_init 26 = .ok (.aload_n 0, 1) := by decide +kernel
theorem dX5_init_27 : decode cX5_init 27 = .ok (.new 23, 3) := by decide +kernel
theorem dX5_init_30 : decode cX5_init 30 = .ok (.dup, 1) := by decide +kernel
theorem dX5_init_31 : decode cX5_init 31 = .ok (.invokespecial 25, 3) := by decide +kernel
theorem dX5_init_34 : decode cX5_init 34 = .ok (.putfield 26, 3) := by decide +kernel
theorem dX5_init_37 : decode cX5_init 37 = .ok (.aload_n 0, 1) := by decide +kernel
theorem dX5_init_38 : decode cX5_init 38 = .ok (.iconst 2, 1) := by decide +kernel
theorem dX5_init_39 : decode cX5_init 39 = .ok (.newarray .int, 2) := by decide +kernel
theorem dX5_init_41 : decode cX5_init 41 = .ok (.dup, 1) := by decide +kernel
theorem dX5_init_42 : decode cX5_init 42 = .ok (.iconst 0, 1) := by decide +kernel
theorem dX5_init_43 : decode cX5_init 43 = .ok (.iconst 0, 1) := by decide +kernel
theorem dX5_init_44 : decode cX5_init 44 = .ok (.iastore, 1) := by decide +kernel
theorem dX5_init_45 : decode cX5_init 45 = .ok (.dup, 1) := by decide +kernel
theorem dX5_init_46 : decode cX5_init 46 = .ok (.iconst 1, 1) := by decide +kernel
theorem dX5_init_47 : decode cX5_init 47 = .ok (.sipush 143, 3) := by decide +kernel
theorem dX5_init_50 : decode cX5_init 50 = .ok (.iastore, 1) := by decide +kernel
theorem dX5_init_51 : decode cX5_init 51 = .ok (.putfield 30, 3) := by decide +kernel
theorem dX5_init_54 : decode cX5_init 54 = .ok (.return_, 1) := by decide +kernel
set_option maxRecDepth 20000 in
theorem ggX5_toggleBunker_X5_checkCell : GoodIn wsX5_toggleBunker wsX5_checkCell := goodIn_ca (goodIn_r _ [8, 9, 10] (by decide +kernel) (by decide +kernel)) (goodIn_sub (fun _ h => List.mem_cons_of_mem _ (List.mem_append_right _ h)) (by decide +kernel))
set_option maxRecDepth 20000 in
theorem gX5_toggleBunker_X5_checkCell : GoodIn wsX5_toggleBunker (va_wsS RX5 34 yX5_checkCell wsX5_checkCell) := goodIn_app (goodIn_of _ (by decide +kernel)) ggX5_toggleBunker_X5_checkCell
set_option maxRecDepth 20000 in
theorem ggX5_toggleBunker_X2_isPlayed : GoodIn wsX5_toggleBunker wsX2_isPlayed := goodIn_r _ [15, 16, 27, 28, 29, 30, 31, 32, 33, 34] (by decide +kernel) (by decide +kernel)
set_option maxRecDepth 20000 in
theorem gX5_toggleBunker_X2_isPlayed : GoodIn wsX5_toggleBunker (wsV RX5 38 RX2 yX2_isPlayed wsX2_isPlayed) := goodIn_app (goodIn_of _ (by decide +kernel)) ggX5_toggleBunker_X2_isPlayed
set_option maxRecDepth 20000 in
theorem ggX5_toggleBunker_X1_turnBunker : GoodIn wsX5_toggleBunker wsX1_turnBunker := goodIn_r _ [21, 22, 35] (by decide +kernel) (by decide +kernel)
set_option maxRecDepth 20000 in
theorem gX5_toggleBunker_X1_turnBunker : GoodIn wsX5_toggleBunker (wsV RX5 49 RX1 yX1_turnBunker wsX1_turnBunker) := goodIn_app (goodIn_of _ (by decide +kernel)) ggX5_toggleBunker_X1_turnBunker
theorem dX5_toggleBunker_0 : decode cX5_toggleBunker 0 = .ok (.iload_n 1, 1) := by decide +kernel
theorem dX5_toggleBunker_1 : decode cX5_toggleBunker 1 = .ok (.invokestatic 34, 3) := by decide +kernel
theorem dX5_toggleBunker_4 : decode cX5_toggleBunker 4 = .ok (.aload_n 0, 1) := by decide +kernel
theorem dX5_toggleBunker_5 : decode cX5_toggleBunker 5 = .ok (.getfield 19, 3) := by decide +kernel
theorem dX5_toggleBunker_8 : decode cX5_toggleBunker 8 = .ok (.invokevirtual 38, 3) := by decide +kernel
theorem dX5_toggleBunker_11 : decode cX5_toggleBunker 11 = .ok (.ifCond .eq 13, 3) := by decide +kernel
theorem dX5_toggleBunker_14 : decode cX5_toggleBunker 14 = .ok (.new 42, 3) := by decide +kernel
theorem dX5_toggleBunker_17 : decode cX5_toggleBunker 17 = .ok (.dup, 1) := by decide +kernel
theorem dX5_toggleBunker_18 : decode cX5_toggleBunker 18 = .ok (.ldc 44, 2) := by decide +kernel
theorem dX5_toggleBunker_20 : decode cX5_toggleBunker 20 = .ok (.invokespecial 46, 3) := by decide +kernel
theorem dX5_toggleBunker_23 : decode cX5_toggleBunker 23 = .ok (.athrow, 1) := by decide +kernel
theorem dX5_toggleBunker_24 : decode cX5_toggleBunker 24 = .ok (.aload_n 0, 1) := by decide +kernel
theorem dX5_toggleBunker_25 : decode cX5_toggleBunker 25 = .ok (.getfield 12, 3) := by decide +kernel
theorem dX5_toggleBunker_28 : decode cX5_toggleBunker 28 = .ok (.iload_n 1, 1) := by decide +kernel
theorem dX5_toggleBunker_29 : decode cX5_toggleBunker 29 = .ok (.invokevirtual 49, 3) := by decide +kernel
theorem dX5_toggleBunker_32 : decode cX5_toggleBunker 32 = .ok (.ireturn, 1) := by decide +kernel
set_option maxRecDepth 20000 in
theorem ggX5_sees_X5_checkCell : GoodIn wsX5_sees wsX5_checkCell := goodIn_ca (goodIn_r _ [5, 6, 7] (by decide +kernel) (by decide +kernel)) (goodIn_sub (fun _ h => List.mem_cons_of_mem _ (List.mem_append_right _ h)) (by decide +kernel))
set_option maxRecDepth 20000 in
theorem gX5_sees_X5_checkCell : GoodIn wsX5_sees (va_wsS RX5 34 yX5_checkCell wsX5_checkCell) := goodIn_app (goodIn_of _ (by decide +kernel)) ggX5_sees_X5_checkCell
set_option maxRecDepth 20000 in
theorem ggX5_sees_X1_hasSight : GoodIn wsX5_sees wsX1_hasSight := goodIn_r _ [12, 13, 14, 15, 16, 17, 18, 19, 20, 21, 22, 11, 23, 24, 25, 26, 31] (by decide +kernel) (by decide +kernel)
set_option maxRecDepth 20000 in
theorem gX5_sees_X1_hasSight : GoodIn wsX5_sees (wsV RX5 53 RX1 yX1_hasSight wsX1_hasSight) := goodIn_app (goodIn_of _ (by decide +kernel)) ggX5_sees_X1_hasSight
theorem dX5_sees_0 : decode cX5_sees 0 = .ok (.iload_n 1, 1) := by decide +kernel
theorem dX5_sees_1 : decode cX5_sees 1 = .ok (.invokestatic 34, 3) := by decide +kernel
theorem dX5_sees_4 : decode cX5_sees 4 = .ok (.iload_n 2, 1) := by decide +kernel
theorem dX5_sees_5 : decode cX5_sees 5 = .ok (.invokestatic 34, 3) := by decide +kernel
theorem dX5_sees_8 : decode cX5_sees 8 = .ok (.aload_n 0, 1) := by decide +kernel
theorem dX5_sees_9 : decode cX5_sees 9 = .ok (.getfield 12, 3) := by decide +kernel
theorem dX5_sees_12 : decode cX5_sees 12 = .ok (.iload_n 1, 1) := by decide +kernel
theorem dX5_sees_13 : decode cX5_sees 13 = .ok (.iload_n 2, 1) := by decide +kernel
theorem dX5_sees_14 : decode cX5_sees 14 = .ok (.invokevirtual 53, 3) := by decide +kernel
theorem dX5_sees_17 : decode cX5_sees 17 = .ok (.ireturn, 1) := by decide +kernel
set_option maxRecDepth 20000 in
theorem ggX5_view_X5_checkCell : GoodIn wsX5_view wsX5_checkCell := goodIn_ca (goodIn_r _ [5, 6, 7] (by decide +kernel) (by decide +kernel)) (goodIn_sub (fun _ h => List.mem_cons_of_mem _ (List.mem_append_right _ h)) (by decide +kernel))
set_option maxRecDepth 20000 in
theorem gX5_view_X5_checkCell : GoodIn wsX5_view (va_wsS RX5 34 yX5_checkCell wsX5_checkCell) := goodIn_app (goodIn_of _ (by decide +kernel)) ggX5_view_X5_checkCell
set_option maxRecDepth 20000 in
theorem ggX5_view_X1_countSeen : GoodIn wsX5_view wsX1_countSeen := goodIn_r _ [12, 13, 14, 15, 11, 16, 17, 18, 19, 20, 21, 22, 23, 24, 25, 26, 27, 28, 29, 30, 35] (by decide +kernel) (by decide +kernel)
set_option maxRecDepth 20000 in
theorem gX5_view_X1_countSeen : GoodIn wsX5_view (wsV RX5 57 RX1 yX1_countSeen wsX1_countSeen) := goodIn_app (goodIn_of _ (by decide +kernel)) ggX5_view_X1_countSeen
theorem dX5_view_0 : decode cX5_view 0 = .ok (.iload_n 1, 1) := by decide +kernel
theorem dX5_view_1 : decode cX5_view 1 = .ok (.invokestatic 34, 3) := by decide +kernel
theorem dX5_view_4 : decode cX5_view 4 = .ok (.aload_n 0, 1) := by decide +kernel
theorem dX5_view_5 : decode cX5_view 5 = .ok (.getfield 12, 3) := by decide +kernel
theorem dX5_view_8 : decode cX5_view 8 = .ok (.iload_n 1, 1) := by decide +kernel
theorem dX5_view_9 : decode cX5_view 9 = .ok (.invokevirtual 57, 3) := by decide +kernel
theorem dX5_view_12 : decode cX5_view 12 = .ok (.ireturn, 1) := by decide +kernel
set_option maxRecDepth 20000 in
theorem ggX5_setReferee_X5_checkReferee : GoodIn wsX5_setReferee wsX5_checkReferee := goodIn_ca (goodIn_r _ [5, 6, 7] (by decide +kernel) (by decide +kernel)) (goodIn_sub (fun _ h => List.mem_cons_of_mem _ (List.mem_append_right _ h)) (by decide +kernel))
set_option maxRecDepth 20000 in
theorem gX5_setReferee_X5_checkReferee : GoodIn wsX5_setReferee (va_wsS RX5 61 yX5_checkReferee wsX5_checkReferee) := goodIn_app (goodIn_of _ (by decide +kernel)) ggX5_setReferee_X5_checkReferee
set_option maxRecDepth 20000 in
theorem ggX5_setReferee_X5_checkCell : GoodIn wsX5_setReferee wsX5_checkCell := goodIn_ca (goodIn_r _ [10, 6, 7] (by decide +kernel) (by decide +kernel)) (goodIn_sub (fun _ h => List.mem_cons_of_mem _ (List.mem_append_right _ h)) (by decide +kernel))
set_option maxRecDepth 20000 in
theorem gX5_setReferee_X5_checkCell : GoodIn wsX5_setReferee (va_wsS RX5 34 yX5_checkCell wsX5_checkCell) := goodIn_app (goodIn_of _ (by decide +kernel)) ggX5_setReferee_X5_checkCell
theorem dX5_setReferee_0 : decode cX5_setReferee 0 = .ok (.iload_n 1, 1) := by decide +kernel
theorem dX5_setReferee_1 : decode cX5_setReferee 1 = .ok (.invokestatic 61, 3) := by decide +kernel
theorem dX5_setReferee_4 : decode cX5_setReferee 4 = .ok (.iload_n 2, 1) := by decide +kernel
theorem dX5_setReferee_5 : decode cX5_setReferee 5 = .ok (.invokestatic 34, 3) := by decide +kernel
theorem dX5_setReferee_8 : decode cX5_setReferee 8 = .ok (.aload_n 0, 1) := by decide +kernel
theorem dX5_setReferee_9 : decode cX5_setReferee 9 = .ok (.getfield 30, 3) := by decide +kernel
theorem dX5_setReferee_12 : decode cX5_setReferee 12 = .ok (.iload_n 1, 1) := by decide +kernel
theorem dX5_setReferee_13 : decode cX5_setReferee 13 = .ok (.iaload, 1) := by decide +kernel
theorem dX5_setReferee_14 : decode cX5_setReferee 14 = .ok (.istore_n 3, 1) := by decide +kernel
theorem dX5_setReferee_15 : decode cX5_setReferee 15 = .ok (.aload_n 0, 1) := by decide +kernel
theorem dX5_setReferee_16 : decode cX5_setReferee 16 = .ok (.getfield 30, 3) := by decide +kernel
theorem dX5_setReferee_19 : decode cX5_setReferee 19 = .ok (.iload_n 1, 1) := by decide +kernel
theorem dX5_setReferee_20 : decode cX5_setReferee 20 = .ok (.iload_n 2, 1) := by decide +kernel
theorem dX5_setReferee_21 : decode cX5_setReferee 21 = .ok (.iastore, 1) := by decide +kernel
theorem dX5_setReferee_22 : decode cX5_setReferee 22 = .ok (.iload_n 3, 1) := by decide +kernel
theorem dX5_setReferee_23 : decode cX5_setReferee 23 = .ok (.ireturn, 1) := by decide +kernel
set_option maxRecDepth 20000 in
theorem ggX5_begin_X5_checkTeam : GoodIn wsX5_begin wsX5_checkTeam := goodIn_ca (goodIn_r _ [9, 10, 11] (by decide +kernel) (by decide +kernel)) (goodIn_sub (fun _ h => List.mem_cons_of_mem _ (List.mem_append_right _ h)) (by decide +kernel))
set_option maxRecDepth 20000 in
theorem gX5_begin_X5_checkTeam : GoodIn wsX5_begin (va_wsS RX5 64 yX5_checkTeam wsX5_checkTeam) := goodIn_app (goodIn_of _ (by decide +kernel)) ggX5_begin_X5_checkTeam
set_option maxRecDepth 20000 in
theorem ggX5_begin_X2_isPlayed : GoodIn wsX5_begin wsX2_isPlayed := goodIn_r _ [16, 17, 39, 40, 41, 42, 43, 44, 45, 46] (by decide +kernel) (by decide +kernel)
set_option maxRecDepth 20000 in
theorem gX5_begin_X2_isPlayed : GoodIn wsX5_begin (wsV RX5 38 RX2 yX2_isPlayed wsX2_isPlayed) := goodIn_app (goodIn_of _ (by decide +kernel)) ggX5_begin_X2_isPlayed
set_option maxRecDepth 20000 in
theorem ggX5_begin_X2_start : GoodIn wsX5_begin wsX2_start := goodIn_r _ [21, 22, 23, 17, 24, 25, 26, 15, 27, 28, 29, 30, 31, 32, 33, 34, 39, 40, 41, 42, 43, 44, 45, 46, 47, 48, 49, 50, 51, 52, 53, 54, 55, 56] (by decide +kernel) (by decide +kernel)
set_option maxRecDepth 20000 in
theorem gX5_begin_X2_start : GoodIn wsX5_begin (wsV RX5 72 RX2 yX2_start wsX2_start) := goodIn_app (goodIn_of _ (by decide +kernel)) ggX5_begin_X2_start
theorem dX5_begin_0 : decode cX5_begin 0 = .ok (.iload_n 1, 1) := by decide +kernel
theorem dX5_begin_1 : decode cX5_begin 1 = .ok (.invokestatic 64, 3) := by decide +kernel
theorem dX5_begin_4 : decode cX5_begin 4 = .ok (.iload_n 2, 1) := by decide +kernel
theorem dX5_begin_5 : decode cX5_begin 5 = .ok (.invokestatic 64, 3) := by decide +kernel
theorem dX5_begin_8 : decode cX5_begin 8 = .ok (.iload_n 1, 1) := by decide +kernel
theorem dX5_begin_9 : decode cX5_begin 9 = .ok (.iload_n 2, 1) := by decide +kernel
theorem dX5_begin_10 : decode cX5_begin 10 = .ok (.if_icmp .ne 13, 3) := by decide +kernel
theorem dX5_begin_13 : decode cX5_begin 13 = .ok (.new 67, 3) := by decide +kernel
theorem dX5_begin_16 : decode cX5_begin 16 = .ok (.dup, 1) := by decide +kernel
theorem dX5_begin_17 : decode cX5_begin 17 = .ok (.ldc 69, 2) := by decide +kernel
theorem dX5_begin_19 : decode cX5_begin 19 = .ok (.invokespecial 71, 3) := by decide +kernel
theorem dX5_begin_22 : decode cX5_begin 22 = .ok (.athrow, 1) := by decide +kernel
theorem dX5_begin_23 : decode cX5_begin 23 = .ok (.aload_n 0, 1) := by decide +kernel
theorem dX5_begin_24 : decode cX5_begin 24 = .ok (.getfield 19, 3) := by decide +kernel
theorem dX5_begin_27 : decode cX5_begin 27 = .ok (.invokevirtual 38, 3) := by decide +kernel
theorem dX5_begin_30 : decode cX5_begin 30 = .ok (.ifCond .eq 13, 3) := by decide +kernel
theorem dX5_begin_33 : decode cX5_begin 33 = .ok (.new 42, 3) := by decide +kernel
theorem dX5_begin_36 : decode cX5_begin 36 = .ok (.dup, 1) := by decide +kernel
theorem dX5_begin_37 : decode cX5_begin 37 = .ok (.ldc 44, 2) := by decide +kernel
theorem dX5_begin_39 : decode cX5_begin 39 = .ok (.invokespecial 46, 3) := by decide +kernel
theorem dX5_begin_42 : decode cX5_begin 42 = .ok (.athrow, 1) := by decide +kernel
theorem dX5_begin_43 : decode cX5_begin 43 = .ok (.aload_n 0, 1) := by decide +kernel
theorem dX5_begin_44 : decode cX5_begin 44 = .ok (.getfield 19, 3) := by decide +kernel
theorem dX5_begin_47 : decode cX5_begin 47 = .ok (.iload_n 1, 1) := by decide +kernel
theorem dX5_begin_48 : decode cX5_begin 48 = .ok (.iload_n 2, 1) := by decide +kernel
theorem dX5_begin_49 : decode cX5_begin 49 = .ok (.invokevirtual 72, 3) := by decide +kernel
theorem dX5_begin_52 : decode cX5_begin 52 = .ok (.return_, 1) := by decide +kernel
set_option maxRecDepth 20000 in
theorem ggX5_move_X5_checkPlayer : GoodIn wsX5_move wsX5_checkPlayer := goodIn_ca (goodIn_r _ [8, 9, 10] (by decide +kernel) (by decide +kernel)) (goodIn_sub (fun _ h => List.mem_cons_of_mem _ (List.mem_append_right _ h)) (by decide +kernel))
set_option maxRecDepth 20000 in
theorem gX5_move_X5_checkPlayer : GoodIn wsX5_move (va_wsS RX5 76 yX5_checkPlayer wsX5_checkPlayer) := goodIn_app (goodIn_of _ (by decide +kernel)) ggX5_move_X5_checkPlayer
set_option maxRecDepth 20000 in
theorem ggX5_move_X5_checkCell : GoodIn wsX5_move wsX5_checkCell := goodIn_ca (goodIn_r _ [13, 9, 10] (by decide +kernel) (by decide +kernel)) (goodIn_sub (fun _ h => List.mem_cons_of_mem _ (List.mem_append_right _ h)) (by decide +kernel))
set_option maxRecDepth 20000 in
theorem gX5_move_X5_checkCell : GoodIn wsX5_move (va_wsS RX5 34 yX5_checkCell wsX5_checkCell) := goodIn_app (goodIn_of _ (by decide +kernel)) ggX5_move_X5_checkCell
set_option maxRecDepth 20000 in
theorem ggX5_move_X5_checkRound : GoodIn wsX5_move wsX5_checkRound := goodIn_ca (goodIn_r _ [17, 1, 2, 3, 18, 19, 20, 21, 22, 23, 53, 54, 55, 56, 57, 58, 59, 60, 61, 62, 63, 64] (by decide +kernel) (by decide +kernel)) (goodIn_sub (fun _ h => List.mem_cons_of_mem _ (List.mem_append_left _ (List.mem_append_right _ h))) (by decide +kernel))
set_option maxRecDepth 20000 in
theorem gX5_move_X5_checkRound : GoodIn wsX5_move (wsV RX5 79 RX5 yX5_checkRound wsX5_checkRound) := goodIn_app (goodIn_of _ (by decide +kernel)) ggX5_move_X5_checkRound
set_option maxRecDepth 20000 in
theorem ggX5_move_X2_cellOf : GoodIn wsX5_move wsX2_cellOf := goodIn_r _ [27, 28, 57, 58, 59, 60, 61, 62, 63, 64] (by decide +kernel) (by decide +kernel)
set_option maxRecDepth 20000 in
theorem gX5_move_X2_cellOf : GoodIn wsX5_move (wsV RX5 82 RX2 yX2_cellOf wsX2_cellOf) := goodIn_app (goodIn_of _ (by decide +kernel)) ggX5_move_X2_cellOf
set_option maxRecDepth 20000 in
theorem ggX5_move_X1_distance : GoodIn wsX5_move wsX1_distance := goodIn_r _ [32, 33, 34, 35, 36, 37, 38, 39] (by decide +kernel) (by decide +kernel)
set_option maxRecDepth 20000 in
theorem gX5_move_X1_distance : GoodIn wsX5_move (va_wsS RX5 87 yX1_distance wsX1_distance) := goodIn_app (goodIn_of _ (by decide +kernel)) ggX5_move_X1_distance
set_option maxRecDepth 20000 in
theorem ggX5_move_X1_hasBunker : GoodIn wsX5_move wsX1_hasBunker := goodIn_r _ [43, 44, 65] (by decide +kernel) (by decide +kernel)
set_option maxRecDepth 20000 in
theorem gX5_move_X1_hasBunker : GoodIn wsX5_move (wsV RX5 93 RX1 yX1_hasBunker wsX1_hasBunker) := goodIn_app (goodIn_of _ (by decide +kernel)) ggX5_move_X1_hasBunker
set_option maxRecDepth 20000 in
theorem ggX5_move_X2_playerOn : GoodIn wsX5_move wsX2_playerOn := goodIn_r _ [48, 28, 57, 58, 59, 60, 61, 62, 63, 64] (by decide +kernel) (by decide +kernel)
set_option maxRecDepth 20000 in
theorem gX5_move_X2_playerOn : GoodIn wsX5_move (wsV RX5 96 RX2 yX2_playerOn wsX2_playerOn) := goodIn_app (goodIn_of _ (by decide +kernel)) ggX5_move_X2_playerOn
set_option maxRecDepth 20000 in
theorem ggX5_move_X2_put : GoodIn wsX5_move wsX2_put := goodIn_r _ [52, 28, 57, 58, 59, 60, 61, 62, 63, 64] (by decide +kernel) (by decide +kernel)
set_option maxRecDepth 20000 in
theorem gX5_move_X2_put : GoodIn wsX5_move (wsV RX5 101 RX2 yX2_put wsX2_put) := goodIn_app (goodIn_of _ (by decide +kernel)) ggX5_move_X2_put
theorem dX5_move_0 : decode cX5_move 0 = .ok (.iload_n 1, 1) := by decide +kernel
theorem dX5_move_1 : decode cX5_move 1 = .ok (.invokestatic 76, 3) := by decide +kernel
theorem dX5_move_4 : decode cX5_move 4 = .ok (.iload_n 2, 1) := by decide +kernel
theorem dX5_move_5 : decode cX5_move 5 = .ok (.invokestatic 34, 3) := by decide +kernel
theorem dX5_move_8 : decode cX5_move 8 = .ok (.aload_n 0, 1) := by decide +kernel
theorem dX5_move_9 : decode cX5_move 9 = .ok (.invokevirtual 79, 3) := by decide +kernel
theorem dX5_move_12 : decode cX5_move 12 = .ok (.aload_n 0, 1) := by decide +kernel
theorem dX5_move_13 : decode cX5_move 13 = .ok (.getfield 19, 3) := by decide +kernel
theorem dX5_move_16 : decode cX5_move 16 = .ok (.iload_n 1, 1) := by decide +kernel
theorem dX5_move_17 : decode cX5_move 17 = .ok (.invokevirtual 82, 3) := by decide +kernel
theorem dX5_move_20 : decode cX5_move 20 = .ok (.istore_n 3, 1) := by decide +kernel
theorem dX5_move_21 : decode cX5_move 21 = .ok (.iload_n 3, 1) := by decide +kernel
theorem dX5_move_22 : decode cX5_move 22 = .ok (.bipush (-2), 2) := by decide +kernel
theorem dX5_move_24 : decode cX5_move 24 = .ok (.if_icmp .ne 13, 3) := by decide +kernel
theorem dX5_move_27 : decode cX5_move 27 = .ok (.new 42, 3) := by decide +kernel
theorem dX5_move_30 : decode cX5_move 30 = .ok (.dup, 1) := by decide +kernel
theorem dX5_move_31 : decode cX5_move 31 = .ok (.ldc 85, 2) := by decide +kernel
theorem dX5_move_33 : decode cX5_move 33 = .ok (.invokespecial 46, 3) := by decide +kernel
theorem dX5_move_36 : decode cX5_move 36 = .ok (.athrow, 1) := by decide +kernel
theorem dX5_move_37 : decode cX5_move 37 = .ok (.iload_n 3, 1) := by decide +kernel
theorem dX5_move_38 : decode cX5_move 38 = .ok (.ifCond .lt 22, 3) := by decide +kernel
theorem dX5_move_41 : decode cX5_move 41 = .ok (.iload_n 3, 1) := by decide +kernel
theorem dX5_move_42 : decode cX5_move 42 = .ok (.iload_n 2, 1) := by decide +kernel
theorem dX5_move_43 : decode cX5_move 43 = .ok (.invokestatic 87, 3) := by decide +kernel
theorem dX5_move_46 : decode cX5_move 46 = .ok (.iconst 1, 1) := by decide +kernel
theorem dX5_move_47 : decode cX5_move 47 = .ok (.if_icmp .eq 13, 3) := by decide +kernel
theorem dX5_move_50 : decode cX5_move 50 = .ok (.new 42, 3) := by decide +kernel
theorem dX5_move_53 : decode cX5_move 53 = .ok (.dup, 1) := by decide +kernel
theorem dX5_move_54 : decode cX5_move 54 = .ok (.ldc 91, 2) := by decide +kernel
theorem dX5_move_56 : decode cX5_move 56 = .ok (.invokespecial 46, 3) := by decide +kernel
theorem dX5_move_59 : decode cX5_move 59 = .ok (.athrow, 1) := by decide +kernel
theorem dX5_move_60 : decode cX5_move 60 = .ok (.aload_n 0, 1) := by decide +kernel
theorem dX5_move_61 : decode cX5_move 61 = .ok (.getfield 12, 3) := by decide +kernel
theorem dX5_move_64 : decode cX5_move 64 = .ok (.iload_n 2, 1) := by decide +kernel
theorem dX5_move_65 : decode cX5_move 65 = .ok (.invokevirtual 93, 3) := by decide +kernel
theorem dX5_move_68 : decode cX5_move 68 = .ok (.ifCond .ne 15, 3) := by decide +kernel
theorem dX5_move_71 : decode cX5_move 71 = .ok (.aload_n 0, 1) := by decide +kernel
theorem dX5_move_72 : decode cX5_move 72 = .ok (.getfield 19, 3) := by decide +kernel
theorem dX5_move_75 : decode cX5_move 75 = .ok (.iload_n 2, 1) := by decide +kernel
theorem dX5_move_76 : decode cX5_move 76 = .ok (.invokevirtual 96, 3) := by decide +kernel
theorem dX5_move_79 : decode cX5_move 79 = .ok (.iconst (-1), 1) := by decide +kernel
theorem dX5_move_80 : decode cX5_move 80 = .ok (.if_icmp .eq 13, 3) := by decide +kernel
theorem dX5_move_83 : decode cX5_move 83 = .ok (.new 42, 3) := by decide +kernel
theorem dX5_move_86 : decode cX5_move 86 = .ok (.dup, 1) := by decide +kernel
theorem dX5_move_87 : decode cX5_move 87 = .ok (.ldc 99, 2) := by decide +kernel
theorem dX5_move_89 : decode cX5_move 89 = .ok (.invokespecial 46, 3) := by decide +kernel
theorem dX5_move_92 : decode cX5_move 92 = .ok (.athrow, 1) := by decide +kernel
theorem dX5_move_93 : decode cX5_move 93 = .ok (.aload_n 0, 1) := by decide +kernel
theorem dX5_move_94 : decode cX5_move 94 = .ok (.getfield 19, 3) := by decide +kernel
theorem dX5_move_97 : decode cX5_move 97 = .ok (.iload_n 1, 1) := by decide +kernel
theorem dX5_move_98 : decode cX5_move 98 = .ok (.iload_n 2, 1) := by decide +kernel
theorem dX5_move_99 : decode cX5_move 99 = .ok (.invokevirtual 101, 3) := by decide +kernel
theorem dX5_move_102 : decode cX5_move 102 = .ok (.iload_n 3, 1) := by decide +kernel
theorem dX5_move_103 : decode cX5_move 103 = .ok (.ireturn, 1) := by decide +kernel
set_option maxRecDepth 20000 in
theorem ggX5_shoot_X5_checkPlayer : GoodIn wsX5_shoot wsX5_checkPlayer := goodIn_ca (goodIn_r _ [7, 8, 9] (by decide +kernel) (by decide +kernel)) (goodIn_sub (fun _ h => List.mem_cons_of_mem _ (List.mem_append_right _ h)) (by decide +kernel))
set_option maxRecDepth 20000 in
theorem gX5_shoot_X5_checkPlayer : GoodIn wsX5_shoot (va_wsS RX5 76 yX5_checkPlayer wsX5_checkPlayer) := goodIn_app (goodIn_of _ (by decide +kernel)) ggX5_shoot_X5_checkPlayer
set_option maxRecDepth 20000 in
theorem ggX5_shoot_X5_checkCell : GoodIn wsX5_shoot wsX5_checkCell := goodIn_ca (goodIn_r _ [12, 8, 9] (by decide +kernel) (by decide +kernel)) (goodIn_sub (fun _ h => List.mem_cons_of_mem _ (List.mem_append_right _ h)) (by decide +kernel))
set_option maxRecDepth 20000 in
theorem gX5_shoot_X5_checkCell : GoodIn wsX5_shoot (va_wsS RX5 34 yX5_checkCell wsX5_checkCell) := goodIn_app (goodIn_of _ (by decide +kernel)) ggX5_shoot_X5_checkCell
set_option maxRecDepth 20000 in
theorem ggX5_shoot_X5_checkRound : GoodIn wsX5_shoot wsX5_checkRound := goodIn_ca (goodIn_r _ [16, 1, 2, 3, 17, 18, 19, 20, 21, 22, 60, 61, 62, 63, 64, 65, 66, 67, 68, 69, 70, 71] (by decide +kernel) (by decide +kernel)) (goodIn_sub (fun _ h => List.mem_cons_of_mem _ (List.mem_append_left _ (List.mem_append_right _ h))) (by decide +kernel))
set_option maxRecDepth 20000 in
theorem gX5_shoot_X5_checkRound : GoodIn wsX5_shoot (wsV RX5 79 RX5 yX5_checkRound wsX5_checkRound) := goodIn_app (goodIn_of _ (by decide +kernel)) ggX5_shoot_X5_checkRound
set_option maxRecDepth 20000 in
theorem ggX5_shoot_X2_cellOf : GoodIn wsX5_shoot wsX2_cellOf := goodIn_r _ [26, 27, 64, 65, 66, 67, 68, 69, 70, 71] (by decide +kernel) (by decide +kernel)
set_option maxRecDepth 20000 in
theorem gX5_shoot_X2_cellOf : GoodIn wsX5_shoot (wsV RX5 82 RX2 yX2_cellOf wsX2_cellOf) := goodIn_app (goodIn_of _ (by decide +kernel)) ggX5_shoot_X2_cellOf
set_option maxRecDepth 20000 in
theorem ggX5_shoot_X2_mayFire : GoodIn wsX5_shoot wsX2_mayFire := goodIn_r _ [31, 32, 22, 33, 34, 64, 65, 66, 67, 68, 69, 70, 71, 72, 73, 74, 75, 76] (by decide +kernel) (by decide +kernel)
set_option maxRecDepth 20000 in
theorem gX5_shoot_X2_mayFire : GoodIn wsX5_shoot (wsV RX5 108 RX2 yX2_mayFire wsX2_mayFire) := goodIn_app (goodIn_of _ (by decide +kernel)) ggX5_shoot_X2_mayFire
set_option maxRecDepth 20000 in
theorem ggX5_shoot_X2_fire : GoodIn wsX5_shoot wsX2_fire := goodIn_r _ [38, 27, 22, 32, 33, 39, 40, 41, 42, 43, 44, 45, 46, 47, 48, 49, 50, 51, 52, 53, 54, 55, 56, 57, 58, 59, 64, 65, 66, 67, 68, 69, 70, 71, 72, 73, 74, 75, 76] (by decide +kernel) (by decide +kernel)
set_option maxRecDepth 20000 in
theorem gX5_shoot_X2_fire : GoodIn wsX5_shoot (wsV RX5 113 RX2 yX2_fire wsX2_fire) := goodIn_app (goodIn_of _ (by decide +kernel)) ggX5_shoot_X2_fire
theorem dX5_shoot_0 : decode cX5_shoot 0 = .ok (.iload_n 1, 1) := by decide +kernel
theorem dX5_shoot_1 : decode cX5_shoot 1 = .ok (.invokestatic 76, 3) := by decide +kernel
theorem dX5_shoot_4 : decode cX5_shoot 4 = .ok (.iload_n 2, 1) := by decide +kernel
theorem dX5_shoot_5 : decode cX5_shoot 5 = .ok (.invokestatic 34, 3) := by decide +kernel
theorem dX5_shoot_8 : decode cX5_shoot 8 = .ok (.aload_n 0, 1) := by decide +kernel
theorem dX5_shoot_9 : decode cX5_shoot 9 = .ok (.invokevirtual 79, 3) := by decide +kernel
theorem dX5_shoot_12 : decode cX5_shoot 12 = .ok (.aload_n 0, 1) := by decide +kernel
theorem dX5_shoot_13 : decode cX5_shoot 13 = .ok (.getfield 19, 3) := by decide +kernel
theorem dX5_shoot_16 : decode cX5_shoot 16 = .ok (.iload_n 1, 1) := by decide +kernel
theorem dX5_shoot_17 : decode cX5_shoot 17 = .ok (.invokevirtual 82, 3) := by decide +kernel
theorem dX5_shoot_20 : decode cX5_shoot 20 = .ok (.istore_n 3, 1) := by decide +kernel
theorem dX5_shoot_21 : decode cX5_shoot 21 = .ok (.iload_n 3, 1) := by decide +kernel
theorem dX5_shoot_22 : decode cX5_shoot 22 = .ok (.ifCond .ge 13, 3) := by decide +kernel
theorem dX5_shoot_25 : decode cX5_shoot 25 = .ok (.new 42, 3) := by decide +kernel
theorem dX5_shoot_28 : decode cX5_shoot 28 = .ok (.dup, 1) := by decide +kernel
theorem dX5_shoot_29 : decode cX5_shoot 29 = .ok (.ldc 104, 2) := by decide +kernel
theorem dX5_shoot_31 : decode cX5_shoot 31 = .ok (.invokespecial 46, 3) := by decide +kernel
theorem dX5_shoot_34 : decode cX5_shoot 34 = .ok (.athrow, 1) := by decide +kernel
theorem dX5_shoot_35 : decode cX5_shoot 35 = .ok (.iload_n 3, 1) := by decide +kernel
theorem dX5_shoot_36 : decode cX5_shoot 36 = .ok (.iload_n 2, 1) := by decide +kernel
theorem dX5_shoot_37 : decode cX5_shoot 37 = .ok (.if_icmp .ne 13, 3) := by decide +kernel
theorem dX5_shoot_40 : decode cX5_shoot 40 = .ok (.new 42, 3) := by decide +kernel
theorem dX5_shoot_43 : decode cX5_shoot 43 = .ok (.dup, 1) := by decide +kernel
theorem dX5_shoot_44 : decode cX5_shoot 44 = .ok (.ldc 106, 2) := by decide +kernel
theorem dX5_shoot_46 : decode cX5_shoot 46 = .ok (.invokespecial 46, 3) := by decide +kernel
theorem dX5_shoot_49 : decode cX5_shoot 49 = .ok (.athrow, 1) := by decide +kernel
theorem dX5_shoot_50 : decode cX5_shoot 50 = .ok (.aload_n 0, 1) := by decide +kernel
theorem dX5_shoot_51 : decode cX5_shoot 51 = .ok (.getfield 19, 3) := by decide +kernel
theorem dX5_shoot_54 : decode cX5_shoot 54 = .ok (.iload_n 1, 1) := by decide +kernel
theorem dX5_shoot_55 : decode cX5_shoot 55 = .ok (.invokevirtual 108, 3) := by decide +kernel
theorem dX5_shoot_58 : decode cX5_shoot 58 = .ok (.ifCond .ne 13, 3) := by decide +kernel
theorem dX5_shoot_61 : decode cX5_shoot 61 = .ok (.new 42, 3) := by decide +kernel
theorem dX5_shoot_64 : decode cX5_shoot 64 = .ok (.dup, 1) := by decide +kernel
theorem dX5_shoot_65 : decode cX5_shoot 65 = .ok (.ldc 111, 2) := by decide +kernel
theorem dX5_shoot_67 : decode cX5_shoot 67 = .ok (.invokespecial 46, 3) := by decide +kernel
theorem dX5_shoot_70 : decode cX5_shoot 70 = .ok (.athrow, 1) := by decide +kernel
theorem dX5_shoot_71 : decode cX5_shoot 71 = .ok (.aload_n 0, 1) := by decide +kernel
theorem dX5_shoot_72 : decode cX5_shoot 72 = .ok (.getfield 19, 3) := by decide +kernel
theorem dX5_shoot_75 : decode cX5_shoot 75 = .ok (.iload_n 1, 1) := by decide +kernel
theorem dX5_shoot_76 : decode cX5_shoot 76 = .ok (.iload_n 2, 1) := by decide +kernel
theorem dX5_shoot_77 : decode cX5_shoot 77 = .ok (.invokevirtual 113, 3) := by decide +kernel
theorem dX5_shoot_80 : decode cX5_shoot 80 = .ok (.ireturn, 1) := by decide +kernel
set_option maxRecDepth 20000 in
theorem ggX5_pass_X5_checkRound : GoodIn wsX5_pass wsX5_checkRound := goodIn_ca (goodIn_r _ [9, 10, 11, 3, 12, 13, 14, 15, 16, 17, 57, 58, 59, 60, 61, 62, 63, 64, 65, 66, 67, 68] (by decide +kernel) (by decide +kernel)) (goodIn_sub (fun _ h => List.mem_cons_of_mem _ (List.mem_append_right _ h)) (by decide +kernel))
set_option maxRecDepth 20000 in
theorem gX5_pass_X5_checkRound : GoodIn wsX5_pass (wsV RX5 79 RX5 yX5_checkRound wsX5_checkRound) := goodIn_app (goodIn_of _ (by decide +kernel)) ggX5_pass_X5_checkRound
set_option maxRecDepth 20000 in
theorem ggX5_pass_X2_nextTick : GoodIn wsX5_pass wsX2_nextTick := goodIn_r _ [21, 17, 22, 23, 24, 25, 26, 27, 15, 28, 29, 30, 31, 32, 33, 34, 35, 36, 37, 38, 39, 40, 41, 42, 43, 44, 45, 46, 47, 48, 49, 50, 51, 52, 53, 54, 55, 56, 61, 62, 63, 64, 65, 66, 67, 68, 69, 70, 71, 72, 73, 74] (by decide +kernel) (by decide +kernel)
set_option maxRecDepth 20000 in
theorem gX5_pass_X2_nextTick : GoodIn wsX5_pass (wsV RX5 118 RX2 yX2_nextTick wsX2_nextTick) := goodIn_app (goodIn_of _ (by decide +kernel)) ggX5_pass_X2_nextTick
theorem dX5_pass_0 : decode cX5_pass 0 = .ok (.iload_n 1, 1) := by decide +kernel
theorem dX5_pass_1 : decode cX5_pass 1 = .ok (.iconst 1, 1) := by decide +kernel
theorem dX5_pass_2 : decode cX5_pass 2 = .ok (.if_icmp .lt 9, 3) := by decide +kernel
theorem dX5_pass_5 : decode cX5_pass 5 = .ok (.iload_n 1, 1) := by decide +kernel
theorem dX5_pass_6 : decode cX5_pass 6 = .ok (.bipush 50, 2) := by decide +kernel
theorem dX5_pass_8 : decode cX5_pass 8 = .ok (.if_icmp .le 13, 3) := by decide +kernel
theorem dX5_pass_11 : decode cX5_pass 11 = .ok (.new 67, 3) := by decide +kernel
theorem dX5_pass_14 : decode cX5_pass 14 = .ok (.dup, 1) := by decide +kernel
theorem dX5_pass_15 : decode cX5_pass 15 = .ok (.ldc 116, 2) := by decide +kernel
theorem dX5_pass_17 : decode cX5_pass 17 = .ok (.invokespecial 71, 3) := by decide +kernel
theorem dX5_pass_20 : decode cX5_pass 20 = .ok (.athrow, 1) := by decide +kernel
theorem dX5_pass_21 : decode cX5_pass 21 = .ok (.aload_n 0, 1) := by decide +kernel
theorem dX5_pass_22 : decode cX5_pass 22 = .ok (.invokevirtual 79, 3) := by decide +kernel
theorem dX5_pass_25 : decode cX5_pass 25 = .ok (.iconst 0, 1) := by decide +kernel
theorem dX5_pass_26 : decode cX5_pass 26 = .ok (.istore_n 2, 1) := by decide +kernel
theorem dX5_pass_27 : decode cX5_pass 27 = .ok (.iconst 0, 1) := by decide +kernel
theorem dX5_pass_28 : decode cX5_pass 28 = .ok (.istore_n 3, 1) := by decide +kernel
theorem dX5_pass_29 : decode cX5_pass 29 = .ok (.iload_n 3, 1) := by decide +kernel
theorem dX5_pass_30 : decode cX5_pass 30 = .ok (.iload_n 1, 1) := by decide +kernel
theorem dX5_pass_31 : decode cX5_pass 31 = .ok (.if_icmp .ge 23, 3) := by decide +kernel
theorem dX5_pass_34 : decode cX5_pass 34 = .ok (.iload_n 2, 1) := by decide +kernel
theorem dX5_pass_35 : decode cX5_pass 35 = .ok (.aload_n 0, 1) := by decide +kernel
theorem dX5_pass_36 : decode cX5_pass 36 = .ok (.getfield 19, 3) := by decide +kernel
theorem dX5_pass_39 : decode cX5_pass 39 = .ok (.aload_n 0, 1) := by decide +kernel
theorem dX5_pass_40 : decode cX5_pass 40 = .ok (.getfield 12, 3) := by decide +kernel
theorem dX5_pass_43 : decode cX5_pass 43 = .ok (.invokevirtual 118, 3) := by decide +kernel
theorem dX5_pass_46 : decode cX5_pass 46 = .ok (.iadd, 1) := by decide +kernel
theorem dX5_pass_47 : decode cX5_pass 47 = .ok (.istore_n 2, 1) := by decide +kernel
theorem dX5_pass_48 : decode cX5_pass 48 = .ok (.iinc 3 1, 3) := by decide +kernel
theorem dX5_pass_51 : decode cX5_pass 51 = .ok (.goto (-22), 3) := by decide +kernel
theorem dX5_pass_54 : decode cX5_pass 54 = .ok (.iload_n 2, 1) := by decide +kernel
theorem dX5_pass_55 : decode cX5_pass 55 = .ok (.ireturn, 1) := by decide +kernel
set_option maxRecDepth 20000 in
theorem ggX5_call_X5_checkReferee : GoodIn wsX5_call wsX5_checkReferee := goodIn_ca (goodIn_r _ [9, 10, 11] (by decide +kernel) (by decide +kernel)) (goodIn_sub (fun _ h => List.mem_cons_of_mem _ (List.mem_append_right _ h)) (by decide +kernel))
set_option maxRecDepth 20000 in
theorem gX5_call_X5_checkReferee : GoodIn wsX5_call (va_wsS RX5 61 yX5_checkReferee wsX5_checkReferee) := goodIn_app (goodIn_of _ (by decide +kernel)) ggX5_call_X5_checkReferee
set_option maxRecDepth 20000 in
theorem ggX5_call_X5_checkPlayer : GoodIn wsX5_call wsX5_checkPlayer := goodIn_ca (goodIn_r _ [14, 10, 11] (by decide +kernel) (by decide +kernel)) (goodIn_sub (fun _ h => List.mem_cons_of_mem _ (List.mem_append_right _ h)) (by decide +kernel))
set_option maxRecDepth 20000 in
theorem gX5_call_X5_checkPlayer : GoodIn wsX5_call (va_wsS RX5 76 yX5_checkPlayer wsX5_checkPlayer) := goodIn_app (goodIn_of _ (by decide +kernel)) ggX5_call_X5_checkPlayer
set_option maxRecDepth 20000 in
theorem ggX5_call_X5_checkRound : GoodIn wsX5_call wsX5_checkRound := goodIn_ca (goodIn_r _ [18, 1, 2, 3, 19, 20, 21, 22, 23, 24, 69, 70, 71, 72, 73, 74, 75, 76, 77, 78, 79, 80] (by decide +kernel) (by decide +kernel)) (goodIn_sub (fun _ h => List.mem_cons_of_mem _ (List.mem_append_left _ (List.mem_append_right _ h))) (by decide +kernel))
set_option maxRecDepth 20000 in
theorem gX5_call_X5_checkRound : GoodIn wsX5_call (wsV RX5 79 RX5 yX5_checkRound wsX5_checkRound) := goodIn_app (goodIn_of _ (by decide +kernel)) ggX5_call_X5_checkRound
set_option maxRecDepth 20000 in
theorem ggX5_call_X2_cellOf : GoodIn wsX5_call wsX2_cellOf := goodIn_r _ [28, 29, 73, 74, 75, 76, 77, 78, 79, 80] (by decide +kernel) (by decide +kernel)
set_option maxRecDepth 20000 in
theorem gX5_call_X2_cellOf : GoodIn wsX5_call (wsV RX5 82 RX2 yX2_cellOf wsX2_cellOf) := goodIn_app (goodIn_of _ (by decide +kernel)) ggX5_call_X2_cellOf
set_option maxRecDepth 20000 in
theorem ggX5_call_X1_hasSight : GoodIn wsX5_call wsX1_hasSight := goodIn_r _ [34, 35, 36, 37, 38, 39, 40, 41, 42, 43, 44, 33, 45, 46, 47, 48, 81] (by decide +kernel) (by decide +kernel)
set_option maxRecDepth 20000 in
theorem gX5_call_X1_hasSight : GoodIn wsX5_call (wsV RX5 53 RX1 yX1_hasSight wsX1_hasSight) := goodIn_app (goodIn_of _ (by decide +kernel)) ggX5_call_X1_hasSight
set_option maxRecDepth 20000 in
theorem ggX5_call_X2_mayCall : GoodIn wsX5_call wsX2_mayCall := goodIn_r _ [52, 53, 54, 73, 74, 75, 76, 77, 78, 79, 80, 82, 83, 84, 85, 86] (by decide +kernel) (by decide +kernel)
set_option maxRecDepth 20000 in
theorem gX5_call_X2_mayCall : GoodIn wsX5_call (wsV RX5 124 RX2 yX2_mayCall wsX2_mayCall) := goodIn_app (goodIn_of _ (by decide +kernel)) ggX5_call_X2_mayCall
set_option maxRecDepth 20000 in
theorem ggX5_call_X2_callOut : GoodIn wsX5_call wsX2_callOut := goodIn_r _ [58, 53, 29, 24, 59, 60, 61, 62, 63, 64, 65, 66, 67, 68, 73, 74, 75, 76, 77, 78, 79, 80, 82, 83, 84, 85, 86] (by decide +kernel) (by decide +kernel)
set_option maxRecDepth 20000 in
theorem gX5_call_X2_callOut : GoodIn wsX5_call (wsV RX5 129 RX2 yX2_callOut wsX2_callOut) := goodIn_app (goodIn_of _ (by decide +kernel)) ggX5_call_X2_callOut
theorem dX5_call_0 : decode cX5_call 0 = .ok (.iload_n 1, 1) := by decide +kernel
theorem dX5_call_1 : decode cX5_call 1 = .ok (.invokestatic 61, 3) := by decide +kernel
theorem dX5_call_4 : decode cX5_call 4 = .ok (.iload_n 2, 1) := by decide +kernel
theorem dX5_call_5 : decode cX5_call 5 = .ok (.invokestatic 76, 3) := by decide +kernel
theorem dX5_call_8 : decode cX5_call 8 = .ok (.aload_n 0, 1) := by decide +kernel
theorem dX5_call_9 : decode cX5_call 9 = .ok (.invokevirtual 79, 3) := by decide +kernel
theorem dX5_call_12 : decode cX5_call 12 = .ok (.aload_n 0, 1) := by decide +kernel
theorem dX5_call_13 : decode cX5_call 13 = .ok (.getfield 19, 3) := by decide +kernel
theorem dX5_call_16 : decode cX5_call 16 = .ok (.iload_n 2, 1) := by decide +kernel
theorem dX5_call_17 : decode cX5_call 17 = .ok (.invokevirtual 82, 3) := by decide +kernel
theorem dX5_call_20 : decode cX5_call 20 = .ok (.istore_n 3, 1) := by decide +kernel
theorem dX5_call_21 : decode cX5_call 21 = .ok (.iload_n 3, 1) := by decide +kernel
theorem dX5_call_22 : decode cX5_call 22 = .ok (.ifCond .ge 13, 3) := by decide +kernel
theorem dX5_call_25 : decode cX5_call 25 = .ok (.new 42, 3) := by decide +kernel
theorem dX5_call_28 : decode cX5_call 28 = .ok (.dup, 1) := by decide +kernel
theorem dX5_call_29 : decode cX5_call 29 = .ok (.ldc 104, 2) := by decide +kernel
theorem dX5_call_31 : decode cX5_call 31 = .ok (.invokespecial 46, 3) := by decide +kernel
theorem dX5_call_34 : decode cX5_call 34 = .ok (.athrow, 1) := by decide +kernel
theorem dX5_call_35 : decode cX5_call 35 = .ok (.aload_n 0, 1) := by decide +kernel
theorem dX5_call_36 : decode cX5_call 36 = .ok (.getfield 12, 3) := by decide +kernel
theorem dX5_call_39 : decode cX5_call 39 = .ok (.aload_n 0, 1) := by decide +kernel
theorem dX5_call_40 : decode cX5_call 40 = .ok (.getfield 30, 3) := by decide +kernel
theorem dX5_call_43 : decode cX5_call 43 = .ok (.iload_n 1, 1) := by decide +kernel
theorem dX5_call_44 : decode cX5_call 44 = .ok (.iaload, 1) := by decide +kernel
theorem dX5_call_45 : decode cX5_call 45 = .ok (.iload_n 3, 1) := by decide +kernel
theorem dX5_call_46 : decode cX5_call 46 = .ok (.invokevirtual 53, 3) := by decide +kernel
theorem dX5_call_49 : decode cX5_call 49 = .ok (.ifCond .ne 13, 3) := by decide +kernel
theorem dX5_call_52 : decode cX5_call 52 = .ok (.new 42, 3) := by decide +kernel
theorem dX5_call_55 : decode cX5_call 55 = .ok (.dup, 1) := by decide +kernel
theorem dX5_call_56 : decode cX5_call 56 = .ok (.ldc 122, 2) := by decide +kernel
theorem dX5_call_58 : decode cX5_call 58 = .ok (.invokespecial 46, 3) := by decide +kernel
theorem dX5_call_61 : decode cX5_call 61 = .ok (.athrow, 1) := by decide +kernel
theorem dX5_call_62 : decode cX5_call 62 = .ok (.aload_n 0, 1) := by decide +kernel
theorem dX5_call_63 : decode cX5_call 63 = .ok (.getfield 19, 3) := by decide +kernel
theorem dX5_call_66 : decode cX5_call 66 = .ok (.invokevirtual 124, 3) := by decide +kernel
theorem dX5_call_69 : decode cX5_call 69 = .ok (.ifCond .ne 13, 3) := by decide +kernel
theorem dX5_call_72 : decode cX5_call 72 = .ok (.new 42, 3) := by decide +kernel
theorem dX5_call_75 : decode cX5_call 75 = .ok (.dup, 1) := by decide +kernel
theorem dX5_call_76 : decode cX5_call 76 = .ok (.ldc 127, 2) := by decide +kernel
theorem dX5_call_78 : decode cX5_call 78 = .ok (.invokespecial 46, 3) := by decide +kernel
theorem dX5_call_81 : decode cX5_call 81 = .ok (.athrow, 1) := by decide +kernel
theorem dX5_call_82 : decode cX5_call 82 = .ok (.aload_n 0, 1) := by decide +kernel
theorem dX5_call_83 : decode cX5_call 83 = .ok (.getfield 19, 3) := by decide +kernel
theorem dX5_call_86 : decode cX5_call 86 = .ok (.iload_n 2, 1) := by decide +kernel
theorem dX5_call_87 : decode cX5_call 87 = .ok (.invokevirtual 129, 3) := by decide +kernel
theorem dX5_call_90 : decode cX5_call 90 = .ok (.ireturn, 1) := by decide +kernel
set_option maxRecDepth 20000 in
theorem ggX5_dispute_X2_hasCall : GoodIn wsX5_dispute wsX2_hasCall := goodIn_r _ [11, 12, 13, 48, 49, 50, 51, 52, 53, 54, 55, 56, 57, 58, 59, 60] (by decide +kernel) (by decide +kernel)
set_option maxRecDepth 20000 in
theorem gX5_dispute_X2_hasCall : GoodIn wsX5_dispute (wsV RX5 132 RX2 yX2_hasCall wsX2_hasCall) := goodIn_app (goodIn_of _ (by decide +kernel)) ggX5_dispute_X2_hasCall
set_option maxRecDepth 20000 in
theorem ggX5_dispute_X2_isDisputed : GoodIn wsX5_dispute wsX2_isDisputed := goodIn_r _ [17, 12, 18, 48, 49, 50, 51, 52, 53, 54, 55, 56, 57, 58, 59, 60] (by decide +kernel) (by decide +kernel)
set_option maxRecDepth 20000 in
theorem gX5_dispute_X2_isDisputed : GoodIn wsX5_dispute (wsV RX5 140 RX2 yX2_isDisputed wsX2_isDisputed) := goodIn_app (goodIn_of _ (by decide +kernel)) ggX5_dispute_X2_isDisputed
set_option maxRecDepth 20000 in
theorem ggX5_dispute_X2_judge : GoodIn wsX5_dispute wsX2_judge := goodIn_r _ [22, 12, 23, 18, 24, 25, 26, 27, 28, 29, 30, 10, 31, 48, 49, 50, 51, 52, 53, 54, 55, 56, 57, 58, 59, 60] (by decide +kernel) (by decide +kernel)
set_option maxRecDepth 20000 in
theorem gX5_dispute_X2_judge : GoodIn wsX5_dispute (wsV RX5 145 RX2 yX2_judge wsX2_judge) := goodIn_app (goodIn_of _ (by decide +kernel)) ggX5_dispute_X2_judge
set_option maxRecDepth 20000 in
theorem ggX5_dispute_X2_teamCalled : GoodIn wsX5_dispute wsX2_teamCalled := goodIn_r _ [35, 12, 23, 36, 37, 48, 49, 50, 51, 52, 53, 54, 55, 56, 57, 58, 59, 60] (by decide +kernel) (by decide +kernel)
set_option maxRecDepth 20000 in
theorem gX5_dispute_X2_teamCalled : GoodIn wsX5_dispute (wsV RX5 148 RX2 yX2_teamCalled wsX2_teamCalled) := goodIn_app (goodIn_of _ (by decide +kernel)) ggX5_dispute_X2_teamCalled
set_option maxRecDepth 20000 in
theorem ggX5_dispute_X4_fine : GoodIn wsX5_dispute wsX4_fine := goodIn_r _ [42, 43, 61, 62, 63, 64] (by decide +kernel) (by decide +kernel)
set_option maxRecDepth 20000 in
theorem gX5_dispute_X4_fine : GoodIn wsX5_dispute (wsV RX5 151 RX4 yX4_fine wsX4_fine) := goodIn_app (goodIn_of _ (by decide +kernel)) ggX5_dispute_X4_fine
theorem dX5_dispute_0 : decode cX5_dispute 0 = .ok (.aload_n 0, 1) := by decide +kernel
theorem dX5_dispute_1 : decode cX5_dispute 1 = .ok (.getfield 19, 3) := by decide +kernel
theorem dX5_dispute_4 : decode cX5_dispute 4 = .ok (.iload_n 1, 1) := by decide +kernel
theorem dX5_dispute_5 : decode cX5_dispute 5 = .ok (.invokevirtual 132, 3) := by decide +kernel
theorem dX5_dispute_8 : decode cX5_dispute 8 = .ok (.ifCond .ne 13, 3) := by decide +kernel
theorem dX5_dispute_11 : decode cX5_dispute 11 = .ok (.new 135, 3) := by decide +kernel
theorem dX5_dispute_14 : decode cX5_dispute 14 = .ok (.dup, 1) := by decide +kernel
theorem dX5_dispute_15 : decode cX5_dispute 15 = .ok (.ldc 137, 2) := by decide +kernel
theorem dX5_dispute_17 : decode cX5_dispute 17 = .ok (.invokespecial 139, 3) := by decide +kernel
theorem dX5_dispute_20 : decode cX5_dispute 20 = .ok (.athrow, 1) := by decide +kernel
theorem dX5_dispute_21 : decode cX5_dispute 21 = .ok (.aload_n 0, 1) := by decide +kernel
theorem dX5_dispute_22 : decode cX5_dispute 22 = .ok (.getfield 19, 3) := by decide +kernel
theorem dX5_dispute_25 : decode cX5_dispute 25 = .ok (.iload_n 1, 1) := by decide +kernel
theorem dX5_dispute_26 : decode cX5_dispute 26 = .ok (.invokevirtual 140, 3) := by decide +kernel
theorem dX5_dispute_29 : decode cX5_dispute 29 = .ok (.ifCond .eq 13, 3) := by decide +kernel
theorem dX5_dispute_32 : decode cX5_dispute 32 = .ok (.new 42, 3) := by decide +kernel
theorem dX5_dispute_35 : decode cX5_dispute 35 = .ok (.dup, 1) := by decide +kernel
theorem dX5_dispute_36 : decode cX5_dispute 36 = .ok (.ldc 143, 2) := by decide +kernel
theorem dX5_dispute_38 : decode cX5_dispute 38 = .ok (.invokespecial 46, 3) := by decide +kernel
theorem dX5_dispute_41 : decode cX5_dispute 41 = .ok (.athrow, 1) := by decide +kernel
theorem dX5_dispute_42 : decode cX5_dispute 42 = .ok (.aload_n 0, 1) := by decide +kernel
theorem dX5_dispute_43 : decode cX5_dispute 43 = .ok (.getfield 19, 3) := by decide +kernel
theorem dX5_dispute_46 : decode cX5_dispute 46 = .ok (.iload_n 1, 1) := by decide +kernel
theorem dX5_dispute_47 : decode cX5_dispute 47 = .ok (.invokevirtual 145, 3) := by decide +kernel
theorem dX5_dispute_50 : decode cX5_dispute 50 = .ok (.istore_n 2, 1) := by decide +kernel
theorem dX5_dispute_51 : decode cX5_dispute 51 = .ok (.iload_n 2, 1) := by decide +kernel
theorem dX5_dispute_52 : decode cX5_dispute 52 = .ok (.ifCond .eq 18, 3) := by decide +kernel
theorem dX5_dispute_55 : decode cX5_dispute 55 = .ok (.aload_n 0, 1) := by decide +kernel
theorem dX5_dispute_56 : decode cX5_dispute 56 = .ok (.getfield 26, 3) := by decide +kernel
theorem dX5_dispute_59 : decode cX5_dispute 59 = .ok (.aload_n 0, 1) := by decide +kernel
theorem dX5_dispute_60 : decode cX5_dispute 60 = .ok (.getfield 19, 3) := by decide +kernel
theorem dX5_dispute_63 : decode cX5_dispute 63 = .ok (.iload_n 1, 1) := by decide +kernel
theorem dX5_dispute_64 : decode cX5_dispute 64 = .ok (.invokevirtual 148, 3) := by decide +kernel
theorem dX5_dispute_67 : decode cX5_dispute 67 = .ok (.invokevirtual 151, 3) := by decide +kernel
theorem dX5_dispute_70 : decode cX5_dispute 70 = .ok (.iload_n 2, 1) := by decide +kernel
theorem dX5_dispute_71 : decode cX5_dispute 71 = .ok (.ireturn, 1) := by decide +kernel
set_option maxRecDepth 20000 in
theorem ggX5_end_X5_checkRound : GoodIn wsX5_end wsX5_checkRound := goodIn_ca (goodIn_r _ [7, 8, 9, 1, 10, 11, 12, 13, 14, 15, 62, 63, 64, 65, 66, 67, 68, 69, 70, 71, 72, 73] (by decide +kernel) (by decide +kernel)) (goodIn_sub (fun _ h => List.mem_cons_of_mem _ (List.mem_append_right _ h)) (by decide +kernel))
set_option maxRecDepth 20000 in
theorem gX5_end_X5_checkRound : GoodIn wsX5_end (wsV RX5 79 RX5 yX5_checkRound wsX5_checkRound) := goodIn_app (goodIn_of _ (by decide +kernel)) ggX5_end_X5_checkRound
set_option maxRecDepth 20000 in
theorem ggX5_end_X2_margin : GoodIn wsX5_end wsX2_margin := goodIn_r _ [19, 20, 21, 66, 67, 68, 69, 70, 71, 72, 73] (by decide +kernel) (by decide +kernel)
set_option maxRecDepth 20000 in
theorem gX5_end_X2_margin : GoodIn wsX5_end (wsV RX5 154 RX2 yX2_margin wsX2_margin) := goodIn_app (goodIn_of _ (by decide +kernel)) ggX5_end_X2_margin
set_option maxRecDepth 20000 in
theorem ggX5_end_X2_homeTeam : GoodIn wsX5_end wsX2_homeTeam := goodIn_r _ [25, 26, 66, 67, 68, 69, 70, 71, 72, 73] (by decide +kernel) (by decide +kernel)
set_option maxRecDepth 20000 in
theorem gX5_end_X2_homeTeam : GoodIn wsX5_end (wsV RX5 158 RX2 yX2_homeTeam wsX2_homeTeam) := goodIn_app (goodIn_of _ (by decide +kernel)) ggX5_end_X2_homeTeam
set_option maxRecDepth 20000 in
theorem ggX5_end_X2_awayTeam : GoodIn wsX5_end wsX2_awayTeam := goodIn_r _ [30, 31, 66, 67, 68, 69, 70, 71, 72, 73] (by decide +kernel) (by decide +kernel)
set_option maxRecDepth 20000 in
theorem gX5_end_X2_awayTeam : GoodIn wsX5_end (wsV RX5 161 RX2 yX2_awayTeam wsX2_awayTeam) := goodIn_app (goodIn_of _ (by decide +kernel)) ggX5_end_X2_awayTeam
set_option maxRecDepth 20000 in
theorem ggX5_end_X4_enter : GoodIn wsX5_end wsX4_enter := goodIn_r _ [36, 37, 38, 39, 40, 41, 35, 42, 43, 44, 45, 46, 47, 48, 74, 75, 76, 77] (by decide +kernel) (by decide +kernel)
set_option maxRecDepth 20000 in
theorem gX5_end_X4_enter : GoodIn wsX5_end (wsV RX5 164 RX4 yX4_enter wsX4_enter) := goodIn_app (goodIn_of _ (by decide +kernel)) ggX5_end_X4_enter
set_option maxRecDepth 20000 in
theorem ggX5_end_X2_close : GoodIn wsX5_end wsX2_close := goodIn_r _ [52, 15, 53, 54, 55, 13, 56, 20, 21, 57, 58, 59, 60, 61, 66, 67, 68, 69, 70, 71, 72, 73, 78, 79, 80, 81, 82, 83, 84, 85, 86, 87] (by decide +kernel) (by decide +kernel)
set_option maxRecDepth 20000 in
theorem gX5_end_X2_close : GoodIn wsX5_end (wsV RX5 168 RX2 yX2_close wsX2_close) := goodIn_app (goodIn_of _ (by decide +kernel)) ggX5_end_X2_close
theorem dX5_end_0 : decode cX5_end 0 = .ok (.aload_n 0, 1) := by decide +kernel
theorem dX5_end_1 : decode cX5_end 1 = .ok (.invokevirtual 79, 3) := by decide +kernel
theorem dX5_end_4 : decode cX5_end 4 = .ok (.aload_n 0, 1) := by decide +kernel
theorem dX5_end_5 : decode cX5_end 5 = .ok (.getfield 19, 3) := by decide +kernel
theorem dX5_end_8 : decode cX5_end 8 = .ok (.invokevirtual 154, 3) := by decide +kernel
theorem dX5_end_11 : decode cX5_end 11 = .ok (.istore_n 1, 1) := by decide +kernel
theorem dX5_end_12 : decode cX5_end 12 = .ok (.aload_n 0, 1) := by decide +kernel
theorem dX5_end_13 : decode cX5_end 13 = .ok (.getfield 26, 3) := by decide +kernel
theorem dX5_end_16 : decode cX5_end 16 = .ok (.aload_n 0, 1) := by decide +kernel
theorem dX5_end_17 : decode cX5_end 17 = .ok (.getfield 19, 3) := by decide +kernel
theorem dX5_end_20 : decode cX5_end 20 = .ok (.invokevirtual 158, 3) := by decide +kernel
theorem dX5_end_23 : decode cX5_end 23 = .ok (.aload_n 0, 1) := by decide +kernel
theorem dX5_end_24 : decode cX5_end 24 = .ok (.getfield 19, 3) := by decide +kernel
theorem dX5_end_27 : decode cX5_end 27 = .ok (.invokevirtual 161, 3) := by decide +kernel
theorem dX5_end_30 : decode cX5_end 30 = .ok (.iload_n 1, 1) := by decide +kernel
theorem dX5_end_31 : decode cX5_end 31 = .ok (.invokevirtual 164, 3) := by decide +kernel
theorem dX5_end_34 : decode cX5_end 34 = .ok (.aload_n 0, 1) := by decide +kernel
theorem dX5_end_35 : decode cX5_end 35 = .ok (.getfield 19, 3) := by decide +kernel
theorem dX5_end_38 : decode cX5_end 38 = .ok (.invokevirtual 168, 3) := by decide +kernel
theorem dX5_end_41 : decode cX5_end 41 = .ok (.iload_n 1, 1) := by decide +kernel
theorem dX5_end_42 : decode cX5_end 42 = .ok (.ireturn, 1) := by decide +kernel
set_option maxRecDepth 20000 in
theorem ggX5_tick_X2_time : GoodIn wsX5_tick wsX2_time := goodIn_r _ [6, 7, 12, 13, 14, 15, 16, 17, 18, 19] (by decide +kernel) (by decide +kernel)
set_option maxRecDepth 20000 in
theorem gX5_tick_X2_time : GoodIn wsX5_tick (wsV RX5 171 RX2 yX2_time wsX2_time) := goodIn_app (goodIn_of _ (by decide +kernel)) ggX5_tick_X2_time
theorem dX5_tick_0 : decode cX5_tick 0 = .ok (.aload_n 0, 1) := by decide +kernel
theorem dX5_tick_1 : decode cX5_tick 1 = .ok (.getfield 19, 3) := by decide +kernel
theorem dX5_tick_4 : decode cX5_tick 4 = .ok (.invokevirtual 171, 3) := by decide +kernel
theorem dX5_tick_7 : decode cX5_tick 7 = .ok (.ireturn, 1) := by decide +kernel
set_option maxRecDepth 20000 in
theorem ggX5_where_X5_checkPlayer : GoodIn wsX5_where wsX5_checkPlayer := goodIn_ca (goodIn_r _ [5, 6, 7] (by decide +kernel) (by decide +kernel)) (goodIn_sub (fun _ h => List.mem_cons_of_mem _ (List.mem_append_right _ h)) (by decide +kernel))
set_option maxRecDepth 20000 in
theorem gX5_where_X5_checkPlayer : GoodIn wsX5_where (va_wsS RX5 76 yX5_checkPlayer wsX5_checkPlayer) := goodIn_app (goodIn_of _ (by decide +kernel)) ggX5_where_X5_checkPlayer
set_option maxRecDepth 20000 in
theorem ggX5_where_X2_cellOf : GoodIn wsX5_where wsX2_cellOf := goodIn_r _ [12, 13, 18, 19, 20, 21, 22, 23, 24, 25] (by decide +kernel) (by decide +kernel)
set_option maxRecDepth 20000 in
theorem gX5_where_X2_cellOf : GoodIn wsX5_where (wsV RX5 82 RX2 yX2_cellOf wsX2_cellOf) := goodIn_app (goodIn_of _ (by decide +kernel)) ggX5_where_X2_cellOf
theorem dX5_where_0 : decode cX5_where 0 = .ok (.iload_n 1, 1) := by decide +kernel
theorem dX5_where_1 : decode cX5_where 1 = .ok (.invokestatic 76, 3) := by decide +kernel
theorem dX5_where_4 : decode cX5_where 4 = .ok (.aload_n 0, 1) := by decide +kernel
theorem dX5_where_5 : decode cX5_where 5 = .ok (.getfield 19, 3) := by decide +kernel
theorem dX5_where_8 : decode cX5_where 8 = .ok (.iload_n 1, 1) := by decide +kernel
theorem dX5_where_9 : decode cX5_where 9 = .ok (.invokevirtual 82, 3) := by decide +kernel
theorem dX5_where_12 : decode cX5_where 12 = .ok (.ireturn, 1) := by decide +kernel
set_option maxRecDepth 20000 in
theorem ggX5_hit_X5_checkPlayer : GoodIn wsX5_hit wsX5_checkPlayer := goodIn_ca (goodIn_r _ [5, 6, 7] (by decide +kernel) (by decide +kernel)) (goodIn_sub (fun _ h => List.mem_cons_of_mem _ (List.mem_append_right _ h)) (by decide +kernel))
set_option maxRecDepth 20000 in
theorem gX5_hit_X5_checkPlayer : GoodIn wsX5_hit (va_wsS RX5 76 yX5_checkPlayer wsX5_checkPlayer) := goodIn_app (goodIn_of _ (by decide +kernel)) ggX5_hit_X5_checkPlayer
set_option maxRecDepth 20000 in
theorem ggX5_hit_X2_hitOf : GoodIn wsX5_hit wsX2_hitOf := goodIn_r _ [12, 13, 18, 19, 20, 21, 22, 23, 24, 25] (by decide +kernel) (by decide +kernel)
set_option maxRecDepth 20000 in
theorem gX5_hit_X2_hitOf : GoodIn wsX5_hit (wsV RX5 174 RX2 yX2_hitOf wsX2_hitOf) := goodIn_app (goodIn_of _ (by decide +kernel)) ggX5_hit_X2_hitOf
theorem dX5_hit_0 : decode cX5_hit 0 = .ok (.iload_n 1, 1) := by decide +kernel
theorem dX5_hit_1 : decode cX5_hit 1 = .ok (.invokestatic 76, 3) := by decide +kernel
theorem dX5_hit_4 : decode cX5_hit 4 = .ok (.aload_n 0, 1) := by decide +kernel
theorem dX5_hit_5 : decode cX5_hit 5 = .ok (.getfield 19, 3) := by decide +kernel
theorem dX5_hit_8 : decode cX5_hit 8 = .ok (.iload_n 1, 1) := by decide +kernel
theorem dX5_hit_9 : decode cX5_hit 9 = .ok (.invokevirtual 174, 3) := by decide +kernel
theorem dX5_hit_12 : decode cX5_hit 12 = .ok (.ireturn, 1) := by decide +kernel
set_option maxRecDepth 20000 in
theorem ggX5_flying_X2_countFlying : GoodIn wsX5_flying wsX2_countFlying := goodIn_r _ [6, 7, 8, 9, 10, 15, 16, 17, 18, 19, 20, 21, 22, 23, 24, 25, 26, 27] (by decide +kernel) (by decide +kernel)
set_option maxRecDepth 20000 in
theorem gX5_flying_X2_countFlying : GoodIn wsX5_flying (wsV RX5 177 RX2 yX2_countFlying wsX2_countFlying) := goodIn_app (goodIn_of _ (by decide +kernel)) ggX5_flying_X2_countFlying
theorem dX5_flying_0 : decode cX5_flying 0 = .ok (.aload_n 0, 1) := by decide +kernel
theorem dX5_flying_1 : decode cX5_flying 1 = .ok (.getfield 19, 3) := by decide +kernel
theorem dX5_flying_4 : decode cX5_flying 4 = .ok (.invokevirtual 177, 3) := by decide +kernel
theorem dX5_flying_7 : decode cX5_flying 7 = .ok (.ireturn, 1) := by decide +kernel
set_option maxRecDepth 20000 in
theorem ggX5_points_X5_checkTeam : GoodIn wsX5_points wsX5_checkTeam := goodIn_ca (goodIn_r _ [5, 6, 7] (by decide +kernel) (by decide +kernel)) (goodIn_sub (fun _ h => List.mem_cons_of_mem _ (List.mem_append_right _ h)) (by decide +kernel))
set_option maxRecDepth 20000 in
theorem gX5_points_X5_checkTeam : GoodIn wsX5_points (va_wsS RX5 64 yX5_checkTeam wsX5_checkTeam) := goodIn_app (goodIn_of _ (by decide +kernel)) ggX5_points_X5_checkTeam
set_option maxRecDepth 20000 in
theorem ggX5_points_X4_pointsOf : GoodIn wsX5_points wsX4_pointsOf := goodIn_r _ [12, 13, 18, 19, 20, 21] (by decide +kernel) (by decide +kernel)
set_option maxRecDepth 20000 in
theorem gX5_points_X4_pointsOf : GoodIn wsX5_points (wsV RX5 180 RX4 yX4_pointsOf wsX4_pointsOf) := goodIn_app (goodIn_of _ (by decide +kernel)) ggX5_points_X4_pointsOf
theorem dX5_points_0 : decode cX5_points 0 = .ok (.iload_n 1, 1) := by decide +kernel
theorem dX5_points_1 : decode cX5_points 1 = .ok (.invokestatic 64, 3) := by decide +kernel
theorem dX5_points_4 : decode cX5_points 4 = .ok (.aload_n 0, 1) := by decide +kernel
theorem dX5_points_5 : decode cX5_points 5 = .ok (.getfield 26, 3) := by decide +kernel
theorem dX5_points_8 : decode cX5_points 8 = .ok (.iload_n 1, 1) := by decide +kernel
theorem dX5_points_9 : decode cX5_points 9 = .ok (.invokevirtual 180, 3) := by decide +kernel
theorem dX5_points_12 : decode cX5_points 12 = .ok (.ireturn, 1) := by decide +kernel
set_option maxRecDepth 20000 in
theorem ggX5_fines_X5_checkTeam : GoodIn wsX5_fines wsX5_checkTeam := goodIn_ca (goodIn_r _ [5, 6, 7] (by decide +kernel) (by decide +kernel)) (goodIn_sub (fun _ h => List.mem_cons_of_mem _ (List.mem_append_right _ h)) (by decide +kernel))
set_option maxRecDepth 20000 in
theorem gX5_fines_X5_checkTeam : GoodIn wsX5_fines (va_wsS RX5 64 yX5_checkTeam wsX5_checkTeam) := goodIn_app (goodIn_of _ (by decide +kernel)) ggX5_fines_X5_checkTeam
set_option maxRecDepth 20000 in
theorem ggX5_fines_X4_finesOf : GoodIn wsX5_fines wsX4_finesOf := goodIn_r _ [12, 13, 18, 19, 20, 21] (by decide +kernel) (by decide +kernel)
set_option maxRecDepth 20000 in
theorem gX5_fines_X4_finesOf : GoodIn wsX5_fines (wsV RX5 183 RX4 yX4_finesOf wsX4_finesOf) := goodIn_app (goodIn_of _ (by decide +kernel)) ggX5_fines_X4_finesOf
theorem dX5_fines_0 : decode cX5_fines 0 = .ok (.iload_n 1, 1) := by decide +kernel
theorem dX5_fines_1 : decode cX5_fines 1 = .ok (.invokestatic 64, 3) := by decide +kernel
theorem dX5_fines_4 : decode cX5_fines 4 = .ok (.aload_n 0, 1) := by decide +kernel
theorem dX5_fines_5 : decode cX5_fines 5 = .ok (.getfield 26, 3) := by decide +kernel
theorem dX5_fines_8 : decode cX5_fines 8 = .ok (.iload_n 1, 1) := by decide +kernel
theorem dX5_fines_9 : decode cX5_fines 9 = .ok (.invokevirtual 183, 3) := by decide +kernel
theorem dX5_fines_12 : decode cX5_fines 12 = .ok (.ireturn, 1) := by decide +kernel
set_option maxRecDepth 20000 in
theorem ggX5_difference_X5_checkTeam : GoodIn wsX5_difference wsX5_checkTeam := goodIn_ca (goodIn_r _ [5, 6, 7] (by decide +kernel) (by decide +kernel)) (goodIn_sub (fun _ h => List.mem_cons_of_mem _ (List.mem_append_right _ h)) (by decide +kernel))
set_option maxRecDepth 20000 in
theorem gX5_difference_X5_checkTeam : GoodIn wsX5_difference (va_wsS RX5 64 yX5_checkTeam wsX5_checkTeam) := goodIn_app (goodIn_of _ (by decide +kernel)) ggX5_difference_X5_checkTeam
set_option maxRecDepth 20000 in
theorem ggX5_difference_X4_differenceOf : GoodIn wsX5_difference wsX4_differenceOf := goodIn_r _ [12, 13, 18, 19, 20, 21] (by decide +kernel) (by decide +kernel)
set_option maxRecDepth 20000 in
theorem gX5_difference_X4_differenceOf : GoodIn wsX5_difference (wsV RX5 186 RX4 yX4_differenceOf wsX4_differenceOf) := goodIn_app (goodIn_of _ (by decide +kernel)) ggX5_difference_X4_differenceOf
theorem dX5_difference_0 : decode cX5_difference 0 = .ok (.iload_n 1, 1) := by decide +kernel
theorem dX5_difference_1 : decode cX5_difference 1 = .ok (.invokestatic 64, 3) := by decide +kernel
theorem dX5_difference_4 : decode cX5_difference 4 = .ok (.aload_n 0, 1) := by decide +kernel
theorem dX5_difference_5 : decode cX5_difference 5 = .ok (.getfield 26, 3) := by decide +kernel
theorem dX5_difference_8 : decode cX5_difference 8 = .ok (.iload_n 1, 1) := by decide +kernel
theorem dX5_difference_9 : decode cX5_difference 9 = .ok (.invokevirtual 186, 3) := by decide +kernel
theorem dX5_difference_12 : decode cX5_difference 12 = .ok (.ireturn, 1) := by decide +kernel
set_option maxRecDepth 20000 in
theorem ggX5_place_X5_checkTeam : GoodIn wsX5_place wsX5_checkTeam := goodIn_ca (goodIn_r _ [5, 6, 7] (by decide +kernel) (by decide +kernel)) (goodIn_sub (fun _ h => List.mem_cons_of_mem _ (List.mem_append_right _ h)) (by decide +kernel))
set_option maxRecDepth 20000 in
theorem gX5_place_X5_checkTeam : GoodIn wsX5_place (va_wsS RX5 64 yX5_checkTeam wsX5_checkTeam) := goodIn_app (goodIn_of _ (by decide +kernel)) ggX5_place_X5_checkTeam
set_option maxRecDepth 20000 in
theorem ggX5_place_X4_placeOf : GoodIn wsX5_place wsX4_placeOf := goodIn_r _ [12, 13, 14, 15, 11, 16, 17, 18, 19, 24, 25, 26, 27] (by decide +kernel) (by decide +kernel)
set_option maxRecDepth 20000 in
theorem gX5_place_X4_placeOf : GoodIn wsX5_place (wsV RX5 189 RX4 yX4_placeOf wsX4_placeOf) := goodIn_app (goodIn_of _ (by decide +kernel)) ggX5_place_X4_placeOf
theorem dX5_place_0 : decode cX5_place 0 = .ok (.iload_n 1, 1) := by decide +kernel
theorem dX5_place_1 : decode cX5_place 1 = .ok (.invokestatic 64, 3) := by decide +kernel
theorem dX5_place_4 : decode cX5_place 4 = .ok (.aload_n 0, 1) := by decide +kernel
theorem dX5_place_5 : decode cX5_place 5 = .ok (.getfield 26, 3) := by decide +kernel
theorem dX5_place_8 : decode cX5_place 8 = .ok (.iload_n 1, 1) := by decide +kernel
theorem dX5_place_9 : decode cX5_place 9 = .ok (.invokevirtual 189, 3) := by decide +kernel
theorem dX5_place_12 : decode cX5_place 12 = .ok (.ireturn, 1) := by decide +kernel
theorem dX5_checkCell_0 : decode cX5_checkCell 0 = .ok (.iload_n 0, 1) := by decide +kernel
theorem dX5_checkCell_1 : decode cX5_checkCell 1 = .ok (.ifCond .lt 10, 3) := by decide +kernel
theorem dX5_checkCell_4 : decode cX5_checkCell 4 = .ok (.iload_n 0, 1) := by decide +kernel
theorem dX5_checkCell_5 : decode cX5_checkCell 5 = .ok (.sipush 144, 3) := by decide +kernel
theorem dX5_checkCell_8 : decode cX5_checkCell 8 = .ok (.if_icmp .lt 13, 3) := by decide +kernel
theorem dX5_checkCell_11 : decode cX5_checkCell 11 = .ok (.new 135, 3) := by decide +kernel
theorem dX5_checkCell_14 : decode cX5_checkCell 14 = .ok (.dup, 1) := by decide +kernel
theorem dX5_checkCell_15 : decode cX5_checkCell 15 = .ok (.ldc 192, 2) := by decide +kernel
theorem dX5_checkCell_17 : decode cX5_checkCell 17 = .ok (.invokespecial 139, 3) := by decide +kernel
theorem dX5_checkCell_20 : decode cX5_checkCell 20 = .ok (.athrow, 1) := by decide +kernel
theorem dX5_checkCell_21 : decode cX5_checkCell 21 = .ok (.return_, 1) := by decide +kernel
theorem dX5_checkTeam_0 : decode cX5_checkTeam 0 = .ok (.iload_n 0, 1) := by decide +kernel
theorem dX5_checkTeam_1 : decode cX5_checkTeam 1 = .ok (.ifCond .lt 9, 3) := by decide +kernel
theorem dX5_checkTeam_4 : decode cX5_checkTeam 4 = .ok (.iload_n 0, 1) := by decide +kernel
theorem dX5_checkTeam_5 : decode cX5_checkTeam 5 = .ok (.bipush 6, 2) := by decide +kernel
theorem dX5_checkTeam_7 : decode cX5_checkTeam 7 = .ok (.if_icmp .lt 13, 3) := by decide +kernel
theorem dX5_checkTeam_10 : decode cX5_checkTeam 10 = .ok (.new 135, 3) := by decide +kernel
theorem dX5_checkTeam_13 : decode cX5_checkTeam 13 = .ok (.dup, 1) := by decide +kernel
theorem dX5_checkTeam_14 : decode cX5_checkTeam 14 = .ok (.ldc 194, 2) := by decide +kernel
theorem dX5_checkTeam_16 : decode cX5_checkTeam 16 = .ok (.invokespecial 139, 3) := by decide +kernel
theorem dX5_checkTeam_19 : decode cX5_checkTeam 19 = .ok (.athrow, 1) := by decide +kernel
theorem dX5_checkTeam_20 : decode cX5_checkTeam 20 = .ok (.return_, 1) := by decide +kernel
theorem dX5_checkPlayer_0 : decode cX5_checkPlayer 0 = .ok (.iload_n 0, 1) := by decide +kernel
theorem dX5_checkPlayer_1 : decode cX5_checkPlayer 1 = .ok (.ifCond .lt 9, 3) := by decide +kernel
theorem dX5_checkPlayer_4 : decode cX5_checkPlayer 4 = .ok (.iload_n 0, 1) := by decide +kernel
theorem dX5_checkPlayer_5 : decode cX5_checkPlayer 5 = .ok (.bipush 6, 2) := by decide +kernel
theorem dX5_checkPlayer_7 : decode cX5_checkPlayer 7 = .ok (.if_icmp .lt 13, 3) := by decide +kernel
theorem dX5_checkPlayer_10 : decode cX5_checkPlayer 10 = .ok (.new 135, 3) := by decide +kernel
theorem dX5_checkPlayer_13 : decode cX5_checkPlayer 13 = .ok (.dup, 1) := by decide +kernel
theorem dX5_checkPlayer_14 : decode cX5_checkPlayer 14 = .ok (.ldc 196, 2) := by decide +kernel
theorem dX5_checkPlayer_16 : decode cX5_checkPlayer 16 = .ok (.invokespecial 139, 3) := by decide +kernel
theorem dX5_checkPlayer_19 : decode cX5_checkPlayer 19 = .ok (.athrow, 1) := by decide +kernel
theorem dX5_checkPlayer_20 : decode cX5_checkPlayer 20 = .ok (.return_, 1) := by decide +kernel
theorem dX5_checkReferee_0 : decode cX5_checkReferee 0 = .ok (.iload_n 0, 1) := by decide +kernel
theorem dX5_checkReferee_1 : decode cX5_checkReferee 1 = .ok (.ifCond .lt 8, 3) := by decide +kernel
theorem dX5_checkReferee_4 : decode cX5_checkReferee 4 = .ok (.iload_n 0, 1) := by decide +kernel
theorem dX5_checkReferee_5 : decode cX5_checkReferee 5 = .ok (.iconst 2, 1) := by decide +kernel
theorem dX5_checkReferee_6 : decode cX5_checkReferee 6 = .ok (.if_icmp .lt 13, 3) := by decide +kernel
theorem dX5_checkReferee_9 : decode cX5_checkReferee 9 = .ok (.new 135, 3) := by decide +kernel
theorem dX5_checkReferee_12 : decode cX5_checkReferee 12 = .ok (.dup, 1) := by decide +kernel
theorem dX5_checkReferee_13 : decode cX5_checkReferee 13 = .ok (.ldc 198, 2) := by decide +kernel
theorem dX5_checkReferee_15 : decode cX5_checkReferee 15 = .ok (.invokespecial 139, 3) := by decide +kernel
theorem dX5_checkReferee_18 : decode cX5_checkReferee 18 = .ok (.athrow, 1) := by decide +kernel
theorem dX5_checkReferee_19 : decode cX5_checkReferee 19 = .ok (.return_, 1) := by decide +kernel
set_option maxRecDepth 20000 in
theorem ggX5_checkRound_X2_isPlayed : GoodIn wsX5_checkRound wsX2_isPlayed := goodIn_r _ [8, 9, 14, 15, 16, 17, 18, 19, 20, 21] (by decide +kernel) (by decide +kernel)
set_option maxRecDepth 20000 in
theorem gX5_checkRound_X2_isPlayed : GoodIn wsX5_checkRound (wsV RX5 38 RX2 yX2_isPlayed wsX2_isPlayed) := goodIn_app (goodIn_of _ (by decide +kernel)) ggX5_checkRound_X2_isPlayed
theorem dX5_checkRound_0 : decode cX5_checkRound 0 = .ok (.aload_n 0, 1) := by decide +kernel
theorem dX5_checkRound_1 : decode cX5_checkRound 1 = .ok (.getfield 19, 3) := by decide +kernel
theorem dX5_checkRound_4 : decode cX5_checkRound 4 = .ok (.invokevirtual 38, 3) := by decide +kernel
theorem dX5_checkRound_7 : decode cX5_checkRound 7 = .ok (.ifCond .ne 13, 3) := by decide +kernel
theorem dX5_checkRound_10 : decode cX5_checkRound 10 = .ok (.new 42, 3) := by decide +kernel
theorem dX5_checkRound_13 : decode cX5_checkRound 13 = .ok (.dup, 1) := by decide +kernel
theorem dX5_checkRound_14 : decode cX5_checkRound 14 = .ok (.ldc 200, 2) := by decide +kernel
theorem dX5_checkRound_16 : decode cX5_checkRound 16 = .ok (.invokespecial 46, 3) := by decide +kernel
theorem dX5_checkRound_19 : decode cX5_checkRound 19 = .ok (.athrow, 1) := by decide +kernel
theorem dX5_checkRound_20 : decode cX5_checkRound 20 = .ok (.return_, 1) := by decide +kernel
theorem dX6_init_0 : decode cX6_init 0 = .ok (.aload_n 0, 1) := by decide +kernel
theorem dX6_init_1 : decode cX6_init 1 = .ok (.invokespecial 1, 3) := by decide +kernel
theorem dX6_init_4 : decode cX6_init 4 = .ok (.aload_n 0, 1) := by decide +kernel
theorem dX6_init_5 : decode cX6_init 5 = .ok (.sipush 144, 3) := by decide +kernel
theorem dX6_init_8 : decode cX6_init 8 = .ok (.newarray .boolean, 2) := by decide +kernel
theorem dX6_init_10 : decode cX6_init 10 = .ok (.putfield 7, 3) := by decide +kernel
theorem dX6_init_13 : decode cX6_init 13 = .ok (.aload_n 0, 1) := by decide +kernel
theorem dX6_init_14 : decode cX6_init 14 = .ok (.iconst 2, 1) := by decide +kernel
theorem dX6_init_15 : decode cX6_init 15 = .ok (.newarray .int, 2) := by decide +kernel
theorem dX6_init_17 : decode cX6_init 17 = .ok (.putfield 13, 3) := by decide +kernel
theorem dX6_init_20 : decode cX6_init 20 = .ok (.aload_n 0, 1) := by decide +kernel
theorem dX6_init_21 : decode cX6_init 21 = .ok (.bipush 6, 2) := by decide +kernel
theorem dX6_init_23 : decode cX6_init 23 = .ok (.newarray .int, 2) := by decide +kernel
theorem dX6_init_25 : decode cX6_init 25 = .ok (.putfield 17, 3) := by decide +kernel
theorem dX6_init_28 : decode cX6_init 28 = .ok (.aload_n 0, 1) := by decide +kernel
theorem dX6_init_29 : decode cX6_init 29 = .ok (.bipush 6, 2) := by decide +kernel
theorem dX6_init_31 : decode cX6_init 31 = .ok (.newarray .int, 2) := by decide +kernel
theorem dX6_init_33 : decode cX6_init 33 = .ok (.putfield 20, 3) := by decide +kernel
theorem dX6_init_36 : decode cX6_init 36 = .ok (.aload_n 0, 1) := by decide +kernel
theorem dX6_init_37 : decode cX6_init 37 = .ok (.bipush 6, 2) := by decide +kernel
theorem dX6_init_39 : decode cX6_init 39 = .ok (.newarray .int, 2) := by decide +kernel
theorem dX6_init_41 : decode cX6_init 41 = .ok (.putfield 23, 3) := by decide +kernel
theorem dX6_init_44 : decode cX6_init 44 = .ok (.aload_n 0, 1) := by decide +kernel
theorem dX6_init_45 : decode cX6_init 45 = .ok (.bipush 100, 2) := by decide +kernel
theorem dX6_init_47 : decode cX6_init 47 = .ok (.newarray .int, 2) := by decide +kernel
theorem dX6_init_49 : decode cX6_init 49 = .ok (.putfield 26, 3) := by decide +kernel
theorem dX6_init_52 : decode cX6_init 52 = .ok (.aload_n 0, 1) := by decide +kernel
theorem dX6_init_53 : decode cX6_init 53 = .ok (.bipush 100, 2) := by decide +kernel
theorem dX6_init_55 : decode cX6_init 55 = .ok (.newarray .int, 2) := by decide +kernel
theorem dX6_init_57 : decode cX6_init 57 = .ok (.putfield 29, 3) := by decide +kernel
theorem dX6_init_60 : decode cX6_init 60 = .ok (.aload_n 0, 1) := by decide +kernel
theorem dX6_init_61 : decode cX6_init 61 = .ok (.bipush 100, 2) := by decide +kernel
theorem dX6_init_63 : decode cX6_init 63 = .ok (.newarray .int, 2) := by decide +kernel
theorem dX6_init_65 : decode cX6_init 65 = .ok (.putfield 32, 3) := by decide +kernel
theorem dX6_init_68 : decode cX6_init 68 = .ok (.aload_n 0, 1) := by decide +kernel
theorem dX6_init_69 : decode cX6_init 69 = .ok (.bipush 100, 2) := by decide +kernel
theorem dX6_init_71 : decode cX6_init 71 = .ok (.newarray .int, 2) := by decide +kernel
theorem dX6_init_73 : decode cX6_init 73 = .ok (.putfield 35, 3) := by decide +kernel
theorem dX6_init_76 : decode cX6_init 76 = .ok (.aload_n 0, 1) := by decide +kernel
theorem dX6_init_77 : decode cX6_init 77 = .ok (.sipush 4096, 3) := by decide +kernel
theorem dX6_init_80 : decode cX6_init 80 = .ok (.newarray .int, 2) := by decide +kernel
theorem dX6_init_82 : decode cX6_init 82 = .ok (.putfield 38, 3) := by decide +kernel
theorem dX6_init_85 : decode cX6_init 85 = .ok (.aload_n 0, 1) := by decide +kernel
theorem dX6_init_86 : decode cX6_init 86 = .ok (.sipush 4096, 3) := by decide +kernel
theorem dX6_init_89 : decode cX6_init 89 = .ok (.newarray .int, 2) := by decide +kernel
theorem dX6_init_91 : decode cX6_init 91 = .ok (.putfield 41, 3) := by decide +kernel
theorem dX6_init_94 : decode cX6_init 94 = .ok (.aload_n 0, 1) := by decide +kernel
theorem dX6_init_95 : decode cX6_init 95 = .ok (.sipush 4096, 3) := by decide +kernel
theorem dX6_init_98 : decode cX6_init 98 = .ok (.newarray .int, 2) := by decide +kernel
theorem dX6_init_100 : decode cX6_init 100 = .ok (.putfield 44, 3) := by decide +kernel
theorem dX6_init_103 : decode cX6_init 103 = .ok (.aload_n 0, 1) := by decide +kernel
theorem dX6_init_104 : decode cX6_init 104 = .ok (.sipush 4096, 3) := by decide +kernel
theorem dX6_init_107 : decode cX6_init 107 = .ok (.newarray .boolean, 2) := by decide +kernel
theorem dX6_init_109 : decode cX6_init 109 = .ok (.putfield 47, 3) := by decide +kernel
theorem dX6_init_112 : decode cX6_init 112 = .ok (.aload_n 0, 1) := by decide +kernel
theorem dX6_init_113 : decode cX6_init 113 = .ok (.bipush 6, 2) := by decide +kernel
theorem dX6_init_115 : decode cX6_init 115 = .ok (.newarray .int, 2) := by decide +kernel
theorem dX6_init_117 : decode cX6_init 117 = .ok (.putfield 50, 3) := by decide +kernel
theorem dX6_init_120 : decode cX6_init 120 = .ok (.aload_n 0, 1) := by decide +kernel
theorem dX6_init_121 : decode cX6_init 121 = .ok (.bipush 6, 2) := by decide +kernel
theorem dX6_init_123 : decode cX6_init 123 = .ok (.newarray .int, 2) := by decide +kernel
theorem dX6_init_125 : decode cX6_init 125 = .ok (.putfield 53, 3) := by decide +kernel
theorem dX6_init_128 : decode cX6_init 128 = .ok (.aload_n 0, 1) := by decide +kernel
theorem dX6_init_129 : decode cX6_init 129 = .ok (.bipush 6, 2) := by decide +kernel
theorem dX6_init_131 : decode cX6_init 131 = .ok (.newarray .int, 2) := by decide +kernel
theorem dX6_init_133 : decode cX6_init 133 = .ok (.putfield 56, 3) := by decide +kernel
theorem dX6_init_136 : decode cX6_init 136 = .ok (.aload_n 0, 1) := by decide +kernel
theorem dX6_init_137 : decode cX6_init 137 = .ok (.bipush 36, 2) := by decide +kernel
theorem dX6_init_139 : decode cX6_init 139 = .ok (.newarray .int, 2) := by decide +kernel
theorem dX6_init_141 : decode cX6_init 141 = .ok (.putfield 59, 3) := by decide +kernel
theorem dX6_init_144 : decode cX6_init 144 = .ok (.aload_n 0, 1) := by decide +kernel
theorem dX6_init_145 : decode cX6_init 145 = .ok (.getfield 13, 3) := by decide +kernel
theorem dX6_init_148 : decode cX6_init 148 = .ok (.iconst 1, 1) := by decide +kernel
theorem dX6_init_149 : decode cX6_init 149 = .ok (.sipush 143, 3) := by decide +kernel
theorem dX6_init_152 : decode cX6_init 152 = .ok (.iastore, 1) := by decide +kernel
theorem dX6_init_153 : decode cX6_init 153 = .ok (.return_, 1) := by decide +kernel
theorem dX6_thrown_0 : decode cX6_thrown 0 = .ok (.aload_n 0, 1) := by decide +kernel
theorem dX6_thrown_1 : decode cX6_thrown 1 = .ok (.getfield 62, 3) := by decide +kernel
theorem dX6_thrown_4 : decode cX6_thrown 4 = .ok (.ireturn, 1) := by decide +kernel
theorem dX6_fails_0 : decode cX6_fails 0 = .ok (.aload_n 0, 1) := by decide +kernel
theorem dX6_fails_1 : decode cX6_fails 1 = .ok (.iload_n 1, 1) := by decide +kernel
theorem dX6_fails_2 : decode cX6_fails 2 = .ok (.putfield 62, 3) := by decide +kernel
theorem dX6_fails_5 : decode cX6_fails 5 = .ok (.iload_n 1, 1) := by decide +kernel
theorem dX6_fails_6 : decode cX6_fails 6 = .ok (.ifCond .le 7, 3) := by decide +kernel
theorem dX6_fails_9 : decode cX6_fails 9 = .ok (.iconst 1, 1) := by decide +kernel
theorem dX6_fails_10 : decode cX6_fails 10 = .ok (.goto 4, 3) := by decide +kernel
theorem dX6_fails_13 : decode cX6_fails 13 = .ok (.iconst 0, 1) := by decide +kernel
theorem dX6_fails_14 : decode cX6_fails 14 = .ok (.ireturn, 1) := by decide +kernel
theorem dX6_isIn_0 : decode cX6_isIn 0 = .ok (.iload_n 0, 1) := by decide +kernel
theorem dX6_isIn_1 : decode cX6_isIn 1 = .ok (.iload_n 1, 1) := by decide +kernel
theorem dX6_isIn_2 : decode cX6_isIn 2 = .ok (.if_icmp .lt 12, 3) := by decide +kernel
theorem dX6_isIn_5 : decode cX6_isIn 5 = .ok (.iload_n 0, 1) := by decide +kernel
theorem dX6_isIn_6 : decode cX6_isIn 6 = .ok (.iload_n 2, 1) := by decide +kernel
theorem dX6_isIn_7 : decode cX6_isIn 7 = .ok (.if_icmp .gt 7, 3) := by decide +kernel
theorem dX6_isIn_10 : decode cX6_isIn 10 = .ok (.iconst 1, 1) := by decide +kernel
theorem dX6_isIn_11 : decode cX6_isIn 11 = .ok (.goto 4, 3) := by decide +kernel
theorem dX6_isIn_14 : decode cX6_isIn 14 = .ok (.iconst 0, 1) := by decide +kernel
theorem dX6_isIn_15 : decode cX6_isIn 15 = .ok (.ireturn, 1) := by decide +kernel
set_option maxRecDepth 20000 in
theorem ggX6_isCell_X6_isIn : GoodIn wsX6_isCell wsX6_isIn := goodIn_r _ [4] (by decide +kernel) (by decide +kernel)
set_option maxRecDepth 20000 in
theorem gX6_isCell_X6_isIn : GoodIn wsX6_isCell (va_wsS RX6 66 yX6_isIn wsX6_isIn) := goodIn_app (goodIn_of _ (by decide +kernel)) ggX6_isCell_X6_isIn
theorem dX6_isCell_0 : decode cX6_isCell 0 = .ok (.iload_n 0, 1) := by decide +kernel
theorem dX6_isCell_1 : decode cX6_isCell 1 = .ok (.iconst 0, 1) := by decide +kernel
theorem dX6_isCell_2 : decode cX6_isCell 2 = .ok (.sipush 143, 3) := by decide +kernel
theorem dX6_isCell_5 : decode cX6_isCell 5 = .ok (.invokestatic 66, 3) := by decide +kernel
theorem dX6_isCell_8 : decode cX6_isCell 8 = .ok (.ireturn, 1) := by decide +kernel
set_option maxRecDepth 20000 in
theorem ggX6_isPlayer_X6_isIn : GoodIn wsX6_isPlayer wsX6_isIn := goodIn_r _ [4] (by decide +kernel) (by decide +kernel)
set_option maxRecDepth 20000 in
theorem gX6_isPlayer_X6_isIn : GoodIn wsX6_isPlayer (va_wsS RX6 66 yX6_isIn wsX6_isIn) := goodIn_app (goodIn_of _ (by decide +kernel)) ggX6_isPlayer_X6_isIn
theorem dX6_isPlayer_0 : decode cX6_isPlayer 0 = .ok (.iload_n 0, 1) := by decide +kernel
theorem dX6_isPlayer_1 : decode cX6_isPlayer 1 = .ok (.iconst 0, 1) := by decide +kernel
theorem dX6_isPlayer_2 : decode cX6_isPlayer 2 = .ok (.iconst 5, 1) := by decide +kernel
theorem dX6_isPlayer_3 : decode cX6_isPlayer 3 = .ok (.invokestatic 66, 3) := by decide +kernel
theorem dX6_isPlayer_6 : decode cX6_isPlayer 6 = .ok (.ireturn, 1) := by decide +kernel
set_option maxRecDepth 20000 in
theorem ggX6_isTeam_X6_isIn : GoodIn wsX6_isTeam wsX6_isIn := goodIn_r _ [4] (by decide +kernel) (by decide +kernel)
set_option maxRecDepth 20000 in
theorem gX6_isTeam_X6_isIn : GoodIn wsX6_isTeam (va_wsS RX6 66 yX6_isIn wsX6_isIn) := goodIn_app (goodIn_of _ (by decide +kernel)) ggX6_isTeam_X6_isIn
theorem dX6_isTeam_0 : decode cX6_isTeam 0 = .ok (.iload_n 0, 1) := by decide +kernel
theorem dX6_isTeam_1 : decode cX6_isTeam 1 = .ok (.iconst 0, 1) := by decide +kernel
theorem dX6_isTeam_2 : decode cX6_isTeam 2 = .ok (.iconst 5, 1) := by decide +kernel
theorem dX6_isTeam_3 : decode cX6_isTeam 3 = .ok (.invokestatic 66, 3) := by decide +kernel
theorem dX6_isTeam_6 : decode cX6_isTeam 6 = .ok (.ireturn, 1) := by decide +kernel
theorem dX6_side_0 : decode cX6_side 0 = .ok (.iconst 2, 1) := by decide +kernel
theorem dX6_side_1 : decode cX6_side 1 = .ok (.iload_n 0, 1) := by decide +kernel
theorem dX6_side_2 : decode cX6_side 2 = .ok (.bipush 12, 2) := by decide +kernel
theorem dX6_side_4 : decode cX6_side 4 = .ok (.irem, 1) := by decide +kernel
theorem dX6_side_5 : decode cX6_side 5 = .ok (.imul, 1) := by decide +kernel
theorem dX6_side_6 : decode cX6_side 6 = .ok (.iconst 1, 1) := by decide +kernel
theorem dX6_side_7 : decode cX6_side 7 = .ok (.iadd, 1) := by decide +kernel
theorem dX6_side_8 : decode cX6_side 8 = .ok (.istore 4, 2) := by decide +kernel
theorem dX6_side_10 : decode cX6_side 10 = .ok (.iconst 2, 1) := by decide +kernel
theorem dX6_side_11 : decode cX6_side 11 = .ok (.iload_n 0, 1) := by decide +kernel
theorem dX6_side_12 : decode cX6_side 12 = .ok (.bipush 12, 2) := by decide +kernel
theorem dX6_side_14 : decode cX6_side 14 = .ok (.idiv, 1) := by decide +kernel
theorem dX6_side_15 : decode cX6_side 15 = .ok (.imul, 1) := by decide +kernel
theorem dX6_side_16 : decode cX6_side 16 = .ok (.iconst 1, 1) := by decide +kernel
theorem dX6_side_17 : decode cX6_side 17 = .ok (.iadd, 1) := by decide +kernel
theorem dX6_side_18 : decode cX6_side 18 = .ok (.istore 5, 2) := by decide +kernel
theorem dX6_side_20 : decode cX6_side 20 = .ok (.iconst 2, 1) := by decide +kernel
theorem dX6_side_21 : decode cX6_side 21 = .ok (.iload_n 1, 1) := by decide +kernel
theorem dX6_side_22 : decode cX6_side 22 = .ok (.bipush 12, 2) := by decide +kernel
theorem dX6_side_24 : decode cX6_side 24 = .ok (.irem, 1) := by decide +kernel
theorem dX6_side_25 : decode cX6_side 25 = .ok (.imul, 1) := by decide +kernel
theorem dX6_side_26 : decode cX6_side 26 = .ok (.iconst 1, 1) := by decide +kernel
theorem dX6_side_27 : decode cX6_side 27 = .ok (.iadd, 1) := by decide +kernel
theorem dX6_side_28 : decode cX6_side 28 = .ok (.iload 4, 2) := by decide +kernel
theorem dX6_side_30 : decode cX6_side 30 = .ok (.isub, 1) := by decide +kernel
theorem dX6_side_31 : decode cX6_side 31 = .ok (.istore 6, 2) := by decide +kernel
theorem dX6_side_33 : decode cX6_side 33 = .ok (.iconst 2, 1) := by decide +kernel
theorem dX6_side_34 : decode cX6_side 34 = .ok (.iload_n 1, 1) := by decide +kernel
theorem dX6_side_35 : decode cX6_side 35 = .ok (.bipush 12, 2) := by decide +kernel
theorem dX6_side_37 : decode cX6_side 37 = .ok (.idiv, 1) := by decide +kernel
theorem dX6_side_38 : decode cX6_side 38 = .ok (.imul, 1) := by decide +kernel
theorem dX6_side_39 : decode cX6_side 39 = .ok (.iconst 1, 1) := by decide +kernel
theorem dX6_side_40 : decode cX6_side 40 = .ok (.iadd, 1) := by decide +kernel
theorem dX6_side_41 : decode cX6_side 41 = .ok (.iload 5, 2) := by decide +kernel
theorem dX6_side_43 : decode cX6_side 43 = .ok (.isub, 1) := by decide +kernel
theorem dX6_side_44 : decode cX6_side 44 = .ok (.istore 7, 2) := by decide +kernel
theorem dX6_side_46 : decode cX6_side 46 = .ok (.iload 6, 2) := by decide +kernel
theorem dX6_side_48 : decode cX6_side 48 = .ok (.iload_n 3, 1) := by decide +kernel
theorem dX6_side_49 : decode cX6_side 49 = .ok (.iload 5, 2) := by decide +kernel
theorem dX6_side_51 : decode cX6_side 51 = .ok (.isub, 1) := by decide +kernel
theorem dX6_side_52 : decode cX6_side 52 = .ok (.imul, 1) := by decide +kernel
theorem dX6_side_53 : decode cX6_side 53 = .ok (.iload 7, 2) := by decide +kernel
theorem dX6_side_55 : decode cX6_side 55 = .ok (.iload_n 2, 1) := by decide +kernel
theorem dX6_side_56 : decode cX6_side 56 = .ok (.iload 4, 2) := by decide +kernel
theorem dX6_side_58 : decode cX6_side 58 = .ok (.isub, 1) := by decide +kernel
theorem dX6_side_59 : decode cX6_side 59 = .ok (.imul, 1) := by decide +kernel
theorem dX6_side_60 : decode cX6_side 60 = .ok (.isub, 1) := by decide +kernel
theorem dX6_side_61 : decode cX6_side 61 = .ok (.istore 8, 2) := by decide +kernel
theorem dX6_side_63 : decode cX6_side 63 = .ok (.iload 8, 2) := by decide +kernel
theorem dX6_side_65 : decode cX6_side 65 = .ok (.ifCond .ge 7, 3) := by decide +kernel
theorem dX6_side_68 : decode cX6_side 68 = .ok (.iconst (-1), 1) := by decide +kernel
theorem dX6_side_69 : decode cX6_side 69 = .ok (.goto 13, 3) := by decide +kernel
theorem dX6_side_72 : decode cX6_side 72 = .ok (.iload 8, 2) := by decide +kernel
theorem dX6_side_74 : decode cX6_side 74 = .ok (.ifCond .le 7, 3) := by decide +kernel
theorem dX6_side_77 : decode cX6_side 77 = .ok (.iconst 1, 1) := by decide +kernel
theorem dX6_side_78 : decode cX6_side 78 = .ok (.goto 4, 3) := by decide +kernel
theorem dX6_side_81 : decode cX6_side 81 = .ok (.iconst 0, 1) := by decide +kernel
theorem dX6_side_82 : decode cX6_side 82 = .ok (.ireturn, 1) := by decide +kernel
set_option maxRecDepth 20000 in
theorem ggX6_isBetween_X6_isIn : GoodIn wsX6_isBetween wsX6_isIn := goodIn_r _ [4] (by decide +kernel) (by decide +kernel)
set_option maxRecDepth 20000 in
theorem gX6_isBetween_X6_isIn : GoodIn wsX6_isBetween (va_wsS RX6 66 yX6_isIn wsX6_isIn) := goodIn_app (goodIn_of _ (by decide +kernel)) ggX6_isBetween_X6_isIn
theorem dX6_isBetween_0 : decode cX6_isBetween 0 = .ok (.iload_n 0, 1) := by decide +kernel
theorem dX6_isBetween_1 : decode cX6_isBetween 1 = .ok (.iload_n 1, 1) := by decide +kernel
theorem dX6_isBetween_2 : decode cX6_isBetween 2 = .ok (.if_icmp .ge 12, 3) := by decide +kernel
theorem dX6_isBetween_5 : decode cX6_isBetween 5 = .ok (.iload_n 2, 1) := by decide +kernel
theorem dX6_isBetween_6 : decode cX6_isBetween 6 = .ok (.iload_n 0, 1) := by decide +kernel
theorem dX6_isBetween_7 : decode cX6_isBetween 7 = .ok (.iload_n 1, 1) := by decide +kernel
theorem dX6_isBetween_8 : decode cX6_isBetween 8 = .ok (.invokestatic 66, 3) := by decide +kernel
theorem dX6_isBetween_11 : decode cX6_isBetween 11 = .ok (.goto 9, 3) := by decide +kernel
theorem dX6_isBetween_14 : decode cX6_isBetween 14 = .ok (.iload_n 2, 1) := by decide +kernel
theorem dX6_isBetween_15 : decode cX6_isBetween 15 = .ok (.iload_n 1, 1) := by decide +kernel
theorem dX6_isBetween_16 : decode cX6_isBetween 16 = .ok (.iload_n 0, 1) := by decide +kernel
theorem dX6_isBetween_17 : decode cX6_isBetween 17 = .ok (.invokestatic 66, 3) := by decide +kernel
theorem dX6_isBetween_20 : decode cX6_isBetween 20 = .ok (.ireturn, 1) := by decide +kernel
set_option maxRecDepth 20000 in
theorem ggX6_leads_X6_isBetween : GoodIn wsX6_leads wsX6_isBetween := goodIn_r _ [4, 5, 6, 3, 7] (by decide +kernel) (by decide +kernel)
set_option maxRecDepth 20000 in
theorem gX6_leads_X6_isBetween : GoodIn wsX6_leads (va_wsS RX6 70 yX6_isBetween wsX6_isBetween) := goodIn_app (goodIn_of _ (by decide +kernel)) ggX6_leads_X6_isBetween
set_option maxRecDepth 20000 in
theorem ggX6_leads_X6_side : GoodIn wsX6_leads wsX6_side := goodIn_r _ [10] (by decide +kernel) (by decide +kernel)
set_option maxRecDepth 20000 in
theorem gX6_leads_X6_side : GoodIn wsX6_leads (va_wsS RX6 73 yX6_side wsX6_side) := goodIn_app (goodIn_of _ (by decide +kernel)) ggX6_leads_X6_side
theorem dX6_leads_0 : decode cX6_leads 0 = .ok (.iload_n 2, 1) := by decide +kernel
theorem dX6_leads_1 : decode cX6_leads 1 = .ok (.iload_n 0, 1) := by decide +kernel
theorem dX6_leads_2 : decode cX6_leads 2 = .ok (.if_icmp .eq 8, 3) := by decide +kernel
theorem dX6_leads_5 : decode cX6_leads 5 = .ok (.iload_n 2, 1) := by decide +kernel
theorem dX6_leads_6 : decode cX6_leads 6 = .ok (.iload_n 1, 1) := by decide +kernel
theorem dX6_leads_7 : decode cX6_leads 7 = .ok (.if_icmp .ne 5, 3) := by decide +kernel
theorem dX6_leads_10 : decode cX6_leads 10 = .ok (.iconst 1, 1) := by decide +kernel
theorem dX6_leads_11 : decode cX6_leads 11 = .ok (.ireturn, 1) := by decide +kernel
theorem dX6_leads_12 : decode cX6_leads 12 = .ok (.iload_n 0, 1) := by decide +kernel
theorem dX6_leads_13 : decode cX6_leads 13 = .ok (.bipush 12, 2) := by decide +kernel
theorem dX6_leads_15 : decode cX6_leads 15 = .ok (.irem, 1) := by decide +kernel
theorem dX6_leads_16 : decode cX6_leads 16 = .ok (.iload_n 1, 1) := by decide +kernel
theorem dX6_leads_17 : decode cX6_leads 17 = .ok (.bipush 12, 2) := by decide +kernel
theorem dX6_leads_19 : decode cX6_leads 19 = .ok (.irem, 1) := by decide +kernel
theorem dX6_leads_20 : decode cX6_leads 20 = .ok (.iload_n 2, 1) := by decide +kernel
theorem dX6_leads_21 : decode cX6_leads 21 = .ok (.bipush 12, 2) := by decide +kernel
theorem dX6_leads_23 : decode cX6_leads 23 = .ok (.irem, 1) := by decide +kernel
theorem dX6_leads_24 : decode cX6_leads 24 = .ok (.invokestatic 70, 3) := by decide +kernel
theorem dX6_leads_27 : decode cX6_leads 27 = .ok (.ifCond .eq 21, 3) := by decide +kernel
theorem dX6_leads_30 : decode cX6_leads 30 = .ok (.iload_n 0, 1) := by decide +kernel
theorem dX6_leads_31 : decode cX6_leads 31 = .ok (.bipush 12, 2) := by decide +kernel
theorem dX6_leads_33 : decode cX6_leads 33 = .ok (.idiv, 1) := by decide +kernel
theorem dX6_leads_34 : decode cX6_leads 34 = .ok (.iload_n 1, 1) := by decide +kernel
theorem dX6_leads_35 : decode cX6_leads 35 = .ok (.bipush 12, 2) := by decide +kernel
theorem dX6_leads_37 : decode cX6_leads 37 = .ok (.idiv, 1) := by decide +kernel
theorem dX6_leads_38 : decode cX6_leads 38 = .ok (.iload_n 2, 1) := by decide +kernel
theorem dX6_leads_39 : decode cX6_leads 39 = .ok (.bipush 12, 2) := by decide +kernel
theorem dX6_leads_41 : decode cX6_leads 41 = .ok (.idiv, 1) := by decide +kernel
theorem dX6_leads_42 : decode cX6_leads 42 = .ok (.invokestatic 70, 3) := by decide +kernel
theorem dX6_leads_45 : decode cX6_leads 45 = .ok (.ifCond .ne 5, 3) := by decide +kernel
theorem dX6_leads_48 : decode cX6_leads 48 = .ok (.iconst 0, 1) := by decide +kernel
theorem dX6_leads_49 : decode cX6_leads 49 = .ok (.ireturn, 1) := by decide +kernel
theorem dX6_leads_50 : decode cX6_leads 50 = .ok (.iconst 0, 1) := by decide +kernel
theorem dX6_leads_51 : decode cX6_leads 51 = .ok (.istore_n 3, 1) := by decide +kernel
theorem dX6_leads_52 : decode cX6_leads 52 = .ok (.iconst 0, 1) := by decide +kernel
theorem dX6_leads_53 : decode cX6_leads 53 = .ok (.istore 4, 2) := by decide +kernel
theorem dX6_leads_55 : decode cX6_leads 55 = .ok (.iconst 0, 1) := by decide +kernel
theorem dX6_leads_56 : decode cX6_leads 56 = .ok (.istore 5, 2) := by decide +kernel
theorem dX6_leads_58 : decode cX6_leads 58 = .ok (.iload 5, 2) := by decide +kernel
theorem dX6_leads_60 : decode cX6_leads 60 = .ok (.iconst 4, 1) := by decide +kernel
theorem dX6_leads_61 : decode cX6_leads 61 = .ok (.if_icmp .ge 74, 3) := by decide +kernel
theorem dX6_leads_64 : decode cX6_leads 64 = .ok (.iload_n 0, 1) := by decide +kernel
theorem dX6_leads_65 : decode cX6_leads 65 = .ok (.iload_n 1, 1) := by decide +kernel
theorem dX6_leads_66 : decode cX6_leads 66 = .ok (.iconst 2, 1) := by decide +kernel
theorem dX6_leads_67 : decode cX6_leads 67 = .ok (.iload_n 2, 1) := by decide +kernel
theorem dX6_leads_68 : decode cX6_leads 68 = .ok (.bipush 12, 2) := by decide +kernel
theorem dX6_leads_70 : decode cX6_leads 70 = .ok (.irem, 1) := by decide +kernel
theorem dX6_leads_71 : decode cX6_leads 71 = .ok (.imul, 1) := by decide +kernel
theorem dX6_leads_72 : decode cX6_leads 72 = .ok (.iconst 2, 1) := by decide +kernel
theorem dX6_leads_73 : decode cX6_leads 73 = .ok (.iload 5, 2) := by decide +kernel
theorem dX6_leads_75 : decode cX6_leads 75 = .ok (.iconst 2, 1) := by decide +kernel
theorem dX6_leads_76 : decode cX6_leads 76 = .ok (.irem, 1) := by decide +kernel
theorem dX6_leads_77 : decode cX6_leads 77 = .ok (.imul, 1) := by decide +kernel
theorem dX6_leads_78 : decode cX6_leads 78 = .ok (.iadd, 1) := by decide +kernel
theorem dX6_leads_79 : decode cX6_leads 79 = .ok (.iconst 2, 1) := by decide +kernel
theorem dX6_leads_80 : decode cX6_leads 80 = .ok (.iload_n 2, 1) := by decide +kernel
theorem dX6_leads_81 : decode cX6_leads 81 = .ok (.bipush 12, 2) := by decide +kernel
theorem dX6_leads_83 : decode cX6_leads 83 = .ok (.idiv, 1) := by decide +kernel
theorem dX6_leads_84 : decode cX6_leads 84 = .ok (.imul, 1) := by decide +kernel
theorem dX6_leads_85 : decode cX6_leads 85 = .ok (.iconst 2, 1) := by decide +kernel
theorem dX6_leads_86 : decode cX6_leads 86 = .ok (.iload 5, 2) := by decide +kernel
theorem dX6_leads_88 : decode cX6_leads 88 = .ok (.iconst 2, 1) := by decide +kernel
theorem dX6_leads_89 : decode cX6_leads 89 = .ok (.idiv, 1) := by decide +kernel
theorem dX6_leads_90 : decode cX6_leads 90 = .ok (.imul, 1) := by decide +kernel
theorem dX6_leads_91 : decode cX6_leads 91 = .ok (.iadd, 1) := by decide +kernel
theorem dX6_leads_92 : decode cX6_leads 92 = .ok (.invokestatic 73, 3) := by decide +kernel
theorem dX6_leads_95 : decode cX6_leads 95 = .ok (.istore 6, 2) := by decide +kernel
theorem dX6_leads_97 : decode cX6_leads 97 = .ok (.iload_n 3, 1) := by decide +kernel
theorem dX6_leads_98 : decode cX6_leads 98 = .ok (.ifCond .ne 8, 3) := by decide +kernel
theorem dX6_leads_101 : decode cX6_leads 101 = .ok (.iload 6, 2) := by decide +kernel
theorem dX6_leads_103 : decode cX6_leads 103 = .ok (.ifCond .le 7, 3) := by decide +kernel
theorem dX6_leads_106 : decode cX6_leads 106 = .ok (.iconst 1, 1) := by decide +kernel
theorem dX6_leads_107 : decode cX6_leads 107 = .ok (.goto 4, 3) := by decide +kernel
theorem dX6_leads_110 : decode cX6_leads 110 = .ok (.iconst 0, 1) := by decide +kernel
theorem dX6_leads_111 : decode cX6_leads 111 = .ok (.istore_n 3, 1) := by decide +kernel
theorem dX6_leads_112 : decode cX6_leads 112 = .ok (.iload 4, 2) := by decide +kernel
theorem dX6_leads_114 : decode cX6_leads 114 = .ok (.ifCond .ne 8, 3) := by decide +kernel
theorem dX6_leads_117 : decode cX6_leads 117 = .ok (.iload 6, 2) := by decide +kernel
theorem dX6_leads_119 : decode cX6_leads 119 = .ok (.ifCond .ge 7, 3) := by decide +kernel
theorem dX6_leads_122 : decode cX6_leads 122 = .ok (.iconst 1, 1) := by decide +kernel
theorem dX6_leads_123 : decode cX6_leads 123 = .ok (.goto 4, 3) := by decide +kernel
theorem dX6_leads_126 : decode cX6_leads 126 = .ok (.iconst 0, 1) := by decide +kernel
theorem dX6_leads_127 : decode cX6_leads 127 = .ok (.istore 4, 2) := by decide +kernel
theorem dX6_leads_129 : decode cX6_leads 129 = .ok (.iinc 5 1, 3) := by decide +kernel
theorem dX6_leads_132 : decode cX6_leads 132 = .ok (.goto (-74), 3) := by decide +kernel
theorem dX6_leads_135 : decode cX6_leads 135 = .ok (.iload_n 3, 1) := by decide +kernel
theorem dX6_leads_136 : decode cX6_leads 136 = .ok (.ifCond .eq 12, 3) := by decide +kernel
theorem dX6_leads_139 : decode cX6_leads 139 = .ok (.iload 4, 2) := by decide +kernel
theorem dX6_leads_141 : decode cX6_leads 141 = .ok (.ifCond .eq 7, 3) := by decide +kernel
theorem dX6_leads_144 : decode cX6_leads 144 = .ok (.iconst 1, 1) := by decide +kernel
theorem dX6_leads_145 : decode cX6_leads 145 = .ok (.goto 4, 3) := by decide +kernel
theorem dX6_leads_148 : decode cX6_leads 148 = .ok (.iconst 0, 1) := by decide +kernel
theorem dX6_leads_149 : decode cX6_leads 149 = .ok (.ireturn, 1) := by decide +kernel
set_option maxRecDepth 20000 in
theorem ggX6_see_X6_leads : GoodIn wsX6_see wsX6_leads := goodIn_r _ [5, 6, 7, 4, 8, 9, 10, 11, 12, 13, 14] (by decide +kernel) (by decide +kernel)
set_option maxRecDepth 20000 in
theorem gX6_see_X6_leads : GoodIn wsX6_see (va_wsS RX6 77 yX6_leads wsX6_leads) := goodIn_app (goodIn_of _ (by decide +kernel)) ggX6_see_X6_leads
theorem dX6_see_0 : decode cX6_see 0 = .ok (.iconst 1, 1) := by decide +kernel
theorem dX6_see_1 : decode cX6_see 1 = .ok (.istore_n 3, 1) := by decide +kernel
theorem dX6_see_2 : decode cX6_see 2 = .ok (.iconst 0, 1) := by decide +kernel
theorem dX6_see_3 : decode cX6_see 3 = .ok (.istore 4, 2) := by decide +kernel
theorem dX6_see_5 : decode cX6_see 5 = .ok (.iload 4, 2) := by decide +kernel
theorem dX6_see_7 : decode cX6_see 7 = .ok (.sipush 144, 3) := by decide +kernel
theorem dX6_see_10 : decode cX6_see 10 = .ok (.if_icmp .ge 39, 3) := by decide +kernel
theorem dX6_see_13 : decode cX6_see 13 = .ok (.iload_n 3, 1) := by decide +kernel
theorem dX6_see_14 : decode cX6_see 14 = .ok (.ifCond .eq 27, 3) := by decide +kernel
theorem dX6_see_17 : decode cX6_see 17 = .ok (.aload_n 0, 1) := by decide +kernel
theorem dX6_see_18 : decode cX6_see 18 = .ok (.getfield 7, 3) := by decide +kernel
theorem dX6_see_21 : decode cX6_see 21 = .ok (.iload 4, 2) := by decide +kernel
theorem dX6_see_23 : decode cX6_see 23 = .ok (.baload, 1) := by decide +kernel
theorem dX6_see_24 : decode cX6_see 24 = .ok (.ifCond .eq 13, 3) := by decide +kernel
theorem dX6_see_27 : decode cX6_see 27 = .ok (.iload_n 1, 1) := by decide +kernel
theorem dX6_see_28 : decode cX6_see 28 = .ok (.iload_n 2, 1) := by decide +kernel
theorem dX6_see_29 : decode cX6_see 29 = .ok (.iload 4, 2) := by decide +kernel
theorem dX6_see_31 : decode cX6_see 31 = .ok (.invokestatic 77, 3) := by decide +kernel
theorem dX6_see_34 : decode cX6_see 34 = .ok (.ifCond .ne 7, 3) := by decide +kernel
theorem dX6_see_37 : decode cX6_see 37 = .ok (.iconst 1, 1) := by decide +kernel
theorem dX6_see_38 : decode cX6_see 38 = .ok (.goto 4, 3) := by decide +kernel
theorem dX6_see_41 : decode cX6_see 41 = .ok (.iconst 0, 1) := by decide +kernel
theorem dX6_see_42 : decode cX6_see 42 = .ok (.istore_n 3, 1) := by decide +kernel
theorem dX6_see_43 : decode cX6_see 43 = .ok (.iinc 4 1, 3) := by decide +kernel
theorem dX6_see_46 : decode cX6_see 46 = .ok (.goto (-41), 3) := by decide +kernel
theorem dX6_see_49 : decode cX6_see 49 = .ok (.iload_n 3, 1) := by decide +kernel
theorem dX6_see_50 : decode cX6_see 50 = .ok (.ireturn, 1) := by decide +kernel
set_option maxRecDepth 20000 in
theorem ggX6_toggleBunker_X6_isCell : GoodIn wsX6_toggleBunker wsX6_isCell := goodIn_r _ [6, 7, 8, 5, 9] (by decide +kernel) (by decide +kernel)
set_option maxRecDepth 20000 in
theorem gX6_toggleBunker_X6_isCell : GoodIn wsX6_toggleBunker (va_wsS RX6 80 yX6_isCell wsX6_isCell) := goodIn_app (goodIn_of _ (by decide +kernel)) ggX6_toggleBunker_X6_isCell
set_option maxRecDepth 20000 in
theorem ggX6_toggleBunker_X6_fails : GoodIn wsX6_toggleBunker wsX6_fails := goodIn_r _ [13, 14, 15, 16, 17, 18, 19, 20, 21, 22, 23, 24, 25, 26, 27, 28, 29, 30, 31, 32, 33, 34, 35, 36, 37, 38] (by decide +kernel) (by decide +kernel)
set_option maxRecDepth 20000 in
theorem gX6_toggleBunker_X6_fails : GoodIn wsX6_toggleBunker (wsV RX6 88 RX6 yX6_fails wsX6_fails) := goodIn_app (goodIn_of _ (by decide +kernel)) ggX6_toggleBunker_X6_fails
theorem dX6_toggleBunker_0 : decode cX6_toggleBunker 0 = .ok (.aload_n 0, 1) := by decide +kernel
theorem dX6_toggleBunker_1 : decode cX6_toggleBunker 1 = .ok (.iload_n 1, 1) := by decide +kernel
theorem dX6_toggleBunker_2 : decode cX6_toggleBunker 2 = .ok (.invokestatic 80, 3) := by decide +kernel
theorem dX6_toggleBunker_5 : decode cX6_toggleBunker 5 = .ok (.ifCond .ne 7, 3) := by decide +kernel
theorem dX6_toggleBunker_8 : decode cX6_toggleBunker 8 = .ok (.iconst 1, 1) := by decide +kernel
theorem dX6_toggleBunker_9 : decode cX6_toggleBunker 9 = .ok (.goto 15, 3) := by decide +kernel
theorem dX6_toggleBunker_12 : decode cX6_toggleBunker 12 = .ok (.aload_n 0, 1) := by decide +kernel
theorem dX6_toggleBunker_13 : decode cX6_toggleBunker 13 = .ok (.getfield 84, 3) := by decide +kernel
theorem dX6_toggleBunker_16 : decode cX6_toggleBunker 16 = .ok (.ifCond .eq 7, 3) := by decide +kernel
theorem dX6_toggleBunker_19 : decode cX6_toggleBunker 19 = .ok (.iconst 2, 1) := by decide +kernel
theorem dX6_toggleBunker_20 : decode cX6_toggleBunker 20 = .ok (.goto 4, 3) := by decide +kernel
theorem dX6_toggleBunker_23 : decode cX6_toggleBunker 23 = .ok (.iconst 0, 1) := by decide +kernel
theorem dX6_toggleBunker_24 : decode cX6_toggleBunker 24 = .ok (.invokevirtual 88, 3) := by decide +kernel
theorem dX6_toggleBunker_27 : decode cX6_toggleBunker 27 = .ok (.ifCond .eq 5, 3) := by decide +kernel
theorem dX6_toggleBunker_30 : decode cX6_toggleBunker 30 = .ok (.iconst 0, 1) := by decide +kernel
theorem dX6_toggleBunker_31 : decode cX6_toggleBunker 31 = .ok (.ireturn, 1) := by decide +kernel
theorem dX6_toggleBunker_32 : decode cX6_toggleBunker 32 = .ok (.aload_n 0, 1) := by decide +kernel
theorem dX6_toggleBunker_33 : decode cX6_toggleBunker 33 = .ok (.getfield 7, 3) := by decide +kernel
theorem dX6_toggleBunker_36 : decode cX6_toggleBunker 36 = .ok (.iload_n 1, 1) := by decide +kernel
theorem dX6_toggleBunker_37 : decode cX6_toggleBunker 37 = .ok (.aload_n 0, 1) := by decide +kernel
theorem dX6_toggleBunker_38 : decode cX6_toggleBunker 38 = .ok (.getfield 7, 3) := by decide +kernel
theorem dX6_toggleBunker_41 : decode cX6_toggleBunker 41 = .ok (.iload_n 1, 1) := by decide +kernel
theorem dX6_toggleBunker_42 : decode cX6_toggleBunker 42 = .ok (.baload, 1) := by decide +kernel
theorem dX6_toggleBunker_43 : decode cX6_toggleBunker 43 = .ok (.ifCond .ne 7, 3) := by decide +kernel
theorem dX6_toggleBunker_46 : decode cX6_toggleBunker 46 = .ok (.iconst 1, 1) := by decide +kernel
theorem dX6_toggleBunker_47 : decode cX6_toggleBunker 47 = .ok (.goto 4, 3) := by decide +kernel
theorem dX6_toggleBunker_50 : decode cX6_toggleBunker 50 = .ok (.iconst 0, 1) := by decide +kernel
theorem dX6_toggleBunker_51 : decode cX6_toggleBunker 51 = .ok (.bastore, 1) := by decide +kernel
theorem dX6_toggleBunker_52 : decode cX6_toggleBunker 52 = .ok (.aload_n 0, 1) := by decide +kernel
theorem dX6_toggleBunker_53 : decode cX6_toggleBunker 53 = .ok (.getfield 7, 3) := by decide +kernel
theorem dX6_toggleBunker_56 : decode cX6_toggleBunker 56 = .ok (.iload_n 1, 1) := by decide +kernel
theorem dX6_toggleBunker_57 : decode cX6_toggleBunker 57 = .ok (.baload, 1) := by decide +kernel
theorem dX6_toggleBunker_58 : decode cX6_toggleBunker 58 = .ok (.ireturn, 1) := by decide +kernel
set_option maxRecDepth 20000 in
theorem ggX6_sees_X6_isCell : GoodIn wsX6_sees wsX6_isCell := goodIn_r _ [4, 5, 6, 3, 7] (by decide +kernel) (by decide +kernel)
set_option maxRecDepth 20000 in
theorem gX6_sees_X6_isCell : GoodIn wsX6_sees (va_wsS RX6 80 yX6_isCell wsX6_isCell) := goodIn_app (goodIn_of _ (by decide +kernel)) ggX6_sees_X6_isCell
set_option maxRecDepth 20000 in
theorem ggX6_sees_X6_fails : GoodIn wsX6_sees wsX6_fails := goodIn_r _ [11, 12, 27, 28, 29, 30, 31, 32, 33, 34, 35, 36, 37, 38, 39, 40, 41, 42, 43, 44, 45, 46, 47, 48, 49, 50] (by decide +kernel) (by decide +kernel)
set_option maxRecDepth 20000 in
theorem gX6_sees_X6_fails : GoodIn wsX6_sees (wsV RX6 88 RX6 yX6_fails wsX6_fails) := goodIn_app (goodIn_of _ (by decide +kernel)) ggX6_sees_X6_fails
set_option maxRecDepth 20000 in
theorem ggX6_sees_X6_see : GoodIn wsX6_sees wsX6_see := goodIn_r _ [16, 17, 18, 19, 3, 20, 21, 22, 23, 5, 6, 7, 24, 25, 26, 27, 28, 29, 30, 31, 32, 33, 34, 35, 36, 37, 38, 39, 40, 41, 42, 43, 44, 45, 46, 47, 48, 49, 50] (by decide +kernel) (by decide +kernel)
set_option maxRecDepth 20000 in
theorem gX6_sees_X6_see : GoodIn wsX6_sees (wsV RX6 91 RX6 yX6_see wsX6_see) := goodIn_app (goodIn_of _ (by decide +kernel)) ggX6_sees_X6_see
theorem dX6_sees_0 : decode cX6_sees 0 = .ok (.aload_n 0, 1) := by decide +kernel
theorem dX6_sees_1 : decode cX6_sees 1 = .ok (.iload_n 1, 1) := by decide +kernel
theorem dX6_sees_2 : decode cX6_sees 2 = .ok (.invokestatic 80, 3) := by decide +kernel
theorem dX6_sees_5 : decode cX6_sees 5 = .ok (.ifCond .eq 14, 3) := by decide +kernel
theorem dX6_sees_8 : decode cX6_sees 8 = .ok (.iload_n 2, 1) := by decide +kernel
theorem dX6_sees_9 : decode cX6_sees 9 = .ok (.invokestatic 80, 3) := by decide +kernel
theorem dX6_sees_12 : decode cX6_sees 12 = .ok (.ifCond .eq 7, 3) := by decide +kernel
theorem dX6_sees_15 : decode cX6_sees 15 = .ok (.iconst 0, 1) := by decide +kernel
theorem dX6_sees_16 : decode cX6_sees 16 = .ok (.goto 4, 3) := by decide +kernel
theorem dX6_sees_19 : decode cX6_sees 19 = .ok (.iconst 1, 1) := by decide +kernel
theorem dX6_sees_20 : decode cX6_sees 20 = .ok (.invokevirtual 88, 3) := by decide +kernel
theorem dX6_sees_23 : decode cX6_sees 23 = .ok (.ifCond .ne 16, 3) := by decide +kernel
theorem dX6_sees_26 : decode cX6_sees 26 = .ok (.aload_n 0, 1) := by decide +kernel
theorem dX6_sees_27 : decode cX6_sees 27 = .ok (.iload_n 1, 1) := by decide +kernel
theorem dX6_sees_28 : decode cX6_sees 28 = .ok (.iload_n 2, 1) := by decide +kernel
theorem dX6_sees_29 : decode cX6_sees 29 = .ok (.invokevirtual 91, 3) := by decide +kernel
theorem dX6_sees_32 : decode cX6_sees 32 = .ok (.ifCond .eq 7, 3) := by decide +kernel
theorem dX6_sees_35 : decode cX6_sees 35 = .ok (.iconst 1, 1) := by decide +kernel
theorem dX6_sees_36 : decode cX6_sees 36 = .ok (.goto 4, 3) := by decide +kernel
theorem dX6_sees_39 : decode cX6_sees 39 = .ok (.iconst 0, 1) := by decide +kernel
theorem dX6_sees_40 : decode cX6_sees 40 = .ok (.ireturn, 1) := by decide +kernel
set_option maxRecDepth 20000 in
theorem ggX6_view_X6_isCell : GoodIn wsX6_view wsX6_isCell := goodIn_r _ [4, 5, 6, 3, 7] (by decide +kernel) (by decide +kernel)
set_option maxRecDepth 20000 in
theorem gX6_view_X6_isCell : GoodIn wsX6_view (va_wsS RX6 80 yX6_isCell wsX6_isCell) := goodIn_app (goodIn_of _ (by decide +kernel)) ggX6_view_X6_isCell
set_option maxRecDepth 20000 in
theorem ggX6_view_X6_fails : GoodIn wsX6_view wsX6_fails := goodIn_r _ [11, 12, 27, 28, 29, 30, 31, 32, 33, 34, 35, 36, 37, 38, 39, 40, 41, 42, 43, 44, 45, 46, 47, 48, 49, 50] (by decide +kernel) (by decide +kernel)
set_option maxRecDepth 20000 in
theorem gX6_view_X6_fails : GoodIn wsX6_view (wsV RX6 88 RX6 yX6_fails wsX6_fails) := goodIn_app (goodIn_of _ (by decide +kernel)) ggX6_view_X6_fails
set_option maxRecDepth 20000 in
theorem ggX6_view_X6_see : GoodIn wsX6_view wsX6_see := goodIn_r _ [16, 17, 18, 19, 3, 20, 21, 22, 23, 5, 6, 7, 24, 25, 26, 27, 28, 29, 30, 31, 32, 33, 34, 35, 36, 37, 38, 39, 40, 41, 42, 43, 44, 45, 46, 47, 48, 49, 50] (by decide +kernel) (by decide +kernel)
set_option maxRecDepth 20000 in
theorem gX6_view_X6_see : GoodIn wsX6_view (wsV RX6 91 RX6 yX6_see wsX6_see) := goodIn_app (goodIn_of _ (by decide +kernel)) ggX6_view_X6_see
theorem dX6_view_0 : decode cX6_view 0 = .ok (.aload_n 0, 1) := by decide +kernel
theorem dX6_view_1 : decode cX6_view 1 = .ok (.iload_n 1, 1) := by decide +kernel
theorem dX6_view_2 : decode cX6_view 2 = .ok (.invokestatic 80, 3) := by decide +kernel
theorem dX6_view_5 : decode cX6_view 5 = .ok (.ifCond .eq 7, 3) := by decide +kernel
theorem dX6_view_8 : decode cX6_view 8 = .ok (.iconst 0, 1) := by decide +kernel
theorem dX6_view_9 : decode cX6_view 9 = .ok (.goto 4, 3) := by decide +kernel
theorem dX6_view_12 : decode cX6_view 12 = .ok (.iconst 1, 1) := by decide +kernel
theorem dX6_view_13 : decode cX6_view 13 = .ok (.invokevirtual 88, 3) := by decide +kernel
theorem dX6_view_16 : decode cX6_view 16 = .ok (.ifCond .eq 5, 3) := by decide +kernel
theorem dX6_view_19 : decode cX6_view 19 = .ok (.iconst 0, 1) := by decide +kernel
theorem dX6_view_20 : decode cX6_view 20 = .ok (.ireturn, 1) := by decide +kernel
theorem dX6_view_21 : decode cX6_view 21 = .ok (.iconst 0, 1) := by decide +kernel
theorem dX6_view_22 : decode cX6_view 22 = .ok (.istore_n 2, 1) := by decide +kernel
theorem dX6_view_23 : decode cX6_view 23 = .ok (.iconst 0, 1) := by decide +kernel
theorem dX6_view_24 : decode cX6_view 24 = .ok (.istore_n 3, 1) := by decide +kernel
theorem dX6_view_25 : decode cX6_view 25 = .ok (.iload_n 3, 1) := by decide +kernel
theorem dX6_view_26 : decode cX6_view 26 = .ok (.sipush 144, 3) := by decide +kernel
theorem dX6_view_29 : decode cX6_view 29 = .ok (.if_icmp .ge 26, 3) := by decide +kernel
theorem dX6_view_32 : decode cX6_view 32 = .ok (.iload_n 2, 1) := by decide +kernel
theorem dX6_view_33 : decode cX6_view 33 = .ok (.aload_n 0, 1) := by decide +kernel
theorem dX6_view_34 : decode cX6_view 34 = .ok (.iload_n 1, 1) := by decide +kernel
theorem dX6_view_35 : decode cX6_view 35 = .ok (.iload_n 3, 1) := by decide +kernel
theorem dX6_view_36 : decode cX6_view 36 = .ok (.invokevirtual 91, 3) := by decide +kernel
theorem dX6_view_39 : decode cX6_view 39 = .ok (.ifCond .eq 7, 3) := by decide +kernel
theorem dX6_view_42 : decode cX6_view 42 = .ok (.iconst 1, 1) := by decide +kernel
theorem dX6_view_43 : decode cX6_view 43 = .ok (.goto 4, 3) := by decide +kernel
theorem dX6_view_46 : decode cX6_view 46 = .ok (.iconst 0, 1) := by decide +kernel
theorem dX6_view_47 : decode cX6_view 47 = .ok (.iadd, 1) := by decide +kernel
theorem dX6_view_48 : decode cX6_view 48 = .ok (.istore_n 2, 1) := by decide +kernel
theorem dX6_view_49 : decode cX6_view 49 = .ok (.iinc 3 1, 3) := by decide +kernel
theorem dX6_view_52 : decode cX6_view 52 = .ok (.goto (-27), 3) := by decide +kernel
theorem dX6_view_55 : decode cX6_view 55 = .ok (.iload_n 2, 1) := by decide +kernel
theorem dX6_view_56 : decode cX6_view 56 = .ok (.ireturn, 1) := by decide +kernel
set_option maxRecDepth 20000 in
theorem ggX6_isReferee_X6_isIn : GoodIn wsX6_isReferee wsX6_isIn := goodIn_r _ [4] (by decide +kernel) (by decide +kernel)
set_option maxRecDepth 20000 in
theorem gX6_isReferee_X6_isIn : GoodIn wsX6_isReferee (va_wsS RX6 66 yX6_isIn wsX6_isIn) := goodIn_app (goodIn_of _ (by decide +kernel)) ggX6_isReferee_X6_isIn
theorem dX6_isReferee_0 : decode cX6_isReferee 0 = .ok (.iload_n 0, 1) := by decide +kernel
theorem dX6_isReferee_1 : decode cX6_isReferee 1 = .ok (.iconst 0, 1) := by decide +kernel
theorem dX6_isReferee_2 : decode cX6_isReferee 2 = .ok (.iconst 1, 1) := by decide +kernel
theorem dX6_isReferee_3 : decode cX6_isReferee 3 = .ok (.invokestatic 66, 3) := by decide +kernel
theorem dX6_isReferee_6 : decode cX6_isReferee 6 = .ok (.ireturn, 1) := by decide +kernel
set_option maxRecDepth 20000 in
theorem ggX6_setReferee_X6_isReferee : GoodIn wsX6_setReferee wsX6_isReferee := goodIn_r _ [5, 6, 7, 4, 8] (by decide +kernel) (by decide +kernel)
set_option maxRecDepth 20000 in
theorem gX6_setReferee_X6_isReferee : GoodIn wsX6_setReferee (va_wsS RX6 95 yX6_isReferee wsX6_isReferee) := goodIn_app (goodIn_of _ (by decide +kernel)) ggX6_setReferee_X6_isReferee
set_option maxRecDepth 20000 in
theorem ggX6_setReferee_X6_isCell : GoodIn wsX6_setReferee wsX6_isCell := goodIn_r _ [11, 6, 7, 4, 8] (by decide +kernel) (by decide +kernel)
set_option maxRecDepth 20000 in
theorem gX6_setReferee_X6_isCell : GoodIn wsX6_setReferee (va_wsS RX6 80 yX6_isCell wsX6_isCell) := goodIn_app (goodIn_of _ (by decide +kernel)) ggX6_setReferee_X6_isCell
set_option maxRecDepth 20000 in
theorem ggX6_setReferee_X6_fails : GoodIn wsX6_setReferee wsX6_fails := goodIn_r _ [15, 16, 17, 18, 19, 20, 21, 22, 23, 24, 25, 26, 27, 28, 29, 30, 31, 32, 33, 34, 35, 36, 37, 38, 39, 40] (by decide +kernel) (by decide +kernel)
set_option maxRecDepth 20000 in
theorem gX6_setReferee_X6_fails : GoodIn wsX6_setReferee (wsV RX6 88 RX6 yX6_fails wsX6_fails) := goodIn_app (goodIn_of _ (by decide +kernel)) ggX6_setReferee_X6_fails
theorem dX6_setReferee_0 : decode cX6_setReferee 0 = .ok (.aload_n 0, 1) := by decide +kernel
theorem dX6_setReferee_1 : decode cX6_setReferee 1 = .ok (.iload_n 1, 1) := by decide +kernel
theorem dX6_setReferee_2 : decode cX6_setReferee 2 = .ok (.invokestatic 95, 3) := by decide +kernel
theorem dX6_setReferee_5 : decode cX6_setReferee 5 = .ok (.ifCond .eq 14, 3) := by decide +kernel
theorem dX6_setReferee_8 : decode cX6_setReferee 8 = .ok (.iload_n 2, 1) := by decide +kernel
theorem dX6_setReferee_9 : decode cX6_setReferee 9 = .ok (.invokestatic 80, 3) := by decide +kernel
theorem dX6_setReferee_12 : decode cX6_setReferee 12 = .ok (.ifCond .eq 7, 3) := by decide +kernel
theorem dX6_setReferee_15 : decode cX6_setReferee 15 = .ok (.iconst 0, 1) := by decide +kernel
theorem dX6_setReferee_16 : decode cX6_setReferee 16 = .ok (.goto 4, 3) := by decide +kernel
theorem dX6_setReferee_19 : decode cX6_setReferee 19 = .ok (.iconst 1, 1) := by decide +kernel
theorem dX6_setReferee_20 : decode cX6_setReferee 20 = .ok (.invokevirtual 88, 3) := by decide +kernel
theorem dX6_setReferee_23 : decode cX6_setReferee 23 = .ok (.ifCond .eq 5, 3) := by decide +kernel
theorem dX6_setReferee_26 : decode cX6_setReferee 26 = .ok (.iconst 0, 1) := by decide +kernel
theorem dX6_setReferee_27 : decode cX6_setReferee 27 = .ok (.ireturn, 1) := by decide +kernel
theorem dX6_setReferee_28 : decode cX6_setReferee 28 = .ok (.aload_n 0, 1) := by decide +kernel
theorem dX6_setReferee_29 : decode cX6_setReferee 29 = .ok (.getfield 13, 3) := by decide +kernel
theorem dX6_setReferee_32 : decode cX6_setReferee 32 = .ok (.iload_n 1, 1) := by decide +kernel
theorem dX6_setReferee_33 : decode cX6_setReferee 33 = .ok (.iaload, 1) := by decide +kernel
theorem dX6_setReferee_34 : decode cX6_setReferee 34 = .ok (.istore_n 3, 1) := by decide +kernel
theorem dX6_setReferee_35 : decode cX6_setReferee 35 = .ok (.aload_n 0, 1) := by decide +kernel
theorem dX6_setReferee_36 : decode cX6_setReferee 36 = .ok (.getfield 13, 3) := by decide +kernel
theorem dX6_setReferee_39 : decode cX6_setReferee 39 = .ok (.iload_n 1, 1) := by decide +kernel
theorem dX6_setReferee_40 : decode cX6_setReferee 40 = .ok (.iload_n 2, 1) := by decide +kernel
theorem dX6_setReferee_41 : decode cX6_setReferee 41 = .ok (.iastore, 1) := by decide +kernel
theorem dX6_setReferee_42 : decode cX6_setReferee 42 = .ok (.iload_n 3, 1) := by decide +kernel
theorem dX6_setReferee_43 : decode cX6_setReferee 43 = .ok (.ireturn, 1) := by decide +kernel
set_option maxRecDepth 20000 in
theorem ggX6_begin_X6_isTeam : GoodIn wsX6_begin wsX6_isTeam := goodIn_r _ [13, 14, 15, 12, 16] (by decide +kernel) (by decide +kernel)
set_option maxRecDepth 20000 in
theorem gX6_begin_X6_isTeam : GoodIn wsX6_begin (va_wsS RX6 98 yX6_isTeam wsX6_isTeam) := goodIn_app (goodIn_of _ (by decide +kernel)) ggX6_begin_X6_isTeam
set_option maxRecDepth 20000 in
theorem ggX6_begin_X6_fails : GoodIn wsX6_begin wsX6_fails := goodIn_r _ [20, 21, 22, 23, 24, 25, 26, 27, 28, 29, 30, 31, 32, 33, 34, 35, 36, 37, 38, 39, 40, 41, 42, 43, 44, 45] (by decide +kernel) (by decide +kernel)
set_option maxRecDepth 20000 in
theorem gX6_begin_X6_fails : GoodIn wsX6_begin (wsV RX6 88 RX6 yX6_fails wsX6_fails) := goodIn_app (goodIn_of _ (by decide +kernel)) ggX6_begin_X6_fails
theorem dX6_begin_0 : decode cX6_begin 0 = .ok (.iload_n 1, 1) := by decide +kernel
theorem dX6_begin_1 : decode cX6_begin 1 = .ok (.invokestatic 98, 3) := by decide +kernel
theorem dX6_begin_4 : decode cX6_begin 4 = .ok (.ifCond .eq 14, 3) := by decide +kernel
theorem dX6_begin_7 : decode cX6_begin 7 = .ok (.iload_n 2, 1) := by decide +kernel
theorem dX6_begin_8 : decode cX6_begin 8 = .ok (.invokestatic 98, 3) := by decide +kernel
theorem dX6_begin_11 : decode cX6_begin 11 = .ok (.ifCond .eq 7, 3) := by decide +kernel
theorem dX6_begin_14 : decode cX6_begin 14 = .ok (.iconst 1, 1) := by decide +kernel
theorem dX6_begin_15 : decode cX6_begin 15 = .ok (.goto 4, 3) := by decide +kernel
theorem dX6_begin_18 : decode cX6_begin 18 = .ok (.iconst 0, 1) := by decide +kernel
theorem dX6_begin_19 : decode cX6_begin 19 = .ok (.istore_n 3, 1) := by decide +kernel
theorem dX6_begin_20 : decode cX6_begin 20 = .ok (.aload_n 0, 1) := by decide +kernel
theorem dX6_begin_21 : decode cX6_begin 21 = .ok (.iload_n 3, 1) := by decide +kernel
theorem dX6_begin_22 : decode cX6_begin 22 = .ok (.ifCond .ne 7, 3) := by decide +kernel
theorem dX6_begin_25 : decode cX6_begin 25 = .ok (.iconst 1, 1) := by decide +kernel
theorem dX6_begin_26 : decode cX6_begin 26 = .ok (.goto 24, 3) := by decide +kernel
theorem dX6_begin_29 : decode cX6_begin 29 = .ok (.iload_n 1, 1) := by decide +kernel
theorem dX6_begin_30 : decode cX6_begin 30 = .ok (.iload_n 2, 1) := by decide +kernel
theorem dX6_begin_31 : decode cX6_begin 31 = .ok (.if_icmp .ne 7, 3) := by decide +kernel
theorem dX6_begin_34 : decode cX6_begin 34 = .ok (.iconst 2, 1) := by decide +kernel
theorem dX6_begin_35 : decode cX6_begin 35 = .ok (.goto 15, 3) := by decide +kernel
theorem dX6_begin_38 : decode cX6_begin 38 = .ok (.aload_n 0, 1) := by decide +kernel
theorem dX6_begin_39 : decode cX6_begin 39 = .ok (.getfield 84, 3) := by decide +kernel
theorem dX6_begin_42 : decode cX6_begin 42 = .ok (.ifCond .eq 7, 3) := by decide +kernel
theorem dX6_begin_45 : decode cX6_begin 45 = .ok (.iconst 3, 1) := by decide +kernel
theorem dX6_begin_46 : decode cX6_begin 46 = .ok (.goto 4, 3) := by decide +kernel
theorem dX6_begin_49 : decode cX6_begin 49 = .ok (.iconst 0, 1) := by decide +kernel
theorem dX6_begin_50 : decode cX6_begin 50 = .ok (.invokevirtual 88, 3) := by decide +kernel
theorem dX6_begin_53 : decode cX6_begin 53 = .ok (.ifCond .ne 73, 3) := by decide +kernel
theorem dX6_begin_56 : decode cX6_begin 56 = .ok (.aload_n 0, 1) := by decide +kernel
theorem dX6_begin_57 : decode cX6_begin 57 = .ok (.iconst 1, 1) := by decide +kernel
theorem dX6_begin_58 : decode cX6_begin 58 = .ok (.putfield 84, 3) := by decide +kernel
theorem dX6_begin_61 : decode cX6_begin 61 = .ok (.aload_n 0, 1) := by decide +kernel
theorem dX6_begin_62 : decode cX6_begin 62 = .ok (.iload_n 1, 1) := by decide +kernel
theorem dX6_begin_63 : decode cX6_begin 63 = .ok (.putfield 101, 3) := by decide +kernel
theorem dX6_begin_66 : decode cX6_begin 66 = .ok (.aload_n 0, 1) := by decide +kernel
theorem dX6_begin_67 : decode cX6_begin 67 = .ok (.iload_n 2, 1) := by decide +kernel
theorem dX6_begin_68 : decode cX6_begin 68 = .ok (.putfield 104, 3) := by decide +kernel
theorem dX6_begin_71 : decode cX6_begin 71 = .ok (.aload_n 0, 1) := by decide +kernel
theorem dX6_begin_72 : decode cX6_begin 72 = .ok (.iconst 0, 1) := by decide +kernel
theorem dX6_begin_73 : decode cX6_begin 73 = .ok (.putfield 107, 3) := by decide +kernel
theorem dX6_begin_76 : decode cX6_begin 76 = .ok (.aload_n 0, 1) := by decide +kernel
theorem dX6_begin_77 : decode cX6_begin 77 = .ok (.iconst 0, 1) := by decide +kernel
theorem dX6_begin_78 : decode cX6_begin 78 = .ok (.putfield 110, 3) := by decide +kernel
theorem dX6_begin_81 : decode cX6_begin 81 = .ok (.aload_n 0, 1) := by decide +kernel
theorem dX6_begin_82 : decode cX6_begin 82 = .ok (.iconst 0, 1) := by decide +kernel
theorem dX6_begin_83 : decode cX6_begin 83 = .ok (.putfield 113, 3) := by decide +kernel
theorem dX6_begin_86 : decode cX6_begin 86 = .ok (.iconst 0, 1) := by decide +kernel
theorem dX6_begin_87 : decode cX6_begin 87 = .ok (.istore 4, 2) := by decide +kernel
theorem dX6_begin_89 : decode cX6_begin 89 = .ok (.iload 4, 2) := by decide +kernel
theorem dX6_begin_91 : decode cX6_begin 91 = .ok (.bipush 6, 2) := by decide +kernel
theorem dX6_begin_93 : decode cX6_begin 93 = .ok (.if_icmp .ge 33, 3) := by decide +kernel
theorem dX6_begin_96 : decode cX6_begin 96 = .ok (.aload_n 0, 1) := by decide +kernel
theorem dX6_begin_97 : decode cX6_begin 97 = .ok (.getfield 17, 3) := by decide +kernel
theorem dX6_begin_100 : decode cX6_begin 100 = .ok (.iload 4, 2) := by decide +kernel
theorem dX6_begin_102 : decode cX6_begin 102 = .ok (.iconst (-1), 1) := by decide +kernel
theorem dX6_begin_103 : decode cX6_begin 103 = .ok (.iastore, 1) := by decide +kernel
theorem dX6_begin_104 : decode cX6_begin 104 = .ok (.aload_n 0, 1) := by decide +kernel
theorem dX6_begin_105 : decode cX6_begin 105 = .ok (.getfield 20, 3) := by decide +kernel
theorem dX6_begin_108 : decode cX6_begin 108 = .ok (.iload 4, 2) := by decide +kernel
theorem dX6_begin_110 : decode cX6_begin 110 = .ok (.iconst (-1), 1) := by decide +kernel
theorem dX6_begin_111 : decode cX6_begin 111 = .ok (.iastore, 1) := by decide +kernel
theorem dX6_begin_112 : decode cX6_begin 112 = .ok (.aload_n 0, 1) := by decide +kernel
theorem dX6_begin_113 : decode cX6_begin 113 = .ok (.getfield 23, 3) := by decide +kernel
theorem dX6_begin_116 : decode cX6_begin 116 = .ok (.iload 4, 2) := by decide +kernel
theorem dX6_begin_118 : decode cX6_begin 118 = .ok (.iconst (-1), 1) := by decide +kernel
theorem dX6_begin_119 : decode cX6_begin 119 = .ok (.iastore, 1) := by decide +kernel
theorem dX6_begin_120 : decode cX6_begin 120 = .ok (.iinc 4 1, 3) := by decide +kernel
theorem dX6_begin_123 : decode cX6_begin 123 = .ok (.goto (-34), 3) := by decide +kernel
theorem dX6_begin_126 : decode cX6_begin 126 = .ok (.return_, 1) := by decide +kernel
theorem dX6_size_0 : decode cX6_size 0 = .ok (.iload_n 0, 1) := by decide +kernel
theorem dX6_size_1 : decode cX6_size 1 = .ok (.ifCond .ge 8, 3) := by decide +kernel
theorem dX6_size_4 : decode cX6_size 4 = .ok (.iload_n 0, 1) := by decide +kernel
theorem dX6_size_5 : decode cX6_size 5 = .ok (.ineg, 1) := by decide +kernel
theorem dX6_size_6 : decode cX6_size 6 = .ok (.goto 4, 3) := by decide +kernel
theorem dX6_size_9 : decode cX6_size 9 = .ok (.iload_n 0, 1) := by decide +kernel
theorem dX6_size_10 : decode cX6_size 10 = .ok (.ireturn, 1) := by decide +kernel
set_option maxRecDepth 20000 in
theorem ggX6_apart_X6_size : GoodIn wsX6_apart wsX6_size := goodIn_r _ [4] (by decide +kernel) (by decide +kernel)
set_option maxRecDepth 20000 in
theorem gX6_apart_X6_size : GoodIn wsX6_apart (va_wsS RX6 116 yX6_size wsX6_size) := goodIn_app (goodIn_of _ (by decide +kernel)) ggX6_apart_X6_size
theorem dX6_apart_0 : decode cX6_apart 0 = .ok (.iload_n 0, 1) := by decide +kernel
theorem dX6_apart_1 : decode cX6_apart 1 = .ok (.bipush 12, 2) := by decide +kernel
theorem dX6_apart_3 : decode cX6_apart 3 = .ok (.idiv, 1) := by decide +kernel
theorem dX6_apart_4 : decode cX6_apart 4 = .ok (.iload_n 1, 1) := by decide +kernel
theorem dX6_apart_5 : decode cX6_apart 5 = .ok (.bipush 12, 2) := by decide +kernel
theorem dX6_apart_7 : decode cX6_apart 7 = .ok (.idiv, 1) := by decide +kernel
theorem dX6_apart_8 : decode cX6_apart 8 = .ok (.isub, 1) := by decide +kernel
theorem dX6_apart_9 : decode cX6_apart 9 = .ok (.invokestatic 116, 3) := by decide +kernel
theorem dX6_apart_12 : decode cX6_apart 12 = .ok (.istore_n 2, 1) := by decide +kernel
theorem dX6_apart_13 : decode cX6_apart 13 = .ok (.iload_n 0, 1) := by decide +kernel
theorem dX6_apart_14 : decode cX6_apart 14 = .ok (.bipush 12, 2) := by decide +kernel
theorem dX6_apart_16 : decode cX6_apart 16 = .ok (.irem, 1) := by decide +kernel
theorem dX6_apart_17 : decode cX6_apart 17 = .ok (.iload_n 1, 1) := by decide +kernel
theorem dX6_apart_18 : decode cX6_apart 18 = .ok (.bipush 12, 2) := by decide +kernel
theorem dX6_apart_20 : decode cX6_apart 20 = .ok (.irem, 1) := by decide +kernel
theorem dX6_apart_21 : decode cX6_apart 21 = .ok (.isub, 1) := by decide +kernel
theorem dX6_apart_22 : decode cX6_apart 22 = .ok (.invokestatic 116, 3) := by decide +kernel
theorem dX6_apart_25 : decode cX6_apart 25 = .ok (.istore_n 3, 1) := by decide +kernel
theorem dX6_apart_26 : decode cX6_apart 26 = .ok (.iload_n 2, 1) := by decide +kernel
theorem dX6_apart_27 : decode cX6_apart 27 = .ok (.iload_n 3, 1) := by decide +kernel
theorem dX6_apart_28 : decode cX6_apart 28 = .ok (.if_icmp .le 7, 3) := by decide +kernel
theorem dX6_apart_31 : decode cX6_apart 31 = .ok (.iload_n 2, 1) := by decide +kernel
theorem dX6_apart_32 : decode cX6_apart 32 = .ok (.goto 4, 3) := by decide +kernel
theorem dX6_apart_35 : decode cX6_apart 35 = .ok (.iload_n 3, 1) := by decide +kernel
theorem dX6_apart_36 : decode cX6_apart 36 = .ok (.ireturn, 1) := by decide +kernel
theorem dX6_standsOn_0 : decode cX6_standsOn 0 = .ok (.iconst (-1), 1) := by decide +kernel
theorem dX6_standsOn_1 : decode cX6_standsOn 1 = .ok (.istore_n 2, 1) := by decide +kernel
theorem dX6_standsOn_2 : decode cX6_standsOn 2 = .ok (.iconst 0, 1) := by decide +kernel
theorem dX6_standsOn_3 : decode cX6_standsOn 3 = .ok (.istore_n 3, 1) := by decide +kernel
theorem dX6_standsOn_4 : decode cX6_standsOn 4 = .ok (.iload_n 3, 1) := by decide +kernel
theorem dX6_standsOn_5 : decode cX6_standsOn 5 = .ok (.bipush 6, 2) := by decide +kernel
theorem dX6_standsOn_7 : decode cX6_standsOn 7 = .ok (.if_icmp .ge 25, 3) := by decide +kernel
theorem dX6_standsOn_10 : decode cX6_standsOn 10 = .ok (.aload_n 0, 1) := by decide +kernel
theorem dX6_standsOn_11 : decode cX6_standsOn 11 = .ok (.getfield 17, 3) := by decide +kernel
theorem dX6_standsOn_14 : decode cX6_standsOn 14 = .ok (.iload_n 3, 1) := by decide +kernel
theorem dX6_standsOn_15 : decode cX6_standsOn 15 = .ok (.iaload, 1) := by decide +kernel
theorem dX6_standsOn_16 : decode cX6_standsOn 16 = .ok (.iload_n 1, 1) := by decide +kernel
theorem dX6_standsOn_17 : decode cX6_standsOn 17 = .ok (.if_icmp .ne 7, 3) := by decide +kernel
theorem dX6_standsOn_20 : decode cX6_standsOn 20 = .ok (.iload_n 3, 1) := by decide +kernel
theorem dX6_standsOn_21 : decode cX6_standsOn 21 = .ok (.goto 4, 3) := by decide +kernel
theorem dX6_standsOn_24 : decode cX6_standsOn 24 = .ok (.iload_n 2, 1) := by decide +kernel
theorem dX6_standsOn_25 : decode cX6_standsOn 25 = .ok (.istore_n 2, 1) := by decide +kernel
theorem dX6_standsOn_26 : decode cX6_standsOn 26 = .ok (.iinc 3 1, 3) := by decide +kernel
theorem dX6_standsOn_29 : decode cX6_standsOn 29 = .ok (.goto (-25), 3) := by decide +kernel
theorem dX6_standsOn_32 : decode cX6_standsOn 32 = .ok (.iload_n 2, 1) := by decide +kernel
theorem dX6_standsOn_33 : decode cX6_standsOn 33 = .ok (.ireturn, 1) := by decide +kernel
set_option maxRecDepth 20000 in
theorem ggX6_move_X6_isPlayer : GoodIn wsX6_move wsX6_isPlayer := goodIn_r _ [7, 8, 9, 6, 10] (by decide +kernel) (by decide +kernel)
set_option maxRecDepth 20000 in
theorem gX6_move_X6_isPlayer : GoodIn wsX6_move (va_wsS RX6 120 yX6_isPlayer wsX6_isPlayer) := goodIn_app (goodIn_of _ (by decide +kernel)) ggX6_move_X6_isPlayer
set_option maxRecDepth 20000 in
theorem ggX6_move_X6_isCell : GoodIn wsX6_move wsX6_isCell := goodIn_r _ [13, 8, 9, 6, 10] (by decide +kernel) (by decide +kernel)
set_option maxRecDepth 20000 in
theorem gX6_move_X6_isCell : GoodIn wsX6_move (va_wsS RX6 80 yX6_isCell wsX6_isCell) := goodIn_app (goodIn_of _ (by decide +kernel)) ggX6_move_X6_isCell
set_option maxRecDepth 20000 in
theorem ggX6_move_X6_apart : GoodIn wsX6_move wsX6_apart := goodIn_r _ [16, 17, 18, 6, 19] (by decide +kernel) (by decide +kernel)
set_option maxRecDepth 20000 in
theorem gX6_move_X6_apart : GoodIn wsX6_move (va_wsS RX6 123 yX6_apart wsX6_apart) := goodIn_app (goodIn_of _ (by decide +kernel)) ggX6_move_X6_apart
set_option maxRecDepth 20000 in
theorem ggX6_move_X6_standsOn : GoodIn wsX6_move wsX6_standsOn := goodIn_r _ [23, 2, 29, 30, 31, 32, 33, 34, 35, 36, 37, 38, 39, 40, 41, 42, 43, 44, 45, 46, 47, 48, 49, 50, 51, 52] (by decide +kernel) (by decide +kernel)
set_option maxRecDepth 20000 in
theorem gX6_move_X6_standsOn : GoodIn wsX6_move (wsV RX6 127 RX6 yX6_standsOn wsX6_standsOn) := goodIn_app (goodIn_of _ (by decide +kernel)) ggX6_move_X6_standsOn
set_option maxRecDepth 20000 in
theorem ggX6_move_X6_fails : GoodIn wsX6_move wsX6_fails := goodIn_r _ [27, 28, 29, 30, 31, 32, 33, 34, 35, 36, 37, 38, 39, 40, 41, 42, 43, 44, 45, 46, 47, 48, 49, 50, 51, 52] (by decide +kernel) (by decide +kernel)
set_option maxRecDepth 20000 in
theorem gX6_move_X6_fails : GoodIn wsX6_move (wsV RX6 88 RX6 yX6_fails wsX6_fails) := goodIn_app (goodIn_of _ (by decide +kernel)) ggX6_move_X6_fails
theorem dX6_move_0 : decode cX6_move 0 = .ok (.iload_n 1, 1) := by decide +kernel
theorem dX6_move_1 : decode cX6_move 1 = .ok (.invokestatic 120, 3) := by decide +kernel
theorem dX6_move_4 : decode cX6_move 4 = .ok (.ifCond .eq 14, 3) := by decide +kernel
theorem dX6_move_7 : decode cX6_move 7 = .ok (.iload_n 2, 1) := by decide +kernel
theorem dX6_move_8 : decode cX6_move 8 = .ok (.invokestatic 80, 3) := by decide +kernel
theorem dX6_move_11 : decode cX6_move 11 = .ok (.ifCond .eq 7, 3) := by decide +kernel
theorem dX6_move_14 : decode cX6_move 14 = .ok (.iconst 1, 1) := by decide +kernel
theorem dX6_move_15 : decode cX6_move 15 = .ok (.goto 4, 3) := by decide +kernel
theorem dX6_move_18 : decode cX6_move 18 = .ok (.iconst 0, 1) := by decide +kernel
theorem dX6_move_19 : decode cX6_move 19 = .ok (.istore_n 3, 1) := by decide +kernel
theorem dX6_move_20 : decode cX6_move 20 = .ok (.iload_n 3, 1) := by decide +kernel
theorem dX6_move_21 : decode cX6_move 21 = .ok (.ifCond .eq 67, 3) := by decide +kernel
theorem dX6_move_24 : decode cX6_move 24 = .ok (.aload_n 0, 1) := by decide +kernel
theorem dX6_move_25 : decode cX6_move 25 = .ok (.getfield 84, 3) := by decide +kernel
theorem dX6_move_28 : decode cX6_move 28 = .ok (.ifCond .eq 60, 3) := by decide +kernel
theorem dX6_move_31 : decode cX6_move 31 = .ok (.aload_n 0, 1) := by decide +kernel
theorem dX6_move_32 : decode cX6_move 32 = .ok (.getfield 17, 3) := by decide +kernel
theorem dX6_move_35 : decode cX6_move 35 = .ok (.iload_n 1, 1) := by decide +kernel
theorem dX6_move_36 : decode cX6_move 36 = .ok (.iaload, 1) := by decide +kernel
theorem dX6_move_37 : decode cX6_move 37 = .ok (.bipush (-2), 2) := by decide +kernel
theorem dX6_move_39 : decode cX6_move 39 = .ok (.if_icmp .eq 49, 3) := by decide +kernel
theorem dX6_move_42 : decode cX6_move 42 = .ok (.aload_n 0, 1) := by decide +kernel
theorem dX6_move_43 : decode cX6_move 43 = .ok (.getfield 17, 3) := by decide +kernel
theorem dX6_move_46 : decode cX6_move 46 = .ok (.iload_n 1, 1) := by decide +kernel
theorem dX6_move_47 : decode cX6_move 47 = .ok (.iaload, 1) := by decide +kernel
theorem dX6_move_48 : decode cX6_move 48 = .ok (.iconst (-1), 1) := by decide +kernel
theorem dX6_move_49 : decode cX6_move 49 = .ok (.if_icmp .eq 17, 3) := by decide +kernel
theorem dX6_move_52 : decode cX6_move 52 = .ok (.aload_n 0, 1) := by decide +kernel
theorem dX6_move_53 : decode cX6_move 53 = .ok (.getfield 17, 3) := by decide +kernel
theorem dX6_move_56 : decode cX6_move 56 = .ok (.iload_n 1, 1) := by decide +kernel
theorem dX6_move_57 : decode cX6_move 57 = .ok (.iaload, 1) := by decide +kernel
theorem dX6_move_58 : decode cX6_move 58 = .ok (.iload_n 2, 1) := by decide +kernel
theorem dX6_move_59 : decode cX6_move 59 = .ok (.invokestatic 123, 3) := by decide +kernel
theorem dX6_move_62 : decode cX6_move 62 = .ok (.iconst 1, 1) := by decide +kernel
theorem dX6_move_63 : decode cX6_move 63 = .ok (.if_icmp .ne 25, 3) := by decide +kernel
theorem dX6_move_66 : decode cX6_move 66 = .ok (.aload_n 0, 1) := by decide +kernel
theorem dX6_move_67 : decode cX6_move 67 = .ok (.getfield 7, 3) := by decide +kernel
theorem dX6_move_70 : decode cX6_move 70 = .ok (.iload_n 2, 1) := by decide +kernel
theorem dX6_move_71 : decode cX6_move 71 = .ok (.baload, 1) := by decide +kernel
theorem dX6_move_72 : decode cX6_move 72 = .ok (.ifCond .ne 16, 3) := by decide +kernel
theorem dX6_move_75 : decode cX6_move 75 = .ok (.aload_n 0, 1) := by decide +kernel
theorem dX6_move_76 : decode cX6_move 76 = .ok (.iload_n 2, 1) := by decide +kernel
theorem dX6_move_77 : decode cX6_move 77 = .ok (.invokevirtual 127, 3) := by decide +kernel
theorem dX6_move_80 : decode cX6_move 80 = .ok (.iconst (-1), 1) := by decide +kernel
theorem dX6_move_81 : decode cX6_move 81 = .ok (.if_icmp .ne 7, 3) := by decide +kernel
theorem dX6_move_84 : decode cX6_move 84 = .ok (.iconst 1, 1) := by decide +kernel
theorem dX6_move_85 : decode cX6_move 85 = .ok (.goto 4, 3) := by decide +kernel
theorem dX6_move_88 : decode cX6_move 88 = .ok (.iconst 0, 1) := by decide +kernel
theorem dX6_move_89 : decode cX6_move 89 = .ok (.istore 4, 2) := by decide +kernel
theorem dX6_move_91 : decode cX6_move 91 = .ok (.aload_n 0, 1) := by decide +kernel
theorem dX6_move_92 : decode cX6_move 92 = .ok (.iload_n 3, 1) := by decide +kernel
theorem dX6_move_93 : decode cX6_move 93 = .ok (.ifCond .ne 7, 3) := by decide +kernel
theorem dX6_move_96 : decode cX6_move 96 = .ok (.iconst 1, 1) := by decide +kernel
theorem dX6_move_97 : decode cX6_move 97 = .ok (.goto 13, 3) := by decide +kernel
theorem dX6_move_100 : decode cX6_move 100 = .ok (.iload 4, 2) := by decide +kernel
theorem dX6_move_102 : decode cX6_move 102 = .ok (.ifCond .eq 7, 3) := by decide +kernel
theorem dX6_move_105 : decode cX6_move 105 = .ok (.iconst 0, 1) := by decide +kernel
theorem dX6_move_106 : decode cX6_move 106 = .ok (.goto 4, 3) := by decide +kernel
theorem dX6_move_109 : decode cX6_move 109 = .ok (.iconst 2, 1) := by decide +kernel
theorem dX6_move_110 : decode cX6_move 110 = .ok (.invokevirtual 88, 3) := by decide +kernel
theorem dX6_move_113 : decode cX6_move 113 = .ok (.ifCond .eq 5, 3) := by decide +kernel
theorem dX6_move_116 : decode cX6_move 116 = .ok (.iconst 0, 1) := by decide +kernel
theorem dX6_move_117 : decode cX6_move 117 = .ok (.ireturn, 1) := by decide +kernel
theorem dX6_move_118 : decode cX6_move 118 = .ok (.aload_n 0, 1) := by decide +kernel
theorem dX6_move_119 : decode cX6_move 119 = .ok (.getfield 17, 3) := by decide +kernel
theorem dX6_move_122 : decode cX6_move 122 = .ok (.iload_n 1, 1) := by decide +kernel
theorem dX6_move_123 : decode cX6_move 123 = .ok (.iaload, 1) := by decide +kernel
theorem dX6_move_124 : decode cX6_move 124 = .ok (.istore 5, 2) := by decide +kernel
theorem dX6_move_126 : decode cX6_move 126 = .ok (.aload_n 0, 1) := by decide +kernel
theorem dX6_move_127 : decode cX6_move 127 = .ok (.getfield 17, 3) := by decide +kernel
theorem dX6_move_130 : decode cX6_move 130 = .ok (.iload_n 1, 1) := by decide +kernel
theorem dX6_move_131 : decode cX6_move 131 = .ok (.iload_n 2, 1) := by decide +kernel
theorem dX6_move_132 : decode cX6_move 132 = .ok (.iastore, 1) := by decide +kernel
theorem dX6_move_133 : decode cX6_move 133 = .ok (.iload 5, 2) := by decide +kernel
theorem dX6_move_135 : decode cX6_move 135 = .ok (.ireturn, 1) := by decide +kernel
set_option maxRecDepth 20000 in
theorem ggX6_shoot_X6_isPlayer : GoodIn wsX6_shoot wsX6_isPlayer := goodIn_r _ [13, 14, 15, 12, 16] (by decide +kernel) (by decide +kernel)
set_option maxRecDepth 20000 in
theorem gX6_shoot_X6_isPlayer : GoodIn wsX6_shoot (va_wsS RX6 120 yX6_isPlayer wsX6_isPlayer) := goodIn_app (goodIn_of _ (by decide +kernel)) ggX6_shoot_X6_isPlayer
set_option maxRecDepth 20000 in
theorem ggX6_shoot_X6_isCell : GoodIn wsX6_shoot wsX6_isCell := goodIn_r _ [19, 14, 15, 12, 16] (by decide +kernel) (by decide +kernel)
set_option maxRecDepth 20000 in
theorem gX6_shoot_X6_isCell : GoodIn wsX6_shoot (va_wsS RX6 80 yX6_isCell wsX6_isCell) := goodIn_app (goodIn_of _ (by decide +kernel)) ggX6_shoot_X6_isCell
set_option maxRecDepth 20000 in
theorem ggX6_shoot_X6_fails : GoodIn wsX6_shoot wsX6_fails := goodIn_r _ [23, 24, 31, 32, 33, 34, 35, 36, 37, 38, 39, 40, 41, 42, 43, 44, 45, 46, 47, 48, 49, 50, 51, 52, 53, 54] (by decide +kernel) (by decide +kernel)
set_option maxRecDepth 20000 in
theorem gX6_shoot_X6_fails : GoodIn wsX6_shoot (wsV RX6 88 RX6 yX6_fails wsX6_fails) := goodIn_app (goodIn_of _ (by decide +kernel)) ggX6_shoot_X6_fails
set_option maxRecDepth 20000 in
theorem ggX6_shoot_X6_apart : GoodIn wsX6_shoot wsX6_apart := goodIn_r _ [27, 28, 29, 12, 30] (by decide +kernel) (by decide +kernel)
set_option maxRecDepth 20000 in
theorem gX6_shoot_X6_apart : GoodIn wsX6_shoot (va_wsS RX6 123 yX6_apart wsX6_apart) := goodIn_app (goodIn_of _ (by decide +kernel)) ggX6_shoot_X6_apart
theorem dX6_shoot_0 : decode cX6_shoot 0 = .ok (.iload_n 1, 1) := by decide +kernel
theorem dX6_shoot_1 : decode cX6_shoot 1 = .ok (.invokestatic 120, 3) := by decide +kernel
theorem dX6_shoot_4 : decode cX6_shoot 4 = .ok (.ifCond .eq 14, 3) := by decide +kernel
theorem dX6_shoot_7 : decode cX6_shoot 7 = .ok (.iload_n 2, 1) := by decide +kernel
theorem dX6_shoot_8 : decode cX6_shoot 8 = .ok (.invokestatic 80, 3) := by decide +kernel
theorem dX6_shoot_11 : decode cX6_shoot 11 = .ok (.ifCond .eq 7, 3) := by decide +kernel
theorem dX6_shoot_14 : decode cX6_shoot 14 = .ok (.iconst 1, 1) := by decide +kernel
theorem dX6_shoot_15 : decode cX6_shoot 15 = .ok (.goto 4, 3) := by decide +kernel
theorem dX6_shoot_18 : decode cX6_shoot 18 = .ok (.iconst 0, 1) := by decide +kernel
theorem dX6_shoot_19 : decode cX6_shoot 19 = .ok (.istore_n 3, 1) := by decide +kernel
theorem dX6_shoot_20 : decode cX6_shoot 20 = .ok (.iload_n 3, 1) := by decide +kernel
theorem dX6_shoot_21 : decode cX6_shoot 21 = .ok (.ifCond .eq 55, 3) := by decide +kernel
theorem dX6_shoot_24 : decode cX6_shoot 24 = .ok (.aload_n 0, 1) := by decide +kernel
theorem dX6_shoot_25 : decode cX6_shoot 25 = .ok (.getfield 84, 3) := by decide +kernel
theorem dX6_shoot_28 : decode cX6_shoot 28 = .ok (.ifCond .eq 48, 3) := by decide +kernel
theorem dX6_shoot_31 : decode cX6_shoot 31 = .ok (.aload_n 0, 1) := by decide +kernel
theorem dX6_shoot_32 : decode cX6_shoot 32 = .ok (.getfield 17, 3) := by decide +kernel
theorem dX6_shoot_35 : decode cX6_shoot 35 = .ok (.iload_n 1, 1) := by decide +kernel
theorem dX6_shoot_36 : decode cX6_shoot 36 = .ok (.iaload, 1) := by decide +kernel
theorem dX6_shoot_37 : decode cX6_shoot 37 = .ok (.ifCond .lt 39, 3) := by decide +kernel
theorem dX6_shoot_40 : decode cX6_shoot 40 = .ok (.aload_n 0, 1) := by decide +kernel
theorem dX6_shoot_41 : decode cX6_shoot 41 = .ok (.getfield 23, 3) := by decide +kernel
theorem dX6_shoot_44 : decode cX6_shoot 44 = .ok (.iload_n 1, 1) := by decide +kernel
theorem dX6_shoot_45 : decode cX6_shoot 45 = .ok (.iaload, 1) := by decide +kernel
theorem dX6_shoot_46 : decode cX6_shoot 46 = .ok (.aload_n 0, 1) := by decide +kernel
theorem dX6_shoot_47 : decode cX6_shoot 47 = .ok (.getfield 107, 3) := by decide +kernel
theorem dX6_shoot_50 : decode cX6_shoot 50 = .ok (.if_icmp .eq 26, 3) := by decide +kernel
theorem dX6_shoot_53 : decode cX6_shoot 53 = .ok (.aload_n 0, 1) := by decide +kernel
theorem dX6_shoot_54 : decode cX6_shoot 54 = .ok (.getfield 17, 3) := by decide +kernel
theorem dX6_shoot_57 : decode cX6_shoot 57 = .ok (.iload_n 1, 1) := by decide +kernel
theorem dX6_shoot_58 : decode cX6_shoot 58 = .ok (.iaload, 1) := by decide +kernel
theorem dX6_shoot_59 : decode cX6_shoot 59 = .ok (.iload_n 2, 1) := by decide +kernel
theorem dX6_shoot_60 : decode cX6_shoot 60 = .ok (.if_icmp .eq 16, 3) := by decide +kernel
theorem dX6_shoot_63 : decode cX6_shoot 63 = .ok (.aload_n 0, 1) := by decide +kernel
theorem dX6_shoot_64 : decode cX6_shoot 64 = .ok (.getfield 110, 3) := by decide +kernel
theorem dX6_shoot_67 : decode cX6_shoot 67 = .ok (.bipush 100, 2) := by decide +kernel
theorem dX6_shoot_69 : decode cX6_shoot 69 = .ok (.if_icmp .ge 7, 3) := by decide +kernel
theorem dX6_shoot_72 : decode cX6_shoot 72 = .ok (.iconst 1, 1) := by decide +kernel
theorem dX6_shoot_73 : decode cX6_shoot 73 = .ok (.goto 4, 3) := by decide +kernel
theorem dX6_shoot_76 : decode cX6_shoot 76 = .ok (.iconst 0, 1) := by decide +kernel
theorem dX6_shoot_77 : decode cX6_shoot 77 = .ok (.istore 4, 2) := by decide +kernel
theorem dX6_shoot_79 : decode cX6_shoot 79 = .ok (.aload_n 0, 1) := by decide +kernel
theorem dX6_shoot_80 : decode cX6_shoot 80 = .ok (.iload_n 3, 1) := by decide +kernel
theorem dX6_shoot_81 : decode cX6_shoot 81 = .ok (.ifCond .ne 7, 3) := by decide +kernel
theorem dX6_shoot_84 : decode cX6_shoot 84 = .ok (.iconst 1, 1) := by decide +kernel
theorem dX6_shoot_85 : decode cX6_shoot 85 = .ok (.goto 13, 3) := by decide +kernel
theorem dX6_shoot_88 : decode cX6_shoot 88 = .ok (.iload 4, 2) := by decide +kernel
theorem dX6_shoot_90 : decode cX6_shoot 90 = .ok (.ifCond .eq 7, 3) := by decide +kernel
theorem dX6_shoot_93 : decode cX6_shoot 93 = .ok (.iconst 0, 1) := by decide +kernel
theorem dX6_shoot_94 : decode cX6_shoot 94 = .ok (.goto 4, 3) := by decide +kernel
theorem dX6_shoot_97 : decode cX6_shoot 97 = .ok (.iconst 2, 1) := by decide +kernel
theorem dX6_shoot_98 : decode cX6_shoot 98 = .ok (.invokevirtual 88, 3) := by decide +kernel
theorem dX6_shoot_101 : decode cX6_shoot 101 = .ok (.ifCond .eq 5, 3) := by decide +kernel
theorem dX6_shoot_104 : decode cX6_shoot 104 = .ok (.iconst 0, 1) := by decide +kernel
theorem dX6_shoot_105 : decode cX6_shoot 105 = .ok (.ireturn, 1) := by decide +kernel
theorem dX6_shoot_106 : decode cX6_shoot 106 = .ok (.aload_n 0, 1) := by decide +kernel
theorem dX6_shoot_107 : decode cX6_shoot 107 = .ok (.getfield 26, 3) := by decide +kernel
theorem dX6_shoot_110 : decode cX6_shoot 110 = .ok (.aload_n 0, 1) := by decide +kernel
theorem dX6_shoot_111 : decode cX6_shoot 111 = .ok (.getfield 110, 3) := by decide +kernel
theorem dX6_shoot_114 : decode cX6_shoot 114 = .ok (.iload_n 1, 1) := by decide +kernel
theorem dX6_shoot_115 : decode cX6_shoot 115 = .ok (.iastore, 1) := by decide +kernel
theorem dX6_shoot_116 : decode cX6_shoot 116 = .ok (.aload_n 0, 1) := by decide +kernel
theorem dX6_shoot_117 : decode cX6_shoot 117 = .ok (.getfield 29, 3) := by decide +kernel
theorem dX6_shoot_120 : decode cX6_shoot 120 = .ok (.aload_n 0, 1) := by decide +kernel
theorem dX6_shoot_121 : decode cX6_shoot 121 = .ok (.getfield 110, 3) := by decide +kernel
theorem dX6_shoot_124 : decode cX6_shoot 124 = .ok (.aload_n 0, 1) := by decide +kernel
theorem dX6_shoot_125 : decode cX6_shoot 125 = .ok (.getfield 17, 3) := by decide +kernel
theorem dX6_shoot_128 : decode cX6_shoot 128 = .ok (.iload_n 1, 1) := by decide +kernel
theorem dX6_shoot_129 : decode cX6_shoot 129 = .ok (.iaload, 1) := by decide +kernel
theorem dX6_shoot_130 : decode cX6_shoot 130 = .ok (.iastore, 1) := by decide +kernel
theorem dX6_shoot_131 : decode cX6_shoot 131 = .ok (.aload_n 0, 1) := by decide +kernel
theorem dX6_shoot_132 : decode cX6_shoot 132 = .ok (.getfield 32, 3) := by decide +kernel
theorem dX6_shoot_135 : decode cX6_shoot 135 = .ok (.aload_n 0, 1) := by decide +kernel
theorem dX6_shoot_136 : decode cX6_shoot 136 = .ok (.getfield 110, 3) := by decide +kernel
theorem dX6_shoot_139 : decode cX6_shoot 139 = .ok (.iload_n 2, 1) := by decide +kernel
theorem dX6_shoot_140 : decode cX6_shoot 140 = .ok (.iastore, 1) := by decide +kernel
theorem dX6_shoot_141 : decode cX6_shoot 141 = .ok (.aload_n 0, 1) := by decide +kernel
theorem dX6_shoot_142 : decode cX6_shoot 142 = .ok (.getfield 35, 3) := by decide +kernel
theorem dX6_shoot_145 : decode cX6_shoot 145 = .ok (.aload_n 0, 1) := by decide +kernel
theorem dX6_shoot_146 : decode cX6_shoot 146 = .ok (.getfield 110, 3) := by decide +kernel
theorem dX6_shoot_149 : decode cX6_shoot 149 = .ok (.aload_n 0, 1) := by decide +kernel
theorem dX6_shoot_150 : decode cX6_shoot 150 = .ok (.getfield 107, 3) := by decide +kernel
theorem dX6_shoot_153 : decode cX6_shoot 153 = .ok (.aload_n 0, 1) := by decide +kernel
theorem dX6_shoot_154 : decode cX6_shoot 154 = .ok (.getfield 17, 3) := by decide +kernel
theorem dX6_shoot_157 : decode cX6_shoot 157 = .ok (.iload_n 1, 1) := by decide +kernel
theorem dX6_shoot_158 : decode cX6_shoot 158 = .ok (.iaload, 1) := by decide +kernel
theorem dX6_shoot_159 : decode cX6_shoot 159 = .ok (.iload_n 2, 1) := by decide +kernel
theorem dX6_shoot_160 : decode cX6_shoot 160 = .ok (.invokestatic 123, 3) := by decide +kernel
theorem dX6_shoot_163 : decode cX6_shoot 163 = .ok (.iconst 3, 1) := by decide +kernel
theorem dX6_shoot_164 : decode cX6_shoot 164 = .ok (.iadd, 1) := by decide +kernel
theorem dX6_shoot_165 : decode cX6_shoot 165 = .ok (.iconst 4, 1) := by decide +kernel
theorem dX6_shoot_166 : decode cX6_shoot 166 = .ok (.idiv, 1) := by decide +kernel
theorem dX6_shoot_167 : decode cX6_shoot 167 = .ok (.iadd, 1) := by decide +kernel
theorem dX6_shoot_168 : decode cX6_shoot 168 = .ok (.iastore, 1) := by decide +kernel
theorem dX6_shoot_169 : decode cX6_shoot 169 = .ok (.aload_n 0, 1) := by decide +kernel
theorem dX6_shoot_170 : decode cX6_shoot 170 = .ok (.getfield 23, 3) := by decide +kernel
theorem dX6_shoot_173 : decode cX6_shoot 173 = .ok (.iload_n 1, 1) := by decide +kernel
theorem dX6_shoot_174 : decode cX6_shoot 174 = .ok (.aload_n 0, 1) := by decide +kernel
theorem dX6_shoot_175 : decode cX6_shoot 175 = .ok (.getfield 107, 3) := by decide +kernel
theorem dX6_shoot_178 : decode cX6_shoot 178 = .ok (.iastore, 1) := by decide +kernel
theorem dX6_shoot_179 : decode cX6_shoot 179 = .ok (.aload_n 0, 1) := by decide +kernel
theorem dX6_shoot_180 : decode cX6_shoot 180 = .ok (.dup, 1) := by decide +kernel
theorem dX6_shoot_181 : decode cX6_shoot 181 = .ok (.getfield 110, 3) := by decide +kernel
theorem dX6_shoot_184 : decode cX6_shoot 184 = .ok (.iconst 1, 1) := by decide +kernel
theorem dX6_shoot_185 : decode cX6_shoot 185 = .ok (.iadd, 1) := by decide +kernel
theorem dX6_shoot_186 : decode cX6_shoot 186 = .ok (.putfield 110, 3) := by decide +kernel
theorem dX6_shoot_189 : decode cX6_shoot 189 = .ok (.aload_n 0, 1) := by decide +kernel
theorem dX6_shoot_190 : decode cX6_shoot 190 = .ok (.getfield 35, 3) := by decide +kernel
theorem dX6_shoot_193 : decode cX6_shoot 193 = .ok (.aload_n 0, 1) := by decide +kernel
theorem dX6_shoot_194 : decode cX6_shoot 194 = .ok (.getfield 110, 3) := by decide +kernel
theorem dX6_shoot_197 : decode cX6_shoot 197 = .ok (.iconst 1, 1) := by decide +kernel
theorem dX6_shoot_198 : decode cX6_shoot 198 = .ok (.isub, 1) := by decide +kernel
theorem dX6_shoot_199 : decode cX6_shoot 199 = .ok (.iaload, 1) := by decide +kernel
theorem dX6_shoot_200 : decode cX6_shoot 200 = .ok (.ireturn, 1) := by decide +kernel
set_option maxRecDepth 20000 in
theorem ggX6_pass_X6_isIn : GoodIn wsX6_pass wsX6_isIn := goodIn_r _ [12] (by decide +kernel) (by decide +kernel)
set_option maxRecDepth 20000 in
theorem gX6_pass_X6_isIn : GoodIn wsX6_pass (va_wsS RX6 66 yX6_isIn wsX6_isIn) := goodIn_app (goodIn_of _ (by decide +kernel)) ggX6_pass_X6_isIn
set_option maxRecDepth 20000 in
theorem ggX6_pass_X6_fails : GoodIn wsX6_pass wsX6_fails := goodIn_r _ [16, 17, 37, 38, 39, 40, 41, 42, 43, 44, 45, 46, 47, 48, 49, 50, 51, 52, 53, 54, 55, 56, 57, 58, 59, 60] (by decide +kernel) (by decide +kernel)
set_option maxRecDepth 20000 in
theorem gX6_pass_X6_fails : GoodIn wsX6_pass (wsV RX6 88 RX6 yX6_fails wsX6_fails) := goodIn_app (goodIn_of _ (by decide +kernel)) ggX6_pass_X6_fails
set_option maxRecDepth 20000 in
theorem ggX6_pass_X6_standsOn : GoodIn wsX6_pass wsX6_standsOn := goodIn_r _ [21, 22, 37, 38, 39, 40, 41, 42, 43, 44, 45, 46, 47, 48, 49, 50, 51, 52, 53, 54, 55, 56, 57, 58, 59, 60] (by decide +kernel) (by decide +kernel)
set_option maxRecDepth 20000 in
theorem gX6_pass_X6_standsOn : GoodIn wsX6_pass (wsV RX6 127 RX6 yX6_standsOn wsX6_standsOn) := goodIn_app (goodIn_of _ (by decide +kernel)) ggX6_pass_X6_standsOn
set_option maxRecDepth 20000 in
theorem ggX6_pass_X6_see : GoodIn wsX6_pass wsX6_see := goodIn_r _ [26, 27, 28, 29, 11, 30, 31, 32, 33, 9, 10, 12, 34, 35, 36, 37, 38, 39, 40, 41, 42, 43, 44, 45, 46, 47, 48, 49, 50, 51, 52, 53, 54, 55, 56, 57, 58, 59, 60] (by decide +kernel) (by decide +kernel)
set_option maxRecDepth 20000 in
theorem gX6_pass_X6_see : GoodIn wsX6_pass (wsV RX6 91 RX6 yX6_see wsX6_see) := goodIn_app (goodIn_of _ (by decide +kernel)) ggX6_pass_X6_see
theorem dX6_pass_0 : decode cX6_pass 0 = .ok (.aload_n 0, 1) := by decide +kernel
theorem dX6_pass_1 : decode cX6_pass 1 = .ok (.iload_n 1, 1) := by decide +kernel
theorem dX6_pass_2 : decode cX6_pass 2 = .ok (.iconst 1, 1) := by decide +kernel
theorem dX6_pass_3 : decode cX6_pass 3 = .ok (.bipush 50, 2) := by decide +kernel
theorem dX6_pass_5 : decode cX6_pass 5 = .ok (.invokestatic 66, 3) := by decide +kernel
theorem dX6_pass_8 : decode cX6_pass 8 = .ok (.ifCond .ne 7, 3) := by decide +kernel
theorem dX6_pass_11 : decode cX6_pass 11 = .ok (.iconst 1, 1) := by decide +kernel
theorem dX6_pass_12 : decode cX6_pass 12 = .ok (.goto 15, 3) := by decide +kernel
theorem dX6_pass_15 : decode cX6_pass 15 = .ok (.aload_n 0, 1) := by decide +kernel
theorem dX6_pass_16 : decode cX6_pass 16 = .ok (.getfield 84, 3) := by decide +kernel
theorem dX6_pass_19 : decode cX6_pass 19 = .ok (.ifCond .eq 7, 3) := by decide +kernel
theorem dX6_pass_22 : decode cX6_pass 22 = .ok (.iconst 0, 1) := by decide +kernel
theorem dX6_pass_23 : decode cX6_pass 23 = .ok (.goto 4, 3) := by decide +kernel
theorem dX6_pass_26 : decode cX6_pass 26 = .ok (.iconst 2, 1) := by decide +kernel
theorem dX6_pass_27 : decode cX6_pass 27 = .ok (.invokevirtual 88, 3) := by decide +kernel
theorem dX6_pass_30 : decode cX6_pass 30 = .ok (.ifCond .eq 5, 3) := by decide +kernel
theorem dX6_pass_33 : decode cX6_pass 33 = .ok (.iconst 0, 1) := by decide +kernel
theorem dX6_pass_34 : decode cX6_pass 34 = .ok (.ireturn, 1) := by decide +kernel
theorem dX6_pass_35 : decode cX6_pass 35 = .ok (.iconst 0, 1) := by decide +kernel
theorem dX6_pass_36 : decode cX6_pass 36 = .ok (.istore_n 2, 1) := by decide +kernel
theorem dX6_pass_37 : decode cX6_pass 37 = .ok (.iconst 0, 1) := by decide +kernel
theorem dX6_pass_38 : decode cX6_pass 38 = .ok (.istore_n 3, 1) := by decide +kernel
theorem dX6_pass_39 : decode cX6_pass 39 = .ok (.iload_n 3, 1) := by decide +kernel
theorem dX6_pass_40 : decode cX6_pass 40 = .ok (.iload_n 1, 1) := by decide +kernel
theorem dX6_pass_41 : decode cX6_pass 41 = .ok (.if_icmp .ge 142, 3) := by decide +kernel
theorem dX6_pass_44 : decode cX6_pass 44 = .ok (.aload_n 0, 1) := by decide +kernel
theorem dX6_pass_45 : decode cX6_pass 45 = .ok (.dup, 1) := by decide +kernel
theorem dX6_pass_46 : decode cX6_pass 46 = .ok (.getfield 107, 3) := by decide +kernel
theorem dX6_pass_49 : decode cX6_pass 49 = .ok (.iconst 1, 1) := by decide +kernel
theorem dX6_pass_50 : decode cX6_pass 50 = .ok (.iadd, 1) := by decide +kernel
theorem dX6_pass_51 : decode cX6_pass 51 = .ok (.putfield 107, 3) := by decide +kernel
theorem dX6_pass_54 : decode cX6_pass 54 = .ok (.iconst 0, 1) := by decide +kernel
theorem dX6_pass_55 : decode cX6_pass 55 = .ok (.istore 4, 2) := by decide +kernel
theorem dX6_pass_57 : decode cX6_pass 57 = .ok (.iload 4, 2) := by decide +kernel
theorem dX6_pass_59 : decode cX6_pass 59 = .ok (.aload_n 0, 1) := by decide +kernel
theorem dX6_pass_60 : decode cX6_pass 60 = .ok (.getfield 110, 3) := by decide +kernel
theorem dX6_pass_63 : decode cX6_pass 63 = .ok (.if_icmp .ge 114, 3) := by decide +kernel
theorem dX6_pass_66 : decode cX6_pass 66 = .ok (.aload_n 0, 1) := by decide +kernel
theorem dX6_pass_67 : decode cX6_pass 67 = .ok (.getfield 35, 3) := by decide +kernel
theorem dX6_pass_70 : decode cX6_pass 70 = .ok (.iload 4, 2) := by decide +kernel
theorem dX6_pass_72 : decode cX6_pass 72 = .ok (.iaload, 1) := by decide +kernel
theorem dX6_pass_73 : decode cX6_pass 73 = .ok (.aload_n 0, 1) := by decide +kernel
theorem dX6_pass_74 : decode cX6_pass 74 = .ok (.getfield 107, 3) := by decide +kernel
theorem dX6_pass_77 : decode cX6_pass 77 = .ok (.if_icmp .ne 17, 3) := by decide +kernel
theorem dX6_pass_80 : decode cX6_pass 80 = .ok (.aload_n 0, 1) := by decide +kernel
theorem dX6_pass_81 : decode cX6_pass 81 = .ok (.aload_n 0, 1) := by decide +kernel
theorem dX6_pass_82 : decode cX6_pass 82 = .ok (.getfield 32, 3) := by decide +kernel
theorem dX6_pass_85 : decode cX6_pass 85 = .ok (.iload 4, 2) := by decide +kernel
theorem dX6_pass_87 : decode cX6_pass 87 = .ok (.iaload, 1) := by decide +kernel
theorem dX6_pass_88 : decode cX6_pass 88 = .ok (.invokevirtual 127, 3) := by decide +kernel
theorem dX6_pass_91 : decode cX6_pass 91 = .ok (.goto 4, 3) := by decide +kernel
theorem dX6_pass_94 : decode cX6_pass 94 = .ok (.iconst (-1), 1) := by decide +kernel
theorem dX6_pass_95 : decode cX6_pass 95 = .ok (.istore 5, 2) := by decide +kernel
theorem dX6_pass_97 : decode cX6_pass 97 = .ok (.iload 5, 2) := by decide +kernel
theorem dX6_pass_99 : decode cX6_pass 99 = .ok (.iconst (-1), 1) := by decide +kernel
theorem dX6_pass_100 : decode cX6_pass 100 = .ok (.if_icmp .eq 71, 3) := by decide +kernel
theorem dX6_pass_103 : decode cX6_pass 103 = .ok (.iload 5, 2) := by decide +kernel
theorem dX6_pass_105 : decode cX6_pass 105 = .ok (.aload_n 0, 1) := by decide +kernel
theorem dX6_pass_106 : decode cX6_pass 106 = .ok (.getfield 26, 3) := by decide +kernel
theorem dX6_pass_109 : decode cX6_pass 109 = .ok (.iload 4, 2) := by decide +kernel
theorem dX6_pass_111 : decode cX6_pass 111 = .ok (.iaload, 1) := by decide +kernel
theorem dX6_pass_112 : decode cX6_pass 112 = .ok (.if_icmp .eq 59, 3) := by decide +kernel
theorem dX6_pass_115 : decode cX6_pass 115 = .ok (.aload_n 0, 1) := by decide +kernel
theorem dX6_pass_116 : decode cX6_pass 116 = .ok (.aload_n 0, 1) := by decide +kernel
theorem dX6_pass_117 : decode cX6_pass 117 = .ok (.getfield 29, 3) := by decide +kernel
theorem dX6_pass_120 : decode cX6_pass 120 = .ok (.iload 4, 2) := by decide +kernel
theorem dX6_pass_122 : decode cX6_pass 122 = .ok (.iaload, 1) := by decide +kernel
theorem dX6_pass_123 : decode cX6_pass 123 = .ok (.aload_n 0, 1) := by decide +kernel
theorem dX6_pass_124 : decode cX6_pass 124 = .ok (.getfield 32, 3) := by decide +kernel
theorem dX6_pass_127 : decode cX6_pass 127 = .ok (.iload 4, 2) := by decide +kernel
theorem dX6_pass_129 : decode cX6_pass 129 = .ok (.iaload, 1) := by decide +kernel
theorem dX6_pass_130 : decode cX6_pass 130 = .ok (.invokevirtual 91, 3) := by decide +kernel
theorem dX6_pass_133 : decode cX6_pass 133 = .ok (.ifCond .eq 38, 3) := by decide +kernel
theorem dX6_pass_136 : decode cX6_pass 136 = .ok (.aload_n 0, 1) := by decide +kernel
theorem dX6_pass_137 : decode cX6_pass 137 = .ok (.getfield 20, 3) := by decide +kernel
theorem dX6_pass_140 : decode cX6_pass 140 = .ok (.iload 5, 2) := by decide +kernel
theorem dX6_pass_142 : decode cX6_pass 142 = .ok (.aload_n 0, 1) := by decide +kernel
theorem dX6_pass_143 : decode cX6_pass 143 = .ok (.getfield 20, 3) := by decide +kernel
theorem dX6_pass_146 : decode cX6_pass 146 = .ok (.iload 5, 2) := by decide +kernel
theorem dX6_pass_148 : decode cX6_pass 148 = .ok (.iaload, 1) := by decide +kernel
theorem dX6_pass_149 : decode cX6_pass 149 = .ok (.iconst (-1), 1) := by decide +kernel
theorem dX6_pass_150 : decode cX6_pass 150 = .ok (.if_icmp .ne 10, 3) := by decide +kernel
theorem dX6_pass_153 : decode cX6_pass 153 = .ok (.aload_n 0, 1) := by decide +kernel
theorem dX6_pass_154 : decode cX6_pass 154 = .ok (.getfield 107, 3) := by decide +kernel
theorem dX6_pass_157 : decode cX6_pass 157 = .ok (.goto 10, 3) := by decide +kernel
theorem dX6_pass_160 : decode cX6_pass 160 = .ok (.aload_n 0, 1) := by decide +kernel
theorem dX6_pass_161 : decode cX6_pass 161 = .ok (.getfield 20, 3) := by decide +kernel
theorem dX6_pass_164 : decode cX6_pass 164 = .ok (.iload 5, 2) := by decide +kernel
theorem dX6_pass_166 : decode cX6_pass 166 = .ok (.iaload, 1) := by decide +kernel
theorem dX6_pass_167 : decode cX6_pass 167 = .ok (.iastore, 1) := by decide +kernel
theorem dX6_pass_168 : decode cX6_pass 168 = .ok (.iinc 2 1, 3) := by decide +kernel
theorem dX6_pass_171 : decode cX6_pass 171 = .ok (.iinc 4 1, 3) := by decide +kernel
theorem dX6_pass_174 : decode cX6_pass 174 = .ok (.goto (-117), 3) := by decide +kernel
theorem dX6_pass_177 : decode cX6_pass 177 = .ok (.iinc 3 1, 3) := by decide +kernel
theorem dX6_pass_180 : decode cX6_pass 180 = .ok (.goto (-141), 3) := by decide +kernel
theorem dX6_pass_183 : decode cX6_pass 183 = .ok (.iload_n 2, 1) := by decide +kernel
theorem dX6_pass_184 : decode cX6_pass 184 = .ok (.ireturn, 1) := by decide +kernel
set_option maxRecDepth 20000 in
theorem ggX6_call_X6_isReferee : GoodIn wsX6_call wsX6_isReferee := goodIn_r _ [13, 14, 15, 12, 16] (by decide +kernel) (by decide +kernel)
set_option maxRecDepth 20000 in
theorem gX6_call_X6_isReferee : GoodIn wsX6_call (va_wsS RX6 95 yX6_isReferee wsX6_isReferee) := goodIn_app (goodIn_of _ (by decide +kernel)) ggX6_call_X6_isReferee
set_option maxRecDepth 20000 in
theorem ggX6_call_X6_isPlayer : GoodIn wsX6_call wsX6_isPlayer := goodIn_r _ [19, 14, 15, 12, 16] (by decide +kernel) (by decide +kernel)
set_option maxRecDepth 20000 in
theorem gX6_call_X6_isPlayer : GoodIn wsX6_call (va_wsS RX6 120 yX6_isPlayer wsX6_isPlayer) := goodIn_app (goodIn_of _ (by decide +kernel)) ggX6_call_X6_isPlayer
set_option maxRecDepth 20000 in
theorem ggX6_call_X6_see : GoodIn wsX6_call wsX6_see := goodIn_r _ [23, 24, 25, 26, 12, 27, 28, 29, 30, 14, 15, 16, 31, 32, 33, 39, 40, 41, 42, 43, 44, 45, 46, 47, 48, 49, 50, 51, 52, 53, 54, 55, 56, 57, 58, 59, 60, 61, 62] (by decide +kernel) (by decide +kernel)
set_option maxRecDepth 20000 in
theorem gX6_call_X6_see : GoodIn wsX6_call (wsV RX6 91 RX6 yX6_see wsX6_see) := goodIn_app (goodIn_of _ (by decide +kernel)) ggX6_call_X6_see
set_option maxRecDepth 20000 in
theorem ggX6_call_X6_fails : GoodIn wsX6_call wsX6_fails := goodIn_r _ [37, 38, 39, 40, 41, 42, 43, 44, 45, 46, 47, 48, 49, 50, 51, 52, 53, 54, 55, 56, 57, 58, 59, 60, 61, 62] (by decide +kernel) (by decide +kernel)
set_option maxRecDepth 20000 in
theorem gX6_call_X6_fails : GoodIn wsX6_call (wsV RX6 88 RX6 yX6_fails wsX6_fails) := goodIn_app (goodIn_of _ (by decide +kernel)) ggX6_call_X6_fails
theorem dX6_call_0 : decode cX6_call 0 = .ok (.iload_n 1, 1) := by decide +kernel
theorem dX6_call_1 : decode cX6_call 1 = .ok (.invokestatic 95, 3) := by decide +kernel
theorem dX6_call_4 : decode cX6_call 4 = .ok (.ifCond .eq 14, 3) := by decide +kernel
theorem dX6_call_7 : decode cX6_call 7 = .ok (.iload_n 2, 1) := by decide +kernel
theorem dX6_call_8 : decode cX6_call 8 = .ok (.invokestatic 120, 3) := by decide +kernel
theorem dX6_call_11 : decode cX6_call 11 = .ok (.ifCond .eq 7, 3) := by decide +kernel
theorem dX6_call_14 : decode cX6_call 14 = .ok (.iconst 1, 1) := by decide +kernel
theorem dX6_call_15 : decode cX6_call 15 = .ok (.goto 4, 3) := by decide +kernel
theorem dX6_call_18 : decode cX6_call 18 = .ok (.iconst 0, 1) := by decide +kernel
theorem dX6_call_19 : decode cX6_call 19 = .ok (.istore_n 3, 1) := by decide +kernel
theorem dX6_call_20 : decode cX6_call 20 = .ok (.iload_n 3, 1) := by decide +kernel
theorem dX6_call_21 : decode cX6_call 21 = .ok (.ifCond .eq 42, 3) := by decide +kernel
theorem dX6_call_24 : decode cX6_call 24 = .ok (.aload_n 0, 1) := by decide +kernel
theorem dX6_call_25 : decode cX6_call 25 = .ok (.getfield 84, 3) := by decide +kernel
theorem dX6_call_28 : decode cX6_call 28 = .ok (.ifCond .eq 35, 3) := by decide +kernel
theorem dX6_call_31 : decode cX6_call 31 = .ok (.aload_n 0, 1) := by decide +kernel
theorem dX6_call_32 : decode cX6_call 32 = .ok (.getfield 17, 3) := by decide +kernel
theorem dX6_call_35 : decode cX6_call 35 = .ok (.iload_n 2, 1) := by decide +kernel
theorem dX6_call_36 : decode cX6_call 36 = .ok (.iaload, 1) := by decide +kernel
theorem dX6_call_37 : decode cX6_call 37 = .ok (.ifCond .lt 26, 3) := by decide +kernel
theorem dX6_call_40 : decode cX6_call 40 = .ok (.aload_n 0, 1) := by decide +kernel
theorem dX6_call_41 : decode cX6_call 41 = .ok (.aload_n 0, 1) := by decide +kernel
theorem dX6_call_42 : decode cX6_call 42 = .ok (.getfield 13, 3) := by decide +kernel
theorem dX6_call_45 : decode cX6_call 45 = .ok (.iload_n 1, 1) := by decide +kernel
theorem dX6_call_46 : decode cX6_call 46 = .ok (.iaload, 1) := by decide +kernel
theorem dX6_call_47 : decode cX6_call 47 = .ok (.aload_n 0, 1) := by decide +kernel
theorem dX6_call_48 : decode cX6_call 48 = .ok (.getfield 17, 3) := by decide +kernel
theorem dX6_call_51 : decode cX6_call 51 = .ok (.iload_n 2, 1) := by decide +kernel
theorem dX6_call_52 : decode cX6_call 52 = .ok (.iaload, 1) := by decide +kernel
theorem dX6_call_53 : decode cX6_call 53 = .ok (.invokevirtual 91, 3) := by decide +kernel
theorem dX6_call_56 : decode cX6_call 56 = .ok (.ifCond .eq 7, 3) := by decide +kernel
theorem dX6_call_59 : decode cX6_call 59 = .ok (.iconst 1, 1) := by decide +kernel
theorem dX6_call_60 : decode cX6_call 60 = .ok (.goto 4, 3) := by decide +kernel
theorem dX6_call_63 : decode cX6_call 63 = .ok (.iconst 0, 1) := by decide +kernel
theorem dX6_call_64 : decode cX6_call 64 = .ok (.istore 4, 2) := by decide +kernel
theorem dX6_call_66 : decode cX6_call 66 = .ok (.aload_n 0, 1) := by decide +kernel
theorem dX6_call_67 : decode cX6_call 67 = .ok (.iload_n 3, 1) := by decide +kernel
theorem dX6_call_68 : decode cX6_call 68 = .ok (.ifCond .ne 7, 3) := by decide +kernel
theorem dX6_call_71 : decode cX6_call 71 = .ok (.iconst 1, 1) := by decide +kernel
theorem dX6_call_72 : decode cX6_call 72 = .ok (.goto 13, 3) := by decide +kernel
theorem dX6_call_75 : decode cX6_call 75 = .ok (.iload 4, 2) := by decide +kernel
theorem dX6_call_77 : decode cX6_call 77 = .ok (.ifCond .eq 7, 3) := by decide +kernel
theorem dX6_call_80 : decode cX6_call 80 = .ok (.iconst 0, 1) := by decide +kernel
theorem dX6_call_81 : decode cX6_call 81 = .ok (.goto 4, 3) := by decide +kernel
theorem dX6_call_84 : decode cX6_call 84 = .ok (.iconst 2, 1) := by decide +kernel
theorem dX6_call_85 : decode cX6_call 85 = .ok (.invokevirtual 88, 3) := by decide +kernel
theorem dX6_call_88 : decode cX6_call 88 = .ok (.ifCond .eq 5, 3) := by decide +kernel
theorem dX6_call_91 : decode cX6_call 91 = .ok (.iconst 0, 1) := by decide +kernel
theorem dX6_call_92 : decode cX6_call 92 = .ok (.ireturn, 1) := by decide +kernel
theorem dX6_call_93 : decode cX6_call 93 = .ok (.aload_n 0, 1) := by decide +kernel
theorem dX6_call_94 : decode cX6_call 94 = .ok (.getfield 38, 3) := by decide +kernel
theorem dX6_call_97 : decode cX6_call 97 = .ok (.aload_n 0, 1) := by decide +kernel
theorem dX6_call_98 : decode cX6_call 98 = .ok (.getfield 113, 3) := by decide +kernel
theorem dX6_call_101 : decode cX6_call 101 = .ok (.iload_n 2, 1) := by decide +kernel
theorem dX6_call_102 : decode cX6_call 102 = .ok (.iastore, 1) := by decide +kernel
theorem dX6_call_103 : decode cX6_call 103 = .ok (.aload_n 0, 1) := by decide +kernel
theorem dX6_call_104 : decode cX6_call 104 = .ok (.getfield 41, 3) := by decide +kernel
theorem dX6_call_107 : decode cX6_call 107 = .ok (.aload_n 0, 1) := by decide +kernel
theorem dX6_call_108 : decode cX6_call 108 = .ok (.getfield 113, 3) := by decide +kernel
theorem dX6_call_111 : decode cX6_call 111 = .ok (.aload_n 0, 1) := by decide +kernel
theorem dX6_call_112 : decode cX6_call 112 = .ok (.getfield 107, 3) := by decide +kernel
theorem dX6_call_115 : decode cX6_call 115 = .ok (.iastore, 1) := by decide +kernel
theorem dX6_call_116 : decode cX6_call 116 = .ok (.aload_n 0, 1) := by decide +kernel
theorem dX6_call_117 : decode cX6_call 117 = .ok (.getfield 44, 3) := by decide +kernel
theorem dX6_call_120 : decode cX6_call 120 = .ok (.aload_n 0, 1) := by decide +kernel
theorem dX6_call_121 : decode cX6_call 121 = .ok (.getfield 113, 3) := by decide +kernel
theorem dX6_call_124 : decode cX6_call 124 = .ok (.aload_n 0, 1) := by decide +kernel
theorem dX6_call_125 : decode cX6_call 125 = .ok (.getfield 17, 3) := by decide +kernel
theorem dX6_call_128 : decode cX6_call 128 = .ok (.iload_n 2, 1) := by decide +kernel
theorem dX6_call_129 : decode cX6_call 129 = .ok (.iaload, 1) := by decide +kernel
theorem dX6_call_130 : decode cX6_call 130 = .ok (.iastore, 1) := by decide +kernel
theorem dX6_call_131 : decode cX6_call 131 = .ok (.aload_n 0, 1) := by decide +kernel
theorem dX6_call_132 : decode cX6_call 132 = .ok (.getfield 47, 3) := by decide +kernel
theorem dX6_call_135 : decode cX6_call 135 = .ok (.aload_n 0, 1) := by decide +kernel
theorem dX6_call_136 : decode cX6_call 136 = .ok (.getfield 113, 3) := by decide +kernel
theorem dX6_call_139 : decode cX6_call 139 = .ok (.iconst 0, 1) := by decide +kernel
theorem dX6_call_140 : decode cX6_call 140 = .ok (.bastore, 1) := by decide +kernel
theorem dX6_call_141 : decode cX6_call 141 = .ok (.aload_n 0, 1) := by decide +kernel
theorem dX6_call_142 : decode cX6_call 142 = .ok (.getfield 17, 3) := by decide +kernel
theorem dX6_call_145 : decode cX6_call 145 = .ok (.iload_n 2, 1) := by decide +kernel
theorem dX6_call_146 : decode cX6_call 146 = .ok (.bipush (-2), 2) := by decide +kernel
theorem dX6_call_148 : decode cX6_call 148 = .ok (.iastore, 1) := by decide +kernel
theorem dX6_call_149 : decode cX6_call 149 = .ok (.aload_n 0, 1) := by decide +kernel
theorem dX6_call_150 : decode cX6_call 150 = .ok (.dup, 1) := by decide +kernel
theorem dX6_call_151 : decode cX6_call 151 = .ok (.getfield 113, 3) := by decide +kernel
theorem dX6_call_154 : decode cX6_call 154 = .ok (.iconst 1, 1) := by decide +kernel
theorem dX6_call_155 : decode cX6_call 155 = .ok (.iadd, 1) := by decide +kernel
theorem dX6_call_156 : decode cX6_call 156 = .ok (.putfield 113, 3) := by decide +kernel
theorem dX6_call_159 : decode cX6_call 159 = .ok (.aload_n 0, 1) := by decide +kernel
theorem dX6_call_160 : decode cX6_call 160 = .ok (.getfield 113, 3) := by decide +kernel
theorem dX6_call_163 : decode cX6_call 163 = .ok (.iconst 1, 1) := by decide +kernel
theorem dX6_call_164 : decode cX6_call 164 = .ok (.isub, 1) := by decide +kernel
theorem dX6_call_165 : decode cX6_call 165 = .ok (.ireturn, 1) := by decide +kernel
theorem dX6_teamOf_0 : decode cX6_teamOf 0 = .ok (.iload_n 1, 1) := by decide +kernel
theorem dX6_teamOf_1 : decode cX6_teamOf 1 = .ok (.iconst 3, 1) := by decide +kernel
theorem dX6_teamOf_2 : decode cX6_teamOf 2 = .ok (.if_icmp .ge 10, 3) := by decide +kernel
theorem dX6_teamOf_5 : decode cX6_teamOf 5 = .ok (.aload_n 0, 1) := by decide +kernel
theorem dX6_teamOf_6 : decode cX6_teamOf 6 = .ok (.getfield 101, 3) := by decide +kernel
theorem dX6_teamOf_9 : decode cX6_teamOf 9 = .ok (.goto 7, 3) := by decide +kernel
theorem dX6_teamOf_12 : decode cX6_teamOf 12 = .ok (.aload_n 0, 1) := by decide +kernel
theorem dX6_teamOf_13 : decode cX6_teamOf 13 = .ok (.getfield 104, 3) := by decide +kernel
theorem dX6_teamOf_16 : decode cX6_teamOf 16 = .ok (.ireturn, 1) := by decide +kernel
set_option maxRecDepth 20000 in
theorem ggX6_dispute_X6_isIn : GoodIn wsX6_dispute wsX6_isIn := goodIn_r _ [13] (by decide +kernel) (by decide +kernel)
set_option maxRecDepth 20000 in
theorem gX6_dispute_X6_isIn : GoodIn wsX6_dispute (va_wsS RX6 66 yX6_isIn wsX6_isIn) := goodIn_app (goodIn_of _ (by decide +kernel)) ggX6_dispute_X6_isIn
set_option maxRecDepth 20000 in
theorem ggX6_dispute_X6_fails : GoodIn wsX6_dispute wsX6_fails := goodIn_r _ [17, 18, 29, 30, 31, 32, 33, 34, 35, 36, 37, 38, 39, 40, 41, 42, 43, 44, 45, 46, 47, 48, 49, 50, 51, 52] (by decide +kernel) (by decide +kernel)
set_option maxRecDepth 20000 in
theorem gX6_dispute_X6_fails : GoodIn wsX6_dispute (wsV RX6 88 RX6 yX6_fails wsX6_fails) := goodIn_app (goodIn_of _ (by decide +kernel)) ggX6_dispute_X6_fails
set_option maxRecDepth 20000 in
theorem ggX6_dispute_X6_teamOf : GoodIn wsX6_dispute wsX6_teamOf := goodIn_r _ [22, 23, 24, 29, 30, 31, 32, 33, 34, 35, 36, 37, 38, 39, 40, 41, 42, 43, 44, 45, 46, 47, 48, 49, 50, 51, 52] (by decide +kernel) (by decide +kernel)
set_option maxRecDepth 20000 in
theorem gX6_dispute_X6_teamOf : GoodIn wsX6_dispute (wsV RX6 130 RX6 yX6_teamOf wsX6_teamOf) := goodIn_app (goodIn_of _ (by decide +kernel)) ggX6_dispute_X6_teamOf
set_option maxRecDepth 20000 in
theorem ggX6_dispute_X6_standsOn : GoodIn wsX6_dispute wsX6_standsOn := goodIn_r _ [28, 8, 29, 30, 31, 32, 33, 34, 35, 36, 37, 38, 39, 40, 41, 42, 43, 44, 45, 46, 47, 48, 49, 50, 51, 52] (by decide +kernel) (by decide +kernel)
set_option maxRecDepth 20000 in
theorem gX6_dispute_X6_standsOn : GoodIn wsX6_dispute (wsV RX6 127 RX6 yX6_standsOn wsX6_standsOn) := goodIn_app (goodIn_of _ (by decide +kernel)) ggX6_dispute_X6_standsOn
theorem dX6_dispute_0 : decode cX6_dispute 0 = .ok (.aload_n 0, 1) := by decide +kernel
theorem dX6_dispute_1 : decode cX6_dispute 1 = .ok (.getfield 84, 3) := by decide +kernel
theorem dX6_dispute_4 : decode cX6_dispute 4 = .ok (.ifCond .eq 21, 3) := by decide +kernel
theorem dX6_dispute_7 : decode cX6_dispute 7 = .ok (.iload_n 1, 1) := by decide +kernel
theorem dX6_dispute_8 : decode cX6_dispute 8 = .ok (.iconst 0, 1) := by decide +kernel
theorem dX6_dispute_9 : decode cX6_dispute 9 = .ok (.aload_n 0, 1) := by decide +kernel
theorem dX6_dispute_10 : decode cX6_dispute 10 = .ok (.getfield 113, 3) := by decide +kernel
theorem dX6_dispute_13 : decode cX6_dispute 13 = .ok (.iconst 1, 1) := by decide +kernel
theorem dX6_dispute_14 : decode cX6_dispute 14 = .ok (.isub, 1) := by decide +kernel
theorem dX6_dispute_15 : decode cX6_dispute 15 = .ok (.invokestatic 66, 3) := by decide +kernel
theorem dX6_dispute_18 : decode cX6_dispute 18 = .ok (.ifCond .eq 7, 3) := by decide +kernel
theorem dX6_dispute_21 : decode cX6_dispute 21 = .ok (.iconst 1, 1) := by decide +kernel
theorem dX6_dispute_22 : decode cX6_dispute 22 = .ok (.goto 4, 3) := by decide +kernel
theorem dX6_dispute_25 : decode cX6_dispute 25 = .ok (.iconst 0, 1) := by decide +kernel
theorem dX6_dispute_26 : decode cX6_dispute 26 = .ok (.istore_n 2, 1) := by decide +kernel
theorem dX6_dispute_27 : decode cX6_dispute 27 = .ok (.aload_n 0, 1) := by decide +kernel
theorem dX6_dispute_28 : decode cX6_dispute 28 = .ok (.iload_n 2, 1) := by decide +kernel
theorem dX6_dispute_29 : decode cX6_dispute 29 = .ok (.ifCond .ne 7, 3) := by decide +kernel
theorem dX6_dispute_32 : decode cX6_dispute 32 = .ok (.iconst 1, 1) := by decide +kernel
theorem dX6_dispute_33 : decode cX6_dispute 33 = .ok (.goto 17, 3) := by decide +kernel
theorem dX6_dispute_36 : decode cX6_dispute 36 = .ok (.aload_n 0, 1) := by decide +kernel
theorem dX6_dispute_37 : decode cX6_dispute 37 = .ok (.getfield 47, 3) := by decide +kernel
theorem dX6_dispute_40 : decode cX6_dispute 40 = .ok (.iload_n 1, 1) := by decide +kernel
theorem dX6_dispute_41 : decode cX6_dispute 41 = .ok (.baload, 1) := by decide +kernel
theorem dX6_dispute_42 : decode cX6_dispute 42 = .ok (.ifCond .eq 7, 3) := by decide +kernel
theorem dX6_dispute_45 : decode cX6_dispute 45 = .ok (.iconst 2, 1) := by decide +kernel
theorem dX6_dispute_46 : decode cX6_dispute 46 = .ok (.goto 4, 3) := by decide +kernel
theorem dX6_dispute_49 : decode cX6_dispute 49 = .ok (.iconst 0, 1) := by decide +kernel
theorem dX6_dispute_50 : decode cX6_dispute 50 = .ok (.invokevirtual 88, 3) := by decide +kernel
theorem dX6_dispute_53 : decode cX6_dispute 53 = .ok (.ifCond .eq 5, 3) := by decide +kernel
theorem dX6_dispute_56 : decode cX6_dispute 56 = .ok (.iconst 0, 1) := by decide +kernel
theorem dX6_dispute_57 : decode cX6_dispute 57 = .ok (.ireturn, 1) := by decide +kernel
theorem dX6_dispute_58 : decode cX6_dispute 58 = .ok (.aload_n 0, 1) := by decide +kernel
theorem dX6_dispute_59 : decode cX6_dispute 59 = .ok (.getfield 47, 3) := by decide +kernel
theorem dX6_dispute_62 : decode cX6_dispute 62 = .ok (.iload_n 1, 1) := by decide +kernel
theorem dX6_dispute_63 : decode cX6_dispute 63 = .ok (.iconst 1, 1) := by decide +kernel
theorem dX6_dispute_64 : decode cX6_dispute 64 = .ok (.bastore, 1) := by decide +kernel
theorem dX6_dispute_65 : decode cX6_dispute 65 = .ok (.aload_n 0, 1) := by decide +kernel
theorem dX6_dispute_66 : decode cX6_dispute 66 = .ok (.getfield 38, 3) := by decide +kernel
theorem dX6_dispute_69 : decode cX6_dispute 69 = .ok (.iload_n 1, 1) := by decide +kernel
theorem dX6_dispute_70 : decode cX6_dispute 70 = .ok (.iaload, 1) := by decide +kernel
theorem dX6_dispute_71 : decode cX6_dispute 71 = .ok (.istore_n 3, 1) := by decide +kernel
theorem dX6_dispute_72 : decode cX6_dispute 72 = .ok (.aload_n 0, 1) := by decide +kernel
theorem dX6_dispute_73 : decode cX6_dispute 73 = .ok (.getfield 20, 3) := by decide +kernel
theorem dX6_dispute_76 : decode cX6_dispute 76 = .ok (.iload_n 3, 1) := by decide +kernel
theorem dX6_dispute_77 : decode cX6_dispute 77 = .ok (.iaload, 1) := by decide +kernel
theorem dX6_dispute_78 : decode cX6_dispute 78 = .ok (.iconst (-1), 1) := by decide +kernel
theorem dX6_dispute_79 : decode cX6_dispute 79 = .ok (.if_icmp .eq 22, 3) := by decide +kernel
theorem dX6_dispute_82 : decode cX6_dispute 82 = .ok (.aload_n 0, 1) := by decide +kernel
theorem dX6_dispute_83 : decode cX6_dispute 83 = .ok (.getfield 20, 3) := by decide +kernel
theorem dX6_dispute_86 : decode cX6_dispute 86 = .ok (.iload_n 3, 1) := by decide +kernel
theorem dX6_dispute_87 : decode cX6_dispute 87 = .ok (.iaload, 1) := by decide +kernel
theorem dX6_dispute_88 : decode cX6_dispute 88 = .ok (.aload_n 0, 1) := by decide +kernel
theorem dX6_dispute_89 : decode cX6_dispute 89 = .ok (.getfield 41, 3) := by decide +kernel
theorem dX6_dispute_92 : decode cX6_dispute 92 = .ok (.iload_n 1, 1) := by decide +kernel
theorem dX6_dispute_93 : decode cX6_dispute 93 = .ok (.iaload, 1) := by decide +kernel
theorem dX6_dispute_94 : decode cX6_dispute 94 = .ok (.if_icmp .gt 7, 3) := by decide +kernel
theorem dX6_dispute_97 : decode cX6_dispute 97 = .ok (.iconst 1, 1) := by decide +kernel
theorem dX6_dispute_98 : decode cX6_dispute 98 = .ok (.goto 4, 3) := by decide +kernel
theorem dX6_dispute_101 : decode cX6_dispute 101 = .ok (.iconst 0, 1) := by decide +kernel
theorem dX6_dispute_102 : decode cX6_dispute 102 = .ok (.istore 4, 2) := by decide +kernel
theorem dX6_dispute_104 : decode cX6_dispute 104 = .ok (.iload 4, 2) := by decide +kernel
theorem dX6_dispute_106 : decode cX6_dispute 106 = .ok (.ifCond .eq 20, 3) := by decide +kernel
theorem dX6_dispute_109 : decode cX6_dispute 109 = .ok (.aload_n 0, 1) := by decide +kernel
theorem dX6_dispute_110 : decode cX6_dispute 110 = .ok (.getfield 53, 3) := by decide +kernel
theorem dX6_dispute_113 : decode cX6_dispute 113 = .ok (.aload_n 0, 1) := by decide +kernel
theorem dX6_dispute_114 : decode cX6_dispute 114 = .ok (.iload_n 3, 1) := by decide +kernel
theorem dX6_dispute_115 : decode cX6_dispute 115 = .ok (.invokevirtual 130, 3) := by decide +kernel
theorem dX6_dispute_118 : decode cX6_dispute 118 = .ok (.dup2, 1) := by decide +kernel
theorem dX6_dispute_119 : decode cX6_dispute 119 = .ok (.iaload, 1) := by decide +kernel
theorem dX6_dispute_120 : decode cX6_dispute 120 = .ok (.iconst 1, 1) := by decide +kernel
theorem dX6_dispute_121 : decode cX6_dispute 121 = .ok (.iadd, 1) := by decide +kernel
theorem dX6_dispute_122 : decode cX6_dispute 122 = .ok (.iastore, 1) := by decide +kernel
theorem dX6_dispute_123 : decode cX6_dispute 123 = .ok (.goto 33, 3) := by decide +kernel
theorem dX6_dispute_126 : decode cX6_dispute 126 = .ok (.aload_n 0, 1) := by decide +kernel
theorem dX6_dispute_127 : decode cX6_dispute 127 = .ok (.getfield 17, 3) := by decide +kernel
theorem dX6_dispute_130 : decode cX6_dispute 130 = .ok (.iload_n 3, 1) := by decide +kernel
theorem dX6_dispute_131 : decode cX6_dispute 131 = .ok (.aload_n 0, 1) := by decide +kernel
theorem dX6_dispute_132 : decode cX6_dispute 132 = .ok (.aload_n 0, 1) := by decide +kernel
theorem dX6_dispute_133 : decode cX6_dispute 133 = .ok (.getfield 44, 3) := by decide +kernel
theorem dX6_dispute_136 : decode cX6_dispute 136 = .ok (.iload_n 1, 1) := by decide +kernel
theorem dX6_dispute_137 : decode cX6_dispute 137 = .ok (.iaload, 1) := by decide +kernel
theorem dX6_dispute_138 : decode cX6_dispute 138 = .ok (.invokevirtual 127, 3) := by decide +kernel
theorem dX6_dispute_141 : decode cX6_dispute 141 = .ok (.iconst (-1), 1) := by decide +kernel
theorem dX6_dispute_142 : decode cX6_dispute 142 = .ok (.if_icmp .ne 12, 3) := by decide +kernel
theorem dX6_dispute_145 : decode cX6_dispute 145 = .ok (.aload_n 0, 1) := by decide +kernel
theorem dX6_dispute_146 : decode cX6_dispute 146 = .ok (.getfield 44, 3) := by decide +kernel
theorem dX6_dispute_149 : decode cX6_dispute 149 = .ok (.iload_n 1, 1) := by decide +kernel
theorem dX6_dispute_150 : decode cX6_dispute 150 = .ok (.iaload, 1) := by decide +kernel
theorem dX6_dispute_151 : decode cX6_dispute 151 = .ok (.goto 4, 3) := by decide +kernel
theorem dX6_dispute_154 : decode cX6_dispute 154 = .ok (.iconst (-1), 1) := by decide +kernel
theorem dX6_dispute_155 : decode cX6_dispute 155 = .ok (.iastore, 1) := by decide +kernel
theorem dX6_dispute_156 : decode cX6_dispute 156 = .ok (.iload 4, 2) := by decide +kernel
theorem dX6_dispute_158 : decode cX6_dispute 158 = .ok (.ireturn, 1) := by decide +kernel
set_option maxRecDepth 20000 in
theorem ggX6_end_X6_fails : GoodIn wsX6_end wsX6_fails := goodIn_r _ [14, 15, 16, 17, 18, 19, 20, 21, 22, 23, 24, 25, 26, 27, 28, 29, 30, 31, 32, 33, 34, 35, 36, 37, 38, 39] (by decide +kernel) (by decide +kernel)
set_option maxRecDepth 20000 in
theorem gX6_end_X6_fails : GoodIn wsX6_end (wsV RX6 88 RX6 yX6_fails wsX6_fails) := goodIn_app (goodIn_of _ (by decide +kernel)) ggX6_end_X6_fails
theorem dX6_end_0 : decode cX6_end 0 = .ok (.aload_n 0, 1) := by decide +kernel
theorem dX6_end_1 : decode cX6_end 1 = .ok (.aload_n 0, 1) := by decide +kernel
theorem dX6_end_2 : decode cX6_end 2 = .ok (.getfield 84, 3) := by decide +kernel
theorem dX6_end_5 : decode cX6_end 5 = .ok (.ifCond .eq 7, 3) := by decide +kernel
theorem dX6_end_8 : decode cX6_end 8 = .ok (.iconst 0, 1) := by decide +kernel
theorem dX6_end_9 : decode cX6_end 9 = .ok (.goto 4, 3) := by decide +kernel
theorem dX6_end_12 : decode cX6_end 12 = .ok (.iconst 1, 1) := by decide +kernel
theorem dX6_end_13 : decode cX6_end 13 = .ok (.invokevirtual 88, 3) := by decide +kernel
theorem dX6_end_16 : decode cX6_end 16 = .ok (.ifCond .eq 5, 3) := by decide +kernel
theorem dX6_end_19 : decode cX6_end 19 = .ok (.iconst 0, 1) := by decide +kernel
theorem dX6_end_20 : decode cX6_end 20 = .ok (.ireturn, 1) := by decide +kernel
theorem dX6_end_21 : decode cX6_end 21 = .ok (.aload_n 0, 1) := by decide +kernel
theorem dX6_end_22 : decode cX6_end 22 = .ok (.iconst 0, 1) := by decide +kernel
theorem dX6_end_23 : decode cX6_end 23 = .ok (.putfield 84, 3) := by decide +kernel
theorem dX6_end_26 : decode cX6_end 26 = .ok (.iconst 0, 1) := by decide +kernel
theorem dX6_end_27 : decode cX6_end 27 = .ok (.istore_n 1, 1) := by decide +kernel
theorem dX6_end_28 : decode cX6_end 28 = .ok (.iconst 0, 1) := by decide +kernel
theorem dX6_end_29 : decode cX6_end 29 = .ok (.istore_n 2, 1) := by decide +kernel
theorem dX6_end_30 : decode cX6_end 30 = .ok (.iload_n 2, 1) := by decide +kernel
theorem dX6_end_31 : decode cX6_end 31 = .ok (.bipush 6, 2) := by decide +kernel
theorem dX6_end_33 : decode cX6_end 33 = .ok (.if_icmp .ge 57, 3) := by decide +kernel
theorem dX6_end_36 : decode cX6_end 36 = .ok (.aload_n 0, 1) := by decide +kernel
theorem dX6_end_37 : decode cX6_end 37 = .ok (.getfield 17, 3) := by decide +kernel
theorem dX6_end_40 : decode cX6_end 40 = .ok (.iload_n 2, 1) := by decide +kernel
theorem dX6_end_41 : decode cX6_end 41 = .ok (.iaload, 1) := by decide +kernel
theorem dX6_end_42 : decode cX6_end 42 = .ok (.bipush (-2), 2) := by decide +kernel
theorem dX6_end_44 : decode cX6_end 44 = .ok (.if_icmp .eq 17, 3) := by decide +kernel
theorem dX6_end_47 : decode cX6_end 47 = .ok (.aload_n 0, 1) := by decide +kernel
theorem dX6_end_48 : decode cX6_end 48 = .ok (.getfield 20, 3) := by decide +kernel
theorem dX6_end_51 : decode cX6_end 51 = .ok (.iload_n 2, 1) := by decide +kernel
theorem dX6_end_52 : decode cX6_end 52 = .ok (.iaload, 1) := by decide +kernel
theorem dX6_end_53 : decode cX6_end 53 = .ok (.iconst (-1), 1) := by decide +kernel
theorem dX6_end_54 : decode cX6_end 54 = .ok (.if_icmp .ne 7, 3) := by decide +kernel
theorem dX6_end_57 : decode cX6_end 57 = .ok (.iconst 1, 1) := by decide +kernel
theorem dX6_end_58 : decode cX6_end 58 = .ok (.goto 4, 3) := by decide +kernel
theorem dX6_end_61 : decode cX6_end 61 = .ok (.iconst 0, 1) := by decide +kernel
theorem dX6_end_62 : decode cX6_end 62 = .ok (.istore_n 3, 1) := by decide +kernel
theorem dX6_end_63 : decode cX6_end 63 = .ok (.iload_n 1, 1) := by decide +kernel
theorem dX6_end_64 : decode cX6_end 64 = .ok (.iload_n 3, 1) := by decide +kernel
theorem dX6_end_65 : decode cX6_end 65 = .ok (.ifCond .ne 7, 3) := by decide +kernel
theorem dX6_end_68 : decode cX6_end 68 = .ok (.iconst 0, 1) := by decide +kernel
theorem dX6_end_69 : decode cX6_end 69 = .ok (.goto 13, 3) := by decide +kernel
theorem dX6_end_72 : decode cX6_end 72 = .ok (.iload_n 2, 1) := by decide +kernel
theorem dX6_end_73 : decode cX6_end 73 = .ok (.iconst 3, 1) := by decide +kernel
theorem dX6_end_74 : decode cX6_end 74 = .ok (.if_icmp .ge 7, 3) := by decide +kernel
theorem dX6_end_77 : decode cX6_end 77 = .ok (.iconst 1, 1) := by decide +kernel
theorem dX6_end_78 : decode cX6_end 78 = .ok (.goto 4, 3) := by decide +kernel
theorem dX6_end_81 : decode cX6_end 81 = .ok (.iconst (-1), 1) := by decide +kernel
theorem dX6_end_82 : decode cX6_end 82 = .ok (.iadd, 1) := by decide +kernel
theorem dX6_end_83 : decode cX6_end 83 = .ok (.istore_n 1, 1) := by decide +kernel
theorem dX6_end_84 : decode cX6_end 84 = .ok (.iinc 2 1, 3) := by decide +kernel
theorem dX6_end_87 : decode cX6_end 87 = .ok (.goto (-57), 3) := by decide +kernel
theorem dX6_end_90 : decode cX6_end 90 = .ok (.aload_n 0, 1) := by decide +kernel
theorem dX6_end_91 : decode cX6_end 91 = .ok (.getfield 50, 3) := by decide +kernel
theorem dX6_end_94 : decode cX6_end 94 = .ok (.aload_n 0, 1) := by decide +kernel
theorem dX6_end_95 : decode cX6_end 95 = .ok (.getfield 101, 3) := by decide +kernel
theorem dX6_end_98 : decode cX6_end 98 = .ok (.dup2, 1) := by decide +kernel
theorem dX6_end_99 : decode cX6_end 99 = .ok (.iaload, 1) := by decide +kernel
theorem dX6_end_100 : decode cX6_end 100 = .ok (.iload_n 1, 1) := by decide +kernel
theorem dX6_end_101 : decode cX6_end 101 = .ok (.ifCond .le 7, 3) := by decide +kernel
theorem dX6_end_104 : decode cX6_end 104 = .ok (.iconst 3, 1) := by decide +kernel
theorem dX6_end_105 : decode cX6_end 105 = .ok (.goto 12, 3) := by decide +kernel
theorem dX6_end_108 : decode cX6_end 108 = .ok (.iload_n 1, 1) := by decide +kernel
theorem dX6_end_109 : decode cX6_end 109 = .ok (.ifCond .ne 7, 3) := by decide +kernel
theorem dX6_end_112 : decode cX6_end 112 = .ok (.iconst 1, 1) := by decide +kernel
theorem dX6_end_113 : decode cX6_end 113 = .ok (.goto 4, 3) := by decide +kernel
theorem dX6_end_116 : decode cX6_end 116 = .ok (.iconst 0, 1) := by decide +kernel
theorem dX6_end_117 : decode cX6_end 117 = .ok (.iadd, 1) := by decide +kernel
theorem dX6_end_118 : decode cX6_end 118 = .ok (.iastore, 1) := by decide +kernel
theorem dX6_end_119 : decode cX6_end 119 = .ok (.aload_n 0, 1) := by decide +kernel
theorem dX6_end_120 : decode cX6_end 120 = .ok (.getfield 50, 3) := by decide +kernel
theorem dX6_end_123 : decode cX6_end 123 = .ok (.aload_n 0, 1) := by decide +kernel
theorem dX6_end_124 : decode cX6_end 124 = .ok (.getfield 104, 3) := by decide +kernel
theorem dX6_end_127 : decode cX6_end 127 = .ok (.dup2, 1) := by decide +kernel
theorem dX6_end_128 : decode cX6_end 128 = .ok (.iaload, 1) := by decide +kernel
theorem dX6_end_129 : decode cX6_end 129 = .ok (.iload_n 1, 1) := by decide +kernel
theorem dX6_end_130 : decode cX6_end 130 = .ok (.ifCond .ge 7, 3) := by decide +kernel
theorem dX6_end_133 : decode cX6_end 133 = .ok (.iconst 3, 1) := by decide +kernel
theorem dX6_end_134 : decode cX6_end 134 = .ok (.goto 12, 3) := by decide +kernel
theorem dX6_end_137 : decode cX6_end 137 = .ok (.iload_n 1, 1) := by decide +kernel
theorem dX6_end_138 : decode cX6_end 138 = .ok (.ifCond .ne 7, 3) := by decide +kernel
theorem dX6_end_141 : decode cX6_end 141 = .ok (.iconst 1, 1) := by decide +kernel
theorem dX6_end_142 : decode cX6_end 142 = .ok (.goto 4, 3) := by decide +kernel
theorem dX6_end_145 : decode cX6_end 145 = .ok (.iconst 0, 1) := by decide +kernel
theorem dX6_end_146 : decode cX6_end 146 = .ok (.iadd, 1) := by decide +kernel
theorem dX6_end_147 : decode cX6_end 147 = .ok (.iastore, 1) := by decide +kernel
theorem dX6_end_148 : decode cX6_end 148 = .ok (.aload_n 0, 1) := by decide +kernel
theorem dX6_end_149 : decode cX6_end 149 = .ok (.getfield 59, 3) := by decide +kernel
theorem dX6_end_152 : decode cX6_end 152 = .ok (.bipush 6, 2) := by decide +kernel
theorem dX6_end_154 : decode cX6_end 154 = .ok (.aload_n 0, 1) := by decide +kernel
theorem dX6_end_155 : decode cX6_end 155 = .ok (.getfield 101, 3) := by decide +kernel
theorem dX6_end_158 : decode cX6_end 158 = .ok (.imul, 1) := by decide +kernel
theorem dX6_end_159 : decode cX6_end 159 = .ok (.aload_n 0, 1) := by decide +kernel
theorem dX6_end_160 : decode cX6_end 160 = .ok (.getfield 104, 3) := by decide +kernel
theorem dX6_end_163 : decode cX6_end 163 = .ok (.iadd, 1) := by decide +kernel
theorem dX6_end_164 : decode cX6_end 164 = .ok (.dup2, 1) := by decide +kernel
theorem dX6_end_165 : decode cX6_end 165 = .ok (.iaload, 1) := by decide +kernel
theorem dX6_end_166 : decode cX6_end 166 = .ok (.iload_n 1, 1) := by decide +kernel
theorem dX6_end_167 : decode cX6_end 167 = .ok (.ifCond .le 7, 3) := by decide +kernel
theorem dX6_end_170 : decode cX6_end 170 = .ok (.iconst 1, 1) := by decide +kernel
theorem dX6_end_171 : decode cX6_end 171 = .ok (.goto 4, 3) := by decide +kernel
theorem dX6_end_174 : decode cX6_end 174 = .ok (.iconst 0, 1) := by decide +kernel
theorem dX6_end_175 : decode cX6_end 175 = .ok (.iadd, 1) := by decide +kernel
theorem dX6_end_176 : decode cX6_end 176 = .ok (.iastore, 1) := by decide +kernel
theorem dX6_end_177 : decode cX6_end 177 = .ok (.aload_n 0, 1) := by decide +kernel
theorem dX6_end_178 : decode cX6_end 178 = .ok (.getfield 59, 3) := by decide +kernel
theorem dX6_end_181 : decode cX6_end 181 = .ok (.bipush 6, 2) := by decide +kernel
theorem dX6_end_183 : decode cX6_end 183 = .ok (.aload_n 0, 1) := by decide +kernel
theorem dX6_end_184 : decode cX6_end 184 = .ok (.getfield 104, 3) := by decide +kernel
theorem dX6_end_187 : decode cX6_end 187 = .ok (.imul, 1) := by decide +kernel
theorem dX6_end_188 : decode cX6_end 188 = .ok (.aload_n 0, 1) := by decide +kernel
theorem dX6_end_189 : decode cX6_end 189 = .ok (.getfield 101, 3) := by decide +kernel
theorem dX6_end_192 : decode cX6_end 192 = .ok (.iadd, 1) := by decide +kernel
theorem dX6_end_193 : decode cX6_end 193 = .ok (.dup2, 1) := by decide +kernel
theorem dX6_end_194 : decode cX6_end 194 = .ok (.iaload, 1) := by decide +kernel
theorem dX6_end_195 : decode cX6_end 195 = .ok (.iload_n 1, 1) := by decide +kernel
theorem dX6_end_196 : decode cX6_end 196 = .ok (.ifCond .ge 7, 3) := by decide +kernel
theorem dX6_end_199 : decode cX6_end 199 = .ok (.iconst 1, 1) := by decide +kernel
theorem dX6_end_200 : decode cX6_end 200 = .ok (.goto 4, 3) := by decide +kernel
theorem dX6_end_203 : decode cX6_end 203 = .ok (.iconst 0, 1) := by decide +kernel
theorem dX6_end_204 : decode cX6_end 204 = .ok (.iadd, 1) := by decide +kernel
theorem dX6_end_205 : decode cX6_end 205 = .ok (.iastore, 1) := by decide +kernel
theorem dX6_end_206 : decode cX6_end 206 = .ok (.aload_n 0, 1) := by decide +kernel
theorem dX6_end_207 : decode cX6_end 207 = .ok (.getfield 56, 3) := by decide +kernel
theorem dX6_end_210 : decode cX6_end 210 = .ok (.aload_n 0, 1) := by decide +kernel
theorem dX6_end_211 : decode cX6_end 211 = .ok (.getfield 101, 3) := by decide +kernel
theorem dX6_end_214 : decode cX6_end 214 = .ok (.dup2, 1) := by decide +kernel
theorem dX6_end_215 : decode cX6_end 215 = .ok (.iaload, 1) := by decide +kernel
theorem dX6_end_216 : decode cX6_end 216 = .ok (.iload_n 1, 1) := by decide +kernel
theorem dX6_end_217 : decode cX6_end 217 = .ok (.iadd, 1) := by decide +kernel
theorem dX6_end_218 : decode cX6_end 218 = .ok (.iastore, 1) := by decide +kernel
theorem dX6_end_219 : decode cX6_end 219 = .ok (.aload_n 0, 1) := by decide +kernel
theorem dX6_end_220 : decode cX6_end 220 = .ok (.getfield 56, 3) := by decide +kernel
theorem dX6_end_223 : decode cX6_end 223 = .ok (.aload_n 0, 1) := by decide +kernel
theorem dX6_end_224 : decode cX6_end 224 = .ok (.getfield 104, 3) := by decide +kernel
theorem dX6_end_227 : decode cX6_end 227 = .ok (.dup2, 1) := by decide +kernel
theorem dX6_end_228 : decode cX6_end 228 = .ok (.iaload, 1) := by decide +kernel
theorem dX6_end_229 : decode cX6_end 229 = .ok (.iload_n 1, 1) := by decide +kernel
theorem dX6_end_230 : decode cX6_end 230 = .ok (.isub, 1) := by decide +kernel
theorem dX6_end_231 : decode cX6_end 231 = .ok (.iastore, 1) := by decide +kernel
theorem dX6_end_232 : decode cX6_end 232 = .ok (.iconst 0, 1) := by decide +kernel
theorem dX6_end_233 : decode cX6_end 233 = .ok (.istore_n 2, 1) := by decide +kernel
theorem dX6_end_234 : decode cX6_end 234 = .ok (.iload_n 2, 1) := by decide +kernel
theorem dX6_end_235 : decode cX6_end 235 = .ok (.bipush 6, 2) := by decide +kernel
theorem dX6_end_237 : decode cX6_end 237 = .ok (.if_icmp .ge 39, 3) := by decide +kernel
theorem dX6_end_240 : decode cX6_end 240 = .ok (.aload_n 0, 1) := by decide +kernel
theorem dX6_end_241 : decode cX6_end 241 = .ok (.getfield 53, 3) := by decide +kernel
theorem dX6_end_244 : decode cX6_end 244 = .ok (.iload_n 2, 1) := by decide +kernel
theorem dX6_end_245 : decode cX6_end 245 = .ok (.iaload, 1) := by decide +kernel
theorem dX6_end_246 : decode cX6_end 246 = .ok (.iconst 2, 1) := by decide +kernel
theorem dX6_end_247 : decode cX6_end 247 = .ok (.if_icmp .lt 23, 3) := by decide +kernel
theorem dX6_end_250 : decode cX6_end 250 = .ok (.aload_n 0, 1) := by decide +kernel
theorem dX6_end_251 : decode cX6_end 251 = .ok (.getfield 53, 3) := by decide +kernel
theorem dX6_end_254 : decode cX6_end 254 = .ok (.iload_n 2, 1) := by decide +kernel
theorem dX6_end_255 : decode cX6_end 255 = .ok (.dup2, 1) := by decide +kernel
theorem dX6_end_256 : decode cX6_end 256 = .ok (.iaload, 1) := by decide +kernel
theorem dX6_end_257 : decode cX6_end 257 = .ok (.iconst 2, 1) := by decide +kernel
theorem dX6_end_258 : decode cX6_end 258 = .ok (.isub, 1) := by decide +kernel
theorem dX6_end_259 : decode cX6_end 259 = .ok (.iastore, 1) := by decide +kernel
theorem dX6_end_260 : decode cX6_end 260 = .ok (.aload_n 0, 1) := by decide +kernel
theorem dX6_end_261 : decode cX6_end 261 = .ok (.getfield 50, 3) := by decide +kernel
theorem dX6_end_264 : decode cX6_end 264 = .ok (.iload_n 2, 1) := by decide +kernel
theorem dX6_end_265 : decode cX6_end 265 = .ok (.dup2, 1) := by decide +kernel
theorem dX6_end_266 : decode cX6_end 266 = .ok (.iaload, 1) := by decide +kernel
theorem dX6_end_267 : decode cX6_end 267 = .ok (.iconst 1, 1) := by decide +kernel
theorem dX6_end_268 : decode cX6_end 268 = .ok (.isub, 1) := by decide +kernel
theorem dX6_end_269 : decode cX6_end 269 = .ok (.iastore, 1) := by decide +kernel
theorem dX6_end_270 : decode cX6_end 270 = .ok (.iinc 2 1, 3) := by decide +kernel
theorem dX6_end_273 : decode cX6_end 273 = .ok (.goto (-39), 3) := by decide +kernel
theorem dX6_end_276 : decode cX6_end 276 = .ok (.iload_n 1, 1) := by decide +kernel
theorem dX6_end_277 : decode cX6_end 277 = .ok (.ireturn, 1) := by decide +kernel
theorem dX6_tick_0 : decode cX6_tick 0 = .ok (.aload_n 0, 1) := by decide +kernel
theorem dX6_tick_1 : decode cX6_tick 1 = .ok (.iconst 0, 1) := by decide +kernel
theorem dX6_tick_2 : decode cX6_tick 2 = .ok (.putfield 62, 3) := by decide +kernel
theorem dX6_tick_5 : decode cX6_tick 5 = .ok (.aload_n 0, 1) := by decide +kernel
theorem dX6_tick_6 : decode cX6_tick 6 = .ok (.getfield 84, 3) := by decide +kernel
theorem dX6_tick_9 : decode cX6_tick 9 = .ok (.ifCond .eq 10, 3) := by decide +kernel
theorem dX6_tick_12 : decode cX6_tick 12 = .ok (.aload_n 0, 1) := by decide +kernel
theorem dX6_tick_13 : decode cX6_tick 13 = .ok (.getfield 107, 3) := by decide +kernel
theorem dX6_tick_16 : decode cX6_tick 16 = .ok (.goto 4, 3) := by decide +kernel
theorem dX6_tick_19 : decode cX6_tick 19 = .ok (.iconst (-1), 1) := by decide +kernel
theorem dX6_tick_20 : decode cX6_tick 20 = .ok (.ireturn, 1) := by decide +kernel
set_option maxRecDepth 20000 in
theorem ggX6_where_X6_isPlayer : GoodIn wsX6_where wsX6_isPlayer := goodIn_r _ [6, 7, 8, 5, 9] (by decide +kernel) (by decide +kernel)
set_option maxRecDepth 20000 in
theorem gX6_where_X6_isPlayer : GoodIn wsX6_where (va_wsS RX6 120 yX6_isPlayer wsX6_isPlayer) := goodIn_app (goodIn_of _ (by decide +kernel)) ggX6_where_X6_isPlayer
set_option maxRecDepth 20000 in
theorem ggX6_where_X6_fails : GoodIn wsX6_where wsX6_fails := goodIn_r _ [13, 14, 15, 16, 17, 18, 19, 20, 21, 22, 23, 24, 25, 26, 27, 28, 29, 30, 31, 32, 33, 34, 35, 36, 37, 38] (by decide +kernel) (by decide +kernel)
set_option maxRecDepth 20000 in
theorem gX6_where_X6_fails : GoodIn wsX6_where (wsV RX6 88 RX6 yX6_fails wsX6_fails) := goodIn_app (goodIn_of _ (by decide +kernel)) ggX6_where_X6_fails
theorem dX6_where_0 : decode cX6_where 0 = .ok (.aload_n 0, 1) := by decide +kernel
theorem dX6_where_1 : decode cX6_where 1 = .ok (.iload_n 1, 1) := by decide +kernel
theorem dX6_where_2 : decode cX6_where 2 = .ok (.invokestatic 120, 3) := by decide +kernel
theorem dX6_where_5 : decode cX6_where 5 = .ok (.ifCond .eq 7, 3) := by decide +kernel
theorem dX6_where_8 : decode cX6_where 8 = .ok (.iconst 0, 1) := by decide +kernel
theorem dX6_where_9 : decode cX6_where 9 = .ok (.goto 4, 3) := by decide +kernel
theorem dX6_where_12 : decode cX6_where 12 = .ok (.iconst 1, 1) := by decide +kernel
theorem dX6_where_13 : decode cX6_where 13 = .ok (.invokevirtual 88, 3) := by decide +kernel
theorem dX6_where_16 : decode cX6_where 16 = .ok (.ifCond .eq 7, 3) := by decide +kernel
theorem dX6_where_19 : decode cX6_where 19 = .ok (.iconst 0, 1) := by decide +kernel
theorem dX6_where_20 : decode cX6_where 20 = .ok (.goto 21, 3) := by decide +kernel
theorem dX6_where_23 : decode cX6_where 23 = .ok (.aload_n 0, 1) := by decide +kernel
theorem dX6_where_24 : decode cX6_where 24 = .ok (.getfield 84, 3) := by decide +kernel
theorem dX6_where_27 : decode cX6_where 27 = .ok (.ifCond .eq 12, 3) := by decide +kernel
theorem dX6_where_30 : decode cX6_where 30 = .ok (.aload_n 0, 1) := by decide +kernel
theorem dX6_where_31 : decode cX6_where 31 = .ok (.getfield 17, 3) := by decide +kernel
theorem dX6_where_34 : decode cX6_where 34 = .ok (.iload_n 1, 1) := by decide +kernel
theorem dX6_where_35 : decode cX6_where 35 = .ok (.iaload, 1) := by decide +kernel
theorem dX6_where_36 : decode cX6_where 36 = .ok (.goto 5, 3) := by decide +kernel
theorem dX6_where_39 : decode cX6_where 39 = .ok (.bipush (-2), 2) := by decide +kernel
theorem dX6_where_41 : decode cX6_where 41 = .ok (.ireturn, 1) := by decide +kernel
set_option maxRecDepth 20000 in
theorem ggX6_hit_X6_isPlayer : GoodIn wsX6_hit wsX6_isPlayer := goodIn_r _ [6, 7, 8, 5, 9] (by decide +kernel) (by decide +kernel)
set_option maxRecDepth 20000 in
theorem gX6_hit_X6_isPlayer : GoodIn wsX6_hit (va_wsS RX6 120 yX6_isPlayer wsX6_isPlayer) := goodIn_app (goodIn_of _ (by decide +kernel)) ggX6_hit_X6_isPlayer
set_option maxRecDepth 20000 in
theorem ggX6_hit_X6_fails : GoodIn wsX6_hit wsX6_fails := goodIn_r _ [13, 14, 15, 16, 17, 18, 19, 20, 21, 22, 23, 24, 25, 26, 27, 28, 29, 30, 31, 32, 33, 34, 35, 36, 37, 38] (by decide +kernel) (by decide +kernel)
set_option maxRecDepth 20000 in
theorem gX6_hit_X6_fails : GoodIn wsX6_hit (wsV RX6 88 RX6 yX6_fails wsX6_fails) := goodIn_app (goodIn_of _ (by decide +kernel)) ggX6_hit_X6_fails
theorem dX6_hit_0 : decode cX6_hit 0 = .ok (.aload_n 0, 1) := by decide +kernel
theorem dX6_hit_1 : decode cX6_hit 1 = .ok (.iload_n 1, 1) := by decide +kernel
theorem dX6_hit_2 : decode cX6_hit 2 = .ok (.invokestatic 120, 3) := by decide +kernel
theorem dX6_hit_5 : decode cX6_hit 5 = .ok (.ifCond .eq 7, 3) := by decide +kernel
theorem dX6_hit_8 : decode cX6_hit 8 = .ok (.iconst 0, 1) := by decide +kernel
theorem dX6_hit_9 : decode cX6_hit 9 = .ok (.goto 4, 3) := by decide +kernel
theorem dX6_hit_12 : decode cX6_hit 12 = .ok (.iconst 1, 1) := by decide +kernel
theorem dX6_hit_13 : decode cX6_hit 13 = .ok (.invokevirtual 88, 3) := by decide +kernel
theorem dX6_hit_16 : decode cX6_hit 16 = .ok (.ifCond .eq 7, 3) := by decide +kernel
theorem dX6_hit_19 : decode cX6_hit 19 = .ok (.iconst 0, 1) := by decide +kernel
theorem dX6_hit_20 : decode cX6_hit 20 = .ok (.goto 20, 3) := by decide +kernel
theorem dX6_hit_23 : decode cX6_hit 23 = .ok (.aload_n 0, 1) := by decide +kernel
theorem dX6_hit_24 : decode cX6_hit 24 = .ok (.getfield 84, 3) := by decide +kernel
theorem dX6_hit_27 : decode cX6_hit 27 = .ok (.ifCond .eq 12, 3) := by decide +kernel
theorem dX6_hit_30 : decode cX6_hit 30 = .ok (.aload_n 0, 1) := by decide +kernel
theorem dX6_hit_31 : decode cX6_hit 31 = .ok (.getfield 20, 3) := by decide +kernel
theorem dX6_hit_34 : decode cX6_hit 34 = .ok (.iload_n 1, 1) := by decide +kernel
theorem dX6_hit_35 : decode cX6_hit 35 = .ok (.iaload, 1) := by decide +kernel
theorem dX6_hit_36 : decode cX6_hit 36 = .ok (.goto 4, 3) := by decide +kernel
theorem dX6_hit_39 : decode cX6_hit 39 = .ok (.iconst (-1), 1) := by decide +kernel
theorem dX6_hit_40 : decode cX6_hit 40 = .ok (.ireturn, 1) := by decide +kernel
theorem dX6_flying_0 : decode cX6_flying 0 = .ok (.aload_n 0, 1) := by decide +kernel
theorem dX6_flying_1 : decode cX6_flying 1 = .ok (.iconst 0, 1) := by decide +kernel
theorem dX6_flying_2 : decode cX6_flying 2 = .ok (.putfield 62, 3) := by decide +kernel
theorem dX6_flying_5 : decode cX6_flying 5 = .ok (.iconst 0, 1) := by decide +kernel
theorem dX6_flying_6 : decode cX6_flying 6 = .ok (.istore_n 1, 1) := by decide +kernel
theorem dX6_flying_7 : decode cX6_flying 7 = .ok (.iconst 0, 1) := by decide +kernel
theorem dX6_flying_8 : decode cX6_flying 8 = .ok (.istore_n 2, 1) := by decide +kernel
theorem dX6_flying_9 : decode cX6_flying 9 = .ok (.iload_n 2, 1) := by decide +kernel
theorem dX6_flying_10 : decode cX6_flying 10 = .ok (.aload_n 0, 1) := by decide +kernel
theorem dX6_flying_11 : decode cX6_flying 11 = .ok (.getfield 110, 3) := by decide +kernel
theorem dX6_flying_14 : decode cX6_flying 14 = .ok (.if_icmp .ge 37, 3) := by decide +kernel
theorem dX6_flying_17 : decode cX6_flying 17 = .ok (.aload_n 0, 1) := by decide +kernel
theorem dX6_flying_18 : decode cX6_flying 18 = .ok (.getfield 84, 3) := by decide +kernel
theorem dX6_flying_21 : decode cX6_flying 21 = .ok (.ifCond .eq 30, 3) := by decide +kernel
theorem dX6_flying_24 : decode cX6_flying 24 = .ok (.iload_n 1, 1) := by decide +kernel
theorem dX6_flying_25 : decode cX6_flying 25 = .ok (.aload_n 0, 1) := by decide +kernel
theorem dX6_flying_26 : decode cX6_flying 26 = .ok (.getfield 35, 3) := by decide +kernel
theorem dX6_flying_29 : decode cX6_flying 29 = .ok (.iload_n 2, 1) := by decide +kernel
theorem dX6_flying_30 : decode cX6_flying 30 = .ok (.iaload, 1) := by decide +kernel
theorem dX6_flying_31 : decode cX6_flying 31 = .ok (.aload_n 0, 1) := by decide +kernel
theorem dX6_flying_32 : decode cX6_flying 32 = .ok (.getfield 107, 3) := by decide +kernel
theorem dX6_flying_35 : decode cX6_flying 35 = .ok (.if_icmp .le 7, 3) := by decide +kernel
theorem dX6_flying_38 : decode cX6_flying 38 = .ok (.iconst 1, 1) := by decide +kernel
theorem dX6_flying_39 : decode cX6_flying 39 = .ok (.goto 4, 3) := by decide +kernel
theorem dX6_flying_42 : decode cX6_flying 42 = .ok (.iconst 0, 1) := by decide +kernel
theorem dX6_flying_43 : decode cX6_flying 43 = .ok (.iadd, 1) := by decide +kernel
theorem dX6_flying_44 : decode cX6_flying 44 = .ok (.istore_n 1, 1) := by decide +kernel
theorem dX6_flying_45 : decode cX6_flying 45 = .ok (.iinc 2 1, 3) := by decide +kernel
theorem dX6_flying_48 : decode cX6_flying 48 = .ok (.goto (-39), 3) := by decide +kernel
theorem dX6_flying_51 : decode cX6_flying 51 = .ok (.iload_n 1, 1) := by decide +kernel
theorem dX6_flying_52 : decode cX6_flying 52 = .ok (.ireturn, 1) := by decide +kernel
set_option maxRecDepth 20000 in
theorem ggX6_of_X6_isTeam : GoodIn wsX6_of wsX6_isTeam := goodIn_r _ [4, 5, 6, 3, 7] (by decide +kernel) (by decide +kernel)
set_option maxRecDepth 20000 in
theorem gX6_of_X6_isTeam : GoodIn wsX6_of (va_wsS RX6 98 yX6_isTeam wsX6_isTeam) := goodIn_app (goodIn_of _ (by decide +kernel)) ggX6_of_X6_isTeam
set_option maxRecDepth 20000 in
theorem ggX6_of_X6_fails : GoodIn wsX6_of wsX6_fails := goodIn_r _ [11, 12, 13, 14, 15, 16, 17, 18, 19, 20, 21, 22, 23, 24, 25, 26, 27, 28, 29, 30, 31, 32, 33, 34, 35, 36] (by decide +kernel) (by decide +kernel)
set_option maxRecDepth 20000 in
theorem gX6_of_X6_fails : GoodIn wsX6_of (wsV RX6 88 RX6 yX6_fails wsX6_fails) := goodIn_app (goodIn_of _ (by decide +kernel)) ggX6_of_X6_fails
theorem dX6_of_0 : decode cX6_of 0 = .ok (.aload_n 0, 1) := by decide +kernel
theorem dX6_of_1 : decode cX6_of 1 = .ok (.iload_n 2, 1) := by decide +kernel
theorem dX6_of_2 : decode cX6_of 2 = .ok (.invokestatic 98, 3) := by decide +kernel
theorem dX6_of_5 : decode cX6_of 5 = .ok (.ifCond .eq 7, 3) := by decide +kernel
theorem dX6_of_8 : decode cX6_of 8 = .ok (.iconst 0, 1) := by decide +kernel
theorem dX6_of_9 : decode cX6_of 9 = .ok (.goto 4, 3) := by decide +kernel
theorem dX6_of_12 : decode cX6_of 12 = .ok (.iconst 1, 1) := by decide +kernel
theorem dX6_of_13 : decode cX6_of 13 = .ok (.invokevirtual 88, 3) := by decide +kernel
theorem dX6_of_16 : decode cX6_of 16 = .ok (.ifCond .eq 7, 3) := by decide +kernel
theorem dX6_of_19 : decode cX6_of 19 = .ok (.iconst 0, 1) := by decide +kernel
theorem dX6_of_20 : decode cX6_of 20 = .ok (.goto 6, 3) := by decide +kernel
theorem dX6_of_23 : decode cX6_of 23 = .ok (.aload_n 1, 1) := by decide +kernel
theorem dX6_of_24 : decode cX6_of 24 = .ok (.iload_n 2, 1) := by decide +kernel
theorem dX6_of_25 : decode cX6_of 25 = .ok (.iaload, 1) := by decide +kernel
theorem dX6_of_26 : decode cX6_of 26 = .ok (.ireturn, 1) := by decide +kernel
set_option maxRecDepth 20000 in
theorem ggX6_points_X6_of : GoodIn wsX6_points wsX6_of := goodIn_r _ [6, 7, 8, 5, 9, 10, 11, 12, 13, 14, 15, 16, 17, 18, 19, 20, 21, 22, 23, 24, 25, 26, 27, 28, 29, 30, 31, 32, 33, 34, 35, 36, 37, 38, 39, 40, 41] (by decide +kernel) (by decide +kernel)
set_option maxRecDepth 20000 in
theorem gX6_points_X6_of : GoodIn wsX6_points (wsV RX6 133 RX6 yX6_of wsX6_of) := goodIn_app (goodIn_of _ (by decide +kernel)) ggX6_points_X6_of
theorem dX6_points_0 : decode cX6_points 0 = .ok (.aload_n 0, 1) := by decide +kernel
theorem dX6_points_1 : decode cX6_points 1 = .ok (.aload_n 0, 1) := by decide +kernel
theorem dX6_points_2 : decode cX6_points 2 = .ok (.getfield 50, 3) := by decide +kernel
theorem dX6_points_5 : decode cX6_points 5 = .ok (.iload_n 1, 1) := by decide +kernel
theorem dX6_points_6 : decode cX6_points 6 = .ok (.invokevirtual 133, 3) := by decide +kernel
theorem dX6_points_9 : decode cX6_points 9 = .ok (.ireturn, 1) := by decide +kernel
set_option maxRecDepth 20000 in
theorem ggX6_fines_X6_of : GoodIn wsX6_fines wsX6_of := goodIn_r _ [6, 7, 8, 5, 9, 10, 11, 12, 13, 14, 15, 16, 17, 18, 19, 20, 21, 22, 23, 24, 25, 26, 27, 28, 29, 30, 31, 32, 33, 34, 35, 36, 37, 38, 39, 40, 41] (by decide +kernel) (by decide +kernel)
set_option maxRecDepth 20000 in
theorem gX6_fines_X6_of : GoodIn wsX6_fines (wsV RX6 133 RX6 yX6_of wsX6_of) := goodIn_app (goodIn_of _ (by decide +kernel)) ggX6_fines_X6_of
theorem dX6_fines_0 : decode cX6_fines 0 = .ok (.aload_n 0, 1) := by decide +kernel
theorem dX6_fines_1 : decode cX6_fines 1 = .ok (.aload_n 0, 1) := by decide +kernel
theorem dX6_fines_2 : decode cX6_fines 2 = .ok (.getfield 53, 3) := by decide +kernel
theorem dX6_fines_5 : decode cX6_fines 5 = .ok (.iload_n 1, 1) := by decide +kernel
theorem dX6_fines_6 : decode cX6_fines 6 = .ok (.invokevirtual 133, 3) := by decide +kernel
theorem dX6_fines_9 : decode cX6_fines 9 = .ok (.ireturn, 1) := by decide +kernel
set_option maxRecDepth 20000 in
theorem ggX6_difference_X6_of : GoodIn wsX6_difference wsX6_of := goodIn_r _ [6, 7, 8, 5, 9, 10, 11, 12, 13, 14, 15, 16, 17, 18, 19, 20, 21, 22, 23, 24, 25, 26, 27, 28, 29, 30, 31, 32, 33, 34, 35, 36, 37, 38, 39, 40, 41] (by decide +kernel) (by decide +kernel)
set_option maxRecDepth 20000 in
theorem gX6_difference_X6_of : GoodIn wsX6_difference (wsV RX6 133 RX6 yX6_of wsX6_of) := goodIn_app (goodIn_of _ (by decide +kernel)) ggX6_difference_X6_of
theorem dX6_difference_0 : decode cX6_difference 0 = .ok (.aload_n 0, 1) := by decide +kernel
theorem dX6_difference_1 : decode cX6_difference 1 = .ok (.aload_n 0, 1) := by decide +kernel
theorem dX6_difference_2 : decode cX6_difference 2 = .ok (.getfield 56, 3) := by decide +kernel
theorem dX6_difference_5 : decode cX6_difference 5 = .ok (.iload_n 1, 1) := by decide +kernel
theorem dX6_difference_6 : decode cX6_difference 6 = .ok (.invokevirtual 133, 3) := by decide +kernel
theorem dX6_difference_9 : decode cX6_difference 9 = .ok (.ireturn, 1) := by decide +kernel
theorem dX6_isAhead_0 : decode cX6_isAhead 0 = .ok (.aload_n 0, 1) := by decide +kernel
theorem dX6_isAhead_1 : decode cX6_isAhead 1 = .ok (.getfield 59, 3) := by decide +kernel
theorem dX6_isAhead_4 : decode cX6_isAhead 4 = .ok (.bipush 6, 2) := by decide +kernel
theorem dX6_isAhead_6 : decode cX6_isAhead 6 = .ok (.iload_n 1, 1) := by decide +kernel
theorem dX6_isAhead_7 : decode cX6_isAhead 7 = .ok (.imul, 1) := by decide +kernel
theorem dX6_isAhead_8 : decode cX6_isAhead 8 = .ok (.iload_n 2, 1) := by decide +kernel
theorem dX6_isAhead_9 : decode cX6_isAhead 9 = .ok (.iadd, 1) := by decide +kernel
theorem dX6_isAhead_10 : decode cX6_isAhead 10 = .ok (.iaload, 1) := by decide +kernel
theorem dX6_isAhead_11 : decode cX6_isAhead 11 = .ok (.aload_n 0, 1) := by decide +kernel
theorem dX6_isAhead_12 : decode cX6_isAhead 12 = .ok (.getfield 59, 3) := by decide +kernel
theorem dX6_isAhead_15 : decode cX6_isAhead 15 = .ok (.bipush 6, 2) := by decide +kernel
theorem dX6_isAhead_17 : decode cX6_isAhead 17 = .ok (.iload_n 2, 1) := by decide +kernel
theorem dX6_isAhead_18 : decode cX6_isAhead 18 = .ok (.imul, 1) := by decide +kernel
theorem dX6_isAhead_19 : decode cX6_isAhead 19 = .ok (.iload_n 1, 1) := by decide +kernel
theorem dX6_isAhead_20 : decode cX6_isAhead 20 = .ok (.iadd, 1) := by decide +kernel
theorem dX6_isAhead_21 : decode cX6_isAhead 21 = .ok (.iaload, 1) := by decide +kernel
theorem dX6_isAhead_22 : decode cX6_isAhead 22 = .ok (.isub, 1) := by decide +kernel
theorem dX6_isAhead_23 : decode cX6_isAhead 23 = .ok (.istore_n 3, 1) := by decide +kernel
theorem dX6_isAhead_24 : decode cX6_isAhead 24 = .ok (.aload_n 0, 1) := by decide +kernel
theorem dX6_isAhead_25 : decode cX6_isAhead 25 = .ok (.getfield 50, 3) := by decide +kernel
theorem dX6_isAhead_28 : decode cX6_isAhead 28 = .ok (.iload_n 1, 1) := by decide +kernel
theorem dX6_isAhead_29 : decode cX6_isAhead 29 = .ok (.iaload, 1) := by decide +kernel
theorem dX6_isAhead_30 : decode cX6_isAhead 30 = .ok (.aload_n 0, 1) := by decide +kernel
theorem dX6_isAhead_31 : decode cX6_isAhead 31 = .ok (.getfield 50, 3) := by decide +kernel
theorem dX6_isAhead_34 : decode cX6_isAhead 34 = .ok (.iload_n 2, 1) := by decide +kernel
theorem dX6_isAhead_35 : decode cX6_isAhead 35 = .ok (.iaload, 1) := by decide +kernel
theorem dX6_isAhead_36 : decode cX6_isAhead 36 = .ok (.if_icmp .eq 24, 3) := by decide +kernel
theorem dX6_isAhead_39 : decode cX6_isAhead 39 = .ok (.aload_n 0, 1) := by decide +kernel
theorem dX6_isAhead_40 : decode cX6_isAhead 40 = .ok (.getfield 50, 3) := by decide +kernel
theorem dX6_isAhead_43 : decode cX6_isAhead 43 = .ok (.iload_n 1, 1) := by decide +kernel
theorem dX6_isAhead_44 : decode cX6_isAhead 44 = .ok (.iaload, 1) := by decide +kernel
theorem dX6_isAhead_45 : decode cX6_isAhead 45 = .ok (.aload_n 0, 1) := by decide +kernel
theorem dX6_isAhead_46 : decode cX6_isAhead 46 = .ok (.getfield 50, 3) := by decide +kernel
theorem dX6_isAhead_49 : decode cX6_isAhead 49 = .ok (.iload_n 2, 1) := by decide +kernel
theorem dX6_isAhead_50 : decode cX6_isAhead 50 = .ok (.iaload, 1) := by decide +kernel
theorem dX6_isAhead_51 : decode cX6_isAhead 51 = .ok (.if_icmp .le 7, 3) := by decide +kernel
theorem dX6_isAhead_54 : decode cX6_isAhead 54 = .ok (.iconst 1, 1) := by decide +kernel
theorem dX6_isAhead_55 : decode cX6_isAhead 55 = .ok (.goto 4, 3) := by decide +kernel
theorem dX6_isAhead_58 : decode cX6_isAhead 58 = .ok (.iconst 0, 1) := by decide +kernel
theorem dX6_isAhead_59 : decode cX6_isAhead 59 = .ok (.ireturn, 1) := by decide +kernel
theorem dX6_isAhead_60 : decode cX6_isAhead 60 = .ok (.iload_n 3, 1) := by decide +kernel
theorem dX6_isAhead_61 : decode cX6_isAhead 61 = .ok (.ifCond .eq 15, 3) := by decide +kernel
theorem dX6_isAhead_64 : decode cX6_isAhead 64 = .ok (.iload_n 3, 1) := by decide +kernel
theorem dX6_isAhead_65 : decode cX6_isAhead 65 = .ok (.ifCond .le 7, 3) := by decide +kernel
theorem dX6_isAhead_68 : decode cX6_isAhead 68 = .ok (.iconst 1, 1) := by decide +kernel
theorem dX6_isAhead_69 : decode cX6_isAhead 69 = .ok (.goto 55, 3) := by decide +kernel
theorem dX6_isAhead_72 : decode cX6_isAhead 72 = .ok (.iconst 0, 1) := by decide +kernel
theorem dX6_isAhead_73 : decode cX6_isAhead 73 = .ok (.goto 51, 3) := by decide +kernel
theorem dX6_isAhead_76 : decode cX6_isAhead 76 = .ok (.aload_n 0, 1) := by decide +kernel
theorem dX6_isAhead_77 : decode cX6_isAhead 77 = .ok (.getfield 56, 3) := by decide +kernel
theorem dX6_isAhead_80 : decode cX6_isAhead 80 = .ok (.iload_n 1, 1) := by decide +kernel
theorem dX6_isAhead_81 : decode cX6_isAhead 81 = .ok (.iaload, 1) := by decide +kernel
theorem dX6_isAhead_82 : decode cX6_isAhead 82 = .ok (.aload_n 0, 1) := by decide +kernel
theorem dX6_isAhead_83 : decode cX6_isAhead 83 = .ok (.getfield 56, 3) := by decide +kernel
theorem dX6_isAhead_86 : decode cX6_isAhead 86 = .ok (.iload_n 2, 1) := by decide +kernel
theorem dX6_isAhead_87 : decode cX6_isAhead 87 = .ok (.iaload, 1) := by decide +kernel
theorem dX6_isAhead_88 : decode cX6_isAhead 88 = .ok (.if_icmp .eq 26, 3) := by decide +kernel
theorem dX6_isAhead_91 : decode cX6_isAhead 91 = .ok (.aload_n 0, 1) := by decide +kernel
theorem dX6_isAhead_92 : decode cX6_isAhead 92 = .ok (.getfield 56, 3) := by decide +kernel
theorem dX6_isAhead_95 : decode cX6_isAhead 95 = .ok (.iload_n 1, 1) := by decide +kernel
theorem dX6_isAhead_96 : decode cX6_isAhead 96 = .ok (.iaload, 1) := by decide +kernel
theorem dX6_isAhead_97 : decode cX6_isAhead 97 = .ok (.aload_n 0, 1) := by decide +kernel
theorem dX6_isAhead_98 : decode cX6_isAhead 98 = .ok (.getfield 56, 3) := by decide +kernel
theorem dX6_isAhead_101 : decode cX6_isAhead 101 = .ok (.iload_n 2, 1) := by decide +kernel
theorem dX6_isAhead_102 : decode cX6_isAhead 102 = .ok (.iaload, 1) := by decide +kernel
theorem dX6_isAhead_103 : decode cX6_isAhead 103 = .ok (.if_icmp .le 7, 3) := by decide +kernel
theorem dX6_isAhead_106 : decode cX6_isAhead 106 = .ok (.iconst 1, 1) := by decide +kernel
theorem dX6_isAhead_107 : decode cX6_isAhead 107 = .ok (.goto 17, 3) := by decide +kernel
theorem dX6_isAhead_110 : decode cX6_isAhead 110 = .ok (.iconst 0, 1) := by decide +kernel
theorem dX6_isAhead_111 : decode cX6_isAhead 111 = .ok (.goto 13, 3) := by decide +kernel
theorem dX6_isAhead_114 : decode cX6_isAhead 114 = .ok (.iload_n 1, 1) := by decide +kernel
theorem dX6_isAhead_115 : decode cX6_isAhead 115 = .ok (.iload_n 2, 1) := by decide +kernel
theorem dX6_isAhead_116 : decode cX6_isAhead 116 = .ok (.if_icmp .ge 7, 3) := by decide +kernel
theorem dX6_isAhead_119 : decode cX6_isAhead 119 = .ok (.iconst 1, 1) := by decide +kernel
theorem dX6_isAhead_120 : decode cX6_isAhead 120 = .ok (.goto 4, 3) := by decide +kernel
theorem dX6_isAhead_123 : decode cX6_isAhead 123 = .ok (.iconst 0, 1) := by decide +kernel
theorem dX6_isAhead_124 : decode cX6_isAhead 124 = .ok (.ireturn, 1) := by decide +kernel
set_option maxRecDepth 20000 in
theorem ggX6_place_X6_isTeam : GoodIn wsX6_place wsX6_isTeam := goodIn_r _ [4, 5, 6, 3, 7] (by decide +kernel) (by decide +kernel)
set_option maxRecDepth 20000 in
theorem gX6_place_X6_isTeam : GoodIn wsX6_place (va_wsS RX6 98 yX6_isTeam wsX6_isTeam) := goodIn_app (goodIn_of _ (by decide +kernel)) ggX6_place_X6_isTeam
set_option maxRecDepth 20000 in
theorem ggX6_place_X6_fails : GoodIn wsX6_place wsX6_fails := goodIn_r _ [11, 12, 20, 21, 22, 23, 24, 25, 26, 27, 28, 29, 30, 31, 32, 33, 34, 35, 36, 37, 38, 39, 40, 41, 42, 43] (by decide +kernel) (by decide +kernel)
set_option maxRecDepth 20000 in
theorem gX6_place_X6_fails : GoodIn wsX6_place (wsV RX6 88 RX6 yX6_fails wsX6_fails) := goodIn_app (goodIn_of _ (by decide +kernel)) ggX6_place_X6_fails
set_option maxRecDepth 20000 in
theorem ggX6_place_X6_isAhead : GoodIn wsX6_place wsX6_isAhead := goodIn_r _ [16, 17, 18, 19, 20, 21, 22, 23, 24, 25, 26, 27, 28, 29, 30, 31, 32, 33, 34, 35, 36, 37, 38, 39, 40, 41, 42, 43] (by decide +kernel) (by decide +kernel)
set_option maxRecDepth 20000 in
theorem gX6_place_X6_isAhead : GoodIn wsX6_place (wsV RX6 137 RX6 yX6_isAhead wsX6_isAhead) := goodIn_app (goodIn_of _ (by decide +kernel)) ggX6_place_X6_isAhead
theorem dX6_place_0 : decode cX6_place 0 = .ok (.aload_n 0, 1) := by decide +kernel
theorem dX6_place_1 : decode cX6_place 1 = .ok (.iload_n 1, 1) := by decide +kernel
theorem dX6_place_2 : decode cX6_place 2 = .ok (.invokestatic 98, 3) := by decide +kernel
theorem dX6_place_5 : decode cX6_place 5 = .ok (.ifCond .eq 7, 3) := by decide +kernel
theorem dX6_place_8 : decode cX6_place 8 = .ok (.iconst 0, 1) := by decide +kernel
theorem dX6_place_9 : decode cX6_place 9 = .ok (.goto 4, 3) := by decide +kernel
theorem dX6_place_12 : decode cX6_place 12 = .ok (.iconst 1, 1) := by decide +kernel
theorem dX6_place_13 : decode cX6_place 13 = .ok (.invokevirtual 88, 3) := by decide +kernel
theorem dX6_place_16 : decode cX6_place 16 = .ok (.ifCond .eq 5, 3) := by decide +kernel
theorem dX6_place_19 : decode cX6_place 19 = .ok (.iconst 0, 1) := by decide +kernel
theorem dX6_place_20 : decode cX6_place 20 = .ok (.ireturn, 1) := by decide +kernel
theorem dX6_place_21 : decode cX6_place 21 = .ok (.iconst 1, 1) := by decide +kernel
theorem dX6_place_22 : decode cX6_place 22 = .ok (.istore_n 2, 1) := by decide +kernel
theorem dX6_place_23 : decode cX6_place 23 = .ok (.iconst 0, 1) := by decide +kernel
theorem dX6_place_24 : decode cX6_place 24 = .ok (.istore_n 3, 1) := by decide +kernel
theorem dX6_place_25 : decode cX6_place 25 = .ok (.iload_n 3, 1) := by decide +kernel
theorem dX6_place_26 : decode cX6_place 26 = .ok (.bipush 6, 2) := by decide +kernel
theorem dX6_place_28 : decode cX6_place 28 = .ok (.if_icmp .ge 31, 3) := by decide +kernel
theorem dX6_place_31 : decode cX6_place 31 = .ok (.iload_n 2, 1) := by decide +kernel
theorem dX6_place_32 : decode cX6_place 32 = .ok (.iload_n 3, 1) := by decide +kernel
theorem dX6_place_33 : decode cX6_place 33 = .ok (.iload_n 1, 1) := by decide +kernel
theorem dX6_place_34 : decode cX6_place 34 = .ok (.if_icmp .eq 16, 3) := by decide +kernel
theorem dX6_place_37 : decode cX6_place 37 = .ok (.aload_n 0, 1) := by decide +kernel
theorem dX6_place_38 : decode cX6_place 38 = .ok (.iload_n 3, 1) := by decide +kernel
theorem dX6_place_39 : decode cX6_place 39 = .ok (.iload_n 1, 1) := by decide +kernel
theorem dX6_place_40 : decode cX6_place 40 = .ok (.invokevirtual 137, 3) := by decide +kernel
theorem dX6_place_43 : decode cX6_place 43 = .ok (.ifCond .eq 7, 3) := by decide +kernel
theorem dX6_place_46 : decode cX6_place 46 = .ok (.iconst 1, 1) := by decide +kernel
theorem dX6_place_47 : decode cX6_place 47 = .ok (.goto 4, 3) := by decide +kernel
theorem dX6_place_50 : decode cX6_place 50 = .ok (.iconst 0, 1) := by decide +kernel
theorem dX6_place_51 : decode cX6_place 51 = .ok (.iadd, 1) := by decide +kernel
theorem dX6_place_52 : decode cX6_place 52 = .ok (.istore_n 2, 1) := by decide +kernel
theorem dX6_place_53 : decode cX6_place 53 = .ok (.iinc 3 1, 3) := by decide +kernel
theorem dX6_place_56 : decode cX6_place 56 = .ok (.goto (-31), 3) := by decide +kernel
theorem dX6_place_59 : decode cX6_place 59 = .ok (.iload_n 2, 1) := by decide +kernel
theorem dX6_place_60 : decode cX6_place 60 = .ok (.ireturn, 1) := by decide +kernel
theorem dJ9_abs_0f7a4_0 : decode cJ9_abs_0f7a4 0 = .ok (.iload_n 0, 1) := by decide +kernel
theorem dJ9_abs_0f7a4_1 : decode cJ9_abs_0f7a4 1 = .ok (.ifCond .ge 8, 3) := by decide +kernel
theorem dJ9_abs_0f7a4_4 : decode cJ9_abs_0f7a4 4 = .ok (.iload_n 0, 1) := by decide +kernel
theorem dJ9_abs_0f7a4_5 : decode cJ9_abs_0f7a4 5 = .ok (.ineg, 1) := by decide +kernel
theorem dJ9_abs_0f7a4_6 : decode cJ9_abs_0f7a4 6 = .ok (.goto 4, 3) := by decide +kernel
theorem dJ9_abs_0f7a4_9 : decode cJ9_abs_0f7a4 9 = .ok (.iload_n 0, 1) := by decide +kernel
theorem dJ9_abs_0f7a4_10 : decode cJ9_abs_0f7a4 10 = .ok (.ireturn, 1) := by decide +kernel
theorem dJ9_max_7cf53_0 : decode cJ9_max_7cf53 0 = .ok (.iload_n 0, 1) := by decide +kernel
theorem dJ9_max_7cf53_1 : decode cJ9_max_7cf53 1 = .ok (.iload_n 1, 1) := by decide +kernel
theorem dJ9_max_7cf53_2 : decode cJ9_max_7cf53 2 = .ok (.if_icmp .lt 7, 3) := by decide +kernel
theorem dJ9_max_7cf53_5 : decode cJ9_max_7cf53 5 = .ok (.iload_n 0, 1) := by decide +kernel
theorem dJ9_max_7cf53_6 : decode cJ9_max_7cf53 6 = .ok (.goto 4, 3) := by decide +kernel
theorem dJ9_max_7cf53_9 : decode cJ9_max_7cf53 9 = .ok (.iload_n 1, 1) := by decide +kernel
theorem dJ9_max_7cf53_10 : decode cJ9_max_7cf53 10 = .ok (.ireturn, 1) := by decide +kernel
theorem dJ9_min_7cf53_0 : decode cJ9_min_7cf53 0 = .ok (.iload_n 0, 1) := by decide +kernel
theorem dJ9_min_7cf53_1 : decode cJ9_min_7cf53 1 = .ok (.iload_n 1, 1) := by decide +kernel
theorem dJ9_min_7cf53_2 : decode cJ9_min_7cf53 2 = .ok (.if_icmp .gt 7, 3) := by decide +kernel
theorem dJ9_min_7cf53_5 : decode cJ9_min_7cf53 5 = .ok (.iload_n 0, 1) := by decide +kernel
theorem dJ9_min_7cf53_6 : decode cJ9_min_7cf53 6 = .ok (.goto 4, 3) := by decide +kernel
theorem dJ9_min_7cf53_9 : decode cJ9_min_7cf53 9 = .ok (.iload_n 1, 1) := by decide +kernel
theorem dJ9_min_7cf53_10 : decode cJ9_min_7cf53 10 = .ok (.ireturn, 1) := by decide +kernel
set_option maxRecDepth 20000 in
theorem ggL_toggleBunker_X5_toggleBunker : GoodIn wsL_toggleBunker wsX5_toggleBunker := goodIn_ca (goodIn_ca (goodIn_r _ [7, 8, 9, 10, 11, 12, 13, 6, 14, 15, 16, 17, 18, 19, 20, 21, 22, 23, 24, 25, 26, 27, 28, 29, 30, 31, 32, 33, 34, 35, 36, 37, 38, 39, 40, 41] (by decide +kernel) (by decide +kernel)) (goodIn_sub (fun _ h => List.mem_cons_of_mem _ (List.mem_append_left _ (List.mem_append_right _ h))) (by decide +kernel))) (goodIn_sub (fun _ h => List.mem_cons_of_mem _ (List.mem_append_right _ h)) (by decide +kernel))
set_option maxRecDepth 20000 in
theorem gL_toggleBunker_X5_toggleBunker : GoodIn wsL_toggleBunker (wsV RL 7 RX5 yX5_toggleBunker wsX5_toggleBunker) := goodIn_app (goodIn_of _ (by decide +kernel)) ggL_toggleBunker_X5_toggleBunker
theorem dL_toggleBunker_0 : decode cL_toggleBunker 0 = .ok (.aload_n 2, 1) := by decide +kernel
theorem dL_toggleBunker_1 : decode cL_toggleBunker 1 = .ok (.iconst 0, 1) := by decide +kernel
theorem dL_toggleBunker_2 : decode cL_toggleBunker 2 = .ok (.aload_n 0, 1) := by decide +kernel
theorem dL_toggleBunker_3 : decode cL_toggleBunker 3 = .ok (.iload_n 1, 1) := by decide +kernel
theorem dL_toggleBunker_4 : decode cL_toggleBunker 4 = .ok (.invokevirtual 7, 3) := by decide +kernel
theorem dL_toggleBunker_7 : decode cL_toggleBunker 7 = .ok (.ifCond .eq 7, 3) := by decide +kernel
theorem dL_toggleBunker_10 : decode cL_toggleBunker 10 = .ok (.lconst 1, 1) := by decide +kernel
theorem dL_toggleBunker_11 : decode cL_toggleBunker 11 = .ok (.goto 4, 3) := by decide +kernel
theorem dL_toggleBunker_14 : decode cL_toggleBunker 14 = .ok (.lconst 0, 1) := by decide +kernel
theorem dL_toggleBunker_15 : decode cL_toggleBunker 15 = .ok (.lastore, 1) := by decide +kernel
theorem dL_toggleBunker_16 : decode cL_toggleBunker 16 = .ok (.goto 9, 3) := by decide +kernel
theorem dL_toggleBunker_19 : decode cL_toggleBunker 19 = .ok (.astore_n 3, 1) := by decide +kernel
theorem dL_toggleBunker_20 : decode cL_toggleBunker 20 = .ok (.iconst 1, 1) := by decide +kernel
theorem dL_toggleBunker_21 : decode cL_toggleBunker 21 = .ok (.ireturn, 1) := by decide +kernel
theorem dL_toggleBunker_22 : decode cL_toggleBunker 22 = .ok (.astore_n 3, 1) := by decide +kernel
theorem dL_toggleBunker_23 : decode cL_toggleBunker 23 = .ok (.iconst 2, 1) := by decide +kernel
theorem dL_toggleBunker_24 : decode cL_toggleBunker 24 = .ok (.ireturn, 1) := by decide +kernel
theorem dL_toggleBunker_25 : decode cL_toggleBunker 25 = .ok (.iconst 0, 1) := by decide +kernel
theorem dL_toggleBunker_26 : decode cL_toggleBunker 26 = .ok (.ireturn, 1) := by decide +kernel
set_option maxRecDepth 20000 in
theorem ggL_sees_X5_sees : GoodIn wsL_sees wsX5_sees := goodIn_ca (goodIn_r _ [6, 7, 8, 9, 5, 10, 11, 12, 13, 14, 15, 16, 17, 18, 19, 20, 21, 22, 23, 24, 25, 26, 27, 28, 29, 30, 31, 32, 33, 34, 35, 36] (by decide +kernel) (by decide +kernel)) (goodIn_sub (fun _ h => List.mem_cons_of_mem _ (List.mem_append_right _ h)) (by decide +kernel))
set_option maxRecDepth 20000 in
theorem gL_sees_X5_sees : GoodIn wsL_sees (wsV RL 17 RX5 yX5_sees wsX5_sees) := goodIn_app (goodIn_of _ (by decide +kernel)) ggL_sees_X5_sees
theorem dL_sees_0 : decode cL_sees 0 = .ok (.aload_n 3, 1) := by decide +kernel
theorem dL_sees_1 : decode cL_sees 1 = .ok (.iconst 0, 1) := by decide +kernel
theorem dL_sees_2 : decode cL_sees 2 = .ok (.aload_n 0, 1) := by decide +kernel
theorem dL_sees_3 : decode cL_sees 3 = .ok (.iload_n 1, 1) := by decide +kernel
theorem dL_sees_4 : decode cL_sees 4 = .ok (.iload_n 2, 1) := by decide +kernel
theorem dL_sees_5 : decode cL_sees 5 = .ok (.invokevirtual 17, 3) := by decide +kernel
theorem dL_sees_8 : decode cL_sees 8 = .ok (.ifCond .eq 7, 3) := by decide +kernel
theorem dL_sees_11 : decode cL_sees 11 = .ok (.lconst 1, 1) := by decide +kernel
theorem dL_sees_12 : decode cL_sees 12 = .ok (.goto 4, 3) := by decide +kernel
theorem dL_sees_15 : decode cL_sees 15 = .ok (.lconst 0, 1) := by decide +kernel
theorem dL_sees_16 : decode cL_sees 16 = .ok (.lastore, 1) := by decide +kernel
theorem dL_sees_17 : decode cL_sees 17 = .ok (.goto 7, 3) := by decide +kernel
theorem dL_sees_20 : decode cL_sees 20 = .ok (.astore 4, 2) := by decide +kernel
theorem dL_sees_22 : decode cL_sees 22 = .ok (.iconst 1, 1) := by decide +kernel
theorem dL_sees_23 : decode cL_sees 23 = .ok (.ireturn, 1) := by decide +kernel
theorem dL_sees_24 : decode cL_sees 24 = .ok (.iconst 0, 1) := by decide +kernel
theorem dL_sees_25 : decode cL_sees 25 = .ok (.ireturn, 1) := by decide +kernel
set_option maxRecDepth 20000 in
theorem ggL_view_X5_view : GoodIn wsL_view wsX5_view := goodIn_ca (goodIn_r _ [6, 7, 8, 9, 5, 10, 11, 12, 13, 14, 15, 16, 17, 18, 19, 20, 21, 22, 23, 24, 25, 26, 27, 28, 29, 30, 31, 32, 33, 34, 35, 36, 37, 38, 39, 40] (by decide +kernel) (by decide +kernel)) (goodIn_sub (fun _ h => List.mem_cons_of_mem _ (List.mem_append_right _ h)) (by decide +kernel))
set_option maxRecDepth 20000 in
theorem gL_view_X5_view : GoodIn wsL_view (wsV RL 21 RX5 yX5_view wsX5_view) := goodIn_app (goodIn_of _ (by decide +kernel)) ggL_view_X5_view
theorem dL_view_0 : decode cL_view 0 = .ok (.aload_n 2, 1) := by decide +kernel
theorem dL_view_1 : decode cL_view 1 = .ok (.iconst 0, 1) := by decide +kernel
theorem dL_view_2 : decode cL_view 2 = .ok (.aload_n 0, 1) := by decide +kernel
theorem dL_view_3 : decode cL_view 3 = .ok (.iload_n 1, 1) := by decide +kernel
theorem dL_view_4 : decode cL_view 4 = .ok (.invokevirtual 21, 3) := by decide +kernel
theorem dL_view_7 : decode cL_view 7 = .ok (.i2l, 1) := by decide +kernel
theorem dL_view_8 : decode cL_view 8 = .ok (.lastore, 1) := by decide +kernel
theorem dL_view_9 : decode cL_view 9 = .ok (.goto 6, 3) := by decide +kernel
theorem dL_view_12 : decode cL_view 12 = .ok (.astore_n 3, 1) := by decide +kernel
theorem dL_view_13 : decode cL_view 13 = .ok (.iconst 1, 1) := by decide +kernel
theorem dL_view_14 : decode cL_view 14 = .ok (.ireturn, 1) := by decide +kernel
theorem dL_view_15 : decode cL_view 15 = .ok (.iconst 0, 1) := by decide +kernel
theorem dL_view_16 : decode cL_view 16 = .ok (.ireturn, 1) := by decide +kernel
set_option maxRecDepth 20000 in
theorem ggL_setReferee_X5_setReferee : GoodIn wsL_setReferee wsX5_setReferee := goodIn_ca (goodIn_r _ [6, 7, 8, 9, 5, 10, 11, 12, 13, 14, 15, 16, 17, 18, 19] (by decide +kernel) (by decide +kernel)) (goodIn_sub (fun _ h => List.mem_cons_of_mem _ (List.mem_append_right _ h)) (by decide +kernel))
set_option maxRecDepth 20000 in
theorem gL_setReferee_X5_setReferee : GoodIn wsL_setReferee (wsV RL 25 RX5 yX5_setReferee wsX5_setReferee) := goodIn_app (goodIn_of _ (by decide +kernel)) ggL_setReferee_X5_setReferee
theorem dL_setReferee_0 : decode cL_setReferee 0 = .ok (.aload_n 3, 1) := by decide +kernel
theorem dL_setReferee_1 : decode cL_setReferee 1 = .ok (.iconst 0, 1) := by decide +kernel
theorem dL_setReferee_2 : decode cL_setReferee 2 = .ok (.aload_n 0, 1) := by decide +kernel
theorem dL_setReferee_3 : decode cL_setReferee 3 = .ok (.iload_n 1, 1) := by decide +kernel
theorem dL_setReferee_4 : decode cL_setReferee 4 = .ok (.iload_n 2, 1) := by decide +kernel
theorem dL_setReferee_5 : decode cL_setReferee 5 = .ok (.invokevirtual 25, 3) := by decide +kernel
theorem dL_setReferee_8 : decode cL_setReferee 8 = .ok (.i2l, 1) := by decide +kernel
theorem dL_setReferee_9 : decode cL_setReferee 9 = .ok (.lastore, 1) := by decide +kernel
theorem dL_setReferee_10 : decode cL_setReferee 10 = .ok (.goto 7, 3) := by decide +kernel
theorem dL_setReferee_13 : decode cL_setReferee 13 = .ok (.astore 4, 2) := by decide +kernel
theorem dL_setReferee_15 : decode cL_setReferee 15 = .ok (.iconst 1, 1) := by decide +kernel
theorem dL_setReferee_16 : decode cL_setReferee 16 = .ok (.ireturn, 1) := by decide +kernel
theorem dL_setReferee_17 : decode cL_setReferee 17 = .ok (.iconst 0, 1) := by decide +kernel
theorem dL_setReferee_18 : decode cL_setReferee 18 = .ok (.ireturn, 1) := by decide +kernel
set_option maxRecDepth 20000 in
theorem ggL_begin_X5_begin : GoodIn wsL_begin wsX5_begin := goodIn_ca (goodIn_ca (goodIn_ca (goodIn_r _ [8, 9, 10, 11, 12, 13, 14, 15, 7, 16, 17, 18, 19, 20, 21, 22, 23, 24, 25, 26, 27, 28, 29, 30, 31, 32, 33, 34, 35, 36, 37, 38, 39, 40, 41, 42, 43, 44, 45, 46, 47, 48, 49, 50, 51, 52, 53, 54, 55, 56, 57, 58, 59, 60, 61, 62, 63] (by decide +kernel) (by decide +kernel)) (goodIn_sub (fun _ h => List.mem_cons_of_mem _ (List.mem_append_left _ (List.mem_append_left _ (List.mem_append_right _ h)))) (by decide +kernel))) (goodIn_sub (fun _ h => List.mem_cons_of_mem _ (List.mem_append_left _ (List.mem_append_right _ h))) (by decide +kernel))) (goodIn_sub (fun _ h => List.mem_cons_of_mem _ (List.mem_append_right _ h)) (by decide +kernel))
set_option maxRecDepth 20000 in
theorem gL_begin_X5_begin : GoodIn wsL_begin (wsV RL 29 RX5 yX5_begin wsX5_begin) := goodIn_app (goodIn_of _ (by decide +kernel)) ggL_begin_X5_begin
theorem dL_begin_0 : decode cL_begin 0 = .ok (.aload_n 0, 1) := by decide +kernel
theorem dL_begin_1 : decode cL_begin 1 = .ok (.iload_n 1, 1) := by decide +kernel
theorem dL_begin_2 : decode cL_begin 2 = .ok (.iload_n 2, 1) := by decide +kernel
theorem dL_begin_3 : decode cL_begin 3 = .ok (.invokevirtual 29, 3) := by decide +kernel
theorem dL_begin_6 : decode cL_begin 6 = .ok (.goto 12, 3) := by decide +kernel
theorem dL_begin_9 : decode cL_begin 9 = .ok (.astore_n 3, 1) := by decide +kernel
theorem dL_begin_10 : decode cL_begin 10 = .ok (.iconst 1, 1) := by decide +kernel
theorem dL_begin_11 : decode cL_begin 11 = .ok (.ireturn, 1) := by decide +kernel
theorem dL_begin_12 : decode cL_begin 12 = .ok (.astore_n 3, 1) := by decide +kernel
theorem dL_begin_13 : decode cL_begin 13 = .ok (.iconst 2, 1) := by decide +kernel
theorem dL_begin_14 : decode cL_begin 14 = .ok (.ireturn, 1) := by decide +kernel
theorem dL_begin_15 : decode cL_begin 15 = .ok (.astore_n 3, 1) := by decide +kernel
theorem dL_begin_16 : decode cL_begin 16 = .ok (.iconst 3, 1) := by decide +kernel
theorem dL_begin_17 : decode cL_begin 17 = .ok (.ireturn, 1) := by decide +kernel
theorem dL_begin_18 : decode cL_begin 18 = .ok (.iconst 0, 1) := by decide +kernel
theorem dL_begin_19 : decode cL_begin 19 = .ok (.ireturn, 1) := by decide +kernel
set_option maxRecDepth 20000 in
theorem ggL_move_X5_move : GoodIn wsL_move wsX5_move := goodIn_ca (goodIn_ca (goodIn_r _ [7, 8, 9, 10, 11, 12, 13, 6, 14, 15, 16, 17, 18, 19, 20, 21, 22, 23, 24, 25, 26, 27, 28, 29, 30, 31, 32, 33, 34, 35, 36, 37, 38, 39, 40, 41, 42, 43, 44, 45, 46, 47, 48, 49, 50, 51, 52, 53, 54, 55, 56, 57, 58, 59, 60, 61, 62, 63, 64, 65, 66, 67, 68, 69, 70, 71] (by decide +kernel) (by decide +kernel)) (goodIn_sub (fun _ h => List.mem_cons_of_mem _ (List.mem_append_left _ (List.mem_append_right _ h))) (by decide +kernel))) (goodIn_sub (fun _ h => List.mem_cons_of_mem _ (List.mem_append_right _ h)) (by decide +kernel))
set_option maxRecDepth 20000 in
theorem gL_move_X5_move : GoodIn wsL_move (wsV RL 35 RX5 yX5_move wsX5_move) := goodIn_app (goodIn_of _ (by decide +kernel)) ggL_move_X5_move
theorem dL_move_0 : decode cL_move 0 = .ok (.aload_n 3, 1) := by decide +kernel
theorem dL_move_1 : decode cL_move 1 = .ok (.iconst 0, 1) := by decide +kernel
theorem dL_move_2 : decode cL_move 2 = .ok (.aload_n 0, 1) := by decide +kernel
theorem dL_move_3 : decode cL_move 3 = .ok (.iload_n 1, 1) := by decide +kernel
theorem dL_move_4 : decode cL_move 4 = .ok (.iload_n 2, 1) := by decide +kernel
theorem dL_move_5 : decode cL_move 5 = .ok (.invokevirtual 35, 3) := by decide +kernel
theorem dL_move_8 : decode cL_move 8 = .ok (.i2l, 1) := by decide +kernel
theorem dL_move_9 : decode cL_move 9 = .ok (.lastore, 1) := by decide +kernel
theorem dL_move_10 : decode cL_move 10 = .ok (.goto 11, 3) := by decide +kernel
theorem dL_move_13 : decode cL_move 13 = .ok (.astore 4, 2) := by decide +kernel
theorem dL_move_15 : decode cL_move 15 = .ok (.iconst 1, 1) := by decide +kernel
theorem dL_move_16 : decode cL_move 16 = .ok (.ireturn, 1) := by decide +kernel
theorem dL_move_17 : decode cL_move 17 = .ok (.astore 4, 2) := by decide +kernel
theorem dL_move_19 : decode cL_move 19 = .ok (.iconst 2, 1) := by decide +kernel
theorem dL_move_20 : decode cL_move 20 = .ok (.ireturn, 1) := by decide +kernel
theorem dL_move_21 : decode cL_move 21 = .ok (.iconst 0, 1) := by decide +kernel
theorem dL_move_22 : decode cL_move 22 = .ok (.ireturn, 1) := by decide +kernel
set_option maxRecDepth 20000 in
theorem ggL_shoot_X5_shoot : GoodIn wsL_shoot wsX5_shoot := goodIn_ca (goodIn_ca (goodIn_r _ [7, 8, 9, 10, 11, 12, 6, 13, 14, 15, 16, 17, 18, 19, 20, 21, 22, 23, 24, 25, 26, 27, 28, 29, 30, 31, 32, 33, 34, 35, 36, 37, 38, 39, 40, 41, 42, 43, 44, 45, 46, 47, 48, 49, 50, 51, 52, 53, 54, 55, 56, 57, 58, 59, 60, 61, 62, 63, 64, 65, 66, 67, 68, 69, 70, 71, 72, 73, 74, 75, 76, 77, 78, 79, 80, 81, 82] (by decide +kernel) (by decide +kernel)) (goodIn_sub (fun _ h => List.mem_cons_of_mem _ (List.mem_append_left _ (List.mem_append_right _ h))) (by decide +kernel))) (goodIn_sub (fun _ h => List.mem_cons_of_mem _ (List.mem_append_right _ h)) (by decide +kernel))
set_option maxRecDepth 20000 in
theorem gL_shoot_X5_shoot : GoodIn wsL_shoot (wsV RL 38 RX5 yX5_shoot wsX5_shoot) := goodIn_app (goodIn_of _ (by decide +kernel)) ggL_shoot_X5_shoot
theorem dL_shoot_0 : decode cL_shoot 0 = .ok (.aload_n 3, 1) := by decide +kernel
theorem dL_shoot_1 : decode cL_shoot 1 = .ok (.iconst 0, 1) := by decide +kernel
theorem dL_shoot_2 : decode cL_shoot 2 = .ok (.aload_n 0, 1) := by decide +kernel
theorem dL_shoot_3 : decode cL_shoot 3 = .ok (.iload_n 1, 1) := by decide +kernel
theorem dL_shoot_4 : decode cL_shoot 4 = .ok (.iload_n 2, 1) := by decide +kernel
theorem dL_shoot_5 : decode cL_shoot 5 = .ok (.invokevirtual 38, 3) := by decide +kernel
theorem dL_shoot_8 : decode cL_shoot 8 = .ok (.i2l, 1) := by decide +kernel
theorem dL_shoot_9 : decode cL_shoot 9 = .ok (.lastore, 1) := by decide +kernel
theorem dL_shoot_10 : decode cL_shoot 10 = .ok (.goto 11, 3) := by decide +kernel
theorem dL_shoot_13 : decode cL_shoot 13 = .ok (.astore 4, 2) := by decide +kernel
theorem dL_shoot_15 : decode cL_shoot 15 = .ok (.iconst 1, 1) := by decide +kernel
theorem dL_shoot_16 : decode cL_shoot 16 = .ok (.ireturn, 1) := by decide +kernel
theorem dL_shoot_17 : decode cL_shoot 17 = .ok (.astore 4, 2) := by decide +kernel
theorem dL_shoot_19 : decode cL_shoot 19 = .ok (.iconst 2, 1) := by decide +kernel
theorem dL_shoot_20 : decode cL_shoot 20 = .ok (.ireturn, 1) := by decide +kernel
theorem dL_shoot_21 : decode cL_shoot 21 = .ok (.iconst 0, 1) := by decide +kernel
theorem dL_shoot_22 : decode cL_shoot 22 = .ok (.ireturn, 1) := by decide +kernel
set_option maxRecDepth 20000 in
theorem ggL_pass_X5_pass : GoodIn wsL_pass wsX5_pass := goodIn_ca (goodIn_ca (goodIn_r _ [7, 8, 9, 10, 11, 12, 13, 14, 6, 15, 16, 17, 18, 19, 20, 21, 22, 23, 24, 25, 26, 27, 28, 29, 30, 31, 32, 33, 34, 35, 36, 37, 38, 39, 40, 41, 42, 43, 44, 45, 46, 47, 48, 49, 50, 51, 52, 53, 54, 55, 56, 57, 58, 59, 60, 61, 62, 63, 64, 65, 66, 67, 68, 69, 70, 71, 72, 73, 74, 75, 76, 77, 78, 79, 80] (by decide +kernel) (by decide +kernel)) (goodIn_sub (fun _ h => List.mem_cons_of_mem _ (List.mem_append_left _ (List.mem_append_right _ h))) (by decide +kernel))) (goodIn_sub (fun _ h => List.mem_cons_of_mem _ (List.mem_append_right _ h)) (by decide +kernel))
set_option maxRecDepth 20000 in
theorem gL_pass_X5_pass : GoodIn wsL_pass (wsV RL 41 RX5 yX5_pass wsX5_pass) := goodIn_app (goodIn_of _ (by decide +kernel)) ggL_pass_X5_pass
theorem dL_pass_0 : decode cL_pass 0 = .ok (.aload_n 2, 1) := by decide +kernel
theorem dL_pass_1 : decode cL_pass 1 = .ok (.iconst 0, 1) := by decide +kernel
theorem dL_pass_2 : decode cL_pass 2 = .ok (.aload_n 0, 1) := by decide +kernel
theorem dL_pass_3 : decode cL_pass 3 = .ok (.iload_n 1, 1) := by decide +kernel
theorem dL_pass_4 : decode cL_pass 4 = .ok (.invokevirtual 41, 3) := by decide +kernel
theorem dL_pass_7 : decode cL_pass 7 = .ok (.i2l, 1) := by decide +kernel
theorem dL_pass_8 : decode cL_pass 8 = .ok (.lastore, 1) := by decide +kernel
theorem dL_pass_9 : decode cL_pass 9 = .ok (.goto 9, 3) := by decide +kernel
theorem dL_pass_12 : decode cL_pass 12 = .ok (.astore_n 3, 1) := by decide +kernel
theorem dL_pass_13 : decode cL_pass 13 = .ok (.iconst 1, 1) := by decide +kernel
theorem dL_pass_14 : decode cL_pass 14 = .ok (.ireturn, 1) := by decide +kernel
theorem dL_pass_15 : decode cL_pass 15 = .ok (.astore_n 3, 1) := by decide +kernel
theorem dL_pass_16 : decode cL_pass 16 = .ok (.iconst 2, 1) := by decide +kernel
theorem dL_pass_17 : decode cL_pass 17 = .ok (.ireturn, 1) := by decide +kernel
theorem dL_pass_18 : decode cL_pass 18 = .ok (.iconst 0, 1) := by decide +kernel
theorem dL_pass_19 : decode cL_pass 19 = .ok (.ireturn, 1) := by decide +kernel
set_option maxRecDepth 20000 in
theorem ggL_call_X5_call : GoodIn wsL_call wsX5_call := goodIn_ca (goodIn_ca (goodIn_r _ [7, 8, 9, 10, 11, 12, 13, 14, 6, 15, 16, 17, 18, 19, 20, 21, 22, 23, 24, 25, 26, 27, 28, 29, 30, 31, 32, 33, 34, 35, 36, 37, 38, 39, 40, 41, 42, 43, 44, 45, 46, 47, 48, 49, 50, 51, 52, 53, 54, 55, 56, 57, 58, 59, 60, 61, 62, 63, 64, 65, 66, 67, 68, 69, 70, 71, 72, 73, 74, 75, 76, 77, 78, 79, 80, 81, 82, 83, 84, 85, 86, 87, 88, 89, 90, 91, 92] (by decide +kernel) (by decide +kernel)) (goodIn_sub (fun _ h => List.mem_cons_of_mem _ (List.mem_append_left _ (List.mem_append_right _ h))) (by decide +kernel))) (goodIn_sub (fun _ h => List.mem_cons_of_mem _ (List.mem_append_right _ h)) (by decide +kernel))
set_option maxRecDepth 20000 in
theorem gL_call_X5_call : GoodIn wsL_call (wsV RL 44 RX5 yX5_call wsX5_call) := goodIn_app (goodIn_of _ (by decide +kernel)) ggL_call_X5_call
theorem dL_call_0 : decode cL_call 0 = .ok (.aload_n 3, 1) := by decide +kernel
theorem dL_call_1 : decode cL_call 1 = .ok (.iconst 0, 1) := by decide +kernel
theorem dL_call_2 : decode cL_call 2 = .ok (.aload_n 0, 1) := by decide +kernel
theorem dL_call_3 : decode cL_call 3 = .ok (.iload_n 1, 1) := by decide +kernel
theorem dL_call_4 : decode cL_call 4 = .ok (.iload_n 2, 1) := by decide +kernel
theorem dL_call_5 : decode cL_call 5 = .ok (.invokevirtual 44, 3) := by decide +kernel
theorem dL_call_8 : decode cL_call 8 = .ok (.i2l, 1) := by decide +kernel
theorem dL_call_9 : decode cL_call 9 = .ok (.lastore, 1) := by decide +kernel
theorem dL_call_10 : decode cL_call 10 = .ok (.goto 11, 3) := by decide +kernel
theorem dL_call_13 : decode cL_call 13 = .ok (.astore 4, 2) := by decide +kernel
theorem dL_call_15 : decode cL_call 15 = .ok (.iconst 1, 1) := by decide +kernel
theorem dL_call_16 : decode cL_call 16 = .ok (.ireturn, 1) := by decide +kernel
theorem dL_call_17 : decode cL_call 17 = .ok (.astore 4, 2) := by decide +kernel
theorem dL_call_19 : decode cL_call 19 = .ok (.iconst 2, 1) := by decide +kernel
theorem dL_call_20 : decode cL_call 20 = .ok (.ireturn, 1) := by decide +kernel
theorem dL_call_21 : decode cL_call 21 = .ok (.iconst 0, 1) := by decide +kernel
theorem dL_call_22 : decode cL_call 22 = .ok (.ireturn, 1) := by decide +kernel
set_option maxRecDepth 20000 in
theorem ggL_dispute_X5_dispute : GoodIn wsL_dispute wsX5_dispute := goodIn_ca (goodIn_ca (goodIn_r _ [7, 8, 9, 10, 11, 12, 13, 14, 15, 16, 17, 18, 19, 20, 21, 22, 23, 24, 25, 26, 27, 28, 29, 30, 31, 32, 33, 34, 35, 36, 37, 38, 39, 40, 41, 42, 43, 44, 45, 46, 47, 48, 49, 50, 51, 52, 53, 54, 55, 56, 57, 58, 59, 60, 61, 62, 63, 64, 65, 66, 67, 68, 69, 70, 71] (by decide +kernel) (by decide +kernel)) (goodIn_sub (fun _ h => List.mem_cons_of_mem _ (List.mem_append_left _ (List.mem_append_right _ h))) (by decide +kernel))) (goodIn_sub (fun _ h => List.mem_cons_of_mem _ (List.mem_append_right _ h)) (by decide +kernel))
set_option maxRecDepth 20000 in
theorem gL_dispute_X5_dispute : GoodIn wsL_dispute (wsV RL 47 RX5 yX5_dispute wsX5_dispute) := goodIn_app (goodIn_of _ (by decide +kernel)) ggL_dispute_X5_dispute
theorem dL_dispute_0 : decode cL_dispute 0 = .ok (.aload_n 2, 1) := by decide +kernel
theorem dL_dispute_1 : decode cL_dispute 1 = .ok (.iconst 0, 1) := by decide +kernel
theorem dL_dispute_2 : decode cL_dispute 2 = .ok (.aload_n 0, 1) := by decide +kernel
theorem dL_dispute_3 : decode cL_dispute 3 = .ok (.iload_n 1, 1) := by decide +kernel
theorem dL_dispute_4 : decode cL_dispute 4 = .ok (.invokevirtual 47, 3) := by decide +kernel
theorem dL_dispute_7 : decode cL_dispute 7 = .ok (.ifCond .eq 7, 3) := by decide +kernel
theorem dL_dispute_10 : decode cL_dispute 10 = .ok (.lconst 1, 1) := by decide +kernel
theorem dL_dispute_11 : decode cL_dispute 11 = .ok (.goto 4, 3) := by decide +kernel
theorem dL_dispute_14 : decode cL_dispute 14 = .ok (.lconst 0, 1) := by decide +kernel
theorem dL_dispute_15 : decode cL_dispute 15 = .ok (.lastore, 1) := by decide +kernel
theorem dL_dispute_16 : decode cL_dispute 16 = .ok (.goto 9, 3) := by decide +kernel
theorem dL_dispute_19 : decode cL_dispute 19 = .ok (.astore_n 3, 1) := by decide +kernel
theorem dL_dispute_20 : decode cL_dispute 20 = .ok (.iconst 1, 1) := by decide +kernel
theorem dL_dispute_21 : decode cL_dispute 21 = .ok (.ireturn, 1) := by decide +kernel
theorem dL_dispute_22 : decode cL_dispute 22 = .ok (.astore_n 3, 1) := by decide +kernel
theorem dL_dispute_23 : decode cL_dispute 23 = .ok (.iconst 2, 1) := by decide +kernel
theorem dL_dispute_24 : decode cL_dispute 24 = .ok (.ireturn, 1) := by decide +kernel
theorem dL_dispute_25 : decode cL_dispute 25 = .ok (.iconst 0, 1) := by decide +kernel
theorem dL_dispute_26 : decode cL_dispute 26 = .ok (.ireturn, 1) := by decide +kernel
set_option maxRecDepth 20000 in
theorem ggL_end_X5_end : GoodIn wsL_end wsX5_end := goodIn_ca (goodIn_r _ [6, 7, 8, 9, 10, 11, 5, 12, 13, 14, 15, 16, 17, 18, 19, 20, 21, 22, 23, 24, 25, 26, 27, 28, 29, 30, 31, 32, 33, 34, 35, 36, 37, 38, 39, 40, 41, 42, 43, 44, 45, 46, 47, 48, 49, 50, 51, 52, 53, 54, 55, 56, 57, 58, 59, 60, 61, 62, 63, 64, 65, 66, 67, 68, 69, 70, 71, 72, 73, 74, 75, 76, 77, 78, 79, 80, 81, 82, 83, 84, 85, 86, 87, 88, 89, 90, 91, 92] (by decide +kernel) (by decide +kernel)) (goodIn_sub (fun _ h => List.mem_cons_of_mem _ (List.mem_append_right _ h)) (by decide +kernel))
set_option maxRecDepth 20000 in
theorem gL_end_X5_end : GoodIn wsL_end (wsV RL 50 RX5 yX5_end wsX5_end) := goodIn_app (goodIn_of _ (by decide +kernel)) ggL_end_X5_end
theorem dL_end_0 : decode cL_end 0 = .ok (.aload_n 1, 1) := by decide +kernel
theorem dL_end_1 : decode cL_end 1 = .ok (.iconst 0, 1) := by decide +kernel
theorem dL_end_2 : decode cL_end 2 = .ok (.aload_n 0, 1) := by decide +kernel
theorem dL_end_3 : decode cL_end 3 = .ok (.invokevirtual 50, 3) := by decide +kernel
theorem dL_end_6 : decode cL_end 6 = .ok (.i2l, 1) := by decide +kernel
theorem dL_end_7 : decode cL_end 7 = .ok (.lastore, 1) := by decide +kernel
theorem dL_end_8 : decode cL_end 8 = .ok (.goto 6, 3) := by decide +kernel
theorem dL_end_11 : decode cL_end 11 = .ok (.astore_n 2, 1) := by decide +kernel
theorem dL_end_12 : decode cL_end 12 = .ok (.iconst 1, 1) := by decide +kernel
theorem dL_end_13 : decode cL_end 13 = .ok (.ireturn, 1) := by decide +kernel
theorem dL_end_14 : decode cL_end 14 = .ok (.iconst 0, 1) := by decide +kernel
theorem dL_end_15 : decode cL_end 15 = .ok (.ireturn, 1) := by decide +kernel
set_option maxRecDepth 20000 in
theorem ggL_where_X5_where : GoodIn wsL_where wsX5_where := goodIn_ca (goodIn_r _ [6, 7, 8, 9, 5, 10, 11, 12, 13, 14, 15, 16, 17, 18, 19, 20, 21, 22, 23, 24, 25, 26, 27, 28, 29, 30] (by decide +kernel) (by decide +kernel)) (goodIn_sub (fun _ h => List.mem_cons_of_mem _ (List.mem_append_right _ h)) (by decide +kernel))
set_option maxRecDepth 20000 in
theorem gL_where_X5_where : GoodIn wsL_where (wsV RL 54 RX5 yX5_where wsX5_where) := goodIn_app (goodIn_of _ (by decide +kernel)) ggL_where_X5_where
theorem dL_where_0 : decode cL_where 0 = .ok (.aload_n 2, 1) := by decide +kernel
theorem dL_where_1 : decode cL_where 1 = .ok (.iconst 0, 1) := by decide +kernel
theorem dL_where_2 : decode cL_where 2 = .ok (.aload_n 0, 1) := by decide +kernel
theorem dL_where_3 : decode cL_where 3 = .ok (.iload_n 1, 1) := by decide +kernel
theorem dL_where_4 : decode cL_where 4 = .ok (.invokevirtual 54, 3) := by decide +kernel
theorem dL_where_7 : decode cL_where 7 = .ok (.i2l, 1) := by decide +kernel
theorem dL_where_8 : decode cL_where 8 = .ok (.lastore, 1) := by decide +kernel
theorem dL_where_9 : decode cL_where 9 = .ok (.goto 6, 3) := by decide +kernel
theorem dL_where_12 : decode cL_where 12 = .ok (.astore_n 3, 1) := by decide +kernel
theorem dL_where_13 : decode cL_where 13 = .ok (.iconst 1, 1) := by decide +kernel
theorem dL_where_14 : decode cL_where 14 = .ok (.ireturn, 1) := by decide +kernel
theorem dL_where_15 : decode cL_where 15 = .ok (.iconst 0, 1) := by decide +kernel
theorem dL_where_16 : decode cL_where 16 = .ok (.ireturn, 1) := by decide +kernel
set_option maxRecDepth 20000 in
theorem ggL_hit_X5_hit : GoodIn wsL_hit wsX5_hit := goodIn_ca (goodIn_r _ [6, 7, 8, 9, 5, 10, 11, 12, 13, 14, 15, 16, 17, 18, 19, 20, 21, 22, 23, 24, 25, 26, 27, 28, 29, 30] (by decide +kernel) (by decide +kernel)) (goodIn_sub (fun _ h => List.mem_cons_of_mem _ (List.mem_append_right _ h)) (by decide +kernel))
set_option maxRecDepth 20000 in
theorem gL_hit_X5_hit : GoodIn wsL_hit (wsV RL 57 RX5 yX5_hit wsX5_hit) := goodIn_app (goodIn_of _ (by decide +kernel)) ggL_hit_X5_hit
theorem dL_hit_0 : decode cL_hit 0 = .ok (.aload_n 2, 1) := by decide +kernel
theorem dL_hit_1 : decode cL_hit 1 = .ok (.iconst 0, 1) := by decide +kernel
theorem dL_hit_2 : decode cL_hit 2 = .ok (.aload_n 0, 1) := by decide +kernel
theorem dL_hit_3 : decode cL_hit 3 = .ok (.iload_n 1, 1) := by decide +kernel
theorem dL_hit_4 : decode cL_hit 4 = .ok (.invokevirtual 57, 3) := by decide +kernel
theorem dL_hit_7 : decode cL_hit 7 = .ok (.i2l, 1) := by decide +kernel
theorem dL_hit_8 : decode cL_hit 8 = .ok (.lastore, 1) := by decide +kernel
theorem dL_hit_9 : decode cL_hit 9 = .ok (.goto 6, 3) := by decide +kernel
theorem dL_hit_12 : decode cL_hit 12 = .ok (.astore_n 3, 1) := by decide +kernel
theorem dL_hit_13 : decode cL_hit 13 = .ok (.iconst 1, 1) := by decide +kernel
theorem dL_hit_14 : decode cL_hit 14 = .ok (.ireturn, 1) := by decide +kernel
theorem dL_hit_15 : decode cL_hit 15 = .ok (.iconst 0, 1) := by decide +kernel
theorem dL_hit_16 : decode cL_hit 16 = .ok (.ireturn, 1) := by decide +kernel
set_option maxRecDepth 20000 in
theorem ggL_points_X5_points : GoodIn wsL_points wsX5_points := goodIn_ca (goodIn_r _ [6, 7, 8, 9, 5, 10, 11, 12, 13, 14, 15, 16, 17, 18, 19, 20, 21, 22, 23, 24, 25, 26] (by decide +kernel) (by decide +kernel)) (goodIn_sub (fun _ h => List.mem_cons_of_mem _ (List.mem_append_right _ h)) (by decide +kernel))
set_option maxRecDepth 20000 in
theorem gL_points_X5_points : GoodIn wsL_points (wsV RL 60 RX5 yX5_points wsX5_points) := goodIn_app (goodIn_of _ (by decide +kernel)) ggL_points_X5_points
theorem dL_points_0 : decode cL_points 0 = .ok (.aload_n 2, 1) := by decide +kernel
theorem dL_points_1 : decode cL_points 1 = .ok (.iconst 0, 1) := by decide +kernel
theorem dL_points_2 : decode cL_points 2 = .ok (.aload_n 0, 1) := by decide +kernel
theorem dL_points_3 : decode cL_points 3 = .ok (.iload_n 1, 1) := by decide +kernel
theorem dL_points_4 : decode cL_points 4 = .ok (.invokevirtual 60, 3) := by decide +kernel
theorem dL_points_7 : decode cL_points 7 = .ok (.i2l, 1) := by decide +kernel
theorem dL_points_8 : decode cL_points 8 = .ok (.lastore, 1) := by decide +kernel
theorem dL_points_9 : decode cL_points 9 = .ok (.goto 6, 3) := by decide +kernel
theorem dL_points_12 : decode cL_points 12 = .ok (.astore_n 3, 1) := by decide +kernel
theorem dL_points_13 : decode cL_points 13 = .ok (.iconst 1, 1) := by decide +kernel
theorem dL_points_14 : decode cL_points 14 = .ok (.ireturn, 1) := by decide +kernel
theorem dL_points_15 : decode cL_points 15 = .ok (.iconst 0, 1) := by decide +kernel
theorem dL_points_16 : decode cL_points 16 = .ok (.ireturn, 1) := by decide +kernel
set_option maxRecDepth 20000 in
theorem ggL_fines_X5_fines : GoodIn wsL_fines wsX5_fines := goodIn_ca (goodIn_r _ [6, 7, 8, 9, 5, 10, 11, 12, 13, 14, 15, 16, 17, 18, 19, 20, 21, 22, 23, 24, 25, 26] (by decide +kernel) (by decide +kernel)) (goodIn_sub (fun _ h => List.mem_cons_of_mem _ (List.mem_append_right _ h)) (by decide +kernel))
set_option maxRecDepth 20000 in
theorem gL_fines_X5_fines : GoodIn wsL_fines (wsV RL 63 RX5 yX5_fines wsX5_fines) := goodIn_app (goodIn_of _ (by decide +kernel)) ggL_fines_X5_fines
theorem dL_fines_0 : decode cL_fines 0 = .ok (.aload_n 2, 1) := by decide +kernel
theorem dL_fines_1 : decode cL_fines 1 = .ok (.iconst 0, 1) := by decide +kernel
theorem dL_fines_2 : decode cL_fines 2 = .ok (.aload_n 0, 1) := by decide +kernel
theorem dL_fines_3 : decode cL_fines 3 = .ok (.iload_n 1, 1) := by decide +kernel
theorem dL_fines_4 : decode cL_fines 4 = .ok (.invokevirtual 63, 3) := by decide +kernel
theorem dL_fines_7 : decode cL_fines 7 = .ok (.i2l, 1) := by decide +kernel
theorem dL_fines_8 : decode cL_fines 8 = .ok (.lastore, 1) := by decide +kernel
theorem dL_fines_9 : decode cL_fines 9 = .ok (.goto 6, 3) := by decide +kernel
theorem dL_fines_12 : decode cL_fines 12 = .ok (.astore_n 3, 1) := by decide +kernel
theorem dL_fines_13 : decode cL_fines 13 = .ok (.iconst 1, 1) := by decide +kernel
theorem dL_fines_14 : decode cL_fines 14 = .ok (.ireturn, 1) := by decide +kernel
theorem dL_fines_15 : decode cL_fines 15 = .ok (.iconst 0, 1) := by decide +kernel
theorem dL_fines_16 : decode cL_fines 16 = .ok (.ireturn, 1) := by decide +kernel
set_option maxRecDepth 20000 in
theorem ggL_difference_X5_difference : GoodIn wsL_difference wsX5_difference := goodIn_ca (goodIn_r _ [6, 7, 8, 9, 5, 10, 11, 12, 13, 14, 15, 16, 17, 18, 19, 20, 21, 22, 23, 24, 25, 26] (by decide +kernel) (by decide +kernel)) (goodIn_sub (fun _ h => List.mem_cons_of_mem _ (List.mem_append_right _ h)) (by decide +kernel))
set_option maxRecDepth 20000 in
theorem gL_difference_X5_difference : GoodIn wsL_difference (wsV RL 66 RX5 yX5_difference wsX5_difference) := goodIn_app (goodIn_of _ (by decide +kernel)) ggL_difference_X5_difference
theorem dL_difference_0 : decode cL_difference 0 = .ok (.aload_n 2, 1) := by decide +kernel
theorem dL_difference_1 : decode cL_difference 1 = .ok (.iconst 0, 1) := by decide +kernel
theorem dL_difference_2 : decode cL_difference 2 = .ok (.aload_n 0, 1) := by decide +kernel
theorem dL_difference_3 : decode cL_difference 3 = .ok (.iload_n 1, 1) := by decide +kernel
theorem dL_difference_4 : decode cL_difference 4 = .ok (.invokevirtual 66, 3) := by decide +kernel
theorem dL_difference_7 : decode cL_difference 7 = .ok (.i2l, 1) := by decide +kernel
theorem dL_difference_8 : decode cL_difference 8 = .ok (.lastore, 1) := by decide +kernel
theorem dL_difference_9 : decode cL_difference 9 = .ok (.goto 6, 3) := by decide +kernel
theorem dL_difference_12 : decode cL_difference 12 = .ok (.astore_n 3, 1) := by decide +kernel
theorem dL_difference_13 : decode cL_difference 13 = .ok (.iconst 1, 1) := by decide +kernel
theorem dL_difference_14 : decode cL_difference 14 = .ok (.ireturn, 1) := by decide +kernel
theorem dL_difference_15 : decode cL_difference 15 = .ok (.iconst 0, 1) := by decide +kernel
theorem dL_difference_16 : decode cL_difference 16 = .ok (.ireturn, 1) := by decide +kernel
set_option maxRecDepth 20000 in
theorem ggL_place_X5_place : GoodIn wsL_place wsX5_place := goodIn_ca (goodIn_r _ [6, 7, 8, 9, 5, 10, 11, 12, 13, 14, 15, 16, 17, 18, 19, 20, 21, 22, 23, 24, 25, 26, 27, 28, 29, 30, 31, 32] (by decide +kernel) (by decide +kernel)) (goodIn_sub (fun _ h => List.mem_cons_of_mem _ (List.mem_append_right _ h)) (by decide +kernel))
set_option maxRecDepth 20000 in
theorem gL_place_X5_place : GoodIn wsL_place (wsV RL 69 RX5 yX5_place wsX5_place) := goodIn_app (goodIn_of _ (by decide +kernel)) ggL_place_X5_place
theorem dL_place_0 : decode cL_place 0 = .ok (.aload_n 2, 1) := by decide +kernel
theorem dL_place_1 : decode cL_place 1 = .ok (.iconst 0, 1) := by decide +kernel
theorem dL_place_2 : decode cL_place 2 = .ok (.aload_n 0, 1) := by decide +kernel
theorem dL_place_3 : decode cL_place 3 = .ok (.iload_n 1, 1) := by decide +kernel
theorem dL_place_4 : decode cL_place 4 = .ok (.invokevirtual 69, 3) := by decide +kernel
theorem dL_place_7 : decode cL_place 7 = .ok (.i2l, 1) := by decide +kernel
theorem dL_place_8 : decode cL_place 8 = .ok (.lastore, 1) := by decide +kernel
theorem dL_place_9 : decode cL_place 9 = .ok (.goto 6, 3) := by decide +kernel
theorem dL_place_12 : decode cL_place 12 = .ok (.astore_n 3, 1) := by decide +kernel
theorem dL_place_13 : decode cL_place 13 = .ok (.iconst 1, 1) := by decide +kernel
theorem dL_place_14 : decode cL_place 14 = .ok (.ireturn, 1) := by decide +kernel
theorem dL_place_15 : decode cL_place 15 = .ok (.iconst 0, 1) := by decide +kernel
theorem dL_place_16 : decode cL_place 16 = .ok (.ireturn, 1) := by decide +kernel
set_option maxRecDepth 20000 in
theorem ggL_law_X5_init : GoodIn wsL_law wsX5_init := goodIn_r _ [9, 10, 11, 12, 13, 14, 15, 16, 17, 18, 19, 20, 21, 22, 23, 24, 25, 26, 27, 28, 29, 30, 31, 32, 33, 34, 35, 36, 37, 38, 39, 40, 41, 42, 43, 44, 45, 46, 47, 48, 49, 50, 51, 52, 53, 54, 55, 56, 57, 58, 59, 60, 61, 62, 63, 64, 65, 66, 67, 68, 69, 70, 71, 72, 73, 74, 75, 599, 571, 572, 573, 574, 600, 601, 602, 603, 604, 605, 606, 607, 608, 609, 610, 611, 612, 613, 614, 615, 616, 617, 618, 619, 620, 621] (by decide +kernel) (by decide +kernel)
set_option maxRecDepth 20000 in
theorem gL_law_X5_init : GoodIn wsL_law (wsX5_init) := ggL_law_X5_init
set_option maxRecDepth 20000 in
theorem ggL_law_X6_init : GoodIn wsL_law wsX6_init := goodIn_r _ [78, 79, 11, 12, 30, 80, 25, 81, 82, 83, 84, 85, 86, 87, 88, 89, 90, 91, 92, 93, 94, 95, 96, 575, 576, 577, 578, 579, 580, 581, 582, 583, 584, 585, 586, 587, 588, 589, 590, 591, 592, 593, 594, 595, 596, 597, 598] (by decide +kernel) (by decide +kernel)
set_option maxRecDepth 20000 in
theorem gL_law_X6_init : GoodIn wsL_law (wsX6_init) := ggL_law_X6_init
set_option maxRecDepth 20000 in
theorem ggL_law_L_toggleBunker : GoodIn wsL_law wsL_toggleBunker := goodIn_ca (goodIn_ca (goodIn_r _ [100, 101, 102, 103, 104, 105, 2, 106, 107, 108, 20, 16, 109, 110, 111, 112, 113, 114, 115, 116, 19, 117, 36, 118, 119, 120, 15, 121, 31, 571, 572, 573, 574, 600, 601, 602, 603, 604, 605, 606, 607, 599] (by decide +kernel) (by decide +kernel)) (goodIn_sub (fun _ h => List.mem_append_left _ (List.mem_append_left _ (List.mem_append_right _ h))) (by decide +kernel))) (goodIn_sub (fun _ h => List.mem_append_left _ (List.mem_append_right _ h)) (by decide +kernel))
set_option maxRecDepth 20000 in
theorem gL_law_L_toggleBunker : GoodIn wsL_law (va_wsS RL 76 yL_toggleBunker wsL_toggleBunker) := goodIn_app (goodIn_of _ (by decide +kernel)) ggL_law_L_toggleBunker
set_option maxRecDepth 20000 in
theorem ggL_law_X6_toggleBunker : GoodIn wsL_law wsX6_toggleBunker := goodIn_r _ [125, 126, 80, 127, 128, 5, 129, 130, 131, 132, 133, 134, 135, 136, 137, 575, 576, 577, 578, 579, 580, 581, 582, 583, 584, 585, 586, 587, 588, 589, 590, 591, 592, 593, 594, 595, 596, 597, 598] (by decide +kernel) (by decide +kernel)
set_option maxRecDepth 20000 in
theorem gL_law_X6_toggleBunker : GoodIn wsL_law (wsV RL 81 RX6 yX6_toggleBunker wsX6_toggleBunker) := goodIn_app (goodIn_of _ (by decide +kernel)) ggL_law_X6_toggleBunker
set_option maxRecDepth 20000 in
theorem ggL_law_X6_thrown : GoodIn wsL_law wsX6_thrown := goodIn_r _ [141, 137, 575, 576, 577, 578, 579, 580, 581, 582, 583, 584, 585, 586, 587, 588, 589, 590, 591, 592, 593, 594, 595, 596, 597, 598] (by decide +kernel) (by decide +kernel)
set_option maxRecDepth 20000 in
theorem gL_law_X6_thrown : GoodIn wsL_law (wsV RL 82 RX6 yX6_thrown wsX6_thrown) := goodIn_app (goodIn_of _ (by decide +kernel)) ggL_law_X6_thrown
set_option maxRecDepth 20000 in
theorem ggL_law_L_sees : GoodIn wsL_law wsL_sees := goodIn_ca (goodIn_r _ [144, 101, 145, 146, 147, 2, 148, 16, 109, 110, 111, 112, 113, 149, 150, 151, 15, 152, 31, 153, 154, 155, 156, 157, 158, 159, 160, 161, 162, 163, 164, 165, 571, 572, 573, 574, 599] (by decide +kernel) (by decide +kernel)) (goodIn_sub (fun _ h => List.mem_append_left _ (List.mem_append_right _ h)) (by decide +kernel))
set_option maxRecDepth 20000 in
theorem gL_law_L_sees : GoodIn wsL_law (va_wsS RL 85 yL_sees wsL_sees) := goodIn_app (goodIn_of _ (by decide +kernel)) ggL_law_L_sees
set_option maxRecDepth 20000 in
theorem ggL_law_X6_sees : GoodIn wsL_law wsX6_sees := goodIn_r _ [169, 127, 128, 5, 129, 130, 131, 132, 133, 134, 135, 136, 137, 170, 171, 172, 173, 80, 174, 175, 176, 177, 178, 179, 180, 181, 182, 575, 576, 577, 578, 579, 580, 581, 582, 583, 584, 585, 586, 587, 588, 589, 590, 591, 592, 593, 594, 595, 596, 597, 598] (by decide +kernel) (by decide +kernel)
set_option maxRecDepth 20000 in
theorem gL_law_X6_sees : GoodIn wsL_law (wsV RL 88 RX6 yX6_sees wsX6_sees) := goodIn_app (goodIn_of _ (by decide +kernel)) ggL_law_X6_sees
set_option maxRecDepth 20000 in
theorem ggL_law_L_view : GoodIn wsL_law wsL_view := goodIn_ca (goodIn_r _ [185, 101, 186, 187, 188, 2, 189, 16, 109, 110, 111, 112, 113, 190, 191, 192, 15, 193, 194, 150, 151, 152, 31, 153, 154, 155, 156, 157, 158, 159, 160, 161, 162, 163, 164, 165, 571, 572, 573, 574, 599] (by decide +kernel) (by decide +kernel)) (goodIn_sub (fun _ h => List.mem_append_left _ (List.mem_append_right _ h)) (by decide +kernel))
set_option maxRecDepth 20000 in
theorem gL_law_L_view : GoodIn wsL_law (va_wsS RL 89 yL_view wsL_view) := goodIn_app (goodIn_of _ (by decide +kernel)) ggL_law_L_view
set_option maxRecDepth 20000 in
theorem ggL_law_X6_view : GoodIn wsL_law wsX6_view := goodIn_r _ [198, 127, 128, 5, 129, 130, 131, 132, 133, 134, 135, 136, 137, 170, 171, 172, 173, 80, 174, 175, 176, 177, 178, 179, 180, 181, 182, 575, 576, 577, 578, 579, 580, 581, 582, 583, 584, 585, 586, 587, 588, 589, 590, 591, 592, 593, 594, 595, 596, 597, 598] (by decide +kernel) (by decide +kernel)
set_option maxRecDepth 20000 in
theorem gL_law_X6_view : GoodIn wsL_law (wsV RL 91 RX6 yX6_view wsX6_view) := goodIn_app (goodIn_of _ (by decide +kernel)) ggL_law_X6_view
set_option maxRecDepth 20000 in
theorem ggL_law_L_setReferee : GoodIn wsL_law wsL_setReferee := goodIn_ca (goodIn_r _ [201, 101, 202, 203, 204, 2, 205, 26, 206, 207, 208, 112, 113, 109, 110, 111, 571, 572, 573, 574] (by decide +kernel) (by decide +kernel)) (goodIn_sub (fun _ h => List.mem_append_left _ (List.mem_append_right _ h)) (by decide +kernel))
set_option maxRecDepth 20000 in
theorem gL_law_L_setReferee : GoodIn wsL_law (va_wsS RL 92 yL_setReferee wsL_setReferee) := goodIn_app (goodIn_of _ (by decide +kernel)) ggL_law_L_setReferee
set_option maxRecDepth 20000 in
theorem ggL_law_X6_setReferee : GoodIn wsL_law wsX6_setReferee := goodIn_r _ [212, 81, 213, 214, 5, 215, 130, 131, 132, 127, 128, 129, 133, 134, 135, 136, 137, 575, 576, 577, 578, 579, 580, 581, 582, 583, 584, 585, 586, 587, 588, 589, 590, 591, 592, 593, 594, 595, 596, 597, 598] (by decide +kernel) (by decide +kernel)
set_option maxRecDepth 20000 in
theorem gL_law_X6_setReferee : GoodIn wsL_law (wsV RL 94 RX6 yX6_setReferee wsX6_setReferee) := goodIn_app (goodIn_of _ (by decide +kernel)) ggL_law_X6_setReferee
set_option maxRecDepth 20000 in
theorem ggL_law_L_begin : GoodIn wsL_law wsL_begin := goodIn_ca (goodIn_ca (goodIn_ca (goodIn_r _ [218, 101, 219, 102, 220, 221, 222, 2, 223, 224, 225, 107, 108, 20, 226, 227, 228, 112, 113, 114, 115, 116, 19, 117, 36, 229, 230, 231, 232, 233, 234, 62, 63, 64, 65, 37, 38, 39, 43, 66, 47, 67, 571, 572, 573, 574, 600, 601, 602, 603, 604, 605, 606, 607, 612, 613, 614, 615, 616, 617, 618, 619, 620, 621] (by decide +kernel) (by decide +kernel)) (goodIn_sub (fun _ h => List.mem_append_right _ h) (by decide +kernel))) (goodIn_sub (fun _ h => List.mem_append_left _ (List.mem_append_left _ (List.mem_append_right _ h))) (by decide +kernel))) (goodIn_sub (fun _ h => List.mem_append_left _ (List.mem_append_right _ h)) (by decide +kernel))
set_option maxRecDepth 20000 in
theorem gL_law_L_begin : GoodIn wsL_law (va_wsS RL 95 yL_begin wsL_begin) := goodIn_app (goodIn_of _ (by decide +kernel)) ggL_law_L_begin
set_option maxRecDepth 20000 in
theorem ggL_law_X6_begin : GoodIn wsL_law wsX6_begin := goodIn_r _ [238, 126, 239, 240, 241, 242, 243, 82, 83, 84, 244, 245, 5, 246, 130, 131, 132, 133, 134, 135, 136, 137, 575, 576, 577, 578, 579, 580, 581, 582, 583, 584, 585, 586, 587, 588, 589, 590, 591, 592, 593, 594, 595, 596, 597, 598] (by decide +kernel) (by decide +kernel)
set_option maxRecDepth 20000 in
theorem gL_law_X6_begin : GoodIn wsL_law (wsV RL 98 RX6 yX6_begin wsX6_begin) := goodIn_app (goodIn_of _ (by decide +kernel)) ggL_law_X6_begin
set_option maxRecDepth 20000 in
theorem ggL_law_L_move : GoodIn wsL_law wsL_move := goodIn_ca (goodIn_ca (goodIn_r _ [249, 101, 102, 250, 251, 252, 2, 253, 107, 108, 20, 16, 254, 255, 256, 112, 113, 109, 110, 111, 257, 258, 259, 260, 114, 115, 116, 19, 117, 36, 261, 262, 263, 264, 37, 265, 266, 15, 267, 163, 164, 155, 165, 157, 158, 159, 268, 269, 270, 271, 31, 272, 273, 274, 275, 276, 277, 278, 279, 571, 572, 573, 574, 600, 601, 602, 603, 604, 605, 606, 607, 599] (by decide +kernel) (by decide +kernel)) (goodIn_sub (fun _ h => List.mem_append_left _ (List.mem_append_left _ (List.mem_append_right _ h))) (by decide +kernel))) (goodIn_sub (fun _ h => List.mem_append_left _ (List.mem_append_right _ h)) (by decide +kernel))
set_option maxRecDepth 20000 in
theorem gL_law_L_move : GoodIn wsL_law (va_wsS RL 99 yL_move wsL_move) := goodIn_app (goodIn_of _ (by decide +kernel)) ggL_law_L_move
set_option maxRecDepth 20000 in
theorem ggL_law_X6_move : GoodIn wsL_law wsX6_move := goodIn_r _ [283, 126, 82, 80, 284, 285, 5, 286, 130, 131, 132, 127, 128, 129, 287, 288, 289, 290, 291, 292, 293, 294, 295, 296, 133, 134, 135, 136, 137, 575, 576, 577, 578, 579, 580, 581, 582, 583, 584, 585, 586, 587, 588, 589, 590, 591, 592, 593, 594, 595, 596, 597, 598] (by decide +kernel) (by decide +kernel)
set_option maxRecDepth 20000 in
theorem gL_law_X6_move : GoodIn wsL_law (wsV RL 101 RX6 yX6_move wsX6_move) := goodIn_app (goodIn_of _ (by decide +kernel)) ggL_law_X6_move
set_option maxRecDepth 20000 in
theorem ggL_law_L_shoot : GoodIn wsL_law wsL_shoot := goodIn_ca (goodIn_ca (goodIn_r _ [299, 101, 102, 300, 301, 302, 2, 303, 107, 108, 20, 254, 255, 256, 112, 113, 109, 110, 111, 257, 258, 259, 260, 114, 115, 116, 19, 117, 36, 261, 262, 263, 264, 37, 304, 305, 306, 307, 39, 43, 66, 308, 309, 310, 311, 312, 266, 15, 267, 163, 164, 155, 165, 157, 158, 159, 313, 314, 315, 42, 316, 51, 317, 52, 53, 54, 571, 572, 573, 574, 600, 601, 602, 603, 604, 605, 606, 607, 612, 613, 614, 615, 616] (by decide +kernel) (by decide +kernel)) (goodIn_sub (fun _ h => List.mem_append_left _ (List.mem_append_left _ (List.mem_append_right _ h))) (by decide +kernel))) (goodIn_sub (fun _ h => List.mem_append_left _ (List.mem_append_right _ h)) (by decide +kernel))
set_option maxRecDepth 20000 in
theorem gL_law_L_shoot : GoodIn wsL_law (va_wsS RL 102 yL_shoot wsL_shoot) := goodIn_app (goodIn_of _ (by decide +kernel)) ggL_law_L_shoot
set_option maxRecDepth 20000 in
theorem ggL_law_X6_shoot : GoodIn wsL_law wsX6_shoot := goodIn_r _ [321, 126, 82, 84, 241, 242, 85, 86, 87, 88, 284, 285, 5, 286, 130, 131, 132, 127, 128, 129, 133, 134, 135, 136, 137, 287, 288, 289, 290, 291, 292, 575, 576, 577, 578, 579, 580, 581, 582, 583, 584, 585, 586, 587, 588, 589, 590, 591, 592, 593, 594, 595, 596, 597, 598] (by decide +kernel) (by decide +kernel)
set_option maxRecDepth 20000 in
theorem gL_law_X6_shoot : GoodIn wsL_law (wsV RL 104 RX6 yX6_shoot wsX6_shoot) := goodIn_app (goodIn_of _ (by decide +kernel)) ggL_law_X6_shoot
set_option maxRecDepth 20000 in
theorem ggL_law_L_pass : GoodIn wsL_law wsL_pass := goodIn_ca (goodIn_ca (goodIn_r _ [324, 219, 102, 325, 326, 327, 2, 328, 224, 225, 20, 16, 257, 258, 259, 260, 107, 108, 114, 115, 116, 19, 117, 36, 329, 330, 331, 332, 43, 66, 333, 334, 335, 336, 337, 338, 339, 340, 38, 341, 273, 274, 275, 37, 342, 150, 151, 15, 152, 31, 153, 154, 155, 156, 157, 158, 159, 160, 161, 162, 163, 164, 165, 571, 572, 573, 574, 600, 601, 602, 603, 604, 605, 606, 607, 612, 613, 614, 615, 616, 599] (by decide +kernel) (by decide +kernel)) (goodIn_sub (fun _ h => List.mem_append_right _ h) (by decide +kernel))) (goodIn_sub (fun _ h => List.mem_append_left _ (List.mem_append_left _ (List.mem_append_right _ h))) (by decide +kernel))
set_option maxRecDepth 20000 in
theorem gL_law_L_pass : GoodIn wsL_law (va_wsS RL 105 yL_pass wsL_pass) := goodIn_app (goodIn_of _ (by decide +kernel)) ggL_law_L_pass
set_option maxRecDepth 20000 in
theorem ggL_law_X6_pass : GoodIn wsL_law wsX6_pass := goodIn_r _ [346, 126, 241, 242, 88, 87, 85, 86, 83, 130, 131, 5, 132, 133, 134, 135, 136, 137, 293, 294, 295, 296, 82, 170, 171, 172, 173, 80, 174, 175, 176, 177, 178, 179, 180, 181, 182, 575, 576, 577, 578, 579, 580, 581, 582, 583, 584, 585, 586, 587, 588, 589, 590, 591, 592, 593, 594, 595, 596, 597, 598] (by decide +kernel) (by decide +kernel)
set_option maxRecDepth 20000 in
theorem gL_law_X6_pass : GoodIn wsL_law (wsV RL 107 RX6 yX6_pass wsX6_pass) := goodIn_app (goodIn_of _ (by decide +kernel)) ggL_law_X6_pass
set_option maxRecDepth 20000 in
theorem ggL_law_L_call : GoodIn wsL_law wsL_call := goodIn_ca (goodIn_ca (goodIn_r _ [349, 101, 102, 350, 351, 352, 2, 353, 107, 108, 20, 16, 26, 206, 207, 208, 112, 113, 254, 255, 256, 257, 258, 259, 260, 114, 115, 116, 19, 117, 36, 261, 262, 263, 264, 37, 149, 150, 151, 15, 152, 31, 153, 154, 155, 156, 157, 158, 159, 160, 161, 162, 163, 164, 165, 354, 355, 356, 357, 47, 67, 358, 359, 360, 361, 362, 363, 364, 46, 365, 58, 366, 59, 60, 61, 571, 572, 573, 574, 600, 601, 602, 603, 604, 605, 606, 607, 599, 617, 618, 619, 620, 621] (by decide +kernel) (by decide +kernel)) (goodIn_sub (fun _ h => List.mem_append_left _ (List.mem_append_left _ (List.mem_append_right _ h))) (by decide +kernel))) (goodIn_sub (fun _ h => List.mem_append_left _ (List.mem_append_right _ h)) (by decide +kernel))
set_option maxRecDepth 20000 in
theorem gL_law_L_call : GoodIn wsL_law (va_wsS RL 108 yL_call wsL_call) := goodIn_app (goodIn_of _ (by decide +kernel)) ggL_law_L_call
set_option maxRecDepth 20000 in
theorem ggL_law_X6_call : GoodIn wsL_law wsX6_call := goodIn_r _ [370, 126, 82, 81, 89, 243, 90, 241, 91, 92, 213, 214, 5, 215, 130, 131, 132, 284, 285, 286, 170, 171, 172, 173, 80, 174, 175, 176, 177, 178, 179, 180, 181, 182, 133, 134, 135, 136, 137, 575, 576, 577, 578, 579, 580, 581, 582, 583, 584, 585, 586, 587, 588, 589, 590, 591, 592, 593, 594, 595, 596, 597, 598] (by decide +kernel) (by decide +kernel)
set_option maxRecDepth 20000 in
theorem gL_law_X6_call : GoodIn wsL_law (wsV RL 110 RX6 yX6_call wsX6_call) := goodIn_app (goodIn_of _ (by decide +kernel)) ggL_law_X6_call
set_option maxRecDepth 20000 in
theorem ggL_law_L_dispute : GoodIn wsL_law wsL_dispute := goodIn_ca (goodIn_ca (goodIn_r _ [373, 101, 102, 374, 375, 376, 2, 377, 112, 113, 107, 108, 20, 24, 378, 379, 380, 19, 381, 47, 67, 382, 383, 384, 385, 386, 387, 388, 389, 390, 391, 38, 392, 393, 37, 341, 273, 274, 275, 394, 395, 396, 397, 233, 234, 398, 399, 400, 23, 401, 72, 571, 572, 573, 574, 600, 601, 602, 603, 604, 605, 606, 607, 617, 618, 619, 620, 621, 608, 609, 610, 611] (by decide +kernel) (by decide +kernel)) (goodIn_sub (fun _ h => List.mem_append_left _ (List.mem_append_right _ h)) (by decide +kernel))) (goodIn_sub (fun _ h => List.mem_append_left _ (List.mem_append_left _ (List.mem_append_right _ h))) (by decide +kernel))
set_option maxRecDepth 20000 in
theorem gL_law_L_dispute : GoodIn wsL_law (va_wsS RL 111 yL_dispute wsL_dispute) := goodIn_app (goodIn_of _ (by decide +kernel)) ggL_law_L_dispute
set_option maxRecDepth 20000 in
theorem ggL_law_X6_dispute : GoodIn wsL_law wsX6_dispute := goodIn_r _ [405, 126, 243, 92, 89, 83, 90, 94, 82, 91, 130, 131, 5, 132, 133, 134, 135, 136, 137, 406, 407, 408, 409, 239, 240, 293, 294, 295, 296, 575, 576, 577, 578, 579, 580, 581, 582, 583, 584, 585, 586, 587, 588, 589, 590, 591, 592, 593, 594, 595, 596, 597, 598] (by decide +kernel) (by decide +kernel)
set_option maxRecDepth 20000 in
theorem gL_law_X6_dispute : GoodIn wsL_law (wsV RL 113 RX6 yX6_dispute wsX6_dispute) := goodIn_app (goodIn_of _ (by decide +kernel)) ggL_law_X6_dispute
set_option maxRecDepth 20000 in
theorem ggL_law_L_end : GoodIn wsL_law wsL_end := goodIn_ca (goodIn_r _ [412, 102, 413, 414, 415, 2, 416, 20, 24, 257, 258, 259, 260, 107, 108, 114, 115, 116, 19, 117, 36, 417, 418, 419, 420, 37, 38, 421, 422, 423, 424, 233, 425, 426, 427, 428, 234, 429, 430, 431, 23, 432, 73, 71, 433, 434, 435, 436, 75, 437, 438, 439, 440, 72, 441, 442, 443, 444, 62, 63, 64, 65, 39, 43, 66, 47, 67, 571, 572, 573, 574, 600, 601, 602, 603, 604, 605, 606, 607, 608, 609, 610, 611, 612, 613, 614, 615, 616, 617, 618, 619, 620, 621] (by decide +kernel) (by decide +kernel)) (goodIn_sub (fun _ h => List.mem_append_left _ (List.mem_append_left _ (List.mem_append_right _ h))) (by decide +kernel))
set_option maxRecDepth 20000 in
theorem gL_law_L_end : GoodIn wsL_law (va_wsS RL 114 yL_end wsL_end) := goodIn_app (goodIn_of _ (by decide +kernel)) ggL_law_L_end
set_option maxRecDepth 20000 in
theorem ggL_law_X6_end : GoodIn wsL_law wsX6_end := goodIn_r _ [448, 126, 82, 83, 93, 239, 240, 96, 95, 94, 133, 134, 135, 5, 136, 137, 575, 576, 577, 578, 579, 580, 581, 582, 583, 584, 585, 586, 587, 588, 589, 590, 591, 592, 593, 594, 595, 596, 597, 598] (by decide +kernel) (by decide +kernel)
set_option maxRecDepth 20000 in
theorem gL_law_X6_end : GoodIn wsL_law (wsV RL 117 RX6 yX6_end wsX6_end) := goodIn_app (goodIn_of _ (by decide +kernel)) ggL_law_X6_end
set_option maxRecDepth 20000 in
theorem ggL_law_X5_tick : GoodIn wsL_law wsX5_tick := goodIn_r _ [452, 20, 453, 454, 455, 19, 456, 36, 571, 572, 573, 574, 600, 601, 602, 603, 604, 605, 606, 607] (by decide +kernel) (by decide +kernel)
set_option maxRecDepth 20000 in
theorem gL_law_X5_tick : GoodIn wsL_law (wsV RL 118 RX5 yX5_tick wsX5_tick) := goodIn_app (goodIn_of _ (by decide +kernel)) ggL_law_X5_tick
set_option maxRecDepth 20000 in
theorem ggL_law_X6_tick : GoodIn wsL_law wsX6_tick := goodIn_r _ [460, 137, 126, 241, 575, 576, 577, 578, 579, 580, 581, 582, 583, 584, 585, 586, 587, 588, 589, 590, 591, 592, 593, 594, 595, 596, 597, 598] (by decide +kernel) (by decide +kernel)
set_option maxRecDepth 20000 in
theorem gL_law_X6_tick : GoodIn wsL_law (wsV RL 121 RX6 yX6_tick wsX6_tick) := goodIn_app (goodIn_of _ (by decide +kernel)) ggL_law_X6_tick
set_option maxRecDepth 20000 in
theorem ggL_law_L_where : GoodIn wsL_law wsL_where := goodIn_ca (goodIn_r _ [463, 101, 464, 465, 466, 2, 467, 20, 254, 255, 256, 112, 113, 261, 262, 263, 19, 264, 37, 571, 572, 573, 574, 600, 601, 602, 603, 604, 605, 606, 607] (by decide +kernel) (by decide +kernel)) (goodIn_sub (fun _ h => List.mem_append_left _ (List.mem_append_right _ h)) (by decide +kernel))
set_option maxRecDepth 20000 in
theorem gL_law_L_where : GoodIn wsL_law (va_wsS RL 122 yL_where wsL_where) := goodIn_app (goodIn_of _ (by decide +kernel)) ggL_law_L_where
set_option maxRecDepth 20000 in
theorem ggL_law_X6_where : GoodIn wsL_law wsX6_where := goodIn_r _ [471, 126, 82, 284, 285, 5, 286, 130, 131, 132, 133, 134, 135, 136, 137, 575, 576, 577, 578, 579, 580, 581, 582, 583, 584, 585, 586, 587, 588, 589, 590, 591, 592, 593, 594, 595, 596, 597, 598] (by decide +kernel) (by decide +kernel)
set_option maxRecDepth 20000 in
theorem gL_law_X6_where : GoodIn wsL_law (wsV RL 124 RX6 yX6_where wsX6_where) := goodIn_app (goodIn_of _ (by decide +kernel)) ggL_law_X6_where
set_option maxRecDepth 20000 in
theorem ggL_law_L_hit : GoodIn wsL_law wsL_hit := goodIn_ca (goodIn_r _ [474, 101, 475, 476, 477, 2, 478, 20, 254, 255, 256, 112, 113, 479, 480, 481, 19, 482, 38, 571, 572, 573, 574, 600, 601, 602, 603, 604, 605, 606, 607] (by decide +kernel) (by decide +kernel)) (goodIn_sub (fun _ h => List.mem_append_left _ (List.mem_append_right _ h)) (by decide +kernel))
set_option maxRecDepth 20000 in
theorem gL_law_L_hit : GoodIn wsL_law (va_wsS RL 125 yL_hit wsL_hit) := goodIn_app (goodIn_of _ (by decide +kernel)) ggL_law_L_hit
set_option maxRecDepth 20000 in
theorem ggL_law_X6_hit : GoodIn wsL_law wsX6_hit := goodIn_r _ [486, 126, 83, 284, 285, 5, 286, 130, 131, 132, 133, 134, 135, 136, 137, 575, 576, 577, 578, 579, 580, 581, 582, 583, 584, 585, 586, 587, 588, 589, 590, 591, 592, 593, 594, 595, 596, 597, 598] (by decide +kernel) (by decide +kernel)
set_option maxRecDepth 20000 in
theorem gL_law_X6_hit : GoodIn wsL_law (wsV RL 127 RX6 yX6_hit wsX6_hit) := goodIn_app (goodIn_of _ (by decide +kernel)) ggL_law_X6_hit
set_option maxRecDepth 20000 in
theorem ggL_law_X5_flying : GoodIn wsL_law wsX5_flying := goodIn_r _ [490, 20, 491, 492, 493, 19, 494, 43, 66, 333, 36, 571, 572, 573, 574, 600, 601, 602, 603, 604, 605, 606, 607, 612, 613, 614, 615, 616] (by decide +kernel) (by decide +kernel)
set_option maxRecDepth 20000 in
theorem gL_law_X5_flying : GoodIn wsL_law (wsV RL 128 RX5 yX5_flying wsX5_flying) := goodIn_app (goodIn_of _ (by decide +kernel)) ggL_law_X5_flying
set_option maxRecDepth 20000 in
theorem ggL_law_X6_flying : GoodIn wsL_law wsX6_flying := goodIn_r _ [498, 137, 242, 126, 88, 241, 575, 576, 577, 578, 579, 580, 581, 582, 583, 584, 585, 586, 587, 588, 589, 590, 591, 592, 593, 594, 595, 596, 597, 598] (by decide +kernel) (by decide +kernel)
set_option maxRecDepth 20000 in
theorem gL_law_X6_flying : GoodIn wsL_law (wsV RL 131 RX6 yX6_flying wsX6_flying) := goodIn_app (goodIn_of _ (by decide +kernel)) ggL_law_X6_flying
set_option maxRecDepth 20000 in
theorem ggL_law_L_points : GoodIn wsL_law wsL_points := goodIn_ca (goodIn_r _ [501, 101, 502, 503, 504, 2, 505, 24, 226, 227, 228, 112, 113, 506, 507, 508, 23, 509, 71, 571, 572, 573, 574, 608, 609, 610, 611] (by decide +kernel) (by decide +kernel)) (goodIn_sub (fun _ h => List.mem_append_left _ (List.mem_append_right _ h)) (by decide +kernel))
set_option maxRecDepth 20000 in
theorem gL_law_L_points : GoodIn wsL_law (va_wsS RL 132 yL_points wsL_points) := goodIn_app (goodIn_of _ (by decide +kernel)) ggL_law_L_points
set_option maxRecDepth 20000 in
theorem ggL_law_X6_points : GoodIn wsL_law wsX6_points := goodIn_r _ [513, 93, 514, 515, 516, 5, 517, 244, 245, 246, 130, 131, 132, 133, 134, 135, 136, 137, 575, 576, 577, 578, 579, 580, 581, 582, 583, 584, 585, 586, 587, 588, 589, 590, 591, 592, 593, 594, 595, 596, 597, 598] (by decide +kernel) (by decide +kernel)
set_option maxRecDepth 20000 in
theorem gL_law_X6_points : GoodIn wsL_law (wsV RL 134 RX6 yX6_points wsX6_points) := goodIn_app (goodIn_of _ (by decide +kernel)) ggL_law_X6_points
set_option maxRecDepth 20000 in
theorem ggL_law_L_fines : GoodIn wsL_law wsL_fines := goodIn_ca (goodIn_r _ [520, 101, 521, 522, 523, 2, 524, 24, 226, 227, 228, 112, 113, 525, 526, 527, 23, 528, 72, 571, 572, 573, 574, 608, 609, 610, 611] (by decide +kernel) (by decide +kernel)) (goodIn_sub (fun _ h => List.mem_append_left _ (List.mem_append_right _ h)) (by decide +kernel))
set_option maxRecDepth 20000 in
theorem gL_law_L_fines : GoodIn wsL_law (va_wsS RL 135 yL_fines wsL_fines) := goodIn_app (goodIn_of _ (by decide +kernel)) ggL_law_L_fines
set_option maxRecDepth 20000 in
theorem ggL_law_X6_fines : GoodIn wsL_law wsX6_fines := goodIn_r _ [532, 94, 514, 515, 516, 5, 517, 244, 245, 246, 130, 131, 132, 133, 134, 135, 136, 137, 575, 576, 577, 578, 579, 580, 581, 582, 583, 584, 585, 586, 587, 588, 589, 590, 591, 592, 593, 594, 595, 596, 597, 598] (by decide +kernel) (by decide +kernel)
set_option maxRecDepth 20000 in
theorem gL_law_X6_fines : GoodIn wsL_law (wsV RL 137 RX6 yX6_fines wsX6_fines) := goodIn_app (goodIn_of _ (by decide +kernel)) ggL_law_X6_fines
set_option maxRecDepth 20000 in
theorem ggL_law_L_difference : GoodIn wsL_law wsL_difference := goodIn_ca (goodIn_r _ [535, 101, 536, 537, 538, 2, 539, 24, 226, 227, 228, 112, 113, 540, 541, 542, 23, 543, 73, 571, 572, 573, 574, 608, 609, 610, 611] (by decide +kernel) (by decide +kernel)) (goodIn_sub (fun _ h => List.mem_append_left _ (List.mem_append_right _ h)) (by decide +kernel))
set_option maxRecDepth 20000 in
theorem gL_law_L_difference : GoodIn wsL_law (va_wsS RL 138 yL_difference wsL_difference) := goodIn_app (goodIn_of _ (by decide +kernel)) ggL_law_L_difference
set_option maxRecDepth 20000 in
theorem ggL_law_X6_difference : GoodIn wsL_law wsX6_difference := goodIn_r _ [547, 95, 514, 515, 516, 5, 517, 244, 245, 246, 130, 131, 132, 133, 134, 135, 136, 137, 575, 576, 577, 578, 579, 580, 581, 582, 583, 584, 585, 586, 587, 588, 589, 590, 591, 592, 593, 594, 595, 596, 597, 598] (by decide +kernel) (by decide +kernel)
set_option maxRecDepth 20000 in
theorem gL_law_X6_difference : GoodIn wsL_law (wsV RL 140 RX6 yX6_difference wsX6_difference) := goodIn_app (goodIn_of _ (by decide +kernel)) ggL_law_X6_difference
set_option maxRecDepth 20000 in
theorem ggL_law_L_place : GoodIn wsL_law wsL_place := goodIn_ca (goodIn_r _ [550, 101, 551, 552, 553, 2, 554, 24, 226, 227, 228, 112, 113, 555, 556, 557, 23, 558, 559, 560, 561, 562, 71, 75, 73, 571, 572, 573, 574, 608, 609, 610, 611] (by decide +kernel) (by decide +kernel)) (goodIn_sub (fun _ h => List.mem_append_left _ (List.mem_append_right _ h)) (by decide +kernel))
set_option maxRecDepth 20000 in
theorem gL_law_L_place : GoodIn wsL_law (va_wsS RL 141 yL_place wsL_place) := goodIn_app (goodIn_of _ (by decide +kernel)) ggL_law_L_place
set_option maxRecDepth 20000 in
theorem ggL_law_X6_place : GoodIn wsL_law wsX6_place := goodIn_r _ [566, 244, 245, 5, 246, 130, 131, 132, 133, 134, 135, 136, 137, 567, 568, 569, 570, 96, 93, 95, 575, 576, 577, 578, 579, 580, 581, 582, 583, 584, 585, 586, 587, 588, 589, 590, 591, 592, 593, 594, 595, 596, 597, 598] (by decide +kernel) (by decide +kernel)
set_option maxRecDepth 20000 in
theorem gL_law_X6_place : GoodIn wsL_law (wsV RL 143 RX6 yX6_place wsX6_place) := goodIn_app (goodIn_of _ (by decide +kernel)) ggL_law_X6_place

