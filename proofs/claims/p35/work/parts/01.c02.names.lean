theorem wsL_law_x0 : ∀ w ∈ (vx_atS RX5 55 "java/lang/IllegalStateException" ["java/lang/RuntimeException", "java/lang/Exception"]).filter goodWord, w ∈ lw_tbl := by decide +kernel
theorem wsL_law_x1 : ∀ w ∈ (vx_atS RX5 277 "java/lang/IndexOutOfBoundsException" ["java/lang/RuntimeException", "java/lang/Exception"]).filter goodWord, w ∈ lw_tbl := by decide +kernel
theorem wsL_law_x2 : ∀ w ∈ (vx_atS RX5 242 "java/lang/IllegalArgumentException" ["java/lang/RuntimeException", "java/lang/Exception"]).filter goodWord, w ∈ lw_tbl := by decide +kernel
theorem wsL_law_in : ∀ w ∈ wsL_law, w ∈ lw_tbl := fun w h => (List.mem_append.mp h).elim (fun h => (List.mem_append.mp h).elim (fun h => (List.mem_append.mp h).elim (fun h => wsL_law_in0 w h) (fun h => wsL_law_x0 w h)) (fun h => wsL_law_x1 w h)) (fun h => wsL_law_x2 w h)
theorem inlX0 : ∀ w ∈ wsX00, w ∈ wsL_law := fun _ h => List.mem_append_left _ (List.mem_append_left _ (List.mem_append_left _ (List.mem_append_left _ (List.mem_append_right _ h))))
theorem inX0 : ∀ w ∈ wsX00, w ∈ lw_tbl := fun w h => wsL_law_in w (inlX0 w h)
theorem inlX1 : ∀ w ∈ wsX10, w ∈ wsL_law := fun _ h => List.mem_append_left _ (List.mem_append_left _ (List.mem_append_left _ (List.mem_append_left _ (List.mem_append_left _ (List.mem_append_left _ (List.mem_append_right _ h))))))
theorem inX1 : ∀ w ∈ wsX10, w ∈ lw_tbl := fun w h => wsL_law_in w (inlX1 w h)
theorem inlX2 : ∀ w ∈ wsX20, w ∈ wsL_law := fun _ h => List.mem_append_left _ (List.mem_append_left _ (List.mem_append_left _ (List.mem_append_left _ (List.mem_append_left _ (List.mem_append_right _ h)))))
theorem inX2 : ∀ w ∈ wsX20, w ∈ lw_tbl := fun w h => wsL_law_in w (inlX2 w h)
theorem inlX3 : ∀ w ∈ wsX30, w ∈ wsL_law := fun _ h => List.mem_append_left _ (List.mem_append_left _ (List.mem_append_left _ (List.mem_append_left _ (List.mem_append_left _ (List.mem_append_left _ (List.mem_append_left _ (List.mem_append_left _ (List.mem_append_right _ h))))))))
theorem inX3 : ∀ w ∈ wsX30, w ∈ lw_tbl := fun w h => wsL_law_in w (inlX3 w h)
theorem inlX4 : ∀ w ∈ wsX40, w ∈ wsL_law := fun _ h => List.mem_append_left _ (List.mem_append_left _ (List.mem_append_left _ (List.mem_append_left _ (List.mem_append_left _ (List.mem_append_left _ (List.mem_append_left _ (List.mem_append_right _ h)))))))
theorem inX4 : ∀ w ∈ wsX40, w ∈ lw_tbl := fun w h => wsL_law_in w (inlX4 w h)
theorem inlX5 : ∀ w ∈ wsX50, w ∈ wsL_law := fun _ h => List.mem_append_left _ (List.mem_append_left _ (List.mem_append_left _ (List.mem_append_left _ (List.mem_append_left _ (List.mem_append_left _ (List.mem_append_left _ (List.mem_append_left _ (List.mem_append_left _ (List.mem_append_right _ h)))))))))
theorem inX5 : ∀ w ∈ wsX50, w ∈ lw_tbl := fun w h => wsL_law_in w (inlX5 w h)
theorem inX6 : ∀ w ∈ wsX60, w ∈ lw_tbl := by decide +kernel
theorem inJx145de : ∀ w ∈ wsJx145de0, w ∈ lw_tbl := by decide +kernel
theorem inJ6 : ∀ w ∈ wsJ60, w ∈ lw_tbl := by decide +kernel
theorem inJ13 : ∀ w ∈ wsJ130, w ∈ lw_tbl := by decide +kernel
theorem inJ9 : ∀ w ∈ wsJ90, w ∈ lw_tbl := by decide +kernel
theorem inJ0 : ∀ w ∈ wsJ00, w ∈ lw_tbl := by decide +kernel
theorem inJ7 : ∀ w ∈ wsJ70, w ∈ lw_tbl := by decide +kernel
theorem dX0_init_0 : decode cX0_init 0 = .ok (.aload_n 0, 1) := by decide +kernel
theorem dX0_init_1 : decode cX0_init 1 = .ok (.invokespecial 3, 3) := by decide +kernel
theorem dX0_init_4 : decode cX0_init 4 = .ok (.aload_n 0, 1) := by decide +kernel
theorem dX0_init_5 : decode cX0_init 5 = .ok (.bipush 8, 2) := by decide +kernel
theorem dX0_init_7 : decode cX0_init 7 = .ok (.newarray .int, 2) := by decide +kernel
theorem dX0_init_9 : decode cX0_init 9 = .ok (.putfield 9, 3) := by decide +kernel
theorem dX0_init_12 : decode cX0_init 12 = .ok (.aload_n 0, 1) := by decide +kernel
theorem dX0_init_13 : decode cX0_init 13 = .ok (.bipush 80, 2) := by decide +kernel
theorem dX0_init_15 : decode cX0_init 15 = .ok (.newarray .int, 2) := by decide +kernel
theorem dX0_init_17 : decode cX0_init 17 = .ok (.putfield 15, 3) := by decide +kernel
theorem dX0_init_20 : decode cX0_init 20 = .ok (.return_, 1) := by decide +kernel
set_option maxRecDepth 20000 in
theorem ggX0_distance_X0_hoursLacking : GoodIn wsX0_distance wsX0_hoursLacking := goodIn_r _ [8, 9, 10, 11, 12, 13, 14, 15, 16, 17, 18, 19, 28, 29, 30, 20, 21, 22, 23, 24, 25, 26, 27] (by decide +kernel) (by decide +kernel)
set_option maxRecDepth 20000 in
theorem gX0_distance_X0_hoursLacking : GoodIn wsX0_distance (wsV RX0 26 RX0 yX0_hoursLacking wsX0_hoursLacking) := goodIn_app (goodIn_of _ (by decide +kernel)) ggX0_distance_X0_hoursLacking
theorem dX0_distance_0 : decode cX0_distance 0 = .ok (.aload_n 3, 1) := by decide +kernel
theorem dX0_distance_1 : decode cX0_distance 1 = .ok (.getfield 18, 3) := by decide +kernel
theorem dX0_distance_4 : decode cX0_distance 4 = .ok (.iload_n 1, 1) := by decide +kernel
theorem dX0_distance_5 : decode cX0_distance 5 = .ok (.iaload, 1) := by decide +kernel
theorem dX0_distance_6 : decode cX0_distance 6 = .ok (.aload_n 0, 1) := by decide +kernel
theorem dX0_distance_7 : decode cX0_distance 7 = .ok (.getfield 9, 3) := by decide +kernel
theorem dX0_distance_10 : decode cX0_distance 10 = .ok (.iload_n 2, 1) := by decide +kernel
theorem dX0_distance_11 : decode cX0_distance 11 = .ok (.iaload, 1) := by decide +kernel
theorem dX0_distance_12 : decode cX0_distance 12 = .ok (.if_icmp .ge 5, 3) := by decide +kernel
theorem dX0_distance_15 : decode cX0_distance 15 = .ok (.iconst (-1), 1) := by decide +kernel
theorem dX0_distance_16 : decode cX0_distance 16 = .ok (.ireturn, 1) := by decide +kernel
theorem dX0_distance_17 : decode cX0_distance 17 = .ok (.aload_n 3, 1) := by decide +kernel
theorem dX0_distance_18 : decode cX0_distance 18 = .ok (.getfield 23, 3) := by decide +kernel
theorem dX0_distance_21 : decode cX0_distance 21 = .ok (.iload_n 1, 1) := by decide +kernel
theorem dX0_distance_22 : decode cX0_distance 22 = .ok (.iaload, 1) := by decide +kernel
theorem dX0_distance_23 : decode cX0_distance 23 = .ok (.iconst 1, 1) := by decide +kernel
theorem dX0_distance_24 : decode cX0_distance 24 = .ok (.iload_n 2, 1) := by decide +kernel
theorem dX0_distance_25 : decode cX0_distance 25 = .ok (.ishl, 1) := by decide +kernel
theorem dX0_distance_26 : decode cX0_distance 26 = .ok (.iand, 1) := by decide +kernel
theorem dX0_distance_27 : decode cX0_distance 27 = .ok (.ifCond .eq 6, 3) := by decide +kernel
theorem dX0_distance_30 : decode cX0_distance 30 = .ok (.bipush (-2), 2) := by decide +kernel
theorem dX0_distance_32 : decode cX0_distance 32 = .ok (.ireturn, 1) := by decide +kernel
theorem dX0_distance_33 : decode cX0_distance 33 = .ok (.aload_n 0, 1) := by decide +kernel
theorem dX0_distance_34 : decode cX0_distance 34 = .ok (.iload_n 1, 1) := by decide +kernel
theorem dX0_distance_35 : decode cX0_distance 35 = .ok (.iload_n 2, 1) := by decide +kernel
theorem dX0_distance_36 : decode cX0_distance 36 = .ok (.aload_n 3, 1) := by decide +kernel
theorem dX0_distance_37 : decode cX0_distance 37 = .ok (.invokevirtual 26, 3) := by decide +kernel
theorem dX0_distance_40 : decode cX0_distance 40 = .ok (.ireturn, 1) := by decide +kernel
set_option maxRecDepth 20000 in
theorem ggX0_hoursLacking_X3_hoursIn : GoodIn wsX0_hoursLacking wsX3_hoursIn := goodIn_r _ [10, 11, 15, 16, 17, 18, 19, 20, 21, 22] (by decide +kernel) (by decide +kernel)
set_option maxRecDepth 20000 in
theorem gX0_hoursLacking_X3_hoursIn : GoodIn wsX0_hoursLacking (wsV RX0 30 RX3 yX3_hoursIn wsX3_hoursIn) := goodIn_app (goodIn_of _ (by decide +kernel)) ggX0_hoursLacking_X3_hoursIn
theorem dX0_hoursLacking_0 : decode cX0_hoursLacking 0 = .ok (.iconst 0, 1) := by decide +kernel
theorem dX0_hoursLacking_1 : decode cX0_hoursLacking 1 = .ok (.istore 4, 2) := by decide +kernel
theorem dX0_hoursLacking_3 : decode cX0_hoursLacking 3 = .ok (.iconst 0, 1) := by decide +kernel
theorem dX0_hoursLacking_4 : decode cX0_hoursLacking 4 = .ok (.istore 5, 2) := by decide +kernel
theorem dX0_hoursLacking_6 : decode cX0_hoursLacking 6 = .ok (.iload 5, 2) := by decide +kernel
theorem dX0_hoursLacking_8 : decode cX0_hoursLacking 8 = .ok (.bipush 10, 2) := by decide +kernel
theorem dX0_hoursLacking_10 : decode cX0_hoursLacking 10 = .ok (.if_icmp .ge 42, 3) := by decide +kernel
theorem dX0_hoursLacking_13 : decode cX0_hoursLacking 13 = .ok (.aload_n 0, 1) := by decide +kernel
theorem dX0_hoursLacking_14 : decode cX0_hoursLacking 14 = .ok (.getfield 15, 3) := by decide +kernel
theorem dX0_hoursLacking_17 : decode cX0_hoursLacking 17 = .ok (.iload_n 2, 1) := by decide +kernel
theorem dX0_hoursLacking_18 : decode cX0_hoursLacking 18 = .ok (.bipush 10, 2) := by decide +kernel
theorem dX0_hoursLacking_20 : decode cX0_hoursLacking 20 = .ok (.imul, 1) := by decide +kernel
theorem dX0_hoursLacking_21 : decode cX0_hoursLacking 21 = .ok (.iload 5, 2) := by decide +kernel
theorem dX0_hoursLacking_23 : decode cX0_hoursLacking 23 = .ok (.iadd, 1) := by decide +kernel
theorem dX0_hoursLacking_24 : decode cX0_hoursLacking 24 = .ok (.iaload, 1) := by decide +kernel
theorem dX0_hoursLacking_25 : decode cX0_hoursLacking 25 = .ok (.istore 6, 2) := by decide +kernel
theorem dX0_hoursLacking_27 : decode cX0_hoursLacking 27 = .ok (.iload 4, 2) := by decide +kernel
theorem dX0_hoursLacking_29 : decode cX0_hoursLacking 29 = .ok (.iconst 0, 1) := by decide +kernel
theorem dX0_hoursLacking_30 : decode cX0_hoursLacking 30 = .ok (.iload 6, 2) := by decide +kernel
theorem dX0_hoursLacking_32 : decode cX0_hoursLacking 32 = .ok (.aload_n 3, 1) := by decide +kernel
theorem dX0_hoursLacking_33 : decode cX0_hoursLacking 33 = .ok (.iload_n 1, 1) := by decide +kernel
theorem dX0_hoursLacking_34 : decode cX0_hoursLacking 34 = .ok (.iload 5, 2) := by decide +kernel
theorem dX0_hoursLacking_36 : decode cX0_hoursLacking 36 = .ok (.invokevirtual 30, 3) := by decide +kernel
theorem dX0_hoursLacking_39 : decode cX0_hoursLacking 39 = .ok (.isub, 1) := by decide +kernel
theorem dX0_hoursLacking_40 : decode cX0_hoursLacking 40 = .ok (.invokestatic 34, 3) := by decide +kernel
theorem dX0_hoursLacking_43 : decode cX0_hoursLacking 43 = .ok (.iadd, 1) := by decide +kernel
theorem dX0_hoursLacking_44 : decode cX0_hoursLacking 44 = .ok (.istore 4, 2) := by decide +kernel
theorem dX0_hoursLacking_46 : decode cX0_hoursLacking 46 = .ok (.iinc 5 1, 3) := by decide +kernel
theorem dX0_hoursLacking_49 : decode cX0_hoursLacking 49 = .ok (.goto (-43), 3) := by decide +kernel
theorem dX0_hoursLacking_52 : decode cX0_hoursLacking 52 = .ok (.iload 4, 2) := by decide +kernel
theorem dX0_hoursLacking_54 : decode cX0_hoursLacking 54 = .ok (.ireturn, 1) := by decide +kernel
set_option maxRecDepth 20000 in
theorem ggX1_init_J7_fill_53178 : GoodIn wsX1_init wsJ7_fill_53178 := goodIn_r _ [10] (by decide +kernel) (by decide +kernel)
set_option maxRecDepth 20000 in
theorem gX1_init_J7_fill_53178 : GoodIn wsX1_init (va_wsS RX1 18 yJ7_fill_53178 wsJ7_fill_53178) := goodIn_app (goodIn_of _ (by decide +kernel)) ggX1_init_J7_fill_53178
theorem dX1_init_0 : decode cX1_init 0 = .ok (.aload_n 0, 1) := by decide +kernel
theorem dX1_init_1 : decode cX1_init 1 = .ok (.invokespecial 3, 3) := by decide +kernel
theorem dX1_init_4 : decode cX1_init 4 = .ok (.aload_n 0, 1) := by decide +kernel
theorem dX1_init_5 : decode cX1_init 5 = .ok (.sipush 305, 3) := by decide +kernel
theorem dX1_init_8 : decode cX1_init 8 = .ok (.newarray .int, 2) := by decide +kernel
theorem dX1_init_10 : decode cX1_init 10 = .ok (.putfield 11, 3) := by decide +kernel
theorem dX1_init_13 : decode cX1_init 13 = .ok (.aload_n 0, 1) := by decide +kernel
theorem dX1_init_14 : decode cX1_init 14 = .ok (.bipush 6, 2) := by decide +kernel
theorem dX1_init_16 : decode cX1_init 16 = .ok (.newarray .int, 2) := by decide +kernel
theorem dX1_init_18 : decode cX1_init 18 = .ok (.putfield 15, 3) := by decide +kernel
theorem dX1_init_21 : decode cX1_init 21 = .ok (.aload_n 0, 1) := by decide +kernel
theorem dX1_init_22 : decode cX1_init 22 = .ok (.getfield 11, 3) := by decide +kernel
theorem dX1_init_25 : decode cX1_init 25 = .ok (.iconst (-1), 1) := by decide +kernel
theorem dX1_init_26 : decode cX1_init 26 = .ok (.invokestatic 18, 3) := by decide +kernel
theorem dX1_init_29 : decode cX1_init 29 = .ok (.return_, 1) := by decide +kernel
theorem dX1_holderOn_0 : decode cX1_holderOn 0 = .ok (.iload_n 1, 1) := by decide +kernel
theorem dX1_holderOn_1 : decode cX1_holderOn 1 = .ok (.ifCond .lt 22, 3) := by decide +kernel
theorem dX1_holderOn_4 : decode cX1_holderOn 4 = .ok (.iload_n 1, 1) := by decide +kernel
theorem dX1_holderOn_5 : decode cX1_holderOn 5 = .ok (.bipush 60, 2) := by decide +kernel
theorem dX1_holderOn_7 : decode cX1_holderOn 7 = .ok (.if_icmp .gt 16, 3) := by decide +kernel
theorem dX1_holderOn_10 : decode cX1_holderOn 10 = .ok (.aload_n 0, 1) := by decide +kernel
theorem dX1_holderOn_11 : decode cX1_holderOn 11 = .ok (.getfield 11, 3) := by decide +kernel
theorem dX1_holderOn_14 : decode cX1_holderOn 14 = .ok (.iload_n 1, 1) := by decide +kernel
theorem dX1_holderOn_15 : decode cX1_holderOn 15 = .ok (.iconst 5, 1) := by decide +kernel
theorem dX1_holderOn_16 : decode cX1_holderOn 16 = .ok (.imul, 1) := by decide +kernel
theorem dX1_holderOn_17 : decode cX1_holderOn 17 = .ok (.iload_n 2, 1) := by decide +kernel
theorem dX1_holderOn_18 : decode cX1_holderOn 18 = .ok (.iadd, 1) := by decide +kernel
theorem dX1_holderOn_19 : decode cX1_holderOn 19 = .ok (.iaload, 1) := by decide +kernel
theorem dX1_holderOn_20 : decode cX1_holderOn 20 = .ok (.goto 4, 3) := by decide +kernel
theorem dX1_holderOn_23 : decode cX1_holderOn 23 = .ok (.iconst (-1), 1) := by decide +kernel
theorem dX1_holderOn_24 : decode cX1_holderOn 24 = .ok (.ireturn, 1) := by decide +kernel
set_option maxRecDepth 20000 in
theorem ggX1_canBeGiven_X1_hasFitScout : GoodIn wsX1_canBeGiven wsX1_hasFitScout := goodIn_r _ [5, 6, 7, 8, 9, 10, 11, 12, 13, 14, 15, 16, 17, 27, 28, 29, 30, 31, 32, 33, 34] (by decide +kernel) (by decide +kernel)
set_option maxRecDepth 20000 in
theorem gX1_canBeGiven_X1_hasFitScout : GoodIn wsX1_canBeGiven (wsV RX1 24 RX1 yX1_hasFitScout wsX1_hasFitScout) := goodIn_app (goodIn_of _ (by decide +kernel)) ggX1_canBeGiven_X1_hasFitScout
set_option maxRecDepth 20000 in
theorem ggX1_canBeGiven_X1_doesOther : GoodIn wsX1_canBeGiven wsX1_doesOther := goodIn_r _ [21, 22, 23, 24, 4, 25, 26, 35, 36] (by decide +kernel) (by decide +kernel)
set_option maxRecDepth 20000 in
theorem gX1_canBeGiven_X1_doesOther : GoodIn wsX1_canBeGiven (wsV RX1 28 RX1 yX1_doesOther wsX1_doesOther) := goodIn_app (goodIn_of _ (by decide +kernel)) ggX1_canBeGiven_X1_doesOther
set_option maxRecDepth 20000 in
theorem ggX1_canBeGiven_X1_holderOn : GoodIn wsX1_canBeGiven wsX1_holderOn := goodIn_r _ [25, 26, 35, 36] (by decide +kernel) (by decide +kernel)
set_option maxRecDepth 20000 in
theorem gX1_canBeGiven_X1_holderOn : GoodIn wsX1_canBeGiven (wsV RX1 32 RX1 yX1_holderOn wsX1_holderOn) := goodIn_app (goodIn_of _ (by decide +kernel)) ggX1_canBeGiven_X1_holderOn
theorem dX1_canBeGiven_0 : decode cX1_canBeGiven 0 = .ok (.aload_n 0, 1) := by decide +kernel
theorem dX1_canBeGiven_1 : decode cX1_canBeGiven 1 = .ok (.iload_n 2, 1) := by decide +kernel
theorem dX1_canBeGiven_2 : decode cX1_canBeGiven 2 = .ok (.iload_n 3, 1) := by decide +kernel
theorem dX1_canBeGiven_3 : decode cX1_canBeGiven 3 = .ok (.aload 4, 2) := by decide +kernel
theorem dX1_canBeGiven_5 : decode cX1_canBeGiven 5 = .ok (.invokevirtual 24, 3) := by decide +kernel
theorem dX1_canBeGiven_8 : decode cX1_canBeGiven 8 = .ok (.ifCond .eq 41, 3) := by decide +kernel
theorem dX1_canBeGiven_11 : decode cX1_canBeGiven 11 = .ok (.aload_n 0, 1) := by decide +kernel
theorem dX1_canBeGiven_12 : decode cX1_canBeGiven 12 = .ok (.iload_n 1, 1) := by decide +kernel
theorem dX1_canBeGiven_13 : decode cX1_canBeGiven 13 = .ok (.iload_n 2, 1) := by decide +kernel
theorem dX1_canBeGiven_14 : decode cX1_canBeGiven 14 = .ok (.iload_n 3, 1) := by decide +kernel
theorem dX1_canBeGiven_15 : decode cX1_canBeGiven 15 = .ok (.invokevirtual 28, 3) := by decide +kernel
theorem dX1_canBeGiven_18 : decode cX1_canBeGiven 18 = .ok (.ifCond .ne 31, 3) := by decide +kernel
theorem dX1_canBeGiven_21 : decode cX1_canBeGiven 21 = .ok (.aload_n 0, 1) := by decide +kernel
theorem dX1_canBeGiven_22 : decode cX1_canBeGiven 22 = .ok (.iload_n 1, 1) := by decide +kernel
theorem dX1_canBeGiven_23 : decode cX1_canBeGiven 23 = .ok (.iconst 1, 1) := by decide +kernel
theorem dX1_canBeGiven_24 : decode cX1_canBeGiven 24 = .ok (.isub, 1) := by decide +kernel
theorem dX1_canBeGiven_25 : decode cX1_canBeGiven 25 = .ok (.iload_n 2, 1) := by decide +kernel
theorem dX1_canBeGiven_26 : decode cX1_canBeGiven 26 = .ok (.invokevirtual 32, 3) := by decide +kernel
theorem dX1_canBeGiven_29 : decode cX1_canBeGiven 29 = .ok (.iload_n 3, 1) := by decide +kernel
theorem dX1_canBeGiven_30 : decode cX1_canBeGiven 30 = .ok (.if_icmp .eq 19, 3) := by decide +kernel
theorem dX1_canBeGiven_33 : decode cX1_canBeGiven 33 = .ok (.aload_n 0, 1) := by decide +kernel
theorem dX1_canBeGiven_34 : decode cX1_canBeGiven 34 = .ok (.iload_n 1, 1) := by decide +kernel
theorem dX1_canBeGiven_35 : decode cX1_canBeGiven 35 = .ok (.iconst 1, 1) := by decide +kernel
theorem dX1_canBeGiven_36 : decode cX1_canBeGiven 36 = .ok (.iadd, 1) := by decide +kernel
theorem dX1_canBeGiven_37 : decode cX1_canBeGiven 37 = .ok (.iload_n 2, 1) := by decide +kernel
theorem dX1_canBeGiven_38 : decode cX1_canBeGiven 38 = .ok (.invokevirtual 32, 3) := by decide +kernel
theorem dX1_canBeGiven_41 : decode cX1_canBeGiven 41 = .ok (.iload_n 3, 1) := by decide +kernel
theorem dX1_canBeGiven_42 : decode cX1_canBeGiven 42 = .ok (.if_icmp .eq 7, 3) := by decide +kernel
theorem dX1_canBeGiven_45 : decode cX1_canBeGiven 45 = .ok (.iconst 1, 1) := by decide +kernel
theorem dX1_canBeGiven_46 : decode cX1_canBeGiven 46 = .ok (.goto 4, 3) := by decide +kernel
theorem dX1_canBeGiven_49 : decode cX1_canBeGiven 49 = .ok (.iconst 0, 1) := by decide +kernel
theorem dX1_canBeGiven_50 : decode cX1_canBeGiven 50 = .ok (.ireturn, 1) := by decide +kernel
set_option maxRecDepth 20000 in
theorem ggX1_hasFitScout_X3_membersOf : GoodIn wsX1_hasFitScout wsX3_membersOf := goodIn_r _ [5, 6, 7, 13, 14, 15, 16, 17, 18, 19, 20] (by decide +kernel) (by decide +kernel)
set_option maxRecDepth 20000 in
theorem gX1_hasFitScout_X3_membersOf : GoodIn wsX1_hasFitScout (wsV RX1 36 RX3 yX3_membersOf wsX3_membersOf) := goodIn_app (goodIn_of _ (by decide +kernel)) ggX1_hasFitScout_X3_membersOf
set_option maxRecDepth 20000 in
theorem ggX1_hasFitScout_X3_agedAtLeast : GoodIn wsX1_hasFitScout wsX3_agedAtLeast := goodIn_r _ [11, 6, 12, 13, 14, 15, 16, 17, 18, 19, 20] (by decide +kernel) (by decide +kernel)
set_option maxRecDepth 20000 in
theorem gX1_hasFitScout_X3_agedAtLeast : GoodIn wsX1_hasFitScout (wsV RX1 42 RX3 yX3_agedAtLeast wsX3_agedAtLeast) := goodIn_app (goodIn_of _ (by decide +kernel)) ggX1_hasFitScout_X3_agedAtLeast
theorem dX1_hasFitScout_0 : decode cX1_hasFitScout 0 = .ok (.iload_n 1, 1) := by decide +kernel
theorem dX1_hasFitScout_1 : decode cX1_hasFitScout 1 = .ok (.iconst 4, 1) := by decide +kernel
theorem dX1_hasFitScout_2 : decode cX1_hasFitScout 2 = .ok (.if_icmp .ne 8, 3) := by decide +kernel
theorem dX1_hasFitScout_5 : decode cX1_hasFitScout 5 = .ok (.bipush 12, 2) := by decide +kernel
theorem dX1_hasFitScout_7 : decode cX1_hasFitScout 7 = .ok (.goto 5, 3) := by decide +kernel
theorem dX1_hasFitScout_10 : decode cX1_hasFitScout 10 = .ok (.bipush 6, 2) := by decide +kernel
theorem dX1_hasFitScout_12 : decode cX1_hasFitScout 12 = .ok (.istore 4, 2) := by decide +kernel
theorem dX1_hasFitScout_14 : decode cX1_hasFitScout 14 = .ok (.aload_n 3, 1) := by decide +kernel
theorem dX1_hasFitScout_15 : decode cX1_hasFitScout 15 = .ok (.iload_n 2, 1) := by decide +kernel
theorem dX1_hasFitScout_16 : decode cX1_hasFitScout 16 = .ok (.invokevirtual 36, 3) := by decide +kernel
theorem dX1_hasFitScout_19 : decode cX1_hasFitScout 19 = .ok (.aload_n 3, 1) := by decide +kernel
theorem dX1_hasFitScout_20 : decode cX1_hasFitScout 20 = .ok (.iload 4, 2) := by decide +kernel
theorem dX1_hasFitScout_22 : decode cX1_hasFitScout 22 = .ok (.invokevirtual 42, 3) := by decide +kernel
theorem dX1_hasFitScout_25 : decode cX1_hasFitScout 25 = .ok (.land, 1) := by decide +kernel
theorem dX1_hasFitScout_26 : decode cX1_hasFitScout 26 = .ok (.lconst 0, 1) := by decide +kernel
theorem dX1_hasFitScout_27 : decode cX1_hasFitScout 27 = .ok (.lcmp, 1) := by decide +kernel
theorem dX1_hasFitScout_28 : decode cX1_hasFitScout 28 = .ok (.ifCond .eq 7, 3) := by decide +kernel
theorem dX1_hasFitScout_31 : decode cX1_hasFitScout 31 = .ok (.iconst 1, 1) := by decide +kernel
theorem dX1_hasFitScout_32 : decode cX1_hasFitScout 32 = .ok (.goto 4, 3) := by decide +kernel
theorem dX1_hasFitScout_35 : decode cX1_hasFitScout 35 = .ok (.iconst 0, 1) := by decide +kernel
theorem dX1_hasFitScout_36 : decode cX1_hasFitScout 36 = .ok (.ireturn, 1) := by decide +kernel
set_option maxRecDepth 20000 in
theorem ggX1_doesOther_X1_holderOn : GoodIn wsX1_doesOther wsX1_holderOn := goodIn_r _ [5, 6, 7, 8] (by decide +kernel) (by decide +kernel)
set_option maxRecDepth 20000 in
theorem gX1_doesOther_X1_holderOn : GoodIn wsX1_doesOther (wsV RX1 32 RX1 yX1_holderOn wsX1_holderOn) := goodIn_app (goodIn_of _ (by decide +kernel)) ggX1_doesOther_X1_holderOn
theorem dX1_doesOther_0 : decode cX1_doesOther 0 = .ok (.iconst 0, 1) := by decide +kernel
theorem dX1_doesOther_1 : decode cX1_doesOther 1 = .ok (.istore 4, 2) := by decide +kernel
theorem dX1_doesOther_3 : decode cX1_doesOther 3 = .ok (.iload 4, 2) := by decide +kernel
theorem dX1_doesOther_5 : decode cX1_doesOther 5 = .ok (.iconst 5, 1) := by decide +kernel
theorem dX1_doesOther_6 : decode cX1_doesOther 6 = .ok (.if_icmp .ge 28, 3) := by decide +kernel
theorem dX1_doesOther_9 : decode cX1_doesOther 9 = .ok (.iload 4, 2) := by decide +kernel
theorem dX1_doesOther_11 : decode cX1_doesOther 11 = .ok (.iload_n 2, 1) := by decide +kernel
theorem dX1_doesOther_12 : decode cX1_doesOther 12 = .ok (.if_icmp .eq 16, 3) := by decide +kernel
theorem dX1_doesOther_15 : decode cX1_doesOther 15 = .ok (.aload_n 0, 1) := by decide +kernel
theorem dX1_doesOther_16 : decode cX1_doesOther 16 = .ok (.iload_n 1, 1) := by decide +kernel
theorem dX1_doesOther_17 : decode cX1_doesOther 17 = .ok (.iload 4, 2) := by decide +kernel
theorem dX1_doesOther_19 : decode cX1_doesOther 19 = .ok (.invokevirtual 32, 3) := by decide +kernel
theorem dX1_doesOther_22 : decode cX1_doesOther 22 = .ok (.iload_n 3, 1) := by decide +kernel
theorem dX1_doesOther_23 : decode cX1_doesOther 23 = .ok (.if_icmp .ne 5, 3) := by decide +kernel
theorem dX1_doesOther_26 : decode cX1_doesOther 26 = .ok (.iconst 1, 1) := by decide +kernel
theorem dX1_doesOther_27 : decode cX1_doesOther 27 = .ok (.ireturn, 1) := by decide +kernel
theorem dX1_doesOther_28 : decode cX1_doesOther 28 = .ok (.iinc 4 1, 3) := by decide +kernel
theorem dX1_doesOther_31 : decode cX1_doesOther 31 = .ok (.goto (-28), 3) := by decide +kernel
theorem dX1_doesOther_34 : decode cX1_doesOther 34 = .ok (.iconst 0, 1) := by decide +kernel
theorem dX1_doesOther_35 : decode cX1_doesOther 35 = .ok (.ireturn, 1) := by decide +kernel
set_option maxRecDepth 20000 in
theorem ggX1_assign_X1_holderOn : GoodIn wsX1_assign wsX1_holderOn := goodIn_r _ [8, 3, 9, 10] (by decide +kernel) (by decide +kernel)
set_option maxRecDepth 20000 in
theorem gX1_assign_X1_holderOn : GoodIn wsX1_assign (wsV RX1 32 RX1 yX1_holderOn wsX1_holderOn) := goodIn_app (goodIn_of _ (by decide +kernel)) ggX1_assign_X1_holderOn
theorem dX1_assign_0 : decode cX1_assign 0 = .ok (.aload_n 0, 1) := by decide +kernel
theorem dX1_assign_1 : decode cX1_assign 1 = .ok (.iload_n 1, 1) := by decide +kernel
theorem dX1_assign_2 : decode cX1_assign 2 = .ok (.iload_n 2, 1) := by decide +kernel
theorem dX1_assign_3 : decode cX1_assign 3 = .ok (.invokevirtual 32, 3) := by decide +kernel
theorem dX1_assign_6 : decode cX1_assign 6 = .ok (.istore 4, 2) := by decide +kernel
theorem dX1_assign_8 : decode cX1_assign 8 = .ok (.iload 4, 2) := by decide +kernel
theorem dX1_assign_10 : decode cX1_assign 10 = .ok (.iconst (-1), 1) := by decide +kernel
theorem dX1_assign_11 : decode cX1_assign 11 = .ok (.if_icmp .eq 18, 3) := by decide +kernel
theorem dX1_assign_14 : decode cX1_assign 14 = .ok (.aload_n 0, 1) := by decide +kernel
theorem dX1_assign_15 : decode cX1_assign 15 = .ok (.getfield 15, 3) := by decide +kernel
theorem dX1_assign_18 : decode cX1_assign 18 = .ok (.iload 4, 2) := by decide +kernel
theorem dX1_assign_20 : decode cX1_assign 20 = .ok (.dup2, 1) := by decide +kernel
theorem dX1_assign_21 : decode cX1_assign 21 = .ok (.iaload, 1) := by decide +kernel
theorem dX1_assign_22 : decode cX1_assign 22 = .ok (.getstatic 45, 3) := by decide +kernel
theorem dX1_assign_25 : decode cX1_assign 25 = .ok (.iload_n 2, 1) := by decide +kernel
theorem dX1_assign_26 : decode cX1_assign 26 = .ok (.iaload, 1) := by decide +kernel
theorem dX1_assign_27 : decode cX1_assign 27 = .ok (.isub, 1) := by decide +kernel
theorem dX1_assign_28 : decode cX1_assign 28 = .ok (.iastore, 1) := by decide +kernel
theorem dX1_assign_29 : decode cX1_assign 29 = .ok (.iload_n 3, 1) := by decide +kernel
theorem dX1_assign_30 : decode cX1_assign 30 = .ok (.iconst (-1), 1) := by decide +kernel
theorem dX1_assign_31 : decode cX1_assign 31 = .ok (.if_icmp .eq 17, 3) := by decide +kernel
theorem dX1_assign_34 : decode cX1_assign 34 = .ok (.aload_n 0, 1) := by decide +kernel
theorem dX1_assign_35 : decode cX1_assign 35 = .ok (.getfield 15, 3) := by decide +kernel
theorem dX1_assign_38 : decode cX1_assign 38 = .ok (.iload_n 3, 1) := by decide +kernel
theorem dX1_assign_39 : decode cX1_assign 39 = .ok (.dup2, 1) := by decide +kernel
theorem dX1_assign_40 : decode cX1_assign 40 = .ok (.iaload, 1) := by decide +kernel
theorem dX1_assign_41 : decode cX1_assign 41 = .ok (.getstatic 45, 3) := by decide +kernel
theorem dX1_assign_44 : decode cX1_assign 44 = .ok (.iload_n 2, 1) := by decide +kernel
theorem dX1_assign_45 : decode cX1_assign 45 = .ok (.iaload, 1) := by decide +kernel
theorem dX1_assign_46 : decode cX1_assign 46 = .ok (.iadd, 1) := by decide +kernel
theorem dX1_assign_47 : decode cX1_assign 47 = .ok (.iastore, 1) := by decide +kernel
theorem dX1_assign_48 : decode cX1_assign 48 = .ok (.aload_n 0, 1) := by decide +kernel
theorem dX1_assign_49 : decode cX1_assign 49 = .ok (.getfield 11, 3) := by decide +kernel
theorem dX1_assign_52 : decode cX1_assign 52 = .ok (.iload_n 1, 1) := by decide +kernel
theorem dX1_assign_53 : decode cX1_assign 53 = .ok (.iconst 5, 1) := by decide +kernel
theorem dX1_assign_54 : decode cX1_assign 54 = .ok (.imul, 1) := by decide +kernel
theorem dX1_assign_55 : decode cX1_assign 55 = .ok (.iload_n 2, 1) := by decide +kernel
theorem dX1_assign_56 : decode cX1_assign 56 = .ok (.iadd, 1) := by decide +kernel
theorem dX1_assign_57 : decode cX1_assign 57 = .ok (.iload_n 3, 1) := by decide +kernel
theorem dX1_assign_58 : decode cX1_assign 58 = .ok (.iastore, 1) := by decide +kernel
theorem dX1_assign_59 : decode cX1_assign 59 = .ok (.return_, 1) := by decide +kernel
set_option maxRecDepth 20000 in
theorem ggX1_bestFor_X1_canBeGiven : GoodIn wsX1_bestFor wsX1_canBeGiven := goodIn_r _ [7, 8, 9, 10, 6, 11, 12, 13, 14, 15, 16, 17, 18, 19, 20, 21, 22, 23, 24, 25, 26, 27, 28, 29, 30, 31, 32, 33, 34, 35, 36, 37, 38, 39, 40, 41, 42] (by decide +kernel) (by decide +kernel)
set_option maxRecDepth 20000 in
theorem gX1_bestFor_X1_canBeGiven : GoodIn wsX1_bestFor (wsV RX1 52 RX1 yX1_canBeGiven wsX1_canBeGiven) := goodIn_app (goodIn_of _ (by decide +kernel)) ggX1_bestFor_X1_canBeGiven
theorem dX1_bestFor_0 : decode cX1_bestFor 0 = .ok (.iconst (-1), 1) := by decide +kernel
theorem dX1_bestFor_1 : decode cX1_bestFor 1 = .ok (.istore 4, 2) := by decide +kernel
theorem dX1_bestFor_3 : decode cX1_bestFor 3 = .ok (.iconst 0, 1) := by decide +kernel
theorem dX1_bestFor_4 : decode cX1_bestFor 4 = .ok (.istore 5, 2) := by decide +kernel
theorem dX1_bestFor_6 : decode cX1_bestFor 6 = .ok (.iload 5, 2) := by decide +kernel
theorem dX1_bestFor_8 : decode cX1_bestFor 8 = .ok (.aload_n 3, 1) := by decide +kernel
theorem dX1_bestFor_9 : decode cX1_bestFor 9 = .ok (.getfield 48, 3) := by decide +kernel
theorem dX1_bestFor_12 : decode cX1_bestFor 12 = .ok (.if_icmp .ge 60, 3) := by decide +kernel
theorem dX1_bestFor_15 : decode cX1_bestFor 15 = .ok (.iload 4, 2) := by decide +kernel
theorem dX1_bestFor_17 : decode cX1_bestFor 17 = .ok (.iconst (-1), 1) := by decide +kernel
theorem dX1_bestFor_18 : decode cX1_bestFor 18 = .ok (.if_icmp .eq 20, 3) := by decide +kernel
theorem dX1_bestFor_21 : decode cX1_bestFor 21 = .ok (.aload_n 0, 1) := by decide +kernel
theorem dX1_bestFor_22 : decode cX1_bestFor 22 = .ok (.getfield 15, 3) := by decide +kernel
theorem dX1_bestFor_25 : decode cX1_bestFor 25 = .ok (.iload 5, 2) := by decide +kernel
theorem dX1_bestFor_27 : decode cX1_bestFor 27 = .ok (.iaload, 1) := by decide +kernel
theorem dX1_bestFor_28 : decode cX1_bestFor 28 = .ok (.aload_n 0, 1) := by decide +kernel
theorem dX1_bestFor_29 : decode cX1_bestFor 29 = .ok (.getfield 15, 3) := by decide +kernel
theorem dX1_bestFor_32 : decode cX1_bestFor 32 = .ok (.iload 4, 2) := by decide +kernel
theorem dX1_bestFor_34 : decode cX1_bestFor 34 = .ok (.iaload, 1) := by decide +kernel
theorem dX1_bestFor_35 : decode cX1_bestFor 35 = .ok (.if_icmp .ge 7, 3) := by decide +kernel
theorem dX1_bestFor_38 : decode cX1_bestFor 38 = .ok (.iconst 1, 1) := by decide +kernel
theorem dX1_bestFor_39 : decode cX1_bestFor 39 = .ok (.goto 4, 3) := by decide +kernel
theorem dX1_bestFor_42 : decode cX1_bestFor 42 = .ok (.iconst 0, 1) := by decide +kernel
theorem dX1_bestFor_43 : decode cX1_bestFor 43 = .ok (.istore 6, 2) := by decide +kernel
theorem dX1_bestFor_45 : decode cX1_bestFor 45 = .ok (.iload 6, 2) := by decide +kernel
theorem dX1_bestFor_47 : decode cX1_bestFor 47 = .ok (.ifCond .eq 19, 3) := by decide +kernel
theorem dX1_bestFor_50 : decode cX1_bestFor 50 = .ok (.aload_n 0, 1) := by decide +kernel
theorem dX1_bestFor_51 : decode cX1_bestFor 51 = .ok (.iload_n 1, 1) := by decide +kernel
theorem dX1_bestFor_52 : decode cX1_bestFor 52 = .ok (.iload_n 2, 1) := by decide +kernel
theorem dX1_bestFor_53 : decode cX1_bestFor 53 = .ok (.iload 5, 2) := by decide +kernel
theorem dX1_bestFor_55 : decode cX1_bestFor 55 = .ok (.aload_n 3, 1) := by decide +kernel
theorem dX1_bestFor_56 : decode cX1_bestFor 56 = .ok (.invokevirtual 52, 3) := by decide +kernel
theorem dX1_bestFor_59 : decode cX1_bestFor 59 = .ok (.ifCond .eq 7, 3) := by decide +kernel
theorem dX1_bestFor_62 : decode cX1_bestFor 62 = .ok (.iload 5, 2) := by decide +kernel
theorem dX1_bestFor_64 : decode cX1_bestFor 64 = .ok (.istore 4, 2) := by decide +kernel
theorem dX1_bestFor_66 : decode cX1_bestFor 66 = .ok (.iinc 5 1, 3) := by decide +kernel
theorem dX1_bestFor_69 : decode cX1_bestFor 69 = .ok (.goto (-63), 3) := by decide +kernel
theorem dX1_bestFor_72 : decode cX1_bestFor 72 = .ok (.iload 4, 2) := by decide +kernel
theorem dX1_bestFor_74 : decode cX1_bestFor 74 = .ok (.ireturn, 1) := by decide +kernel
set_option maxRecDepth 20000 in
theorem ggX1_openOn_X1_holderOn : GoodIn wsX1_openOn wsX1_holderOn := goodIn_r _ [5, 6, 7, 8] (by decide +kernel) (by decide +kernel)
set_option maxRecDepth 20000 in
theorem gX1_openOn_X1_holderOn : GoodIn wsX1_openOn (wsV RX1 32 RX1 yX1_holderOn wsX1_holderOn) := goodIn_app (goodIn_of _ (by decide +kernel)) ggX1_openOn_X1_holderOn
theorem dX1_openOn_0 : decode cX1_openOn 0 = .ok (.iconst 0, 1) := by decide +kernel
theorem dX1_openOn_1 : decode cX1_openOn 1 = .ok (.istore_n 2, 1) := by decide +kernel
theorem dX1_openOn_2 : decode cX1_openOn 2 = .ok (.iconst 0, 1) := by decide +kernel
theorem dX1_openOn_3 : decode cX1_openOn 3 = .ok (.istore_n 3, 1) := by decide +kernel
theorem dX1_openOn_4 : decode cX1_openOn 4 = .ok (.iload_n 3, 1) := by decide +kernel
theorem dX1_openOn_5 : decode cX1_openOn 5 = .ok (.iconst 5, 1) := by decide +kernel
theorem dX1_openOn_6 : decode cX1_openOn 6 = .ok (.if_icmp .ge 22, 3) := by decide +kernel
theorem dX1_openOn_9 : decode cX1_openOn 9 = .ok (.aload_n 0, 1) := by decide +kernel
theorem dX1_openOn_10 : decode cX1_openOn 10 = .ok (.iload_n 1, 1) := by decide +kernel
theorem dX1_openOn_11 : decode cX1_openOn 11 = .ok (.iload_n 3, 1) := by decide +kernel
theorem dX1_openOn_12 : decode cX1_openOn 12 = .ok (.invokevirtual 32, 3) := by decide +kernel
theorem dX1_openOn_15 : decode cX1_openOn 15 = .ok (.iconst (-1), 1) := by decide +kernel
theorem dX1_openOn_16 : decode cX1_openOn 16 = .ok (.if_icmp .ne 6, 3) := by decide +kernel
theorem dX1_openOn_19 : decode cX1_openOn 19 = .ok (.iinc 2 1, 3) := by decide +kernel
theorem dX1_openOn_22 : decode cX1_openOn 22 = .ok (.iinc 3 1, 3) := by decide +kernel
theorem dX1_openOn_25 : decode cX1_openOn 25 = .ok (.goto (-21), 3) := by decide +kernel
theorem dX1_openOn_28 : decode cX1_openOn 28 = .ok (.iload_n 2, 1) := by decide +kernel
theorem dX1_openOn_29 : decode cX1_openOn 29 = .ok (.ireturn, 1) := by decide +kernel
theorem dX2_init_0 : decode cX2_init 0 = .ok (.aload_n 0, 1) := by decide +kernel
theorem dX2_init_1 : decode cX2_init 1 = .ok (.invokespecial 3, 3) := by decide +kernel
theorem dX2_init_4 : decode cX2_init 4 = .ok (.aload_n 0, 1) := by decide +kernel
theorem dX2_init_5 : decode cX2_init 5 = .ok (.bipush 12, 2) := by decide +kernel
theorem dX2_init_7 : decode cX2_init 7 = .ok (.newarray .int, 2) := by decide +kernel
theorem dX2_init_9 : decode cX2_init 9 = .ok (.putfield 9, 3) := by decide +kernel
theorem dX2_init_12 : decode cX2_init 12 = .ok (.aload_n 0, 1) := by decide +kernel
theorem dX2_init_13 : decode cX2_init 13 = .ok (.bipush 120, 2) := by decide +kernel
theorem dX2_init_15 : decode cX2_init 15 = .ok (.newarray .int, 2) := by decide +kernel
theorem dX2_init_17 : decode cX2_init 17 = .ok (.putfield 15, 3) := by decide +kernel
theorem dX2_init_20 : decode cX2_init 20 = .ok (.return_, 1) := by decide +kernel
theorem dX2_needOf_0 : decode cX2_needOf 0 = .ok (.aload_n 0, 1) := by decide +kernel
theorem dX2_needOf_1 : decode cX2_needOf 1 = .ok (.getfield 15, 3) := by decide +kernel
theorem dX2_needOf_4 : decode cX2_needOf 4 = .ok (.iload_n 1, 1) := by decide +kernel
theorem dX2_needOf_5 : decode cX2_needOf 5 = .ok (.bipush 12, 2) := by decide +kernel
theorem dX2_needOf_7 : decode cX2_needOf 7 = .ok (.imul, 1) := by decide +kernel
theorem dX2_needOf_8 : decode cX2_needOf 8 = .ok (.iload_n 2, 1) := by decide +kernel
theorem dX2_needOf_9 : decode cX2_needOf 9 = .ok (.iadd, 1) := by decide +kernel
theorem dX2_needOf_10 : decode cX2_needOf 10 = .ok (.iaload, 1) := by decide +kernel
theorem dX2_needOf_11 : decode cX2_needOf 11 = .ok (.ireturn, 1) := by decide +kernel
set_option maxRecDepth 20000 in
theorem ggX2_foodsOf_X2_needOf : GoodIn wsX2_foodsOf wsX2_needOf := goodIn_r _ [6, 7, 8, 9, 10, 11, 12, 13] (by decide +kernel) (by decide +kernel)
set_option maxRecDepth 20000 in
theorem gX2_foodsOf_X2_needOf : GoodIn wsX2_foodsOf (wsV RX2 22 RX2 yX2_needOf wsX2_needOf) := goodIn_app (goodIn_of _ (by decide +kernel)) ggX2_foodsOf_X2_needOf
theorem dX2_foodsOf_0 : decode cX2_foodsOf 0 = .ok (.iconst 0, 1) := by decide +kernel
theorem dX2_foodsOf_1 : decode cX2_foodsOf 1 = .ok (.istore_n 2, 1) := by decide +kernel
theorem dX2_foodsOf_2 : decode cX2_foodsOf 2 = .ok (.iconst 0, 1) := by decide +kernel
theorem dX2_foodsOf_3 : decode cX2_foodsOf 3 = .ok (.istore_n 3, 1) := by decide +kernel
theorem dX2_foodsOf_4 : decode cX2_foodsOf 4 = .ok (.iload_n 3, 1) := by decide +kernel
theorem dX2_foodsOf_5 : decode cX2_foodsOf 5 = .ok (.aload_n 0, 1) := by decide +kernel
theorem dX2_foodsOf_6 : decode cX2_foodsOf 6 = .ok (.getfield 18, 3) := by decide +kernel
theorem dX2_foodsOf_9 : decode cX2_foodsOf 9 = .ok (.if_icmp .ge 24, 3) := by decide +kernel
theorem dX2_foodsOf_12 : decode cX2_foodsOf 12 = .ok (.aload_n 0, 1) := by decide +kernel
theorem dX2_foodsOf_13 : decode cX2_foodsOf 13 = .ok (.iload_n 1, 1) := by decide +kernel
theorem dX2_foodsOf_14 : decode cX2_foodsOf 14 = .ok (.iload_n 3, 1) := by decide +kernel
theorem dX2_foodsOf_15 : decode cX2_foodsOf 15 = .ok (.invokevirtual 22, 3) := by decide +kernel
theorem dX2_foodsOf_18 : decode cX2_foodsOf 18 = .ok (.ifCond .le 9, 3) := by decide +kernel
theorem dX2_foodsOf_21 : decode cX2_foodsOf 21 = .ok (.iload_n 2, 1) := by decide +kernel
theorem dX2_foodsOf_22 : decode cX2_foodsOf 22 = .ok (.iconst 1, 1) := by decide +kernel
theorem dX2_foodsOf_23 : decode cX2_foodsOf 23 = .ok (.iload_n 3, 1) := by decide +kernel
theorem dX2_foodsOf_24 : decode cX2_foodsOf 24 = .ok (.ishl, 1) := by decide +kernel
theorem dX2_foodsOf_25 : decode cX2_foodsOf 25 = .ok (.ior, 1) := by decide +kernel
theorem dX2_foodsOf_26 : decode cX2_foodsOf 26 = .ok (.istore_n 2, 1) := by decide +kernel
theorem dX2_foodsOf_27 : decode cX2_foodsOf 27 = .ok (.iinc 3 1, 3) := by decide +kernel
theorem dX2_foodsOf_30 : decode cX2_foodsOf 30 = .ok (.goto (-26), 3) := by decide +kernel
theorem dX2_foodsOf_33 : decode cX2_foodsOf 33 = .ok (.iload_n 2, 1) := by decide +kernel
theorem dX2_foodsOf_34 : decode cX2_foodsOf 34 = .ok (.ireturn, 1) := by decide +kernel
set_option maxRecDepth 20000 in
theorem ggX2_eatersOf_X2_foodsOf : GoodIn wsX2_eatersOf wsX2_foodsOf := goodIn_r _ [7, 8, 9, 10, 11, 6, 12, 13, 22, 23, 24, 25, 26, 27] (by decide +kernel) (by decide +kernel)
set_option maxRecDepth 20000 in
theorem gX2_eatersOf_X2_foodsOf : GoodIn wsX2_eatersOf (wsV RX2 26 RX2 yX2_foodsOf wsX2_foodsOf) := goodIn_app (goodIn_of _ (by decide +kernel)) ggX2_eatersOf_X2_foodsOf
theorem dX2_eatersOf_0 : decode cX2_eatersOf 0 = .ok (.aload_n 0, 1) := by decide +kernel
theorem dX2_eatersOf_1 : decode cX2_eatersOf 1 = .ok (.iload_n 1, 1) := by decide +kernel
theorem dX2_eatersOf_2 : decode cX2_eatersOf 2 = .ok (.invokevirtual 26, 3) := by decide +kernel
theorem dX2_eatersOf_5 : decode cX2_eatersOf 5 = .ok (.istore_n 3, 1) := by decide +kernel
theorem dX2_eatersOf_6 : decode cX2_eatersOf 6 = .ok (.lconst 0, 1) := by decide +kernel
theorem dX2_eatersOf_7 : decode cX2_eatersOf 7 = .ok (.lstore 4, 2) := by decide +kernel
theorem dX2_eatersOf_9 : decode cX2_eatersOf 9 = .ok (.iconst 0, 1) := by decide +kernel
theorem dX2_eatersOf_10 : decode cX2_eatersOf 10 = .ok (.istore 6, 2) := by decide +kernel
theorem dX2_eatersOf_12 : decode cX2_eatersOf 12 = .ok (.iload 6, 2) := by decide +kernel
theorem dX2_eatersOf_14 : decode cX2_eatersOf 14 = .ok (.aload_n 2, 1) := by decide +kernel
theorem dX2_eatersOf_15 : decode cX2_eatersOf 15 = .ok (.getfield 30, 3) := by decide +kernel
theorem dX2_eatersOf_18 : decode cX2_eatersOf 18 = .ok (.if_icmp .ge 30, 3) := by decide +kernel
theorem dX2_eatersOf_21 : decode cX2_eatersOf 21 = .ok (.aload_n 2, 1) := by decide +kernel
theorem dX2_eatersOf_22 : decode cX2_eatersOf 22 = .ok (.getfield 35, 3) := by decide +kernel
theorem dX2_eatersOf_25 : decode cX2_eatersOf 25 = .ok (.iload 6, 2) := by decide +kernel
theorem dX2_eatersOf_27 : decode cX2_eatersOf 27 = .ok (.iaload, 1) := by decide +kernel
theorem dX2_eatersOf_28 : decode cX2_eatersOf 28 = .ok (.iload_n 3, 1) := by decide +kernel
theorem dX2_eatersOf_29 : decode cX2_eatersOf 29 = .ok (.iand, 1) := by decide +kernel
theorem dX2_eatersOf_30 : decode cX2_eatersOf 30 = .ok (.ifCond .ne 12, 3) := by decide +kernel
theorem dX2_eatersOf_33 : decode cX2_eatersOf 33 = .ok (.lload 4, 2) := by decide +kernel
theorem dX2_eatersOf_35 : decode cX2_eatersOf 35 = .ok (.lconst 1, 1) := by decide +kernel
theorem dX2_eatersOf_36 : decode cX2_eatersOf 36 = .ok (.iload 6, 2) := by decide +kernel
theorem dX2_eatersOf_38 : decode cX2_eatersOf 38 = .ok (.lshl, 1) := by decide +kernel
theorem dX2_eatersOf_39 : decode cX2_eatersOf 39 = .ok (.lor, 1) := by decide +kernel
theorem dX2_eatersOf_40 : decode cX2_eatersOf 40 = .ok (.lstore 4, 2) := by decide +kernel
theorem dX2_eatersOf_42 : decode cX2_eatersOf 42 = .ok (.iinc 6 1, 3) := by decide +kernel
theorem dX2_eatersOf_45 : decode cX2_eatersOf 45 = .ok (.goto (-33), 3) := by decide +kernel
theorem dX2_eatersOf_48 : decode cX2_eatersOf 48 = .ok (.lload 4, 2) := by decide +kernel
theorem dX2_eatersOf_50 : decode cX2_eatersOf 50 = .ok (.lreturn, 1) := by decide +kernel
set_option maxRecDepth 20000 in
theorem ggX2_canBeEaten_X2_eatersOf : GoodIn wsX2_canBeEaten wsX2_eatersOf := goodIn_r _ [6, 7, 8, 9, 10, 11, 5, 12, 13, 14, 15, 16, 17, 18, 37, 38, 39, 40, 41, 42, 43, 44, 31, 32, 33, 34, 35, 36] (by decide +kernel) (by decide +kernel)
set_option maxRecDepth 20000 in
theorem gX2_canBeEaten_X2_eatersOf : GoodIn wsX2_canBeEaten (wsV RX2 38 RX2 yX2_eatersOf wsX2_eatersOf) := goodIn_app (goodIn_of _ (by decide +kernel)) ggX2_canBeEaten_X2_eatersOf
set_option maxRecDepth 20000 in
theorem ggX2_canBeEaten_J13_bitCount_95d88 : GoodIn wsX2_canBeEaten wsJ13_bitCount_95d88 := goodIn_r _ [22, 23, 24, 25] (by decide +kernel) (by decide +kernel)
set_option maxRecDepth 20000 in
theorem gX2_canBeEaten_J13_bitCount_95d88 : GoodIn wsX2_canBeEaten (va_wsS RX2 42 yJ13_bitCount_95d88 wsJ13_bitCount_95d88) := goodIn_app (goodIn_of _ (by decide +kernel)) ggX2_canBeEaten_J13_bitCount_95d88
set_option maxRecDepth 20000 in
theorem ggX2_canBeEaten_X2_foodsOf : GoodIn wsX2_canBeEaten wsX2_foodsOf := goodIn_r _ [12, 13, 14, 15, 16, 5, 17, 18, 31, 32, 33, 34, 35, 36] (by decide +kernel) (by decide +kernel)
set_option maxRecDepth 20000 in
theorem gX2_canBeEaten_X2_foodsOf : GoodIn wsX2_canBeEaten (wsV RX2 26 RX2 yX2_foodsOf wsX2_foodsOf) := goodIn_app (goodIn_of _ (by decide +kernel)) ggX2_canBeEaten_X2_foodsOf
set_option maxRecDepth 20000 in
theorem ggX2_canBeEaten_X2_isStocked : GoodIn wsX2_canBeEaten wsX2_isStocked := goodIn_r _ [29, 13, 30, 14, 15, 16, 5, 17, 18, 31, 32, 33, 34, 35, 36] (by decide +kernel) (by decide +kernel)
set_option maxRecDepth 20000 in
theorem gX2_canBeEaten_X2_isStocked : GoodIn wsX2_canBeEaten (wsV RX2 51 RX2 yX2_isStocked wsX2_isStocked) := goodIn_app (goodIn_of _ (by decide +kernel)) ggX2_canBeEaten_X2_isStocked
theorem dX2_canBeEaten_0 : decode cX2_canBeEaten 0 = .ok (.aload_n 0, 1) := by decide +kernel
theorem dX2_canBeEaten_1 : decode cX2_canBeEaten 1 = .ok (.iload_n 1, 1) := by decide +kernel
theorem dX2_canBeEaten_2 : decode cX2_canBeEaten 2 = .ok (.aload_n 2, 1) := by decide +kernel
theorem dX2_canBeEaten_3 : decode cX2_canBeEaten 3 = .ok (.invokevirtual 38, 3) := by decide +kernel
theorem dX2_canBeEaten_6 : decode cX2_canBeEaten 6 = .ok (.invokestatic 42, 3) := by decide +kernel
theorem dX2_canBeEaten_9 : decode cX2_canBeEaten 9 = .ok (.istore_n 3, 1) := by decide +kernel
theorem dX2_canBeEaten_10 : decode cX2_canBeEaten 10 = .ok (.aload_n 0, 1) := by decide +kernel
theorem dX2_canBeEaten_11 : decode cX2_canBeEaten 11 = .ok (.getfield 48, 3) := by decide +kernel
theorem dX2_canBeEaten_14 : decode cX2_canBeEaten 14 = .ok (.iconst 3, 1) := by decide +kernel
theorem dX2_canBeEaten_15 : decode cX2_canBeEaten 15 = .ok (.if_icmp .ge 28, 3) := by decide +kernel
theorem dX2_canBeEaten_18 : decode cX2_canBeEaten 18 = .ok (.aload_n 0, 1) := by decide +kernel
theorem dX2_canBeEaten_19 : decode cX2_canBeEaten 19 = .ok (.iload_n 1, 1) := by decide +kernel
theorem dX2_canBeEaten_20 : decode cX2_canBeEaten 20 = .ok (.invokevirtual 26, 3) := by decide +kernel
theorem dX2_canBeEaten_23 : decode cX2_canBeEaten 23 = .ok (.ifCond .eq 20, 3) := by decide +kernel
theorem dX2_canBeEaten_26 : decode cX2_canBeEaten 26 = .ok (.iload_n 3, 1) := by decide +kernel
theorem dX2_canBeEaten_27 : decode cX2_canBeEaten 27 = .ok (.ifCond .le 16, 3) := by decide +kernel
theorem dX2_canBeEaten_30 : decode cX2_canBeEaten 30 = .ok (.aload_n 0, 1) := by decide +kernel
theorem dX2_canBeEaten_31 : decode cX2_canBeEaten 31 = .ok (.iload_n 1, 1) := by decide +kernel
theorem dX2_canBeEaten_32 : decode cX2_canBeEaten 32 = .ok (.iload_n 3, 1) := by decide +kernel
theorem dX2_canBeEaten_33 : decode cX2_canBeEaten 33 = .ok (.invokevirtual 51, 3) := by decide +kernel
theorem dX2_canBeEaten_36 : decode cX2_canBeEaten 36 = .ok (.ifCond .eq 7, 3) := by decide +kernel
theorem dX2_canBeEaten_39 : decode cX2_canBeEaten 39 = .ok (.iconst 1, 1) := by decide +kernel
theorem dX2_canBeEaten_40 : decode cX2_canBeEaten 40 = .ok (.goto 4, 3) := by decide +kernel
theorem dX2_canBeEaten_43 : decode cX2_canBeEaten 43 = .ok (.iconst 0, 1) := by decide +kernel
theorem dX2_canBeEaten_44 : decode cX2_canBeEaten 44 = .ok (.ireturn, 1) := by decide +kernel
set_option maxRecDepth 20000 in
theorem ggX2_isStocked_X2_needOf : GoodIn wsX2_isStocked wsX2_needOf := goodIn_r _ [7, 8, 9, 10, 11, 12, 13, 14] (by decide +kernel) (by decide +kernel)
set_option maxRecDepth 20000 in
theorem gX2_isStocked_X2_needOf : GoodIn wsX2_isStocked (wsV RX2 22 RX2 yX2_needOf wsX2_needOf) := goodIn_app (goodIn_of _ (by decide +kernel)) ggX2_isStocked_X2_needOf
theorem dX2_isStocked_0 : decode cX2_isStocked 0 = .ok (.iconst 0, 1) := by decide +kernel
theorem dX2_isStocked_1 : decode cX2_isStocked 1 = .ok (.istore_n 3, 1) := by decide +kernel
theorem dX2_isStocked_2 : decode cX2_isStocked 2 = .ok (.iload_n 3, 1) := by decide +kernel
theorem dX2_isStocked_3 : decode cX2_isStocked 3 = .ok (.aload_n 0, 1) := by decide +kernel
theorem dX2_isStocked_4 : decode cX2_isStocked 4 = .ok (.getfield 18, 3) := by decide +kernel
theorem dX2_isStocked_7 : decode cX2_isStocked 7 = .ok (.if_icmp .ge 28, 3) := by decide +kernel
theorem dX2_isStocked_10 : decode cX2_isStocked 10 = .ok (.aload_n 0, 1) := by decide +kernel
theorem dX2_isStocked_11 : decode cX2_isStocked 11 = .ok (.iload_n 1, 1) := by decide +kernel
theorem dX2_isStocked_12 : decode cX2_isStocked 12 = .ok (.iload_n 3, 1) := by decide +kernel
theorem dX2_isStocked_13 : decode cX2_isStocked 13 = .ok (.invokevirtual 22, 3) := by decide +kernel
theorem dX2_isStocked_16 : decode cX2_isStocked 16 = .ok (.iload_n 2, 1) := by decide +kernel
theorem dX2_isStocked_17 : decode cX2_isStocked 17 = .ok (.imul, 1) := by decide +kernel
theorem dX2_isStocked_18 : decode cX2_isStocked 18 = .ok (.aload_n 0, 1) := by decide +kernel
theorem dX2_isStocked_19 : decode cX2_isStocked 19 = .ok (.getfield 9, 3) := by decide +kernel
theorem dX2_isStocked_22 : decode cX2_isStocked 22 = .ok (.iload_n 3, 1) := by decide +kernel
theorem dX2_isStocked_23 : decode cX2_isStocked 23 = .ok (.iaload, 1) := by decide +kernel
theorem dX2_isStocked_24 : decode cX2_isStocked 24 = .ok (.if_icmp .le 5, 3) := by decide +kernel
theorem dX2_isStocked_27 : decode cX2_isStocked 27 = .ok (.iconst 0, 1) := by decide +kernel
theorem dX2_isStocked_28 : decode cX2_isStocked 28 = .ok (.ireturn, 1) := by decide +kernel
theorem dX2_isStocked_29 : decode cX2_isStocked 29 = .ok (.iinc 3 1, 3) := by decide +kernel
theorem dX2_isStocked_32 : decode cX2_isStocked 32 = .ok (.goto (-30), 3) := by decide +kernel
theorem dX2_isStocked_35 : decode cX2_isStocked 35 = .ok (.iconst 1, 1) := by decide +kernel
theorem dX2_isStocked_36 : decode cX2_isStocked 36 = .ok (.ireturn, 1) := by decide +kernel
set_option maxRecDepth 20000 in
theorem ggX2_serve_X2_eatersOf : GoodIn wsX2_serve wsX2_eatersOf := goodIn_r _ [9, 10, 11, 12, 13, 14, 8, 15, 1, 16, 17, 18, 19, 20, 34, 35, 36, 37, 38, 39, 40, 41, 28, 29, 30, 31, 32, 33] (by decide +kernel) (by decide +kernel)
set_option maxRecDepth 20000 in
theorem gX2_serve_X2_eatersOf : GoodIn wsX2_serve (wsV RX2 38 RX2 yX2_eatersOf wsX2_eatersOf) := goodIn_app (goodIn_of _ (by decide +kernel)) ggX2_serve_X2_eatersOf
set_option maxRecDepth 20000 in
theorem ggX2_serve_J13_bitCount_95d88 : GoodIn wsX2_serve wsJ13_bitCount_95d88 := goodIn_r _ [24, 25, 26, 27] (by decide +kernel) (by decide +kernel)
set_option maxRecDepth 20000 in
theorem gX2_serve_J13_bitCount_95d88 : GoodIn wsX2_serve (va_wsS RX2 42 yJ13_bitCount_95d88 wsJ13_bitCount_95d88) := goodIn_app (goodIn_of _ (by decide +kernel)) ggX2_serve_J13_bitCount_95d88
set_option maxRecDepth 20000 in
theorem ggX2_serve_X2_needOf : GoodIn wsX2_serve wsX2_needOf := goodIn_r _ [19, 20, 28, 29, 30, 31, 32, 33] (by decide +kernel) (by decide +kernel)
set_option maxRecDepth 20000 in
theorem gX2_serve_X2_needOf : GoodIn wsX2_serve (wsV RX2 22 RX2 yX2_needOf wsX2_needOf) := goodIn_app (goodIn_of _ (by decide +kernel)) ggX2_serve_X2_needOf
theorem dX2_serve_0 : decode cX2_serve 0 = .ok (.aload_n 0, 1) := by decide +kernel
theorem dX2_serve_1 : decode cX2_serve 1 = .ok (.iload_n 1, 1) := by decide +kernel
theorem dX2_serve_2 : decode cX2_serve 2 = .ok (.aload_n 2, 1) := by decide +kernel
theorem dX2_serve_3 : decode cX2_serve 3 = .ok (.invokevirtual 38, 3) := by decide +kernel
theorem dX2_serve_6 : decode cX2_serve 6 = .ok (.lstore_n 3, 1) := by decide +kernel
theorem dX2_serve_7 : decode cX2_serve 7 = .ok (.lload_n 3, 1) := by decide +kernel
theorem dX2_serve_8 : decode cX2_serve 8 = .ok (.invokestatic 42, 3) := by decide +kernel
theorem dX2_serve_11 : decode cX2_serve 11 = .ok (.istore 5, 2) := by decide +kernel
theorem dX2_serve_13 : decode cX2_serve 13 = .ok (.iconst 0, 1) := by decide +kernel
theorem dX2_serve_14 : decode cX2_serve 14 = .ok (.istore 6, 2) := by decide +kernel
theorem dX2_serve_16 : decode cX2_serve 16 = .ok (.iload 6, 2) := by decide +kernel
theorem dX2_serve_18 : decode cX2_serve 18 = .ok (.aload_n 0, 1) := by decide +kernel
theorem dX2_serve_19 : decode cX2_serve 19 = .ok (.getfield 18, 3) := by decide +kernel
theorem dX2_serve_22 : decode cX2_serve 22 = .ok (.if_icmp .ge 29, 3) := by decide +kernel
theorem dX2_serve_25 : decode cX2_serve 25 = .ok (.aload_n 0, 1) := by decide +kernel
theorem dX2_serve_26 : decode cX2_serve 26 = .ok (.getfield 9, 3) := by decide +kernel
theorem dX2_serve_29 : decode cX2_serve 29 = .ok (.iload 6, 2) := by decide +kernel
theorem dX2_serve_31 : decode cX2_serve 31 = .ok (.dup2, 1) := by decide +kernel
theorem dX2_serve_32 : decode cX2_serve 32 = .ok (.iaload, 1) := by decide +kernel
theorem dX2_serve_33 : decode cX2_serve 33 = .ok (.aload_n 0, 1) := by decide +kernel
theorem dX2_serve_34 : decode cX2_serve 34 = .ok (.iload_n 1, 1) := by decide +kernel
theorem dX2_serve_35 : decode cX2_serve 35 = .ok (.iload 6, 2) := by decide +kernel
theorem dX2_serve_37 : decode cX2_serve 37 = .ok (.invokevirtual 22, 3) := by decide +kernel
theorem dX2_serve_40 : decode cX2_serve 40 = .ok (.iload 5, 2) := by decide +kernel
theorem dX2_serve_42 : decode cX2_serve 42 = .ok (.imul, 1) := by decide +kernel
theorem dX2_serve_43 : decode cX2_serve 43 = .ok (.isub, 1) := by decide +kernel
theorem dX2_serve_44 : decode cX2_serve 44 = .ok (.iastore, 1) := by decide +kernel
theorem dX2_serve_45 : decode cX2_serve 45 = .ok (.iinc 6 1, 3) := by decide +kernel
theorem dX2_serve_48 : decode cX2_serve 48 = .ok (.goto (-32), 3) := by decide +kernel
theorem dX2_serve_51 : decode cX2_serve 51 = .ok (.aload_n 0, 1) := by decide +kernel
theorem dX2_serve_52 : decode cX2_serve 52 = .ok (.dup, 1) := by decide +kernel
theorem dX2_serve_53 : decode cX2_serve 53 = .ok (.getfield 55, 3) := by decide +kernel
theorem dX2_serve_56 : decode cX2_serve 56 = .ok (.lload_n 3, 1) := by decide +kernel
theorem dX2_serve_57 : decode cX2_serve 57 = .ok (.lor, 1) := by decide +kernel
theorem dX2_serve_58 : decode cX2_serve 58 = .ok (.putfield 55, 3) := by decide +kernel
theorem dX2_serve_61 : decode cX2_serve 61 = .ok (.aload_n 0, 1) := by decide +kernel
theorem dX2_serve_62 : decode cX2_serve 62 = .ok (.dup, 1) := by decide +kernel
theorem dX2_serve_63 : decode cX2_serve 63 = .ok (.getfield 48, 3) := by decide +kernel
theorem dX2_serve_66 : decode cX2_serve 66 = .ok (.iconst 1, 1) := by decide +kernel
theorem dX2_serve_67 : decode cX2_serve 67 = .ok (.iadd, 1) := by decide +kernel
theorem dX2_serve_68 : decode cX2_serve 68 = .ok (.putfield 48, 3) := by decide +kernel
theorem dX2_serve_71 : decode cX2_serve 71 = .ok (.iload 5, 2) := by decide +kernel
theorem dX2_serve_73 : decode cX2_serve 73 = .ok (.ireturn, 1) := by decide +kernel
set_option maxRecDepth 20000 in
theorem ggX2_bestMeal_X2_eatersOf : GoodIn wsX2_bestMeal wsX2_eatersOf := goodIn_r _ [8, 9, 10, 11, 12, 13, 7, 14, 15, 16, 17, 18, 19, 20, 44, 45, 46, 47, 48, 49, 50, 51, 38, 39, 40, 41, 42, 43] (by decide +kernel) (by decide +kernel)
set_option maxRecDepth 20000 in
theorem gX2_bestMeal_X2_eatersOf : GoodIn wsX2_bestMeal (wsV RX2 38 RX2 yX2_eatersOf wsX2_eatersOf) := goodIn_app (goodIn_of _ (by decide +kernel)) ggX2_bestMeal_X2_eatersOf
set_option maxRecDepth 20000 in
theorem ggX2_bestMeal_J13_bitCount_95d88 : GoodIn wsX2_bestMeal wsJ13_bitCount_95d88 := goodIn_r _ [24, 25, 26, 27] (by decide +kernel) (by decide +kernel)
set_option maxRecDepth 20000 in
theorem gX2_bestMeal_J13_bitCount_95d88 : GoodIn wsX2_bestMeal (va_wsS RX2 42 yJ13_bitCount_95d88 wsJ13_bitCount_95d88) := goodIn_app (goodIn_of _ (by decide +kernel)) ggX2_bestMeal_J13_bitCount_95d88
set_option maxRecDepth 20000 in
theorem ggX2_bestMeal_X2_canBeEaten : GoodIn wsX2_bestMeal wsX2_canBeEaten := goodIn_r _ [31, 32, 4, 5, 6, 7, 8, 9, 10, 11, 12, 13, 14, 15, 16, 17, 18, 19, 20, 21, 22, 23, 24, 25, 26, 27, 33, 34, 35, 36, 37, 38, 39, 40, 41, 42, 43, 44, 45, 46, 47, 48, 49, 50, 51] (by decide +kernel) (by decide +kernel)
set_option maxRecDepth 20000 in
theorem gX2_bestMeal_X2_canBeEaten : GoodIn wsX2_bestMeal (wsV RX2 64 RX2 yX2_canBeEaten wsX2_canBeEaten) := goodIn_app (goodIn_of _ (by decide +kernel)) ggX2_bestMeal_X2_canBeEaten
theorem dX2_bestMeal_0 : decode cX2_bestMeal 0 = .ok (.iconst (-1), 1) := by decide +kernel
theorem dX2_bestMeal_1 : decode cX2_bestMeal 1 = .ok (.istore_n 2, 1) := by decide +kernel
theorem dX2_bestMeal_2 : decode cX2_bestMeal 2 = .ok (.iconst (-1), 1) := by decide +kernel
theorem dX2_bestMeal_3 : decode cX2_bestMeal 3 = .ok (.istore_n 3, 1) := by decide +kernel
theorem dX2_bestMeal_4 : decode cX2_bestMeal 4 = .ok (.iconst 0, 1) := by decide +kernel
theorem dX2_bestMeal_5 : decode cX2_bestMeal 5 = .ok (.istore 4, 2) := by decide +kernel
theorem dX2_bestMeal_7 : decode cX2_bestMeal 7 = .ok (.iload 4, 2) := by decide +kernel
theorem dX2_bestMeal_9 : decode cX2_bestMeal 9 = .ok (.aload_n 0, 1) := by decide +kernel
theorem dX2_bestMeal_10 : decode cX2_bestMeal 10 = .ok (.getfield 59, 3) := by decide +kernel
theorem dX2_bestMeal_13 : decode cX2_bestMeal 13 = .ok (.if_icmp .ge 52, 3) := by decide +kernel
theorem dX2_bestMeal_16 : decode cX2_bestMeal 16 = .ok (.aload_n 0, 1) := by decide +kernel
theorem dX2_bestMeal_17 : decode cX2_bestMeal 17 = .ok (.iload 4, 2) := by decide +kernel
theorem dX2_bestMeal_19 : decode cX2_bestMeal 19 = .ok (.aload_n 1, 1) := by decide +kernel
theorem dX2_bestMeal_20 : decode cX2_bestMeal 20 = .ok (.invokevirtual 38, 3) := by decide +kernel
theorem dX2_bestMeal_23 : decode cX2_bestMeal 23 = .ok (.aload_n 0, 1) := by decide +kernel
theorem dX2_bestMeal_24 : decode cX2_bestMeal 24 = .ok (.getfield 55, 3) := by decide +kernel
theorem dX2_bestMeal_27 : decode cX2_bestMeal 27 = .ok (.ldc2_w 62, 3) := by decide +kernel
theorem dX2_bestMeal_30 : decode cX2_bestMeal 30 = .ok (.lxor, 1) := by decide +kernel
theorem dX2_bestMeal_31 : decode cX2_bestMeal 31 = .ok (.land, 1) := by decide +kernel
theorem dX2_bestMeal_32 : decode cX2_bestMeal 32 = .ok (.invokestatic 42, 3) := by decide +kernel
theorem dX2_bestMeal_35 : decode cX2_bestMeal 35 = .ok (.istore 5, 2) := by decide +kernel
theorem dX2_bestMeal_37 : decode cX2_bestMeal 37 = .ok (.iload 5, 2) := by decide +kernel
theorem dX2_bestMeal_39 : decode cX2_bestMeal 39 = .ok (.iload_n 3, 1) := by decide +kernel
theorem dX2_bestMeal_40 : decode cX2_bestMeal 40 = .ok (.if_icmp .le 19, 3) := by decide +kernel
theorem dX2_bestMeal_43 : decode cX2_bestMeal 43 = .ok (.aload_n 0, 1) := by decide +kernel
theorem dX2_bestMeal_44 : decode cX2_bestMeal 44 = .ok (.iload 4, 2) := by decide +kernel
theorem dX2_bestMeal_46 : decode cX2_bestMeal 46 = .ok (.aload_n 1, 1) := by decide +kernel
theorem dX2_bestMeal_47 : decode cX2_bestMeal 47 = .ok (.invokevirtual 64, 3) := by decide +kernel
theorem dX2_bestMeal_50 : decode cX2_bestMeal 50 = .ok (.ifCond .eq 9, 3) := by decide +kernel
theorem dX2_bestMeal_53 : decode cX2_bestMeal 53 = .ok (.iload 4, 2) := by decide +kernel
theorem dX2_bestMeal_55 : decode cX2_bestMeal 55 = .ok (.istore_n 2, 1) := by decide +kernel
theorem dX2_bestMeal_56 : decode cX2_bestMeal 56 = .ok (.iload 5, 2) := by decide +kernel
theorem dX2_bestMeal_58 : decode cX2_bestMeal 58 = .ok (.istore_n 3, 1) := by decide +kernel
theorem dX2_bestMeal_59 : decode cX2_bestMeal 59 = .ok (.iinc 4 1, 3) := by decide +kernel
theorem dX2_bestMeal_62 : decode cX2_bestMeal 62 = .ok (.goto (-55), 3) := by decide +kernel
theorem dX2_bestMeal_65 : decode cX2_bestMeal 65 = .ok (.iload_n 2, 1) := by decide +kernel
theorem dX2_bestMeal_66 : decode cX2_bestMeal 66 = .ok (.ireturn, 1) := by decide +kernel
theorem dX2_clearTable_0 : decode cX2_clearTable 0 = .ok (.aload_n 0, 1) := by decide +kernel
theorem dX2_clearTable_1 : decode cX2_clearTable 1 = .ok (.iconst 0, 1) := by decide +kernel
theorem dX2_clearTable_2 : decode cX2_clearTable 2 = .ok (.putfield 48, 3) := by decide +kernel
theorem dX2_clearTable_5 : decode cX2_clearTable 5 = .ok (.aload_n 0, 1) := by decide +kernel
theorem dX2_clearTable_6 : decode cX2_clearTable 6 = .ok (.lconst 0, 1) := by decide +kernel
theorem dX2_clearTable_7 : decode cX2_clearTable 7 = .ok (.putfield 55, 3) := by decide +kernel
theorem dX2_clearTable_10 : decode cX2_clearTable 10 = .ok (.return_, 1) := by decide +kernel
theorem dX3_init_0 : decode cX3_init 0 = .ok (.aload_n 0, 1) := by decide +kernel
theorem dX3_init_1 : decode cX3_init 1 = .ok (.invokespecial 3, 3) := by decide +kernel
theorem dX3_init_4 : decode cX3_init 4 = .ok (.aload_n 0, 1) := by decide +kernel
theorem dX3_init_5 : decode cX3_init 5 = .ok (.bipush 30, 2) := by decide +kernel
theorem dX3_init_7 : decode cX3_init 7 = .ok (.newarray .int, 2) := by decide +kernel
theorem dX3_init_9 : decode cX3_init 9 = .ok (.putfield 9, 3) := by decide +kernel
theorem dX3_init_12 : decode cX3_init 12 = .ok (.aload_n 0, 1) := by decide +kernel
theorem dX3_init_13 : decode cX3_init 13 = .ok (.bipush 30, 2) := by decide +kernel
theorem dX3_init_15 : decode cX3_init 15 = .ok (.newarray .int, 2) := by decide +kernel
theorem dX3_init_17 : decode cX3_init 17 = .ok (.putfield 15, 3) := by decide +kernel
theorem dX3_init_20 : decode cX3_init 20 = .ok (.aload_n 0, 1) := by decide +kernel
theorem dX3_init_21 : decode cX3_init 21 = .ok (.bipush 30, 2) := by decide +kernel
theorem dX3_init_23 : decode cX3_init 23 = .ok (.newarray .int, 2) := by decide +kernel
theorem dX3_init_25 : decode cX3_init 25 = .ok (.putfield 18, 3) := by decide +kernel
theorem dX3_init_28 : decode cX3_init 28 = .ok (.aload_n 0, 1) := by decide +kernel
theorem dX3_init_29 : decode cX3_init 29 = .ok (.bipush 30, 2) := by decide +kernel
theorem dX3_init_31 : decode cX3_init 31 = .ok (.newarray .int, 2) := by decide +kernel
theorem dX3_init_33 : decode cX3_init 33 = .ok (.putfield 21, 3) := by decide +kernel
theorem dX3_init_36 : decode cX3_init 36 = .ok (.aload_n 0, 1) := by decide +kernel
theorem dX3_init_37 : decode cX3_init 37 = .ok (.bipush 30, 2) := by decide +kernel
theorem dX3_init_39 : decode cX3_init 39 = .ok (.newarray .int, 2) := by decide +kernel
theorem dX3_init_41 : decode cX3_init 41 = .ok (.putfield 24, 3) := by decide +kernel
theorem dX3_init_44 : decode cX3_init 44 = .ok (.aload_n 0, 1) := by decide +kernel
theorem dX3_init_45 : decode cX3_init 45 = .ok (.sipush 300, 3) := by decide +kernel
theorem dX3_init_48 : decode cX3_init 48 = .ok (.newarray .int, 2) := by decide +kernel
theorem dX3_init_50 : decode cX3_init 50 = .ok (.putfield 27, 3) := by decide +kernel
theorem dX3_init_53 : decode cX3_init 53 = .ok (.return_, 1) := by decide +kernel
theorem dX3_enrol_0 : decode cX3_enrol 0 = .ok (.aload_n 0, 1) := by decide +kernel
theorem dX3_enrol_1 : decode cX3_enrol 1 = .ok (.getfield 30, 3) := by decide +kernel
theorem dX3_enrol_4 : decode cX3_enrol 4 = .ok (.istore 4, 2) := by decide +kernel
theorem dX3_enrol_6 : decode cX3_enrol 6 = .ok (.aload_n 0, 1) := by decide +kernel
theorem dX3_enrol_7 : decode cX3_enrol 7 = .ok (.getfield 9, 3) := by decide +kernel
theorem dX3_enrol_10 : decode cX3_enrol 10 = .ok (.iload 4, 2) := by decide +kernel
theorem dX3_enrol_12 : decode cX3_enrol 12 = .ok (.iload_n 1, 1) := by decide +kernel
theorem dX3_enrol_13 : decode cX3_enrol 13 = .ok (.iastore, 1) := by decide +kernel
theorem dX3_enrol_14 : decode cX3_enrol 14 = .ok (.aload_n 0, 1) := by decide +kernel
theorem dX3_enrol_15 : decode cX3_enrol 15 = .ok (.getfield 15, 3) := by decide +kernel
theorem dX3_enrol_18 : decode cX3_enrol 18 = .ok (.iload 4, 2) := by decide +kernel
theorem dX3_enrol_20 : decode cX3_enrol 20 = .ok (.iload_n 2, 1) := by decide +kernel
theorem dX3_enrol_21 : decode cX3_enrol 21 = .ok (.iastore, 1) := by decide +kernel
theorem dX3_enrol_22 : decode cX3_enrol 22 = .ok (.aload_n 0, 1) := by decide +kernel
theorem dX3_enrol_23 : decode cX3_enrol 23 = .ok (.getfield 18, 3) := by decide +kernel
theorem dX3_enrol_26 : decode cX3_enrol 26 = .ok (.iload 4, 2) := by decide +kernel
theorem dX3_enrol_28 : decode cX3_enrol 28 = .ok (.iload_n 3, 1) := by decide +kernel
theorem dX3_enrol_29 : decode cX3_enrol 29 = .ok (.iastore, 1) := by decide +kernel
theorem dX3_enrol_30 : decode cX3_enrol 30 = .ok (.aload_n 0, 1) := by decide +kernel
theorem dX3_enrol_31 : decode cX3_enrol 31 = .ok (.dup, 1) := by decide +kernel
theorem dX3_enrol_32 : decode cX3_enrol 32 = .ok (.getfield 30, 3) := by decide +kernel
theorem dX3_enrol_35 : decode cX3_enrol 35 = .ok (.iconst 1, 1) := by decide +kernel
theorem dX3_enrol_36 : decode cX3_enrol 36 = .ok (.iadd, 1) := by decide +kernel
theorem dX3_enrol_37 : decode cX3_enrol 37 = .ok (.putfield 30, 3) := by decide +kernel
theorem dX3_enrol_40 : decode cX3_enrol 40 = .ok (.iload 4, 2) := by decide +kernel
theorem dX3_enrol_42 : decode cX3_enrol 42 = .ok (.ireturn, 1) := by decide +kernel
theorem dX3_hoursIn_0 : decode cX3_hoursIn 0 = .ok (.aload_n 0, 1) := by decide +kernel
theorem dX3_hoursIn_1 : decode cX3_hoursIn 1 = .ok (.getfield 27, 3) := by decide +kernel
theorem dX3_hoursIn_4 : decode cX3_hoursIn 4 = .ok (.iload_n 1, 1) := by decide +kernel
theorem dX3_hoursIn_5 : decode cX3_hoursIn 5 = .ok (.bipush 10, 2) := by decide +kernel
theorem dX3_hoursIn_7 : decode cX3_hoursIn 7 = .ok (.imul, 1) := by decide +kernel
theorem dX3_hoursIn_8 : decode cX3_hoursIn 8 = .ok (.iload_n 2, 1) := by decide +kernel
theorem dX3_hoursIn_9 : decode cX3_hoursIn 9 = .ok (.iadd, 1) := by decide +kernel
theorem dX3_hoursIn_10 : decode cX3_hoursIn 10 = .ok (.iaload, 1) := by decide +kernel
theorem dX3_hoursIn_11 : decode cX3_hoursIn 11 = .ok (.ireturn, 1) := by decide +kernel
set_option maxRecDepth 20000 in
theorem ggX3_allHours_X3_hoursIn : GoodIn wsX3_allHours wsX3_hoursIn := goodIn_r _ [5, 6, 7, 8, 9, 10, 11, 12, 13, 14] (by decide +kernel) (by decide +kernel)
set_option maxRecDepth 20000 in
theorem gX3_allHours_X3_hoursIn : GoodIn wsX3_allHours (wsV RX3 34 RX3 yX3_hoursIn wsX3_hoursIn) := goodIn_app (goodIn_of _ (by decide +kernel)) ggX3_allHours_X3_hoursIn
theorem dX3_allHours_0 : decode cX3_allHours 0 = .ok (.iconst 0, 1) := by decide +kernel
theorem dX3_allHours_1 : decode cX3_allHours 1 = .ok (.istore_n 2, 1) := by decide +kernel
theorem dX3_allHours_2 : decode cX3_allHours 2 = .ok (.iconst 0, 1) := by decide +kernel
theorem dX3_allHours_3 : decode cX3_allHours 3 = .ok (.istore_n 3, 1) := by decide +kernel
theorem dX3_allHours_4 : decode cX3_allHours 4 = .ok (.iload_n 3, 1) := by decide +kernel
theorem dX3_allHours_5 : decode cX3_allHours 5 = .ok (.bipush 10, 2) := by decide +kernel
theorem dX3_allHours_7 : decode cX3_allHours 7 = .ok (.if_icmp .ge 18, 3) := by decide +kernel
theorem dX3_allHours_10 : decode cX3_allHours 10 = .ok (.iload_n 2, 1) := by decide +kernel
theorem dX3_allHours_11 : decode cX3_allHours 11 = .ok (.aload_n 0, 1) := by decide +kernel
theorem dX3_allHours_12 : decode cX3_allHours 12 = .ok (.iload_n 1, 1) := by decide +kernel
theorem dX3_allHours_13 : decode cX3_allHours 13 = .ok (.iload_n 3, 1) := by decide +kernel
theorem dX3_allHours_14 : decode cX3_allHours 14 = .ok (.invokevirtual 34, 3) := by decide +kernel
theorem dX3_allHours_17 : decode cX3_allHours 17 = .ok (.iadd, 1) := by decide +kernel
theorem dX3_allHours_18 : decode cX3_allHours 18 = .ok (.istore_n 2, 1) := by decide +kernel
theorem dX3_allHours_19 : decode cX3_allHours 19 = .ok (.iinc 3 1, 3) := by decide +kernel
theorem dX3_allHours_22 : decode cX3_allHours 22 = .ok (.goto (-18), 3) := by decide +kernel
theorem dX3_allHours_25 : decode cX3_allHours 25 = .ok (.iload_n 2, 1) := by decide +kernel
theorem dX3_allHours_26 : decode cX3_allHours 26 = .ok (.ireturn, 1) := by decide +kernel
theorem dX3_train_0 : decode cX3_train 0 = .ok (.iconst 0, 1) := by decide +kernel
theorem dX3_train_1 : decode cX3_train 1 = .ok (.istore 4, 2) := by decide +kernel
theorem dX3_train_3 : decode cX3_train 3 = .ok (.iconst 0, 1) := by decide +kernel
theorem dX3_train_4 : decode cX3_train 4 = .ok (.istore 5, 2) := by decide +kernel
theorem dX3_train_6 : decode cX3_train 6 = .ok (.iload 5, 2) := by decide +kernel
theorem dX3_train_8 : decode cX3_train 8 = .ok (.aload_n 0, 1) := by decide +kernel
theorem dX3_train_9 : decode cX3_train 9 = .ok (.getfield 30, 3) := by decide +kernel
theorem dX3_train_12 : decode cX3_train 12 = .ok (.if_icmp .ge 39, 3) := by decide +kernel
theorem dX3_train_15 : decode cX3_train 15 = .ok (.aload_n 0, 1) := by decide +kernel
theorem dX3_train_16 : decode cX3_train 16 = .ok (.getfield 9, 3) := by decide +kernel
theorem dX3_train_19 : decode cX3_train 19 = .ok (.iload 5, 2) := by decide +kernel
theorem dX3_train_21 : decode cX3_train 21 = .ok (.iaload, 1) := by decide +kernel
theorem dX3_train_22 : decode cX3_train 22 = .ok (.iload_n 1, 1) := by decide +kernel
theorem dX3_train_23 : decode cX3_train 23 = .ok (.if_icmp .ne 22, 3) := by decide +kernel
theorem dX3_train_26 : decode cX3_train 26 = .ok (.aload_n 0, 1) := by decide +kernel
theorem dX3_train_27 : decode cX3_train 27 = .ok (.getfield 27, 3) := by decide +kernel
theorem dX3_train_30 : decode cX3_train 30 = .ok (.iload 5, 2) := by decide +kernel
theorem dX3_train_32 : decode cX3_train 32 = .ok (.bipush 10, 2) := by decide +kernel
theorem dX3_train_34 : decode cX3_train 34 = .ok (.imul, 1) := by decide +kernel
theorem dX3_train_35 : decode cX3_train 35 = .ok (.iload_n 2, 1) := by decide +kernel
theorem dX3_train_36 : decode cX3_train 36 = .ok (.iadd, 1) := by decide +kernel
theorem dX3_train_37 : decode cX3_train 37 = .ok (.dup2, 1) := by decide +kernel
theorem dX3_train_38 : decode cX3_train 38 = .ok (.iaload, 1) := by decide +kernel
theorem dX3_train_39 : decode cX3_train 39 = .ok (.iload_n 3, 1) := by decide +kernel
theorem dX3_train_40 : decode cX3_train 40 = .ok (.iadd, 1) := by decide +kernel
theorem dX3_train_41 : decode cX3_train 41 = .ok (.iastore, 1) := by decide +kernel
theorem dX3_train_42 : decode cX3_train 42 = .ok (.iinc 4 1, 3) := by decide +kernel
theorem dX3_train_45 : decode cX3_train 45 = .ok (.iinc 5 1, 3) := by decide +kernel
theorem dX3_train_48 : decode cX3_train 48 = .ok (.goto (-42), 3) := by decide +kernel
theorem dX3_train_51 : decode cX3_train 51 = .ok (.iload 4, 2) := by decide +kernel
theorem dX3_train_53 : decode cX3_train 53 = .ok (.ireturn, 1) := by decide +kernel
theorem dX3_membersOf_0 : decode cX3_membersOf 0 = .ok (.lconst 0, 1) := by decide +kernel
theorem dX3_membersOf_1 : decode cX3_membersOf 1 = .ok (.lstore_n 2, 1) := by decide +kernel
theorem dX3_membersOf_2 : decode cX3_membersOf 2 = .ok (.iconst 0, 1) := by decide +kernel
theorem dX3_membersOf_3 : decode cX3_membersOf 3 = .ok (.istore 4, 2) := by decide +kernel
theorem dX3_membersOf_5 : decode cX3_membersOf 5 = .ok (.iload 4, 2) := by decide +kernel
theorem dX3_membersOf_7 : decode cX3_membersOf 7 = .ok (.aload_n 0, 1) := by decide +kernel
theorem dX3_membersOf_8 : decode cX3_membersOf 8 = .ok (.getfield 30, 3) := by decide +kernel
theorem dX3_membersOf_11 : decode cX3_membersOf 11 = .ok (.if_icmp .ge 27, 3) := by decide +kernel
theorem dX3_membersOf_14 : decode cX3_membersOf 14 = .ok (.aload_n 0, 1) := by decide +kernel
theorem dX3_membersOf_15 : decode cX3_membersOf 15 = .ok (.getfield 9, 3) := by decide +kernel
theorem dX3_membersOf_18 : decode cX3_membersOf 18 = .ok (.iload 4, 2) := by decide +kernel
theorem dX3_membersOf_20 : decode cX3_membersOf 20 = .ok (.iaload, 1) := by decide +kernel
theorem dX3_membersOf_21 : decode cX3_membersOf 21 = .ok (.iload_n 1, 1) := by decide +kernel
theorem dX3_membersOf_22 : decode cX3_membersOf 22 = .ok (.if_icmp .ne 10, 3) := by decide +kernel
theorem dX3_membersOf_25 : decode cX3_membersOf 25 = .ok (.lload_n 2, 1) := by decide +kernel
theorem dX3_membersOf_26 : decode cX3_membersOf 26 = .ok (.lconst 1, 1) := by decide +kernel
theorem dX3_membersOf_27 : decode cX3_membersOf 27 = .ok (.iload 4, 2) := by decide +kernel
theorem dX3_membersOf_29 : decode cX3_membersOf 29 = .ok (.lshl, 1) := by decide +kernel
theorem dX3_membersOf_30 : decode cX3_membersOf 30 = .ok (.lor, 1) := by decide +kernel
theorem dX3_membersOf_31 : decode cX3_membersOf 31 = .ok (.lstore_n 2, 1) := by decide +kernel
theorem dX3_membersOf_32 : decode cX3_membersOf 32 = .ok (.iinc 4 1, 3) := by decide +kernel
theorem dX3_membersOf_35 : decode cX3_membersOf 35 = .ok (.goto (-30), 3) := by decide +kernel
theorem dX3_membersOf_38 : decode cX3_membersOf 38 = .ok (.lload_n 2, 1) := by decide +kernel
theorem dX3_membersOf_39 : decode cX3_membersOf 39 = .ok (.lreturn, 1) := by decide +kernel
theorem dX3_agedAtLeast_0 : decode cX3_agedAtLeast 0 = .ok (.lconst 0, 1) := by decide +kernel
theorem dX3_agedAtLeast_1 : decode cX3_agedAtLeast 1 = .ok (.lstore_n 2, 1) := by decide +kernel
theorem dX3_agedAtLeast_2 : decode cX3_agedAtLeast 2 = .ok (.iconst 0, 1) := by decide +kernel
theorem dX3_agedAtLeast_3 : decode cX3_agedAtLeast 3 = .ok (.istore 4, 2) := by decide +kernel
theorem dX3_agedAtLeast_5 : decode cX3_agedAtLeast 5 = .ok (.iload 4, 2) := by decide +kernel
theorem dX3_agedAtLeast_7 : decode cX3_agedAtLeast 7 = .ok (.aload_n 0, 1) := by decide +kernel
theorem dX3_agedAtLeast_8 : decode cX3_agedAtLeast 8 = .ok (.getfield 30, 3) := by decide +kernel
theorem dX3_agedAtLeast_11 : decode cX3_agedAtLeast 11 = .ok (.if_icmp .ge 27, 3) := by decide +kernel
theorem dX3_agedAtLeast_14 : decode cX3_agedAtLeast 14 = .ok (.aload_n 0, 1) := by decide +kernel
theorem dX3_agedAtLeast_15 : decode cX3_agedAtLeast 15 = .ok (.getfield 15, 3) := by decide +kernel
theorem dX3_agedAtLeast_18 : decode cX3_agedAtLeast 18 = .ok (.iload 4, 2) := by decide +kernel
theorem dX3_agedAtLeast_20 : decode cX3_agedAtLeast 20 = .ok (.iaload, 1) := by decide +kernel
theorem dX3_agedAtLeast_21 : decode cX3_agedAtLeast 21 = .ok (.iload_n 1, 1) := by decide +kernel
theorem dX3_agedAtLeast_22 : decode cX3_agedAtLeast 22 = .ok (.if_icmp .lt 10, 3) := by decide +kernel
theorem dX3_agedAtLeast_25 : decode cX3_agedAtLeast 25 = .ok (.lload_n 2, 1) := by decide +kernel
theorem dX3_agedAtLeast_26 : decode cX3_agedAtLeast 26 = .ok (.lconst 1, 1) := by decide +kernel
theorem dX3_agedAtLeast_27 : decode cX3_agedAtLeast 27 = .ok (.iload 4, 2) := by decide +kernel
theorem dX3_agedAtLeast_29 : decode cX3_agedAtLeast 29 = .ok (.lshl, 1) := by decide +kernel
theorem dX3_agedAtLeast_30 : decode cX3_agedAtLeast 30 = .ok (.lor, 1) := by decide +kernel
theorem dX3_agedAtLeast_31 : decode cX3_agedAtLeast 31 = .ok (.lstore_n 2, 1) := by decide +kernel
theorem dX3_agedAtLeast_32 : decode cX3_agedAtLeast 32 = .ok (.iinc 4 1, 3) := by decide +kernel
theorem dX3_agedAtLeast_35 : decode cX3_agedAtLeast 35 = .ok (.goto (-30), 3) := by decide +kernel
theorem dX3_agedAtLeast_38 : decode cX3_agedAtLeast 38 = .ok (.lload_n 2, 1) := by decide +kernel
theorem dX3_agedAtLeast_39 : decode cX3_agedAtLeast 39 = .ok (.lreturn, 1) := by decide +kernel
theorem dX4_init_0 : decode cX4_init 0 = .ok (.aload_n 0, 1) := by decide +kernel
theorem dX4_init_1 : decode cX4_init 1 = .ok (.invokespecial 3, 3) := by decide +kernel
theorem dX4_init_4 : decode cX4_init 4 = .ok (.aload_n 0, 1) := by decide +kernel
theorem dX4_init_5 : decode cX4_init 5 = .ok (.bipush 10, 2) := by decide +kernel
theorem dX4_init_7 : decode cX4_init 7 = .ok (.newarray .int, 2) := by decide +kernel
theorem dX4_init_9 : decode cX4_init 9 = .ok (.putfield 9, 3) := by decide +kernel
theorem dX4_init_12 : decode cX4_init 12 = .ok (.aload_n 0, 1) := by decide +kernel
theorem dX4_init_13 : decode cX4_init 13 = .ok (.bipush 10, 2) := by decide +kernel
theorem dX4_init_15 : decode cX4_init 15 = .ok (.newarray .long, 2) := by decide +kernel
theorem dX4_init_17 : decode cX4_init 17 = .ok (.putfield 15, 3) := by decide +kernel
theorem dX4_init_20 : decode cX4_init 20 = .ok (.return_, 1) := by decide +kernel
theorem dX4_pitch_0 : decode cX4_pitch 0 = .ok (.aload_n 0, 1) := by decide +kernel
theorem dX4_pitch_1 : decode cX4_pitch 1 = .ok (.getfield 19, 3) := by decide +kernel
theorem dX4_pitch_4 : decode cX4_pitch 4 = .ok (.istore_n 2, 1) := by decide +kernel
theorem dX4_pitch_5 : decode cX4_pitch 5 = .ok (.aload_n 0, 1) := by decide +kernel
theorem dX4_pitch_6 : decode cX4_pitch 6 = .ok (.getfield 9, 3) := by decide +kernel
theorem dX4_pitch_9 : decode cX4_pitch 9 = .ok (.iload_n 2, 1) := by decide +kernel
theorem dX4_pitch_10 : decode cX4_pitch 10 = .ok (.iload_n 1, 1) := by decide +kernel
theorem dX4_pitch_11 : decode cX4_pitch 11 = .ok (.iastore, 1) := by decide +kernel
theorem dX4_pitch_12 : decode cX4_pitch 12 = .ok (.aload_n 0, 1) := by decide +kernel
theorem dX4_pitch_13 : decode cX4_pitch 13 = .ok (.dup, 1) := by decide +kernel
theorem dX4_pitch_14 : decode cX4_pitch 14 = .ok (.getfield 19, 3) := by decide +kernel
theorem dX4_pitch_17 : decode cX4_pitch 17 = .ok (.iconst 1, 1) := by decide +kernel
theorem dX4_pitch_18 : decode cX4_pitch 18 = .ok (.iadd, 1) := by decide +kernel
theorem dX4_pitch_19 : decode cX4_pitch 19 = .ok (.putfield 19, 3) := by decide +kernel
theorem dX4_pitch_22 : decode cX4_pitch 22 = .ok (.iload_n 2, 1) := by decide +kernel
theorem dX4_pitch_23 : decode cX4_pitch 23 = .ok (.ireturn, 1) := by decide +kernel
theorem dX4_tentOf_0 : decode cX4_tentOf 0 = .ok (.iconst 0, 1) := by decide +kernel
theorem dX4_tentOf_1 : decode cX4_tentOf 1 = .ok (.istore_n 2, 1) := by decide +kernel
theorem dX4_tentOf_2 : decode cX4_tentOf 2 = .ok (.iload_n 2, 1) := by decide +kernel
theorem dX4_tentOf_3 : decode cX4_tentOf 3 = .ok (.aload_n 0, 1) := by decide +kernel
theorem dX4_tentOf_4 : decode cX4_tentOf 4 = .ok (.getfield 19, 3) := by decide +kernel
theorem dX4_tentOf_7 : decode cX4_tentOf 7 = .ok (.if_icmp .ge 26, 3) := by decide +kernel
theorem dX4_tentOf_10 : decode cX4_tentOf 10 = .ok (.aload_n 0, 1) := by decide +kernel
theorem dX4_tentOf_11 : decode cX4_tentOf 11 = .ok (.getfield 15, 3) := by decide +kernel
theorem dX4_tentOf_14 : decode cX4_tentOf 14 = .ok (.iload_n 2, 1) := by decide +kernel
theorem dX4_tentOf_15 : decode cX4_tentOf 15 = .ok (.laload, 1) := by decide +kernel
theorem dX4_tentOf_16 : decode cX4_tentOf 16 = .ok (.lconst 1, 1) := by decide +kernel
theorem dX4_tentOf_17 : decode cX4_tentOf 17 = .ok (.iload_n 1, 1) := by decide +kernel
theorem dX4_tentOf_18 : decode cX4_tentOf 18 = .ok (.lshl, 1) := by decide +kernel
theorem dX4_tentOf_19 : decode cX4_tentOf 19 = .ok (.land, 1) := by decide +kernel
theorem dX4_tentOf_20 : decode cX4_tentOf 20 = .ok (.lconst 0, 1) := by decide +kernel
theorem dX4_tentOf_21 : decode cX4_tentOf 21 = .ok (.lcmp, 1) := by decide +kernel
theorem dX4_tentOf_22 : decode cX4_tentOf 22 = .ok (.ifCond .eq 5, 3) := by decide +kernel
theorem dX4_tentOf_25 : decode cX4_tentOf 25 = .ok (.iload_n 2, 1) := by decide +kernel
theorem dX4_tentOf_26 : decode cX4_tentOf 26 = .ok (.ireturn, 1) := by decide +kernel
theorem dX4_tentOf_27 : decode cX4_tentOf 27 = .ok (.iinc 2 1, 3) := by decide +kernel
theorem dX4_tentOf_30 : decode cX4_tentOf 30 = .ok (.goto (-28), 3) := by decide +kernel
theorem dX4_tentOf_33 : decode cX4_tentOf 33 = .ok (.iconst (-1), 1) := by decide +kernel
theorem dX4_tentOf_34 : decode cX4_tentOf 34 = .ok (.ireturn, 1) := by decide +kernel
theorem dX4_leave_0 : decode cX4_leave 0 = .ok (.iload_n 1, 1) := by decide +kernel
theorem dX4_leave_1 : decode cX4_leave 1 = .ok (.iconst (-1), 1) := by decide +kernel
theorem dX4_leave_2 : decode cX4_leave 2 = .ok (.if_icmp .eq 19, 3) := by decide +kernel
theorem dX4_leave_5 : decode cX4_leave 5 = .ok (.aload_n 0, 1) := by decide +kernel
theorem dX4_leave_6 : decode cX4_leave 6 = .ok (.getfield 15, 3) := by decide +kernel
theorem dX4_leave_9 : decode cX4_leave 9 = .ok (.iload_n 1, 1) := by decide +kernel
theorem dX4_leave_10 : decode cX4_leave 10 = .ok (.dup2, 1) := by decide +kernel
theorem dX4_leave_11 : decode cX4_leave 11 = .ok (.laload, 1) := by decide +kernel
theorem dX4_leave_12 : decode cX4_leave 12 = .ok (.lconst 1, 1) := by decide +kernel
theorem dX4_leave_13 : decode cX4_leave 13 = .ok (.iload_n 2, 1) := by decide +kernel
theorem dX4_leave_14 : decode cX4_leave 14 = .ok (.lshl, 1) := by decide +kernel
theorem dX4_leave_15 : decode cX4_leave 15 = .ok (.ldc2_w 23, 3) := by decide +kernel
theorem dX4_leave_18 : decode cX4_leave 18 = .ok (.lxor, 1) := by decide +kernel
theorem dX4_leave_19 : decode cX4_leave 19 = .ok (.land, 1) := by decide +kernel
theorem dX4_leave_20 : decode cX4_leave 20 = .ok (.lastore, 1) := by decide +kernel
theorem dX4_leave_21 : decode cX4_leave 21 = .ok (.return_, 1) := by decide +kernel
theorem dX4_enter_0 : decode cX4_enter 0 = .ok (.iload_n 1, 1) := by decide +kernel
theorem dX4_enter_1 : decode cX4_enter 1 = .ok (.iconst (-1), 1) := by decide +kernel
theorem dX4_enter_2 : decode cX4_enter 2 = .ok (.if_icmp .eq 15, 3) := by decide +kernel
theorem dX4_enter_5 : decode cX4_enter 5 = .ok (.aload_n 0, 1) := by decide +kernel
theorem dX4_enter_6 : decode cX4_enter 6 = .ok (.getfield 15, 3) := by decide +kernel
theorem dX4_enter_9 : decode cX4_enter 9 = .ok (.iload_n 1, 1) := by decide +kernel
theorem dX4_enter_10 : decode cX4_enter 10 = .ok (.dup2, 1) := by decide +kernel
theorem dX4_enter_11 : decode cX4_enter 11 = .ok (.laload, 1) := by decide +kernel
theorem dX4_enter_12 : decode cX4_enter 12 = .ok (.lconst 1, 1) := by decide +kernel
theorem dX4_enter_13 : decode cX4_enter 13 = .ok (.iload_n 2, 1) := by decide +kernel
theorem dX4_enter_14 : decode cX4_enter 14 = .ok (.lshl, 1) := by decide +kernel
theorem dX4_enter_15 : decode cX4_enter 15 = .ok (.lor, 1) := by decide +kernel
theorem dX4_enter_16 : decode cX4_enter 16 = .ok (.lastore, 1) := by decide +kernel
theorem dX4_enter_17 : decode cX4_enter 17 = .ok (.return_, 1) := by decide +kernel
set_option maxRecDepth 20000 in
theorem ggX4_allSleepers_J13_bitCount_95d88 : GoodIn wsX4_allSleepers wsJ13_bitCount_95d88 := goodIn_r _ [6, 7, 8, 9] (by decide +kernel) (by decide +kernel)
set_option maxRecDepth 20000 in
theorem gX4_allSleepers_J13_bitCount_95d88 : GoodIn wsX4_allSleepers (va_wsS RX4 25 yJ13_bitCount_95d88 wsJ13_bitCount_95d88) := goodIn_app (goodIn_of _ (by decide +kernel)) ggX4_allSleepers_J13_bitCount_95d88
theorem dX4_allSleepers_0 : decode cX4_allSleepers 0 = .ok (.iconst 0, 1) := by decide +kernel
theorem dX4_allSleepers_1 : decode cX4_allSleepers 1 = .ok (.istore_n 1, 1) := by decide +kernel
theorem dX4_allSleepers_2 : decode cX4_allSleepers 2 = .ok (.iconst 0, 1) := by decide +kernel
theorem dX4_allSleepers_3 : decode cX4_allSleepers 3 = .ok (.istore_n 2, 1) := by decide +kernel
theorem dX4_allSleepers_4 : decode cX4_allSleepers 4 = .ok (.iload_n 2, 1) := by decide +kernel
theorem dX4_allSleepers_5 : decode cX4_allSleepers 5 = .ok (.aload_n 0, 1) := by decide +kernel
theorem dX4_allSleepers_6 : decode cX4_allSleepers 6 = .ok (.getfield 19, 3) := by decide +kernel
theorem dX4_allSleepers_9 : decode cX4_allSleepers 9 = .ok (.if_icmp .ge 21, 3) := by decide +kernel
theorem dX4_allSleepers_12 : decode cX4_allSleepers 12 = .ok (.iload_n 1, 1) := by decide +kernel
theorem dX4_allSleepers_13 : decode cX4_allSleepers 13 = .ok (.aload_n 0, 1) := by decide +kernel
theorem dX4_allSleepers_14 : decode cX4_allSleepers 14 = .ok (.getfield 15, 3) := by decide +kernel
theorem dX4_allSleepers_17 : decode cX4_allSleepers 17 = .ok (.iload_n 2, 1) := by decide +kernel
theorem dX4_allSleepers_18 : decode cX4_allSleepers 18 = .ok (.laload, 1) := by decide +kernel
theorem dX4_allSleepers_19 : decode cX4_allSleepers 19 = .ok (.invokestatic 25, 3) := by decide +kernel
theorem dX4_allSleepers_22 : decode cX4_allSleepers 22 = .ok (.iadd, 1) := by decide +kernel
theorem dX4_allSleepers_23 : decode cX4_allSleepers 23 = .ok (.istore_n 1, 1) := by decide +kernel
theorem dX4_allSleepers_24 : decode cX4_allSleepers 24 = .ok (.iinc 2 1, 3) := by decide +kernel
theorem dX4_allSleepers_27 : decode cX4_allSleepers 27 = .ok (.goto (-23), 3) := by decide +kernel
theorem dX4_allSleepers_30 : decode cX4_allSleepers 30 = .ok (.iload_n 1, 1) := by decide +kernel
theorem dX4_allSleepers_31 : decode cX4_allSleepers 31 = .ok (.ireturn, 1) := by decide +kernel
set_option maxRecDepth 20000 in
theorem ggX4_canTake_J13_bitCount_95d88 : GoodIn wsX4_canTake wsJ13_bitCount_95d88 := goodIn_r _ [6, 7, 8, 9] (by decide +kernel) (by decide +kernel)
set_option maxRecDepth 20000 in
theorem gX4_canTake_J13_bitCount_95d88 : GoodIn wsX4_canTake (va_wsS RX4 25 yJ13_bitCount_95d88 wsJ13_bitCount_95d88) := goodIn_app (goodIn_of _ (by decide +kernel)) ggX4_canTake_J13_bitCount_95d88
set_option maxRecDepth 20000 in
theorem ggX4_canTake_X4_agesFit : GoodIn wsX4_canTake wsX4_agesFit := goodIn_r _ [14, 15, 1, 16, 17, 18, 19, 20, 24, 25, 26, 27, 28, 29, 30, 31, 21, 22, 23] (by decide +kernel) (by decide +kernel)
set_option maxRecDepth 20000 in
theorem gX4_canTake_X4_agesFit : GoodIn wsX4_canTake (wsV RX4 31 RX4 yX4_agesFit wsX4_agesFit) := goodIn_app (goodIn_of _ (by decide +kernel)) ggX4_canTake_X4_agesFit
theorem dX4_canTake_0 : decode cX4_canTake 0 = .ok (.aload_n 0, 1) := by decide +kernel
theorem dX4_canTake_1 : decode cX4_canTake 1 = .ok (.getfield 15, 3) := by decide +kernel
theorem dX4_canTake_4 : decode cX4_canTake 4 = .ok (.iload_n 1, 1) := by decide +kernel
theorem dX4_canTake_5 : decode cX4_canTake 5 = .ok (.laload, 1) := by decide +kernel
theorem dX4_canTake_6 : decode cX4_canTake 6 = .ok (.invokestatic 25, 3) := by decide +kernel
theorem dX4_canTake_9 : decode cX4_canTake 9 = .ok (.aload_n 0, 1) := by decide +kernel
theorem dX4_canTake_10 : decode cX4_canTake 10 = .ok (.getfield 9, 3) := by decide +kernel
theorem dX4_canTake_13 : decode cX4_canTake 13 = .ok (.iload_n 1, 1) := by decide +kernel
theorem dX4_canTake_14 : decode cX4_canTake 14 = .ok (.iaload, 1) := by decide +kernel
theorem dX4_canTake_15 : decode cX4_canTake 15 = .ok (.if_icmp .ge 17, 3) := by decide +kernel
theorem dX4_canTake_18 : decode cX4_canTake 18 = .ok (.aload_n 0, 1) := by decide +kernel
theorem dX4_canTake_19 : decode cX4_canTake 19 = .ok (.iload_n 1, 1) := by decide +kernel
theorem dX4_canTake_20 : decode cX4_canTake 20 = .ok (.iload_n 2, 1) := by decide +kernel
theorem dX4_canTake_21 : decode cX4_canTake 21 = .ok (.aload_n 3, 1) := by decide +kernel
theorem dX4_canTake_22 : decode cX4_canTake 22 = .ok (.invokevirtual 31, 3) := by decide +kernel
theorem dX4_canTake_25 : decode cX4_canTake 25 = .ok (.ifCond .eq 7, 3) := by decide +kernel
theorem dX4_canTake_28 : decode cX4_canTake 28 = .ok (.iconst 1, 1) := by decide +kernel
theorem dX4_canTake_29 : decode cX4_canTake 29 = .ok (.goto 4, 3) := by decide +kernel
theorem dX4_canTake_32 : decode cX4_canTake 32 = .ok (.iconst 0, 1) := by decide +kernel
theorem dX4_canTake_33 : decode cX4_canTake 33 = .ok (.ireturn, 1) := by decide +kernel
theorem dX4_agesFit_0 : decode cX4_agesFit 0 = .ok (.iconst 0, 1) := by decide +kernel
theorem dX4_agesFit_1 : decode cX4_agesFit 1 = .ok (.istore 4, 2) := by decide +kernel
theorem dX4_agesFit_3 : decode cX4_agesFit 3 = .ok (.iload 4, 2) := by decide +kernel
theorem dX4_agesFit_5 : decode cX4_agesFit 5 = .ok (.aload_n 3, 1) := by decide +kernel
theorem dX4_agesFit_6 : decode cX4_agesFit 6 = .ok (.getfield 35, 3) := by decide +kernel
theorem dX4_agesFit_9 : decode cX4_agesFit 9 = .ok (.if_icmp .ge 60, 3) := by decide +kernel
theorem dX4_agesFit_12 : decode cX4_agesFit 12 = .ok (.aload_n 0, 1) := by decide +kernel
theorem dX4_agesFit_13 : decode cX4_agesFit 13 = .ok (.getfield 15, 3) := by decide +kernel
theorem dX4_agesFit_16 : decode cX4_agesFit 16 = .ok (.iload_n 1, 1) := by decide +kernel
theorem dX4_agesFit_17 : decode cX4_agesFit 17 = .ok (.laload, 1) := by decide +kernel
theorem dX4_agesFit_18 : decode cX4_agesFit 18 = .ok (.lconst 1, 1) := by decide +kernel
theorem dX4_agesFit_19 : decode cX4_agesFit 19 = .ok (.iload 4, 2) := by decide +kernel
theorem dX4_agesFit_21 : decode cX4_agesFit 21 = .ok (.lshl, 1) := by decide +kernel
theorem dX4_agesFit_22 : decode cX4_agesFit 22 = .ok (.land, 1) := by decide +kernel
theorem dX4_agesFit_23 : decode cX4_agesFit 23 = .ok (.lconst 0, 1) := by decide +kernel
theorem dX4_agesFit_24 : decode cX4_agesFit 24 = .ok (.lcmp, 1) := by decide +kernel
theorem dX4_agesFit_25 : decode cX4_agesFit 25 = .ok (.ifCond .eq 7, 3) := by decide +kernel
theorem dX4_agesFit_28 : decode cX4_agesFit 28 = .ok (.iconst 1, 1) := by decide +kernel
theorem dX4_agesFit_29 : decode cX4_agesFit 29 = .ok (.goto 4, 3) := by decide +kernel
theorem dX4_agesFit_32 : decode cX4_agesFit 32 = .ok (.iconst 0, 1) := by decide +kernel
theorem dX4_agesFit_33 : decode cX4_agesFit 33 = .ok (.istore 5, 2) := by decide +kernel
theorem dX4_agesFit_35 : decode cX4_agesFit 35 = .ok (.iload 5, 2) := by decide +kernel
theorem dX4_agesFit_37 : decode cX4_agesFit 37 = .ok (.ifCond .eq 26, 3) := by decide +kernel
theorem dX4_agesFit_40 : decode cX4_agesFit 40 = .ok (.aload_n 3, 1) := by decide +kernel
theorem dX4_agesFit_41 : decode cX4_agesFit 41 = .ok (.getfield 40, 3) := by decide +kernel
theorem dX4_agesFit_44 : decode cX4_agesFit 44 = .ok (.iload 4, 2) := by decide +kernel
theorem dX4_agesFit_46 : decode cX4_agesFit 46 = .ok (.iaload, 1) := by decide +kernel
theorem dX4_agesFit_47 : decode cX4_agesFit 47 = .ok (.aload_n 3, 1) := by decide +kernel
theorem dX4_agesFit_48 : decode cX4_agesFit 48 = .ok (.getfield 40, 3) := by decide +kernel
theorem dX4_agesFit_51 : decode cX4_agesFit 51 = .ok (.iload_n 2, 1) := by decide +kernel
theorem dX4_agesFit_52 : decode cX4_agesFit 52 = .ok (.iaload, 1) := by decide +kernel
theorem dX4_agesFit_53 : decode cX4_agesFit 53 = .ok (.isub, 1) := by decide +kernel
theorem dX4_agesFit_54 : decode cX4_agesFit 54 = .ok (.invokestatic 43, 3) := by decide +kernel
theorem dX4_agesFit_57 : decode cX4_agesFit 57 = .ok (.iconst 3, 1) := by decide +kernel
theorem dX4_agesFit_58 : decode cX4_agesFit 58 = .ok (.if_icmp .le 5, 3) := by decide +kernel
theorem dX4_agesFit_61 : decode cX4_agesFit 61 = .ok (.iconst 0, 1) := by decide +kernel
theorem dX4_agesFit_62 : decode cX4_agesFit 62 = .ok (.ireturn, 1) := by decide +kernel
theorem dX4_agesFit_63 : decode cX4_agesFit 63 = .ok (.iinc 4 1, 3) := by decide +kernel
theorem dX4_agesFit_66 : decode cX4_agesFit 66 = .ok (.goto (-63), 3) := by decide +kernel
theorem dX4_agesFit_69 : decode cX4_agesFit 69 = .ok (.iconst 1, 1) := by decide +kernel
theorem dX4_agesFit_70 : decode cX4_agesFit 70 = .ok (.ireturn, 1) := by decide +kernel
set_option maxRecDepth 20000 in
theorem ggX4_bestFor_X3_membersOf : GoodIn wsX4_bestFor wsX3_membersOf := goodIn_r _ [7, 8, 9, 38, 39, 40, 41, 42, 43, 44, 45] (by decide +kernel) (by decide +kernel)
set_option maxRecDepth 20000 in
theorem gX4_bestFor_X3_membersOf : GoodIn wsX4_bestFor (wsV RX4 52 RX3 yX3_membersOf wsX3_membersOf) := goodIn_app (goodIn_of _ (by decide +kernel)) ggX4_bestFor_X3_membersOf
set_option maxRecDepth 20000 in
theorem ggX4_bestFor_X4_rankOf : GoodIn wsX4_bestFor wsX4_rankOf := goodIn_r _ [14, 15, 16, 17, 18, 19, 20, 21, 22, 46, 47, 48] (by decide +kernel) (by decide +kernel)
set_option maxRecDepth 20000 in
theorem gX4_bestFor_X4_rankOf : GoodIn wsX4_bestFor (wsV RX4 56 RX4 yX4_rankOf wsX4_rankOf) := goodIn_app (goodIn_of _ (by decide +kernel)) ggX4_bestFor_X4_rankOf
set_option maxRecDepth 20000 in
theorem ggX4_bestFor_X4_canTake : GoodIn wsX4_bestFor wsX4_canTake := goodIn_r _ [26, 15, 27, 16, 17, 18, 19, 20, 21, 22, 28, 29, 30, 13, 31, 32, 33, 34, 35, 36, 37, 46, 47, 48, 38, 39, 40, 41, 42, 43, 44, 45] (by decide +kernel) (by decide +kernel)
set_option maxRecDepth 20000 in
theorem gX4_bestFor_X4_canTake : GoodIn wsX4_bestFor (wsV RX4 60 RX4 yX4_canTake wsX4_canTake) := goodIn_app (goodIn_of _ (by decide +kernel)) ggX4_bestFor_X4_canTake
theorem dX4_bestFor_0 : decode cX4_bestFor 0 = .ok (.aload_n 2, 1) := by decide +kernel
theorem dX4_bestFor_1 : decode cX4_bestFor 1 = .ok (.aload_n 2, 1) := by decide +kernel
theorem dX4_bestFor_2 : decode cX4_bestFor 2 = .ok (.getfield 49, 3) := by decide +kernel
theorem dX4_bestFor_5 : decode cX4_bestFor 5 = .ok (.iload_n 1, 1) := by decide +kernel
theorem dX4_bestFor_6 : decode cX4_bestFor 6 = .ok (.iaload, 1) := by decide +kernel
theorem dX4_bestFor_7 : decode cX4_bestFor 7 = .ok (.invokevirtual 52, 3) := by decide +kernel
theorem dX4_bestFor_10 : decode cX4_bestFor 10 = .ok (.lstore_n 3, 1) := by decide +kernel
theorem dX4_bestFor_11 : decode cX4_bestFor 11 = .ok (.iconst (-1), 1) := by decide +kernel
theorem dX4_bestFor_12 : decode cX4_bestFor 12 = .ok (.istore 5, 2) := by decide +kernel
theorem dX4_bestFor_14 : decode cX4_bestFor 14 = .ok (.iconst (-1), 1) := by decide +kernel
theorem dX4_bestFor_15 : decode cX4_bestFor 15 = .ok (.istore 6, 2) := by decide +kernel
theorem dX4_bestFor_17 : decode cX4_bestFor 17 = .ok (.iconst 0, 1) := by decide +kernel
theorem dX4_bestFor_18 : decode cX4_bestFor 18 = .ok (.istore 7, 2) := by decide +kernel
theorem dX4_bestFor_20 : decode cX4_bestFor 20 = .ok (.iload 7, 2) := by decide +kernel
theorem dX4_bestFor_22 : decode cX4_bestFor 22 = .ok (.aload_n 0, 1) := by decide +kernel
theorem dX4_bestFor_23 : decode cX4_bestFor 23 = .ok (.getfield 19, 3) := by decide +kernel
theorem dX4_bestFor_26 : decode cX4_bestFor 26 = .ok (.if_icmp .ge 44, 3) := by decide +kernel
theorem dX4_bestFor_29 : decode cX4_bestFor 29 = .ok (.aload_n 0, 1) := by decide +kernel
theorem dX4_bestFor_30 : decode cX4_bestFor 30 = .ok (.iload 7, 2) := by decide +kernel
theorem dX4_bestFor_32 : decode cX4_bestFor 32 = .ok (.lload_n 3, 1) := by decide +kernel
theorem dX4_bestFor_33 : decode cX4_bestFor 33 = .ok (.invokevirtual 56, 3) := by decide +kernel
theorem dX4_bestFor_36 : decode cX4_bestFor 36 = .ok (.istore 8, 2) := by decide +kernel
theorem dX4_bestFor_38 : decode cX4_bestFor 38 = .ok (.iload 8, 2) := by decide +kernel
theorem dX4_bestFor_40 : decode cX4_bestFor 40 = .ok (.iload 6, 2) := by decide +kernel
theorem dX4_bestFor_42 : decode cX4_bestFor 42 = .ok (.if_icmp .le 22, 3) := by decide +kernel
theorem dX4_bestFor_45 : decode cX4_bestFor 45 = .ok (.aload_n 0, 1) := by decide +kernel
theorem dX4_bestFor_46 : decode cX4_bestFor 46 = .ok (.iload 7, 2) := by decide +kernel
theorem dX4_bestFor_48 : decode cX4_bestFor 48 = .ok (.iload_n 1, 1) := by decide +kernel
theorem dX4_bestFor_49 : decode cX4_bestFor 49 = .ok (.aload_n 2, 1) := by decide +kernel
theorem dX4_bestFor_50 : decode cX4_bestFor 50 = .ok (.invokevirtual 60, 3) := by decide +kernel
theorem dX4_bestFor_53 : decode cX4_bestFor 53 = .ok (.ifCond .eq 11, 3) := by decide +kernel
theorem dX4_bestFor_56 : decode cX4_bestFor 56 = .ok (.iload 7, 2) := by decide +kernel
theorem dX4_bestFor_58 : decode cX4_bestFor 58 = .ok (.istore 5, 2) := by decide +kernel
theorem dX4_bestFor_60 : decode cX4_bestFor 60 = .ok (.iload 8, 2) := by decide +kernel
theorem dX4_bestFor_62 : decode cX4_bestFor 62 = .ok (.istore 6, 2) := by decide +kernel
theorem dX4_bestFor_64 : decode cX4_bestFor 64 = .ok (.iinc 7 1, 3) := by decide +kernel
theorem dX4_bestFor_67 : decode cX4_bestFor 67 = .ok (.goto (-47), 3) := by decide +kernel
theorem dX4_bestFor_70 : decode cX4_bestFor 70 = .ok (.iload 5, 2) := by decide +kernel
theorem dX4_bestFor_72 : decode cX4_bestFor 72 = .ok (.ireturn, 1) := by decide +kernel
set_option maxRecDepth 20000 in
theorem ggX4_rankOf_J13_bitCount_95d88 : GoodIn wsX4_rankOf wsJ13_bitCount_95d88 := goodIn_r _ [5, 6, 7, 8] (by decide +kernel) (by decide +kernel)
set_option maxRecDepth 20000 in
theorem gX4_rankOf_J13_bitCount_95d88 : GoodIn wsX4_rankOf (va_wsS RX4 25 yJ13_bitCount_95d88 wsJ13_bitCount_95d88) := goodIn_app (goodIn_of _ (by decide +kernel)) ggX4_rankOf_J13_bitCount_95d88
theorem dX4_rankOf_0 : decode cX4_rankOf 0 = .ok (.aload_n 0, 1) := by decide +kernel
theorem dX4_rankOf_1 : decode cX4_rankOf 1 = .ok (.getfield 15, 3) := by decide +kernel
theorem dX4_rankOf_4 : decode cX4_rankOf 4 = .ok (.iload_n 1, 1) := by decide +kernel
theorem dX4_rankOf_5 : decode cX4_rankOf 5 = .ok (.laload, 1) := by decide +kernel
theorem dX4_rankOf_6 : decode cX4_rankOf 6 = .ok (.lload_n 2, 1) := by decide +kernel
theorem dX4_rankOf_7 : decode cX4_rankOf 7 = .ok (.land, 1) := by decide +kernel
theorem dX4_rankOf_8 : decode cX4_rankOf 8 = .ok (.invokestatic 25, 3) := by decide +kernel
