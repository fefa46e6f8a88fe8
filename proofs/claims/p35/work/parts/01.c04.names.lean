theorem dJ6_bitCount_0f7a4_33 : decode cJ6_bitCount_0f7a4 33 = .ok (.istore_n 0, 1) := by decide +kernel
theorem dJ6_bitCount_0f7a4_34 : decode cJ6_bitCount_0f7a4 34 = .ok (.iload_n 0, 1) := by decide +kernel
theorem dJ6_bitCount_0f7a4_35 : decode cJ6_bitCount_0f7a4 35 = .ok (.iload_n 0, 1) := by decide +kernel
theorem dJ6_bitCount_0f7a4_36 : decode cJ6_bitCount_0f7a4 36 = .ok (.bipush 8, 2) := by decide +kernel
theorem dJ6_bitCount_0f7a4_38 : decode cJ6_bitCount_0f7a4 38 = .ok (.iushr, 1) := by decide +kernel
theorem dJ6_bitCount_0f7a4_39 : decode cJ6_bitCount_0f7a4 39 = .ok (.iadd, 1) := by decide +kernel
theorem dJ6_bitCount_0f7a4_40 : decode cJ6_bitCount_0f7a4 40 = .ok (.istore_n 0, 1) := by decide +kernel
theorem dJ6_bitCount_0f7a4_41 : decode cJ6_bitCount_0f7a4 41 = .ok (.iload_n 0, 1) := by decide +kernel
theorem dJ6_bitCount_0f7a4_42 : decode cJ6_bitCount_0f7a4 42 = .ok (.iload_n 0, 1) := by decide +kernel
theorem dJ6_bitCount_0f7a4_43 : decode cJ6_bitCount_0f7a4 43 = .ok (.bipush 16, 2) := by decide +kernel
theorem dJ6_bitCount_0f7a4_45 : decode cJ6_bitCount_0f7a4 45 = .ok (.iushr, 1) := by decide +kernel
theorem dJ6_bitCount_0f7a4_46 : decode cJ6_bitCount_0f7a4 46 = .ok (.iadd, 1) := by decide +kernel
theorem dJ6_bitCount_0f7a4_47 : decode cJ6_bitCount_0f7a4 47 = .ok (.istore_n 0, 1) := by decide +kernel
theorem dJ6_bitCount_0f7a4_48 : decode cJ6_bitCount_0f7a4 48 = .ok (.iload_n 0, 1) := by decide +kernel
theorem dJ6_bitCount_0f7a4_49 : decode cJ6_bitCount_0f7a4 49 = .ok (.bipush 63, 2) := by decide +kernel
theorem dJ6_bitCount_0f7a4_51 : decode cJ6_bitCount_0f7a4 51 = .ok (.iand, 1) := by decide +kernel
theorem dJ6_bitCount_0f7a4_52 : decode cJ6_bitCount_0f7a4 52 = .ok (.ireturn, 1) := by decide +kernel
theorem dJ13_bitCount_95d88_0 : decode cJ13_bitCount_95d88 0 = .ok (.lload_n 0, 1) := by decide +kernel
theorem dJ13_bitCount_95d88_1 : decode cJ13_bitCount_95d88 1 = .ok (.lload_n 0, 1) := by decide +kernel
theorem dJ13_bitCount_95d88_2 : decode cJ13_bitCount_95d88 2 = .ok (.iconst 1, 1) := by decide +kernel
theorem dJ13_bitCount_95d88_3 : decode cJ13_bitCount_95d88 3 = .ok (.lushr, 1) := by decide +kernel
theorem dJ13_bitCount_95d88_4 : decode cJ13_bitCount_95d88 4 = .ok (.ldc2_w 314, 3) := by decide +kernel
theorem dJ13_bitCount_95d88_7 : decode cJ13_bitCount_95d88 7 = .ok (.land, 1) := by decide +kernel
theorem dJ13_bitCount_95d88_8 : decode cJ13_bitCount_95d88 8 = .ok (.lsub, 1) := by decide +kernel
theorem dJ13_bitCount_95d88_9 : decode cJ13_bitCount_95d88 9 = .ok (.lstore_n 0, 1) := by decide +kernel
theorem dJ13_bitCount_95d88_10 : decode cJ13_bitCount_95d88 10 = .ok (.lload_n 0, 1) := by decide +kernel
theorem dJ13_bitCount_95d88_11 : decode cJ13_bitCount_95d88 11 = .ok (.ldc2_w 316, 3) := by decide +kernel
theorem dJ13_bitCount_95d88_14 : decode cJ13_bitCount_95d88 14 = .ok (.land, 1) := by decide +kernel
theorem dJ13_bitCount_95d88_15 : decode cJ13_bitCount_95d88 15 = .ok (.lload_n 0, 1) := by decide +kernel
theorem dJ13_bitCount_95d88_16 : decode cJ13_bitCount_95d88 16 = .ok (.iconst 2, 1) := by decide +kernel
theorem dJ13_bitCount_95d88_17 : decode cJ13_bitCount_95d88 17 = .ok (.lushr, 1) := by decide +kernel
theorem dJ13_bitCount_95d88_18 : decode cJ13_bitCount_95d88 18 = .ok (.ldc2_w 316, 3) := by decide +kernel
theorem dJ13_bitCount_95d88_21 : decode cJ13_bitCount_95d88 21 = .ok (.land, 1) := by decide +kernel
theorem dJ13_bitCount_95d88_22 : decode cJ13_bitCount_95d88 22 = .ok (.ladd, 1) := by decide +kernel
theorem dJ13_bitCount_95d88_23 : decode cJ13_bitCount_95d88 23 = .ok (.lstore_n 0, 1) := by decide +kernel
theorem dJ13_bitCount_95d88_24 : decode cJ13_bitCount_95d88 24 = .ok (.lload_n 0, 1) := by decide +kernel
theorem dJ13_bitCount_95d88_25 : decode cJ13_bitCount_95d88 25 = .ok (.lload_n 0, 1) := by decide +kernel
theorem dJ13_bitCount_95d88_26 : decode cJ13_bitCount_95d88 26 = .ok (.iconst 4, 1) := by decide +kernel
theorem dJ13_bitCount_95d88_27 : decode cJ13_bitCount_95d88 27 = .ok (.lushr, 1) := by decide +kernel
theorem dJ13_bitCount_95d88_28 : decode cJ13_bitCount_95d88 28 = .ok (.ladd, 1) := by decide +kernel
theorem dJ13_bitCount_95d88_29 : decode cJ13_bitCount_95d88 29 = .ok (.ldc2_w 318, 3) := by decide +kernel
theorem dJ13_bitCount_95d88_32 : decode cJ13_bitCount_95d88 32 = .ok (.land, 1) := by decide +kernel
theorem dJ13_bitCount_95d88_33 : decode cJ13_bitCount_95d88 33 = .ok (.lstore_n 0, 1) := by decide +kernel
theorem dJ13_bitCount_95d88_34 : decode cJ13_bitCount_95d88 34 = .ok (.lload_n 0, 1) := by decide +kernel
theorem dJ13_bitCount_95d88_35 : decode cJ13_bitCount_95d88 35 = .ok (.lload_n 0, 1) := by decide +kernel
theorem dJ13_bitCount_95d88_36 : decode cJ13_bitCount_95d88 36 = .ok (.bipush 8, 2) := by decide +kernel
theorem dJ13_bitCount_95d88_38 : decode cJ13_bitCount_95d88 38 = .ok (.lushr, 1) := by decide +kernel
theorem dJ13_bitCount_95d88_39 : decode cJ13_bitCount_95d88 39 = .ok (.ladd, 1) := by decide +kernel
theorem dJ13_bitCount_95d88_40 : decode cJ13_bitCount_95d88 40 = .ok (.lstore_n 0, 1) := by decide +kernel
theorem dJ13_bitCount_95d88_41 : decode cJ13_bitCount_95d88 41 = .ok (.lload_n 0, 1) := by decide +kernel
theorem dJ13_bitCount_95d88_42 : decode cJ13_bitCount_95d88 42 = .ok (.lload_n 0, 1) := by decide +kernel
theorem dJ13_bitCount_95d88_43 : decode cJ13_bitCount_95d88 43 = .ok (.bipush 16, 2) := by decide +kernel
theorem dJ13_bitCount_95d88_45 : decode cJ13_bitCount_95d88 45 = .ok (.lushr, 1) := by decide +kernel
theorem dJ13_bitCount_95d88_46 : decode cJ13_bitCount_95d88 46 = .ok (.ladd, 1) := by decide +kernel
theorem dJ13_bitCount_95d88_47 : decode cJ13_bitCount_95d88 47 = .ok (.lstore_n 0, 1) := by decide +kernel
theorem dJ13_bitCount_95d88_48 : decode cJ13_bitCount_95d88 48 = .ok (.lload_n 0, 1) := by decide +kernel
theorem dJ13_bitCount_95d88_49 : decode cJ13_bitCount_95d88 49 = .ok (.lload_n 0, 1) := by decide +kernel
theorem dJ13_bitCount_95d88_50 : decode cJ13_bitCount_95d88 50 = .ok (.bipush 32, 2) := by decide +kernel
theorem dJ13_bitCount_95d88_52 : decode cJ13_bitCount_95d88 52 = .ok (.lushr, 1) := by decide +kernel
theorem dJ13_bitCount_95d88_53 : decode cJ13_bitCount_95d88 53 = .ok (.ladd, 1) := by decide +kernel
theorem dJ13_bitCount_95d88_54 : decode cJ13_bitCount_95d88 54 = .ok (.lstore_n 0, 1) := by decide +kernel
theorem dJ13_bitCount_95d88_55 : decode cJ13_bitCount_95d88 55 = .ok (.lload_n 0, 1) := by decide +kernel
theorem dJ13_bitCount_95d88_56 : decode cJ13_bitCount_95d88 56 = .ok (.l2i, 1) := by decide +kernel
theorem dJ13_bitCount_95d88_57 : decode cJ13_bitCount_95d88 57 = .ok (.bipush 127, 2) := by decide +kernel
theorem dJ13_bitCount_95d88_59 : decode cJ13_bitCount_95d88 59 = .ok (.iand, 1) := by decide +kernel
theorem dJ13_bitCount_95d88_60 : decode cJ13_bitCount_95d88 60 = .ok (.ireturn, 1) := by decide +kernel
theorem dJ9_abs_0f7a4_0 : decode cJ9_abs_0f7a4 0 = .ok (.iload_n 0, 1) := by decide +kernel
theorem dJ9_abs_0f7a4_1 : decode cJ9_abs_0f7a4 1 = .ok (.ifCond .ge 8, 3) := by decide +kernel
theorem dJ9_abs_0f7a4_4 : decode cJ9_abs_0f7a4 4 = .ok (.iload_n 0, 1) := by decide +kernel
theorem dJ9_abs_0f7a4_5 : decode cJ9_abs_0f7a4 5 = .ok (.ineg, 1) := by decide +kernel
theorem dJ9_abs_0f7a4_6 : decode cJ9_abs_0f7a4 6 = .ok (.goto 4, 3) := by decide +kernel
theorem dJ9_abs_0f7a4_9 : decode cJ9_abs_0f7a4 9 = .ok (.iload_n 0, 1) := by decide +kernel
theorem dJ9_abs_0f7a4_10 : decode cJ9_abs_0f7a4 10 = .ok (.ireturn, 1) := by decide +kernel
theorem dJ9_max_7cf53_0 : decode cJ9_max_7cf53 0 = .ok (.iload_n 0, 1) := by decide +kernel
theorem dJ9_max_7cf53_1 : decode cJ9_max_7cf53 1 = .ok (.iload_n 1, 1) := by decide +kernel
theorem dJ9_max_7cf53_2 : decode cJ9_max_7cf53 2 = .ok (.if_icmp .lt 7, 3) := by decide +kernel
theorem dJ9_max_7cf53_5 : decode cJ9_max_7cf53 5 = .ok (.iload_n 0, 1) := by decide +kernel
theorem dJ9_max_7cf53_6 : decode cJ9_max_7cf53 6 = .ok (.goto 4, 3) := by decide +kernel
theorem dJ9_max_7cf53_9 : decode cJ9_max_7cf53 9 = .ok (.iload_n 1, 1) := by decide +kernel
theorem dJ9_max_7cf53_10 : decode cJ9_max_7cf53 10 = .ok (.ireturn, 1) := by decide +kernel
theorem dJ9_min_7cf53_0 : decode cJ9_min_7cf53 0 = .ok (.iload_n 0, 1) := by decide +kernel
theorem dJ9_min_7cf53_1 : decode cJ9_min_7cf53 1 = .ok (.iload_n 1, 1) := by decide +kernel
theorem dJ9_min_7cf53_2 : decode cJ9_min_7cf53 2 = .ok (.if_icmp .gt 7, 3) := by decide +kernel
theorem dJ9_min_7cf53_5 : decode cJ9_min_7cf53 5 = .ok (.iload_n 0, 1) := by decide +kernel
theorem dJ9_min_7cf53_6 : decode cJ9_min_7cf53 6 = .ok (.goto 4, 3) := by decide +kernel
theorem dJ9_min_7cf53_9 : decode cJ9_min_7cf53 9 = .ok (.iload_n 1, 1) := by decide +kernel
theorem dJ9_min_7cf53_10 : decode cJ9_min_7cf53 10 = .ok (.ireturn, 1) := by decide +kernel
theorem dJ7_fill_53178_0 : decode cJ7_fill_53178 0 = .ok (.iconst 0, 1) := by decide +kernel
theorem dJ7_fill_53178_1 : decode cJ7_fill_53178 1 = .ok (.istore_n 2, 1) := by decide +kernel
theorem dJ7_fill_53178_2 : decode cJ7_fill_53178 2 = .ok (.aload_n 0, 1) := by decide +kernel
theorem dJ7_fill_53178_3 : decode cJ7_fill_53178 3 = .ok (.arraylength, 1) := by decide +kernel
theorem dJ7_fill_53178_4 : decode cJ7_fill_53178 4 = .ok (.istore_n 3, 1) := by decide +kernel
theorem dJ7_fill_53178_5 : decode cJ7_fill_53178 5 = .ok (.iload_n 2, 1) := by decide +kernel
theorem dJ7_fill_53178_6 : decode cJ7_fill_53178 6 = .ok (.iload_n 3, 1) := by decide +kernel
theorem dJ7_fill_53178_7 : decode cJ7_fill_53178 7 = .ok (.if_icmp .ge 13, 3) := by decide +kernel
theorem dJ7_fill_53178_10 : decode cJ7_fill_53178 10 = .ok (.aload_n 0, 1) := by decide +kernel
theorem dJ7_fill_53178_11 : decode cJ7_fill_53178 11 = .ok (.iload_n 2, 1) := by decide +kernel
theorem dJ7_fill_53178_12 : decode cJ7_fill_53178 12 = .ok (.iload_n 1, 1) := by decide +kernel
theorem dJ7_fill_53178_13 : decode cJ7_fill_53178 13 = .ok (.iastore, 1) := by decide +kernel
theorem dJ7_fill_53178_14 : decode cJ7_fill_53178 14 = .ok (.iinc 2 1, 3) := by decide +kernel
theorem dJ7_fill_53178_17 : decode cJ7_fill_53178 17 = .ok (.goto (-12), 3) := by decide +kernel
theorem dJ7_fill_53178_20 : decode cJ7_fill_53178 20 = .ok (.return_, 1) := by decide +kernel
theorem dL_below_0 : decode cL_below 0 = .ok (.iload_n 0, 1) := by decide +kernel
theorem dL_below_1 : decode cL_below 1 = .ok (.ldc 7, 2) := by decide +kernel
theorem dL_below_3 : decode cL_below 3 = .ok (.iand, 1) := by decide +kernel
theorem dL_below_4 : decode cL_below 4 = .ok (.iload_n 1, 1) := by decide +kernel
theorem dL_below_5 : decode cL_below 5 = .ok (.irem, 1) := by decide +kernel
theorem dL_below_6 : decode cL_below 6 = .ok (.ireturn, 1) := by decide +kernel
theorem dL_cell_0 : decode cL_cell 0 = .ok (.iload_n 1, 1) := by decide +kernel
theorem dL_cell_1 : decode cL_cell 1 = .ok (.aload_n 0, 1) := by decide +kernel
theorem dL_cell_2 : decode cL_cell 2 = .ok (.arraylength, 1) := by decide +kernel
theorem dL_cell_3 : decode cL_cell 3 = .ok (.if_icmp .ge 9, 3) := by decide +kernel
theorem dL_cell_6 : decode cL_cell 6 = .ok (.aload_n 0, 1) := by decide +kernel
theorem dL_cell_7 : decode cL_cell 7 = .ok (.iload_n 1, 1) := by decide +kernel
theorem dL_cell_8 : decode cL_cell 8 = .ok (.iaload, 1) := by decide +kernel
theorem dL_cell_9 : decode cL_cell 9 = .ok (.goto 9, 3) := by decide +kernel
theorem dL_cell_12 : decode cL_cell 12 = .ok (.ldc 8, 2) := by decide +kernel
theorem dL_cell_14 : decode cL_cell 14 = .ok (.iload_n 1, 1) := by decide +kernel
theorem dL_cell_15 : decode cL_cell 15 = .ok (.iconst 3, 1) := by decide +kernel
theorem dL_cell_16 : decode cL_cell 16 = .ok (.iadd, 1) := by decide +kernel
theorem dL_cell_17 : decode cL_cell 17 = .ok (.imul, 1) := by decide +kernel
theorem dL_cell_18 : decode cL_cell 18 = .ok (.ireturn, 1) := by decide +kernel
set_option maxRecDepth 20000 in
theorem ggL_scouts_X5_addPatrol : GoodIn wsL_scouts wsX5_addPatrol := goodIn_ca (goodIn_r _ [5, 6, 7, 8, 9, 43, 44, 45, 46, 47, 48, 49, 50, 51, 52, 53, 54, 55, 56] (by decide +kernel) (by decide +kernel)) (goodIn_sub (fun _ h => List.mem_cons_of_mem _ (List.mem_append_left _ (List.mem_append_left _ (List.mem_append_right _ h)))) (by decide +kernel))
set_option maxRecDepth 20000 in
theorem gL_scouts_X5_addPatrol : GoodIn wsL_scouts (wsV RL 9 RX5 yX5_addPatrol wsX5_addPatrol) := goodIn_app (goodIn_of _ (by decide +kernel)) ggL_scouts_X5_addPatrol
set_option maxRecDepth 20000 in
theorem ggL_scouts_L_cell : GoodIn wsL_scouts wsL_cell := goodIn_r _ [13, 14] (by decide +kernel) (by decide +kernel)
set_option maxRecDepth 20000 in
theorem gL_scouts_L_cell : GoodIn wsL_scouts (va_wsS RL 15 yL_cell wsL_cell) := goodIn_app (goodIn_of _ (by decide +kernel)) ggL_scouts_L_cell
set_option maxRecDepth 20000 in
theorem ggL_scouts_L_below : GoodIn wsL_scouts wsL_below := goodIn_r _ [17, 18] (by decide +kernel) (by decide +kernel)
set_option maxRecDepth 20000 in
theorem gL_scouts_L_below : GoodIn wsL_scouts (va_wsS RL 21 yL_below wsL_below) := goodIn_app (goodIn_of _ (by decide +kernel)) ggL_scouts_L_below
set_option maxRecDepth 20000 in
theorem ggL_scouts_X5_addScout : GoodIn wsL_scouts wsX5_addScout := goodIn_ca (goodIn_ca (goodIn_ca (goodIn_r _ [22, 6, 7, 8, 9, 23, 24, 25, 4, 26, 27, 28, 29, 30, 31, 32, 33, 34, 35, 36, 37, 38, 39, 40, 41, 42, 43, 44, 45, 46, 47, 48, 49, 50, 51, 52, 53, 54, 55, 56] (by decide +kernel) (by decide +kernel)) (goodIn_sub (fun _ h => List.mem_cons_of_mem _ (List.mem_append_left _ (List.mem_append_left _ (List.mem_append_right _ h)))) (by decide +kernel))) (goodIn_sub (fun _ h => List.mem_cons_of_mem _ (List.mem_append_left _ (List.mem_append_right _ h))) (by decide +kernel))) (goodIn_sub (fun _ h => List.mem_cons_of_mem _ (List.mem_append_right _ h)) (by decide +kernel))
set_option maxRecDepth 20000 in
theorem gL_scouts_X5_addScout : GoodIn wsL_scouts (wsV RL 25 RX5 yX5_addScout wsX5_addScout) := goodIn_app (goodIn_of _ (by decide +kernel)) ggL_scouts_X5_addScout
theorem dL_scouts_0 : decode cL_scouts 0 = .ok (.iconst 0, 1) := by decide +kernel
theorem dL_scouts_1 : decode cL_scouts 1 = .ok (.istore 6, 2) := by decide +kernel
theorem dL_scouts_3 : decode cL_scouts 3 = .ok (.iload 6, 2) := by decide +kernel
theorem dL_scouts_5 : decode cL_scouts 5 = .ok (.iload_n 3, 1) := by decide +kernel
theorem dL_scouts_6 : decode cL_scouts 6 = .ok (.if_icmp .ge 20, 3) := by decide +kernel
theorem dL_scouts_9 : decode cL_scouts 9 = .ok (.aload_n 0, 1) := by decide +kernel
theorem dL_scouts_10 : decode cL_scouts 10 = .ok (.invokevirtual 9, 3) := by decide +kernel
theorem dL_scouts_13 : decode cL_scouts 13 = .ok (.iload 6, 2) := by decide +kernel
theorem dL_scouts_15 : decode cL_scouts 15 = .ok (.if_icmp .eq 5, 3) := by decide +kernel
theorem dL_scouts_18 : decode cL_scouts 18 = .ok (.iconst (-1), 1) := by decide +kernel
theorem dL_scouts_19 : decode cL_scouts 19 = .ok (.ireturn, 1) := by decide +kernel
theorem dL_scouts_20 : decode cL_scouts 20 = .ok (.iinc 6 1, 3) := by decide +kernel
theorem dL_scouts_23 : decode cL_scouts 23 = .ok (.goto (-20), 3) := by decide +kernel
theorem dL_scouts_26 : decode cL_scouts 26 = .ok (.iconst 0, 1) := by decide +kernel
theorem dL_scouts_27 : decode cL_scouts 27 = .ok (.istore 6, 2) := by decide +kernel
theorem dL_scouts_29 : decode cL_scouts 29 = .ok (.iload 6, 2) := by decide +kernel
theorem dL_scouts_31 : decode cL_scouts 31 = .ok (.iload 4, 2) := by decide +kernel
theorem dL_scouts_33 : decode cL_scouts 33 = .ok (.if_icmp .ge 125, 3) := by decide +kernel
theorem dL_scouts_36 : decode cL_scouts 36 = .ok (.aload_n 1, 1) := by decide +kernel
theorem dL_scouts_37 : decode cL_scouts 37 = .ok (.iload_n 2, 1) := by decide +kernel
theorem dL_scouts_38 : decode cL_scouts 38 = .ok (.iload 6, 2) := by decide +kernel
theorem dL_scouts_40 : decode cL_scouts 40 = .ok (.iconst 5, 1) := by decide +kernel
theorem dL_scouts_41 : decode cL_scouts 41 = .ok (.irem, 1) := by decide +kernel
theorem dL_scouts_42 : decode cL_scouts 42 = .ok (.iadd, 1) := by decide +kernel
theorem dL_scouts_43 : decode cL_scouts 43 = .ok (.invokestatic 15, 3) := by decide +kernel
theorem dL_scouts_46 : decode cL_scouts 46 = .ok (.iload 6, 2) := by decide +kernel
theorem dL_scouts_48 : decode cL_scouts 48 = .ok (.iconst 5, 1) := by decide +kernel
theorem dL_scouts_49 : decode cL_scouts 49 = .ok (.idiv, 1) := by decide +kernel
theorem dL_scouts_50 : decode cL_scouts 50 = .ok (.iconst 2, 1) := by decide +kernel
theorem dL_scouts_51 : decode cL_scouts 51 = .ok (.imul, 1) := by decide +kernel
theorem dL_scouts_52 : decode cL_scouts 52 = .ok (.ishr, 1) := by decide +kernel
theorem dL_scouts_53 : decode cL_scouts 53 = .ok (.iload 6, 2) := by decide +kernel
theorem dL_scouts_55 : decode cL_scouts 55 = .ok (.sipush 911, 3) := by decide +kernel
theorem dL_scouts_58 : decode cL_scouts 58 = .ok (.imul, 1) := by decide +kernel
theorem dL_scouts_59 : decode cL_scouts 59 = .ok (.ixor, 1) := by decide +kernel
theorem dL_scouts_60 : decode cL_scouts 60 = .ok (.istore 7, 2) := by decide +kernel
theorem dL_scouts_62 : decode cL_scouts 62 = .ok (.aload 5, 2) := by decide +kernel
theorem dL_scouts_64 : decode cL_scouts 64 = .ok (.iconst 3, 1) := by decide +kernel
theorem dL_scouts_65 : decode cL_scouts 65 = .ok (.iload 6, 2) := by decide +kernel
theorem dL_scouts_67 : decode cL_scouts 67 = .ok (.imul, 1) := by decide +kernel
theorem dL_scouts_68 : decode cL_scouts 68 = .ok (.iload 7, 2) := by decide +kernel
theorem dL_scouts_70 : decode cL_scouts 70 = .ok (.iload_n 3, 1) := by decide +kernel
theorem dL_scouts_71 : decode cL_scouts 71 = .ok (.invokestatic 21, 3) := by decide +kernel
theorem dL_scouts_74 : decode cL_scouts 74 = .ok (.iastore, 1) := by decide +kernel
theorem dL_scouts_75 : decode cL_scouts 75 = .ok (.aload 5, 2) := by decide +kernel
theorem dL_scouts_77 : decode cL_scouts 77 = .ok (.iconst 3, 1) := by decide +kernel
theorem dL_scouts_78 : decode cL_scouts 78 = .ok (.iload 6, 2) := by decide +kernel
theorem dL_scouts_80 : decode cL_scouts 80 = .ok (.imul, 1) := by decide +kernel
theorem dL_scouts_81 : decode cL_scouts 81 = .ok (.iconst 1, 1) := by decide +kernel
theorem dL_scouts_82 : decode cL_scouts 82 = .ok (.iadd, 1) := by decide +kernel
theorem dL_scouts_83 : decode cL_scouts 83 = .ok (.bipush 6, 2) := by decide +kernel
theorem dL_scouts_85 : decode cL_scouts 85 = .ok (.iload 7, 2) := by decide +kernel
theorem dL_scouts_87 : decode cL_scouts 87 = .ok (.iconst 4, 1) := by decide +kernel
theorem dL_scouts_88 : decode cL_scouts 88 = .ok (.ishr, 1) := by decide +kernel
theorem dL_scouts_89 : decode cL_scouts 89 = .ok (.bipush 12, 2) := by decide +kernel
theorem dL_scouts_91 : decode cL_scouts 91 = .ok (.invokestatic 21, 3) := by decide +kernel
theorem dL_scouts_94 : decode cL_scouts 94 = .ok (.iadd, 1) := by decide +kernel
theorem dL_scouts_95 : decode cL_scouts 95 = .ok (.iastore, 1) := by decide +kernel
theorem dL_scouts_96 : decode cL_scouts 96 = .ok (.aload 5, 2) := by decide +kernel
theorem dL_scouts_98 : decode cL_scouts 98 = .ok (.iconst 3, 1) := by decide +kernel
theorem dL_scouts_99 : decode cL_scouts 99 = .ok (.iload 6, 2) := by decide +kernel
theorem dL_scouts_101 : decode cL_scouts 101 = .ok (.imul, 1) := by decide +kernel
theorem dL_scouts_102 : decode cL_scouts 102 = .ok (.iconst 2, 1) := by decide +kernel
theorem dL_scouts_103 : decode cL_scouts 103 = .ok (.iadd, 1) := by decide +kernel
theorem dL_scouts_104 : decode cL_scouts 104 = .ok (.iload 7, 2) := by decide +kernel
theorem dL_scouts_106 : decode cL_scouts 106 = .ok (.bipush 8, 2) := by decide +kernel
theorem dL_scouts_108 : decode cL_scouts 108 = .ok (.ishr, 1) := by decide +kernel
theorem dL_scouts_109 : decode cL_scouts 109 = .ok (.sipush 256, 3) := by decide +kernel
theorem dL_scouts_112 : decode cL_scouts 112 = .ok (.invokestatic 21, 3) := by decide +kernel
theorem dL_scouts_115 : decode cL_scouts 115 = .ok (.iastore, 1) := by decide +kernel
theorem dL_scouts_116 : decode cL_scouts 116 = .ok (.aload_n 0, 1) := by decide +kernel
theorem dL_scouts_117 : decode cL_scouts 117 = .ok (.aload 5, 2) := by decide +kernel
theorem dL_scouts_119 : decode cL_scouts 119 = .ok (.iconst 3, 1) := by decide +kernel
theorem dL_scouts_120 : decode cL_scouts 120 = .ok (.iload 6, 2) := by decide +kernel
theorem dL_scouts_122 : decode cL_scouts 122 = .ok (.imul, 1) := by decide +kernel
theorem dL_scouts_123 : decode cL_scouts 123 = .ok (.iaload, 1) := by decide +kernel
theorem dL_scouts_124 : decode cL_scouts 124 = .ok (.aload 5, 2) := by decide +kernel
theorem dL_scouts_126 : decode cL_scouts 126 = .ok (.iconst 3, 1) := by decide +kernel
theorem dL_scouts_127 : decode cL_scouts 127 = .ok (.iload 6, 2) := by decide +kernel
theorem dL_scouts_129 : decode cL_scouts 129 = .ok (.imul, 1) := by decide +kernel
theorem dL_scouts_130 : decode cL_scouts 130 = .ok (.iconst 1, 1) := by decide +kernel
theorem dL_scouts_131 : decode cL_scouts 131 = .ok (.iadd, 1) := by decide +kernel
theorem dL_scouts_132 : decode cL_scouts 132 = .ok (.iaload, 1) := by decide +kernel
theorem dL_scouts_133 : decode cL_scouts 133 = .ok (.aload 5, 2) := by decide +kernel
theorem dL_scouts_135 : decode cL_scouts 135 = .ok (.iconst 3, 1) := by decide +kernel
theorem dL_scouts_136 : decode cL_scouts 136 = .ok (.iload 6, 2) := by decide +kernel
theorem dL_scouts_138 : decode cL_scouts 138 = .ok (.imul, 1) := by decide +kernel
theorem dL_scouts_139 : decode cL_scouts 139 = .ok (.iconst 2, 1) := by decide +kernel
theorem dL_scouts_140 : decode cL_scouts 140 = .ok (.iadd, 1) := by decide +kernel
theorem dL_scouts_141 : decode cL_scouts 141 = .ok (.iaload, 1) := by decide +kernel
theorem dL_scouts_142 : decode cL_scouts 142 = .ok (.invokevirtual 25, 3) := by decide +kernel
theorem dL_scouts_145 : decode cL_scouts 145 = .ok (.iload 6, 2) := by decide +kernel
theorem dL_scouts_147 : decode cL_scouts 147 = .ok (.if_icmp .eq 5, 3) := by decide +kernel
theorem dL_scouts_150 : decode cL_scouts 150 = .ok (.iconst (-1), 1) := by decide +kernel
theorem dL_scouts_151 : decode cL_scouts 151 = .ok (.ireturn, 1) := by decide +kernel
theorem dL_scouts_152 : decode cL_scouts 152 = .ok (.iinc 6 1, 3) := by decide +kernel
theorem dL_scouts_155 : decode cL_scouts 155 = .ok (.goto (-126), 3) := by decide +kernel
theorem dL_scouts_158 : decode cL_scouts 158 = .ok (.iload 4, 2) := by decide +kernel
theorem dL_scouts_160 : decode cL_scouts 160 = .ok (.ireturn, 1) := by decide +kernel
set_option maxRecDepth 20000 in
theorem ggL_law_X5_init : GoodIn wsL_law wsX5_init := goodIn_r _ [13, 14, 15, 16, 17, 18, 19, 20, 21, 22, 23, 24, 25, 26, 27, 28, 29, 30, 31, 32, 33, 34, 35, 36, 37, 38, 39, 40, 3, 41, 42, 43, 44, 45, 46, 47, 48, 49, 50, 51, 52, 53, 54, 55, 56, 57, 58, 59, 60, 61, 62, 63, 64, 65, 66, 67, 68, 69, 70, 71, 72, 401, 402, 403, 404, 405, 406, 407, 408, 395, 396, 397, 398, 399, 400, 409, 410, 411, 412, 413, 414, 415, 416, 417, 418, 419, 420, 421, 422] (by decide +kernel) (by decide +kernel)
set_option maxRecDepth 20000 in
theorem gL_law_X5_init : GoodIn wsL_law (wsX5_init) := ggL_law_X5_init
set_option maxRecDepth 20000 in
theorem ggL_law_L_cell : GoodIn wsL_law wsL_cell := goodIn_r _ [76, 77] (by decide +kernel) (by decide +kernel)
set_option maxRecDepth 20000 in
theorem gL_law_L_cell : GoodIn wsL_law (va_wsS RL 15 yL_cell wsL_cell) := goodIn_app (goodIn_of _ (by decide +kernel)) ggL_law_L_cell
set_option maxRecDepth 20000 in
theorem ggL_law_L_below : GoodIn wsL_law wsL_below := goodIn_r _ [80, 81] (by decide +kernel) (by decide +kernel)
set_option maxRecDepth 20000 in
theorem gL_law_L_below : GoodIn wsL_law (va_wsS RL 21 yL_below wsL_below) := goodIn_app (goodIn_of _ (by decide +kernel)) ggL_law_L_below
set_option maxRecDepth 20000 in
theorem ggL_law_L_scouts : GoodIn wsL_law wsL_scouts := goodIn_ca (goodIn_ca (goodIn_ca (goodIn_r _ [84, 85, 86, 87, 2, 88, 89, 90, 20, 91, 73, 74, 75, 76, 77, 78, 79, 80, 81, 92, 93, 94, 95, 96, 97, 98, 99, 100, 101, 102, 103, 104, 105, 106, 107, 108, 109, 19, 110, 111, 41, 42, 43, 395, 396, 397, 398, 399, 400, 401, 402, 403, 404, 405, 406, 407, 408] (by decide +kernel) (by decide +kernel)) (goodIn_sub (fun _ h => List.mem_append_left _ (List.mem_append_left _ (List.mem_append_right _ h))) (by decide +kernel))) (goodIn_sub (fun _ h => List.mem_append_left _ (List.mem_append_right _ h)) (by decide +kernel))) (goodIn_sub (fun _ h => List.mem_append_right _ h) (by decide +kernel))
set_option maxRecDepth 20000 in
theorem gL_law_L_scouts : GoodIn wsL_law (va_wsS RL 30 yL_scouts wsL_scouts) := goodIn_app (goodIn_of _ (by decide +kernel)) ggL_law_L_scouts
set_option maxRecDepth 20000 in
theorem ggL_law_X5_addTent : GoodIn wsL_law wsX5_addTent := goodIn_ca (goodIn_ca (goodIn_r _ [115, 89, 90, 24, 116, 102, 103, 2, 104, 105, 106, 117, 118, 119, 23, 120, 121, 50, 395, 396, 397, 398, 399, 400, 409, 410, 411] (by decide +kernel) (by decide +kernel)) (goodIn_sub (fun _ h => List.mem_append_left _ (List.mem_append_left _ (List.mem_append_right _ h))) (by decide +kernel))) (goodIn_sub (fun _ h => List.mem_append_right _ h) (by decide +kernel))
set_option maxRecDepth 20000 in
theorem gL_law_X5_addTent : GoodIn wsL_law (wsV RL 34 RX5 yX5_addTent wsX5_addTent) := goodIn_app (goodIn_of _ (by decide +kernel)) ggL_law_X5_addTent
set_option maxRecDepth 20000 in
theorem ggL_law_X5_addFood : GoodIn wsL_law wsX5_addFood := goodIn_ca (goodIn_ca (goodIn_r _ [125, 89, 90, 32, 126, 127, 102, 103, 2, 104, 105, 106, 395, 396, 397, 398, 399, 400, 414, 415, 416, 417, 418, 419] (by decide +kernel) (by decide +kernel)) (goodIn_sub (fun _ h => List.mem_append_left _ (List.mem_append_left _ (List.mem_append_right _ h))) (by decide +kernel))) (goodIn_sub (fun _ h => List.mem_append_right _ h) (by decide +kernel))
set_option maxRecDepth 20000 in
theorem gL_law_X5_addFood : GoodIn wsL_law (wsV RL 38 RX5 yX5_addFood wsX5_addFood) := goodIn_app (goodIn_of _ (by decide +kernel)) ggL_law_X5_addFood
set_option maxRecDepth 20000 in
theorem ggL_law_X5_addMeal : GoodIn wsL_law wsX5_addMeal := goodIn_ca (goodIn_r _ [131, 89, 90, 32, 132, 395, 396, 397, 398, 399, 400, 414, 415, 416, 417, 418, 419] (by decide +kernel) (by decide +kernel)) (goodIn_sub (fun _ h => List.mem_append_left _ (List.mem_append_left _ (List.mem_append_right _ h))) (by decide +kernel))
set_option maxRecDepth 20000 in
theorem gL_law_X5_addMeal : GoodIn wsL_law (wsV RL 41 RX5 yX5_addMeal wsX5_addMeal) := goodIn_app (goodIn_of _ (by decide +kernel)) ggL_law_X5_addMeal
set_option maxRecDepth 20000 in
theorem ggL_law_X5_need : GoodIn wsL_law wsX5_need := goodIn_ca (goodIn_ca (goodIn_r _ [136, 32, 132, 126, 137, 97, 98, 2, 99, 100, 101, 102, 103, 104, 105, 106, 138, 139, 140, 31, 141, 67, 395, 396, 397, 398, 399, 400, 414, 415, 416, 417, 418, 419] (by decide +kernel) (by decide +kernel)) (goodIn_sub (fun _ h => List.mem_append_left _ (List.mem_append_right _ h)) (by decide +kernel))) (goodIn_sub (fun _ h => List.mem_append_right _ h) (by decide +kernel))
set_option maxRecDepth 20000 in
theorem gL_law_X5_need : GoodIn wsL_law (wsV RL 44 RX5 yX5_need wsX5_need) := goodIn_app (goodIn_of _ (by decide +kernel)) ggL_law_X5_need
set_option maxRecDepth 20000 in
theorem ggL_law_X5_addBadge : GoodIn wsL_law wsX5_addBadge := goodIn_ca (goodIn_ca (goodIn_r _ [145, 89, 90, 36, 146, 147, 102, 103, 2, 104, 105, 106, 395, 396, 397, 398, 399, 400, 420, 421, 422] (by decide +kernel) (by decide +kernel)) (goodIn_sub (fun _ h => List.mem_append_left _ (List.mem_append_left _ (List.mem_append_right _ h))) (by decide +kernel))) (goodIn_sub (fun _ h => List.mem_append_right _ h) (by decide +kernel))
set_option maxRecDepth 20000 in
theorem gL_law_X5_addBadge : GoodIn wsL_law (wsV RL 47 RX5 yX5_addBadge wsX5_addBadge) := goodIn_app (goodIn_of _ (by decide +kernel)) ggL_law_X5_addBadge
set_option maxRecDepth 20000 in
theorem ggL_law_X5_want : GoodIn wsL_law wsX5_want := goodIn_ca (goodIn_ca (goodIn_r _ [151, 36, 146, 152, 97, 98, 2, 99, 100, 101, 102, 103, 104, 105, 106, 395, 396, 397, 398, 399, 400, 420, 421, 422] (by decide +kernel) (by decide +kernel)) (goodIn_sub (fun _ h => List.mem_append_left _ (List.mem_append_right _ h)) (by decide +kernel))) (goodIn_sub (fun _ h => List.mem_append_right _ h) (by decide +kernel))
set_option maxRecDepth 20000 in
theorem gL_law_X5_want : GoodIn wsL_law (wsV RL 50 RX5 yX5_want wsX5_want) := goodIn_app (goodIn_of _ (by decide +kernel)) ggL_law_X5_want
set_option maxRecDepth 20000 in
theorem ggL_law_X5_diet : GoodIn wsL_law wsX5_diet := goodIn_ca (goodIn_r _ [156, 20, 96, 32, 126, 157, 97, 98, 2, 99, 100, 101, 395, 396, 397, 398, 399, 400, 401, 402, 403, 404, 405, 406, 407, 408, 414, 415, 416, 417, 418, 419] (by decide +kernel) (by decide +kernel)) (goodIn_sub (fun _ h => List.mem_append_left _ (List.mem_append_right _ h)) (by decide +kernel))
set_option maxRecDepth 20000 in
theorem gL_law_X5_diet : GoodIn wsL_law (wsV RL 53 RX5 yX5_diet wsX5_diet) := goodIn_app (goodIn_of _ (by decide +kernel)) ggL_law_X5_diet
set_option maxRecDepth 20000 in
theorem ggL_law_X5_scout : GoodIn wsL_law wsX5_scout := goodIn_ca (goodIn_r _ [161, 20, 96, 97, 98, 2, 99, 100, 101, 162, 163, 164, 165, 166, 167, 168, 157, 24, 169, 170, 171, 172, 23, 173, 121, 52, 174, 175, 176, 19, 177, 178, 179, 180, 181, 46, 395, 396, 397, 398, 399, 400, 401, 402, 403, 404, 405, 406, 407, 408, 409, 410, 411] (by decide +kernel) (by decide +kernel)) (goodIn_sub (fun _ h => List.mem_append_left _ (List.mem_append_right _ h)) (by decide +kernel))
set_option maxRecDepth 20000 in
theorem gL_law_X5_scout : GoodIn wsL_law (wsV RL 57 RX5 yX5_scout wsX5_scout) := goodIn_app (goodIn_of _ (by decide +kernel)) ggL_law_X5_scout
set_option maxRecDepth 20000 in
theorem ggL_law_X5_sleep : GoodIn wsL_law wsX5_sleep := goodIn_ca (goodIn_ca (goodIn_r _ [185, 89, 90, 20, 96, 24, 116, 97, 98, 2, 99, 100, 101, 186, 187, 188, 170, 171, 172, 23, 173, 121, 52, 189, 190, 191, 192, 50, 193, 194, 195, 196, 197, 198, 199, 200, 201, 202, 203, 204, 205, 206, 207, 6, 208, 209, 210, 211, 212, 213, 214, 215, 216, 217, 395, 396, 397, 398, 399, 400, 401, 402, 403, 404, 405, 406, 407, 408, 409, 410, 411] (by decide +kernel) (by decide +kernel)) (goodIn_sub (fun _ h => List.mem_append_left _ (List.mem_append_left _ (List.mem_append_right _ h))) (by decide +kernel))) (goodIn_sub (fun _ h => List.mem_append_left _ (List.mem_append_right _ h)) (by decide +kernel))
set_option maxRecDepth 20000 in
theorem gL_law_X5_sleep : GoodIn wsL_law (wsV RL 60 RX5 yX5_sleep wsX5_sleep) := goodIn_app (goodIn_of _ (by decide +kernel)) ggL_law_X5_sleep
set_option maxRecDepth 20000 in
theorem ggL_law_X5_findTents : GoodIn wsL_law wsX5_findTents := goodIn_r _ [221, 20, 96, 167, 24, 170, 171, 172, 23, 173, 121, 52, 222, 223, 224, 225, 226, 227, 228, 229, 19, 230, 111, 41, 231, 232, 233, 234, 193, 194, 195, 196, 197, 198, 199, 235, 190, 191, 192, 50, 200, 201, 202, 203, 204, 205, 206, 207, 6, 208, 214, 215, 216, 217, 236, 237, 238, 2, 239, 240, 241, 242, 243, 395, 396, 397, 398, 399, 400, 401, 402, 403, 404, 405, 406, 407, 408, 409, 410, 411] (by decide +kernel) (by decide +kernel)
set_option maxRecDepth 20000 in
theorem gL_law_X5_findTents : GoodIn wsL_law (wsV RL 63 RX5 yX5_findTents wsX5_findTents) := goodIn_app (goodIn_of _ (by decide +kernel)) ggL_law_X5_findTents
set_option maxRecDepth 20000 in
theorem ggL_law_X5_inTent : GoodIn wsL_law wsX5_inTent := goodIn_ca (goodIn_r _ [247, 24, 116, 248, 97, 98, 2, 99, 100, 101, 395, 396, 397, 398, 399, 400, 409, 410, 411] (by decide +kernel) (by decide +kernel)) (goodIn_sub (fun _ h => List.mem_append_left _ (List.mem_append_right _ h)) (by decide +kernel))
set_option maxRecDepth 20000 in
theorem gL_law_X5_inTent : GoodIn wsL_law (wsV RL 66 RX5 yX5_inTent wsX5_inTent) := goodIn_app (goodIn_of _ (by decide +kernel)) ggL_law_X5_inTent
set_option maxRecDepth 20000 in
theorem ggL_law_J13_bitCount_95d88 : GoodIn wsL_law wsJ13_bitCount_95d88 := goodIn_r _ [196, 197, 198, 199] (by decide +kernel) (by decide +kernel)
set_option maxRecDepth 20000 in
theorem gL_law_J13_bitCount_95d88 : GoodIn wsL_law (va_wsS RL 70 yJ13_bitCount_95d88 wsJ13_bitCount_95d88) := goodIn_app (goodIn_of _ (by decide +kernel)) ggL_law_J13_bitCount_95d88
set_option maxRecDepth 20000 in
theorem ggL_law_X5_findDuties : GoodIn wsL_law wsX5_findDuties := goodIn_r _ [253, 28, 37, 20, 254, 255, 256, 27, 257, 57, 258, 259, 260, 261, 262, 58, 263, 264, 265, 266, 267, 268, 269, 270, 271, 228, 229, 19, 230, 111, 41, 272, 273, 274, 275, 42, 276, 277, 278, 279, 280, 281, 282, 283, 284, 285, 286, 287, 288, 289, 395, 396, 397, 398, 399, 400, 412, 413, 401, 402, 403, 404, 405, 406, 407, 408] (by decide +kernel) (by decide +kernel)
set_option maxRecDepth 20000 in
theorem gL_law_X5_findDuties : GoodIn wsL_law (wsV RL 84 RX5 yX5_findDuties wsX5_findDuties) := goodIn_app (goodIn_of _ (by decide +kernel)) ggL_law_X5_findDuties
set_option maxRecDepth 20000 in
theorem ggL_law_X5_duty : GoodIn wsL_law wsX5_duty := goodIn_ca (goodIn_r _ [293, 28, 97, 98, 2, 99, 100, 101, 254, 255, 256, 27, 257, 57, 395, 396, 397, 398, 399, 400, 412, 413] (by decide +kernel) (by decide +kernel)) (goodIn_sub (fun _ h => List.mem_append_left _ (List.mem_append_right _ h)) (by decide +kernel))
set_option maxRecDepth 20000 in
theorem gL_law_X5_duty : GoodIn wsL_law (wsV RL 87 RX5 yX5_duty wsX5_duty) := goodIn_app (goodIn_of _ (by decide +kernel)) ggL_law_X5_duty
set_option maxRecDepth 20000 in
theorem ggL_law_X5_table : GoodIn wsL_law wsX5_table := goodIn_ca (goodIn_r _ [297, 32, 298, 20, 97, 98, 2, 99, 100, 101, 299, 300, 301, 302, 96, 303, 304, 194, 195, 196, 197, 198, 199, 305, 306, 307, 31, 308, 309, 310, 311, 312, 313, 314, 315, 316, 317, 318, 319, 320, 321, 322, 323, 139, 140, 141, 67, 324, 325, 326, 327, 328, 329, 330, 331, 332, 333, 66, 395, 396, 397, 398, 399, 400, 414, 415, 416, 417, 418, 419, 401, 402, 403, 404, 405, 406, 407, 408] (by decide +kernel) (by decide +kernel)) (goodIn_sub (fun _ h => List.mem_append_left _ (List.mem_append_right _ h)) (by decide +kernel))
set_option maxRecDepth 20000 in
theorem gL_law_X5_table : GoodIn wsL_law (wsV RL 90 RX5 yX5_table wsX5_table) := goodIn_app (goodIn_of _ (by decide +kernel)) ggL_law_X5_table
set_option maxRecDepth 20000 in
theorem ggL_law_X5_eat : GoodIn wsL_law wsX5_eat := goodIn_ca (goodIn_ca (goodIn_r _ [337, 89, 90, 32, 132, 20, 97, 98, 2, 99, 100, 101, 338, 326, 327, 31, 328, 329, 312, 313, 314, 315, 316, 317, 318, 319, 320, 321, 322, 323, 139, 140, 141, 67, 324, 194, 195, 196, 197, 198, 199, 330, 331, 332, 333, 66, 339, 340, 341, 342, 310, 395, 396, 397, 398, 399, 400, 414, 415, 416, 417, 418, 419, 401, 402, 403, 404, 405, 406, 407, 408] (by decide +kernel) (by decide +kernel)) (goodIn_sub (fun _ h => List.mem_append_left _ (List.mem_append_left _ (List.mem_append_right _ h))) (by decide +kernel))) (goodIn_sub (fun _ h => List.mem_append_left _ (List.mem_append_right _ h)) (by decide +kernel))
set_option maxRecDepth 20000 in
theorem gL_law_X5_eat : GoodIn wsL_law (wsV RL 93 RX5 yX5_eat wsX5_eat) := goodIn_app (goodIn_of _ (by decide +kernel)) ggL_law_X5_eat
set_option maxRecDepth 20000 in
theorem ggL_law_X5_eaters : GoodIn wsL_law wsX5_eaters := goodIn_ca (goodIn_r _ [346, 32, 132, 20, 97, 98, 2, 99, 100, 101, 347, 313, 314, 31, 315, 316, 317, 318, 319, 320, 321, 322, 323, 139, 140, 141, 67, 395, 396, 397, 398, 399, 400, 414, 415, 416, 417, 418, 419, 401, 402, 403, 404, 405, 406, 407, 408] (by decide +kernel) (by decide +kernel)) (goodIn_sub (fun _ h => List.mem_append_left _ (List.mem_append_right _ h)) (by decide +kernel))
set_option maxRecDepth 20000 in
theorem gL_law_X5_eaters : GoodIn wsL_law (wsV RL 96 RX5 yX5_eaters wsX5_eaters) := goodIn_app (goodIn_of _ (by decide +kernel)) ggL_law_X5_eaters
set_option maxRecDepth 20000 in
theorem ggL_law_X5_store : GoodIn wsL_law wsX5_store := goodIn_ca (goodIn_r _ [351, 32, 126, 127, 97, 98, 2, 99, 100, 101, 395, 396, 397, 398, 399, 400, 414, 415, 416, 417, 418, 419] (by decide +kernel) (by decide +kernel)) (goodIn_sub (fun _ h => List.mem_append_left _ (List.mem_append_right _ h)) (by decide +kernel))
set_option maxRecDepth 20000 in
theorem gL_law_X5_store : GoodIn wsL_law (wsV RL 99 RX5 yX5_store wsX5_store) := goodIn_app (goodIn_of _ (by decide +kernel)) ggL_law_X5_store
set_option maxRecDepth 20000 in
theorem ggL_law_X5_practise : GoodIn wsL_law wsX5_practise := goodIn_ca (goodIn_ca (goodIn_r _ [355, 20, 91, 97, 98, 2, 99, 100, 101, 102, 103, 104, 105, 106, 356, 357, 358, 19, 359, 111, 41, 46, 395, 396, 397, 398, 399, 400, 401, 402, 403, 404, 405, 406, 407, 408] (by decide +kernel) (by decide +kernel)) (goodIn_sub (fun _ h => List.mem_append_left _ (List.mem_append_right _ h)) (by decide +kernel))) (goodIn_sub (fun _ h => List.mem_append_right _ h) (by decide +kernel))
set_option maxRecDepth 20000 in
theorem gL_law_X5_practise : GoodIn wsL_law (wsV RL 102 RX5 yX5_practise wsX5_practise) := goodIn_app (goodIn_of _ (by decide +kernel)) ggL_law_X5_practise
set_option maxRecDepth 20000 in
theorem ggL_law_X5_away : GoodIn wsL_law wsX5_away := goodIn_ca (goodIn_r _ [363, 20, 96, 36, 146, 97, 98, 2, 99, 100, 101, 364, 365, 366, 35, 367, 368, 71, 369, 370, 371, 372, 373, 72, 374, 9, 6, 10, 375, 179, 180, 19, 181, 46, 395, 396, 397, 398, 399, 400, 401, 402, 403, 404, 405, 406, 407, 408, 420, 421, 422] (by decide +kernel) (by decide +kernel)) (goodIn_sub (fun _ h => List.mem_append_left _ (List.mem_append_right _ h)) (by decide +kernel))
set_option maxRecDepth 20000 in
theorem gL_law_X5_away : GoodIn wsL_law (wsV RL 105 RX5 yX5_away wsX5_away) := goodIn_app (goodIn_of _ (by decide +kernel)) ggL_law_X5_away
set_option maxRecDepth 20000 in
theorem ggL_law_X5_earn : GoodIn wsL_law wsX5_earn := goodIn_ca (goodIn_ca (goodIn_r _ [379, 89, 90, 20, 96, 36, 146, 169, 97, 98, 2, 99, 100, 101, 364, 365, 366, 35, 367, 368, 71, 369, 370, 371, 372, 373, 72, 374, 9, 6, 10, 375, 179, 180, 19, 181, 46, 380, 381, 382, 383, 384, 385, 386, 395, 396, 397, 398, 399, 400, 401, 402, 403, 404, 405, 406, 407, 408, 420, 421, 422] (by decide +kernel) (by decide +kernel)) (goodIn_sub (fun _ h => List.mem_append_left _ (List.mem_append_left _ (List.mem_append_right _ h))) (by decide +kernel))) (goodIn_sub (fun _ h => List.mem_append_left _ (List.mem_append_right _ h)) (by decide +kernel))
set_option maxRecDepth 20000 in
theorem gL_law_X5_earn : GoodIn wsL_law (wsV RL 108 RX5 yX5_earn wsX5_earn) := goodIn_app (goodIn_of _ (by decide +kernel)) ggL_law_X5_earn
set_option maxRecDepth 20000 in
theorem ggL_law_X5_end : GoodIn wsL_law wsX5_end := goodIn_ca (goodIn_r _ [390, 89, 90, 37, 32, 391, 392, 393, 31, 394, 329, 310, 395, 396, 397, 398, 399, 400, 414, 415, 416, 417, 418, 419] (by decide +kernel) (by decide +kernel)) (goodIn_sub (fun _ h => List.mem_append_left _ (List.mem_append_left _ (List.mem_append_right _ h))) (by decide +kernel))
set_option maxRecDepth 20000 in
theorem gL_law_X5_end : GoodIn wsL_law (wsV RL 111 RX5 yX5_end wsX5_end) := goodIn_app (goodIn_of _ (by decide +kernel)) ggL_law_X5_end
