theorem dX5_want_25 : decode cX5_want 25 = .ok (.bipush 10, 2) := by decide +kernel
theorem dX5_want_27 : decode cX5_want 27 = .ok (.imul, 1) := by decide +kernel
theorem dX5_want_28 : decode cX5_want 28 = .ok (.iload_n 2, 1) := by decide +kernel
theorem dX5_want_29 : decode cX5_want 29 = .ok (.iadd, 1) := by decide +kernel
theorem dX5_want_30 : decode cX5_want 30 = .ok (.istore 4, 2) := by decide +kernel
theorem dX5_want_32 : decode cX5_want 32 = .ok (.aload_n 0, 1) := by decide +kernel
theorem dX5_want_33 : decode cX5_want 33 = .ok (.getfield 40, 3) := by decide +kernel
theorem dX5_want_36 : decode cX5_want 36 = .ok (.getfield 215, 3) := by decide +kernel
theorem dX5_want_39 : decode cX5_want 39 = .ok (.iload 4, 2) := by decide +kernel
theorem dX5_want_41 : decode cX5_want 41 = .ok (.iaload, 1) := by decide +kernel
theorem dX5_want_42 : decode cX5_want 42 = .ok (.istore 5, 2) := by decide +kernel
theorem dX5_want_44 : decode cX5_want 44 = .ok (.aload_n 0, 1) := by decide +kernel
theorem dX5_want_45 : decode cX5_want 45 = .ok (.getfield 40, 3) := by decide +kernel
theorem dX5_want_48 : decode cX5_want 48 = .ok (.getfield 215, 3) := by decide +kernel
theorem dX5_want_51 : decode cX5_want 51 = .ok (.iload 4, 2) := by decide +kernel
theorem dX5_want_53 : decode cX5_want 53 = .ok (.iload_n 3, 1) := by decide +kernel
theorem dX5_want_54 : decode cX5_want 54 = .ok (.iastore, 1) := by decide +kernel
theorem dX5_want_55 : decode cX5_want 55 = .ok (.iload 5, 2) := by decide +kernel
theorem dX5_want_57 : decode cX5_want 57 = .ok (.ireturn, 1) := by decide +kernel
set_option maxRecDepth 20000 in
theorem ggX5_practise_X5_checkNumber : GoodIn wsX5_practise wsX5_checkNumber := goodIn_ca (goodIn_r _ [6, 7, 8] (by decide +kernel) (by decide +kernel)) (goodIn_sub (fun _ h => List.mem_cons_of_mem _ (List.mem_append_left _ (List.mem_append_right _ h))) (by decide +kernel))
set_option maxRecDepth 20000 in
theorem gX5_practise_X5_checkNumber : GoodIn wsX5_practise (va_wsS RX5 58 yX5_checkNumber wsX5_checkNumber) := goodIn_app (goodIn_of _ (by decide +kernel)) ggX5_practise_X5_checkNumber
set_option maxRecDepth 20000 in
theorem ggX5_practise_X5_checkArgument : GoodIn wsX5_practise wsX5_checkArgument := goodIn_ca (goodIn_r _ [11, 12, 13] (by decide +kernel) (by decide +kernel)) (goodIn_sub (fun _ h => List.mem_cons_of_mem _ (List.mem_append_right _ h)) (by decide +kernel))
set_option maxRecDepth 20000 in
theorem gX5_practise_X5_checkArgument : GoodIn wsX5_practise (va_wsS RX5 62 yX5_checkArgument wsX5_checkArgument) := goodIn_app (goodIn_of _ (by decide +kernel)) ggX5_practise_X5_checkArgument
set_option maxRecDepth 20000 in
theorem ggX5_practise_X3_train : GoodIn wsX5_practise wsX3_train := goodIn_r _ [18, 19, 20, 21, 28, 29, 30, 31, 32, 33, 34, 35] (by decide +kernel) (by decide +kernel)
set_option maxRecDepth 20000 in
theorem gX5_practise_X3_train : GoodIn wsX5_practise (wsV RX5 218 RX3 yX3_train wsX3_train) := goodIn_app (goodIn_of _ (by decide +kernel)) ggX5_practise_X3_train
theorem dX5_practise_0 : decode cX5_practise 0 = .ok (.iload_n 1, 1) := by decide +kernel
theorem dX5_practise_1 : decode cX5_practise 1 = .ok (.aload_n 0, 1) := by decide +kernel
theorem dX5_practise_2 : decode cX5_practise 2 = .ok (.getfield 10, 3) := by decide +kernel
theorem dX5_practise_5 : decode cX5_practise 5 = .ok (.getfield 48, 3) := by decide +kernel
theorem dX5_practise_8 : decode cX5_practise 8 = .ok (.invokestatic 58, 3) := by decide +kernel
theorem dX5_practise_11 : decode cX5_practise 11 = .ok (.iload_n 2, 1) := by decide +kernel
theorem dX5_practise_12 : decode cX5_practise 12 = .ok (.bipush 10, 2) := by decide +kernel
theorem dX5_practise_14 : decode cX5_practise 14 = .ok (.invokestatic 58, 3) := by decide +kernel
theorem dX5_practise_17 : decode cX5_practise 17 = .ok (.iload_n 3, 1) := by decide +kernel
theorem dX5_practise_18 : decode cX5_practise 18 = .ok (.iconst 1, 1) := by decide +kernel
theorem dX5_practise_19 : decode cX5_practise 19 = .ok (.bipush 24, 2) := by decide +kernel
theorem dX5_practise_21 : decode cX5_practise 21 = .ok (.invokestatic 62, 3) := by decide +kernel
theorem dX5_practise_24 : decode cX5_practise 24 = .ok (.aload_n 0, 1) := by decide +kernel
theorem dX5_practise_25 : decode cX5_practise 25 = .ok (.getfield 10, 3) := by decide +kernel
theorem dX5_practise_28 : decode cX5_practise 28 = .ok (.iload_n 1, 1) := by decide +kernel
theorem dX5_practise_29 : decode cX5_practise 29 = .ok (.iload_n 2, 1) := by decide +kernel
theorem dX5_practise_30 : decode cX5_practise 30 = .ok (.iload_n 3, 1) := by decide +kernel
theorem dX5_practise_31 : decode cX5_practise 31 = .ok (.invokevirtual 218, 3) := by decide +kernel
theorem dX5_practise_34 : decode cX5_practise 34 = .ok (.ireturn, 1) := by decide +kernel
set_option maxRecDepth 20000 in
theorem ggX5_away_X5_checkNumber : GoodIn wsX5_away wsX5_checkNumber := goodIn_ca (goodIn_r _ [8, 9, 10] (by decide +kernel) (by decide +kernel)) (goodIn_sub (fun _ h => List.mem_cons_of_mem _ (List.mem_append_right _ h)) (by decide +kernel))
set_option maxRecDepth 20000 in
theorem gX5_away_X5_checkNumber : GoodIn wsX5_away (va_wsS RX5 58 yX5_checkNumber wsX5_checkNumber) := goodIn_app (goodIn_of _ (by decide +kernel)) ggX5_away_X5_checkNumber
set_option maxRecDepth 20000 in
theorem ggX5_away_X0_distance : GoodIn wsX5_away wsX0_distance := goodIn_r _ [15, 16, 17, 18, 19, 20, 21, 14, 22, 23, 24, 25, 26, 27, 28, 29, 30, 31, 32, 33, 40, 41, 42, 43, 44, 45, 46, 47, 48, 49, 50] (by decide +kernel) (by decide +kernel)
set_option maxRecDepth 20000 in
theorem gX5_away_X0_distance : GoodIn wsX5_away (wsV RX5 221 RX0 yX0_distance wsX0_distance) := goodIn_app (goodIn_of _ (by decide +kernel)) ggX5_away_X0_distance
theorem dX5_away_0 : decode cX5_away 0 = .ok (.iload_n 1, 1) := by decide +kernel
theorem dX5_away_1 : decode cX5_away 1 = .ok (.aload_n 0, 1) := by decide +kernel
theorem dX5_away_2 : decode cX5_away 2 = .ok (.getfield 10, 3) := by decide +kernel
theorem dX5_away_5 : decode cX5_away 5 = .ok (.getfield 66, 3) := by decide +kernel
theorem dX5_away_8 : decode cX5_away 8 = .ok (.invokestatic 58, 3) := by decide +kernel
theorem dX5_away_11 : decode cX5_away 11 = .ok (.iload_n 2, 1) := by decide +kernel
theorem dX5_away_12 : decode cX5_away 12 = .ok (.aload_n 0, 1) := by decide +kernel
theorem dX5_away_13 : decode cX5_away 13 = .ok (.getfield 40, 3) := by decide +kernel
theorem dX5_away_16 : decode cX5_away 16 = .ok (.getfield 209, 3) := by decide +kernel
theorem dX5_away_19 : decode cX5_away 19 = .ok (.invokestatic 58, 3) := by decide +kernel
theorem dX5_away_22 : decode cX5_away 22 = .ok (.aload_n 0, 1) := by decide +kernel
theorem dX5_away_23 : decode cX5_away 23 = .ok (.getfield 40, 3) := by decide +kernel
theorem dX5_away_26 : decode cX5_away 26 = .ok (.iload_n 1, 1) := by decide +kernel
theorem dX5_away_27 : decode cX5_away 27 = .ok (.iload_n 2, 1) := by decide +kernel
theorem dX5_away_28 : decode cX5_away 28 = .ok (.aload_n 0, 1) := by decide +kernel
theorem dX5_away_29 : decode cX5_away 29 = .ok (.getfield 10, 3) := by decide +kernel
theorem dX5_away_32 : decode cX5_away 32 = .ok (.invokevirtual 221, 3) := by decide +kernel
theorem dX5_away_35 : decode cX5_away 35 = .ok (.ireturn, 1) := by decide +kernel
set_option maxRecDepth 20000 in
theorem ggX5_earn_X5_checkNumber : GoodIn wsX5_earn wsX5_checkNumber := goodIn_ca (goodIn_r _ [11, 12, 13] (by decide +kernel) (by decide +kernel)) (goodIn_sub (fun _ h => List.mem_cons_of_mem _ (List.mem_append_right _ h)) (by decide +kernel))
set_option maxRecDepth 20000 in
theorem gX5_earn_X5_checkNumber : GoodIn wsX5_earn (va_wsS RX5 58 yX5_checkNumber wsX5_checkNumber) := goodIn_app (goodIn_of _ (by decide +kernel)) ggX5_earn_X5_checkNumber
set_option maxRecDepth 20000 in
theorem ggX5_earn_X0_distance : GoodIn wsX5_earn wsX0_distance := goodIn_r _ [18, 19, 20, 21, 22, 23, 24, 17, 25, 26, 27, 28, 29, 30, 31, 32, 33, 34, 35, 36, 50, 51, 52, 53, 54, 55, 56, 57, 58, 59, 60] (by decide +kernel) (by decide +kernel)
set_option maxRecDepth 20000 in
theorem gX5_earn_X0_distance : GoodIn wsX5_earn (wsV RX5 221 RX0 yX0_distance wsX0_distance) := goodIn_app (goodIn_of _ (by decide +kernel)) ggX5_earn_X0_distance
set_option maxRecDepth 20000 in
theorem ggX5_earn_J6_bitCount_0f7a4 : GoodIn wsX5_earn wsJ6_bitCount_0f7a4 := goodIn_r _ [40, 41, 42, 43] (by decide +kernel) (by decide +kernel)
set_option maxRecDepth 20000 in
theorem gX5_earn_J6_bitCount_0f7a4 : GoodIn wsX5_earn (va_wsS RX5 228 yJ6_bitCount_0f7a4 wsJ6_bitCount_0f7a4) := goodIn_app (goodIn_of _ (by decide +kernel)) ggX5_earn_J6_bitCount_0f7a4
theorem dX5_earn_0 : decode cX5_earn 0 = .ok (.iload_n 1, 1) := by decide +kernel
theorem dX5_earn_1 : decode cX5_earn 1 = .ok (.aload_n 0, 1) := by decide +kernel
theorem dX5_earn_2 : decode cX5_earn 2 = .ok (.getfield 10, 3) := by decide +kernel
theorem dX5_earn_5 : decode cX5_earn 5 = .ok (.getfield 66, 3) := by decide +kernel
theorem dX5_earn_8 : decode cX5_earn 8 = .ok (.invokestatic 58, 3) := by decide +kernel
theorem dX5_earn_11 : decode cX5_earn 11 = .ok (.iload_n 2, 1) := by decide +kernel
theorem dX5_earn_12 : decode cX5_earn 12 = .ok (.aload_n 0, 1) := by decide +kernel
theorem dX5_earn_13 : decode cX5_earn 13 = .ok (.getfield 40, 3) := by decide +kernel
theorem dX5_earn_16 : decode cX5_earn 16 = .ok (.getfield 209, 3) := by decide +kernel
theorem dX5_earn_19 : decode cX5_earn 19 = .ok (.invokestatic 58, 3) := by decide +kernel
theorem dX5_earn_22 : decode cX5_earn 22 = .ok (.aload_n 0, 1) := by decide +kernel
theorem dX5_earn_23 : decode cX5_earn 23 = .ok (.getfield 40, 3) := by decide +kernel
theorem dX5_earn_26 : decode cX5_earn 26 = .ok (.iload_n 1, 1) := by decide +kernel
theorem dX5_earn_27 : decode cX5_earn 27 = .ok (.iload_n 2, 1) := by decide +kernel
theorem dX5_earn_28 : decode cX5_earn 28 = .ok (.aload_n 0, 1) := by decide +kernel
theorem dX5_earn_29 : decode cX5_earn 29 = .ok (.getfield 10, 3) := by decide +kernel
theorem dX5_earn_32 : decode cX5_earn 32 = .ok (.invokevirtual 221, 3) := by decide +kernel
theorem dX5_earn_35 : decode cX5_earn 35 = .ok (.ifCond .eq 13, 3) := by decide +kernel
theorem dX5_earn_38 : decode cX5_earn 38 = .ok (.new 51, 3) := by decide +kernel
theorem dX5_earn_41 : decode cX5_earn 41 = .ok (.dup, 1) := by decide +kernel
theorem dX5_earn_42 : decode cX5_earn 42 = .ok (.ldc 224, 2) := by decide +kernel
theorem dX5_earn_44 : decode cX5_earn 44 = .ok (.invokespecial 55, 3) := by decide +kernel
theorem dX5_earn_47 : decode cX5_earn 47 = .ok (.athrow, 1) := by decide +kernel
theorem dX5_earn_48 : decode cX5_earn 48 = .ok (.aload_n 0, 1) := by decide +kernel
theorem dX5_earn_49 : decode cX5_earn 49 = .ok (.getfield 10, 3) := by decide +kernel
theorem dX5_earn_52 : decode cX5_earn 52 = .ok (.getfield 226, 3) := by decide +kernel
theorem dX5_earn_55 : decode cX5_earn 55 = .ok (.iload_n 1, 1) := by decide +kernel
theorem dX5_earn_56 : decode cX5_earn 56 = .ok (.dup2, 1) := by decide +kernel
theorem dX5_earn_57 : decode cX5_earn 57 = .ok (.iaload, 1) := by decide +kernel
theorem dX5_earn_58 : decode cX5_earn 58 = .ok (.iconst 1, 1) := by decide +kernel
theorem dX5_earn_59 : decode cX5_earn 59 = .ok (.iload_n 2, 1) := by decide +kernel
theorem dX5_earn_60 : decode cX5_earn 60 = .ok (.ishl, 1) := by decide +kernel
theorem dX5_earn_61 : decode cX5_earn 61 = .ok (.ior, 1) := by decide +kernel
theorem dX5_earn_62 : decode cX5_earn 62 = .ok (.iastore, 1) := by decide +kernel
theorem dX5_earn_63 : decode cX5_earn 63 = .ok (.aload_n 0, 1) := by decide +kernel
theorem dX5_earn_64 : decode cX5_earn 64 = .ok (.getfield 10, 3) := by decide +kernel
theorem dX5_earn_67 : decode cX5_earn 67 = .ok (.getfield 226, 3) := by decide +kernel
theorem dX5_earn_70 : decode cX5_earn 70 = .ok (.iload_n 1, 1) := by decide +kernel
theorem dX5_earn_71 : decode cX5_earn 71 = .ok (.iaload, 1) := by decide +kernel
theorem dX5_earn_72 : decode cX5_earn 72 = .ok (.invokestatic 228, 3) := by decide +kernel
theorem dX5_earn_75 : decode cX5_earn 75 = .ok (.ireturn, 1) := by decide +kernel
set_option maxRecDepth 20000 in
theorem ggX5_hike_X3_everyone : GoodIn wsX5_hike wsX3_everyone := goodIn_r _ [11, 12, 45, 46, 47, 48, 49, 50, 51, 52] (by decide +kernel) (by decide +kernel)
set_option maxRecDepth 20000 in
theorem gX5_hike_X3_everyone : GoodIn wsX5_hike (wsV RX5 232 RX3 yX3_everyone wsX3_everyone) := goodIn_app (goodIn_of _ (by decide +kernel)) ggX5_hike_X3_everyone
set_option maxRecDepth 20000 in
theorem ggX5_hike_X5_checkArgument : GoodIn wsX5_hike wsX5_checkArgument := goodIn_ca (goodIn_r _ [16, 1, 2] (by decide +kernel) (by decide +kernel)) (goodIn_sub (fun _ h => List.mem_cons_of_mem _ (List.mem_append_left _ (List.mem_append_right _ h))) (by decide +kernel))
set_option maxRecDepth 20000 in
theorem gX5_hike_X5_checkArgument : GoodIn wsX5_hike (va_wsS RX5 62 yX5_checkArgument wsX5_checkArgument) := goodIn_app (goodIn_of _ (by decide +kernel)) ggX5_hike_X5_checkArgument
set_option maxRecDepth 20000 in
theorem ggX5_hike_X3_agedAtLeast : GoodIn wsX5_hike wsX3_agedAtLeast := goodIn_r _ [20, 12, 21, 45, 46, 47, 48, 49, 50, 51, 52] (by decide +kernel) (by decide +kernel)
set_option maxRecDepth 20000 in
theorem gX5_hike_X3_agedAtLeast : GoodIn wsX5_hike (wsV RX5 243 RX3 yX3_agedAtLeast wsX3_agedAtLeast) := goodIn_app (goodIn_of _ (by decide +kernel)) ggX5_hike_X3_agedAtLeast
set_option maxRecDepth 20000 in
theorem ggX5_hike_X3_skilledIn : GoodIn wsX5_hike wsX3_skilledIn := goodIn_r _ [25, 12, 26, 45, 46, 47, 48, 49, 50, 51, 52] (by decide +kernel) (by decide +kernel)
set_option maxRecDepth 20000 in
theorem gX5_hike_X3_skilledIn : GoodIn wsX5_hike (wsV RX5 247 RX3 yX3_skilledIn wsX3_skilledIn) := goodIn_app (goodIn_of _ (by decide +kernel)) ggX5_hike_X3_skilledIn
set_option maxRecDepth 20000 in
theorem ggX5_hike_X3_slowestPace : GoodIn wsX5_hike wsX3_slowestPace := goodIn_r _ [30, 12, 31, 32, 33, 34, 35, 36, 37, 10, 38, 21, 26, 45, 46, 47, 48, 49, 50, 51, 52] (by decide +kernel) (by decide +kernel)
set_option maxRecDepth 20000 in
theorem gX5_hike_X3_slowestPace : GoodIn wsX5_hike (wsV RX5 252 RX3 yX3_slowestPace wsX3_slowestPace) := goodIn_app (goodIn_of _ (by decide +kernel)) ggX5_hike_X3_slowestPace
theorem dX5_hike_0 : decode cX5_hike 0 = .ok (.lload_n 1, 1) := by decide +kernel
theorem dX5_hike_1 : decode cX5_hike 1 = .ok (.lconst 0, 1) := by decide +kernel
theorem dX5_hike_2 : decode cX5_hike 2 = .ok (.lcmp, 1) := by decide +kernel
theorem dX5_hike_3 : decode cX5_hike 3 = .ok (.ifCond .eq 21, 3) := by decide +kernel
theorem dX5_hike_6 : decode cX5_hike 6 = .ok (.lload_n 1, 1) := by decide +kernel
theorem dX5_hike_7 : decode cX5_hike 7 = .ok (.aload_n 0, 1) := by decide +kernel
theorem dX5_hike_8 : decode cX5_hike 8 = .ok (.getfield 10, 3) := by decide +kernel
theorem dX5_hike_11 : decode cX5_hike 11 = .ok (.invokevirtual 232, 3) := by decide +kernel
theorem dX5_hike_14 : decode cX5_hike 14 = .ok (.ldc2_w 236, 3) := by decide +kernel
theorem dX5_hike_17 : decode cX5_hike 17 = .ok (.lxor, 1) := by decide +kernel
theorem dX5_hike_18 : decode cX5_hike 18 = .ok (.land, 1) := by decide +kernel
theorem dX5_hike_19 : decode cX5_hike 19 = .ok (.lconst 0, 1) := by decide +kernel
theorem dX5_hike_20 : decode cX5_hike 20 = .ok (.lcmp, 1) := by decide +kernel
theorem dX5_hike_21 : decode cX5_hike 21 = .ok (.ifCond .eq 13, 3) := by decide +kernel
theorem dX5_hike_24 : decode cX5_hike 24 = .ok (.new 238, 3) := by decide +kernel
theorem dX5_hike_27 : decode cX5_hike 27 = .ok (.dup, 1) := by decide +kernel
theorem dX5_hike_28 : decode cX5_hike 28 = .ok (.ldc 240, 2) := by decide +kernel
theorem dX5_hike_30 : decode cX5_hike 30 = .ok (.invokespecial 242, 3) := by decide +kernel
theorem dX5_hike_33 : decode cX5_hike 33 = .ok (.athrow, 1) := by decide +kernel
theorem dX5_hike_34 : decode cX5_hike 34 = .ok (.iload_n 3, 1) := by decide +kernel
theorem dX5_hike_35 : decode cX5_hike 35 = .ok (.iconst 1, 1) := by decide +kernel
theorem dX5_hike_36 : decode cX5_hike 36 = .ok (.bipush 50, 2) := by decide +kernel
theorem dX5_hike_38 : decode cX5_hike 38 = .ok (.invokestatic 62, 3) := by decide +kernel
theorem dX5_hike_41 : decode cX5_hike 41 = .ok (.iload 4, 2) := by decide +kernel
theorem dX5_hike_43 : decode cX5_hike 43 = .ok (.iconst 0, 1) := by decide +kernel
theorem dX5_hike_44 : decode cX5_hike 44 = .ok (.sipush 3000, 3) := by decide +kernel
theorem dX5_hike_47 : decode cX5_hike 47 = .ok (.invokestatic 62, 3) := by decide +kernel
theorem dX5_hike_50 : decode cX5_hike 50 = .ok (.lload_n 1, 1) := by decide +kernel
theorem dX5_hike_51 : decode cX5_hike 51 = .ok (.aload_n 0, 1) := by decide +kernel
theorem dX5_hike_52 : decode cX5_hike 52 = .ok (.getfield 10, 3) := by decide +kernel
theorem dX5_hike_55 : decode cX5_hike 55 = .ok (.bipush 14, 2) := by decide +kernel
theorem dX5_hike_57 : decode cX5_hike 57 = .ok (.invokevirtual 243, 3) := by decide +kernel
theorem dX5_hike_60 : decode cX5_hike 60 = .ok (.land, 1) := by decide +kernel
theorem dX5_hike_61 : decode cX5_hike 61 = .ok (.lconst 0, 1) := by decide +kernel
theorem dX5_hike_62 : decode cX5_hike 62 = .ok (.lcmp, 1) := by decide +kernel
theorem dX5_hike_63 : decode cX5_hike 63 = .ok (.ifCond .eq 18, 3) := by decide +kernel
theorem dX5_hike_66 : decode cX5_hike 66 = .ok (.lload_n 1, 1) := by decide +kernel
theorem dX5_hike_67 : decode cX5_hike 67 = .ok (.aload_n 0, 1) := by decide +kernel
theorem dX5_hike_68 : decode cX5_hike 68 = .ok (.getfield 10, 3) := by decide +kernel
theorem dX5_hike_71 : decode cX5_hike 71 = .ok (.iconst 1, 1) := by decide +kernel
theorem dX5_hike_72 : decode cX5_hike 72 = .ok (.invokevirtual 247, 3) := by decide +kernel
theorem dX5_hike_75 : decode cX5_hike 75 = .ok (.land, 1) := by decide +kernel
theorem dX5_hike_76 : decode cX5_hike 76 = .ok (.lconst 0, 1) := by decide +kernel
theorem dX5_hike_77 : decode cX5_hike 77 = .ok (.lcmp, 1) := by decide +kernel
theorem dX5_hike_78 : decode cX5_hike 78 = .ok (.ifCond .ne 13, 3) := by decide +kernel
theorem dX5_hike_81 : decode cX5_hike 81 = .ok (.new 51, 3) := by decide +kernel
theorem dX5_hike_84 : decode cX5_hike 84 = .ok (.dup, 1) := by decide +kernel
theorem dX5_hike_85 : decode cX5_hike 85 = .ok (.ldc 250, 2) := by decide +kernel
theorem dX5_hike_87 : decode cX5_hike 87 = .ok (.invokespecial 55, 3) := by decide +kernel
theorem dX5_hike_90 : decode cX5_hike 90 = .ok (.athrow, 1) := by decide +kernel
theorem dX5_hike_91 : decode cX5_hike 91 = .ok (.aload_n 0, 1) := by decide +kernel
theorem dX5_hike_92 : decode cX5_hike 92 = .ok (.getfield 10, 3) := by decide +kernel
theorem dX5_hike_95 : decode cX5_hike 95 = .ok (.lload_n 1, 1) := by decide +kernel
theorem dX5_hike_96 : decode cX5_hike 96 = .ok (.invokevirtual 252, 3) := by decide +kernel
theorem dX5_hike_99 : decode cX5_hike 99 = .ok (.iload_n 3, 1) := by decide +kernel
theorem dX5_hike_100 : decode cX5_hike 100 = .ok (.imul, 1) := by decide +kernel
theorem dX5_hike_101 : decode cX5_hike 101 = .ok (.iload 4, 2) := by decide +kernel
theorem dX5_hike_103 : decode cX5_hike 103 = .ok (.bipush 100, 2) := by decide +kernel
theorem dX5_hike_105 : decode cX5_hike 105 = .ok (.idiv, 1) := by decide +kernel
theorem dX5_hike_106 : decode cX5_hike 106 = .ok (.bipush 10, 2) := by decide +kernel
theorem dX5_hike_108 : decode cX5_hike 108 = .ok (.imul, 1) := by decide +kernel
theorem dX5_hike_109 : decode cX5_hike 109 = .ok (.iadd, 1) := by decide +kernel
theorem dX5_hike_110 : decode cX5_hike 110 = .ok (.istore 5, 2) := by decide +kernel
theorem dX5_hike_112 : decode cX5_hike 112 = .ok (.iload 5, 2) := by decide +kernel
theorem dX5_hike_114 : decode cX5_hike 114 = .ok (.iload 5, 2) := by decide +kernel
theorem dX5_hike_116 : decode cX5_hike 116 = .ok (.bipush 60, 2) := by decide +kernel
theorem dX5_hike_118 : decode cX5_hike 118 = .ok (.idiv, 1) := by decide +kernel
theorem dX5_hike_119 : decode cX5_hike 119 = .ok (.iconst 5, 1) := by decide +kernel
theorem dX5_hike_120 : decode cX5_hike 120 = .ok (.imul, 1) := by decide +kernel
theorem dX5_hike_121 : decode cX5_hike 121 = .ok (.iadd, 1) := by decide +kernel
theorem dX5_hike_122 : decode cX5_hike 122 = .ok (.ireturn, 1) := by decide +kernel
set_option maxRecDepth 20000 in
theorem ggX5_end_X2_clearTable : GoodIn wsX5_end wsX2_clearTable := goodIn_r _ [9, 10, 11, 18, 19, 20, 21, 22, 23] (by decide +kernel) (by decide +kernel)
set_option maxRecDepth 20000 in
theorem gX5_end_X2_clearTable : GoodIn wsX5_end (wsV RX5 257 RX2 yX2_clearTable wsX2_clearTable) := goodIn_app (goodIn_of _ (by decide +kernel)) ggX5_end_X2_clearTable
theorem dX5_end_0 : decode cX5_end 0 = .ok (.aload_n 0, 1) := by decide +kernel
theorem dX5_end_1 : decode cX5_end 1 = .ok (.getfield 44, 3) := by decide +kernel
theorem dX5_end_4 : decode cX5_end 4 = .ok (.bipush 60, 2) := by decide +kernel
theorem dX5_end_6 : decode cX5_end 6 = .ok (.if_icmp .lt 13, 3) := by decide +kernel
theorem dX5_end_9 : decode cX5_end 9 = .ok (.new 51, 3) := by decide +kernel
theorem dX5_end_12 : decode cX5_end 12 = .ok (.dup, 1) := by decide +kernel
theorem dX5_end_13 : decode cX5_end 13 = .ok (.ldc 255, 2) := by decide +kernel
theorem dX5_end_15 : decode cX5_end 15 = .ok (.invokespecial 55, 3) := by decide +kernel
theorem dX5_end_18 : decode cX5_end 18 = .ok (.athrow, 1) := by decide +kernel
theorem dX5_end_19 : decode cX5_end 19 = .ok (.aload_n 0, 1) := by decide +kernel
theorem dX5_end_20 : decode cX5_end 20 = .ok (.getfield 33, 3) := by decide +kernel
theorem dX5_end_23 : decode cX5_end 23 = .ok (.invokevirtual 257, 3) := by decide +kernel
theorem dX5_end_26 : decode cX5_end 26 = .ok (.aload_n 0, 1) := by decide +kernel
theorem dX5_end_27 : decode cX5_end 27 = .ok (.dup, 1) := by decide +kernel
theorem dX5_end_28 : decode cX5_end 28 = .ok (.getfield 44, 3) := by decide +kernel
theorem dX5_end_31 : decode cX5_end 31 = .ok (.iconst 1, 1) := by decide +kernel
theorem dX5_end_32 : decode cX5_end 32 = .ok (.iadd, 1) := by decide +kernel
theorem dX5_end_33 : decode cX5_end 33 = .ok (.putfield 44, 3) := by decide +kernel
theorem dX5_end_36 : decode cX5_end 36 = .ok (.aload_n 0, 1) := by decide +kernel
theorem dX5_end_37 : decode cX5_end 37 = .ok (.getfield 44, 3) := by decide +kernel
theorem dX5_end_40 : decode cX5_end 40 = .ok (.ireturn, 1) := by decide +kernel
theorem dX5_day_0 : decode cX5_day 0 = .ok (.aload_n 0, 1) := by decide +kernel
theorem dX5_day_1 : decode cX5_day 1 = .ok (.getfield 44, 3) := by decide +kernel
theorem dX5_day_4 : decode cX5_day 4 = .ok (.ireturn, 1) := by decide +kernel
theorem dX5_meanAge_0 : decode cX5_meanAge 0 = .ok (.aload_n 0, 1) := by decide +kernel
theorem dX5_meanAge_1 : decode cX5_meanAge 1 = .ok (.getfield 10, 3) := by decide +kernel
theorem dX5_meanAge_4 : decode cX5_meanAge 4 = .ok (.getfield 66, 3) := by decide +kernel
theorem dX5_meanAge_7 : decode cX5_meanAge 7 = .ok (.ifCond .ne 5, 3) := by decide +kernel
theorem dX5_meanAge_10 : decode cX5_meanAge 10 = .ok (.dconst 0, 1) := by decide +kernel
theorem dX5_meanAge_11 : decode cX5_meanAge 11 = .ok (.dreturn, 1) := by decide +kernel
theorem dX5_meanAge_12 : decode cX5_meanAge 12 = .ok (.iconst 0, 1) := by decide +kernel
theorem dX5_meanAge_13 : decode cX5_meanAge 13 = .ok (.istore_n 1, 1) := by decide +kernel
theorem dX5_meanAge_14 : decode cX5_meanAge 14 = .ok (.iconst 0, 1) := by decide +kernel
theorem dX5_meanAge_15 : decode cX5_meanAge 15 = .ok (.istore_n 2, 1) := by decide +kernel
theorem dX5_meanAge_16 : decode cX5_meanAge 16 = .ok (.iload_n 2, 1) := by decide +kernel
theorem dX5_meanAge_17 : decode cX5_meanAge 17 = .ok (.aload_n 0, 1) := by decide +kernel
theorem dX5_meanAge_18 : decode cX5_meanAge 18 = .ok (.getfield 10, 3) := by decide +kernel
theorem dX5_meanAge_21 : decode cX5_meanAge 21 = .ok (.getfield 66, 3) := by decide +kernel
theorem dX5_meanAge_24 : decode cX5_meanAge 24 = .ok (.if_icmp .ge 21, 3) := by decide +kernel
theorem dX5_meanAge_27 : decode cX5_meanAge 27 = .ok (.iload_n 1, 1) := by decide +kernel
theorem dX5_meanAge_28 : decode cX5_meanAge 28 = .ok (.aload_n 0, 1) := by decide +kernel
theorem dX5_meanAge_29 : decode cX5_meanAge 29 = .ok (.getfield 10, 3) := by decide +kernel
theorem dX5_meanAge_32 : decode cX5_meanAge 32 = .ok (.getfield 112, 3) := by decide +kernel
theorem dX5_meanAge_35 : decode cX5_meanAge 35 = .ok (.iload_n 2, 1) := by decide +kernel
theorem dX5_meanAge_36 : decode cX5_meanAge 36 = .ok (.iaload, 1) := by decide +kernel
theorem dX5_meanAge_37 : decode cX5_meanAge 37 = .ok (.iadd, 1) := by decide +kernel
theorem dX5_meanAge_38 : decode cX5_meanAge 38 = .ok (.istore_n 1, 1) := by decide +kernel
theorem dX5_meanAge_39 : decode cX5_meanAge 39 = .ok (.iinc 2 1, 3) := by decide +kernel
theorem dX5_meanAge_42 : decode cX5_meanAge 42 = .ok (.goto (-26), 3) := by decide +kernel
theorem dX5_meanAge_45 : decode cX5_meanAge 45 = .ok (.iload_n 1, 1) := by decide +kernel
theorem dX5_meanAge_46 : decode cX5_meanAge 46 = .ok (.i2d, 1) := by decide +kernel
theorem dX5_meanAge_47 : decode cX5_meanAge 47 = .ok (.aload_n 0, 1) := by decide +kernel
theorem dX5_meanAge_48 : decode cX5_meanAge 48 = .ok (.getfield 10, 3) := by decide +kernel
theorem dX5_meanAge_51 : decode cX5_meanAge 51 = .ok (.getfield 66, 3) := by decide +kernel
theorem dX5_meanAge_54 : decode cX5_meanAge 54 = .ok (.i2d, 1) := by decide +kernel
theorem dX5_meanAge_55 : decode cX5_meanAge 55 = .ok (.ddiv, 1) := by decide +kernel
theorem dX5_meanAge_56 : decode cX5_meanAge 56 = .ok (.dreturn, 1) := by decide +kernel
set_option maxRecDepth 20000 in
theorem ggX5_digest_X5_mixed : GoodIn wsX5_digest wsX5_mixed := goodIn_r _ [12, 13] (by decide +kernel) (by decide +kernel)
set_option maxRecDepth 20000 in
theorem gX5_digest_X5_mixed : GoodIn wsX5_digest (va_wsS RX5 262 yX5_mixed wsX5_mixed) := goodIn_app (goodIn_of _ (by decide +kernel)) ggX5_digest_X5_mixed
set_option maxRecDepth 20000 in
theorem ggX5_digest_X5_countOf : GoodIn wsX5_digest wsX5_countOf := goodIn_r _ [17, 18, 19, 20, 3, 4, 7, 21, 22, 23, 24, 25, 26, 27, 11, 28, 29, 30, 31, 32, 33, 34, 35, 36, 37, 38, 39, 40, 41, 42, 105, 106, 107, 108, 109, 110, 120, 121, 122, 123, 124, 125, 126, 127, 111, 112, 113, 114, 115, 116, 117, 118, 119, 128, 129, 130] (by decide +kernel) (by decide +kernel)
set_option maxRecDepth 20000 in
theorem gX5_digest_X5_countOf : GoodIn wsX5_digest (wsV RX5 124 RX5 yX5_countOf wsX5_countOf) := goodIn_app (goodIn_of _ (by decide +kernel)) ggX5_digest_X5_countOf
set_option maxRecDepth 20000 in
theorem ggX5_digest_X5_withPeople : GoodIn wsX5_digest wsX5_withPeople := goodIn_r _ [46, 18, 19, 6, 47, 20, 9, 10, 11, 12, 13, 48, 49, 50, 51, 52, 53, 54, 55, 3, 56, 57, 58, 59, 32, 60, 34, 35, 61, 62, 63, 64, 65, 66, 67, 68, 69, 70, 105, 106, 107, 108, 109, 110, 120, 121, 122, 123, 124, 125, 126, 127, 131, 132, 111, 112, 113] (by decide +kernel) (by decide +kernel)
set_option maxRecDepth 20000 in
theorem gX5_digest_X5_withPeople : GoodIn wsX5_digest (wsV RX5 266 RX5 yX5_withPeople wsX5_withPeople) := goodIn_app (goodIn_of _ (by decide +kernel)) ggX5_digest_X5_withPeople
set_option maxRecDepth 20000 in
theorem ggX5_digest_X1_holderOn : GoodIn wsX5_digest wsX1_holderOn := goodIn_r _ [75, 76, 131, 132] (by decide +kernel) (by decide +kernel)
set_option maxRecDepth 20000 in
theorem gX5_digest_X1_holderOn : GoodIn wsX5_digest (wsV RX5 133 RX1 yX1_holderOn wsX1_holderOn) := goodIn_app (goodIn_of _ (by decide +kernel)) ggX5_digest_X1_holderOn
set_option maxRecDepth 20000 in
theorem ggX5_digest_X5_withKitchen : GoodIn wsX5_digest wsX5_withKitchen := goodIn_r _ [80, 7, 21, 81, 22, 18, 9, 10, 11, 12, 13, 82, 83, 84, 85, 86, 87, 88, 89, 90, 91, 92, 93, 94, 95, 96, 97, 98, 105, 106, 107, 108, 109, 110, 114, 115, 116, 117, 118, 119, 120, 121, 122, 123, 124, 125, 126, 127] (by decide +kernel) (by decide +kernel)
set_option maxRecDepth 20000 in
theorem gX5_digest_X5_withKitchen : GoodIn wsX5_digest (wsV RX5 270 RX5 yX5_withKitchen wsX5_withKitchen) := goodIn_app (goodIn_of _ (by decide +kernel)) ggX5_digest_X5_withKitchen
set_option maxRecDepth 20000 in
theorem ggX5_digest_X5_hungryScouts : GoodIn wsX5_digest wsX5_hungryScouts := goodIn_r _ [102, 18, 20, 7, 103, 104, 37, 38, 39, 40, 41, 42, 105, 106, 107, 108, 109, 110, 120, 121, 122, 123, 124, 125, 126, 127, 114, 115, 116, 117, 118, 119] (by decide +kernel) (by decide +kernel)
set_option maxRecDepth 20000 in
theorem gX5_digest_X5_hungryScouts : GoodIn wsX5_digest (wsV RX5 199 RX5 yX5_hungryScouts wsX5_hungryScouts) := goodIn_app (goodIn_of _ (by decide +kernel)) ggX5_digest_X5_hungryScouts
theorem dX5_digest_0 : decode cX5_digest 0 = .ok (.ldc2_w 260, 3) := by decide +kernel
theorem dX5_digest_3 : decode cX5_digest 3 = .ok (.aload_n 0, 1) := by decide +kernel
theorem dX5_digest_4 : decode cX5_digest 4 = .ok (.getfield 44, 3) := by decide +kernel
theorem dX5_digest_7 : decode cX5_digest 7 = .ok (.i2l, 1) := by decide +kernel
theorem dX5_digest_8 : decode cX5_digest 8 = .ok (.invokestatic 262, 3) := by decide +kernel
theorem dX5_digest_11 : decode cX5_digest 11 = .ok (.lstore_n 1, 1) := by decide +kernel
theorem dX5_digest_12 : decode cX5_digest 12 = .ok (.iconst 0, 1) := by decide +kernel
theorem dX5_digest_13 : decode cX5_digest 13 = .ok (.istore_n 3, 1) := by decide +kernel
theorem dX5_digest_14 : decode cX5_digest 14 = .ok (.iload_n 3, 1) := by decide +kernel
theorem dX5_digest_15 : decode cX5_digest 15 = .ok (.bipush 7, 2) := by decide +kernel
theorem dX5_digest_17 : decode cX5_digest 17 = .ok (.if_icmp .ge 20, 3) := by decide +kernel
theorem dX5_digest_20 : decode cX5_digest 20 = .ok (.lload_n 1, 1) := by decide +kernel
theorem dX5_digest_21 : decode cX5_digest 21 = .ok (.aload_n 0, 1) := by decide +kernel
theorem dX5_digest_22 : decode cX5_digest 22 = .ok (.iload_n 3, 1) := by decide +kernel
theorem dX5_digest_23 : decode cX5_digest 23 = .ok (.invokevirtual 124, 3) := by decide +kernel
theorem dX5_digest_26 : decode cX5_digest 26 = .ok (.i2l, 1) := by decide +kernel
theorem dX5_digest_27 : decode cX5_digest 27 = .ok (.invokestatic 262, 3) := by decide +kernel
theorem dX5_digest_30 : decode cX5_digest 30 = .ok (.lstore_n 1, 1) := by decide +kernel
theorem dX5_digest_31 : decode cX5_digest 31 = .ok (.iinc 3 1, 3) := by decide +kernel
theorem dX5_digest_34 : decode cX5_digest 34 = .ok (.goto (-20), 3) := by decide +kernel
theorem dX5_digest_37 : decode cX5_digest 37 = .ok (.aload_n 0, 1) := by decide +kernel
theorem dX5_digest_38 : decode cX5_digest 38 = .ok (.lload_n 1, 1) := by decide +kernel
theorem dX5_digest_39 : decode cX5_digest 39 = .ok (.invokevirtual 266, 3) := by decide +kernel
theorem dX5_digest_42 : decode cX5_digest 42 = .ok (.lstore_n 1, 1) := by decide +kernel
theorem dX5_digest_43 : decode cX5_digest 43 = .ok (.iconst 0, 1) := by decide +kernel
theorem dX5_digest_44 : decode cX5_digest 44 = .ok (.istore_n 3, 1) := by decide +kernel
theorem dX5_digest_45 : decode cX5_digest 45 = .ok (.iload_n 3, 1) := by decide +kernel
theorem dX5_digest_46 : decode cX5_digest 46 = .ok (.aload_n 0, 1) := by decide +kernel
theorem dX5_digest_47 : decode cX5_digest 47 = .ok (.getfield 19, 3) := by decide +kernel
theorem dX5_digest_50 : decode cX5_digest 50 = .ok (.getfield 79, 3) := by decide +kernel
theorem dX5_digest_53 : decode cX5_digest 53 = .ok (.if_icmp .ge 23, 3) := by decide +kernel
theorem dX5_digest_56 : decode cX5_digest 56 = .ok (.lload_n 1, 1) := by decide +kernel
theorem dX5_digest_57 : decode cX5_digest 57 = .ok (.aload_n 0, 1) := by decide +kernel
theorem dX5_digest_58 : decode cX5_digest 58 = .ok (.getfield 19, 3) := by decide +kernel
theorem dX5_digest_61 : decode cX5_digest 61 = .ok (.getfield 108, 3) := by decide +kernel
theorem dX5_digest_64 : decode cX5_digest 64 = .ok (.iload_n 3, 1) := by decide +kernel
theorem dX5_digest_65 : decode cX5_digest 65 = .ok (.laload, 1) := by decide +kernel
theorem dX5_digest_66 : decode cX5_digest 66 = .ok (.invokestatic 262, 3) := by decide +kernel
theorem dX5_digest_69 : decode cX5_digest 69 = .ok (.lstore_n 1, 1) := by decide +kernel
theorem dX5_digest_70 : decode cX5_digest 70 = .ok (.iinc 3 1, 3) := by decide +kernel
theorem dX5_digest_73 : decode cX5_digest 73 = .ok (.goto (-28), 3) := by decide +kernel
theorem dX5_digest_76 : decode cX5_digest 76 = .ok (.iconst 0, 1) := by decide +kernel
theorem dX5_digest_77 : decode cX5_digest 77 = .ok (.istore_n 3, 1) := by decide +kernel
theorem dX5_digest_78 : decode cX5_digest 78 = .ok (.iload_n 3, 1) := by decide +kernel
theorem dX5_digest_79 : decode cX5_digest 79 = .ok (.iconst 5, 1) := by decide +kernel
theorem dX5_digest_80 : decode cX5_digest 80 = .ok (.if_icmp .ge 27, 3) := by decide +kernel
theorem dX5_digest_83 : decode cX5_digest 83 = .ok (.lload_n 1, 1) := by decide +kernel
theorem dX5_digest_84 : decode cX5_digest 84 = .ok (.aload_n 0, 1) := by decide +kernel
theorem dX5_digest_85 : decode cX5_digest 85 = .ok (.getfield 26, 3) := by decide +kernel
theorem dX5_digest_88 : decode cX5_digest 88 = .ok (.aload_n 0, 1) := by decide +kernel
theorem dX5_digest_89 : decode cX5_digest 89 = .ok (.getfield 44, 3) := by decide +kernel
theorem dX5_digest_92 : decode cX5_digest 92 = .ok (.iload_n 3, 1) := by decide +kernel
theorem dX5_digest_93 : decode cX5_digest 93 = .ok (.invokevirtual 133, 3) := by decide +kernel
theorem dX5_digest_96 : decode cX5_digest 96 = .ok (.i2l, 1) := by decide +kernel
theorem dX5_digest_97 : decode cX5_digest 97 = .ok (.invokestatic 262, 3) := by decide +kernel
theorem dX5_digest_100 : decode cX5_digest 100 = .ok (.lstore_n 1, 1) := by decide +kernel
theorem dX5_digest_101 : decode cX5_digest 101 = .ok (.iinc 3 1, 3) := by decide +kernel
theorem dX5_digest_104 : decode cX5_digest 104 = .ok (.goto (-26), 3) := by decide +kernel
theorem dX5_digest_107 : decode cX5_digest 107 = .ok (.aload_n 0, 1) := by decide +kernel
theorem dX5_digest_108 : decode cX5_digest 108 = .ok (.lload_n 1, 1) := by decide +kernel
theorem dX5_digest_109 : decode cX5_digest 109 = .ok (.invokevirtual 270, 3) := by decide +kernel
theorem dX5_digest_112 : decode cX5_digest 112 = .ok (.lstore_n 1, 1) := by decide +kernel
theorem dX5_digest_113 : decode cX5_digest 113 = .ok (.lload_n 1, 1) := by decide +kernel
theorem dX5_digest_114 : decode cX5_digest 114 = .ok (.aload_n 0, 1) := by decide +kernel
theorem dX5_digest_115 : decode cX5_digest 115 = .ok (.invokevirtual 199, 3) := by decide +kernel
theorem dX5_digest_118 : decode cX5_digest 118 = .ok (.i2l, 1) := by decide +kernel
theorem dX5_digest_119 : decode cX5_digest 119 = .ok (.invokestatic 262, 3) := by decide +kernel
theorem dX5_digest_122 : decode cX5_digest 122 = .ok (.aload_n 0, 1) := by decide +kernel
theorem dX5_digest_123 : decode cX5_digest 123 = .ok (.getfield 33, 3) := by decide +kernel
theorem dX5_digest_126 : decode cX5_digest 126 = .ok (.getfield 202, 3) := by decide +kernel
theorem dX5_digest_129 : decode cX5_digest 129 = .ok (.i2l, 1) := by decide +kernel
theorem dX5_digest_130 : decode cX5_digest 130 = .ok (.invokestatic 262, 3) := by decide +kernel
theorem dX5_digest_133 : decode cX5_digest 133 = .ok (.lreturn, 1) := by decide +kernel
theorem dX5_checkNumber_0 : decode cX5_checkNumber 0 = .ok (.iload_n 0, 1) := by decide +kernel
theorem dX5_checkNumber_1 : decode cX5_checkNumber 1 = .ok (.ifCond .lt 8, 3) := by decide +kernel
theorem dX5_checkNumber_4 : decode cX5_checkNumber 4 = .ok (.iload_n 0, 1) := by decide +kernel
theorem dX5_checkNumber_5 : decode cX5_checkNumber 5 = .ok (.iload_n 1, 1) := by decide +kernel
theorem dX5_checkNumber_6 : decode cX5_checkNumber 6 = .ok (.if_icmp .lt 14, 3) := by decide +kernel
theorem dX5_checkNumber_9 : decode cX5_checkNumber 9 = .ok (.new 273, 3) := by decide +kernel
theorem dX5_checkNumber_12 : decode cX5_checkNumber 12 = .ok (.dup, 1) := by decide +kernel
theorem dX5_checkNumber_13 : decode cX5_checkNumber 13 = .ok (.ldc_w 275, 3) := by decide +kernel
theorem dX5_checkNumber_16 : decode cX5_checkNumber 16 = .ok (.invokespecial 277, 3) := by decide +kernel
theorem dX5_checkNumber_19 : decode cX5_checkNumber 19 = .ok (.athrow, 1) := by decide +kernel
theorem dX5_checkNumber_20 : decode cX5_checkNumber 20 = .ok (.return_, 1) := by decide +kernel
set_option maxRecDepth 20000 in
theorem ggX5_checkNumberOrNone_X5_checkNumber : GoodIn wsX5_checkNumberOrNone wsX5_checkNumber := goodIn_ca (goodIn_r _ [4, 5, 6] (by decide +kernel) (by decide +kernel)) (goodIn_sub (fun _ h => List.mem_cons_of_mem _ (List.mem_append_right _ h)) (by decide +kernel))
set_option maxRecDepth 20000 in
theorem gX5_checkNumberOrNone_X5_checkNumber : GoodIn wsX5_checkNumberOrNone (va_wsS RX5 58 yX5_checkNumber wsX5_checkNumber) := goodIn_app (goodIn_of _ (by decide +kernel)) ggX5_checkNumberOrNone_X5_checkNumber
theorem dX5_checkNumberOrNone_0 : decode cX5_checkNumberOrNone 0 = .ok (.iload_n 0, 1) := by decide +kernel
theorem dX5_checkNumberOrNone_1 : decode cX5_checkNumberOrNone 1 = .ok (.iconst (-1), 1) := by decide +kernel
theorem dX5_checkNumberOrNone_2 : decode cX5_checkNumberOrNone 2 = .ok (.if_icmp .eq 8, 3) := by decide +kernel
theorem dX5_checkNumberOrNone_5 : decode cX5_checkNumberOrNone 5 = .ok (.iload_n 0, 1) := by decide +kernel
theorem dX5_checkNumberOrNone_6 : decode cX5_checkNumberOrNone 6 = .ok (.iload_n 1, 1) := by decide +kernel
theorem dX5_checkNumberOrNone_7 : decode cX5_checkNumberOrNone 7 = .ok (.invokestatic 58, 3) := by decide +kernel
theorem dX5_checkNumberOrNone_10 : decode cX5_checkNumberOrNone 10 = .ok (.return_, 1) := by decide +kernel
theorem dX5_checkArgument_0 : decode cX5_checkArgument 0 = .ok (.iload_n 0, 1) := by decide +kernel
theorem dX5_checkArgument_1 : decode cX5_checkArgument 1 = .ok (.iload_n 1, 1) := by decide +kernel
theorem dX5_checkArgument_2 : decode cX5_checkArgument 2 = .ok (.if_icmp .lt 8, 3) := by decide +kernel
theorem dX5_checkArgument_5 : decode cX5_checkArgument 5 = .ok (.iload_n 0, 1) := by decide +kernel
theorem dX5_checkArgument_6 : decode cX5_checkArgument 6 = .ok (.iload_n 2, 1) := by decide +kernel
theorem dX5_checkArgument_7 : decode cX5_checkArgument 7 = .ok (.if_icmp .le 14, 3) := by decide +kernel
theorem dX5_checkArgument_10 : decode cX5_checkArgument 10 = .ok (.new 238, 3) := by decide +kernel
theorem dX5_checkArgument_13 : decode cX5_checkArgument 13 = .ok (.dup, 1) := by decide +kernel
theorem dX5_checkArgument_14 : decode cX5_checkArgument 14 = .ok (.ldc_w 278, 3) := by decide +kernel
theorem dX5_checkArgument_17 : decode cX5_checkArgument 17 = .ok (.invokespecial 242, 3) := by decide +kernel
theorem dX5_checkArgument_20 : decode cX5_checkArgument 20 = .ok (.athrow, 1) := by decide +kernel
theorem dX5_checkArgument_21 : decode cX5_checkArgument 21 = .ok (.return_, 1) := by decide +kernel
set_option maxRecDepth 20000 in
theorem ggX5_factOf_X4_tentOf : GoodIn wsX5_factOf wsX4_tentOf := goodIn_r _ [12, 13, 14, 39, 40, 41] (by decide +kernel) (by decide +kernel)
set_option maxRecDepth 20000 in
theorem gX5_factOf_X4_tentOf : GoodIn wsX5_factOf (wsV RX5 91 RX4 yX4_tentOf wsX4_tentOf) := goodIn_app (goodIn_of _ (by decide +kernel)) ggX5_factOf_X4_tentOf
set_option maxRecDepth 20000 in
theorem ggX5_factOf_X3_allHours : GoodIn wsX5_factOf wsX3_allHours := goodIn_r _ [19, 20, 21, 22, 18, 23, 24, 31, 32, 33, 34, 35, 36, 37, 38] (by decide +kernel) (by decide +kernel)
set_option maxRecDepth 20000 in
theorem gX5_factOf_X3_allHours : GoodIn wsX5_factOf (wsV RX5 286 RX3 yX3_allHours wsX3_allHours) := goodIn_app (goodIn_of _ (by decide +kernel)) ggX5_factOf_X3_allHours
theorem dX5_factOf_0 : decode cX5_factOf 0 = .ok (.iload_n 2, 1) := by decide +kernel
theorem dX5_factOf_1 : decode cX5_factOf 1 = .ok (.tableswitch 98 0 5 #[39, 49, 59, 69, 79, 88], 39) := by decide +kernel
theorem dX5_factOf_40 : decode cX5_factOf 40 = .ok (.aload_n 0, 1) := by decide +kernel
theorem dX5_factOf_41 : decode cX5_factOf 41 = .ok (.getfield 10, 3) := by decide +kernel
theorem dX5_factOf_44 : decode cX5_factOf 44 = .ok (.getfield 280, 3) := by decide +kernel
theorem dX5_factOf_47 : decode cX5_factOf 47 = .ok (.iload_n 1, 1) := by decide +kernel
theorem dX5_factOf_48 : decode cX5_factOf 48 = .ok (.iaload, 1) := by decide +kernel
theorem dX5_factOf_49 : decode cX5_factOf 49 = .ok (.ireturn, 1) := by decide +kernel
theorem dX5_factOf_50 : decode cX5_factOf 50 = .ok (.aload_n 0, 1) := by decide +kernel
theorem dX5_factOf_51 : decode cX5_factOf 51 = .ok (.getfield 10, 3) := by decide +kernel
theorem dX5_factOf_54 : decode cX5_factOf 54 = .ok (.getfield 112, 3) := by decide +kernel
theorem dX5_factOf_57 : decode cX5_factOf 57 = .ok (.iload_n 1, 1) := by decide +kernel
theorem dX5_factOf_58 : decode cX5_factOf 58 = .ok (.iaload, 1) := by decide +kernel
theorem dX5_factOf_59 : decode cX5_factOf 59 = .ok (.ireturn, 1) := by decide +kernel
theorem dX5_factOf_60 : decode cX5_factOf 60 = .ok (.aload_n 0, 1) := by decide +kernel
theorem dX5_factOf_61 : decode cX5_factOf 61 = .ok (.getfield 10, 3) := by decide +kernel
theorem dX5_factOf_64 : decode cX5_factOf 64 = .ok (.getfield 283, 3) := by decide +kernel
theorem dX5_factOf_67 : decode cX5_factOf 67 = .ok (.iload_n 1, 1) := by decide +kernel
theorem dX5_factOf_68 : decode cX5_factOf 68 = .ok (.iaload, 1) := by decide +kernel
theorem dX5_factOf_69 : decode cX5_factOf 69 = .ok (.ireturn, 1) := by decide +kernel
theorem dX5_factOf_70 : decode cX5_factOf 70 = .ok (.aload_n 0, 1) := by decide +kernel
theorem dX5_factOf_71 : decode cX5_factOf 71 = .ok (.getfield 10, 3) := by decide +kernel
theorem dX5_factOf_74 : decode cX5_factOf 74 = .ok (.getfield 161, 3) := by decide +kernel
theorem dX5_factOf_77 : decode cX5_factOf 77 = .ok (.iload_n 1, 1) := by decide +kernel
theorem dX5_factOf_78 : decode cX5_factOf 78 = .ok (.iaload, 1) := by decide +kernel
theorem dX5_factOf_79 : decode cX5_factOf 79 = .ok (.ireturn, 1) := by decide +kernel
theorem dX5_factOf_80 : decode cX5_factOf 80 = .ok (.aload_n 0, 1) := by decide +kernel
theorem dX5_factOf_81 : decode cX5_factOf 81 = .ok (.getfield 19, 3) := by decide +kernel
theorem dX5_factOf_84 : decode cX5_factOf 84 = .ok (.iload_n 1, 1) := by decide +kernel
theorem dX5_factOf_85 : decode cX5_factOf 85 = .ok (.invokevirtual 91, 3) := by decide +kernel
theorem dX5_factOf_88 : decode cX5_factOf 88 = .ok (.ireturn, 1) := by decide +kernel
theorem dX5_factOf_89 : decode cX5_factOf 89 = .ok (.aload_n 0, 1) := by decide +kernel
theorem dX5_factOf_90 : decode cX5_factOf 90 = .ok (.getfield 10, 3) := by decide +kernel
theorem dX5_factOf_93 : decode cX5_factOf 93 = .ok (.getfield 226, 3) := by decide +kernel
theorem dX5_factOf_96 : decode cX5_factOf 96 = .ok (.iload_n 1, 1) := by decide +kernel
theorem dX5_factOf_97 : decode cX5_factOf 97 = .ok (.iaload, 1) := by decide +kernel
theorem dX5_factOf_98 : decode cX5_factOf 98 = .ok (.ireturn, 1) := by decide +kernel
theorem dX5_factOf_99 : decode cX5_factOf 99 = .ok (.aload_n 0, 1) := by decide +kernel
theorem dX5_factOf_100 : decode cX5_factOf 100 = .ok (.getfield 10, 3) := by decide +kernel
theorem dX5_factOf_103 : decode cX5_factOf 103 = .ok (.iload_n 1, 1) := by decide +kernel
theorem dX5_factOf_104 : decode cX5_factOf 104 = .ok (.invokevirtual 286, 3) := by decide +kernel
theorem dX5_factOf_107 : decode cX5_factOf 107 = .ok (.ireturn, 1) := by decide +kernel
set_option maxRecDepth 20000 in
theorem ggX5_countOf_X5_scoutsWithoutTent : GoodIn wsX5_countOf wsX5_scoutsWithoutTent := goodIn_r _ [15, 1, 3, 4, 16, 17, 18, 19, 20, 21, 22, 23, 24, 25, 26, 27, 28, 29, 30, 31, 32, 33, 34, 35, 36, 37, 38, 39, 40, 41, 42, 43, 44, 45, 46] (by decide +kernel) (by decide +kernel)
set_option maxRecDepth 20000 in
theorem gX5_countOf_X5_scoutsWithoutTent : GoodIn wsX5_countOf (wsV RX5 120 RX5 yX5_scoutsWithoutTent wsX5_scoutsWithoutTent) := goodIn_app (goodIn_of _ (by decide +kernel)) ggX5_countOf_X5_scoutsWithoutTent
theorem dX5_countOf_0 : decode cX5_countOf 0 = .ok (.iload_n 1, 1) := by decide +kernel
theorem dX5_countOf_1 : decode cX5_countOf 1 = .ok (.tableswitch 84 0 5 #[39, 47, 55, 63, 68, 76], 39) := by decide +kernel
theorem dX5_countOf_40 : decode cX5_countOf 40 = .ok (.aload_n 0, 1) := by decide +kernel
theorem dX5_countOf_41 : decode cX5_countOf 41 = .ok (.getfield 10, 3) := by decide +kernel
theorem dX5_countOf_44 : decode cX5_countOf 44 = .ok (.getfield 48, 3) := by decide +kernel
theorem dX5_countOf_47 : decode cX5_countOf 47 = .ok (.ireturn, 1) := by decide +kernel
theorem dX5_countOf_48 : decode cX5_countOf 48 = .ok (.aload_n 0, 1) := by decide +kernel
theorem dX5_countOf_49 : decode cX5_countOf 49 = .ok (.getfield 10, 3) := by decide +kernel
theorem dX5_countOf_52 : decode cX5_countOf 52 = .ok (.getfield 66, 3) := by decide +kernel
theorem dX5_countOf_55 : decode cX5_countOf 55 = .ok (.ireturn, 1) := by decide +kernel
theorem dX5_countOf_56 : decode cX5_countOf 56 = .ok (.aload_n 0, 1) := by decide +kernel
theorem dX5_countOf_57 : decode cX5_countOf 57 = .ok (.getfield 19, 3) := by decide +kernel
theorem dX5_countOf_60 : decode cX5_countOf 60 = .ok (.getfield 79, 3) := by decide +kernel
theorem dX5_countOf_63 : decode cX5_countOf 63 = .ok (.ireturn, 1) := by decide +kernel
theorem dX5_countOf_64 : decode cX5_countOf 64 = .ok (.aload_n 0, 1) := by decide +kernel
theorem dX5_countOf_65 : decode cX5_countOf 65 = .ok (.invokevirtual 120, 3) := by decide +kernel
theorem dX5_countOf_68 : decode cX5_countOf 68 = .ok (.ireturn, 1) := by decide +kernel
theorem dX5_countOf_69 : decode cX5_countOf 69 = .ok (.aload_n 0, 1) := by decide +kernel
theorem dX5_countOf_70 : decode cX5_countOf 70 = .ok (.getfield 33, 3) := by decide +kernel
theorem dX5_countOf_73 : decode cX5_countOf 73 = .ok (.getfield 151, 3) := by decide +kernel
theorem dX5_countOf_76 : decode cX5_countOf 76 = .ok (.ireturn, 1) := by decide +kernel
theorem dX5_countOf_77 : decode cX5_countOf 77 = .ok (.aload_n 0, 1) := by decide +kernel
theorem dX5_countOf_78 : decode cX5_countOf 78 = .ok (.getfield 33, 3) := by decide +kernel
theorem dX5_countOf_81 : decode cX5_countOf 81 = .ok (.getfield 164, 3) := by decide +kernel
theorem dX5_countOf_84 : decode cX5_countOf 84 = .ok (.ireturn, 1) := by decide +kernel
theorem dX5_countOf_85 : decode cX5_countOf 85 = .ok (.aload_n 0, 1) := by decide +kernel
theorem dX5_countOf_86 : decode cX5_countOf 86 = .ok (.getfield 40, 3) := by decide +kernel
theorem dX5_countOf_89 : decode cX5_countOf 89 = .ok (.getfield 209, 3) := by decide +kernel
theorem dX5_countOf_92 : decode cX5_countOf 92 = .ok (.ireturn, 1) := by decide +kernel
set_option maxRecDepth 20000 in
theorem ggX5_scoutsWithoutTent_X4_allSleepers : GoodIn wsX5_scoutsWithoutTent wsX4_allSleepers := goodIn_r _ [8, 9, 10, 11, 12, 13, 14, 15, 16, 17, 32, 33, 34] (by decide +kernel) (by decide +kernel)
set_option maxRecDepth 20000 in
theorem gX5_scoutsWithoutTent_X4_allSleepers : GoodIn wsX5_scoutsWithoutTent (wsV RX5 289 RX4 yX4_allSleepers wsX4_allSleepers) := goodIn_app (goodIn_of _ (by decide +kernel)) ggX5_scoutsWithoutTent_X4_allSleepers
theorem dX5_scoutsWithoutTent_0 : decode cX5_scoutsWithoutTent 0 = .ok (.aload_n 0, 1) := by decide +kernel
theorem dX5_scoutsWithoutTent_1 : decode cX5_scoutsWithoutTent 1 = .ok (.getfield 10, 3) := by decide +kernel
theorem dX5_scoutsWithoutTent_4 : decode cX5_scoutsWithoutTent 4 = .ok (.getfield 66, 3) := by decide +kernel
theorem dX5_scoutsWithoutTent_7 : decode cX5_scoutsWithoutTent 7 = .ok (.aload_n 0, 1) := by decide +kernel
theorem dX5_scoutsWithoutTent_8 : decode cX5_scoutsWithoutTent 8 = .ok (.getfield 19, 3) := by decide +kernel
theorem dX5_scoutsWithoutTent_11 : decode cX5_scoutsWithoutTent 11 = .ok (.invokevirtual 289, 3) := by decide +kernel
theorem dX5_scoutsWithoutTent_14 : decode cX5_scoutsWithoutTent 14 = .ok (.isub, 1) := by decide +kernel
theorem dX5_scoutsWithoutTent_15 : decode cX5_scoutsWithoutTent 15 = .ok (.ireturn, 1) := by decide +kernel
set_option maxRecDepth 20000 in
theorem ggX5_hungryScouts_J13_bitCount_95d88 : GoodIn wsX5_hungryScouts wsJ13_bitCount_95d88 := goodIn_r _ [8, 9, 10, 11] (by decide +kernel) (by decide +kernel)
set_option maxRecDepth 20000 in
theorem gX5_hungryScouts_J13_bitCount_95d88 : GoodIn wsX5_hungryScouts (va_wsS RX5 179 yJ13_bitCount_95d88 wsJ13_bitCount_95d88) := goodIn_app (goodIn_of _ (by decide +kernel)) ggX5_hungryScouts_J13_bitCount_95d88
theorem dX5_hungryScouts_0 : decode cX5_hungryScouts 0 = .ok (.aload_n 0, 1) := by decide +kernel
theorem dX5_hungryScouts_1 : decode cX5_hungryScouts 1 = .ok (.getfield 10, 3) := by decide +kernel
theorem dX5_hungryScouts_4 : decode cX5_hungryScouts 4 = .ok (.getfield 66, 3) := by decide +kernel
theorem dX5_hungryScouts_7 : decode cX5_hungryScouts 7 = .ok (.aload_n 0, 1) := by decide +kernel
theorem dX5_hungryScouts_8 : decode cX5_hungryScouts 8 = .ok (.getfield 33, 3) := by decide +kernel
theorem dX5_hungryScouts_11 : decode cX5_hungryScouts 11 = .ok (.getfield 292, 3) := by decide +kernel
theorem dX5_hungryScouts_14 : decode cX5_hungryScouts 14 = .ok (.invokestatic 179, 3) := by decide +kernel
theorem dX5_hungryScouts_17 : decode cX5_hungryScouts 17 = .ok (.isub, 1) := by decide +kernel
theorem dX5_hungryScouts_18 : decode cX5_hungryScouts 18 = .ok (.ireturn, 1) := by decide +kernel
set_option maxRecDepth 20000 in
theorem ggX5_withPeople_X5_mixed : GoodIn wsX5_withPeople wsX5_mixed := goodIn_r _ [9, 10] (by decide +kernel) (by decide +kernel)
set_option maxRecDepth 20000 in
theorem gX5_withPeople_X5_mixed : GoodIn wsX5_withPeople (va_wsS RX5 262 yX5_mixed wsX5_mixed) := goodIn_app (goodIn_of _ (by decide +kernel)) ggX5_withPeople_X5_mixed
set_option maxRecDepth 20000 in
theorem ggX5_withPeople_X5_factOf : GoodIn wsX5_withPeople wsX5_factOf := goodIn_r _ [14, 1, 15, 16, 17, 18, 19, 20, 21, 22, 23, 24, 25, 26, 27, 28, 29, 30, 31, 32, 33, 34, 35, 36, 37, 38, 39, 40, 41, 42, 43, 44, 45, 46, 47, 48, 49, 50, 51, 54, 55, 56] (by decide +kernel) (by decide +kernel)
set_option maxRecDepth 20000 in
theorem gX5_withPeople_X5_factOf : GoodIn wsX5_withPeople (wsV RX5 75 RX5 yX5_factOf wsX5_factOf) := goodIn_app (goodIn_of _ (by decide +kernel)) ggX5_withPeople_X5_factOf
theorem dX5_withPeople_0 : decode cX5_withPeople 0 = .ok (.lload_n 1, 1) := by decide +kernel
theorem dX5_withPeople_1 : decode cX5_withPeople 1 = .ok (.lstore_n 3, 1) := by decide +kernel
theorem dX5_withPeople_2 : decode cX5_withPeople 2 = .ok (.iconst 0, 1) := by decide +kernel
theorem dX5_withPeople_3 : decode cX5_withPeople 3 = .ok (.istore 5, 2) := by decide +kernel
theorem dX5_withPeople_5 : decode cX5_withPeople 5 = .ok (.iload 5, 2) := by decide +kernel
theorem dX5_withPeople_7 : decode cX5_withPeople 7 = .ok (.aload_n 0, 1) := by decide +kernel
theorem dX5_withPeople_8 : decode cX5_withPeople 8 = .ok (.getfield 10, 3) := by decide +kernel
theorem dX5_withPeople_11 : decode cX5_withPeople 11 = .ok (.getfield 48, 3) := by decide +kernel
theorem dX5_withPeople_14 : decode cX5_withPeople 14 = .ok (.if_icmp .ge 25, 3) := by decide +kernel
theorem dX5_withPeople_17 : decode cX5_withPeople 17 = .ok (.lload_n 3, 1) := by decide +kernel
theorem dX5_withPeople_18 : decode cX5_withPeople 18 = .ok (.aload_n 0, 1) := by decide +kernel
theorem dX5_withPeople_19 : decode cX5_withPeople 19 = .ok (.getfield 26, 3) := by decide +kernel
theorem dX5_withPeople_22 : decode cX5_withPeople 22 = .ok (.getfield 139, 3) := by decide +kernel
theorem dX5_withPeople_25 : decode cX5_withPeople 25 = .ok (.iload 5, 2) := by decide +kernel
theorem dX5_withPeople_27 : decode cX5_withPeople 27 = .ok (.iaload, 1) := by decide +kernel
theorem dX5_withPeople_28 : decode cX5_withPeople 28 = .ok (.i2l, 1) := by decide +kernel
theorem dX5_withPeople_29 : decode cX5_withPeople 29 = .ok (.invokestatic 262, 3) := by decide +kernel
theorem dX5_withPeople_32 : decode cX5_withPeople 32 = .ok (.lstore_n 3, 1) := by decide +kernel
theorem dX5_withPeople_33 : decode cX5_withPeople 33 = .ok (.iinc 5 1, 3) := by decide +kernel
theorem dX5_withPeople_36 : decode cX5_withPeople 36 = .ok (.goto (-31), 3) := by decide +kernel
theorem dX5_withPeople_39 : decode cX5_withPeople 39 = .ok (.iconst 0, 1) := by decide +kernel
theorem dX5_withPeople_40 : decode cX5_withPeople 40 = .ok (.istore 5, 2) := by decide +kernel
theorem dX5_withPeople_42 : decode cX5_withPeople 42 = .ok (.iload 5, 2) := by decide +kernel
theorem dX5_withPeople_44 : decode cX5_withPeople 44 = .ok (.aload_n 0, 1) := by decide +kernel
theorem dX5_withPeople_45 : decode cX5_withPeople 45 = .ok (.getfield 10, 3) := by decide +kernel
theorem dX5_withPeople_48 : decode cX5_withPeople 48 = .ok (.getfield 66, 3) := by decide +kernel
theorem dX5_withPeople_51 : decode cX5_withPeople 51 = .ok (.if_icmp .ge 39, 3) := by decide +kernel
theorem dX5_withPeople_54 : decode cX5_withPeople 54 = .ok (.iconst 0, 1) := by decide +kernel
theorem dX5_withPeople_55 : decode cX5_withPeople 55 = .ok (.istore 6, 2) := by decide +kernel
theorem dX5_withPeople_57 : decode cX5_withPeople 57 = .ok (.iload 6, 2) := by decide +kernel
theorem dX5_withPeople_59 : decode cX5_withPeople 59 = .ok (.bipush 7, 2) := by decide +kernel
theorem dX5_withPeople_61 : decode cX5_withPeople 61 = .ok (.if_icmp .ge 23, 3) := by decide +kernel
theorem dX5_withPeople_64 : decode cX5_withPeople 64 = .ok (.lload_n 3, 1) := by decide +kernel
theorem dX5_withPeople_65 : decode cX5_withPeople 65 = .ok (.aload_n 0, 1) := by decide +kernel
theorem dX5_withPeople_66 : decode cX5_withPeople 66 = .ok (.iload 5, 2) := by decide +kernel
theorem dX5_withPeople_68 : decode cX5_withPeople 68 = .ok (.iload 6, 2) := by decide +kernel
theorem dX5_withPeople_70 : decode cX5_withPeople 70 = .ok (.invokevirtual 75, 3) := by decide +kernel
theorem dX5_withPeople_73 : decode cX5_withPeople 73 = .ok (.i2l, 1) := by decide +kernel
theorem dX5_withPeople_74 : decode cX5_withPeople 74 = .ok (.invokestatic 262, 3) := by decide +kernel
theorem dX5_withPeople_77 : decode cX5_withPeople 77 = .ok (.lstore_n 3, 1) := by decide +kernel
theorem dX5_withPeople_78 : decode cX5_withPeople 78 = .ok (.iinc 6 1, 3) := by decide +kernel
theorem dX5_withPeople_81 : decode cX5_withPeople 81 = .ok (.goto (-24), 3) := by decide +kernel
theorem dX5_withPeople_84 : decode cX5_withPeople 84 = .ok (.iinc 5 1, 3) := by decide +kernel
theorem dX5_withPeople_87 : decode cX5_withPeople 87 = .ok (.goto (-45), 3) := by decide +kernel
theorem dX5_withPeople_90 : decode cX5_withPeople 90 = .ok (.lload_n 3, 1) := by decide +kernel
theorem dX5_withPeople_91 : decode cX5_withPeople 91 = .ok (.lreturn, 1) := by decide +kernel
set_option maxRecDepth 20000 in
theorem ggX5_withKitchen_X5_mixed : GoodIn wsX5_withKitchen wsX5_mixed := goodIn_r _ [9, 10] (by decide +kernel) (by decide +kernel)
set_option maxRecDepth 20000 in
theorem gX5_withKitchen_X5_mixed : GoodIn wsX5_withKitchen (va_wsS RX5 262 yX5_mixed wsX5_mixed) := goodIn_app (goodIn_of _ (by decide +kernel)) ggX5_withKitchen_X5_mixed
set_option maxRecDepth 20000 in
theorem ggX5_withKitchen_X2_eatersOf : GoodIn wsX5_withKitchen wsX2_eatersOf := goodIn_r _ [15, 16, 17, 18, 19, 20, 14, 21, 22, 23, 24, 25, 26, 27, 40, 41, 42, 43, 44, 45, 46, 47, 34, 35, 36, 37, 38, 39] (by decide +kernel) (by decide +kernel)
set_option maxRecDepth 20000 in
theorem gX5_withKitchen_X2_eatersOf : GoodIn wsX5_withKitchen (wsV RX5 175 RX2 yX2_eatersOf wsX2_eatersOf) := goodIn_app (goodIn_of _ (by decide +kernel)) ggX5_withKitchen_X2_eatersOf
theorem dX5_withKitchen_0 : decode cX5_withKitchen 0 = .ok (.lload_n 1, 1) := by decide +kernel
theorem dX5_withKitchen_1 : decode cX5_withKitchen 1 = .ok (.lstore_n 3, 1) := by decide +kernel
theorem dX5_withKitchen_2 : decode cX5_withKitchen 2 = .ok (.iconst 0, 1) := by decide +kernel
theorem dX5_withKitchen_3 : decode cX5_withKitchen 3 = .ok (.istore 5, 2) := by decide +kernel
theorem dX5_withKitchen_5 : decode cX5_withKitchen 5 = .ok (.iload 5, 2) := by decide +kernel
theorem dX5_withKitchen_7 : decode cX5_withKitchen 7 = .ok (.aload_n 0, 1) := by decide +kernel
theorem dX5_withKitchen_8 : decode cX5_withKitchen 8 = .ok (.getfield 33, 3) := by decide +kernel
theorem dX5_withKitchen_11 : decode cX5_withKitchen 11 = .ok (.getfield 151, 3) := by decide +kernel
theorem dX5_withKitchen_14 : decode cX5_withKitchen 14 = .ok (.if_icmp .ge 25, 3) := by decide +kernel
theorem dX5_withKitchen_17 : decode cX5_withKitchen 17 = .ok (.lload_n 3, 1) := by decide +kernel
theorem dX5_withKitchen_18 : decode cX5_withKitchen 18 = .ok (.aload_n 0, 1) := by decide +kernel
theorem dX5_withKitchen_19 : decode cX5_withKitchen 19 = .ok (.getfield 33, 3) := by decide +kernel
theorem dX5_withKitchen_22 : decode cX5_withKitchen 22 = .ok (.getfield 156, 3) := by decide +kernel
theorem dX5_withKitchen_25 : decode cX5_withKitchen 25 = .ok (.iload 5, 2) := by decide +kernel
theorem dX5_withKitchen_27 : decode cX5_withKitchen 27 = .ok (.iaload, 1) := by decide +kernel
theorem dX5_withKitchen_28 : decode cX5_withKitchen 28 = .ok (.i2l, 1) := by decide +kernel
theorem dX5_withKitchen_29 : decode cX5_withKitchen 29 = .ok (.invokestatic 262, 3) := by decide +kernel
theorem dX5_withKitchen_32 : decode cX5_withKitchen 32 = .ok (.lstore_n 3, 1) := by decide +kernel
theorem dX5_withKitchen_33 : decode cX5_withKitchen 33 = .ok (.iinc 5 1, 3) := by decide +kernel
theorem dX5_withKitchen_36 : decode cX5_withKitchen 36 = .ok (.goto (-31), 3) := by decide +kernel
theorem dX5_withKitchen_39 : decode cX5_withKitchen 39 = .ok (.iconst 0, 1) := by decide +kernel
theorem dX5_withKitchen_40 : decode cX5_withKitchen 40 = .ok (.istore 5, 2) := by decide +kernel
theorem dX5_withKitchen_42 : decode cX5_withKitchen 42 = .ok (.iload 5, 2) := by decide +kernel
theorem dX5_withKitchen_44 : decode cX5_withKitchen 44 = .ok (.aload_n 0, 1) := by decide +kernel
theorem dX5_withKitchen_45 : decode cX5_withKitchen 45 = .ok (.getfield 33, 3) := by decide +kernel
theorem dX5_withKitchen_48 : decode cX5_withKitchen 48 = .ok (.getfield 164, 3) := by decide +kernel
theorem dX5_withKitchen_51 : decode cX5_withKitchen 51 = .ok (.if_icmp .ge 27, 3) := by decide +kernel
theorem dX5_withKitchen_54 : decode cX5_withKitchen 54 = .ok (.lload_n 3, 1) := by decide +kernel
theorem dX5_withKitchen_55 : decode cX5_withKitchen 55 = .ok (.aload_n 0, 1) := by decide +kernel
theorem dX5_withKitchen_56 : decode cX5_withKitchen 56 = .ok (.getfield 33, 3) := by decide +kernel
theorem dX5_withKitchen_59 : decode cX5_withKitchen 59 = .ok (.iload 5, 2) := by decide +kernel
theorem dX5_withKitchen_61 : decode cX5_withKitchen 61 = .ok (.aload_n 0, 1) := by decide +kernel
theorem dX5_withKitchen_62 : decode cX5_withKitchen 62 = .ok (.getfield 10, 3) := by decide +kernel
theorem dX5_withKitchen_65 : decode cX5_withKitchen 65 = .ok (.invokevirtual 175, 3) := by decide +kernel
theorem dX5_withKitchen_68 : decode cX5_withKitchen 68 = .ok (.invokestatic 262, 3) := by decide +kernel
theorem dX5_withKitchen_71 : decode cX5_withKitchen 71 = .ok (.lstore_n 3, 1) := by decide +kernel
theorem dX5_withKitchen_72 : decode cX5_withKitchen 72 = .ok (.iinc 5 1, 3) := by decide +kernel
theorem dX5_withKitchen_75 : decode cX5_withKitchen 75 = .ok (.goto (-33), 3) := by decide +kernel
theorem dX5_withKitchen_78 : decode cX5_withKitchen 78 = .ok (.lload_n 3, 1) := by decide +kernel
theorem dX5_withKitchen_79 : decode cX5_withKitchen 79 = .ok (.lreturn, 1) := by decide +kernel
theorem dX5_mixed_0 : decode cX5_mixed 0 = .ok (.lload_n 0, 1) := by decide +kernel
theorem dX5_mixed_1 : decode cX5_mixed 1 = .ok (.ldc2_w 296, 3) := by decide +kernel
theorem dX5_mixed_4 : decode cX5_mixed 4 = .ok (.lmul, 1) := by decide +kernel
theorem dX5_mixed_5 : decode cX5_mixed 5 = .ok (.lload_n 2, 1) := by decide +kernel
theorem dX5_mixed_6 : decode cX5_mixed 6 = .ok (.ladd, 1) := by decide +kernel
theorem dX5_mixed_7 : decode cX5_mixed 7 = .ok (.lreturn, 1) := by decide +kernel
theorem dX6_init_0 : decode cX6_init 0 = .ok (.aload_n 0, 1) := by decide +kernel
theorem dX6_init_1 : decode cX6_init 1 = .ok (.invokespecial 1, 3) := by decide +kernel
theorem dX6_init_4 : decode cX6_init 4 = .ok (.aload_n 0, 1) := by decide +kernel
theorem dX6_init_5 : decode cX6_init 5 = .ok (.bipush 30, 2) := by decide +kernel
theorem dX6_init_7 : decode cX6_init 7 = .ok (.newarray .int, 2) := by decide +kernel
theorem dX6_init_9 : decode cX6_init 9 = .ok (.putfield 9, 3) := by decide +kernel
theorem dX6_init_12 : decode cX6_init 12 = .ok (.aload_n 0, 1) := by decide +kernel
theorem dX6_init_13 : decode cX6_init 13 = .ok (.bipush 30, 2) := by decide +kernel
theorem dX6_init_15 : decode cX6_init 15 = .ok (.newarray .int, 2) := by decide +kernel
theorem dX6_init_17 : decode cX6_init 17 = .ok (.putfield 13, 3) := by decide +kernel
theorem dX6_init_20 : decode cX6_init 20 = .ok (.aload_n 0, 1) := by decide +kernel
theorem dX6_init_21 : decode cX6_init 21 = .ok (.bipush 30, 2) := by decide +kernel
theorem dX6_init_23 : decode cX6_init 23 = .ok (.newarray .int, 2) := by decide +kernel
theorem dX6_init_25 : decode cX6_init 25 = .ok (.putfield 16, 3) := by decide +kernel
theorem dX6_init_28 : decode cX6_init 28 = .ok (.aload_n 0, 1) := by decide +kernel
theorem dX6_init_29 : decode cX6_init 29 = .ok (.bipush 30, 2) := by decide +kernel
theorem dX6_init_31 : decode cX6_init 31 = .ok (.newarray .int, 2) := by decide +kernel
theorem dX6_init_33 : decode cX6_init 33 = .ok (.putfield 19, 3) := by decide +kernel
theorem dX6_init_36 : decode cX6_init 36 = .ok (.aload_n 0, 1) := by decide +kernel
theorem dX6_init_37 : decode cX6_init 37 = .ok (.bipush 30, 2) := by decide +kernel
theorem dX6_init_39 : decode cX6_init 39 = .ok (.newarray .int, 2) := by decide +kernel
theorem dX6_init_41 : decode cX6_init 41 = .ok (.putfield 22, 3) := by decide +kernel
theorem dX6_init_44 : decode cX6_init 44 = .ok (.aload_n 0, 1) := by decide +kernel
theorem dX6_init_45 : decode cX6_init 45 = .ok (.bipush 30, 2) := by decide +kernel
theorem dX6_init_47 : decode cX6_init 47 = .ok (.newarray .int, 2) := by decide +kernel
theorem dX6_init_49 : decode cX6_init 49 = .ok (.putfield 25, 3) := by decide +kernel
theorem dX6_init_52 : decode cX6_init 52 = .ok (.aload_n 0, 1) := by decide +kernel
theorem dX6_init_53 : decode cX6_init 53 = .ok (.sipush 300, 3) := by decide +kernel
theorem dX6_init_56 : decode cX6_init 56 = .ok (.newarray .int, 2) := by decide +kernel
theorem dX6_init_58 : decode cX6_init 58 = .ok (.putfield 28, 3) := by decide +kernel
theorem dX6_init_61 : decode cX6_init 61 = .ok (.aload_n 0, 1) := by decide +kernel
theorem dX6_init_62 : decode cX6_init 62 = .ok (.bipush 30, 2) := by decide +kernel
theorem dX6_init_64 : decode cX6_init 64 = .ok (.newarray .boolean, 2) := by decide +kernel
theorem dX6_init_66 : decode cX6_init 66 = .ok (.putfield 31, 3) := by decide +kernel
theorem dX6_init_69 : decode cX6_init 69 = .ok (.aload_n 0, 1) := by decide +kernel
theorem dX6_init_70 : decode cX6_init 70 = .ok (.bipush 10, 2) := by decide +kernel
theorem dX6_init_72 : decode cX6_init 72 = .ok (.newarray .int, 2) := by decide +kernel
theorem dX6_init_74 : decode cX6_init 74 = .ok (.putfield 35, 3) := by decide +kernel
theorem dX6_init_77 : decode cX6_init 77 = .ok (.aload_n 0, 1) := by decide +kernel
theorem dX6_init_78 : decode cX6_init 78 = .ok (.sipush 305, 3) := by decide +kernel
theorem dX6_init_81 : decode cX6_init 81 = .ok (.newarray .int, 2) := by decide +kernel
theorem dX6_init_83 : decode cX6_init 83 = .ok (.putfield 38, 3) := by decide +kernel
theorem dX6_init_86 : decode cX6_init 86 = .ok (.aload_n 0, 1) := by decide +kernel
theorem dX6_init_87 : decode cX6_init 87 = .ok (.bipush 12, 2) := by decide +kernel
theorem dX6_init_89 : decode cX6_init 89 = .ok (.newarray .int, 2) := by decide +kernel
theorem dX6_init_91 : decode cX6_init 91 = .ok (.putfield 41, 3) := by decide +kernel
theorem dX6_init_94 : decode cX6_init 94 = .ok (.aload_n 0, 1) := by decide +kernel
theorem dX6_init_95 : decode cX6_init 95 = .ok (.bipush 120, 2) := by decide +kernel
theorem dX6_init_97 : decode cX6_init 97 = .ok (.newarray .int, 2) := by decide +kernel
theorem dX6_init_99 : decode cX6_init 99 = .ok (.putfield 44, 3) := by decide +kernel
theorem dX6_init_102 : decode cX6_init 102 = .ok (.aload_n 0, 1) := by decide +kernel
theorem dX6_init_103 : decode cX6_init 103 = .ok (.bipush 8, 2) := by decide +kernel
theorem dX6_init_105 : decode cX6_init 105 = .ok (.newarray .int, 2) := by decide +kernel
theorem dX6_init_107 : decode cX6_init 107 = .ok (.putfield 47, 3) := by decide +kernel
theorem dX6_init_110 : decode cX6_init 110 = .ok (.aload_n 0, 1) := by decide +kernel
theorem dX6_init_111 : decode cX6_init 111 = .ok (.bipush 80, 2) := by decide +kernel
theorem dX6_init_113 : decode cX6_init 113 = .ok (.newarray .int, 2) := by decide +kernel
theorem dX6_init_115 : decode cX6_init 115 = .ok (.putfield 50, 3) := by decide +kernel
theorem dX6_init_118 : decode cX6_init 118 = .ok (.iconst 0, 1) := by decide +kernel
theorem dX6_init_119 : decode cX6_init 119 = .ok (.istore_n 1, 1) := by decide +kernel
theorem dX6_init_120 : decode cX6_init 120 = .ok (.iload_n 1, 1) := by decide +kernel
theorem dX6_init_121 : decode cX6_init 121 = .ok (.aload_n 0, 1) := by decide +kernel
theorem dX6_init_122 : decode cX6_init 122 = .ok (.getfield 38, 3) := by decide +kernel
theorem dX6_init_125 : decode cX6_init 125 = .ok (.arraylength, 1) := by decide +kernel
theorem dX6_init_126 : decode cX6_init 126 = .ok (.if_icmp .ge 16, 3) := by decide +kernel
theorem dX6_init_129 : decode cX6_init 129 = .ok (.aload_n 0, 1) := by decide +kernel
theorem dX6_init_130 : decode cX6_init 130 = .ok (.getfield 38, 3) := by decide +kernel
theorem dX6_init_133 : decode cX6_init 133 = .ok (.iload_n 1, 1) := by decide +kernel
theorem dX6_init_134 : decode cX6_init 134 = .ok (.iconst (-1), 1) := by decide +kernel
theorem dX6_init_135 : decode cX6_init 135 = .ok (.iastore, 1) := by decide +kernel
theorem dX6_init_136 : decode cX6_init 136 = .ok (.iinc 1 1, 3) := by decide +kernel
theorem dX6_init_139 : decode cX6_init 139 = .ok (.goto (-19), 3) := by decide +kernel
theorem dX6_init_142 : decode cX6_init 142 = .ok (.return_, 1) := by decide +kernel
theorem dX6_thrown_0 : decode cX6_thrown 0 = .ok (.aload_n 0, 1) := by decide +kernel
theorem dX6_thrown_1 : decode cX6_thrown 1 = .ok (.getfield 53, 3) := by decide +kernel
theorem dX6_thrown_4 : decode cX6_thrown 4 = .ok (.ireturn, 1) := by decide +kernel
theorem dX6_no_0 : decode cX6_no 0 = .ok (.aload_n 0, 1) := by decide +kernel
theorem dX6_no_1 : decode cX6_no 1 = .ok (.iload_n 1, 1) := by decide +kernel
theorem dX6_no_2 : decode cX6_no 2 = .ok (.putfield 53, 3) := by decide +kernel
theorem dX6_no_5 : decode cX6_no 5 = .ok (.iconst 0, 1) := by decide +kernel
theorem dX6_no_6 : decode cX6_no 6 = .ok (.ireturn, 1) := by decide +kernel
theorem dX6_isIn_0 : decode cX6_isIn 0 = .ok (.iload_n 0, 1) := by decide +kernel
theorem dX6_isIn_1 : decode cX6_isIn 1 = .ok (.iload_n 1, 1) := by decide +kernel
theorem dX6_isIn_2 : decode cX6_isIn 2 = .ok (.if_icmp .lt 12, 3) := by decide +kernel
theorem dX6_isIn_5 : decode cX6_isIn 5 = .ok (.iload_n 0, 1) := by decide +kernel
theorem dX6_isIn_6 : decode cX6_isIn 6 = .ok (.iload_n 2, 1) := by decide +kernel
theorem dX6_isIn_7 : decode cX6_isIn 7 = .ok (.if_icmp .gt 7, 3) := by decide +kernel
theorem dX6_isIn_10 : decode cX6_isIn 10 = .ok (.iconst 1, 1) := by decide +kernel
theorem dX6_isIn_11 : decode cX6_isIn 11 = .ok (.goto 4, 3) := by decide +kernel
theorem dX6_isIn_14 : decode cX6_isIn 14 = .ok (.iconst 0, 1) := by decide +kernel
theorem dX6_isIn_15 : decode cX6_isIn 15 = .ok (.ireturn, 1) := by decide +kernel
set_option maxRecDepth 20000 in
theorem ggX6_isPatrol_X6_isIn : GoodIn wsX6_isPatrol wsX6_isIn := goodIn_r _ [5] (by decide +kernel) (by decide +kernel)
set_option maxRecDepth 20000 in
theorem gX6_isPatrol_X6_isIn : GoodIn wsX6_isPatrol (va_wsS RX6 60 yX6_isIn wsX6_isIn) := goodIn_app (goodIn_of _ (by decide +kernel)) ggX6_isPatrol_X6_isIn
theorem dX6_isPatrol_0 : decode cX6_isPatrol 0 = .ok (.iload_n 1, 1) := by decide +kernel
theorem dX6_isPatrol_1 : decode cX6_isPatrol 1 = .ok (.iconst 0, 1) := by decide +kernel
theorem dX6_isPatrol_2 : decode cX6_isPatrol 2 = .ok (.aload_n 0, 1) := by decide +kernel
theorem dX6_isPatrol_3 : decode cX6_isPatrol 3 = .ok (.getfield 57, 3) := by decide +kernel
theorem dX6_isPatrol_6 : decode cX6_isPatrol 6 = .ok (.iconst 1, 1) := by decide +kernel
theorem dX6_isPatrol_7 : decode cX6_isPatrol 7 = .ok (.isub, 1) := by decide +kernel
theorem dX6_isPatrol_8 : decode cX6_isPatrol 8 = .ok (.invokestatic 60, 3) := by decide +kernel
theorem dX6_isPatrol_11 : decode cX6_isPatrol 11 = .ok (.ireturn, 1) := by decide +kernel
set_option maxRecDepth 20000 in
theorem ggX6_isScout_X6_isIn : GoodIn wsX6_isScout wsX6_isIn := goodIn_r _ [5] (by decide +kernel) (by decide +kernel)
set_option maxRecDepth 20000 in
theorem gX6_isScout_X6_isIn : GoodIn wsX6_isScout (va_wsS RX6 60 yX6_isIn wsX6_isIn) := goodIn_app (goodIn_of _ (by decide +kernel)) ggX6_isScout_X6_isIn
theorem dX6_isScout_0 : decode cX6_isScout 0 = .ok (.iload_n 1, 1) := by decide +kernel
theorem dX6_isScout_1 : decode cX6_isScout 1 = .ok (.iconst 0, 1) := by decide +kernel
theorem dX6_isScout_2 : decode cX6_isScout 2 = .ok (.aload_n 0, 1) := by decide +kernel
theorem dX6_isScout_3 : decode cX6_isScout 3 = .ok (.getfield 64, 3) := by decide +kernel
theorem dX6_isScout_6 : decode cX6_isScout 6 = .ok (.iconst 1, 1) := by decide +kernel
theorem dX6_isScout_7 : decode cX6_isScout 7 = .ok (.isub, 1) := by decide +kernel
theorem dX6_isScout_8 : decode cX6_isScout 8 = .ok (.invokestatic 60, 3) := by decide +kernel
theorem dX6_isScout_11 : decode cX6_isScout 11 = .ok (.ireturn, 1) := by decide +kernel
set_option maxRecDepth 20000 in
theorem ggX6_isTent_X6_isIn : GoodIn wsX6_isTent wsX6_isIn := goodIn_r _ [5] (by decide +kernel) (by decide +kernel)
set_option maxRecDepth 20000 in
theorem gX6_isTent_X6_isIn : GoodIn wsX6_isTent (va_wsS RX6 60 yX6_isIn wsX6_isIn) := goodIn_app (goodIn_of _ (by decide +kernel)) ggX6_isTent_X6_isIn
theorem dX6_isTent_0 : decode cX6_isTent 0 = .ok (.iload_n 1, 1) := by decide +kernel
theorem dX6_isTent_1 : decode cX6_isTent 1 = .ok (.iconst 0, 1) := by decide +kernel
theorem dX6_isTent_2 : decode cX6_isTent 2 = .ok (.aload_n 0, 1) := by decide +kernel
theorem dX6_isTent_3 : decode cX6_isTent 3 = .ok (.getfield 67, 3) := by decide +kernel
theorem dX6_isTent_6 : decode cX6_isTent 6 = .ok (.iconst 1, 1) := by decide +kernel
theorem dX6_isTent_7 : decode cX6_isTent 7 = .ok (.isub, 1) := by decide +kernel
theorem dX6_isTent_8 : decode cX6_isTent 8 = .ok (.invokestatic 60, 3) := by decide +kernel
theorem dX6_isTent_11 : decode cX6_isTent 11 = .ok (.ireturn, 1) := by decide +kernel
set_option maxRecDepth 20000 in
theorem ggX6_isFood_X6_isIn : GoodIn wsX6_isFood wsX6_isIn := goodIn_r _ [5] (by decide +kernel) (by decide +kernel)
set_option maxRecDepth 20000 in
theorem gX6_isFood_X6_isIn : GoodIn wsX6_isFood (va_wsS RX6 60 yX6_isIn wsX6_isIn) := goodIn_app (goodIn_of _ (by decide +kernel)) ggX6_isFood_X6_isIn
theorem dX6_isFood_0 : decode cX6_isFood 0 = .ok (.iload_n 1, 1) := by decide +kernel
theorem dX6_isFood_1 : decode cX6_isFood 1 = .ok (.iconst 0, 1) := by decide +kernel
theorem dX6_isFood_2 : decode cX6_isFood 2 = .ok (.aload_n 0, 1) := by decide +kernel
theorem dX6_isFood_3 : decode cX6_isFood 3 = .ok (.getfield 70, 3) := by decide +kernel
theorem dX6_isFood_6 : decode cX6_isFood 6 = .ok (.iconst 1, 1) := by decide +kernel
theorem dX6_isFood_7 : decode cX6_isFood 7 = .ok (.isub, 1) := by decide +kernel
theorem dX6_isFood_8 : decode cX6_isFood 8 = .ok (.invokestatic 60, 3) := by decide +kernel
theorem dX6_isFood_11 : decode cX6_isFood 11 = .ok (.ireturn, 1) := by decide +kernel
set_option maxRecDepth 20000 in
theorem ggX6_isMeal_X6_isIn : GoodIn wsX6_isMeal wsX6_isIn := goodIn_r _ [5] (by decide +kernel) (by decide +kernel)
set_option maxRecDepth 20000 in
theorem gX6_isMeal_X6_isIn : GoodIn wsX6_isMeal (va_wsS RX6 60 yX6_isIn wsX6_isIn) := goodIn_app (goodIn_of _ (by decide +kernel)) ggX6_isMeal_X6_isIn
theorem dX6_isMeal_0 : decode cX6_isMeal 0 = .ok (.iload_n 1, 1) := by decide +kernel
theorem dX6_isMeal_1 : decode cX6_isMeal 1 = .ok (.iconst 0, 1) := by decide +kernel
theorem dX6_isMeal_2 : decode cX6_isMeal 2 = .ok (.aload_n 0, 1) := by decide +kernel
theorem dX6_isMeal_3 : decode cX6_isMeal 3 = .ok (.getfield 73, 3) := by decide +kernel
theorem dX6_isMeal_6 : decode cX6_isMeal 6 = .ok (.iconst 1, 1) := by decide +kernel
theorem dX6_isMeal_7 : decode cX6_isMeal 7 = .ok (.isub, 1) := by decide +kernel
theorem dX6_isMeal_8 : decode cX6_isMeal 8 = .ok (.invokestatic 60, 3) := by decide +kernel
theorem dX6_isMeal_11 : decode cX6_isMeal 11 = .ok (.ireturn, 1) := by decide +kernel
set_option maxRecDepth 20000 in
theorem ggX6_isBadge_X6_isIn : GoodIn wsX6_isBadge wsX6_isIn := goodIn_r _ [5] (by decide +kernel) (by decide +kernel)
set_option maxRecDepth 20000 in
theorem gX6_isBadge_X6_isIn : GoodIn wsX6_isBadge (va_wsS RX6 60 yX6_isIn wsX6_isIn) := goodIn_app (goodIn_of _ (by decide +kernel)) ggX6_isBadge_X6_isIn
theorem dX6_isBadge_0 : decode cX6_isBadge 0 = .ok (.iload_n 1, 1) := by decide +kernel
theorem dX6_isBadge_1 : decode cX6_isBadge 1 = .ok (.iconst 0, 1) := by decide +kernel
theorem dX6_isBadge_2 : decode cX6_isBadge 2 = .ok (.aload_n 0, 1) := by decide +kernel
theorem dX6_isBadge_3 : decode cX6_isBadge 3 = .ok (.getfield 76, 3) := by decide +kernel
theorem dX6_isBadge_6 : decode cX6_isBadge 6 = .ok (.iconst 1, 1) := by decide +kernel
theorem dX6_isBadge_7 : decode cX6_isBadge 7 = .ok (.isub, 1) := by decide +kernel
theorem dX6_isBadge_8 : decode cX6_isBadge 8 = .ok (.invokestatic 60, 3) := by decide +kernel
theorem dX6_isBadge_11 : decode cX6_isBadge 11 = .ok (.ireturn, 1) := by decide +kernel
set_option maxRecDepth 20000 in
theorem ggX6_addPatrol_X6_no : GoodIn wsX6_addPatrol wsX6_no := goodIn_r _ [7, 1, 8, 9, 10, 11, 12, 13, 14, 15, 16, 17, 18, 19, 20, 21, 22, 23, 24, 25, 26, 27, 28, 29, 30] (by decide +kernel) (by decide +kernel)
set_option maxRecDepth 20000 in
theorem gX6_addPatrol_X6_no : GoodIn wsX6_addPatrol (wsV RX6 79 RX6 yX6_no wsX6_no) := goodIn_app (goodIn_of _ (by decide +kernel)) ggX6_addPatrol_X6_no
theorem dX6_addPatrol_0 : decode cX6_addPatrol 0 = .ok (.aload_n 0, 1) := by decide +kernel
theorem dX6_addPatrol_1 : decode cX6_addPatrol 1 = .ok (.iconst 0, 1) := by decide +kernel
theorem dX6_addPatrol_2 : decode cX6_addPatrol 2 = .ok (.putfield 53, 3) := by decide +kernel
theorem dX6_addPatrol_5 : decode cX6_addPatrol 5 = .ok (.aload_n 0, 1) := by decide +kernel
theorem dX6_addPatrol_6 : decode cX6_addPatrol 6 = .ok (.getfield 57, 3) := by decide +kernel
theorem dX6_addPatrol_9 : decode cX6_addPatrol 9 = .ok (.bipush 6, 2) := by decide +kernel
theorem dX6_addPatrol_11 : decode cX6_addPatrol 11 = .ok (.if_icmp .ne 9, 3) := by decide +kernel
theorem dX6_addPatrol_14 : decode cX6_addPatrol 14 = .ok (.aload_n 0, 1) := by decide +kernel
theorem dX6_addPatrol_15 : decode cX6_addPatrol 15 = .ok (.iconst 1, 1) := by decide +kernel
theorem dX6_addPatrol_16 : decode cX6_addPatrol 16 = .ok (.invokevirtual 79, 3) := by decide +kernel
theorem dX6_addPatrol_19 : decode cX6_addPatrol 19 = .ok (.ireturn, 1) := by decide +kernel
theorem dX6_addPatrol_20 : decode cX6_addPatrol 20 = .ok (.aload_n 0, 1) := by decide +kernel
theorem dX6_addPatrol_21 : decode cX6_addPatrol 21 = .ok (.dup, 1) := by decide +kernel
theorem dX6_addPatrol_22 : decode cX6_addPatrol 22 = .ok (.getfield 57, 3) := by decide +kernel
theorem dX6_addPatrol_25 : decode cX6_addPatrol 25 = .ok (.iconst 1, 1) := by decide +kernel
theorem dX6_addPatrol_26 : decode cX6_addPatrol 26 = .ok (.iadd, 1) := by decide +kernel
theorem dX6_addPatrol_27 : decode cX6_addPatrol 27 = .ok (.putfield 57, 3) := by decide +kernel
theorem dX6_addPatrol_30 : decode cX6_addPatrol 30 = .ok (.aload_n 0, 1) := by decide +kernel
theorem dX6_addPatrol_31 : decode cX6_addPatrol 31 = .ok (.getfield 57, 3) := by decide +kernel
theorem dX6_addPatrol_34 : decode cX6_addPatrol 34 = .ok (.iconst 1, 1) := by decide +kernel
theorem dX6_addPatrol_35 : decode cX6_addPatrol 35 = .ok (.isub, 1) := by decide +kernel
theorem dX6_addPatrol_36 : decode cX6_addPatrol 36 = .ok (.ireturn, 1) := by decide +kernel
set_option maxRecDepth 20000 in
theorem ggX6_addScout_X6_isPatrol : GoodIn wsX6_addScout wsX6_isPatrol := goodIn_r _ [11, 12, 13, 14, 10, 15, 20, 21, 22, 23, 24, 25, 26, 27, 28, 29, 30, 31, 32, 33, 34, 35, 36, 37, 38, 39, 40, 41, 42] (by decide +kernel) (by decide +kernel)
set_option maxRecDepth 20000 in
theorem gX6_addScout_X6_isPatrol : GoodIn wsX6_addScout (wsV RX6 83 RX6 yX6_isPatrol wsX6_isPatrol) := goodIn_app (goodIn_of _ (by decide +kernel)) ggX6_addScout_X6_isPatrol
set_option maxRecDepth 20000 in
theorem ggX6_addScout_X6_no : GoodIn wsX6_addScout wsX6_no := goodIn_r _ [19, 1, 20, 21, 22, 23, 24, 25, 26, 27, 28, 29, 30, 31, 32, 33, 34, 35, 36, 37, 38, 39, 40, 41, 42] (by decide +kernel) (by decide +kernel)
set_option maxRecDepth 20000 in
theorem gX6_addScout_X6_no : GoodIn wsX6_addScout (wsV RX6 79 RX6 yX6_no wsX6_no) := goodIn_app (goodIn_of _ (by decide +kernel)) ggX6_addScout_X6_no
set_option maxRecDepth 20000 in
theorem ggX6_addScout_X6_isIn : GoodIn wsX6_addScout wsX6_isIn := goodIn_r _ [15] (by decide +kernel) (by decide +kernel)
set_option maxRecDepth 20000 in
theorem gX6_addScout_X6_isIn : GoodIn wsX6_addScout (va_wsS RX6 60 yX6_isIn wsX6_isIn) := goodIn_app (goodIn_of _ (by decide +kernel)) ggX6_addScout_X6_isIn
theorem dX6_addScout_0 : decode cX6_addScout 0 = .ok (.aload_n 0, 1) := by decide +kernel
theorem dX6_addScout_1 : decode cX6_addScout 1 = .ok (.iconst 0, 1) := by decide +kernel
theorem dX6_addScout_2 : decode cX6_addScout 2 = .ok (.putfield 53, 3) := by decide +kernel
theorem dX6_addScout_5 : decode cX6_addScout 5 = .ok (.aload_n 0, 1) := by decide +kernel
theorem dX6_addScout_6 : decode cX6_addScout 6 = .ok (.iload_n 1, 1) := by decide +kernel
theorem dX6_addScout_7 : decode cX6_addScout 7 = .ok (.invokevirtual 83, 3) := by decide +kernel
theorem dX6_addScout_10 : decode cX6_addScout 10 = .ok (.ifCond .ne 9, 3) := by decide +kernel
theorem dX6_addScout_13 : decode cX6_addScout 13 = .ok (.aload_n 0, 1) := by decide +kernel
theorem dX6_addScout_14 : decode cX6_addScout 14 = .ok (.iconst 1, 1) := by decide +kernel
theorem dX6_addScout_15 : decode cX6_addScout 15 = .ok (.invokevirtual 79, 3) := by decide +kernel
theorem dX6_addScout_18 : decode cX6_addScout 18 = .ok (.ireturn, 1) := by decide +kernel
theorem dX6_addScout_19 : decode cX6_addScout 19 = .ok (.iload_n 2, 1) := by decide +kernel
theorem dX6_addScout_20 : decode cX6_addScout 20 = .ok (.bipush 6, 2) := by decide +kernel
theorem dX6_addScout_22 : decode cX6_addScout 22 = .ok (.bipush 17, 2) := by decide +kernel
theorem dX6_addScout_24 : decode cX6_addScout 24 = .ok (.invokestatic 60, 3) := by decide +kernel
theorem dX6_addScout_27 : decode cX6_addScout 27 = .ok (.ifCond .eq 14, 3) := by decide +kernel
theorem dX6_addScout_30 : decode cX6_addScout 30 = .ok (.iload_n 3, 1) := by decide +kernel
theorem dX6_addScout_31 : decode cX6_addScout 31 = .ok (.iconst 0, 1) := by decide +kernel
theorem dX6_addScout_32 : decode cX6_addScout 32 = .ok (.sipush 255, 3) := by decide +kernel
theorem dX6_addScout_35 : decode cX6_addScout 35 = .ok (.invokestatic 60, 3) := by decide +kernel
theorem dX6_addScout_38 : decode cX6_addScout 38 = .ok (.ifCond .ne 9, 3) := by decide +kernel
theorem dX6_addScout_41 : decode cX6_addScout 41 = .ok (.aload_n 0, 1) := by decide +kernel
theorem dX6_addScout_42 : decode cX6_addScout 42 = .ok (.iconst 2, 1) := by decide +kernel
theorem dX6_addScout_43 : decode cX6_addScout 43 = .ok (.invokevirtual 79, 3) := by decide +kernel
theorem dX6_addScout_46 : decode cX6_addScout 46 = .ok (.ireturn, 1) := by decide +kernel
theorem dX6_addScout_47 : decode cX6_addScout 47 = .ok (.aload_n 0, 1) := by decide +kernel
theorem dX6_addScout_48 : decode cX6_addScout 48 = .ok (.getfield 64, 3) := by decide +kernel
theorem dX6_addScout_51 : decode cX6_addScout 51 = .ok (.bipush 30, 2) := by decide +kernel
theorem dX6_addScout_53 : decode cX6_addScout 53 = .ok (.if_icmp .ne 9, 3) := by decide +kernel
theorem dX6_addScout_56 : decode cX6_addScout 56 = .ok (.aload_n 0, 1) := by decide +kernel
theorem dX6_addScout_57 : decode cX6_addScout 57 = .ok (.iconst 3, 1) := by decide +kernel
theorem dX6_addScout_58 : decode cX6_addScout 58 = .ok (.invokevirtual 79, 3) := by decide +kernel
theorem dX6_addScout_61 : decode cX6_addScout 61 = .ok (.ireturn, 1) := by decide +kernel
theorem dX6_addScout_62 : decode cX6_addScout 62 = .ok (.aload_n 0, 1) := by decide +kernel
theorem dX6_addScout_63 : decode cX6_addScout 63 = .ok (.getfield 9, 3) := by decide +kernel
theorem dX6_addScout_66 : decode cX6_addScout 66 = .ok (.aload_n 0, 1) := by decide +kernel
theorem dX6_addScout_67 : decode cX6_addScout 67 = .ok (.getfield 64, 3) := by decide +kernel
theorem dX6_addScout_70 : decode cX6_addScout 70 = .ok (.iload_n 1, 1) := by decide +kernel
theorem dX6_addScout_71 : decode cX6_addScout 71 = .ok (.iastore, 1) := by decide +kernel
theorem dX6_addScout_72 : decode cX6_addScout 72 = .ok (.aload_n 0, 1) := by decide +kernel
theorem dX6_addScout_73 : decode cX6_addScout 73 = .ok (.getfield 13, 3) := by decide +kernel
theorem dX6_addScout_76 : decode cX6_addScout 76 = .ok (.aload_n 0, 1) := by decide +kernel
theorem dX6_addScout_77 : decode cX6_addScout 77 = .ok (.getfield 64, 3) := by decide +kernel
theorem dX6_addScout_80 : decode cX6_addScout 80 = .ok (.iload_n 2, 1) := by decide +kernel
theorem dX6_addScout_81 : decode cX6_addScout 81 = .ok (.iastore, 1) := by decide +kernel
theorem dX6_addScout_82 : decode cX6_addScout 82 = .ok (.aload_n 0, 1) := by decide +kernel
theorem dX6_addScout_83 : decode cX6_addScout 83 = .ok (.getfield 16, 3) := by decide +kernel
theorem dX6_addScout_86 : decode cX6_addScout 86 = .ok (.aload_n 0, 1) := by decide +kernel
theorem dX6_addScout_87 : decode cX6_addScout 87 = .ok (.getfield 64, 3) := by decide +kernel
theorem dX6_addScout_90 : decode cX6_addScout 90 = .ok (.iload_n 3, 1) := by decide +kernel
theorem dX6_addScout_91 : decode cX6_addScout 91 = .ok (.iastore, 1) := by decide +kernel
theorem dX6_addScout_92 : decode cX6_addScout 92 = .ok (.aload_n 0, 1) := by decide +kernel
theorem dX6_addScout_93 : decode cX6_addScout 93 = .ok (.getfield 22, 3) := by decide +kernel
theorem dX6_addScout_96 : decode cX6_addScout 96 = .ok (.aload_n 0, 1) := by decide +kernel
theorem dX6_addScout_97 : decode cX6_addScout 97 = .ok (.getfield 64, 3) := by decide +kernel
theorem dX6_addScout_100 : decode cX6_addScout 100 = .ok (.iconst (-1), 1) := by decide +kernel
theorem dX6_addScout_101 : decode cX6_addScout 101 = .ok (.iastore, 1) := by decide +kernel
theorem dX6_addScout_102 : decode cX6_addScout 102 = .ok (.aload_n 0, 1) := by decide +kernel
theorem dX6_addScout_103 : decode cX6_addScout 103 = .ok (.dup, 1) := by decide +kernel
theorem dX6_addScout_104 : decode cX6_addScout 104 = .ok (.getfield 64, 3) := by decide +kernel
theorem dX6_addScout_107 : decode cX6_addScout 107 = .ok (.iconst 1, 1) := by decide +kernel
theorem dX6_addScout_108 : decode cX6_addScout 108 = .ok (.iadd, 1) := by decide +kernel
theorem dX6_addScout_109 : decode cX6_addScout 109 = .ok (.putfield 64, 3) := by decide +kernel
theorem dX6_addScout_112 : decode cX6_addScout 112 = .ok (.aload_n 0, 1) := by decide +kernel
theorem dX6_addScout_113 : decode cX6_addScout 113 = .ok (.getfield 64, 3) := by decide +kernel
theorem dX6_addScout_116 : decode cX6_addScout 116 = .ok (.iconst 1, 1) := by decide +kernel
theorem dX6_addScout_117 : decode cX6_addScout 117 = .ok (.isub, 1) := by decide +kernel
theorem dX6_addScout_118 : decode cX6_addScout 118 = .ok (.ireturn, 1) := by decide +kernel
theorem dX6_hoursOf_0 : decode cX6_hoursOf 0 = .ok (.iconst 0, 1) := by decide +kernel
theorem dX6_hoursOf_1 : decode cX6_hoursOf 1 = .ok (.istore_n 2, 1) := by decide +kernel
theorem dX6_hoursOf_2 : decode cX6_hoursOf 2 = .ok (.iconst 0, 1) := by decide +kernel
theorem dX6_hoursOf_3 : decode cX6_hoursOf 3 = .ok (.istore_n 3, 1) := by decide +kernel
theorem dX6_hoursOf_4 : decode cX6_hoursOf 4 = .ok (.iload_n 3, 1) := by decide +kernel
theorem dX6_hoursOf_5 : decode cX6_hoursOf 5 = .ok (.bipush 10, 2) := by decide +kernel
theorem dX6_hoursOf_7 : decode cX6_hoursOf 7 = .ok (.if_icmp .ge 23, 3) := by decide +kernel
theorem dX6_hoursOf_10 : decode cX6_hoursOf 10 = .ok (.iload_n 2, 1) := by decide +kernel
theorem dX6_hoursOf_11 : decode cX6_hoursOf 11 = .ok (.aload_n 0, 1) := by decide +kernel
theorem dX6_hoursOf_12 : decode cX6_hoursOf 12 = .ok (.getfield 28, 3) := by decide +kernel
theorem dX6_hoursOf_15 : decode cX6_hoursOf 15 = .ok (.bipush 10, 2) := by decide +kernel
theorem dX6_hoursOf_17 : decode cX6_hoursOf 17 = .ok (.iload_n 1, 1) := by decide +kernel
theorem dX6_hoursOf_18 : decode cX6_hoursOf 18 = .ok (.imul, 1) := by decide +kernel
theorem dX6_hoursOf_19 : decode cX6_hoursOf 19 = .ok (.iload_n 3, 1) := by decide +kernel
theorem dX6_hoursOf_20 : decode cX6_hoursOf 20 = .ok (.iadd, 1) := by decide +kernel
theorem dX6_hoursOf_21 : decode cX6_hoursOf 21 = .ok (.iaload, 1) := by decide +kernel
theorem dX6_hoursOf_22 : decode cX6_hoursOf 22 = .ok (.iadd, 1) := by decide +kernel
theorem dX6_hoursOf_23 : decode cX6_hoursOf 23 = .ok (.istore_n 2, 1) := by decide +kernel
theorem dX6_hoursOf_24 : decode cX6_hoursOf 24 = .ok (.iinc 3 1, 3) := by decide +kernel
theorem dX6_hoursOf_27 : decode cX6_hoursOf 27 = .ok (.goto (-23), 3) := by decide +kernel
theorem dX6_hoursOf_30 : decode cX6_hoursOf 30 = .ok (.iload_n 2, 1) := by decide +kernel
theorem dX6_hoursOf_31 : decode cX6_hoursOf 31 = .ok (.ireturn, 1) := by decide +kernel
set_option maxRecDepth 20000 in
theorem ggX6_told_X6_hoursOf : GoodIn wsX6_told wsX6_hoursOf := goodIn_r _ [12, 13, 14, 15, 16, 17, 18, 19, 20, 21, 22, 23, 24, 25, 26, 27, 28, 29, 30, 31, 32, 33, 34, 35, 36] (by decide +kernel) (by decide +kernel)
set_option maxRecDepth 20000 in
theorem gX6_told_X6_hoursOf : GoodIn wsX6_told (wsV RX6 87 RX6 yX6_hoursOf wsX6_hoursOf) := goodIn_app (goodIn_of _ (by decide +kernel)) ggX6_told_X6_hoursOf
theorem dX6_told_0 : decode cX6_told 0 = .ok (.bipush 7, 2) := by decide +kernel
theorem dX6_told_2 : decode cX6_told 2 = .ok (.newarray .int, 2) := by decide +kernel
theorem dX6_told_4 : decode cX6_told 4 = .ok (.dup, 1) := by decide +kernel
theorem dX6_told_5 : decode cX6_told 5 = .ok (.iconst 0, 1) := by decide +kernel
theorem dX6_told_6 : decode cX6_told 6 = .ok (.aload_n 0, 1) := by decide +kernel
theorem dX6_told_7 : decode cX6_told 7 = .ok (.getfield 9, 3) := by decide +kernel
theorem dX6_told_10 : decode cX6_told 10 = .ok (.iload_n 1, 1) := by decide +kernel
theorem dX6_told_11 : decode cX6_told 11 = .ok (.iaload, 1) := by decide +kernel
theorem dX6_told_12 : decode cX6_told 12 = .ok (.iastore, 1) := by decide +kernel
theorem dX6_told_13 : decode cX6_told 13 = .ok (.dup, 1) := by decide +kernel
theorem dX6_told_14 : decode cX6_told 14 = .ok (.iconst 1, 1) := by decide +kernel
theorem dX6_told_15 : decode cX6_told 15 = .ok (.aload_n 0, 1) := by decide +kernel
theorem dX6_told_16 : decode cX6_told 16 = .ok (.getfield 13, 3) := by decide +kernel
theorem dX6_told_19 : decode cX6_told 19 = .ok (.iload_n 1, 1) := by decide +kernel
theorem dX6_told_20 : decode cX6_told 20 = .ok (.iaload, 1) := by decide +kernel
theorem dX6_told_21 : decode cX6_told 21 = .ok (.iastore, 1) := by decide +kernel
theorem dX6_told_22 : decode cX6_told 22 = .ok (.dup, 1) := by decide +kernel
theorem dX6_told_23 : decode cX6_told 23 = .ok (.iconst 2, 1) := by decide +kernel
theorem dX6_told_24 : decode cX6_told 24 = .ok (.aload_n 0, 1) := by decide +kernel
theorem dX6_told_25 : decode cX6_told 25 = .ok (.getfield 16, 3) := by decide +kernel
theorem dX6_told_28 : decode cX6_told 28 = .ok (.iload_n 1, 1) := by decide +kernel
theorem dX6_told_29 : decode cX6_told 29 = .ok (.iaload, 1) := by decide +kernel
theorem dX6_told_30 : decode cX6_told 30 = .ok (.iastore, 1) := by decide +kernel
theorem dX6_told_31 : decode cX6_told 31 = .ok (.dup, 1) := by decide +kernel
theorem dX6_told_32 : decode cX6_told 32 = .ok (.iconst 3, 1) := by decide +kernel
theorem dX6_told_33 : decode cX6_told 33 = .ok (.aload_n 0, 1) := by decide +kernel
theorem dX6_told_34 : decode cX6_told 34 = .ok (.getfield 19, 3) := by decide +kernel
theorem dX6_told_37 : decode cX6_told 37 = .ok (.iload_n 1, 1) := by decide +kernel
theorem dX6_told_38 : decode cX6_told 38 = .ok (.iaload, 1) := by decide +kernel
theorem dX6_told_39 : decode cX6_told 39 = .ok (.iastore, 1) := by decide +kernel
theorem dX6_told_40 : decode cX6_told 40 = .ok (.dup, 1) := by decide +kernel
theorem dX6_told_41 : decode cX6_told 41 = .ok (.iconst 4, 1) := by decide +kernel
theorem dX6_told_42 : decode cX6_told 42 = .ok (.aload_n 0, 1) := by decide +kernel
theorem dX6_told_43 : decode cX6_told 43 = .ok (.getfield 22, 3) := by decide +kernel
theorem dX6_told_46 : decode cX6_told 46 = .ok (.iload_n 1, 1) := by decide +kernel
theorem dX6_told_47 : decode cX6_told 47 = .ok (.iaload, 1) := by decide +kernel
theorem dX6_told_48 : decode cX6_told 48 = .ok (.iastore, 1) := by decide +kernel
theorem dX6_told_49 : decode cX6_told 49 = .ok (.dup, 1) := by decide +kernel
theorem dX6_told_50 : decode cX6_told 50 = .ok (.iconst 5, 1) := by decide +kernel
theorem dX6_told_51 : decode cX6_told 51 = .ok (.aload_n 0, 1) := by decide +kernel
theorem dX6_told_52 : decode cX6_told 52 = .ok (.getfield 25, 3) := by decide +kernel
theorem dX6_told_55 : decode cX6_told 55 = .ok (.iload_n 1, 1) := by decide +kernel
theorem dX6_told_56 : decode cX6_told 56 = .ok (.iaload, 1) := by decide +kernel
theorem dX6_told_57 : decode cX6_told 57 = .ok (.iastore, 1) := by decide +kernel
theorem dX6_told_58 : decode cX6_told 58 = .ok (.dup, 1) := by decide +kernel
theorem dX6_told_59 : decode cX6_told 59 = .ok (.bipush 6, 2) := by decide +kernel
theorem dX6_told_61 : decode cX6_told 61 = .ok (.aload_n 0, 1) := by decide +kernel
theorem dX6_told_62 : decode cX6_told 62 = .ok (.iload_n 1, 1) := by decide +kernel
theorem dX6_told_63 : decode cX6_told 63 = .ok (.invokevirtual 87, 3) := by decide +kernel
theorem dX6_told_66 : decode cX6_told 66 = .ok (.iastore, 1) := by decide +kernel
theorem dX6_told_67 : decode cX6_told 67 = .ok (.astore_n 3, 1) := by decide +kernel
theorem dX6_told_68 : decode cX6_told 68 = .ok (.aload_n 3, 1) := by decide +kernel
theorem dX6_told_69 : decode cX6_told 69 = .ok (.iload_n 2, 1) := by decide +kernel
theorem dX6_told_70 : decode cX6_told 70 = .ok (.iaload, 1) := by decide +kernel
theorem dX6_told_71 : decode cX6_told 71 = .ok (.ireturn, 1) := by decide +kernel
set_option maxRecDepth 20000 in
theorem ggX6_scout_X6_isScout : GoodIn wsX6_scout wsX6_isScout := goodIn_r _ [6, 7, 8, 9, 5, 10, 31, 32, 33, 34, 35, 36, 37, 38, 39, 40, 41, 42, 43, 44, 45, 46, 47, 48, 49, 50, 51, 52, 53] (by decide +kernel) (by decide +kernel)
set_option maxRecDepth 20000 in
theorem gX6_scout_X6_isScout : GoodIn wsX6_scout (wsV RX6 90 RX6 yX6_isScout wsX6_isScout) := goodIn_app (goodIn_of _ (by decide +kernel)) ggX6_scout_X6_isScout
set_option maxRecDepth 20000 in
theorem ggX6_scout_X6_isIn : GoodIn wsX6_scout wsX6_isIn := goodIn_r _ [10] (by decide +kernel) (by decide +kernel)
set_option maxRecDepth 20000 in
theorem gX6_scout_X6_isIn : GoodIn wsX6_scout (va_wsS RX6 60 yX6_isIn wsX6_isIn) := goodIn_app (goodIn_of _ (by decide +kernel)) ggX6_scout_X6_isIn
set_option maxRecDepth 20000 in
theorem ggX6_scout_X6_told : GoodIn wsX6_scout wsX6_told := goodIn_r _ [14, 15, 16, 17, 18, 19, 20, 21, 22, 23, 24, 5, 25, 26, 31, 32, 33, 34, 35, 36, 37, 38, 39, 40, 41, 42, 43, 44, 45, 46, 47, 48, 49, 50, 51, 52, 53] (by decide +kernel) (by decide +kernel)
set_option maxRecDepth 20000 in
theorem gX6_scout_X6_told : GoodIn wsX6_scout (wsV RX6 93 RX6 yX6_told wsX6_told) := goodIn_app (goodIn_of _ (by decide +kernel)) ggX6_scout_X6_told
set_option maxRecDepth 20000 in
theorem ggX6_scout_X6_no : GoodIn wsX6_scout wsX6_no := goodIn_r _ [30, 1, 31, 32, 33, 34, 35, 36, 37, 38, 39, 40, 41, 42, 43, 44, 45, 46, 47, 48, 49, 50, 51, 52, 53] (by decide +kernel) (by decide +kernel)
set_option maxRecDepth 20000 in
theorem gX6_scout_X6_no : GoodIn wsX6_scout (wsV RX6 79 RX6 yX6_no wsX6_no) := goodIn_app (goodIn_of _ (by decide +kernel)) ggX6_scout_X6_no
theorem dX6_scout_0 : decode cX6_scout 0 = .ok (.aload_n 0, 1) := by decide +kernel
theorem dX6_scout_1 : decode cX6_scout 1 = .ok (.iconst 0, 1) := by decide +kernel
theorem dX6_scout_2 : decode cX6_scout 2 = .ok (.putfield 53, 3) := by decide +kernel
theorem dX6_scout_5 : decode cX6_scout 5 = .ok (.aload_n 0, 1) := by decide +kernel
theorem dX6_scout_6 : decode cX6_scout 6 = .ok (.iload_n 1, 1) := by decide +kernel
theorem dX6_scout_7 : decode cX6_scout 7 = .ok (.invokevirtual 90, 3) := by decide +kernel
