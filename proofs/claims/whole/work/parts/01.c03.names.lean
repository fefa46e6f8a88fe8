theorem dX4_agesFit_23 : decode cX4_agesFit 23 = .ok (.lconst 0, 1) := by decide +kernel
theorem dX4_agesFit_24 : decode cX4_agesFit 24 = .ok (.lcmp, 1) := by decide +kernel
theorem dX4_agesFit_25 : decode cX4_agesFit 25 = .ok (.ifCond .eq 7, 3) := by decide +kernel
theorem dX4_agesFit_28 : decode cX4_agesFit 28 = .ok (.iconst 1, 1) := by decide +kernel
theorem dX4_agesFit_29 : decode cX4_agesFit 29 = .ok (.goto 4, 3) := by decide +kernel
theorem dX4_agesFit_32 : decode cX4_agesFit 32 = .ok (.iconst 0, 1) := by decide +kernel
theorem dX4_agesFit_33 : decode cX4_agesFit 33 = .ok (.istore 5, 2) := by decide +kernel
theorem dX4_agesFit_35 : decode cX4_agesFit 35 = .ok (.iload 5, 2) := by decide +kernel
theorem dX4_agesFit_37 : decode cX4_agesFit 37 = .ok (.ifCond .eq 26, 3) := by decide +kernel
theorem dX4_agesFit_40 : decode cX4_agesFit 40 = .ok (.aload_n 3, 1) := by decide +kernel
theorem dX4_agesFit_41 : decode cX4_agesFit 41 = .ok (.getfield 40, 3) := by decide +kernel
theorem dX4_agesFit_44 : decode cX4_agesFit 44 = .ok (.iload 4, 2) := by decide +kernel
theorem dX4_agesFit_46 : decode cX4_agesFit 46 = .ok (.iaload, 1) := by decide +kernel
theorem dX4_agesFit_47 : decode cX4_agesFit 47 = .ok (.aload_n 3, 1) := by decide +kernel
theorem dX4_agesFit_48 : decode cX4_agesFit 48 = .ok (.getfield 40, 3) := by decide +kernel
theorem dX4_agesFit_51 : decode cX4_agesFit 51 = .ok (.iload_n 2, 1) := by decide +kernel
theorem dX4_agesFit_52 : decode cX4_agesFit 52 = .ok (.iaload, 1) := by decide +kernel
theorem dX4_agesFit_53 : decode cX4_agesFit 53 = .ok (.isub, 1) := by decide +kernel
theorem dX4_agesFit_54 : decode cX4_agesFit 54 = .ok (.invokestatic 43, 3) := by decide +kernel
theorem dX4_agesFit_57 : decode cX4_agesFit 57 = .ok (.iconst 3, 1) := by decide +kernel
theorem dX4_agesFit_58 : decode cX4_agesFit 58 = .ok (.if_icmp .le 5, 3) := by decide +kernel
theorem dX4_agesFit_61 : decode cX4_agesFit 61 = .ok (.iconst 0, 1) := by decide +kernel
theorem dX4_agesFit_62 : decode cX4_agesFit 62 = .ok (.ireturn, 1) := by decide +kernel
theorem dX4_agesFit_63 : decode cX4_agesFit 63 = .ok (.iinc 4 1, 3) := by decide +kernel
theorem dX4_agesFit_66 : decode cX4_agesFit 66 = .ok (.goto (-63), 3) := by decide +kernel
theorem dX4_agesFit_69 : decode cX4_agesFit 69 = .ok (.iconst 1, 1) := by decide +kernel
theorem dX4_agesFit_70 : decode cX4_agesFit 70 = .ok (.ireturn, 1) := by decide +kernel
set_option maxRecDepth 20000 in
theorem ggX4_bestFor_X3_membersOf : GoodIn wsX4_bestFor wsX3_membersOf := goodIn_r _ [7, 8, 9, 38, 39, 40, 41, 42, 43, 44, 45] (by decide +kernel) (by decide +kernel)
set_option maxRecDepth 20000 in
theorem gX4_bestFor_X3_membersOf : GoodIn wsX4_bestFor (wsV RX4 52 RX3 yX3_membersOf wsX3_membersOf) := goodIn_app (goodIn_of _ (by decide +kernel)) ggX4_bestFor_X3_membersOf
set_option maxRecDepth 20000 in
theorem ggX4_bestFor_X4_rankOf : GoodIn wsX4_bestFor wsX4_rankOf := goodIn_r _ [14, 15, 16, 17, 18, 19, 20, 21, 22, 46, 47, 48] (by decide +kernel) (by decide +kernel)
set_option maxRecDepth 20000 in
theorem gX4_bestFor_X4_rankOf : GoodIn wsX4_bestFor (wsV RX4 56 RX4 yX4_rankOf wsX4_rankOf) := goodIn_app (goodIn_of _ (by decide +kernel)) ggX4_bestFor_X4_rankOf
set_option maxRecDepth 20000 in
theorem ggX4_bestFor_X4_canTake : GoodIn wsX4_bestFor wsX4_canTake := goodIn_r _ [26, 15, 27, 16, 17, 18, 19, 20, 21, 22, 28, 29, 30, 13, 31, 32, 33, 34, 35, 36, 37, 46, 47, 48, 38, 39, 40, 41, 42, 43, 44, 45] (by decide +kernel) (by decide +kernel)
set_option maxRecDepth 20000 in
theorem gX4_bestFor_X4_canTake : GoodIn wsX4_bestFor (wsV RX4 60 RX4 yX4_canTake wsX4_canTake) := goodIn_app (goodIn_of _ (by decide +kernel)) ggX4_bestFor_X4_canTake
theorem dX4_bestFor_0 : decode cX4_bestFor 0 = .ok (.aload_n 2, 1) := by decide +kernel
theorem dX4_bestFor_1 : decode cX4_bestFor 1 = .ok (.aload_n 2, 1) := by decide +kernel
theorem dX4_bestFor_2 : decode cX4_bestFor 2 = .ok (.getfield 49, 3) := by decide +kernel
theorem dX4_bestFor_5 : decode cX4_bestFor 5 = .ok (.iload_n 1, 1) := by decide +kernel
theorem dX4_bestFor_6 : decode cX4_bestFor 6 = .ok (.iaload, 1) := by decide +kernel
theorem dX4_bestFor_7 : decode cX4_bestFor 7 = .ok (.invokevirtual 52, 3) := by decide +kernel
theorem dX4_bestFor_10 : decode cX4_bestFor 10 = .ok (.lstore_n 3, 1) := by decide +kernel
theorem dX4_bestFor_11 : decode cX4_bestFor 11 = .ok (.iconst (-1), 1) := by decide +kernel
theorem dX4_bestFor_12 : decode cX4_bestFor 12 = .ok (.istore 5, 2) := by decide +kernel
theorem dX4_bestFor_14 : decode cX4_bestFor 14 = .ok (.iconst (-1), 1) := by decide +kernel
theorem dX4_bestFor_15 : decode cX4_bestFor 15 = .ok (.istore 6, 2) := by decide +kernel
theorem dX4_bestFor_17 : decode cX4_bestFor 17 = .ok (.iconst 0, 1) := by decide +kernel
theorem dX4_bestFor_18 : decode cX4_bestFor 18 = .ok (.istore 7, 2) := by decide +kernel
theorem dX4_bestFor_20 : decode cX4_bestFor 20 = .ok (.iload 7, 2) := by decide +kernel
theorem dX4_bestFor_22 : decode cX4_bestFor 22 = .ok (.aload_n 0, 1) := by decide +kernel
theorem dX4_bestFor_23 : decode cX4_bestFor 23 = .ok (.getfield 19, 3) := by decide +kernel
theorem dX4_bestFor_26 : decode cX4_bestFor 26 = .ok (.if_icmp .ge 44, 3) := by decide +kernel
theorem dX4_bestFor_29 : decode cX4_bestFor 29 = .ok (.aload_n 0, 1) := by decide +kernel
theorem dX4_bestFor_30 : decode cX4_bestFor 30 = .ok (.iload 7, 2) := by decide +kernel
theorem dX4_bestFor_32 : decode cX4_bestFor 32 = .ok (.lload_n 3, 1) := by decide +kernel
theorem dX4_bestFor_33 : decode cX4_bestFor 33 = .ok (.invokevirtual 56, 3) := by decide +kernel
theorem dX4_bestFor_36 : decode cX4_bestFor 36 = .ok (.istore 8, 2) := by decide +kernel
theorem dX4_bestFor_38 : decode cX4_bestFor 38 = .ok (.iload 8, 2) := by decide +kernel
theorem dX4_bestFor_40 : decode cX4_bestFor 40 = .ok (.iload 6, 2) := by decide +kernel
theorem dX4_bestFor_42 : decode cX4_bestFor 42 = .ok (.if_icmp .le 22, 3) := by decide +kernel
theorem dX4_bestFor_45 : decode cX4_bestFor 45 = .ok (.aload_n 0, 1) := by decide +kernel
theorem dX4_bestFor_46 : decode cX4_bestFor 46 = .ok (.iload 7, 2) := by decide +kernel
theorem dX4_bestFor_48 : decode cX4_bestFor 48 = .ok (.iload_n 1, 1) := by decide +kernel
theorem dX4_bestFor_49 : decode cX4_bestFor 49 = .ok (.aload_n 2, 1) := by decide +kernel
theorem dX4_bestFor_50 : decode cX4_bestFor 50 = .ok (.invokevirtual 60, 3) := by decide +kernel
theorem dX4_bestFor_53 : decode cX4_bestFor 53 = .ok (.ifCond .eq 11, 3) := by decide +kernel
theorem dX4_bestFor_56 : decode cX4_bestFor 56 = .ok (.iload 7, 2) := by decide +kernel
theorem dX4_bestFor_58 : decode cX4_bestFor 58 = .ok (.istore 5, 2) := by decide +kernel
theorem dX4_bestFor_60 : decode cX4_bestFor 60 = .ok (.iload 8, 2) := by decide +kernel
theorem dX4_bestFor_62 : decode cX4_bestFor 62 = .ok (.istore 6, 2) := by decide +kernel
theorem dX4_bestFor_64 : decode cX4_bestFor 64 = .ok (.iinc 7 1, 3) := by decide +kernel
theorem dX4_bestFor_67 : decode cX4_bestFor 67 = .ok (.goto (-47), 3) := by decide +kernel
theorem dX4_bestFor_70 : decode cX4_bestFor 70 = .ok (.iload 5, 2) := by decide +kernel
theorem dX4_bestFor_72 : decode cX4_bestFor 72 = .ok (.ireturn, 1) := by decide +kernel
set_option maxRecDepth 20000 in
theorem ggX4_rankOf_J13_bitCount_95d88 : GoodIn wsX4_rankOf wsJ13_bitCount_95d88 := goodIn_r _ [5, 6, 7, 8] (by decide +kernel) (by decide +kernel)
set_option maxRecDepth 20000 in
theorem gX4_rankOf_J13_bitCount_95d88 : GoodIn wsX4_rankOf (va_wsS RX4 25 yJ13_bitCount_95d88 wsJ13_bitCount_95d88) := goodIn_app (goodIn_of _ (by decide +kernel)) ggX4_rankOf_J13_bitCount_95d88
theorem dX4_rankOf_0 : decode cX4_rankOf 0 = .ok (.aload_n 0, 1) := by decide +kernel
theorem dX4_rankOf_1 : decode cX4_rankOf 1 = .ok (.getfield 15, 3) := by decide +kernel
theorem dX4_rankOf_4 : decode cX4_rankOf 4 = .ok (.iload_n 1, 1) := by decide +kernel
theorem dX4_rankOf_5 : decode cX4_rankOf 5 = .ok (.laload, 1) := by decide +kernel
theorem dX4_rankOf_6 : decode cX4_rankOf 6 = .ok (.lload_n 2, 1) := by decide +kernel
theorem dX4_rankOf_7 : decode cX4_rankOf 7 = .ok (.land, 1) := by decide +kernel
theorem dX4_rankOf_8 : decode cX4_rankOf 8 = .ok (.invokestatic 25, 3) := by decide +kernel
theorem dX4_rankOf_11 : decode cX4_rankOf 11 = .ok (.bipush 9, 2) := by decide +kernel
theorem dX4_rankOf_13 : decode cX4_rankOf 13 = .ok (.imul, 1) := by decide +kernel
theorem dX4_rankOf_14 : decode cX4_rankOf 14 = .ok (.aload_n 0, 1) := by decide +kernel
theorem dX4_rankOf_15 : decode cX4_rankOf 15 = .ok (.getfield 15, 3) := by decide +kernel
theorem dX4_rankOf_18 : decode cX4_rankOf 18 = .ok (.iload_n 1, 1) := by decide +kernel
theorem dX4_rankOf_19 : decode cX4_rankOf 19 = .ok (.laload, 1) := by decide +kernel
theorem dX4_rankOf_20 : decode cX4_rankOf 20 = .ok (.invokestatic 25, 3) := by decide +kernel
theorem dX4_rankOf_23 : decode cX4_rankOf 23 = .ok (.iadd, 1) := by decide +kernel
theorem dX4_rankOf_24 : decode cX4_rankOf 24 = .ok (.ireturn, 1) := by decide +kernel
set_option maxRecDepth 20000 in
theorem ggX5_init_X3_init : GoodIn wsX5_init wsX3_init := goodIn_r _ [26, 27, 2, 3, 28, 29, 30, 31, 32, 33, 34, 61, 62, 63, 64, 65, 66, 67, 68] (by decide +kernel) (by decide +kernel)
set_option maxRecDepth 20000 in
theorem gX5_init_X3_init_n9 : GoodIn wsX5_init (wsX3_init) := ggX5_init_X3_init
set_option maxRecDepth 20000 in
theorem ggX5_init_X4_init : GoodIn wsX5_init wsX4_init := goodIn_r _ [36, 37, 2, 3, 28, 38, 39, 40, 75, 76, 77] (by decide +kernel) (by decide +kernel)
set_option maxRecDepth 20000 in
theorem gX5_init_X4_init_n18 : GoodIn wsX5_init (wsX4_init) := ggX5_init_X4_init
set_option maxRecDepth 20000 in
theorem ggX5_init_X1_init : GoodIn wsX5_init wsX1_init := goodIn_r _ [43, 44, 2, 3, 28, 45, 46, 47, 48, 49, 50, 78, 79] (by decide +kernel) (by decide +kernel)
set_option maxRecDepth 20000 in
theorem gX5_init_X1_init : GoodIn wsX5_init (wsX1_init) := ggX5_init_X1_init
set_option maxRecDepth 20000 in
theorem ggX5_init_X2_init : GoodIn wsX5_init wsX2_init := goodIn_r _ [52, 53, 2, 3, 28, 54, 55, 80, 81, 82, 83, 84, 85] (by decide +kernel) (by decide +kernel)
set_option maxRecDepth 20000 in
theorem gX5_init_X2_init_n32 : GoodIn wsX5_init (wsX2_init) := ggX5_init_X2_init
set_option maxRecDepth 20000 in
theorem ggX5_init_X0_init : GoodIn wsX5_init wsX0_init := goodIn_r _ [57, 58, 2, 3, 28, 59, 60, 86, 87, 88] (by decide +kernel) (by decide +kernel)
set_option maxRecDepth 20000 in
theorem gX5_init_X0_init_n39 : GoodIn wsX5_init (wsX0_init) := ggX5_init_X0_init
theorem dX5_init_0 : decode cX5_init 0 = .ok (.aload_n 0, 1) := by decide +kernel
theorem dX5_init_1 : decode cX5_init 1 = .ok (.invokespecial 1, 3) := by decide +kernel
theorem dX5_init_4 : decode cX5_init 4 = .ok (.aload_n 0, 1) := by decide +kernel
theorem dX5_init_5 : decode cX5_init 5 = .ok (.new 7, 3) := by decide +kernel
theorem dX5_init_8 : decode cX5_init 8 = .ok (.dup, 1) := by decide +kernel
theorem dX5_init_9 : decode cX5_init 9 = .ok (.invokespecial 9, 3) := by decide +kernel
theorem dX5_init_12 : decode cX5_init 12 = .ok (.putfield 10, 3) := by decide +kernel
theorem dX5_init_15 : decode cX5_init 15 = .ok (.aload_n 0, 1) := by decide +kernel
theorem dX5_init_16 : decode cX5_init 16 = .ok (.new 16, 3) := by decide +kernel
theorem dX5_init_19 : decode cX5_init 19 = .ok (.dup, 1) := by decide +kernel
theorem dX5_init_20 : decode cX5_init 20 = .ok (.invokespecial 18, 3) := by decide +kernel
theorem dX5_init_23 : decode cX5_init 23 = .ok (.putfield 19, 3) := by decide +kernel
theorem dX5_init_26 : decode cX5_init 26 = .ok (.aload_n 0, 1) := by decide +kernel
theorem dX5_init_27 : decode cX5_init 27 = .ok (.new 23, 3) := by decide +kernel
theorem dX5_init_30 : decode cX5_init 30 = .ok (.dup, 1) := by decide +kernel
theorem dX5_init_31 : decode cX5_init 31 = .ok (.invokespecial 25, 3) := by decide +kernel
theorem dX5_init_34 : decode cX5_init 34 = .ok (.putfield 26, 3) := by decide +kernel
theorem dX5_init_37 : decode cX5_init 37 = .ok (.aload_n 0, 1) := by decide +kernel
theorem dX5_init_38 : decode cX5_init 38 = .ok (.new 30, 3) := by decide +kernel
theorem dX5_init_41 : decode cX5_init 41 = .ok (.dup, 1) := by decide +kernel
theorem dX5_init_42 : decode cX5_init 42 = .ok (.invokespecial 32, 3) := by decide +kernel
theorem dX5_init_45 : decode cX5_init 45 = .ok (.putfield 33, 3) := by decide +kernel
theorem dX5_init_48 : decode cX5_init 48 = .ok (.aload_n 0, 1) := by decide +kernel
theorem dX5_init_49 : decode cX5_init 49 = .ok (.new 37, 3) := by decide +kernel
theorem dX5_init_52 : decode cX5_init 52 = .ok (.dup, 1) := by decide +kernel
theorem dX5_init_53 : decode cX5_init 53 = .ok (.invokespecial 39, 3) := by decide +kernel
theorem dX5_init_56 : decode cX5_init 56 = .ok (.putfield 40, 3) := by decide +kernel
theorem dX5_init_59 : decode cX5_init 59 = .ok (.aload_n 0, 1) := by decide +kernel
theorem dX5_init_60 : decode cX5_init 60 = .ok (.iconst 0, 1) := by decide +kernel
theorem dX5_init_61 : decode cX5_init 61 = .ok (.putfield 44, 3) := by decide +kernel
theorem dX5_init_64 : decode cX5_init 64 = .ok (.return_, 1) := by decide +kernel
theorem dX5_addPatrol_0 : decode cX5_addPatrol 0 = .ok (.aload_n 0, 1) := by decide +kernel
theorem dX5_addPatrol_1 : decode cX5_addPatrol 1 = .ok (.getfield 10, 3) := by decide +kernel
theorem dX5_addPatrol_4 : decode cX5_addPatrol 4 = .ok (.getfield 48, 3) := by decide +kernel
theorem dX5_addPatrol_7 : decode cX5_addPatrol 7 = .ok (.bipush 6, 2) := by decide +kernel
theorem dX5_addPatrol_9 : decode cX5_addPatrol 9 = .ok (.if_icmp .lt 13, 3) := by decide +kernel
theorem dX5_addPatrol_12 : decode cX5_addPatrol 12 = .ok (.new 51, 3) := by decide +kernel
theorem dX5_addPatrol_15 : decode cX5_addPatrol 15 = .ok (.dup, 1) := by decide +kernel
theorem dX5_addPatrol_16 : decode cX5_addPatrol 16 = .ok (.ldc 53, 2) := by decide +kernel
theorem dX5_addPatrol_18 : decode cX5_addPatrol 18 = .ok (.invokespecial 55, 3) := by decide +kernel
theorem dX5_addPatrol_21 : decode cX5_addPatrol 21 = .ok (.athrow, 1) := by decide +kernel
theorem dX5_addPatrol_22 : decode cX5_addPatrol 22 = .ok (.aload_n 0, 1) := by decide +kernel
theorem dX5_addPatrol_23 : decode cX5_addPatrol 23 = .ok (.getfield 10, 3) := by decide +kernel
theorem dX5_addPatrol_26 : decode cX5_addPatrol 26 = .ok (.dup, 1) := by decide +kernel
theorem dX5_addPatrol_27 : decode cX5_addPatrol 27 = .ok (.getfield 48, 3) := by decide +kernel
theorem dX5_addPatrol_30 : decode cX5_addPatrol 30 = .ok (.iconst 1, 1) := by decide +kernel
theorem dX5_addPatrol_31 : decode cX5_addPatrol 31 = .ok (.iadd, 1) := by decide +kernel
theorem dX5_addPatrol_32 : decode cX5_addPatrol 32 = .ok (.putfield 48, 3) := by decide +kernel
theorem dX5_addPatrol_35 : decode cX5_addPatrol 35 = .ok (.aload_n 0, 1) := by decide +kernel
theorem dX5_addPatrol_36 : decode cX5_addPatrol 36 = .ok (.getfield 10, 3) := by decide +kernel
theorem dX5_addPatrol_39 : decode cX5_addPatrol 39 = .ok (.getfield 48, 3) := by decide +kernel
theorem dX5_addPatrol_42 : decode cX5_addPatrol 42 = .ok (.iconst 1, 1) := by decide +kernel
theorem dX5_addPatrol_43 : decode cX5_addPatrol 43 = .ok (.isub, 1) := by decide +kernel
theorem dX5_addPatrol_44 : decode cX5_addPatrol 44 = .ok (.ireturn, 1) := by decide +kernel
set_option maxRecDepth 20000 in
theorem ggX5_addScout_X5_checkNumber : GoodIn wsX5_addScout wsX5_checkNumber := goodIn_ca (goodIn_r _ [9, 10, 11] (by decide +kernel) (by decide +kernel)) (goodIn_sub (fun _ h => List.mem_cons_of_mem _ (List.mem_append_left _ (List.mem_append_right _ h))) (by decide +kernel))
set_option maxRecDepth 20000 in
theorem gX5_addScout_X5_checkNumber : GoodIn wsX5_addScout (va_wsS RX5 58 yX5_checkNumber wsX5_checkNumber) := goodIn_app (goodIn_of _ (by decide +kernel)) ggX5_addScout_X5_checkNumber
set_option maxRecDepth 20000 in
theorem ggX5_addScout_X5_checkArgument : GoodIn wsX5_addScout wsX5_checkArgument := goodIn_ca (goodIn_r _ [14, 15, 16] (by decide +kernel) (by decide +kernel)) (goodIn_sub (fun _ h => List.mem_cons_of_mem _ (List.mem_append_right _ h)) (by decide +kernel))
set_option maxRecDepth 20000 in
theorem gX5_addScout_X5_checkArgument : GoodIn wsX5_addScout (va_wsS RX5 62 yX5_checkArgument wsX5_checkArgument) := goodIn_app (goodIn_of _ (by decide +kernel)) ggX5_addScout_X5_checkArgument
set_option maxRecDepth 20000 in
theorem ggX5_addScout_X3_enrol : GoodIn wsX5_addScout wsX3_enrol := goodIn_r _ [21, 22, 23, 24, 25, 32, 33, 34, 35, 36, 37, 38, 39] (by decide +kernel) (by decide +kernel)
set_option maxRecDepth 20000 in
theorem gX5_addScout_X3_enrol : GoodIn wsX5_addScout (wsV RX5 71 RX3 yX3_enrol wsX3_enrol) := goodIn_app (goodIn_of _ (by decide +kernel)) ggX5_addScout_X3_enrol
theorem dX5_addScout_0 : decode cX5_addScout 0 = .ok (.iload_n 1, 1) := by decide +kernel
theorem dX5_addScout_1 : decode cX5_addScout 1 = .ok (.aload_n 0, 1) := by decide +kernel
theorem dX5_addScout_2 : decode cX5_addScout 2 = .ok (.getfield 10, 3) := by decide +kernel
theorem dX5_addScout_5 : decode cX5_addScout 5 = .ok (.getfield 48, 3) := by decide +kernel
theorem dX5_addScout_8 : decode cX5_addScout 8 = .ok (.invokestatic 58, 3) := by decide +kernel
theorem dX5_addScout_11 : decode cX5_addScout 11 = .ok (.iload_n 2, 1) := by decide +kernel
theorem dX5_addScout_12 : decode cX5_addScout 12 = .ok (.bipush 6, 2) := by decide +kernel
theorem dX5_addScout_14 : decode cX5_addScout 14 = .ok (.bipush 17, 2) := by decide +kernel
theorem dX5_addScout_16 : decode cX5_addScout 16 = .ok (.invokestatic 62, 3) := by decide +kernel
theorem dX5_addScout_19 : decode cX5_addScout 19 = .ok (.iload_n 3, 1) := by decide +kernel
theorem dX5_addScout_20 : decode cX5_addScout 20 = .ok (.iconst 0, 1) := by decide +kernel
theorem dX5_addScout_21 : decode cX5_addScout 21 = .ok (.sipush 255, 3) := by decide +kernel
theorem dX5_addScout_24 : decode cX5_addScout 24 = .ok (.invokestatic 62, 3) := by decide +kernel
theorem dX5_addScout_27 : decode cX5_addScout 27 = .ok (.aload_n 0, 1) := by decide +kernel
theorem dX5_addScout_28 : decode cX5_addScout 28 = .ok (.getfield 10, 3) := by decide +kernel
theorem dX5_addScout_31 : decode cX5_addScout 31 = .ok (.getfield 66, 3) := by decide +kernel
theorem dX5_addScout_34 : decode cX5_addScout 34 = .ok (.bipush 30, 2) := by decide +kernel
theorem dX5_addScout_36 : decode cX5_addScout 36 = .ok (.if_icmp .lt 13, 3) := by decide +kernel
theorem dX5_addScout_39 : decode cX5_addScout 39 = .ok (.new 51, 3) := by decide +kernel
theorem dX5_addScout_42 : decode cX5_addScout 42 = .ok (.dup, 1) := by decide +kernel
theorem dX5_addScout_43 : decode cX5_addScout 43 = .ok (.ldc 69, 2) := by decide +kernel
theorem dX5_addScout_45 : decode cX5_addScout 45 = .ok (.invokespecial 55, 3) := by decide +kernel
theorem dX5_addScout_48 : decode cX5_addScout 48 = .ok (.athrow, 1) := by decide +kernel
theorem dX5_addScout_49 : decode cX5_addScout 49 = .ok (.aload_n 0, 1) := by decide +kernel
theorem dX5_addScout_50 : decode cX5_addScout 50 = .ok (.getfield 10, 3) := by decide +kernel
theorem dX5_addScout_53 : decode cX5_addScout 53 = .ok (.iload_n 1, 1) := by decide +kernel
theorem dX5_addScout_54 : decode cX5_addScout 54 = .ok (.iload_n 2, 1) := by decide +kernel
theorem dX5_addScout_55 : decode cX5_addScout 55 = .ok (.iload_n 3, 1) := by decide +kernel
theorem dX5_addScout_56 : decode cX5_addScout 56 = .ok (.invokevirtual 71, 3) := by decide +kernel
theorem dX5_addScout_59 : decode cX5_addScout 59 = .ok (.ireturn, 1) := by decide +kernel
set_option maxRecDepth 20000 in
theorem ggX5_scout_X5_checkNumber : GoodIn wsX5_scout wsX5_checkNumber := goodIn_ca (goodIn_r _ [6, 7, 8] (by decide +kernel) (by decide +kernel)) (goodIn_sub (fun _ h => List.mem_cons_of_mem _ (List.mem_append_right _ h)) (by decide +kernel))
set_option maxRecDepth 20000 in
theorem gX5_scout_X5_checkNumber : GoodIn wsX5_scout (va_wsS RX5 58 yX5_checkNumber wsX5_checkNumber) := goodIn_app (goodIn_of _ (by decide +kernel)) ggX5_scout_X5_checkNumber
set_option maxRecDepth 20000 in
theorem ggX5_scout_X5_factOf : GoodIn wsX5_scout wsX5_factOf := goodIn_r _ [12, 1, 13, 14, 15, 16, 17, 18, 19, 20, 21, 22, 23, 24, 25, 26, 27, 28, 29, 30, 31, 32, 33, 34, 35, 36, 37, 38, 39, 40, 41, 42, 43, 44, 45, 46, 47, 48, 49, 50, 51, 52] (by decide +kernel) (by decide +kernel)
set_option maxRecDepth 20000 in
theorem gX5_scout_X5_factOf : GoodIn wsX5_scout (wsV RX5 75 RX5 yX5_factOf wsX5_factOf) := goodIn_app (goodIn_of _ (by decide +kernel)) ggX5_scout_X5_factOf
theorem dX5_scout_0 : decode cX5_scout 0 = .ok (.iload_n 1, 1) := by decide +kernel
theorem dX5_scout_1 : decode cX5_scout 1 = .ok (.aload_n 0, 1) := by decide +kernel
theorem dX5_scout_2 : decode cX5_scout 2 = .ok (.getfield 10, 3) := by decide +kernel
theorem dX5_scout_5 : decode cX5_scout 5 = .ok (.getfield 66, 3) := by decide +kernel
theorem dX5_scout_8 : decode cX5_scout 8 = .ok (.invokestatic 58, 3) := by decide +kernel
theorem dX5_scout_11 : decode cX5_scout 11 = .ok (.iload_n 2, 1) := by decide +kernel
theorem dX5_scout_12 : decode cX5_scout 12 = .ok (.bipush 7, 2) := by decide +kernel
theorem dX5_scout_14 : decode cX5_scout 14 = .ok (.invokestatic 58, 3) := by decide +kernel
theorem dX5_scout_17 : decode cX5_scout 17 = .ok (.aload_n 0, 1) := by decide +kernel
theorem dX5_scout_18 : decode cX5_scout 18 = .ok (.iload_n 1, 1) := by decide +kernel
theorem dX5_scout_19 : decode cX5_scout 19 = .ok (.iload_n 2, 1) := by decide +kernel
theorem dX5_scout_20 : decode cX5_scout 20 = .ok (.invokevirtual 75, 3) := by decide +kernel
theorem dX5_scout_23 : decode cX5_scout 23 = .ok (.ireturn, 1) := by decide +kernel
set_option maxRecDepth 20000 in
theorem ggX5_addTent_X5_checkArgument : GoodIn wsX5_addTent wsX5_checkArgument := goodIn_ca (goodIn_r _ [8, 9, 10] (by decide +kernel) (by decide +kernel)) (goodIn_sub (fun _ h => List.mem_cons_of_mem _ (List.mem_append_right _ h)) (by decide +kernel))
set_option maxRecDepth 20000 in
theorem gX5_addTent_X5_checkArgument : GoodIn wsX5_addTent (va_wsS RX5 62 yX5_checkArgument wsX5_checkArgument) := goodIn_app (goodIn_of _ (by decide +kernel)) ggX5_addTent_X5_checkArgument
set_option maxRecDepth 20000 in
theorem ggX5_addTent_X4_pitch : GoodIn wsX5_addTent wsX4_pitch := goodIn_r _ [15, 16, 17, 24, 25, 26] (by decide +kernel) (by decide +kernel)
set_option maxRecDepth 20000 in
theorem gX5_addTent_X4_pitch : GoodIn wsX5_addTent (wsV RX5 84 RX4 yX4_pitch wsX4_pitch) := goodIn_app (goodIn_of _ (by decide +kernel)) ggX5_addTent_X4_pitch
theorem dX5_addTent_0 : decode cX5_addTent 0 = .ok (.iload_n 1, 1) := by decide +kernel
theorem dX5_addTent_1 : decode cX5_addTent 1 = .ok (.iconst 1, 1) := by decide +kernel
theorem dX5_addTent_2 : decode cX5_addTent 2 = .ok (.bipush 8, 2) := by decide +kernel
theorem dX5_addTent_4 : decode cX5_addTent 4 = .ok (.invokestatic 62, 3) := by decide +kernel
theorem dX5_addTent_7 : decode cX5_addTent 7 = .ok (.aload_n 0, 1) := by decide +kernel
theorem dX5_addTent_8 : decode cX5_addTent 8 = .ok (.getfield 19, 3) := by decide +kernel
theorem dX5_addTent_11 : decode cX5_addTent 11 = .ok (.getfield 79, 3) := by decide +kernel
theorem dX5_addTent_14 : decode cX5_addTent 14 = .ok (.bipush 10, 2) := by decide +kernel
theorem dX5_addTent_16 : decode cX5_addTent 16 = .ok (.if_icmp .lt 13, 3) := by decide +kernel
theorem dX5_addTent_19 : decode cX5_addTent 19 = .ok (.new 51, 3) := by decide +kernel
theorem dX5_addTent_22 : decode cX5_addTent 22 = .ok (.dup, 1) := by decide +kernel
theorem dX5_addTent_23 : decode cX5_addTent 23 = .ok (.ldc 82, 2) := by decide +kernel
theorem dX5_addTent_25 : decode cX5_addTent 25 = .ok (.invokespecial 55, 3) := by decide +kernel
theorem dX5_addTent_28 : decode cX5_addTent 28 = .ok (.athrow, 1) := by decide +kernel
theorem dX5_addTent_29 : decode cX5_addTent 29 = .ok (.aload_n 0, 1) := by decide +kernel
theorem dX5_addTent_30 : decode cX5_addTent 30 = .ok (.getfield 19, 3) := by decide +kernel
theorem dX5_addTent_33 : decode cX5_addTent 33 = .ok (.iload_n 1, 1) := by decide +kernel
theorem dX5_addTent_34 : decode cX5_addTent 34 = .ok (.invokevirtual 84, 3) := by decide +kernel
theorem dX5_addTent_37 : decode cX5_addTent 37 = .ok (.ireturn, 1) := by decide +kernel
set_option maxRecDepth 20000 in
theorem ggX5_sleep_X5_checkNumber : GoodIn wsX5_sleep wsX5_checkNumber := goodIn_ca (goodIn_r _ [10, 11, 12] (by decide +kernel) (by decide +kernel)) (goodIn_sub (fun _ h => List.mem_cons_of_mem _ (List.mem_append_right _ h)) (by decide +kernel))
set_option maxRecDepth 20000 in
theorem gX5_sleep_X5_checkNumber : GoodIn wsX5_sleep (va_wsS RX5 58 yX5_checkNumber wsX5_checkNumber) := goodIn_app (goodIn_of _ (by decide +kernel)) ggX5_sleep_X5_checkNumber
set_option maxRecDepth 20000 in
theorem ggX5_sleep_X5_checkNumberOrNone : GoodIn wsX5_sleep wsX5_checkNumberOrNone := goodIn_ca (goodIn_r _ [15, 7, 8, 9, 10, 11, 12] (by decide +kernel) (by decide +kernel)) (goodIn_sub (fun _ h => List.mem_cons_of_mem _ (List.mem_append_right _ h)) (by decide +kernel))
set_option maxRecDepth 20000 in
theorem gX5_sleep_X5_checkNumberOrNone : GoodIn wsX5_sleep (va_wsS RX5 88 yX5_checkNumberOrNone wsX5_checkNumberOrNone) := goodIn_app (goodIn_of _ (by decide +kernel)) ggX5_sleep_X5_checkNumberOrNone
set_option maxRecDepth 20000 in
theorem ggX5_sleep_X4_tentOf : GoodIn wsX5_sleep wsX4_tentOf := goodIn_r _ [20, 21, 22, 68, 69, 70] (by decide +kernel) (by decide +kernel)
set_option maxRecDepth 20000 in
theorem gX5_sleep_X4_tentOf : GoodIn wsX5_sleep (wsV RX5 91 RX4 yX4_tentOf wsX4_tentOf) := goodIn_app (goodIn_of _ (by decide +kernel)) ggX5_sleep_X4_tentOf
set_option maxRecDepth 20000 in
theorem ggX5_sleep_X4_canTake : GoodIn wsX5_sleep wsX4_canTake := goodIn_r _ [26, 22, 27, 28, 29, 30, 31, 32, 33, 34, 35, 36, 37, 19, 38, 39, 40, 41, 42, 43, 44, 68, 69, 70, 60, 61, 62, 63, 64, 65, 66, 67] (by decide +kernel) (by decide +kernel)
set_option maxRecDepth 20000 in
theorem gX5_sleep_X4_canTake : GoodIn wsX5_sleep (wsV RX5 96 RX4 yX4_canTake wsX4_canTake) := goodIn_app (goodIn_of _ (by decide +kernel)) ggX5_sleep_X4_canTake
set_option maxRecDepth 20000 in
theorem ggX5_sleep_X4_leave : GoodIn wsX5_sleep wsX4_leave := goodIn_r _ [48, 22, 49, 68, 69, 70] (by decide +kernel) (by decide +kernel)
set_option maxRecDepth 20000 in
theorem gX5_sleep_X4_leave : GoodIn wsX5_sleep (wsV RX5 102 RX4 yX4_leave wsX4_leave) := goodIn_app (goodIn_of _ (by decide +kernel)) ggX5_sleep_X4_leave
set_option maxRecDepth 20000 in
theorem ggX5_sleep_X4_enter : GoodIn wsX5_sleep wsX4_enter := goodIn_r _ [53, 22, 68, 69, 70] (by decide +kernel) (by decide +kernel)
set_option maxRecDepth 20000 in
theorem gX5_sleep_X4_enter : GoodIn wsX5_sleep (wsV RX5 105 RX4 yX4_enter wsX4_enter) := goodIn_app (goodIn_of _ (by decide +kernel)) ggX5_sleep_X4_enter
theorem dX5_sleep_0 : decode cX5_sleep 0 = .ok (.iload_n 1, 1) := by decide +kernel
theorem dX5_sleep_1 : decode cX5_sleep 1 = .ok (.aload_n 0, 1) := by decide +kernel
theorem dX5_sleep_2 : decode cX5_sleep 2 = .ok (.getfield 10, 3) := by decide +kernel
theorem dX5_sleep_5 : decode cX5_sleep 5 = .ok (.getfield 66, 3) := by decide +kernel
theorem dX5_sleep_8 : decode cX5_sleep 8 = .ok (.invokestatic 58, 3) := by decide +kernel
theorem dX5_sleep_11 : decode cX5_sleep 11 = .ok (.iload_n 2, 1) := by decide +kernel
theorem dX5_sleep_12 : decode cX5_sleep 12 = .ok (.aload_n 0, 1) := by decide +kernel
theorem dX5_sleep_13 : decode cX5_sleep 13 = .ok (.getfield 19, 3) := by decide +kernel
theorem dX5_sleep_16 : decode cX5_sleep 16 = .ok (.getfield 79, 3) := by decide +kernel
theorem dX5_sleep_19 : decode cX5_sleep 19 = .ok (.invokestatic 88, 3) := by decide +kernel
theorem dX5_sleep_22 : decode cX5_sleep 22 = .ok (.aload_n 0, 1) := by decide +kernel
theorem dX5_sleep_23 : decode cX5_sleep 23 = .ok (.getfield 19, 3) := by decide +kernel
theorem dX5_sleep_26 : decode cX5_sleep 26 = .ok (.iload_n 1, 1) := by decide +kernel
theorem dX5_sleep_27 : decode cX5_sleep 27 = .ok (.invokevirtual 91, 3) := by decide +kernel
theorem dX5_sleep_30 : decode cX5_sleep 30 = .ok (.istore_n 3, 1) := by decide +kernel
theorem dX5_sleep_31 : decode cX5_sleep 31 = .ok (.iload_n 3, 1) := by decide +kernel
theorem dX5_sleep_32 : decode cX5_sleep 32 = .ok (.iload_n 2, 1) := by decide +kernel
theorem dX5_sleep_33 : decode cX5_sleep 33 = .ok (.if_icmp .ne 13, 3) := by decide +kernel
theorem dX5_sleep_36 : decode cX5_sleep 36 = .ok (.new 51, 3) := by decide +kernel
theorem dX5_sleep_39 : decode cX5_sleep 39 = .ok (.dup, 1) := by decide +kernel
theorem dX5_sleep_40 : decode cX5_sleep 40 = .ok (.ldc 94, 2) := by decide +kernel
theorem dX5_sleep_42 : decode cX5_sleep 42 = .ok (.invokespecial 55, 3) := by decide +kernel
theorem dX5_sleep_45 : decode cX5_sleep 45 = .ok (.athrow, 1) := by decide +kernel
theorem dX5_sleep_46 : decode cX5_sleep 46 = .ok (.iload_n 2, 1) := by decide +kernel
theorem dX5_sleep_47 : decode cX5_sleep 47 = .ok (.iconst (-1), 1) := by decide +kernel
theorem dX5_sleep_48 : decode cX5_sleep 48 = .ok (.if_icmp .eq 29, 3) := by decide +kernel
theorem dX5_sleep_51 : decode cX5_sleep 51 = .ok (.aload_n 0, 1) := by decide +kernel
theorem dX5_sleep_52 : decode cX5_sleep 52 = .ok (.getfield 19, 3) := by decide +kernel
theorem dX5_sleep_55 : decode cX5_sleep 55 = .ok (.iload_n 2, 1) := by decide +kernel
theorem dX5_sleep_56 : decode cX5_sleep 56 = .ok (.iload_n 1, 1) := by decide +kernel
theorem dX5_sleep_57 : decode cX5_sleep 57 = .ok (.aload_n 0, 1) := by decide +kernel
theorem dX5_sleep_58 : decode cX5_sleep 58 = .ok (.getfield 10, 3) := by decide +kernel
theorem dX5_sleep_61 : decode cX5_sleep 61 = .ok (.invokevirtual 96, 3) := by decide +kernel
theorem dX5_sleep_64 : decode cX5_sleep 64 = .ok (.ifCond .ne 13, 3) := by decide +kernel
theorem dX5_sleep_67 : decode cX5_sleep 67 = .ok (.new 51, 3) := by decide +kernel
theorem dX5_sleep_70 : decode cX5_sleep 70 = .ok (.dup, 1) := by decide +kernel
theorem dX5_sleep_71 : decode cX5_sleep 71 = .ok (.ldc 100, 2) := by decide +kernel
theorem dX5_sleep_73 : decode cX5_sleep 73 = .ok (.invokespecial 55, 3) := by decide +kernel
theorem dX5_sleep_76 : decode cX5_sleep 76 = .ok (.athrow, 1) := by decide +kernel
theorem dX5_sleep_77 : decode cX5_sleep 77 = .ok (.aload_n 0, 1) := by decide +kernel
theorem dX5_sleep_78 : decode cX5_sleep 78 = .ok (.getfield 19, 3) := by decide +kernel
theorem dX5_sleep_81 : decode cX5_sleep 81 = .ok (.iload_n 3, 1) := by decide +kernel
theorem dX5_sleep_82 : decode cX5_sleep 82 = .ok (.iload_n 1, 1) := by decide +kernel
theorem dX5_sleep_83 : decode cX5_sleep 83 = .ok (.invokevirtual 102, 3) := by decide +kernel
theorem dX5_sleep_86 : decode cX5_sleep 86 = .ok (.aload_n 0, 1) := by decide +kernel
theorem dX5_sleep_87 : decode cX5_sleep 87 = .ok (.getfield 19, 3) := by decide +kernel
theorem dX5_sleep_90 : decode cX5_sleep 90 = .ok (.iload_n 2, 1) := by decide +kernel
theorem dX5_sleep_91 : decode cX5_sleep 91 = .ok (.iload_n 1, 1) := by decide +kernel
theorem dX5_sleep_92 : decode cX5_sleep 92 = .ok (.invokevirtual 105, 3) := by decide +kernel
theorem dX5_sleep_95 : decode cX5_sleep 95 = .ok (.iload_n 3, 1) := by decide +kernel
theorem dX5_sleep_96 : decode cX5_sleep 96 = .ok (.ireturn, 1) := by decide +kernel
set_option maxRecDepth 20000 in
theorem ggX5_inTent_X5_checkNumber : GoodIn wsX5_inTent wsX5_checkNumber := goodIn_ca (goodIn_r _ [7, 8, 9] (by decide +kernel) (by decide +kernel)) (goodIn_sub (fun _ h => List.mem_cons_of_mem _ (List.mem_append_right _ h)) (by decide +kernel))
set_option maxRecDepth 20000 in
theorem gX5_inTent_X5_checkNumber : GoodIn wsX5_inTent (va_wsS RX5 58 yX5_checkNumber wsX5_checkNumber) := goodIn_app (goodIn_of _ (by decide +kernel)) ggX5_inTent_X5_checkNumber
theorem dX5_inTent_0 : decode cX5_inTent 0 = .ok (.iload_n 1, 1) := by decide +kernel
theorem dX5_inTent_1 : decode cX5_inTent 1 = .ok (.aload_n 0, 1) := by decide +kernel
theorem dX5_inTent_2 : decode cX5_inTent 2 = .ok (.getfield 19, 3) := by decide +kernel
theorem dX5_inTent_5 : decode cX5_inTent 5 = .ok (.getfield 79, 3) := by decide +kernel
theorem dX5_inTent_8 : decode cX5_inTent 8 = .ok (.invokestatic 58, 3) := by decide +kernel
theorem dX5_inTent_11 : decode cX5_inTent 11 = .ok (.aload_n 0, 1) := by decide +kernel
theorem dX5_inTent_12 : decode cX5_inTent 12 = .ok (.getfield 19, 3) := by decide +kernel
theorem dX5_inTent_15 : decode cX5_inTent 15 = .ok (.getfield 108, 3) := by decide +kernel
theorem dX5_inTent_18 : decode cX5_inTent 18 = .ok (.iload_n 1, 1) := by decide +kernel
theorem dX5_inTent_19 : decode cX5_inTent 19 = .ok (.laload, 1) := by decide +kernel
theorem dX5_inTent_20 : decode cX5_inTent 20 = .ok (.lreturn, 1) := by decide +kernel
set_option maxRecDepth 20000 in
theorem ggX5_findTents_X4_tentOf : GoodIn wsX5_findTents wsX4_tentOf := goodIn_r _ [9, 10, 11, 77, 78, 79] (by decide +kernel) (by decide +kernel)
set_option maxRecDepth 20000 in
theorem gX5_findTents_X4_tentOf : GoodIn wsX5_findTents (wsV RX5 91 RX4 yX4_tentOf wsX4_tentOf) := goodIn_app (goodIn_of _ (by decide +kernel)) ggX5_findTents_X4_tentOf
set_option maxRecDepth 20000 in
theorem ggX5_findTents_X4_bestFor : GoodIn wsX5_findTents wsX4_bestFor := goodIn_r _ [15, 16, 10, 17, 18, 19, 20, 21, 22, 23, 24, 25, 26, 8, 27, 11, 28, 29, 30, 31, 32, 33, 34, 35, 36, 37, 38, 39, 40, 41, 42, 43, 44, 45, 46, 47, 48, 49, 69, 70, 71, 72, 73, 74, 75, 76, 77, 78, 79] (by decide +kernel) (by decide +kernel)
set_option maxRecDepth 20000 in
theorem gX5_findTents_X4_bestFor : GoodIn wsX5_findTents (wsV RX5 116 RX4 yX4_bestFor wsX4_bestFor) := goodIn_app (goodIn_of _ (by decide +kernel)) ggX5_findTents_X4_bestFor
set_option maxRecDepth 20000 in
theorem ggX5_findTents_X4_enter : GoodIn wsX5_findTents wsX4_enter := goodIn_r _ [53, 11, 77, 78, 79] (by decide +kernel) (by decide +kernel)
set_option maxRecDepth 20000 in
theorem gX5_findTents_X4_enter : GoodIn wsX5_findTents (wsV RX5 105 RX4 yX4_enter wsX4_enter) := goodIn_app (goodIn_of _ (by decide +kernel)) ggX5_findTents_X4_enter
set_option maxRecDepth 20000 in
theorem ggX5_findTents_X5_scoutsWithoutTent : GoodIn wsX5_findTents wsX5_scoutsWithoutTent := goodIn_r _ [58, 1, 2, 4, 59, 60, 61, 8, 62, 10, 11, 28, 29, 30, 31, 32, 33, 34, 63, 64, 65, 66, 67, 68, 69, 70, 71, 72, 73, 74, 75, 76, 77, 78, 79] (by decide +kernel) (by decide +kernel)
set_option maxRecDepth 20000 in
theorem gX5_findTents_X5_scoutsWithoutTent : GoodIn wsX5_findTents (wsV RX5 120 RX5 yX5_scoutsWithoutTent wsX5_scoutsWithoutTent) := goodIn_app (goodIn_of _ (by decide +kernel)) ggX5_findTents_X5_scoutsWithoutTent
theorem dX5_findTents_0 : decode cX5_findTents 0 = .ok (.bipush 17, 2) := by decide +kernel
theorem dX5_findTents_2 : decode cX5_findTents 2 = .ok (.istore_n 1, 1) := by decide +kernel
theorem dX5_findTents_3 : decode cX5_findTents 3 = .ok (.iload_n 1, 1) := by decide +kernel
theorem dX5_findTents_4 : decode cX5_findTents 4 = .ok (.bipush 6, 2) := by decide +kernel
theorem dX5_findTents_6 : decode cX5_findTents 6 = .ok (.if_icmp .lt 73, 3) := by decide +kernel
theorem dX5_findTents_9 : decode cX5_findTents 9 = .ok (.iconst 0, 1) := by decide +kernel
theorem dX5_findTents_10 : decode cX5_findTents 10 = .ok (.istore_n 2, 1) := by decide +kernel
theorem dX5_findTents_11 : decode cX5_findTents 11 = .ok (.iload_n 2, 1) := by decide +kernel
theorem dX5_findTents_12 : decode cX5_findTents 12 = .ok (.aload_n 0, 1) := by decide +kernel
theorem dX5_findTents_13 : decode cX5_findTents 13 = .ok (.getfield 10, 3) := by decide +kernel
theorem dX5_findTents_16 : decode cX5_findTents 16 = .ok (.getfield 66, 3) := by decide +kernel
theorem dX5_findTents_19 : decode cX5_findTents 19 = .ok (.if_icmp .ge 54, 3) := by decide +kernel
theorem dX5_findTents_22 : decode cX5_findTents 22 = .ok (.aload_n 0, 1) := by decide +kernel
theorem dX5_findTents_23 : decode cX5_findTents 23 = .ok (.getfield 10, 3) := by decide +kernel
theorem dX5_findTents_26 : decode cX5_findTents 26 = .ok (.getfield 112, 3) := by decide +kernel
theorem dX5_findTents_29 : decode cX5_findTents 29 = .ok (.iload_n 2, 1) := by decide +kernel
theorem dX5_findTents_30 : decode cX5_findTents 30 = .ok (.iaload, 1) := by decide +kernel
theorem dX5_findTents_31 : decode cX5_findTents 31 = .ok (.iload_n 1, 1) := by decide +kernel
theorem dX5_findTents_32 : decode cX5_findTents 32 = .ok (.if_icmp .ne 35, 3) := by decide +kernel
theorem dX5_findTents_35 : decode cX5_findTents 35 = .ok (.aload_n 0, 1) := by decide +kernel
theorem dX5_findTents_36 : decode cX5_findTents 36 = .ok (.getfield 19, 3) := by decide +kernel
theorem dX5_findTents_39 : decode cX5_findTents 39 = .ok (.iload_n 2, 1) := by decide +kernel
theorem dX5_findTents_40 : decode cX5_findTents 40 = .ok (.invokevirtual 91, 3) := by decide +kernel
theorem dX5_findTents_43 : decode cX5_findTents 43 = .ok (.iconst (-1), 1) := by decide +kernel
theorem dX5_findTents_44 : decode cX5_findTents 44 = .ok (.if_icmp .ne 23, 3) := by decide +kernel
theorem dX5_findTents_47 : decode cX5_findTents 47 = .ok (.aload_n 0, 1) := by decide +kernel
theorem dX5_findTents_48 : decode cX5_findTents 48 = .ok (.getfield 19, 3) := by decide +kernel
theorem dX5_findTents_51 : decode cX5_findTents 51 = .ok (.aload_n 0, 1) := by decide +kernel
theorem dX5_findTents_52 : decode cX5_findTents 52 = .ok (.getfield 19, 3) := by decide +kernel
theorem dX5_findTents_55 : decode cX5_findTents 55 = .ok (.iload_n 2, 1) := by decide +kernel
theorem dX5_findTents_56 : decode cX5_findTents 56 = .ok (.aload_n 0, 1) := by decide +kernel
theorem dX5_findTents_57 : decode cX5_findTents 57 = .ok (.getfield 10, 3) := by decide +kernel
theorem dX5_findTents_60 : decode cX5_findTents 60 = .ok (.invokevirtual 116, 3) := by decide +kernel
theorem dX5_findTents_63 : decode cX5_findTents 63 = .ok (.iload_n 2, 1) := by decide +kernel
theorem dX5_findTents_64 : decode cX5_findTents 64 = .ok (.invokevirtual 105, 3) := by decide +kernel
theorem dX5_findTents_67 : decode cX5_findTents 67 = .ok (.iinc 2 1, 3) := by decide +kernel
theorem dX5_findTents_70 : decode cX5_findTents 70 = .ok (.goto (-59), 3) := by decide +kernel
theorem dX5_findTents_73 : decode cX5_findTents 73 = .ok (.iinc 1 (-1), 3) := by decide +kernel
theorem dX5_findTents_76 : decode cX5_findTents 76 = .ok (.goto (-73), 3) := by decide +kernel
theorem dX5_findTents_79 : decode cX5_findTents 79 = .ok (.aload_n 0, 1) := by decide +kernel
theorem dX5_findTents_80 : decode cX5_findTents 80 = .ok (.invokevirtual 120, 3) := by decide +kernel
theorem dX5_findTents_83 : decode cX5_findTents 83 = .ok (.ireturn, 1) := by decide +kernel
set_option maxRecDepth 20000 in
theorem ggX5_count_X5_checkNumber : GoodIn wsX5_count wsX5_checkNumber := goodIn_ca (goodIn_r _ [4, 5, 6] (by decide +kernel) (by decide +kernel)) (goodIn_sub (fun _ h => List.mem_cons_of_mem _ (List.mem_append_right _ h)) (by decide +kernel))
set_option maxRecDepth 20000 in
theorem gX5_count_X5_checkNumber : GoodIn wsX5_count (va_wsS RX5 58 yX5_checkNumber wsX5_checkNumber) := goodIn_app (goodIn_of _ (by decide +kernel)) ggX5_count_X5_checkNumber
set_option maxRecDepth 20000 in
theorem ggX5_count_X5_countOf : GoodIn wsX5_count wsX5_countOf := goodIn_r _ [10, 11, 12, 13, 14, 15, 16, 17, 18, 19, 20, 21, 22, 23, 3, 24, 25, 26, 27, 28, 29, 30, 31, 32, 33, 34, 35, 36, 37, 38, 39, 40, 41, 42, 43, 44, 45, 46, 47, 48, 49, 50, 51, 52, 53, 54, 55, 56, 57, 58, 59, 60, 61, 62, 63, 64] (by decide +kernel) (by decide +kernel)
set_option maxRecDepth 20000 in
theorem gX5_count_X5_countOf : GoodIn wsX5_count (wsV RX5 124 RX5 yX5_countOf wsX5_countOf) := goodIn_app (goodIn_of _ (by decide +kernel)) ggX5_count_X5_countOf
theorem dX5_count_0 : decode cX5_count 0 = .ok (.iload_n 1, 1) := by decide +kernel
theorem dX5_count_1 : decode cX5_count 1 = .ok (.bipush 7, 2) := by decide +kernel
theorem dX5_count_3 : decode cX5_count 3 = .ok (.invokestatic 58, 3) := by decide +kernel
theorem dX5_count_6 : decode cX5_count 6 = .ok (.aload_n 0, 1) := by decide +kernel
theorem dX5_count_7 : decode cX5_count 7 = .ok (.iload_n 1, 1) := by decide +kernel
theorem dX5_count_8 : decode cX5_count 8 = .ok (.invokevirtual 124, 3) := by decide +kernel
theorem dX5_count_11 : decode cX5_count 11 = .ok (.ireturn, 1) := by decide +kernel
set_option maxRecDepth 20000 in
theorem ggX5_giveDuty_X5_checkNumber : GoodIn wsX5_giveDuty wsX5_checkNumber := goodIn_ca (goodIn_r _ [10, 11, 12] (by decide +kernel) (by decide +kernel)) (goodIn_sub (fun _ h => List.mem_cons_of_mem _ (List.mem_append_left _ (List.mem_append_right _ h))) (by decide +kernel))
set_option maxRecDepth 20000 in
theorem gX5_giveDuty_X5_checkNumber : GoodIn wsX5_giveDuty (va_wsS RX5 58 yX5_checkNumber wsX5_checkNumber) := goodIn_app (goodIn_of _ (by decide +kernel)) ggX5_giveDuty_X5_checkNumber
set_option maxRecDepth 20000 in
theorem ggX5_giveDuty_X5_checkNumberOrNone : GoodIn wsX5_giveDuty wsX5_checkNumberOrNone := goodIn_ca (goodIn_r _ [15, 7, 8, 9, 10, 11, 12] (by decide +kernel) (by decide +kernel)) (goodIn_sub (fun _ h => List.mem_cons_of_mem _ (List.mem_append_left _ (List.mem_append_right _ h))) (by decide +kernel))
set_option maxRecDepth 20000 in
theorem gX5_giveDuty_X5_checkNumberOrNone : GoodIn wsX5_giveDuty (va_wsS RX5 88 yX5_checkNumberOrNone wsX5_checkNumberOrNone) := goodIn_app (goodIn_of _ (by decide +kernel)) ggX5_giveDuty_X5_checkNumberOrNone
set_option maxRecDepth 20000 in
theorem ggX5_giveDuty_X5_checkArgument : GoodIn wsX5_giveDuty wsX5_checkArgument := goodIn_ca (goodIn_r _ [18, 19, 20] (by decide +kernel) (by decide +kernel)) (goodIn_sub (fun _ h => List.mem_cons_of_mem _ (List.mem_append_right _ h)) (by decide +kernel))
set_option maxRecDepth 20000 in
theorem gX5_giveDuty_X5_checkArgument : GoodIn wsX5_giveDuty (va_wsS RX5 62 yX5_checkArgument wsX5_checkArgument) := goodIn_app (goodIn_of _ (by decide +kernel)) ggX5_giveDuty_X5_checkArgument
set_option maxRecDepth 20000 in
theorem ggX5_giveDuty_X1_canBeGiven : GoodIn wsX5_giveDuty wsX1_canBeGiven := goodIn_r _ [25, 26, 27, 28, 24, 29, 30, 31, 32, 33, 34, 35, 36, 37, 38, 39, 40, 41, 42, 43, 44, 45, 46, 47, 48, 49, 50, 64, 65, 66, 67, 68, 69, 70, 71, 72, 73] (by decide +kernel) (by decide +kernel)
set_option maxRecDepth 20000 in
theorem gX5_giveDuty_X1_canBeGiven : GoodIn wsX5_giveDuty (wsV RX5 127 RX1 yX1_canBeGiven wsX1_canBeGiven) := goodIn_app (goodIn_of _ (by decide +kernel)) ggX5_giveDuty_X1_canBeGiven
set_option maxRecDepth 20000 in
theorem ggX5_giveDuty_X1_holderOn : GoodIn wsX5_giveDuty wsX1_holderOn := goodIn_r _ [49, 50, 72, 73] (by decide +kernel) (by decide +kernel)
set_option maxRecDepth 20000 in
theorem gX5_giveDuty_X1_holderOn : GoodIn wsX5_giveDuty (wsV RX5 133 RX1 yX1_holderOn wsX1_holderOn) := goodIn_app (goodIn_of _ (by decide +kernel)) ggX5_giveDuty_X1_holderOn
set_option maxRecDepth 20000 in
theorem ggX5_giveDuty_X1_assign : GoodIn wsX5_giveDuty wsX1_assign := goodIn_r _ [55, 56, 57, 50, 46, 47, 48, 24, 49, 72, 73] (by decide +kernel) (by decide +kernel)
set_option maxRecDepth 20000 in
theorem gX5_giveDuty_X1_assign : GoodIn wsX5_giveDuty (wsV RX5 136 RX1 yX1_assign wsX1_assign) := goodIn_app (goodIn_of _ (by decide +kernel)) ggX5_giveDuty_X1_assign
theorem dX5_giveDuty_0 : decode cX5_giveDuty 0 = .ok (.iload_n 2, 1) := by decide +kernel
theorem dX5_giveDuty_1 : decode cX5_giveDuty 1 = .ok (.iconst 5, 1) := by decide +kernel
theorem dX5_giveDuty_2 : decode cX5_giveDuty 2 = .ok (.invokestatic 58, 3) := by decide +kernel
theorem dX5_giveDuty_5 : decode cX5_giveDuty 5 = .ok (.iload_n 3, 1) := by decide +kernel
theorem dX5_giveDuty_6 : decode cX5_giveDuty 6 = .ok (.aload_n 0, 1) := by decide +kernel
theorem dX5_giveDuty_7 : decode cX5_giveDuty 7 = .ok (.getfield 10, 3) := by decide +kernel
theorem dX5_giveDuty_10 : decode cX5_giveDuty 10 = .ok (.getfield 48, 3) := by decide +kernel
theorem dX5_giveDuty_13 : decode cX5_giveDuty 13 = .ok (.invokestatic 88, 3) := by decide +kernel
theorem dX5_giveDuty_16 : decode cX5_giveDuty 16 = .ok (.iload_n 1, 1) := by decide +kernel
theorem dX5_giveDuty_17 : decode cX5_giveDuty 17 = .ok (.aload_n 0, 1) := by decide +kernel
theorem dX5_giveDuty_18 : decode cX5_giveDuty 18 = .ok (.getfield 44, 3) := by decide +kernel
theorem dX5_giveDuty_21 : decode cX5_giveDuty 21 = .ok (.bipush 60, 2) := by decide +kernel
theorem dX5_giveDuty_23 : decode cX5_giveDuty 23 = .ok (.invokestatic 62, 3) := by decide +kernel
theorem dX5_giveDuty_26 : decode cX5_giveDuty 26 = .ok (.iload_n 3, 1) := by decide +kernel
theorem dX5_giveDuty_27 : decode cX5_giveDuty 27 = .ok (.iconst (-1), 1) := by decide +kernel
theorem dX5_giveDuty_28 : decode cX5_giveDuty 28 = .ok (.if_icmp .eq 30, 3) := by decide +kernel
theorem dX5_giveDuty_31 : decode cX5_giveDuty 31 = .ok (.aload_n 0, 1) := by decide +kernel
theorem dX5_giveDuty_32 : decode cX5_giveDuty 32 = .ok (.getfield 26, 3) := by decide +kernel
theorem dX5_giveDuty_35 : decode cX5_giveDuty 35 = .ok (.iload_n 1, 1) := by decide +kernel
theorem dX5_giveDuty_36 : decode cX5_giveDuty 36 = .ok (.iload_n 2, 1) := by decide +kernel
theorem dX5_giveDuty_37 : decode cX5_giveDuty 37 = .ok (.iload_n 3, 1) := by decide +kernel
theorem dX5_giveDuty_38 : decode cX5_giveDuty 38 = .ok (.aload_n 0, 1) := by decide +kernel
theorem dX5_giveDuty_39 : decode cX5_giveDuty 39 = .ok (.getfield 10, 3) := by decide +kernel
theorem dX5_giveDuty_42 : decode cX5_giveDuty 42 = .ok (.invokevirtual 127, 3) := by decide +kernel
theorem dX5_giveDuty_45 : decode cX5_giveDuty 45 = .ok (.ifCond .ne 13, 3) := by decide +kernel
theorem dX5_giveDuty_48 : decode cX5_giveDuty 48 = .ok (.new 51, 3) := by decide +kernel
theorem dX5_giveDuty_51 : decode cX5_giveDuty 51 = .ok (.dup, 1) := by decide +kernel
theorem dX5_giveDuty_52 : decode cX5_giveDuty 52 = .ok (.ldc 131, 2) := by decide +kernel
theorem dX5_giveDuty_54 : decode cX5_giveDuty 54 = .ok (.invokespecial 55, 3) := by decide +kernel
theorem dX5_giveDuty_57 : decode cX5_giveDuty 57 = .ok (.athrow, 1) := by decide +kernel
theorem dX5_giveDuty_58 : decode cX5_giveDuty 58 = .ok (.aload_n 0, 1) := by decide +kernel
theorem dX5_giveDuty_59 : decode cX5_giveDuty 59 = .ok (.getfield 26, 3) := by decide +kernel
theorem dX5_giveDuty_62 : decode cX5_giveDuty 62 = .ok (.iload_n 1, 1) := by decide +kernel
theorem dX5_giveDuty_63 : decode cX5_giveDuty 63 = .ok (.iload_n 2, 1) := by decide +kernel
theorem dX5_giveDuty_64 : decode cX5_giveDuty 64 = .ok (.invokevirtual 133, 3) := by decide +kernel
theorem dX5_giveDuty_67 : decode cX5_giveDuty 67 = .ok (.istore 4, 2) := by decide +kernel
theorem dX5_giveDuty_69 : decode cX5_giveDuty 69 = .ok (.aload_n 0, 1) := by decide +kernel
theorem dX5_giveDuty_70 : decode cX5_giveDuty 70 = .ok (.getfield 26, 3) := by decide +kernel
theorem dX5_giveDuty_73 : decode cX5_giveDuty 73 = .ok (.iload_n 1, 1) := by decide +kernel
theorem dX5_giveDuty_74 : decode cX5_giveDuty 74 = .ok (.iload_n 2, 1) := by decide +kernel
theorem dX5_giveDuty_75 : decode cX5_giveDuty 75 = .ok (.iload_n 3, 1) := by decide +kernel
theorem dX5_giveDuty_76 : decode cX5_giveDuty 76 = .ok (.invokevirtual 136, 3) := by decide +kernel
theorem dX5_giveDuty_79 : decode cX5_giveDuty 79 = .ok (.iload 4, 2) := by decide +kernel
theorem dX5_giveDuty_81 : decode cX5_giveDuty 81 = .ok (.ireturn, 1) := by decide +kernel
set_option maxRecDepth 20000 in
theorem ggX5_duty_X5_checkNumber : GoodIn wsX5_duty wsX5_checkNumber := goodIn_ca (goodIn_r _ [5, 6, 7] (by decide +kernel) (by decide +kernel)) (goodIn_sub (fun _ h => List.mem_cons_of_mem _ (List.mem_append_right _ h)) (by decide +kernel))
set_option maxRecDepth 20000 in
theorem gX5_duty_X5_checkNumber : GoodIn wsX5_duty (va_wsS RX5 58 yX5_checkNumber wsX5_checkNumber) := goodIn_app (goodIn_of _ (by decide +kernel)) ggX5_duty_X5_checkNumber
set_option maxRecDepth 20000 in
theorem ggX5_duty_X1_holderOn : GoodIn wsX5_duty wsX1_holderOn := goodIn_r _ [12, 13, 20, 21] (by decide +kernel) (by decide +kernel)
set_option maxRecDepth 20000 in
theorem gX5_duty_X1_holderOn : GoodIn wsX5_duty (wsV RX5 133 RX1 yX1_holderOn wsX1_holderOn) := goodIn_app (goodIn_of _ (by decide +kernel)) ggX5_duty_X1_holderOn
theorem dX5_duty_0 : decode cX5_duty 0 = .ok (.iload_n 2, 1) := by decide +kernel
theorem dX5_duty_1 : decode cX5_duty 1 = .ok (.iconst 5, 1) := by decide +kernel
theorem dX5_duty_2 : decode cX5_duty 2 = .ok (.invokestatic 58, 3) := by decide +kernel
theorem dX5_duty_5 : decode cX5_duty 5 = .ok (.iload_n 1, 1) := by decide +kernel
theorem dX5_duty_6 : decode cX5_duty 6 = .ok (.bipush 61, 2) := by decide +kernel
theorem dX5_duty_8 : decode cX5_duty 8 = .ok (.invokestatic 58, 3) := by decide +kernel
theorem dX5_duty_11 : decode cX5_duty 11 = .ok (.aload_n 0, 1) := by decide +kernel
theorem dX5_duty_12 : decode cX5_duty 12 = .ok (.getfield 26, 3) := by decide +kernel
theorem dX5_duty_15 : decode cX5_duty 15 = .ok (.iload_n 1, 1) := by decide +kernel
theorem dX5_duty_16 : decode cX5_duty 16 = .ok (.iload_n 2, 1) := by decide +kernel
theorem dX5_duty_17 : decode cX5_duty 17 = .ok (.invokevirtual 133, 3) := by decide +kernel
theorem dX5_duty_20 : decode cX5_duty 20 = .ok (.ireturn, 1) := by decide +kernel
set_option maxRecDepth 20000 in
theorem ggX5_points_X5_checkNumber : GoodIn wsX5_points wsX5_checkNumber := goodIn_ca (goodIn_r _ [8, 9, 10] (by decide +kernel) (by decide +kernel)) (goodIn_sub (fun _ h => List.mem_cons_of_mem _ (List.mem_append_right _ h)) (by decide +kernel))
set_option maxRecDepth 20000 in
theorem gX5_points_X5_checkNumber : GoodIn wsX5_points (va_wsS RX5 58 yX5_checkNumber wsX5_checkNumber) := goodIn_app (goodIn_of _ (by decide +kernel)) ggX5_points_X5_checkNumber
theorem dX5_points_0 : decode cX5_points 0 = .ok (.iload_n 1, 1) := by decide +kernel
theorem dX5_points_1 : decode cX5_points 1 = .ok (.aload_n 0, 1) := by decide +kernel
theorem dX5_points_2 : decode cX5_points 2 = .ok (.getfield 10, 3) := by decide +kernel
theorem dX5_points_5 : decode cX5_points 5 = .ok (.getfield 48, 3) := by decide +kernel
theorem dX5_points_8 : decode cX5_points 8 = .ok (.invokestatic 58, 3) := by decide +kernel
theorem dX5_points_11 : decode cX5_points 11 = .ok (.aload_n 0, 1) := by decide +kernel
theorem dX5_points_12 : decode cX5_points 12 = .ok (.getfield 26, 3) := by decide +kernel
theorem dX5_points_15 : decode cX5_points 15 = .ok (.getfield 139, 3) := by decide +kernel
theorem dX5_points_18 : decode cX5_points 18 = .ok (.iload_n 1, 1) := by decide +kernel
theorem dX5_points_19 : decode cX5_points 19 = .ok (.iaload, 1) := by decide +kernel
theorem dX5_points_20 : decode cX5_points 20 = .ok (.ireturn, 1) := by decide +kernel
set_option maxRecDepth 20000 in
theorem ggX5_findDuties_X1_holderOn : GoodIn wsX5_findDuties wsX1_holderOn := goodIn_r _ [8, 9, 56, 57] (by decide +kernel) (by decide +kernel)
set_option maxRecDepth 20000 in
theorem gX5_findDuties_X1_holderOn : GoodIn wsX5_findDuties (wsV RX5 133 RX1 yX1_holderOn wsX1_holderOn) := goodIn_app (goodIn_of _ (by decide +kernel)) ggX5_findDuties_X1_holderOn
set_option maxRecDepth 20000 in
theorem ggX5_findDuties_X1_bestFor : GoodIn wsX5_findDuties wsX1_bestFor := goodIn_r _ [13, 14, 15, 16, 17, 18, 7, 19, 20, 21, 22, 23, 24, 25, 26, 27, 28, 29, 30, 31, 32, 33, 34, 35, 36, 37, 38, 39, 40, 5, 6, 8, 9, 58, 59, 60, 61, 62, 63, 64, 65, 56, 57] (by decide +kernel) (by decide +kernel)
set_option maxRecDepth 20000 in
theorem gX5_findDuties_X1_bestFor : GoodIn wsX5_findDuties (wsV RX5 145 RX1 yX1_bestFor wsX1_bestFor) := goodIn_app (goodIn_of _ (by decide +kernel)) ggX5_findDuties_X1_bestFor
set_option maxRecDepth 20000 in
theorem ggX5_findDuties_X1_assign : GoodIn wsX5_findDuties wsX1_assign := goodIn_r _ [44, 15, 45, 9, 40, 5, 6, 7, 8, 56, 57] (by decide +kernel) (by decide +kernel)
set_option maxRecDepth 20000 in
theorem gX5_findDuties_X1_assign : GoodIn wsX5_findDuties (wsV RX5 136 RX1 yX1_assign wsX1_assign) := goodIn_app (goodIn_of _ (by decide +kernel)) ggX5_findDuties_X1_assign
set_option maxRecDepth 20000 in
theorem ggX5_findDuties_X1_openOn : GoodIn wsX5_findDuties wsX1_openOn := goodIn_r _ [49, 40, 5, 6, 7, 8, 9, 56, 57] (by decide +kernel) (by decide +kernel)
set_option maxRecDepth 20000 in
theorem gX5_findDuties_X1_openOn : GoodIn wsX5_findDuties (wsV RX5 148 RX1 yX1_openOn wsX1_openOn) := goodIn_app (goodIn_of _ (by decide +kernel)) ggX5_findDuties_X1_openOn
theorem dX5_findDuties_0 : decode cX5_findDuties 0 = .ok (.iconst 0, 1) := by decide +kernel
theorem dX5_findDuties_1 : decode cX5_findDuties 1 = .ok (.istore_n 1, 1) := by decide +kernel
theorem dX5_findDuties_2 : decode cX5_findDuties 2 = .ok (.iload_n 1, 1) := by decide +kernel
theorem dX5_findDuties_3 : decode cX5_findDuties 3 = .ok (.getstatic 142, 3) := by decide +kernel
theorem dX5_findDuties_6 : decode cX5_findDuties 6 = .ok (.arraylength, 1) := by decide +kernel
theorem dX5_findDuties_7 : decode cX5_findDuties 7 = .ok (.if_icmp .ge 59, 3) := by decide +kernel
theorem dX5_findDuties_10 : decode cX5_findDuties 10 = .ok (.getstatic 142, 3) := by decide +kernel
theorem dX5_findDuties_13 : decode cX5_findDuties 13 = .ok (.iload_n 1, 1) := by decide +kernel
theorem dX5_findDuties_14 : decode cX5_findDuties 14 = .ok (.iaload, 1) := by decide +kernel
theorem dX5_findDuties_15 : decode cX5_findDuties 15 = .ok (.istore_n 2, 1) := by decide +kernel
theorem dX5_findDuties_16 : decode cX5_findDuties 16 = .ok (.aload_n 0, 1) := by decide +kernel
theorem dX5_findDuties_17 : decode cX5_findDuties 17 = .ok (.getfield 26, 3) := by decide +kernel
theorem dX5_findDuties_20 : decode cX5_findDuties 20 = .ok (.aload_n 0, 1) := by decide +kernel
theorem dX5_findDuties_21 : decode cX5_findDuties 21 = .ok (.getfield 44, 3) := by decide +kernel
theorem dX5_findDuties_24 : decode cX5_findDuties 24 = .ok (.iload_n 2, 1) := by decide +kernel
theorem dX5_findDuties_25 : decode cX5_findDuties 25 = .ok (.invokevirtual 133, 3) := by decide +kernel
theorem dX5_findDuties_28 : decode cX5_findDuties 28 = .ok (.iconst (-1), 1) := by decide +kernel
theorem dX5_findDuties_29 : decode cX5_findDuties 29 = .ok (.if_icmp .ne 31, 3) := by decide +kernel
theorem dX5_findDuties_32 : decode cX5_findDuties 32 = .ok (.aload_n 0, 1) := by decide +kernel
theorem dX5_findDuties_33 : decode cX5_findDuties 33 = .ok (.getfield 26, 3) := by decide +kernel
theorem dX5_findDuties_36 : decode cX5_findDuties 36 = .ok (.aload_n 0, 1) := by decide +kernel
theorem dX5_findDuties_37 : decode cX5_findDuties 37 = .ok (.getfield 44, 3) := by decide +kernel
theorem dX5_findDuties_40 : decode cX5_findDuties 40 = .ok (.iload_n 2, 1) := by decide +kernel
theorem dX5_findDuties_41 : decode cX5_findDuties 41 = .ok (.aload_n 0, 1) := by decide +kernel
theorem dX5_findDuties_42 : decode cX5_findDuties 42 = .ok (.getfield 26, 3) := by decide +kernel
theorem dX5_findDuties_45 : decode cX5_findDuties 45 = .ok (.aload_n 0, 1) := by decide +kernel
theorem dX5_findDuties_46 : decode cX5_findDuties 46 = .ok (.getfield 44, 3) := by decide +kernel
theorem dX5_findDuties_49 : decode cX5_findDuties 49 = .ok (.iload_n 2, 1) := by decide +kernel
theorem dX5_findDuties_50 : decode cX5_findDuties 50 = .ok (.aload_n 0, 1) := by decide +kernel
theorem dX5_findDuties_51 : decode cX5_findDuties 51 = .ok (.getfield 10, 3) := by decide +kernel
theorem dX5_findDuties_54 : decode cX5_findDuties 54 = .ok (.invokevirtual 145, 3) := by decide +kernel
theorem dX5_findDuties_57 : decode cX5_findDuties 57 = .ok (.invokevirtual 136, 3) := by decide +kernel
theorem dX5_findDuties_60 : decode cX5_findDuties 60 = .ok (.iinc 1 1, 3) := by decide +kernel
theorem dX5_findDuties_63 : decode cX5_findDuties 63 = .ok (.goto (-61), 3) := by decide +kernel
theorem dX5_findDuties_66 : decode cX5_findDuties 66 = .ok (.aload_n 0, 1) := by decide +kernel
theorem dX5_findDuties_67 : decode cX5_findDuties 67 = .ok (.getfield 26, 3) := by decide +kernel
theorem dX5_findDuties_70 : decode cX5_findDuties 70 = .ok (.aload_n 0, 1) := by decide +kernel
theorem dX5_findDuties_71 : decode cX5_findDuties 71 = .ok (.getfield 44, 3) := by decide +kernel
theorem dX5_findDuties_74 : decode cX5_findDuties 74 = .ok (.invokevirtual 148, 3) := by decide +kernel
theorem dX5_findDuties_77 : decode cX5_findDuties 77 = .ok (.ireturn, 1) := by decide +kernel
set_option maxRecDepth 20000 in
theorem ggX5_addFood_X5_checkArgument : GoodIn wsX5_addFood wsX5_checkArgument := goodIn_ca (goodIn_r _ [9, 10, 11] (by decide +kernel) (by decide +kernel)) (goodIn_sub (fun _ h => List.mem_cons_of_mem _ (List.mem_append_right _ h)) (by decide +kernel))
set_option maxRecDepth 20000 in
theorem gX5_addFood_X5_checkArgument : GoodIn wsX5_addFood (va_wsS RX5 62 yX5_checkArgument wsX5_checkArgument) := goodIn_app (goodIn_of _ (by decide +kernel)) ggX5_addFood_X5_checkArgument
theorem dX5_addFood_0 : decode cX5_addFood 0 = .ok (.iload_n 1, 1) := by decide +kernel
theorem dX5_addFood_1 : decode cX5_addFood 1 = .ok (.iconst 0, 1) := by decide +kernel
theorem dX5_addFood_2 : decode cX5_addFood 2 = .ok (.sipush 10000, 3) := by decide +kernel
theorem dX5_addFood_5 : decode cX5_addFood 5 = .ok (.invokestatic 62, 3) := by decide +kernel
theorem dX5_addFood_8 : decode cX5_addFood 8 = .ok (.aload_n 0, 1) := by decide +kernel
theorem dX5_addFood_9 : decode cX5_addFood 9 = .ok (.getfield 33, 3) := by decide +kernel
theorem dX5_addFood_12 : decode cX5_addFood 12 = .ok (.getfield 151, 3) := by decide +kernel
theorem dX5_addFood_15 : decode cX5_addFood 15 = .ok (.bipush 12, 2) := by decide +kernel
theorem dX5_addFood_17 : decode cX5_addFood 17 = .ok (.if_icmp .lt 13, 3) := by decide +kernel
theorem dX5_addFood_20 : decode cX5_addFood 20 = .ok (.new 51, 3) := by decide +kernel
theorem dX5_addFood_23 : decode cX5_addFood 23 = .ok (.dup, 1) := by decide +kernel
theorem dX5_addFood_24 : decode cX5_addFood 24 = .ok (.ldc 154, 2) := by decide +kernel
theorem dX5_addFood_26 : decode cX5_addFood 26 = .ok (.invokespecial 55, 3) := by decide +kernel
theorem dX5_addFood_29 : decode cX5_addFood 29 = .ok (.athrow, 1) := by decide +kernel
theorem dX5_addFood_30 : decode cX5_addFood 30 = .ok (.aload_n 0, 1) := by decide +kernel
theorem dX5_addFood_31 : decode cX5_addFood 31 = .ok (.getfield 33, 3) := by decide +kernel
theorem dX5_addFood_34 : decode cX5_addFood 34 = .ok (.getfield 156, 3) := by decide +kernel
theorem dX5_addFood_37 : decode cX5_addFood 37 = .ok (.aload_n 0, 1) := by decide +kernel
theorem dX5_addFood_38 : decode cX5_addFood 38 = .ok (.getfield 33, 3) := by decide +kernel
theorem dX5_addFood_41 : decode cX5_addFood 41 = .ok (.getfield 151, 3) := by decide +kernel
theorem dX5_addFood_44 : decode cX5_addFood 44 = .ok (.iload_n 1, 1) := by decide +kernel
theorem dX5_addFood_45 : decode cX5_addFood 45 = .ok (.iastore, 1) := by decide +kernel
theorem dX5_addFood_46 : decode cX5_addFood 46 = .ok (.aload_n 0, 1) := by decide +kernel
theorem dX5_addFood_47 : decode cX5_addFood 47 = .ok (.getfield 33, 3) := by decide +kernel
theorem dX5_addFood_50 : decode cX5_addFood 50 = .ok (.dup, 1) := by decide +kernel
theorem dX5_addFood_51 : decode cX5_addFood 51 = .ok (.getfield 151, 3) := by decide +kernel
theorem dX5_addFood_54 : decode cX5_addFood 54 = .ok (.iconst 1, 1) := by decide +kernel
theorem dX5_addFood_55 : decode cX5_addFood 55 = .ok (.iadd, 1) := by decide +kernel
theorem dX5_addFood_56 : decode cX5_addFood 56 = .ok (.putfield 151, 3) := by decide +kernel
theorem dX5_addFood_59 : decode cX5_addFood 59 = .ok (.aload_n 0, 1) := by decide +kernel
theorem dX5_addFood_60 : decode cX5_addFood 60 = .ok (.getfield 33, 3) := by decide +kernel
theorem dX5_addFood_63 : decode cX5_addFood 63 = .ok (.getfield 151, 3) := by decide +kernel
theorem dX5_addFood_66 : decode cX5_addFood 66 = .ok (.iconst 1, 1) := by decide +kernel
theorem dX5_addFood_67 : decode cX5_addFood 67 = .ok (.isub, 1) := by decide +kernel
theorem dX5_addFood_68 : decode cX5_addFood 68 = .ok (.ireturn, 1) := by decide +kernel
set_option maxRecDepth 20000 in
theorem ggX5_buy_X5_checkNumber : GoodIn wsX5_buy wsX5_checkNumber := goodIn_ca (goodIn_r _ [9, 10, 11] (by decide +kernel) (by decide +kernel)) (goodIn_sub (fun _ h => List.mem_cons_of_mem _ (List.mem_append_left _ (List.mem_append_right _ h))) (by decide +kernel))
set_option maxRecDepth 20000 in
theorem gX5_buy_X5_checkNumber : GoodIn wsX5_buy (va_wsS RX5 58 yX5_checkNumber wsX5_checkNumber) := goodIn_app (goodIn_of _ (by decide +kernel)) ggX5_buy_X5_checkNumber
set_option maxRecDepth 20000 in
theorem ggX5_buy_X5_checkArgument : GoodIn wsX5_buy wsX5_checkArgument := goodIn_ca (goodIn_r _ [14, 15, 16] (by decide +kernel) (by decide +kernel)) (goodIn_sub (fun _ h => List.mem_cons_of_mem _ (List.mem_append_right _ h)) (by decide +kernel))
set_option maxRecDepth 20000 in
theorem gX5_buy_X5_checkArgument : GoodIn wsX5_buy (va_wsS RX5 62 yX5_checkArgument wsX5_checkArgument) := goodIn_app (goodIn_of _ (by decide +kernel)) ggX5_buy_X5_checkArgument
theorem dX5_buy_0 : decode cX5_buy 0 = .ok (.iload_n 1, 1) := by decide +kernel
theorem dX5_buy_1 : decode cX5_buy 1 = .ok (.aload_n 0, 1) := by decide +kernel
theorem dX5_buy_2 : decode cX5_buy 2 = .ok (.getfield 33, 3) := by decide +kernel
theorem dX5_buy_5 : decode cX5_buy 5 = .ok (.getfield 151, 3) := by decide +kernel
theorem dX5_buy_8 : decode cX5_buy 8 = .ok (.invokestatic 58, 3) := by decide +kernel
theorem dX5_buy_11 : decode cX5_buy 11 = .ok (.iload_n 2, 1) := by decide +kernel
theorem dX5_buy_12 : decode cX5_buy 12 = .ok (.iconst 1, 1) := by decide +kernel
theorem dX5_buy_13 : decode cX5_buy 13 = .ok (.sipush 10000, 3) := by decide +kernel
theorem dX5_buy_16 : decode cX5_buy 16 = .ok (.invokestatic 62, 3) := by decide +kernel
theorem dX5_buy_19 : decode cX5_buy 19 = .ok (.aload_n 0, 1) := by decide +kernel
theorem dX5_buy_20 : decode cX5_buy 20 = .ok (.getfield 33, 3) := by decide +kernel
theorem dX5_buy_23 : decode cX5_buy 23 = .ok (.getfield 156, 3) := by decide +kernel
theorem dX5_buy_26 : decode cX5_buy 26 = .ok (.iload_n 1, 1) := by decide +kernel
theorem dX5_buy_27 : decode cX5_buy 27 = .ok (.iaload, 1) := by decide +kernel
theorem dX5_buy_28 : decode cX5_buy 28 = .ok (.iload_n 2, 1) := by decide +kernel
theorem dX5_buy_29 : decode cX5_buy 29 = .ok (.iadd, 1) := by decide +kernel
theorem dX5_buy_30 : decode cX5_buy 30 = .ok (.istore_n 3, 1) := by decide +kernel
theorem dX5_buy_31 : decode cX5_buy 31 = .ok (.iload_n 3, 1) := by decide +kernel
theorem dX5_buy_32 : decode cX5_buy 32 = .ok (.sipush 10000, 3) := by decide +kernel
theorem dX5_buy_35 : decode cX5_buy 35 = .ok (.if_icmp .le 13, 3) := by decide +kernel
theorem dX5_buy_38 : decode cX5_buy 38 = .ok (.new 51, 3) := by decide +kernel
theorem dX5_buy_41 : decode cX5_buy 41 = .ok (.dup, 1) := by decide +kernel
theorem dX5_buy_42 : decode cX5_buy 42 = .ok (.ldc 159, 2) := by decide +kernel
theorem dX5_buy_44 : decode cX5_buy 44 = .ok (.invokespecial 55, 3) := by decide +kernel
theorem dX5_buy_47 : decode cX5_buy 47 = .ok (.athrow, 1) := by decide +kernel
theorem dX5_buy_48 : decode cX5_buy 48 = .ok (.aload_n 0, 1) := by decide +kernel
theorem dX5_buy_49 : decode cX5_buy 49 = .ok (.getfield 33, 3) := by decide +kernel
theorem dX5_buy_52 : decode cX5_buy 52 = .ok (.getfield 156, 3) := by decide +kernel
theorem dX5_buy_55 : decode cX5_buy 55 = .ok (.iload_n 1, 1) := by decide +kernel
theorem dX5_buy_56 : decode cX5_buy 56 = .ok (.iload_n 3, 1) := by decide +kernel
theorem dX5_buy_57 : decode cX5_buy 57 = .ok (.iastore, 1) := by decide +kernel
theorem dX5_buy_58 : decode cX5_buy 58 = .ok (.iload_n 3, 1) := by decide +kernel
theorem dX5_buy_59 : decode cX5_buy 59 = .ok (.ireturn, 1) := by decide +kernel
set_option maxRecDepth 20000 in
theorem ggX5_store_X5_checkNumber : GoodIn wsX5_store wsX5_checkNumber := goodIn_ca (goodIn_r _ [7, 8, 9] (by decide +kernel) (by decide +kernel)) (goodIn_sub (fun _ h => List.mem_cons_of_mem _ (List.mem_append_right _ h)) (by decide +kernel))
set_option maxRecDepth 20000 in
theorem gX5_store_X5_checkNumber : GoodIn wsX5_store (va_wsS RX5 58 yX5_checkNumber wsX5_checkNumber) := goodIn_app (goodIn_of _ (by decide +kernel)) ggX5_store_X5_checkNumber
theorem dX5_store_0 : decode cX5_store 0 = .ok (.iload_n 1, 1) := by decide +kernel
theorem dX5_store_1 : decode cX5_store 1 = .ok (.aload_n 0, 1) := by decide +kernel
theorem dX5_store_2 : decode cX5_store 2 = .ok (.getfield 33, 3) := by decide +kernel
theorem dX5_store_5 : decode cX5_store 5 = .ok (.getfield 151, 3) := by decide +kernel
theorem dX5_store_8 : decode cX5_store 8 = .ok (.invokestatic 58, 3) := by decide +kernel
theorem dX5_store_11 : decode cX5_store 11 = .ok (.aload_n 0, 1) := by decide +kernel
theorem dX5_store_12 : decode cX5_store 12 = .ok (.getfield 33, 3) := by decide +kernel
theorem dX5_store_15 : decode cX5_store 15 = .ok (.getfield 156, 3) := by decide +kernel
theorem dX5_store_18 : decode cX5_store 18 = .ok (.iload_n 1, 1) := by decide +kernel
theorem dX5_store_19 : decode cX5_store 19 = .ok (.iaload, 1) := by decide +kernel
theorem dX5_store_20 : decode cX5_store 20 = .ok (.ireturn, 1) := by decide +kernel
set_option maxRecDepth 20000 in
theorem ggX5_diet_X5_checkNumber : GoodIn wsX5_diet wsX5_checkNumber := goodIn_ca (goodIn_r _ [9, 10, 11] (by decide +kernel) (by decide +kernel)) (goodIn_sub (fun _ h => List.mem_cons_of_mem _ (List.mem_append_right _ h)) (by decide +kernel))
set_option maxRecDepth 20000 in
theorem gX5_diet_X5_checkNumber : GoodIn wsX5_diet (va_wsS RX5 58 yX5_checkNumber wsX5_checkNumber) := goodIn_app (goodIn_of _ (by decide +kernel)) ggX5_diet_X5_checkNumber
theorem dX5_diet_0 : decode cX5_diet 0 = .ok (.iload_n 1, 1) := by decide +kernel
theorem dX5_diet_1 : decode cX5_diet 1 = .ok (.aload_n 0, 1) := by decide +kernel
theorem dX5_diet_2 : decode cX5_diet 2 = .ok (.getfield 10, 3) := by decide +kernel
theorem dX5_diet_5 : decode cX5_diet 5 = .ok (.getfield 66, 3) := by decide +kernel
theorem dX5_diet_8 : decode cX5_diet 8 = .ok (.invokestatic 58, 3) := by decide +kernel
theorem dX5_diet_11 : decode cX5_diet 11 = .ok (.iload_n 2, 1) := by decide +kernel
theorem dX5_diet_12 : decode cX5_diet 12 = .ok (.aload_n 0, 1) := by decide +kernel
theorem dX5_diet_13 : decode cX5_diet 13 = .ok (.getfield 33, 3) := by decide +kernel
theorem dX5_diet_16 : decode cX5_diet 16 = .ok (.getfield 151, 3) := by decide +kernel
theorem dX5_diet_19 : decode cX5_diet 19 = .ok (.invokestatic 58, 3) := by decide +kernel
theorem dX5_diet_22 : decode cX5_diet 22 = .ok (.aload_n 0, 1) := by decide +kernel
theorem dX5_diet_23 : decode cX5_diet 23 = .ok (.getfield 10, 3) := by decide +kernel
theorem dX5_diet_26 : decode cX5_diet 26 = .ok (.getfield 161, 3) := by decide +kernel
theorem dX5_diet_29 : decode cX5_diet 29 = .ok (.iload_n 1, 1) := by decide +kernel
theorem dX5_diet_30 : decode cX5_diet 30 = .ok (.iaload, 1) := by decide +kernel
theorem dX5_diet_31 : decode cX5_diet 31 = .ok (.istore 4, 2) := by decide +kernel
theorem dX5_diet_33 : decode cX5_diet 33 = .ok (.iconst 1, 1) := by decide +kernel
theorem dX5_diet_34 : decode cX5_diet 34 = .ok (.iload_n 2, 1) := by decide +kernel
theorem dX5_diet_35 : decode cX5_diet 35 = .ok (.ishl, 1) := by decide +kernel
theorem dX5_diet_36 : decode cX5_diet 36 = .ok (.istore 5, 2) := by decide +kernel
theorem dX5_diet_38 : decode cX5_diet 38 = .ok (.aload_n 0, 1) := by decide +kernel
theorem dX5_diet_39 : decode cX5_diet 39 = .ok (.getfield 10, 3) := by decide +kernel
theorem dX5_diet_42 : decode cX5_diet 42 = .ok (.getfield 161, 3) := by decide +kernel
theorem dX5_diet_45 : decode cX5_diet 45 = .ok (.iload_n 1, 1) := by decide +kernel
theorem dX5_diet_46 : decode cX5_diet 46 = .ok (.iload_n 3, 1) := by decide +kernel
theorem dX5_diet_47 : decode cX5_diet 47 = .ok (.ifCond .eq 13, 3) := by decide +kernel
theorem dX5_diet_50 : decode cX5_diet 50 = .ok (.iload 4, 2) := by decide +kernel
theorem dX5_diet_52 : decode cX5_diet 52 = .ok (.iload 5, 2) := by decide +kernel
theorem dX5_diet_54 : decode cX5_diet 54 = .ok (.iconst (-1), 1) := by decide +kernel
theorem dX5_diet_55 : decode cX5_diet 55 = .ok (.ixor, 1) := by decide +kernel
theorem dX5_diet_56 : decode cX5_diet 56 = .ok (.iand, 1) := by decide +kernel
theorem dX5_diet_57 : decode cX5_diet 57 = .ok (.goto 8, 3) := by decide +kernel
theorem dX5_diet_60 : decode cX5_diet 60 = .ok (.iload 4, 2) := by decide +kernel
theorem dX5_diet_62 : decode cX5_diet 62 = .ok (.iload 5, 2) := by decide +kernel
theorem dX5_diet_64 : decode cX5_diet 64 = .ok (.ior, 1) := by decide +kernel
theorem dX5_diet_65 : decode cX5_diet 65 = .ok (.iastore, 1) := by decide +kernel
theorem dX5_diet_66 : decode cX5_diet 66 = .ok (.iload 4, 2) := by decide +kernel
theorem dX5_diet_68 : decode cX5_diet 68 = .ok (.iload 5, 2) := by decide +kernel
theorem dX5_diet_70 : decode cX5_diet 70 = .ok (.iand, 1) := by decide +kernel
theorem dX5_diet_71 : decode cX5_diet 71 = .ok (.ifCond .ne 7, 3) := by decide +kernel
theorem dX5_diet_74 : decode cX5_diet 74 = .ok (.iconst 1, 1) := by decide +kernel
theorem dX5_diet_75 : decode cX5_diet 75 = .ok (.goto 4, 3) := by decide +kernel
theorem dX5_diet_78 : decode cX5_diet 78 = .ok (.iconst 0, 1) := by decide +kernel
theorem dX5_diet_79 : decode cX5_diet 79 = .ok (.ireturn, 1) := by decide +kernel
theorem dX5_addMeal_0 : decode cX5_addMeal 0 = .ok (.aload_n 0, 1) := by decide +kernel
theorem dX5_addMeal_1 : decode cX5_addMeal 1 = .ok (.getfield 33, 3) := by decide +kernel
theorem dX5_addMeal_4 : decode cX5_addMeal 4 = .ok (.getfield 164, 3) := by decide +kernel
theorem dX5_addMeal_7 : decode cX5_addMeal 7 = .ok (.bipush 10, 2) := by decide +kernel
theorem dX5_addMeal_9 : decode cX5_addMeal 9 = .ok (.if_icmp .lt 13, 3) := by decide +kernel
theorem dX5_addMeal_12 : decode cX5_addMeal 12 = .ok (.new 51, 3) := by decide +kernel
theorem dX5_addMeal_15 : decode cX5_addMeal 15 = .ok (.dup, 1) := by decide +kernel
theorem dX5_addMeal_16 : decode cX5_addMeal 16 = .ok (.ldc 167, 2) := by decide +kernel
theorem dX5_addMeal_18 : decode cX5_addMeal 18 = .ok (.invokespecial 55, 3) := by decide +kernel
theorem dX5_addMeal_21 : decode cX5_addMeal 21 = .ok (.athrow, 1) := by decide +kernel
theorem dX5_addMeal_22 : decode cX5_addMeal 22 = .ok (.aload_n 0, 1) := by decide +kernel
theorem dX5_addMeal_23 : decode cX5_addMeal 23 = .ok (.getfield 33, 3) := by decide +kernel
theorem dX5_addMeal_26 : decode cX5_addMeal 26 = .ok (.dup, 1) := by decide +kernel
theorem dX5_addMeal_27 : decode cX5_addMeal 27 = .ok (.getfield 164, 3) := by decide +kernel
theorem dX5_addMeal_30 : decode cX5_addMeal 30 = .ok (.iconst 1, 1) := by decide +kernel
theorem dX5_addMeal_31 : decode cX5_addMeal 31 = .ok (.iadd, 1) := by decide +kernel
theorem dX5_addMeal_32 : decode cX5_addMeal 32 = .ok (.putfield 164, 3) := by decide +kernel
theorem dX5_addMeal_35 : decode cX5_addMeal 35 = .ok (.aload_n 0, 1) := by decide +kernel
theorem dX5_addMeal_36 : decode cX5_addMeal 36 = .ok (.getfield 33, 3) := by decide +kernel
theorem dX5_addMeal_39 : decode cX5_addMeal 39 = .ok (.getfield 164, 3) := by decide +kernel
theorem dX5_addMeal_42 : decode cX5_addMeal 42 = .ok (.iconst 1, 1) := by decide +kernel
theorem dX5_addMeal_43 : decode cX5_addMeal 43 = .ok (.isub, 1) := by decide +kernel
theorem dX5_addMeal_44 : decode cX5_addMeal 44 = .ok (.ireturn, 1) := by decide +kernel
set_option maxRecDepth 20000 in
theorem ggX5_need_X5_checkNumber : GoodIn wsX5_need wsX5_checkNumber := goodIn_ca (goodIn_r _ [8, 9, 10] (by decide +kernel) (by decide +kernel)) (goodIn_sub (fun _ h => List.mem_cons_of_mem _ (List.mem_append_left _ (List.mem_append_right _ h))) (by decide +kernel))
set_option maxRecDepth 20000 in
theorem gX5_need_X5_checkNumber : GoodIn wsX5_need (va_wsS RX5 58 yX5_checkNumber wsX5_checkNumber) := goodIn_app (goodIn_of _ (by decide +kernel)) ggX5_need_X5_checkNumber
set_option maxRecDepth 20000 in
theorem ggX5_need_X5_checkArgument : GoodIn wsX5_need wsX5_checkArgument := goodIn_ca (goodIn_r _ [13, 14, 15] (by decide +kernel) (by decide +kernel)) (goodIn_sub (fun _ h => List.mem_cons_of_mem _ (List.mem_append_right _ h)) (by decide +kernel))
set_option maxRecDepth 20000 in
theorem gX5_need_X5_checkArgument : GoodIn wsX5_need (va_wsS RX5 62 yX5_checkArgument wsX5_checkArgument) := goodIn_app (goodIn_of _ (by decide +kernel)) ggX5_need_X5_checkArgument
set_option maxRecDepth 20000 in
theorem ggX5_need_X2_needOf : GoodIn wsX5_need wsX2_needOf := goodIn_r _ [20, 21, 28, 29, 30, 31, 32, 33] (by decide +kernel) (by decide +kernel)
set_option maxRecDepth 20000 in
theorem gX5_need_X2_needOf : GoodIn wsX5_need (wsV RX5 169 RX2 yX2_needOf wsX2_needOf) := goodIn_app (goodIn_of _ (by decide +kernel)) ggX5_need_X2_needOf
theorem dX5_need_0 : decode cX5_need 0 = .ok (.iload_n 1, 1) := by decide +kernel
theorem dX5_need_1 : decode cX5_need 1 = .ok (.aload_n 0, 1) := by decide +kernel
theorem dX5_need_2 : decode cX5_need 2 = .ok (.getfield 33, 3) := by decide +kernel
theorem dX5_need_5 : decode cX5_need 5 = .ok (.getfield 164, 3) := by decide +kernel
theorem dX5_need_8 : decode cX5_need 8 = .ok (.invokestatic 58, 3) := by decide +kernel
theorem dX5_need_11 : decode cX5_need 11 = .ok (.iload_n 2, 1) := by decide +kernel
theorem dX5_need_12 : decode cX5_need 12 = .ok (.aload_n 0, 1) := by decide +kernel
theorem dX5_need_13 : decode cX5_need 13 = .ok (.getfield 33, 3) := by decide +kernel
theorem dX5_need_16 : decode cX5_need 16 = .ok (.getfield 151, 3) := by decide +kernel
theorem dX5_need_19 : decode cX5_need 19 = .ok (.invokestatic 58, 3) := by decide +kernel
theorem dX5_need_22 : decode cX5_need 22 = .ok (.iload_n 3, 1) := by decide +kernel
theorem dX5_need_23 : decode cX5_need 23 = .ok (.iconst 0, 1) := by decide +kernel
theorem dX5_need_24 : decode cX5_need 24 = .ok (.bipush 50, 2) := by decide +kernel
theorem dX5_need_26 : decode cX5_need 26 = .ok (.invokestatic 62, 3) := by decide +kernel
theorem dX5_need_29 : decode cX5_need 29 = .ok (.aload_n 0, 1) := by decide +kernel
theorem dX5_need_30 : decode cX5_need 30 = .ok (.getfield 33, 3) := by decide +kernel
theorem dX5_need_33 : decode cX5_need 33 = .ok (.iload_n 1, 1) := by decide +kernel
theorem dX5_need_34 : decode cX5_need 34 = .ok (.iload_n 2, 1) := by decide +kernel
theorem dX5_need_35 : decode cX5_need 35 = .ok (.invokevirtual 169, 3) := by decide +kernel
theorem dX5_need_38 : decode cX5_need 38 = .ok (.istore 4, 2) := by decide +kernel
theorem dX5_need_40 : decode cX5_need 40 = .ok (.aload_n 0, 1) := by decide +kernel
theorem dX5_need_41 : decode cX5_need 41 = .ok (.getfield 33, 3) := by decide +kernel
theorem dX5_need_44 : decode cX5_need 44 = .ok (.getfield 172, 3) := by decide +kernel
theorem dX5_need_47 : decode cX5_need 47 = .ok (.iload_n 1, 1) := by decide +kernel
theorem dX5_need_48 : decode cX5_need 48 = .ok (.bipush 12, 2) := by decide +kernel
theorem dX5_need_50 : decode cX5_need 50 = .ok (.imul, 1) := by decide +kernel
theorem dX5_need_51 : decode cX5_need 51 = .ok (.iload_n 2, 1) := by decide +kernel
theorem dX5_need_52 : decode cX5_need 52 = .ok (.iadd, 1) := by decide +kernel
theorem dX5_need_53 : decode cX5_need 53 = .ok (.iload_n 3, 1) := by decide +kernel
theorem dX5_need_54 : decode cX5_need 54 = .ok (.iastore, 1) := by decide +kernel
theorem dX5_need_55 : decode cX5_need 55 = .ok (.iload 4, 2) := by decide +kernel
theorem dX5_need_57 : decode cX5_need 57 = .ok (.ireturn, 1) := by decide +kernel
set_option maxRecDepth 20000 in
theorem ggX5_eaters_X5_checkNumber : GoodIn wsX5_eaters wsX5_checkNumber := goodIn_ca (goodIn_r _ [7, 8, 9] (by decide +kernel) (by decide +kernel)) (goodIn_sub (fun _ h => List.mem_cons_of_mem _ (List.mem_append_right _ h)) (by decide +kernel))
set_option maxRecDepth 20000 in
theorem gX5_eaters_X5_checkNumber : GoodIn wsX5_eaters (va_wsS RX5 58 yX5_checkNumber wsX5_checkNumber) := goodIn_app (goodIn_of _ (by decide +kernel)) ggX5_eaters_X5_checkNumber
set_option maxRecDepth 20000 in
theorem ggX5_eaters_X2_eatersOf : GoodIn wsX5_eaters wsX2_eatersOf := goodIn_r _ [14, 15, 16, 17, 18, 19, 13, 20, 21, 22, 23, 24, 25, 26, 39, 40, 41, 42, 43, 44, 45, 46, 33, 34, 35, 36, 37, 38] (by decide +kernel) (by decide +kernel)
set_option maxRecDepth 20000 in
theorem gX5_eaters_X2_eatersOf : GoodIn wsX5_eaters (wsV RX5 175 RX2 yX2_eatersOf wsX2_eatersOf) := goodIn_app (goodIn_of _ (by decide +kernel)) ggX5_eaters_X2_eatersOf
theorem dX5_eaters_0 : decode cX5_eaters 0 = .ok (.iload_n 1, 1) := by decide +kernel
theorem dX5_eaters_1 : decode cX5_eaters 1 = .ok (.aload_n 0, 1) := by decide +kernel
theorem dX5_eaters_2 : decode cX5_eaters 2 = .ok (.getfield 33, 3) := by decide +kernel
theorem dX5_eaters_5 : decode cX5_eaters 5 = .ok (.getfield 164, 3) := by decide +kernel
theorem dX5_eaters_8 : decode cX5_eaters 8 = .ok (.invokestatic 58, 3) := by decide +kernel
theorem dX5_eaters_11 : decode cX5_eaters 11 = .ok (.aload_n 0, 1) := by decide +kernel
theorem dX5_eaters_12 : decode cX5_eaters 12 = .ok (.getfield 33, 3) := by decide +kernel
theorem dX5_eaters_15 : decode cX5_eaters 15 = .ok (.iload_n 1, 1) := by decide +kernel
theorem dX5_eaters_16 : decode cX5_eaters 16 = .ok (.aload_n 0, 1) := by decide +kernel
theorem dX5_eaters_17 : decode cX5_eaters 17 = .ok (.getfield 10, 3) := by decide +kernel
theorem dX5_eaters_20 : decode cX5_eaters 20 = .ok (.invokevirtual 175, 3) := by decide +kernel
theorem dX5_eaters_23 : decode cX5_eaters 23 = .ok (.lreturn, 1) := by decide +kernel
set_option maxRecDepth 20000 in
theorem ggX5_lacks_X5_checkNumber : GoodIn wsX5_lacks wsX5_checkNumber := goodIn_ca (goodIn_r _ [13, 14, 15] (by decide +kernel) (by decide +kernel)) (goodIn_sub (fun _ h => List.mem_cons_of_mem _ (List.mem_append_left _ (List.mem_append_right _ h))) (by decide +kernel))
set_option maxRecDepth 20000 in
theorem gX5_lacks_X5_checkNumber : GoodIn wsX5_lacks (va_wsS RX5 58 yX5_checkNumber wsX5_checkNumber) := goodIn_app (goodIn_of _ (by decide +kernel)) ggX5_lacks_X5_checkNumber
set_option maxRecDepth 20000 in
theorem ggX5_lacks_X5_checkArgument : GoodIn wsX5_lacks wsX5_checkArgument := goodIn_ca (goodIn_r _ [18, 19, 20] (by decide +kernel) (by decide +kernel)) (goodIn_sub (fun _ h => List.mem_cons_of_mem _ (List.mem_append_right _ h)) (by decide +kernel))
set_option maxRecDepth 20000 in
theorem gX5_lacks_X5_checkArgument : GoodIn wsX5_lacks (va_wsS RX5 62 yX5_checkArgument wsX5_checkArgument) := goodIn_app (goodIn_of _ (by decide +kernel)) ggX5_lacks_X5_checkArgument
set_option maxRecDepth 20000 in
theorem ggX5_lacks_X2_eatersOf : GoodIn wsX5_lacks wsX2_eatersOf := goodIn_r _ [25, 26, 27, 28, 29, 30, 24, 31, 32, 33, 34, 35, 36, 37, 58, 59, 60, 61, 62, 63, 64, 65, 52, 53, 54, 55, 56, 57] (by decide +kernel) (by decide +kernel)
set_option maxRecDepth 20000 in
theorem gX5_lacks_X2_eatersOf : GoodIn wsX5_lacks (wsV RX5 175 RX2 yX2_eatersOf wsX2_eatersOf) := goodIn_app (goodIn_of _ (by decide +kernel)) ggX5_lacks_X2_eatersOf
set_option maxRecDepth 20000 in
theorem ggX5_lacks_J13_bitCount_95d88 : GoodIn wsX5_lacks wsJ13_bitCount_95d88 := goodIn_r _ [41, 42, 43, 44] (by decide +kernel) (by decide +kernel)
set_option maxRecDepth 20000 in
theorem gX5_lacks_J13_bitCount_95d88 : GoodIn wsX5_lacks (va_wsS RX5 179 yJ13_bitCount_95d88 wsJ13_bitCount_95d88) := goodIn_app (goodIn_of _ (by decide +kernel)) ggX5_lacks_J13_bitCount_95d88
set_option maxRecDepth 20000 in
theorem ggX5_lacks_X2_needOf : GoodIn wsX5_lacks wsX2_needOf := goodIn_r _ [36, 37, 52, 53, 54, 55, 56, 57] (by decide +kernel) (by decide +kernel)
set_option maxRecDepth 20000 in
theorem gX5_lacks_X2_needOf : GoodIn wsX5_lacks (wsV RX5 169 RX2 yX2_needOf wsX2_needOf) := goodIn_app (goodIn_of _ (by decide +kernel)) ggX5_lacks_X2_needOf
theorem dX5_lacks_0 : decode cX5_lacks 0 = .ok (.iload_n 1, 1) := by decide +kernel
theorem dX5_lacks_1 : decode cX5_lacks 1 = .ok (.aload_n 0, 1) := by decide +kernel
theorem dX5_lacks_2 : decode cX5_lacks 2 = .ok (.getfield 33, 3) := by decide +kernel
theorem dX5_lacks_5 : decode cX5_lacks 5 = .ok (.getfield 164, 3) := by decide +kernel
theorem dX5_lacks_8 : decode cX5_lacks 8 = .ok (.invokestatic 58, 3) := by decide +kernel
theorem dX5_lacks_11 : decode cX5_lacks 11 = .ok (.iload_n 2, 1) := by decide +kernel
theorem dX5_lacks_12 : decode cX5_lacks 12 = .ok (.aload_n 0, 1) := by decide +kernel
theorem dX5_lacks_13 : decode cX5_lacks 13 = .ok (.getfield 33, 3) := by decide +kernel
theorem dX5_lacks_16 : decode cX5_lacks 16 = .ok (.getfield 151, 3) := by decide +kernel
theorem dX5_lacks_19 : decode cX5_lacks 19 = .ok (.invokestatic 58, 3) := by decide +kernel
theorem dX5_lacks_22 : decode cX5_lacks 22 = .ok (.iload_n 3, 1) := by decide +kernel
theorem dX5_lacks_23 : decode cX5_lacks 23 = .ok (.iconst 1, 1) := by decide +kernel
theorem dX5_lacks_24 : decode cX5_lacks 24 = .ok (.bipush 100, 2) := by decide +kernel
theorem dX5_lacks_26 : decode cX5_lacks 26 = .ok (.invokestatic 62, 3) := by decide +kernel
theorem dX5_lacks_29 : decode cX5_lacks 29 = .ok (.aload_n 0, 1) := by decide +kernel
theorem dX5_lacks_30 : decode cX5_lacks 30 = .ok (.getfield 33, 3) := by decide +kernel
theorem dX5_lacks_33 : decode cX5_lacks 33 = .ok (.iload_n 1, 1) := by decide +kernel
theorem dX5_lacks_34 : decode cX5_lacks 34 = .ok (.aload_n 0, 1) := by decide +kernel
theorem dX5_lacks_35 : decode cX5_lacks 35 = .ok (.getfield 10, 3) := by decide +kernel
theorem dX5_lacks_38 : decode cX5_lacks 38 = .ok (.invokevirtual 175, 3) := by decide +kernel
theorem dX5_lacks_41 : decode cX5_lacks 41 = .ok (.invokestatic 179, 3) := by decide +kernel
theorem dX5_lacks_44 : decode cX5_lacks 44 = .ok (.iload_n 3, 1) := by decide +kernel
theorem dX5_lacks_45 : decode cX5_lacks 45 = .ok (.imul, 1) := by decide +kernel
theorem dX5_lacks_46 : decode cX5_lacks 46 = .ok (.istore 4, 2) := by decide +kernel
theorem dX5_lacks_48 : decode cX5_lacks 48 = .ok (.iconst 0, 1) := by decide +kernel
theorem dX5_lacks_49 : decode cX5_lacks 49 = .ok (.aload_n 0, 1) := by decide +kernel
theorem dX5_lacks_50 : decode cX5_lacks 50 = .ok (.getfield 33, 3) := by decide +kernel
theorem dX5_lacks_53 : decode cX5_lacks 53 = .ok (.iload_n 1, 1) := by decide +kernel
theorem dX5_lacks_54 : decode cX5_lacks 54 = .ok (.iload_n 2, 1) := by decide +kernel
theorem dX5_lacks_55 : decode cX5_lacks 55 = .ok (.invokevirtual 169, 3) := by decide +kernel
theorem dX5_lacks_58 : decode cX5_lacks 58 = .ok (.iload 4, 2) := by decide +kernel
theorem dX5_lacks_60 : decode cX5_lacks 60 = .ok (.imul, 1) := by decide +kernel
theorem dX5_lacks_61 : decode cX5_lacks 61 = .ok (.aload_n 0, 1) := by decide +kernel
theorem dX5_lacks_62 : decode cX5_lacks 62 = .ok (.getfield 33, 3) := by decide +kernel
theorem dX5_lacks_65 : decode cX5_lacks 65 = .ok (.getfield 156, 3) := by decide +kernel
theorem dX5_lacks_68 : decode cX5_lacks 68 = .ok (.iload_n 2, 1) := by decide +kernel
theorem dX5_lacks_69 : decode cX5_lacks 69 = .ok (.iaload, 1) := by decide +kernel
theorem dX5_lacks_70 : decode cX5_lacks 70 = .ok (.isub, 1) := by decide +kernel
theorem dX5_lacks_71 : decode cX5_lacks 71 = .ok (.invokestatic 185, 3) := by decide +kernel
theorem dX5_lacks_74 : decode cX5_lacks 74 = .ok (.ireturn, 1) := by decide +kernel
set_option maxRecDepth 20000 in
theorem ggX5_eat_X5_checkNumber : GoodIn wsX5_eat wsX5_checkNumber := goodIn_ca (goodIn_r _ [9, 10, 11] (by decide +kernel) (by decide +kernel)) (goodIn_sub (fun _ h => List.mem_cons_of_mem _ (List.mem_append_right _ h)) (by decide +kernel))
set_option maxRecDepth 20000 in
theorem gX5_eat_X5_checkNumber : GoodIn wsX5_eat (va_wsS RX5 58 yX5_checkNumber wsX5_checkNumber) := goodIn_app (goodIn_of _ (by decide +kernel)) ggX5_eat_X5_checkNumber
set_option maxRecDepth 20000 in
theorem ggX5_eat_X2_canBeEaten : GoodIn wsX5_eat wsX2_canBeEaten := goodIn_r _ [16, 17, 18, 19, 20, 15, 21, 22, 23, 24, 25, 26, 27, 28, 29, 30, 31, 32, 33, 34, 35, 36, 37, 38, 39, 40, 41, 42, 43, 44, 45, 57, 58, 59, 60, 61, 62, 63, 64, 65, 66, 67, 68, 69, 70] (by decide +kernel) (by decide +kernel)
set_option maxRecDepth 20000 in
theorem gX5_eat_X2_canBeEaten : GoodIn wsX5_eat (wsV RX5 190 RX2 yX2_canBeEaten wsX2_canBeEaten) := goodIn_app (goodIn_of _ (by decide +kernel)) ggX5_eat_X2_canBeEaten
set_option maxRecDepth 20000 in
theorem ggX5_eat_X2_serve : GoodIn wsX5_eat wsX2_serve := goodIn_r _ [49, 28, 45, 50, 17, 18, 19, 20, 15, 21, 22, 23, 24, 25, 26, 27, 29, 30, 31, 32, 33, 34, 35, 36, 37, 38, 39, 40, 57, 58, 59, 60, 61, 62, 63, 64, 65, 66, 67, 68, 69, 70] (by decide +kernel) (by decide +kernel)
set_option maxRecDepth 20000 in
theorem gX5_eat_X2_serve : GoodIn wsX5_eat (wsV RX5 196 RX2 yX2_serve wsX2_serve) := goodIn_app (goodIn_of _ (by decide +kernel)) ggX5_eat_X2_serve
theorem dX5_eat_0 : decode cX5_eat 0 = .ok (.iload_n 1, 1) := by decide +kernel
theorem dX5_eat_1 : decode cX5_eat 1 = .ok (.aload_n 0, 1) := by decide +kernel
theorem dX5_eat_2 : decode cX5_eat 2 = .ok (.getfield 33, 3) := by decide +kernel
theorem dX5_eat_5 : decode cX5_eat 5 = .ok (.getfield 164, 3) := by decide +kernel
theorem dX5_eat_8 : decode cX5_eat 8 = .ok (.invokestatic 58, 3) := by decide +kernel
theorem dX5_eat_11 : decode cX5_eat 11 = .ok (.aload_n 0, 1) := by decide +kernel
theorem dX5_eat_12 : decode cX5_eat 12 = .ok (.getfield 33, 3) := by decide +kernel
theorem dX5_eat_15 : decode cX5_eat 15 = .ok (.iload_n 1, 1) := by decide +kernel
theorem dX5_eat_16 : decode cX5_eat 16 = .ok (.aload_n 0, 1) := by decide +kernel
theorem dX5_eat_17 : decode cX5_eat 17 = .ok (.getfield 10, 3) := by decide +kernel
theorem dX5_eat_20 : decode cX5_eat 20 = .ok (.invokevirtual 190, 3) := by decide +kernel
theorem dX5_eat_23 : decode cX5_eat 23 = .ok (.ifCond .ne 13, 3) := by decide +kernel
theorem dX5_eat_26 : decode cX5_eat 26 = .ok (.new 51, 3) := by decide +kernel
theorem dX5_eat_29 : decode cX5_eat 29 = .ok (.dup, 1) := by decide +kernel
theorem dX5_eat_30 : decode cX5_eat 30 = .ok (.ldc 194, 2) := by decide +kernel
theorem dX5_eat_32 : decode cX5_eat 32 = .ok (.invokespecial 55, 3) := by decide +kernel
theorem dX5_eat_35 : decode cX5_eat 35 = .ok (.athrow, 1) := by decide +kernel
theorem dX5_eat_36 : decode cX5_eat 36 = .ok (.aload_n 0, 1) := by decide +kernel
theorem dX5_eat_37 : decode cX5_eat 37 = .ok (.getfield 33, 3) := by decide +kernel
theorem dX5_eat_40 : decode cX5_eat 40 = .ok (.iload_n 1, 1) := by decide +kernel
theorem dX5_eat_41 : decode cX5_eat 41 = .ok (.aload_n 0, 1) := by decide +kernel
theorem dX5_eat_42 : decode cX5_eat 42 = .ok (.getfield 10, 3) := by decide +kernel
theorem dX5_eat_45 : decode cX5_eat 45 = .ok (.invokevirtual 196, 3) := by decide +kernel
theorem dX5_eat_48 : decode cX5_eat 48 = .ok (.ireturn, 1) := by decide +kernel
set_option maxRecDepth 20000 in
theorem ggX5_table_X5_checkNumber : GoodIn wsX5_table wsX5_checkNumber := goodIn_ca (goodIn_r _ [7, 8, 9] (by decide +kernel) (by decide +kernel)) (goodIn_sub (fun _ h => List.mem_cons_of_mem _ (List.mem_append_right _ h)) (by decide +kernel))
set_option maxRecDepth 20000 in
theorem gX5_table_X5_checkNumber : GoodIn wsX5_table (va_wsS RX5 58 yX5_checkNumber wsX5_checkNumber) := goodIn_app (goodIn_of _ (by decide +kernel)) ggX5_table_X5_checkNumber
set_option maxRecDepth 20000 in
theorem ggX5_table_X5_hungryScouts : GoodIn wsX5_table wsX5_hungryScouts := goodIn_r _ [13, 3, 14, 1, 15, 16, 17, 18, 19, 20, 21, 22, 58, 59, 60, 61, 62, 63, 70, 71, 72, 73, 74, 75, 76, 77, 64, 65, 66, 67, 68, 69] (by decide +kernel) (by decide +kernel)
set_option maxRecDepth 20000 in
theorem gX5_table_X5_hungryScouts : GoodIn wsX5_table (wsV RX5 199 RX5 yX5_hungryScouts wsX5_hungryScouts) := goodIn_app (goodIn_of _ (by decide +kernel)) ggX5_table_X5_hungryScouts
set_option maxRecDepth 20000 in
theorem ggX5_table_X2_bestMeal : GoodIn wsX5_table wsX2_bestMeal := goodIn_r _ [27, 28, 29, 30, 31, 32, 33, 26, 34, 35, 36, 37, 38, 39, 40, 41, 42, 43, 44, 45, 46, 47, 17, 18, 19, 20, 21, 22, 48, 49, 50, 51, 52, 53, 54, 55, 56, 57, 64, 65, 66, 67, 68, 69, 70, 71, 72, 73, 74, 75, 76, 77] (by decide +kernel) (by decide +kernel)
set_option maxRecDepth 20000 in
theorem gX5_table_X2_bestMeal : GoodIn wsX5_table (wsV RX5 205 RX2 yX2_bestMeal wsX2_bestMeal) := goodIn_app (goodIn_of _ (by decide +kernel)) ggX5_table_X2_bestMeal
theorem dX5_table_0 : decode cX5_table 0 = .ok (.iload_n 1, 1) := by decide +kernel
theorem dX5_table_1 : decode cX5_table 1 = .ok (.iconst 3, 1) := by decide +kernel
theorem dX5_table_2 : decode cX5_table 2 = .ok (.invokestatic 58, 3) := by decide +kernel
theorem dX5_table_5 : decode cX5_table 5 = .ok (.iload_n 1, 1) := by decide +kernel
theorem dX5_table_6 : decode cX5_table 6 = .ok (.lookupswitch 39 #[(0, 26), (1, 31)], 26) := by decide +kernel
theorem dX5_table_32 : decode cX5_table 32 = .ok (.aload_n 0, 1) := by decide +kernel
theorem dX5_table_33 : decode cX5_table 33 = .ok (.invokevirtual 199, 3) := by decide +kernel
theorem dX5_table_36 : decode cX5_table 36 = .ok (.ireturn, 1) := by decide +kernel
theorem dX5_table_37 : decode cX5_table 37 = .ok (.aload_n 0, 1) := by decide +kernel
theorem dX5_table_38 : decode cX5_table 38 = .ok (.getfield 33, 3) := by decide +kernel
theorem dX5_table_41 : decode cX5_table 41 = .ok (.getfield 202, 3) := by decide +kernel
theorem dX5_table_44 : decode cX5_table 44 = .ok (.ireturn, 1) := by decide +kernel
theorem dX5_table_45 : decode cX5_table 45 = .ok (.aload_n 0, 1) := by decide +kernel
theorem dX5_table_46 : decode cX5_table 46 = .ok (.getfield 33, 3) := by decide +kernel
theorem dX5_table_49 : decode cX5_table 49 = .ok (.aload_n 0, 1) := by decide +kernel
theorem dX5_table_50 : decode cX5_table 50 = .ok (.getfield 10, 3) := by decide +kernel
theorem dX5_table_53 : decode cX5_table 53 = .ok (.invokevirtual 205, 3) := by decide +kernel
theorem dX5_table_56 : decode cX5_table 56 = .ok (.ireturn, 1) := by decide +kernel
set_option maxRecDepth 20000 in
theorem ggX5_addBadge_X5_checkArgument : GoodIn wsX5_addBadge wsX5_checkArgument := goodIn_ca (goodIn_r _ [9, 10, 11] (by decide +kernel) (by decide +kernel)) (goodIn_sub (fun _ h => List.mem_cons_of_mem _ (List.mem_append_right _ h)) (by decide +kernel))
set_option maxRecDepth 20000 in
theorem gX5_addBadge_X5_checkArgument : GoodIn wsX5_addBadge (va_wsS RX5 62 yX5_checkArgument wsX5_checkArgument) := goodIn_app (goodIn_of _ (by decide +kernel)) ggX5_addBadge_X5_checkArgument
theorem dX5_addBadge_0 : decode cX5_addBadge 0 = .ok (.iload_n 1, 1) := by decide +kernel
theorem dX5_addBadge_1 : decode cX5_addBadge 1 = .ok (.bipush 6, 2) := by decide +kernel
theorem dX5_addBadge_3 : decode cX5_addBadge 3 = .ok (.bipush 17, 2) := by decide +kernel
theorem dX5_addBadge_5 : decode cX5_addBadge 5 = .ok (.invokestatic 62, 3) := by decide +kernel
theorem dX5_addBadge_8 : decode cX5_addBadge 8 = .ok (.aload_n 0, 1) := by decide +kernel
theorem dX5_addBadge_9 : decode cX5_addBadge 9 = .ok (.getfield 40, 3) := by decide +kernel
theorem dX5_addBadge_12 : decode cX5_addBadge 12 = .ok (.getfield 209, 3) := by decide +kernel
theorem dX5_addBadge_15 : decode cX5_addBadge 15 = .ok (.bipush 8, 2) := by decide +kernel
theorem dX5_addBadge_17 : decode cX5_addBadge 17 = .ok (.if_icmp .lt 13, 3) := by decide +kernel
theorem dX5_addBadge_20 : decode cX5_addBadge 20 = .ok (.new 51, 3) := by decide +kernel
theorem dX5_addBadge_23 : decode cX5_addBadge 23 = .ok (.dup, 1) := by decide +kernel
theorem dX5_addBadge_24 : decode cX5_addBadge 24 = .ok (.ldc 210, 2) := by decide +kernel
theorem dX5_addBadge_26 : decode cX5_addBadge 26 = .ok (.invokespecial 55, 3) := by decide +kernel
theorem dX5_addBadge_29 : decode cX5_addBadge 29 = .ok (.athrow, 1) := by decide +kernel
theorem dX5_addBadge_30 : decode cX5_addBadge 30 = .ok (.aload_n 0, 1) := by decide +kernel
theorem dX5_addBadge_31 : decode cX5_addBadge 31 = .ok (.getfield 40, 3) := by decide +kernel
theorem dX5_addBadge_34 : decode cX5_addBadge 34 = .ok (.getfield 212, 3) := by decide +kernel
theorem dX5_addBadge_37 : decode cX5_addBadge 37 = .ok (.aload_n 0, 1) := by decide +kernel
theorem dX5_addBadge_38 : decode cX5_addBadge 38 = .ok (.getfield 40, 3) := by decide +kernel
theorem dX5_addBadge_41 : decode cX5_addBadge 41 = .ok (.getfield 209, 3) := by decide +kernel
theorem dX5_addBadge_44 : decode cX5_addBadge 44 = .ok (.iload_n 1, 1) := by decide +kernel
theorem dX5_addBadge_45 : decode cX5_addBadge 45 = .ok (.iastore, 1) := by decide +kernel
theorem dX5_addBadge_46 : decode cX5_addBadge 46 = .ok (.aload_n 0, 1) := by decide +kernel
theorem dX5_addBadge_47 : decode cX5_addBadge 47 = .ok (.getfield 40, 3) := by decide +kernel
theorem dX5_addBadge_50 : decode cX5_addBadge 50 = .ok (.dup, 1) := by decide +kernel
theorem dX5_addBadge_51 : decode cX5_addBadge 51 = .ok (.getfield 209, 3) := by decide +kernel
theorem dX5_addBadge_54 : decode cX5_addBadge 54 = .ok (.iconst 1, 1) := by decide +kernel
theorem dX5_addBadge_55 : decode cX5_addBadge 55 = .ok (.iadd, 1) := by decide +kernel
theorem dX5_addBadge_56 : decode cX5_addBadge 56 = .ok (.putfield 209, 3) := by decide +kernel
theorem dX5_addBadge_59 : decode cX5_addBadge 59 = .ok (.aload_n 0, 1) := by decide +kernel
theorem dX5_addBadge_60 : decode cX5_addBadge 60 = .ok (.getfield 40, 3) := by decide +kernel
theorem dX5_addBadge_63 : decode cX5_addBadge 63 = .ok (.getfield 209, 3) := by decide +kernel
theorem dX5_addBadge_66 : decode cX5_addBadge 66 = .ok (.iconst 1, 1) := by decide +kernel
theorem dX5_addBadge_67 : decode cX5_addBadge 67 = .ok (.isub, 1) := by decide +kernel
theorem dX5_addBadge_68 : decode cX5_addBadge 68 = .ok (.ireturn, 1) := by decide +kernel
set_option maxRecDepth 20000 in
theorem ggX5_want_X5_checkNumber : GoodIn wsX5_want wsX5_checkNumber := goodIn_ca (goodIn_r _ [7, 8, 9] (by decide +kernel) (by decide +kernel)) (goodIn_sub (fun _ h => List.mem_cons_of_mem _ (List.mem_append_left _ (List.mem_append_right _ h))) (by decide +kernel))
set_option maxRecDepth 20000 in
theorem gX5_want_X5_checkNumber : GoodIn wsX5_want (va_wsS RX5 58 yX5_checkNumber wsX5_checkNumber) := goodIn_app (goodIn_of _ (by decide +kernel)) ggX5_want_X5_checkNumber
set_option maxRecDepth 20000 in
theorem ggX5_want_X5_checkArgument : GoodIn wsX5_want wsX5_checkArgument := goodIn_ca (goodIn_r _ [12, 13, 14] (by decide +kernel) (by decide +kernel)) (goodIn_sub (fun _ h => List.mem_cons_of_mem _ (List.mem_append_right _ h)) (by decide +kernel))
set_option maxRecDepth 20000 in
theorem gX5_want_X5_checkArgument : GoodIn wsX5_want (va_wsS RX5 62 yX5_checkArgument wsX5_checkArgument) := goodIn_app (goodIn_of _ (by decide +kernel)) ggX5_want_X5_checkArgument
theorem dX5_want_0 : decode cX5_want 0 = .ok (.iload_n 1, 1) := by decide +kernel
theorem dX5_want_1 : decode cX5_want 1 = .ok (.aload_n 0, 1) := by decide +kernel
theorem dX5_want_2 : decode cX5_want 2 = .ok (.getfield 40, 3) := by decide +kernel
theorem dX5_want_5 : decode cX5_want 5 = .ok (.getfield 209, 3) := by decide +kernel
theorem dX5_want_8 : decode cX5_want 8 = .ok (.invokestatic 58, 3) := by decide +kernel
theorem dX5_want_11 : decode cX5_want 11 = .ok (.iload_n 2, 1) := by decide +kernel
theorem dX5_want_12 : decode cX5_want 12 = .ok (.bipush 10, 2) := by decide +kernel
theorem dX5_want_14 : decode cX5_want 14 = .ok (.invokestatic 58, 3) := by decide +kernel
theorem dX5_want_17 : decode cX5_want 17 = .ok (.iload_n 3, 1) := by decide +kernel
theorem dX5_want_18 : decode cX5_want 18 = .ok (.iconst 0, 1) := by decide +kernel
theorem dX5_want_19 : decode cX5_want 19 = .ok (.bipush 100, 2) := by decide +kernel
theorem dX5_want_21 : decode cX5_want 21 = .ok (.invokestatic 62, 3) := by decide +kernel
theorem dX5_want_24 : decode cX5_want 24 = .ok (.iload_n 1, 1) := by decide +kernel
