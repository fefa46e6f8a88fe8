theorem dX4_rankOf_11 : decode cX4_rankOf 11 = .ok (.bipush 9, 2) := by decide +kernel
theorem dX4_rankOf_13 : decode cX4_rankOf 13 = .ok (.imul, 1) := by decide +kernel
theorem dX4_rankOf_14 : decode cX4_rankOf 14 = .ok (.aload_n 0, 1) := by decide +kernel
theorem dX4_rankOf_15 : decode cX4_rankOf 15 = .ok (.getfield 15, 3) := by decide +kernel
theorem dX4_rankOf_18 : decode cX4_rankOf 18 = .ok (.iload_n 1, 1) := by decide +kernel
theorem dX4_rankOf_19 : decode cX4_rankOf 19 = .ok (.laload, 1) := by decide +kernel
theorem dX4_rankOf_20 : decode cX4_rankOf 20 = .ok (.invokestatic 25, 3) := by decide +kernel
theorem dX4_rankOf_23 : decode cX4_rankOf 23 = .ok (.iadd, 1) := by decide +kernel
theorem dX4_rankOf_24 : decode cX4_rankOf 24 = .ok (.ireturn, 1) := by decide +kernel
set_option maxRecDepth 20000 in
theorem ggX5_init_X3_init : GoodIn wsX5_init wsX3_init := goodIn_r _ [26, 27, 2, 3, 28, 29, 30, 31, 32, 33, 34, 61, 62, 63, 64, 65, 66, 67, 68] (by decide +kernel) (by decide +kernel)
set_option maxRecDepth 20000 in
theorem gX5_init_X3_init_n9 : GoodIn wsX5_init (wsX3_init) := ggX5_init_X3_init
set_option maxRecDepth 20000 in
theorem ggX5_init_X4_init : GoodIn wsX5_init wsX4_init := goodIn_r _ [36, 37, 2, 3, 28, 38, 39, 40, 75, 76, 77] (by decide +kernel) (by decide +kernel)
set_option maxRecDepth 20000 in
theorem gX5_init_X4_init_n18 : GoodIn wsX5_init (wsX4_init) := ggX5_init_X4_init
set_option maxRecDepth 20000 in
theorem ggX5_init_X1_init : GoodIn wsX5_init wsX1_init := goodIn_r _ [43, 44, 2, 3, 28, 45, 46, 47, 48, 49, 50, 78, 79] (by decide +kernel) (by decide +kernel)
set_option maxRecDepth 20000 in
theorem gX5_init_X1_init : GoodIn wsX5_init (wsX1_init) := ggX5_init_X1_init
set_option maxRecDepth 20000 in
theorem ggX5_init_X2_init : GoodIn wsX5_init wsX2_init := goodIn_r _ [52, 53, 2, 3, 28, 54, 55, 80, 81, 82, 83, 84, 85] (by decide +kernel) (by decide +kernel)
set_option maxRecDepth 20000 in
theorem gX5_init_X2_init_n32 : GoodIn wsX5_init (wsX2_init) := ggX5_init_X2_init
set_option maxRecDepth 20000 in
theorem ggX5_init_X0_init : GoodIn wsX5_init wsX0_init := goodIn_r _ [57, 58, 2, 3, 28, 59, 60, 86, 87, 88] (by decide +kernel) (by decide +kernel)
set_option maxRecDepth 20000 in
theorem gX5_init_X0_init_n39 : GoodIn wsX5_init (wsX0_init) := ggX5_init_X0_init
theorem dX5_init_0 : decode cX5_init 0 = .ok (.aload_n 0, 1) := by decide +kernel
theorem dX5_init_1 : decode cX5_init 1 = .ok (.invokespecial 1, 3) := by decide +kernel
theorem dX5_init_4 : decode cX5_init 4 = .ok (.aload_n 0, 1) := by decide +kernel
theorem dX5_init_5 : decode cX5_init 5 = .ok (.new 7, 3) := by decide +kernel
theorem dX5_init_8 : decode cX5_init 8 = .ok (.dup, 1) := by decide +kernel
theorem dX5_init_9 : decode cX5_init 9 = .ok (.invokespecial 9, 3) := by decide +kernel
theorem dX5_init_12 : decode cX5_init 12 = .ok (.putfield 10, 3) := by decide +kernel
theorem dX5_init_15 : decode cX5_init 15 = .ok (.aload_n 0, 1) := by decide +kernel
theorem dX5_init_16 : decode cX5_init 16 = .ok (.new 16, 3) := by decide +kernel
theorem dX5_init_19 : decode cX5_init 19 = .ok (.dup, 1) := by decide +kernel
theorem dX5_init_20 : decode cX5_init 20 = .ok (.invokespecial 18, 3) := by decide +kernel
theorem dX5_init_23 : decode cX5_init 23 = .ok (.putfield 19, 3) := by decide +kernel
theorem dX5_init_26 : decode cX5_init 26 = .ok (.aload_n 0, 1) := by decide +kernel
theorem dX5_init_27 : decode cX5_init 27 = .ok (.new 23, 3) := by decide +kernel
theorem dX5_init_30 : decode cX5_init 30 = .ok (.dup, 1) := by decide +kernel
theorem dX5_init_31 : decode cX5_init 31 = .ok (.invokespecial 25, 3) := by decide +kernel
theorem dX5_init_34 : decode cX5_init 34 = .ok (.putfield 26, 3) := by decide +kernel
theorem dX5_init_37 : decode cX5_init 37 = .ok (.aload_n 0, 1) := by decide +kernel
theorem dX5_init_38 : decode cX5_init 38 = .ok (.new 30, 3) := by decide +kernel
theorem dX5_init_41 : decode cX5_init 41 = .ok (.dup, 1) := by decide +kernel
theorem dX5_init_42 : decode cX5_init 42 = .ok (.invokespecial 32, 3) := by decide +kernel
theorem dX5_init_45 : decode cX5_init 45 = .ok (.putfield 33, 3) := by decide +kernel
theorem dX5_init_48 : decode cX5_init 48 = .ok (.aload_n 0, 1) := by decide +kernel
theorem dX5_init_49 : decode cX5_init 49 = .ok (.new 37, 3) := by decide +kernel
theorem dX5_init_52 : decode cX5_init 52 = .ok (.dup, 1) := by decide +kernel
theorem dX5_init_53 : decode cX5_init 53 = .ok (.invokespecial 39, 3) := by decide +kernel
theorem dX5_init_56 : decode cX5_init 56 = .ok (.putfield 40, 3) := by decide +kernel
theorem dX5_init_59 : decode cX5_init 59 = .ok (.aload_n 0, 1) := by decide +kernel
theorem dX5_init_60 : decode cX5_init 60 = .ok (.iconst 0, 1) := by decide +kernel
theorem dX5_init_61 : decode cX5_init 61 = .ok (.putfield 44, 3) := by decide +kernel
theorem dX5_init_64 : decode cX5_init 64 = .ok (.return_, 1) := by decide +kernel
theorem dX5_addPatrol_0 : decode cX5_addPatrol 0 = .ok (.aload_n 0, 1) := by decide +kernel
theorem dX5_addPatrol_1 : decode cX5_addPatrol 1 = .ok (.getfield 10, 3) := by decide +kernel
theorem dX5_addPatrol_4 : decode cX5_addPatrol 4 = .ok (.getfield 48, 3) := by decide +kernel
theorem dX5_addPatrol_7 : decode cX5_addPatrol 7 = .ok (.bipush 6, 2) := by decide +kernel
theorem dX5_addPatrol_9 : decode cX5_addPatrol 9 = .ok (.if_icmp .lt 13, 3) := by decide +kernel
theorem dX5_addPatrol_12 : decode cX5_addPatrol 12 = .ok (.new 51, 3) := by decide +kernel
theorem dX5_addPatrol_15 : decode cX5_addPatrol 15 = .ok (.dup, 1) := by decide +kernel
theorem dX5_addPatrol_16 : decode cX5_addPatrol 16 = .ok (.ldc 53, 2) := by decide +kernel
theorem dX5_addPatrol_18 : decode cX5_addPatrol 18 = .ok (.invokespecial 55, 3) := by decide +kernel
theorem dX5_addPatrol_21 : decode cX5_addPatrol 21 = .ok (.athrow, 1) := by decide +kernel
theorem dX5_addPatrol_22 : decode cX5_addPatrol 22 = .ok (.aload_n 0, 1) := by decide +kernel
theorem dX5_addPatrol_23 : decode cX5_addPatrol 23 = .ok (.getfield 10, 3) := by decide +kernel
theorem dX5_addPatrol_26 : decode cX5_addPatrol 26 = .ok (.dup, 1) := by decide +kernel
theorem dX5_addPatrol_27 : decode cX5_addPatrol 27 = .ok (.getfield 48, 3) := by decide +kernel
theorem dX5_addPatrol_30 : decode cX5_addPatrol 30 = .ok (.iconst 1, 1) := by decide +kernel
theorem dX5_addPatrol_31 : decode cX5_addPatrol 31 = .ok (.iadd, 1) := by decide +kernel
theorem dX5_addPatrol_32 : decode cX5_addPatrol 32 = .ok (.putfield 48, 3) := by decide +kernel
theorem dX5_addPatrol_35 : decode cX5_addPatrol 35 = .ok (.aload_n 0, 1) := by decide +kernel
theorem dX5_addPatrol_36 : decode cX5_addPatrol 36 = .ok (.getfield 10, 3) := by decide +kernel
theorem dX5_addPatrol_39 : decode cX5_addPatrol 39 = .ok (.getfield 48, 3) := by decide +kernel
theorem dX5_addPatrol_42 : decode cX5_addPatrol 42 = .ok (.iconst 1, 1) := by decide +kernel
theorem dX5_addPatrol_43 : decode cX5_addPatrol 43 = .ok (.isub, 1) := by decide +kernel
theorem dX5_addPatrol_44 : decode cX5_addPatrol 44 = .ok (.ireturn, 1) := by decide +kernel
set_option maxRecDepth 20000 in
theorem ggX5_addScout_X5_checkNumber : GoodIn wsX5_addScout wsX5_checkNumber := goodIn_ca (goodIn_r _ [9, 10, 11] (by decide +kernel) (by decide +kernel)) (goodIn_sub (fun _ h => List.mem_cons_of_mem _ (List.mem_append_left _ (List.mem_append_right _ h))) (by decide +kernel))
set_option maxRecDepth 20000 in
theorem gX5_addScout_X5_checkNumber : GoodIn wsX5_addScout (va_wsS RX5 58 yX5_checkNumber wsX5_checkNumber) := goodIn_app (goodIn_of _ (by decide +kernel)) ggX5_addScout_X5_checkNumber
set_option maxRecDepth 20000 in
theorem ggX5_addScout_X5_checkArgument : GoodIn wsX5_addScout wsX5_checkArgument := goodIn_ca (goodIn_r _ [14, 15, 16] (by decide +kernel) (by decide +kernel)) (goodIn_sub (fun _ h => List.mem_cons_of_mem _ (List.mem_append_right _ h)) (by decide +kernel))
set_option maxRecDepth 20000 in
theorem gX5_addScout_X5_checkArgument : GoodIn wsX5_addScout (va_wsS RX5 62 yX5_checkArgument wsX5_checkArgument) := goodIn_app (goodIn_of _ (by decide +kernel)) ggX5_addScout_X5_checkArgument
set_option maxRecDepth 20000 in
theorem ggX5_addScout_X3_enrol : GoodIn wsX5_addScout wsX3_enrol := goodIn_r _ [21, 22, 23, 24, 25, 32, 33, 34, 35, 36, 37, 38, 39] (by decide +kernel) (by decide +kernel)
set_option maxRecDepth 20000 in
theorem gX5_addScout_X3_enrol : GoodIn wsX5_addScout (wsV RX5 71 RX3 yX3_enrol wsX3_enrol) := goodIn_app (goodIn_of _ (by decide +kernel)) ggX5_addScout_X3_enrol
theorem dX5_addScout_0 : decode cX5_addScout 0 = .ok (.iload_n 1, 1) := by decide +kernel
theorem dX5_addScout_1 : decode cX5_addScout 1 = .ok (.aload_n 0, 1) := by decide +kernel
theorem dX5_addScout_2 : decode cX5_addScout 2 = .ok (.getfield 10, 3) := by decide +kernel
theorem dX5_addScout_5 : decode cX5_addScout 5 = .ok (.getfield 48, 3) := by decide +kernel
theorem dX5_addScout_8 : decode cX5_addScout 8 = .ok (.invokestatic 58, 3) := by decide +kernel
theorem dX5_addScout_11 : decode cX5_addScout 11 = .ok (.iload_n 2, 1) := by decide +kernel
theorem dX5_addScout_12 : decode cX5_addScout 12 = .ok (.bipush 6, 2) := by decide +kernel
theorem dX5_addScout_14 : decode cX5_addScout 14 = .ok (.bipush 17, 2) := by decide +kernel
theorem dX5_addScout_16 : decode cX5_addScout 16 = .ok (.invokestatic 62, 3) := by decide +kernel
theorem dX5_addScout_19 : decode cX5_addScout 19 = .ok (.iload_n 3, 1) := by decide +kernel
theorem dX5_addScout_20 : decode cX5_addScout 20 = .ok (.iconst 0, 1) := by decide +kernel
theorem dX5_addScout_21 : decode cX5_addScout 21 = .ok (.sipush 255, 3) := by decide +kernel
theorem dX5_addScout_24 : decode cX5_addScout 24 = .ok (.invokestatic 62, 3) := by decide +kernel
theorem dX5_addScout_27 : decode cX5_addScout 27 = .ok (.aload_n 0, 1) := by decide +kernel
theorem dX5_addScout_28 : decode cX5_addScout 28 = .ok (.getfield 10, 3) := by decide +kernel
theorem dX5_addScout_31 : decode cX5_addScout 31 = .ok (.getfield 66, 3) := by decide +kernel
theorem dX5_addScout_34 : decode cX5_addScout 34 = .ok (.bipush 30, 2) := by decide +kernel
theorem dX5_addScout_36 : decode cX5_addScout 36 = .ok (.if_icmp .lt 13, 3) := by decide +kernel
theorem dX5_addScout_39 : decode cX5_addScout 39 = .ok (.new 51, 3) := by decide +kernel
theorem dX5_addScout_42 : decode cX5_addScout 42 = .ok (.dup, 1) := by decide +kernel
theorem dX5_addScout_43 : decode cX5_addScout 43 = .ok (.ldc 69, 2) := by decide +kernel
theorem dX5_addScout_45 : decode cX5_addScout 45 = .ok (.invokespecial 55, 3) := by decide +kernel
theorem dX5_addScout_48 : decode cX5_addScout 48 = .ok (.athrow, 1) := by decide +kernel
theorem dX5_addScout_49 : decode cX5_addScout 49 = .ok (.aload_n 0, 1) := by decide +kernel
theorem dX5_addScout_50 : decode cX5_addScout 50 = .ok (.getfield 10, 3) := by decide +kernel
theorem dX5_addScout_53 : decode cX5_addScout 53 = .ok (.iload_n 1, 1) := by decide +kernel
theorem dX5_addScout_54 : decode cX5_addScout 54 = .ok (.iload_n 2, 1) := by decide +kernel
theorem dX5_addScout_55 : decode cX5_addScout 55 = .ok (.iload_n 3, 1) := by decide +kernel
theorem dX5_addScout_56 : decode cX5_addScout 56 = .ok (.invokevirtual 71, 3) := by decide +kernel
theorem dX5_addScout_59 : decode cX5_addScout 59 = .ok (.ireturn, 1) := by decide +kernel
set_option maxRecDepth 20000 in
theorem ggX5_scout_X5_checkNumber : GoodIn wsX5_scout wsX5_checkNumber := goodIn_ca (goodIn_r _ [6, 7, 8] (by decide +kernel) (by decide +kernel)) (goodIn_sub (fun _ h => List.mem_cons_of_mem _ (List.mem_append_right _ h)) (by decide +kernel))
set_option maxRecDepth 20000 in
theorem gX5_scout_X5_checkNumber : GoodIn wsX5_scout (va_wsS RX5 58 yX5_checkNumber wsX5_checkNumber) := goodIn_app (goodIn_of _ (by decide +kernel)) ggX5_scout_X5_checkNumber
set_option maxRecDepth 20000 in
theorem ggX5_scout_X5_factOf : GoodIn wsX5_scout wsX5_factOf := goodIn_r _ [12, 1, 13, 14, 15, 16, 17, 18, 19, 20, 21, 22, 23, 24, 25, 26, 27, 28, 29, 30, 31, 32, 33, 34, 35, 36, 37, 38, 39, 40, 41, 42, 43, 44, 45, 46, 47, 48, 49, 50, 51, 52] (by decide +kernel) (by decide +kernel)
set_option maxRecDepth 20000 in
theorem gX5_scout_X5_factOf : GoodIn wsX5_scout (wsV RX5 75 RX5 yX5_factOf wsX5_factOf) := goodIn_app (goodIn_of _ (by decide +kernel)) ggX5_scout_X5_factOf
theorem dX5_scout_0 : decode cX5_scout 0 = .ok (.iload_n 1, 1) := by decide +kernel
theorem dX5_scout_1 : decode cX5_scout 1 = .ok (.aload_n 0, 1) := by decide +kernel
theorem dX5_scout_2 : decode cX5_scout 2 = .ok (.getfield 10, 3) := by decide +kernel
theorem dX5_scout_5 : decode cX5_scout 5 = .ok (.getfield 66, 3) := by decide +kernel
theorem dX5_scout_8 : decode cX5_scout 8 = .ok (.invokestatic 58, 3) := by decide +kernel
theorem dX5_scout_11 : decode cX5_scout 11 = .ok (.iload_n 2, 1) := by decide +kernel
theorem dX5_scout_12 : decode cX5_scout 12 = .ok (.bipush 7, 2) := by decide +kernel
theorem dX5_scout_14 : decode cX5_scout 14 = .ok (.invokestatic 58, 3) := by decide +kernel
theorem dX5_scout_17 : decode cX5_scout 17 = .ok (.aload_n 0, 1) := by decide +kernel
theorem dX5_scout_18 : decode cX5_scout 18 = .ok (.iload_n 1, 1) := by decide +kernel
theorem dX5_scout_19 : decode cX5_scout 19 = .ok (.iload_n 2, 1) := by decide +kernel
theorem dX5_scout_20 : decode cX5_scout 20 = .ok (.invokevirtual 75, 3) := by decide +kernel
theorem dX5_scout_23 : decode cX5_scout 23 = .ok (.ireturn, 1) := by decide +kernel
set_option maxRecDepth 20000 in
theorem ggX5_addTent_X5_checkArgument : GoodIn wsX5_addTent wsX5_checkArgument := goodIn_ca (goodIn_r _ [8, 9, 10] (by decide +kernel) (by decide +kernel)) (goodIn_sub (fun _ h => List.mem_cons_of_mem _ (List.mem_append_right _ h)) (by decide +kernel))
set_option maxRecDepth 20000 in
theorem gX5_addTent_X5_checkArgument : GoodIn wsX5_addTent (va_wsS RX5 62 yX5_checkArgument wsX5_checkArgument) := goodIn_app (goodIn_of _ (by decide +kernel)) ggX5_addTent_X5_checkArgument
set_option maxRecDepth 20000 in
theorem ggX5_addTent_X4_pitch : GoodIn wsX5_addTent wsX4_pitch := goodIn_r _ [15, 16, 17, 24, 25, 26] (by decide +kernel) (by decide +kernel)
set_option maxRecDepth 20000 in
theorem gX5_addTent_X4_pitch : GoodIn wsX5_addTent (wsV RX5 84 RX4 yX4_pitch wsX4_pitch) := goodIn_app (goodIn_of _ (by decide +kernel)) ggX5_addTent_X4_pitch
theorem dX5_addTent_0 : decode cX5_addTent 0 = .ok (.iload_n 1, 1) := by decide +kernel
theorem dX5_addTent_1 : decode cX5_addTent 1 = .ok (.iconst 1, 1) := by decide +kernel
theorem dX5_addTent_2 : decode cX5_addTent 2 = .ok (.bipush 8, 2) := by decide +kernel
theorem dX5_addTent_4 : decode cX5_addTent 4 = .ok (.invokestatic 62, 3) := by decide +kernel
theorem dX5_addTent_7 : decode cX5_addTent 7 = .ok (.aload_n 0, 1) := by decide +kernel
theorem dX5_addTent_8 : decode cX5_addTent 8 = .ok (.getfield 19, 3) := by decide +kernel
theorem dX5_addTent_11 : decode cX5_addTent 11 = .ok (.getfield 79, 3) := by decide +kernel
theorem dX5_addTent_14 : decode cX5_addTent 14 = .ok (.bipush 10, 2) := by decide +kernel
theorem dX5_addTent_16 : decode cX5_addTent 16 = .ok (.if_icmp .lt 13, 3) := by decide +kernel
theorem dX5_addTent_19 : decode cX5_addTent 19 = .ok (.new 51, 3) := by decide +kernel
theorem dX5_addTent_22 : decode cX5_addTent 22 = .ok (.dup, 1) := by decide +kernel
theorem dX5_addTent_23 : decode cX5_addTent 23 = .ok (.ldc 82, 2) := by decide +kernel
theorem dX5_addTent_25 : decode cX5_addTent 25 = .ok (.invokespecial 55, 3) := by decide +kernel
theorem dX5_addTent_28 : decode cX5_addTent 28 = .ok (.athrow, 1) := by decide +kernel
theorem dX5_addTent_29 : decode cX5_addTent 29 = .ok (.aload_n 0, 1) := by decide +kernel
theorem dX5_addTent_30 : decode cX5_addTent 30 = .ok (.getfield 19, 3) := by decide +kernel
theorem dX5_addTent_33 : decode cX5_addTent 33 = .ok (.iload_n 1, 1) := by decide +kernel
theorem dX5_addTent_34 : decode cX5_addTent 34 = .ok (.invokevirtual 84, 3) := by decide +kernel
theorem dX5_addTent_37 : decode cX5_addTent 37 = .ok (.ireturn, 1) := by decide +kernel
set_option maxRecDepth 20000 in
theorem ggX5_sleep_X5_checkNumber : GoodIn wsX5_sleep wsX5_checkNumber := goodIn_ca (goodIn_r _ [10, 11, 12] (by decide +kernel) (by decide +kernel)) (goodIn_sub (fun _ h => List.mem_cons_of_mem _ (List.mem_append_right _ h)) (by decide +kernel))
set_option maxRecDepth 20000 in
theorem gX5_sleep_X5_checkNumber : GoodIn wsX5_sleep (va_wsS RX5 58 yX5_checkNumber wsX5_checkNumber) := goodIn_app (goodIn_of _ (by decide +kernel)) ggX5_sleep_X5_checkNumber
set_option maxRecDepth 20000 in
theorem ggX5_sleep_X5_checkNumberOrNone : GoodIn wsX5_sleep wsX5_checkNumberOrNone := goodIn_ca (goodIn_r _ [15, 7, 8, 9, 10, 11, 12] (by decide +kernel) (by decide +kernel)) (goodIn_sub (fun _ h => List.mem_cons_of_mem _ (List.mem_append_right _ h)) (by decide +kernel))
set_option maxRecDepth 20000 in
theorem gX5_sleep_X5_checkNumberOrNone : GoodIn wsX5_sleep (va_wsS RX5 88 yX5_checkNumberOrNone wsX5_checkNumberOrNone) := goodIn_app (goodIn_of _ (by decide +kernel)) ggX5_sleep_X5_checkNumberOrNone
set_option maxRecDepth 20000 in
theorem ggX5_sleep_X4_tentOf : GoodIn wsX5_sleep wsX4_tentOf := goodIn_r _ [20, 21, 22, 68, 69, 70] (by decide +kernel) (by decide +kernel)
set_option maxRecDepth 20000 in
theorem gX5_sleep_X4_tentOf : GoodIn wsX5_sleep (wsV RX5 91 RX4 yX4_tentOf wsX4_tentOf) := goodIn_app (goodIn_of _ (by decide +kernel)) ggX5_sleep_X4_tentOf
set_option maxRecDepth 20000 in
theorem ggX5_sleep_X4_canTake : GoodIn wsX5_sleep wsX4_canTake := goodIn_r _ [26, 22, 27, 28, 29, 30, 31, 32, 33, 34, 35, 36, 37, 19, 38, 39, 40, 41, 42, 43, 44, 68, 69, 70, 60, 61, 62, 63, 64, 65, 66, 67] (by decide +kernel) (by decide +kernel)
set_option maxRecDepth 20000 in
theorem gX5_sleep_X4_canTake : GoodIn wsX5_sleep (wsV RX5 96 RX4 yX4_canTake wsX4_canTake) := goodIn_app (goodIn_of _ (by decide +kernel)) ggX5_sleep_X4_canTake
set_option maxRecDepth 20000 in
theorem ggX5_sleep_X4_leave : GoodIn wsX5_sleep wsX4_leave := goodIn_r _ [48, 22, 49, 68, 69, 70] (by decide +kernel) (by decide +kernel)
set_option maxRecDepth 20000 in
theorem gX5_sleep_X4_leave : GoodIn wsX5_sleep (wsV RX5 102 RX4 yX4_leave wsX4_leave) := goodIn_app (goodIn_of _ (by decide +kernel)) ggX5_sleep_X4_leave
set_option maxRecDepth 20000 in
theorem ggX5_sleep_X4_enter : GoodIn wsX5_sleep wsX4_enter := goodIn_r _ [53, 22, 68, 69, 70] (by decide +kernel) (by decide +kernel)
set_option maxRecDepth 20000 in
theorem gX5_sleep_X4_enter : GoodIn wsX5_sleep (wsV RX5 105 RX4 yX4_enter wsX4_enter) := goodIn_app (goodIn_of _ (by decide +kernel)) ggX5_sleep_X4_enter
theorem dX5_sleep_0 : decode cX5_sleep 0 = .ok (.iload_n 1, 1) := by decide +kernel
theorem dX5_sleep_1 : decode cX5_sleep 1 = .ok (.aload_n 0, 1) := by decide +kernel
theorem dX5_sleep_2 : decode cX5_sleep 2 = .ok (.getfield 10, 3) := by decide +kernel
theorem dX5_sleep_5 : decode cX5_sleep 5 = .ok (.getfield 66, 3) := by decide +kernel
theorem dX5_sleep_8 : decode cX5_sleep 8 = .ok (.invokestatic 58, 3) := by decide +kernel
theorem dX5_sleep_11 : decode cX5_sleep 11 = .ok (.iload_n 2, 1) := by decide +kernel
theorem dX5_sleep_12 : decode cX5_sleep 12 = .ok (.aload_n 0, 1) := by decide +kernel
theorem dX5_sleep_13 : decode cX5_sleep 13 = .ok (.getfield 19, 3) := by decide +kernel
theorem dX5_sleep_16 : decode cX5_sleep 16 = .ok (.getfield 79, 3) := by decide +kernel
theorem dX5_sleep_19 : decode cX5_sleep 19 = .ok (.invokestatic 88, 3) := by decide +kernel
theorem dX5_sleep_22 : decode cX5_sleep 22 = .ok (.aload_n 0, 1) := by decide +kernel
theorem dX5_sleep_23 : decode cX5_sleep 23 = .ok (.getfield 19, 3) := by decide +kernel
theorem dX5_sleep_26 : decode cX5_sleep 26 = .ok (.iload_n 1, 1) := by decide +kernel
theorem dX5_sleep_27 : decode cX5_sleep 27 = .ok (.invokevirtual 91, 3) := by decide +kernel
theorem dX5_sleep_30 : decode cX5_sleep 30 = .ok (.istore_n 3, 1) := by decide +kernel
theorem dX5_sleep_31 : decode cX5_sleep 31 = .ok (.iload_n 3, 1) := by decide +kernel
theorem dX5_sleep_32 : decode cX5_sleep 32 = .ok (.iload_n 2, 1) := by decide +kernel
theorem dX5_sleep_33 : decode cX5_sleep 33 = .ok (.if_icmp .ne 13, 3) := by decide +kernel
theorem dX5_sleep_36 : decode cX5_sleep 36 = .ok (.new 51, 3) := by decide +kernel
theorem dX5_sleep_39 : decode cX5_sleep 39 = .ok (.dup, 1) := by decide +kernel
theorem dX5_sleep_40 : decode cX5_sleep 40 = .ok (.ldc 94, 2) := by decide +kernel
theorem dX5_sleep_42 : decode cX5_sleep 42 = .ok (.invokespecial 55, 3) := by decide +kernel
theorem dX5_sleep_45 : decode cX5_sleep 45 = .ok (.athrow, 1) := by decide +kernel
theorem dX5_sleep_46 : decode cX5_sleep 46 = .ok (.iload_n 2, 1) := by decide +kernel
theorem dX5_sleep_47 : decode cX5_sleep 47 = .ok (.iconst (-1), 1) := by decide +kernel
theorem dX5_sleep_48 : decode cX5_sleep 48 = .ok (.if_icmp .eq 29, 3) := by decide +kernel
theorem dX5_sleep_51 : decode cX5_sleep 51 = .ok (.aload_n 0, 1) := by decide +kernel
theorem dX5_sleep_52 : decode cX5_sleep 52 = .ok (.getfield 19, 3) := by decide +kernel
theorem dX5_sleep_55 : decode cX5_sleep 55 = .ok (.iload_n 2, 1) := by decide +kernel
theorem dX5_sleep_56 : decode cX5_sleep 56 = .ok (.iload_n 1, 1) := by decide +kernel
theorem dX5_sleep_57 : decode cX5_sleep 57 = .ok (.aload_n 0, 1) := by decide +kernel
theorem dX5_sleep_58 : decode cX5_sleep 58 = .ok (.getfield 10, 3) := by decide +kernel
theorem dX5_sleep_61 : decode cX5_sleep 61 = .ok (.invokevirtual 96, 3) := by decide +kernel
theorem dX5_sleep_64 : decode cX5_sleep 64 = .ok (.ifCond .ne 13, 3) := by decide +kernel
theorem dX5_sleep_67 : decode cX5_sleep 67 = .ok (.new 51, 3) := by decide +kernel
theorem dX5_sleep_70 : decode cX5_sleep 70 = .ok (.dup, 1) := by decide +kernel
theorem dX5_sleep_71 : decode cX5_sleep 71 = .ok (.ldc 100, 2) := by decide +kernel
theorem dX5_sleep_73 : decode cX5_sleep 73 = .ok (.invokespecial 55, 3) := by decide +kernel
theorem dX5_sleep_76 : decode cX5_sleep 76 = .ok (.athrow, 1) := by decide +kernel
theorem dX5_sleep_77 : decode cX5_sleep 77 = .ok (.aload_n 0, 1) := by decide +kernel
theorem dX5_sleep_78 : decode cX5_sleep 78 = .ok (.getfield 19, 3) := by decide +kernel
theorem dX5_sleep_81 : decode cX5_sleep 81 = .ok (.iload_n 3, 1) := by decide +kernel
theorem dX5_sleep_82 : decode cX5_sleep 82 = .ok (.iload_n 1, 1) := by decide +kernel
theorem dX5_sleep_83 : decode cX5_sleep 83 = .ok (.invokevirtual 102, 3) := by decide +kernel
theorem dX5_sleep_86 : decode cX5_sleep 86 = .ok (.aload_n 0, 1) := by decide +kernel
theorem dX5_sleep_87 : decode cX5_sleep 87 = .ok (.getfield 19, 3) := by decide +kernel
theorem dX5_sleep_90 : decode cX5_sleep 90 = .ok (.iload_n 2, 1) := by decide +kernel
theorem dX5_sleep_91 : decode cX5_sleep 91 = .ok (.iload_n 1, 1) := by decide +kernel
theorem dX5_sleep_92 : decode cX5_sleep 92 = .ok (.invokevirtual 105, 3) := by decide +kernel
theorem dX5_sleep_95 : decode cX5_sleep 95 = .ok (.iload_n 3, 1) := by decide +kernel
theorem dX5_sleep_96 : decode cX5_sleep 96 = .ok (.ireturn, 1) := by decide +kernel
set_option maxRecDepth 20000 in
theorem ggX5_inTent_X5_checkNumber : GoodIn wsX5_inTent wsX5_checkNumber := goodIn_ca (goodIn_r _ [7, 8, 9] (by decide +kernel) (by decide +kernel)) (goodIn_sub (fun _ h => List.mem_cons_of_mem _ (List.mem_append_right _ h)) (by decide +kernel))
set_option maxRecDepth 20000 in
theorem gX5_inTent_X5_checkNumber : GoodIn wsX5_inTent (va_wsS RX5 58 yX5_checkNumber wsX5_checkNumber) := goodIn_app (goodIn_of _ (by decide +kernel)) ggX5_inTent_X5_checkNumber
theorem dX5_inTent_0 : decode cX5_inTent 0 = .ok (.iload_n 1, 1) := by decide +kernel
theorem dX5_inTent_1 : decode cX5_inTent 1 = .ok (.aload_n 0, 1) := by decide +kernel
theorem dX5_inTent_2 : decode cX5_inTent 2 = .ok (.getfield 19, 3) := by decide +kernel
theorem dX5_inTent_5 : decode cX5_inTent 5 = .ok (.getfield 79, 3) := by decide +kernel
theorem dX5_inTent_8 : decode cX5_inTent 8 = .ok (.invokestatic 58, 3) := by decide +kernel
theorem dX5_inTent_11 : decode cX5_inTent 11 = .ok (.aload_n 0, 1) := by decide +kernel
theorem dX5_inTent_12 : decode cX5_inTent 12 = .ok (.getfield 19, 3) := by decide +kernel
theorem dX5_inTent_15 : decode cX5_inTent 15 = .ok (.getfield 108, 3) := by decide +kernel
theorem dX5_inTent_18 : decode cX5_inTent 18 = .ok (.iload_n 1, 1) := by decide +kernel
theorem dX5_inTent_19 : decode cX5_inTent 19 = .ok (.laload, 1) := by decide +kernel
theorem dX5_inTent_20 : decode cX5_inTent 20 = .ok (.lreturn, 1) := by decide +kernel
set_option maxRecDepth 20000 in
theorem ggX5_findTents_X4_tentOf : GoodIn wsX5_findTents wsX4_tentOf := goodIn_r _ [9, 10, 11, 77, 78, 79] (by decide +kernel) (by decide +kernel)
set_option maxRecDepth 20000 in
theorem gX5_findTents_X4_tentOf : GoodIn wsX5_findTents (wsV RX5 91 RX4 yX4_tentOf wsX4_tentOf) := goodIn_app (goodIn_of _ (by decide +kernel)) ggX5_findTents_X4_tentOf
set_option maxRecDepth 20000 in
theorem ggX5_findTents_X4_bestFor : GoodIn wsX5_findTents wsX4_bestFor := goodIn_r _ [15, 16, 10, 17, 18, 19, 20, 21, 22, 23, 24, 25, 26, 8, 27, 11, 28, 29, 30, 31, 32, 33, 34, 35, 36, 37, 38, 39, 40, 41, 42, 43, 44, 45, 46, 47, 48, 49, 69, 70, 71, 72, 73, 74, 75, 76, 77, 78, 79] (by decide +kernel) (by decide +kernel)
set_option maxRecDepth 20000 in
theorem gX5_findTents_X4_bestFor : GoodIn wsX5_findTents (wsV RX5 116 RX4 yX4_bestFor wsX4_bestFor) := goodIn_app (goodIn_of _ (by decide +kernel)) ggX5_findTents_X4_bestFor
set_option maxRecDepth 20000 in
theorem ggX5_findTents_X4_enter : GoodIn wsX5_findTents wsX4_enter := goodIn_r _ [53, 11, 77, 78, 79] (by decide +kernel) (by decide +kernel)
set_option maxRecDepth 20000 in
theorem gX5_findTents_X4_enter : GoodIn wsX5_findTents (wsV RX5 105 RX4 yX4_enter wsX4_enter) := goodIn_app (goodIn_of _ (by decide +kernel)) ggX5_findTents_X4_enter
set_option maxRecDepth 20000 in
theorem ggX5_findTents_X5_scoutsWithoutTent : GoodIn wsX5_findTents wsX5_scoutsWithoutTent := goodIn_r _ [58, 1, 2, 4, 59, 60, 61, 8, 62, 10, 11, 28, 29, 30, 31, 32, 33, 34, 63, 64, 65, 66, 67, 68, 69, 70, 71, 72, 73, 74, 75, 76, 77, 78, 79] (by decide +kernel) (by decide +kernel)
set_option maxRecDepth 20000 in
theorem gX5_findTents_X5_scoutsWithoutTent : GoodIn wsX5_findTents (wsV RX5 120 RX5 yX5_scoutsWithoutTent wsX5_scoutsWithoutTent) := goodIn_app (goodIn_of _ (by decide +kernel)) ggX5_findTents_X5_scoutsWithoutTent
theorem dX5_findTents_0 : decode cX5_findTents 0 = .ok (.bipush 17, 2) := by decide +kernel
theorem dX5_findTents_2 : decode cX5_findTents 2 = .ok (.istore_n 1, 1) := by decide +kernel
theorem dX5_findTents_3 : decode cX5_findTents 3 = .ok (.iload_n 1, 1) := by decide +kernel
theorem dX5_findTents_4 : decode cX5_findTents 4 = .ok (.bipush 6, 2) := by decide +kernel
theorem dX5_findTents_6 : decode cX5_findTents 6 = .ok (.if_icmp .lt 73, 3) := by decide +kernel
theorem dX5_findTents_9 : decode cX5_findTents 9 = .ok (.iconst 0, 1) := by decide +kernel
theorem dX5_findTents_10 : decode cX5_findTents 10 = .ok (.istore_n 2, 1) := by decide +kernel
theorem dX5_findTents_11 : decode cX5_findTents 11 = .ok (.iload_n 2, 1) := by decide +kernel
theorem dX5_findTents_12 : decode cX5_findTents 12 = .ok (.aload_n 0, 1) := by decide +kernel
theorem dX5_findTents_13 : decode cX5_findTents 13 = .ok (.getfield 10, 3) := by decide +kernel
theorem dX5_findTents_16 : decode cX5_findTents 16 = .ok (.getfield 66, 3) := by decide +kernel
theorem dX5_findTents_19 : decode cX5_findTents 19 = .ok (.if_icmp .ge 54, 3) := by decide +kernel
theorem dX5_findTents_22 : decode cX5_findTents 22 = .ok (.aload_n 0, 1) := by decide +kernel
theorem dX5_findTents_23 : decode cX5_findTents 23 = .ok (.getfield 10, 3) := by decide +kernel
theorem dX5_findTents_26 : decode cX5_findTents 26 = .ok (.getfield 112, 3) := by decide +kernel
theorem dX5_findTents_29 : decode cX5_findTents 29 = .ok (.iload_n 2, 1) := by decide +kernel
theorem dX5_findTents_30 : decode cX5_findTents 30 = .ok (.iaload, 1) := by decide +kernel
theorem dX5_findTents_31 : decode cX5_findTents 31 = .ok (.iload_n 1, 1) := by decide +kernel
theorem dX5_findTents_32 : decode cX5_findTents 32 = .ok (.if_icmp .ne 35, 3) := by decide +kernel
theorem dX5_findTents_35 : decode cX5_findTents 35 = .ok (.aload_n 0, 1) := by decide +kernel
theorem dX5_findTents_36 : decode cX5_findTents 36 = .ok (.getfield 19, 3) := by decide +kernel
theorem dX5_findTents_39 : decode cX5_findTents 39 = .ok (.iload_n 2, 1) := by decide +kernel
theorem dX5_findTents_40 : decode cX5_findTents 40 = .ok (.invokevirtual 91, 3) := by decide +kernel
theorem dX5_findTents_43 : decode cX5_findTents 43 = .ok (.iconst (-1), 1) := by decide +kernel
theorem dX5_findTents_44 : decode cX5_findTents 44 = .ok (.if_icmp .ne 23, 3) := by decide +kernel
theorem dX5_findTents_47 : decode cX5_findTents 47 = .ok (.aload_n 0, 1) := by decide +kernel
theorem dX5_findTents_48 : decode cX5_findTents 48 = .ok (.getfield 19, 3) := by decide +kernel
theorem dX5_findTents_51 : decode cX5_findTents 51 = .ok (.aload_n 0, 1) := by decide +kernel
theorem dX5_findTents_52 : decode cX5_findTents 52 = .ok (.getfield 19, 3) := by decide +kernel
theorem dX5_findTents_55 : decode cX5_findTents 55 = .ok (.iload_n 2, 1) := by decide +kernel
theorem dX5_findTents_56 : decode cX5_findTents 56 = .ok (.aload_n 0, 1) := by decide +kernel
theorem dX5_findTents_57 : decode cX5_findTents 57 = .ok (.getfield 10, 3) := by decide +kernel
theorem dX5_findTents_60 : decode cX5_findTents 60 = .ok (.invokevirtual 116, 3) := by decide +kernel
theorem dX5_findTents_63 : decode cX5_findTents 63 = .ok (.iload_n 2, 1) := by decide +kernel
theorem dX5_findTents_64 : decode cX5_findTents 64 = .ok (.invokevirtual 105, 3) := by decide +kernel
theorem dX5_findTents_67 : decode cX5_findTents 67 = .ok (.iinc 2 1, 3) := by decide +kernel
theorem dX5_findTents_70 : decode cX5_findTents 70 = .ok (.goto (-59), 3) := by decide +kernel
theorem dX5_findTents_73 : decode cX5_findTents 73 = .ok (.iinc 1 (-1), 3) := by decide +kernel
theorem dX5_findTents_76 : decode cX5_findTents 76 = .ok (.goto (-73), 3) := by decide +kernel
theorem dX5_findTents_79 : decode cX5_findTents 79 = .ok (.aload_n 0, 1) := by decide +kernel
theorem dX5_findTents_80 : decode cX5_findTents 80 = .ok (.invokevirtual 120, 3) := by decide +kernel
theorem dX5_findTents_83 : decode cX5_findTents 83 = .ok (.ireturn, 1) := by decide +kernel
set_option maxRecDepth 20000 in
theorem ggX5_duty_X5_checkNumber : GoodIn wsX5_duty wsX5_checkNumber := goodIn_ca (goodIn_r _ [5, 6, 7] (by decide +kernel) (by decide +kernel)) (goodIn_sub (fun _ h => List.mem_cons_of_mem _ (List.mem_append_right _ h)) (by decide +kernel))
set_option maxRecDepth 20000 in
theorem gX5_duty_X5_checkNumber : GoodIn wsX5_duty (va_wsS RX5 58 yX5_checkNumber wsX5_checkNumber) := goodIn_app (goodIn_of _ (by decide +kernel)) ggX5_duty_X5_checkNumber
set_option maxRecDepth 20000 in
theorem ggX5_duty_X1_holderOn : GoodIn wsX5_duty wsX1_holderOn := goodIn_r _ [12, 13, 20, 21] (by decide +kernel) (by decide +kernel)
set_option maxRecDepth 20000 in
theorem gX5_duty_X1_holderOn : GoodIn wsX5_duty (wsV RX5 133 RX1 yX1_holderOn wsX1_holderOn) := goodIn_app (goodIn_of _ (by decide +kernel)) ggX5_duty_X1_holderOn
theorem dX5_duty_0 : decode cX5_duty 0 = .ok (.iload_n 2, 1) := by decide +kernel
theorem dX5_duty_1 : decode cX5_duty 1 = .ok (.iconst 5, 1) := by decide +kernel
theorem dX5_duty_2 : decode cX5_duty 2 = .ok (.invokestatic 58, 3) := by decide +kernel
theorem dX5_duty_5 : decode cX5_duty 5 = .ok (.iload_n 1, 1) := by decide +kernel
theorem dX5_duty_6 : decode cX5_duty 6 = .ok (.bipush 61, 2) := by decide +kernel
theorem dX5_duty_8 : decode cX5_duty 8 = .ok (.invokestatic 58, 3) := by decide +kernel
theorem dX5_duty_11 : decode cX5_duty 11 = .ok (.aload_n 0, 1) := by decide +kernel
theorem dX5_duty_12 : decode cX5_duty 12 = .ok (.getfield 26, 3) := by decide +kernel
theorem dX5_duty_15 : decode cX5_duty 15 = .ok (.iload_n 1, 1) := by decide +kernel
theorem dX5_duty_16 : decode cX5_duty 16 = .ok (.iload_n 2, 1) := by decide +kernel
theorem dX5_duty_17 : decode cX5_duty 17 = .ok (.invokevirtual 133, 3) := by decide +kernel
theorem dX5_duty_20 : decode cX5_duty 20 = .ok (.ireturn, 1) := by decide +kernel
set_option maxRecDepth 20000 in
theorem ggX5_findDuties_X1_holderOn : GoodIn wsX5_findDuties wsX1_holderOn := goodIn_r _ [8, 9, 56, 57] (by decide +kernel) (by decide +kernel)
set_option maxRecDepth 20000 in
theorem gX5_findDuties_X1_holderOn : GoodIn wsX5_findDuties (wsV RX5 133 RX1 yX1_holderOn wsX1_holderOn) := goodIn_app (goodIn_of _ (by decide +kernel)) ggX5_findDuties_X1_holderOn
set_option maxRecDepth 20000 in
theorem ggX5_findDuties_X1_bestFor : GoodIn wsX5_findDuties wsX1_bestFor := goodIn_r _ [13, 14, 15, 16, 17, 18, 7, 19, 20, 21, 22, 23, 24, 25, 26, 27, 28, 29, 30, 31, 32, 33, 34, 35, 36, 37, 38, 39, 40, 5, 6, 8, 9, 58, 59, 60, 61, 62, 63, 64, 65, 56, 57] (by decide +kernel) (by decide +kernel)
set_option maxRecDepth 20000 in
theorem gX5_findDuties_X1_bestFor : GoodIn wsX5_findDuties (wsV RX5 145 RX1 yX1_bestFor wsX1_bestFor) := goodIn_app (goodIn_of _ (by decide +kernel)) ggX5_findDuties_X1_bestFor
set_option maxRecDepth 20000 in
theorem ggX5_findDuties_X1_assign : GoodIn wsX5_findDuties wsX1_assign := goodIn_r _ [44, 15, 45, 9, 40, 5, 6, 7, 8, 56, 57] (by decide +kernel) (by decide +kernel)
set_option maxRecDepth 20000 in
theorem gX5_findDuties_X1_assign : GoodIn wsX5_findDuties (wsV RX5 136 RX1 yX1_assign wsX1_assign) := goodIn_app (goodIn_of _ (by decide +kernel)) ggX5_findDuties_X1_assign
set_option maxRecDepth 20000 in
theorem ggX5_findDuties_X1_openOn : GoodIn wsX5_findDuties wsX1_openOn := goodIn_r _ [49, 40, 5, 6, 7, 8, 9, 56, 57] (by decide +kernel) (by decide +kernel)
set_option maxRecDepth 20000 in
theorem gX5_findDuties_X1_openOn : GoodIn wsX5_findDuties (wsV RX5 148 RX1 yX1_openOn wsX1_openOn) := goodIn_app (goodIn_of _ (by decide +kernel)) ggX5_findDuties_X1_openOn
theorem dX5_findDuties_0 : decode cX5_findDuties 0 = .ok (.iconst 0, 1) := by decide +kernel
theorem dX5_findDuties_1 : decode cX5_findDuties 1 = .ok (.istore_n 1, 1) := by decide +kernel
theorem dX5_findDuties_2 : decode cX5_findDuties 2 = .ok (.iload_n 1, 1) := by decide +kernel
theorem dX5_findDuties_3 : decode cX5_findDuties 3 = .ok (.getstatic 142, 3) := by decide +kernel
theorem dX5_findDuties_6 : decode cX5_findDuties 6 = .ok (.arraylength, 1) := by decide +kernel
theorem dX5_findDuties_7 : decode cX5_findDuties 7 = .ok (.if_icmp .ge 59, 3) := by decide +kernel
theorem dX5_findDuties_10 : decode cX5_findDuties 10 = .ok (.getstatic 142, 3) := by decide +kernel
theorem dX5_findDuties_13 : decode cX5_findDuties 13 = .ok (.iload_n 1, 1) := by decide +kernel
theorem dX5_findDuties_14 : decode cX5_findDuties 14 = .ok (.iaload, 1) := by decide +kernel
theorem dX5_findDuties_15 : decode cX5_findDuties 15 = .ok (.istore_n 2, 1) := by decide +kernel
theorem dX5_findDuties_16 : decode cX5_findDuties 16 = .ok (.aload_n 0, 1) := by decide +kernel
theorem dX5_findDuties_17 : decode cX5_findDuties 17 = .ok (.getfield 26, 3) := by decide +kernel
theorem dX5_findDuties_20 : decode cX5_findDuties 20 = .ok (.aload_n 0, 1) := by decide +kernel
theorem dX5_findDuties_21 : decode cX5_findDuties 21 = .ok (.getfield 44, 3) := by decide +kernel
theorem dX5_findDuties_24 : decode cX5_findDuties 24 = .ok (.iload_n 2, 1) := by decide +kernel
theorem dX5_findDuties_25 : decode cX5_findDuties 25 = .ok (.invokevirtual 133, 3) := by decide +kernel
theorem dX5_findDuties_28 : decode cX5_findDuties 28 = .ok (.iconst (-1), 1) := by decide +kernel
theorem dX5_findDuties_29 : decode cX5_findDuties 29 = .ok (.if_icmp .ne 31, 3) := by decide +kernel
theorem dX5_findDuties_32 : decode cX5_findDuties 32 = .ok (.aload_n 0, 1) := by decide +kernel
theorem dX5_findDuties_33 : decode cX5_findDuties 33 = .ok (.getfield 26, 3) := by decide +kernel
theorem dX5_findDuties_36 : decode cX5_findDuties 36 = .ok (.aload_n 0, 1) := by decide +kernel
theorem dX5_findDuties_37 : decode cX5_findDuties 37 = .ok (.getfield 44, 3) := by decide +kernel
theorem dX5_findDuties_40 : decode cX5_findDuties 40 = .ok (.iload_n 2, 1) := by decide +kernel
theorem dX5_findDuties_41 : decode cX5_findDuties 41 = .ok (.aload_n 0, 1) := by decide +kernel
theorem dX5_findDuties_42 : decode cX5_findDuties 42 = .ok (.getfield 26, 3) := by decide +kernel
theorem dX5_findDuties_45 : decode cX5_findDuties 45 = .ok (.aload_n 0, 1) := by decide +kernel
theorem dX5_findDuties_46 : decode cX5_findDuties 46 = .ok (.getfield 44, 3) := by decide +kernel
theorem dX5_findDuties_49 : decode cX5_findDuties 49 = .ok (.iload_n 2, 1) := by decide +kernel
theorem dX5_findDuties_50 : decode cX5_findDuties 50 = .ok (.aload_n 0, 1) := by decide +kernel
theorem dX5_findDuties_51 : decode cX5_findDuties 51 = .ok (.getfield 10, 3) := by decide +kernel
theorem dX5_findDuties_54 : decode cX5_findDuties 54 = .ok (.invokevirtual 145, 3) := by decide +kernel
theorem dX5_findDuties_57 : decode cX5_findDuties 57 = .ok (.invokevirtual 136, 3) := by decide +kernel
theorem dX5_findDuties_60 : decode cX5_findDuties 60 = .ok (.iinc 1 1, 3) := by decide +kernel
theorem dX5_findDuties_63 : decode cX5_findDuties 63 = .ok (.goto (-61), 3) := by decide +kernel
theorem dX5_findDuties_66 : decode cX5_findDuties 66 = .ok (.aload_n 0, 1) := by decide +kernel
theorem dX5_findDuties_67 : decode cX5_findDuties 67 = .ok (.getfield 26, 3) := by decide +kernel
theorem dX5_findDuties_70 : decode cX5_findDuties 70 = .ok (.aload_n 0, 1) := by decide +kernel
theorem dX5_findDuties_71 : decode cX5_findDuties 71 = .ok (.getfield 44, 3) := by decide +kernel
theorem dX5_findDuties_74 : decode cX5_findDuties 74 = .ok (.invokevirtual 148, 3) := by decide +kernel
theorem dX5_findDuties_77 : decode cX5_findDuties 77 = .ok (.ireturn, 1) := by decide +kernel
set_option maxRecDepth 20000 in
theorem ggX5_addFood_X5_checkArgument : GoodIn wsX5_addFood wsX5_checkArgument := goodIn_ca (goodIn_r _ [9, 10, 11] (by decide +kernel) (by decide +kernel)) (goodIn_sub (fun _ h => List.mem_cons_of_mem _ (List.mem_append_right _ h)) (by decide +kernel))
set_option maxRecDepth 20000 in
theorem gX5_addFood_X5_checkArgument : GoodIn wsX5_addFood (va_wsS RX5 62 yX5_checkArgument wsX5_checkArgument) := goodIn_app (goodIn_of _ (by decide +kernel)) ggX5_addFood_X5_checkArgument
theorem dX5_addFood_0 : decode cX5_addFood 0 = .ok (.iload_n 1, 1) := by decide +kernel
theorem dX5_addFood_1 : decode cX5_addFood 1 = .ok (.iconst 0, 1) := by decide +kernel
theorem dX5_addFood_2 : decode cX5_addFood 2 = .ok (.sipush 10000, 3) := by decide +kernel
theorem dX5_addFood_5 : decode cX5_addFood 5 = .ok (.invokestatic 62, 3) := by decide +kernel
theorem dX5_addFood_8 : decode cX5_addFood 8 = .ok (.aload_n 0, 1) := by decide +kernel
theorem dX5_addFood_9 : decode cX5_addFood 9 = .ok (.getfield 33, 3) := by decide +kernel
theorem dX5_addFood_12 : decode cX5_addFood 12 = .ok (.getfield 151, 3) := by decide +kernel
theorem dX5_addFood_15 : decode cX5_addFood 15 = .ok (.bipush 12, 2) := by decide +kernel
theorem dX5_addFood_17 : decode cX5_addFood 17 = .ok (.if_icmp .lt 13, 3) := by decide +kernel
theorem dX5_addFood_20 : decode cX5_addFood 20 = .ok (.new 51, 3) := by decide +kernel
theorem dX5_addFood_23 : decode cX5_addFood 23 = .ok (.dup, 1) := by decide +kernel
theorem dX5_addFood_24 : decode cX5_addFood 24 = .ok (.ldc 154, 2) := by decide +kernel
theorem dX5_addFood_26 : decode cX5_addFood 26 = .ok (.invokespecial 55, 3) := by decide +kernel
theorem dX5_addFood_29 : decode cX5_addFood 29 = .ok (.athrow, 1) := by decide +kernel
theorem dX5_addFood_30 : decode cX5_addFood 30 = .ok (.aload_n 0, 1) := by decide +kernel
theorem dX5_addFood_31 : decode cX5_addFood 31 = .ok (.getfield 33, 3) := by decide +kernel
theorem dX5_addFood_34 : decode cX5_addFood 34 = .ok (.getfield 156, 3) := by decide +kernel
theorem dX5_addFood_37 : decode cX5_addFood 37 = .ok (.aload_n 0, 1) := by decide +kernel
theorem dX5_addFood_38 : decode cX5_addFood 38 = .ok (.getfield 33, 3) := by decide +kernel
theorem dX5_addFood_41 : decode cX5_addFood 41 = .ok (.getfield 151, 3) := by decide +kernel
theorem dX5_addFood_44 : decode cX5_addFood 44 = .ok (.iload_n 1, 1) := by decide +kernel
theorem dX5_addFood_45 : decode cX5_addFood 45 = .ok (.iastore, 1) := by decide +kernel
theorem dX5_addFood_46 : decode cX5_addFood 46 = .ok (.aload_n 0, 1) := by decide +kernel
theorem dX5_addFood_47 : decode cX5_addFood 47 = .ok (.getfield 33, 3) := by decide +kernel
theorem dX5_addFood_50 : decode cX5_addFood 50 = .ok (.dup, 1) := by decide +kernel
theorem dX5_addFood_51 : decode cX5_addFood 51 = .ok (.getfield 151, 3) := by decide +kernel
theorem dX5_addFood_54 : decode cX5_addFood 54 = .ok (.iconst 1, 1) := by decide +kernel
theorem dX5_addFood_55 : decode cX5_addFood 55 = .ok (.iadd, 1) := by decide +kernel
theorem dX5_addFood_56 : decode cX5_addFood 56 = .ok (.putfield 151, 3) := by decide +kernel
theorem dX5_addFood_59 : decode cX5_addFood 59 = .ok (.aload_n 0, 1) := by decide +kernel
theorem dX5_addFood_60 : decode cX5_addFood 60 = .ok (.getfield 33, 3) := by decide +kernel
theorem dX5_addFood_63 : decode cX5_addFood 63 = .ok (.getfield 151, 3) := by decide +kernel
theorem dX5_addFood_66 : decode cX5_addFood 66 = .ok (.iconst 1, 1) := by decide +kernel
theorem dX5_addFood_67 : decode cX5_addFood 67 = .ok (.isub, 1) := by decide +kernel
theorem dX5_addFood_68 : decode cX5_addFood 68 = .ok (.ireturn, 1) := by decide +kernel
set_option maxRecDepth 20000 in
theorem ggX5_store_X5_checkNumber : GoodIn wsX5_store wsX5_checkNumber := goodIn_ca (goodIn_r _ [7, 8, 9] (by decide +kernel) (by decide +kernel)) (goodIn_sub (fun _ h => List.mem_cons_of_mem _ (List.mem_append_right _ h)) (by decide +kernel))
set_option maxRecDepth 20000 in
theorem gX5_store_X5_checkNumber : GoodIn wsX5_store (va_wsS RX5 58 yX5_checkNumber wsX5_checkNumber) := goodIn_app (goodIn_of _ (by decide +kernel)) ggX5_store_X5_checkNumber
theorem dX5_store_0 : decode cX5_store 0 = .ok (.iload_n 1, 1) := by decide +kernel
theorem dX5_store_1 : decode cX5_store 1 = .ok (.aload_n 0, 1) := by decide +kernel
theorem dX5_store_2 : decode cX5_store 2 = .ok (.getfield 33, 3) := by decide +kernel
theorem dX5_store_5 : decode cX5_store 5 = .ok (.getfield 151, 3) := by decide +kernel
theorem dX5_store_8 : decode cX5_store 8 = .ok (.invokestatic 58, 3) := by decide +kernel
theorem dX5_store_11 : decode cX5_store 11 = .ok (.aload_n 0, 1) := by decide +kernel
theorem dX5_store_12 : decode cX5_store 12 = .ok (.getfield 33, 3) := by decide +kernel
theorem dX5_store_15 : decode cX5_store 15 = .ok (.getfield 156, 3) := by decide +kernel
theorem dX5_store_18 : decode cX5_store 18 = .ok (.iload_n 1, 1) := by decide +kernel
theorem dX5_store_19 : decode cX5_store 19 = .ok (.iaload, 1) := by decide +kernel
theorem dX5_store_20 : decode cX5_store 20 = .ok (.ireturn, 1) := by decide +kernel
set_option maxRecDepth 20000 in
theorem ggX5_diet_X5_checkNumber : GoodIn wsX5_diet wsX5_checkNumber := goodIn_ca (goodIn_r _ [9, 10, 11] (by decide +kernel) (by decide +kernel)) (goodIn_sub (fun _ h => List.mem_cons_of_mem _ (List.mem_append_right _ h)) (by decide +kernel))
set_option maxRecDepth 20000 in
theorem gX5_diet_X5_checkNumber : GoodIn wsX5_diet (va_wsS RX5 58 yX5_checkNumber wsX5_checkNumber) := goodIn_app (goodIn_of _ (by decide +kernel)) ggX5_diet_X5_checkNumber
theorem dX5_diet_0 : decode cX5_diet 0 = .ok (.iload_n 1, 1) := by decide +kernel
theorem dX5_diet_1 : decode cX5_diet 1 = .ok (.aload_n 0, 1) := by decide +kernel
theorem dX5_diet_2 : decode cX5_diet 2 = .ok (.getfield 10, 3) := by decide +kernel
theorem dX5_diet_5 : decode cX5_diet 5 = .ok (.getfield 66, 3) := by decide +kernel
theorem dX5_diet_8 : decode cX5_diet 8 = .ok (.invokestatic 58, 3) := by decide +kernel
theorem dX5_diet_11 : decode cX5_diet 11 = .ok (.iload_n 2, 1) := by decide +kernel
theorem dX5_diet_12 : decode cX5_diet 12 = .ok (.aload_n 0, 1) := by decide +kernel
theorem dX5_diet_13 : decode cX5_diet 13 = .ok (.getfield 33, 3) := by decide +kernel
theorem dX5_diet_16 : decode cX5_diet 16 = .ok (.getfield 151, 3) := by decide +kernel
theorem dX5_diet_19 : decode cX5_diet 19 = .ok (.invokestatic 58, 3) := by decide +kernel
theorem dX5_diet_22 : decode cX5_diet 22 = .ok (.aload_n 0, 1) := by decide +kernel
theorem dX5_diet_23 : decode cX5_diet 23 = .ok (.getfield 10, 3) := by decide +kernel
theorem dX5_diet_26 : decode cX5_diet 26 = .ok (.getfield 161, 3) := by decide +kernel
theorem dX5_diet_29 : decode cX5_diet 29 = .ok (.iload_n 1, 1) := by decide +kernel
theorem dX5_diet_30 : decode cX5_diet 30 = .ok (.iaload, 1) := by decide +kernel
theorem dX5_diet_31 : decode cX5_diet 31 = .ok (.istore 4, 2) := by decide +kernel
theorem dX5_diet_33 : decode cX5_diet 33 = .ok (.iconst 1, 1) := by decide +kernel
theorem dX5_diet_34 : decode cX5_diet 34 = .ok (.iload_n 2, 1) := by decide +kernel
theorem dX5_diet_35 : decode cX5_diet 35 = .ok (.ishl, 1) := by decide +kernel
theorem dX5_diet_36 : decode cX5_diet 36 = .ok (.istore 5, 2) := by decide +kernel
theorem dX5_diet_38 : decode cX5_diet 38 = .ok (.aload_n 0, 1) := by decide +kernel
theorem dX5_diet_39 : decode cX5_diet 39 = .ok (.getfield 10, 3) := by decide +kernel
theorem dX5_diet_42 : decode cX5_diet 42 = .ok (.getfield 161, 3) := by decide +kernel
theorem dX5_diet_45 : decode cX5_diet 45 = .ok (.iload_n 1, 1) := by decide +kernel
theorem dX5_diet_46 : decode cX5_diet 46 = .ok (.iload_n 3, 1) := by decide +kernel
theorem dX5_diet_47 : decode cX5_diet 47 = .ok (.ifCond .eq 13, 3) := by decide +kernel
theorem dX5_diet_50 : decode cX5_diet 50 = .ok (.iload 4, 2) := by decide +kernel
theorem dX5_diet_52 : decode cX5_diet 52 = .ok (.iload 5, 2) := by decide +kernel
theorem dX5_diet_54 : decode cX5_diet 54 = .ok (.iconst (-1), 1) := by decide +kernel
theorem dX5_diet_55 : decode cX5_diet 55 = .ok (.ixor, 1) := by decide +kernel
theorem dX5_diet_56 : decode cX5_diet 56 = .ok (.iand, 1) := by decide +kernel
theorem dX5_diet_57 : decode cX5_diet 57 = .ok (.goto 8, 3) := by decide +kernel
theorem dX5_diet_60 : decode cX5_diet 60 = .ok (.iload 4, 2) := by decide +kernel
theorem dX5_diet_62 : decode cX5_diet 62 = .ok (.iload 5, 2) := by decide +kernel
theorem dX5_diet_64 : decode cX5_diet 64 = .ok (.ior, 1) := by decide +kernel
theorem dX5_diet_65 : decode cX5_diet 65 = .ok (.iastore, 1) := by decide +kernel
theorem dX5_diet_66 : decode cX5_diet 66 = .ok (.iload 4, 2) := by decide +kernel
theorem dX5_diet_68 : decode cX5_diet 68 = .ok (.iload 5, 2) := by decide +kernel
theorem dX5_diet_70 : decode cX5_diet 70 = .ok (.iand, 1) := by decide +kernel
theorem dX5_diet_71 : decode cX5_diet 71 = .ok (.ifCond .ne 7, 3) := by decide +kernel
theorem dX5_diet_74 : decode cX5_diet 74 = .ok (.iconst 1, 1) := by decide +kernel
theorem dX5_diet_75 : decode cX5_diet 75 = .ok (.goto 4, 3) := by decide +kernel
theorem dX5_diet_78 : decode cX5_diet 78 = .ok (.iconst 0, 1) := by decide +kernel
theorem dX5_diet_79 : decode cX5_diet 79 = .ok (.ireturn, 1) := by decide +kernel
theorem dX5_addMeal_0 : decode cX5_addMeal 0 = .ok (.aload_n 0, 1) := by decide +kernel
theorem dX5_addMeal_1 : decode cX5_addMeal 1 = .ok (.getfield 33, 3) := by decide +kernel
theorem dX5_addMeal_4 : decode cX5_addMeal 4 = .ok (.getfield 164, 3) := by decide +kernel
theorem dX5_addMeal_7 : decode cX5_addMeal 7 = .ok (.bipush 10, 2) := by decide +kernel
theorem dX5_addMeal_9 : decode cX5_addMeal 9 = .ok (.if_icmp .lt 13, 3) := by decide +kernel
theorem dX5_addMeal_12 : decode cX5_addMeal 12 = .ok (.new 51, 3) := by decide +kernel
theorem dX5_addMeal_15 : decode cX5_addMeal 15 = .ok (.dup, 1) := by decide +kernel
theorem dX5_addMeal_16 : decode cX5_addMeal 16 = .ok (.ldc 167, 2) := by decide +kernel
theorem dX5_addMeal_18 : decode cX5_addMeal 18 = .ok (.invokespecial 55, 3) := by decide +kernel
theorem dX5_addMeal_21 : decode cX5_addMeal 21 = .ok (.athrow, 1) := by decide +kernel
theorem dX5_addMeal_22 : decode cX5_addMeal 22 = .ok (.aload_n 0, 1) := by decide +kernel
theorem dX5_addMeal_23 : decode cX5_addMeal 23 = .ok (.getfield 33, 3) := by decide +kernel
theorem dX5_addMeal_26 : decode cX5_addMeal 26 = .ok (.dup, 1) := by decide +kernel
theorem dX5_addMeal_27 : decode cX5_addMeal 27 = .ok (.getfield 164, 3) := by decide +kernel
theorem dX5_addMeal_30 : decode cX5_addMeal 30 = .ok (.iconst 1, 1) := by decide +kernel
theorem dX5_addMeal_31 : decode cX5_addMeal 31 = .ok (.iadd, 1) := by decide +kernel
theorem dX5_addMeal_32 : decode cX5_addMeal 32 = .ok (.putfield 164, 3) := by decide +kernel
theorem dX5_addMeal_35 : decode cX5_addMeal 35 = .ok (.aload_n 0, 1) := by decide +kernel
theorem dX5_addMeal_36 : decode cX5_addMeal 36 = .ok (.getfield 33, 3) := by decide +kernel
theorem dX5_addMeal_39 : decode cX5_addMeal 39 = .ok (.getfield 164, 3) := by decide +kernel
theorem dX5_addMeal_42 : decode cX5_addMeal 42 = .ok (.iconst 1, 1) := by decide +kernel
theorem dX5_addMeal_43 : decode cX5_addMeal 43 = .ok (.isub, 1) := by decide +kernel
theorem dX5_addMeal_44 : decode cX5_addMeal 44 = .ok (.ireturn, 1) := by decide +kernel
set_option maxRecDepth 20000 in
theorem ggX5_need_X5_checkNumber : GoodIn wsX5_need wsX5_checkNumber := goodIn_ca (goodIn_r _ [8, 9, 10] (by decide +kernel) (by decide +kernel)) (goodIn_sub (fun _ h => List.mem_cons_of_mem _ (List.mem_append_left _ (List.mem_append_right _ h))) (by decide +kernel))
set_option maxRecDepth 20000 in
theorem gX5_need_X5_checkNumber : GoodIn wsX5_need (va_wsS RX5 58 yX5_checkNumber wsX5_checkNumber) := goodIn_app (goodIn_of _ (by decide +kernel)) ggX5_need_X5_checkNumber
set_option maxRecDepth 20000 in
theorem ggX5_need_X5_checkArgument : GoodIn wsX5_need wsX5_checkArgument := goodIn_ca (goodIn_r _ [13, 14, 15] (by decide +kernel) (by decide +kernel)) (goodIn_sub (fun _ h => List.mem_cons_of_mem _ (List.mem_append_right _ h)) (by decide +kernel))
set_option maxRecDepth 20000 in
theorem gX5_need_X5_checkArgument : GoodIn wsX5_need (va_wsS RX5 62 yX5_checkArgument wsX5_checkArgument) := goodIn_app (goodIn_of _ (by decide +kernel)) ggX5_need_X5_checkArgument
set_option maxRecDepth 20000 in
theorem ggX5_need_X2_needOf : GoodIn wsX5_need wsX2_needOf := goodIn_r _ [20, 21, 28, 29, 30, 31, 32, 33] (by decide +kernel) (by decide +kernel)
set_option maxRecDepth 20000 in
theorem gX5_need_X2_needOf : GoodIn wsX5_need (wsV RX5 169 RX2 yX2_needOf wsX2_needOf) := goodIn_app (goodIn_of _ (by decide +kernel)) ggX5_need_X2_needOf
theorem dX5_need_0 : decode cX5_need 0 = .ok (.iload_n 1, 1) := by decide +kernel
theorem dX5_need_1 : decode cX5_need 1 = .ok (.aload_n 0, 1) := by decide +kernel
theorem dX5_need_2 : decode cX5_need 2 = .ok (.getfield 33, 3) := by decide +kernel
theorem dX5_need_5 : decode cX5_need 5 = .ok (.getfield 164, 3) := by decide +kernel
theorem dX5_need_8 : decode cX5_need 8 = .ok (.invokestatic 58, 3) := by decide +kernel
theorem dX5_need_11 : decode cX5_need 11 = .ok (.iload_n 2, 1) := by decide +kernel
theorem dX5_need_12 : decode cX5_need 12 = .ok (.aload_n 0, 1) := by decide +kernel
theorem dX5_need_13 : decode cX5_need 13 = .ok (.getfield 33, 3) := by decide +kernel
theorem dX5_need_16 : decode cX5_need 16 = .ok (.getfield 151, 3) := by decide +kernel
theorem dX5_need_19 : decode cX5_need 19 = .ok (.invokestatic 58, 3) := by decide +kernel
theorem dX5_need_22 : decode cX5_need 22 = .ok (.iload_n 3, 1) := by decide +kernel
theorem dX5_need_23 : decode cX5_need 23 = .ok (.iconst 0, 1) := by decide +kernel
theorem dX5_need_24 : decode cX5_need 24 = .ok (.bipush 50, 2) := by decide +kernel
theorem dX5_need_26 : decode cX5_need 26 = .ok (.invokestatic 62, 3) := by decide +kernel
theorem dX5_need_29 : decode cX5_need 29 = .ok (.aload_n 0, 1) := by decide +kernel
theorem dX5_need_30 : decode cX5_need 30 = .ok (.getfield 33, 3) := by decide +kernel
theorem dX5_need_33 : decode cX5_need 33 = .ok (.iload_n 1, 1) := by decide +kernel
theorem dX5_need_34 : decode cX5_need 34 = .ok (.iload_n 2, 1) := by decide +kernel
theorem dX5_need_35 : decode cX5_need 35 = .ok (.invokevirtual 169, 3) := by decide +kernel
theorem dX5_need_38 : decode cX5_need 38 = .ok (.istore 4, 2) := by decide +kernel
theorem dX5_need_40 : decode cX5_need 40 = .ok (.aload_n 0, 1) := by decide +kernel
theorem dX5_need_41 : decode cX5_need 41 = .ok (.getfield 33, 3) := by decide +kernel
theorem dX5_need_44 : decode cX5_need 44 = .ok (.getfield 172, 3) := by decide +kernel
theorem dX5_need_47 : decode cX5_need 47 = .ok (.iload_n 1, 1) := by decide +kernel
theorem dX5_need_48 : decode cX5_need 48 = .ok (.bipush 12, 2) := by decide +kernel
theorem dX5_need_50 : decode cX5_need 50 = .ok (.imul, 1) := by decide +kernel
theorem dX5_need_51 : decode cX5_need 51 = .ok (.iload_n 2, 1) := by decide +kernel
theorem dX5_need_52 : decode cX5_need 52 = .ok (.iadd, 1) := by decide +kernel
theorem dX5_need_53 : decode cX5_need 53 = .ok (.iload_n 3, 1) := by decide +kernel
theorem dX5_need_54 : decode cX5_need 54 = .ok (.iastore, 1) := by decide +kernel
theorem dX5_need_55 : decode cX5_need 55 = .ok (.iload 4, 2) := by decide +kernel
theorem dX5_need_57 : decode cX5_need 57 = .ok (.ireturn, 1) := by decide +kernel
set_option maxRecDepth 20000 in
theorem ggX5_eaters_X5_checkNumber : GoodIn wsX5_eaters wsX5_checkNumber := goodIn_ca (goodIn_r _ [7, 8, 9] (by decide +kernel) (by decide +kernel)) (goodIn_sub (fun _ h => List.mem_cons_of_mem _ (List.mem_append_right _ h)) (by decide +kernel))
set_option maxRecDepth 20000 in
theorem gX5_eaters_X5_checkNumber : GoodIn wsX5_eaters (va_wsS RX5 58 yX5_checkNumber wsX5_checkNumber) := goodIn_app (goodIn_of _ (by decide +kernel)) ggX5_eaters_X5_checkNumber
set_option maxRecDepth 20000 in
theorem ggX5_eaters_X2_eatersOf : GoodIn wsX5_eaters wsX2_eatersOf := goodIn_r _ [14, 15, 16, 17, 18, 19, 13, 20, 21, 22, 23, 24, 25, 26, 39, 40, 41, 42, 43, 44, 45, 46, 33, 34, 35, 36, 37, 38] (by decide +kernel) (by decide +kernel)
set_option maxRecDepth 20000 in
theorem gX5_eaters_X2_eatersOf : GoodIn wsX5_eaters (wsV RX5 175 RX2 yX2_eatersOf wsX2_eatersOf) := goodIn_app (goodIn_of _ (by decide +kernel)) ggX5_eaters_X2_eatersOf
theorem dX5_eaters_0 : decode cX5_eaters 0 = .ok (.iload_n 1, 1) := by decide +kernel
theorem dX5_eaters_1 : decode cX5_eaters 1 = .ok (.aload_n 0, 1) := by decide +kernel
theorem dX5_eaters_2 : decode cX5_eaters 2 = .ok (.getfield 33, 3) := by decide +kernel
theorem dX5_eaters_5 : decode cX5_eaters 5 = .ok (.getfield 164, 3) := by decide +kernel
theorem dX5_eaters_8 : decode cX5_eaters 8 = .ok (.invokestatic 58, 3) := by decide +kernel
theorem dX5_eaters_11 : decode cX5_eaters 11 = .ok (.aload_n 0, 1) := by decide +kernel
theorem dX5_eaters_12 : decode cX5_eaters 12 = .ok (.getfield 33, 3) := by decide +kernel
theorem dX5_eaters_15 : decode cX5_eaters 15 = .ok (.iload_n 1, 1) := by decide +kernel
theorem dX5_eaters_16 : decode cX5_eaters 16 = .ok (.aload_n 0, 1) := by decide +kernel
theorem dX5_eaters_17 : decode cX5_eaters 17 = .ok (.getfield 10, 3) := by decide +kernel
theorem dX5_eaters_20 : decode cX5_eaters 20 = .ok (.invokevirtual 175, 3) := by decide +kernel
theorem dX5_eaters_23 : decode cX5_eaters 23 = .ok (.lreturn, 1) := by decide +kernel
set_option maxRecDepth 20000 in
theorem ggX5_eat_X5_checkNumber : GoodIn wsX5_eat wsX5_checkNumber := goodIn_ca (goodIn_r _ [9, 10, 11] (by decide +kernel) (by decide +kernel)) (goodIn_sub (fun _ h => List.mem_cons_of_mem _ (List.mem_append_right _ h)) (by decide +kernel))
set_option maxRecDepth 20000 in
theorem gX5_eat_X5_checkNumber : GoodIn wsX5_eat (va_wsS RX5 58 yX5_checkNumber wsX5_checkNumber) := goodIn_app (goodIn_of _ (by decide +kernel)) ggX5_eat_X5_checkNumber
set_option maxRecDepth 20000 in
theorem ggX5_eat_X2_canBeEaten : GoodIn wsX5_eat wsX2_canBeEaten := goodIn_r _ [16, 17, 18, 19, 20, 15, 21, 22, 23, 24, 25, 26, 27, 28, 29, 30, 31, 32, 33, 34, 35, 36, 37, 38, 39, 40, 41, 42, 43, 44, 45, 57, 58, 59, 60, 61, 62, 63, 64, 65, 66, 67, 68, 69, 70] (by decide +kernel) (by decide +kernel)
set_option maxRecDepth 20000 in
theorem gX5_eat_X2_canBeEaten : GoodIn wsX5_eat (wsV RX5 190 RX2 yX2_canBeEaten wsX2_canBeEaten) := goodIn_app (goodIn_of _ (by decide +kernel)) ggX5_eat_X2_canBeEaten
set_option maxRecDepth 20000 in
theorem ggX5_eat_X2_serve : GoodIn wsX5_eat wsX2_serve := goodIn_r _ [49, 28, 45, 50, 17, 18, 19, 20, 15, 21, 22, 23, 24, 25, 26, 27, 29, 30, 31, 32, 33, 34, 35, 36, 37, 38, 39, 40, 57, 58, 59, 60, 61, 62, 63, 64, 65, 66, 67, 68, 69, 70] (by decide +kernel) (by decide +kernel)
set_option maxRecDepth 20000 in
theorem gX5_eat_X2_serve : GoodIn wsX5_eat (wsV RX5 196 RX2 yX2_serve wsX2_serve) := goodIn_app (goodIn_of _ (by decide +kernel)) ggX5_eat_X2_serve
theorem dX5_eat_0 : decode cX5_eat 0 = .ok (.iload_n 1, 1) := by decide +kernel
theorem dX5_eat_1 : decode cX5_eat 1 = .ok (.aload_n 0, 1) := by decide +kernel
theorem dX5_eat_2 : decode cX5_eat 2 = .ok (.getfield 33, 3) := by decide +kernel
theorem dX5_eat_5 : decode cX5_eat 5 = .ok (.getfield 164, 3) := by decide +kernel
theorem dX5_eat_8 : decode cX5_eat 8 = .ok (.invokestatic 58, 3) := by decide +kernel
theorem dX5_eat_11 : decode cX5_eat 11 = .ok (.aload_n 0, 1) := by decide +kernel
theorem dX5_eat_12 : decode cX5_eat 12 = .ok (.getfield 33, 3) := by decide +kernel
theorem dX5_eat_15 : decode cX5_eat 15 = .ok (.iload_n 1, 1) := by decide +kernel
theorem dX5_eat_16 : decode cX5_eat 16 = .ok (.aload_n 0, 1) := by decide +kernel
theorem dX5_eat_17 : decode cX5_eat 17 = .ok (.getfield 10, 3) := by decide +kernel
theorem dX5_eat_20 : decode cX5_eat 20 = .ok (.invokevirtual 190, 3) := by decide +kernel
theorem dX5_eat_23 : decode cX5_eat 23 = .ok (.ifCond .ne 13, 3) := by decide +kernel
theorem dX5_eat_26 : decode cX5_eat 26 = .ok (.new 51, 3) := by decide +kernel
theorem dX5_eat_29 : decode cX5_eat 29 = .ok (.dup, 1) := by decide +kernel
theorem dX5_eat_30 : decode cX5_eat 30 = .ok (.ldc 194, 2) := by decide +kernel
theorem dX5_eat_32 : decode cX5_eat 32 = .ok (.invokespecial 55, 3) := by decide +kernel
theorem dX5_eat_35 : decode cX5_eat 35 = .ok (.athrow, 1) := by decide +kernel
theorem dX5_eat_36 : decode cX5_eat 36 = .ok (.aload_n 0, 1) := by decide +kernel
theorem dX5_eat_37 : decode cX5_eat 37 = .ok (.getfield 33, 3) := by decide +kernel
theorem dX5_eat_40 : decode cX5_eat 40 = .ok (.iload_n 1, 1) := by decide +kernel
theorem dX5_eat_41 : decode cX5_eat 41 = .ok (.aload_n 0, 1) := by decide +kernel
theorem dX5_eat_42 : decode cX5_eat 42 = .ok (.getfield 10, 3) := by decide +kernel
theorem dX5_eat_45 : decode cX5_eat 45 = .ok (.invokevirtual 196, 3) := by decide +kernel
theorem dX5_eat_48 : decode cX5_eat 48 = .ok (.ireturn, 1) := by decide +kernel
set_option maxRecDepth 20000 in
theorem ggX5_table_X5_checkNumber : GoodIn wsX5_table wsX5_checkNumber := goodIn_ca (goodIn_r _ [7, 8, 9] (by decide +kernel) (by decide +kernel)) (goodIn_sub (fun _ h => List.mem_cons_of_mem _ (List.mem_append_right _ h)) (by decide +kernel))
set_option maxRecDepth 20000 in
theorem gX5_table_X5_checkNumber : GoodIn wsX5_table (va_wsS RX5 58 yX5_checkNumber wsX5_checkNumber) := goodIn_app (goodIn_of _ (by decide +kernel)) ggX5_table_X5_checkNumber
set_option maxRecDepth 20000 in
theorem ggX5_table_X5_hungryScouts : GoodIn wsX5_table wsX5_hungryScouts := goodIn_r _ [13, 3, 14, 1, 15, 16, 17, 18, 19, 20, 21, 22, 58, 59, 60, 61, 62, 63, 70, 71, 72, 73, 74, 75, 76, 77, 64, 65, 66, 67, 68, 69] (by decide +kernel) (by decide +kernel)
set_option maxRecDepth 20000 in
theorem gX5_table_X5_hungryScouts : GoodIn wsX5_table (wsV RX5 199 RX5 yX5_hungryScouts wsX5_hungryScouts) := goodIn_app (goodIn_of _ (by decide +kernel)) ggX5_table_X5_hungryScouts
set_option maxRecDepth 20000 in
theorem ggX5_table_X2_bestMeal : GoodIn wsX5_table wsX2_bestMeal := goodIn_r _ [27, 28, 29, 30, 31, 32, 33, 26, 34, 35, 36, 37, 38, 39, 40, 41, 42, 43, 44, 45, 46, 47, 17, 18, 19, 20, 21, 22, 48, 49, 50, 51, 52, 53, 54, 55, 56, 57, 64, 65, 66, 67, 68, 69, 70, 71, 72, 73, 74, 75, 76, 77] (by decide +kernel) (by decide +kernel)
set_option maxRecDepth 20000 in
theorem gX5_table_X2_bestMeal : GoodIn wsX5_table (wsV RX5 205 RX2 yX2_bestMeal wsX2_bestMeal) := goodIn_app (goodIn_of _ (by decide +kernel)) ggX5_table_X2_bestMeal
theorem dX5_table_0 : decode cX5_table 0 = .ok (.iload_n 1, 1) := by decide +kernel
theorem dX5_table_1 : decode cX5_table 1 = .ok (.iconst 3, 1) := by decide +kernel
theorem dX5_table_2 : decode cX5_table 2 = .ok (.invokestatic 58, 3) := by decide +kernel
theorem dX5_table_5 : decode cX5_table 5 = .ok (.iload_n 1, 1) := by decide +kernel
theorem dX5_table_6 : decode cX5_table 6 = .ok (.lookupswitch 39 #[(0, 26), (1, 31)], 26) := by decide +kernel
theorem dX5_table_32 : decode cX5_table 32 = .ok (.aload_n 0, 1) := by decide +kernel
theorem dX5_table_33 : decode cX5_table 33 = .ok (.invokevirtual 199, 3) := by decide +kernel
theorem dX5_table_36 : decode cX5_table 36 = .ok (.ireturn, 1) := by decide +kernel
theorem dX5_table_37 : decode cX5_table 37 = .ok (.aload_n 0, 1) := by decide +kernel
theorem dX5_table_38 : decode cX5_table 38 = .ok (.getfield 33, 3) := by decide +kernel
theorem dX5_table_41 : decode cX5_table 41 = .ok (.getfield 202, 3) := by decide +kernel
theorem dX5_table_44 : decode cX5_table 44 = .ok (.ireturn, 1) := by decide +kernel
theorem dX5_table_45 : decode cX5_table 45 = .ok (.aload_n 0, 1) := by decide +kernel
theorem dX5_table_46 : decode cX5_table 46 = .ok (.getfield 33, 3) := by decide +kernel
theorem dX5_table_49 : decode cX5_table 49 = .ok (.aload_n 0, 1) := by decide +kernel
theorem dX5_table_50 : decode cX5_table 50 = .ok (.getfield 10, 3) := by decide +kernel
theorem dX5_table_53 : decode cX5_table 53 = .ok (.invokevirtual 205, 3) := by decide +kernel
theorem dX5_table_56 : decode cX5_table 56 = .ok (.ireturn, 1) := by decide +kernel
set_option maxRecDepth 20000 in
theorem ggX5_addBadge_X5_checkArgument : GoodIn wsX5_addBadge wsX5_checkArgument := goodIn_ca (goodIn_r _ [9, 10, 11] (by decide +kernel) (by decide +kernel)) (goodIn_sub (fun _ h => List.mem_cons_of_mem _ (List.mem_append_right _ h)) (by decide +kernel))
set_option maxRecDepth 20000 in
theorem gX5_addBadge_X5_checkArgument : GoodIn wsX5_addBadge (va_wsS RX5 62 yX5_checkArgument wsX5_checkArgument) := goodIn_app (goodIn_of _ (by decide +kernel)) ggX5_addBadge_X5_checkArgument
theorem dX5_addBadge_0 : decode cX5_addBadge 0 = .ok (.iload_n 1, 1) := by decide +kernel
theorem dX5_addBadge_1 : decode cX5_addBadge 1 = .ok (.bipush 6, 2) := by decide +kernel
theorem dX5_addBadge_3 : decode cX5_addBadge 3 = .ok (.bipush 17, 2) := by decide +kernel
theorem dX5_addBadge_5 : decode cX5_addBadge 5 = .ok (.invokestatic 62, 3) := by decide +kernel
theorem dX5_addBadge_8 : decode cX5_addBadge 8 = .ok (.aload_n 0, 1) := by decide +kernel
theorem dX5_addBadge_9 : decode cX5_addBadge 9 = .ok (.getfield 40, 3) := by decide +kernel
theorem dX5_addBadge_12 : decode cX5_addBadge 12 = .ok (.getfield 209, 3) := by decide +kernel
theorem dX5_addBadge_15 : decode cX5_addBadge 15 = .ok (.bipush 8, 2) := by decide +kernel
theorem dX5_addBadge_17 : decode cX5_addBadge 17 = .ok (.if_icmp .lt 13, 3) := by decide +kernel
theorem dX5_addBadge_20 : decode cX5_addBadge 20 = .ok (.new 51, 3) := by decide +kernel
theorem dX5_addBadge_23 : decode cX5_addBadge 23 = .ok (.dup, 1) := by decide +kernel
theorem dX5_addBadge_24 : decode cX5_addBadge 24 = .ok (.ldc 210, 2) := by decide +kernel
theorem dX5_addBadge_26 : decode cX5_addBadge 26 = .ok (.invokespecial 55, 3) := by decide +kernel
theorem dX5_addBadge_29 : decode cX5_addBadge 29 = .ok (.athrow, 1) := by decide +kernel
theorem dX5_addBadge_30 : decode cX5_addBadge 30 = .ok (.aload_n 0, 1) := by decide +kernel
theorem dX5_addBadge_31 : decode cX5_addBadge 31 = .ok (.getfield 40, 3) := by decide +kernel
theorem dX5_addBadge_34 : decode cX5_addBadge 34 = .ok (.getfield 212, 3) := by decide +kernel
theorem dX5_addBadge_37 : decode cX5_addBadge 37 = .ok (.aload_n 0, 1) := by decide +kernel
theorem dX5_addBadge_38 : decode cX5_addBadge 38 = .ok (.getfield 40, 3) := by decide +kernel
theorem dX5_addBadge_41 : decode cX5_addBadge 41 = .ok (.getfield 209, 3) := by decide +kernel
theorem dX5_addBadge_44 : decode cX5_addBadge 44 = .ok (.iload_n 1, 1) := by decide +kernel
theorem dX5_addBadge_45 : decode cX5_addBadge 45 = .ok (.iastore, 1) := by decide +kernel
theorem dX5_addBadge_46 : decode cX5_addBadge 46 = .ok (.aload_n 0, 1) := by decide +kernel
theorem dX5_addBadge_47 : decode cX5_addBadge 47 = .ok (.getfield 40, 3) := by decide +kernel
theorem dX5_addBadge_50 : decode cX5_addBadge 50 = .ok (.dup, 1) := by decide +kernel
theorem dX5_addBadge_51 : decode cX5_addBadge 51 = .ok (.getfield 209, 3) := by decide +kernel
theorem dX5_addBadge_54 : decode cX5_addBadge 54 = .ok (.iconst 1, 1) := by decide +kernel
theorem dX5_addBadge_55 : decode cX5_addBadge 55 = .ok (.iadd, 1) := by decide +kernel
theorem dX5_addBadge_56 : decode cX5_addBadge 56 = .ok (.putfield 209, 3) := by decide +kernel
theorem dX5_addBadge_59 : decode cX5_addBadge 59 = .ok (.aload_n 0, 1) := by decide +kernel
theorem dX5_addBadge_60 : decode cX5_addBadge 60 = .ok (.getfield 40, 3) := by decide +kernel
theorem dX5_addBadge_63 : decode cX5_addBadge 63 = .ok (.getfield 209, 3) := by decide +kernel
theorem dX5_addBadge_66 : decode cX5_addBadge 66 = .ok (.iconst 1, 1) := by decide +kernel
theorem dX5_addBadge_67 : decode cX5_addBadge 67 = .ok (.isub, 1) := by decide +kernel
theorem dX5_addBadge_68 : decode cX5_addBadge 68 = .ok (.ireturn, 1) := by decide +kernel
set_option maxRecDepth 20000 in
theorem ggX5_want_X5_checkNumber : GoodIn wsX5_want wsX5_checkNumber := goodIn_ca (goodIn_r _ [7, 8, 9] (by decide +kernel) (by decide +kernel)) (goodIn_sub (fun _ h => List.mem_cons_of_mem _ (List.mem_append_left _ (List.mem_append_right _ h))) (by decide +kernel))
set_option maxRecDepth 20000 in
theorem gX5_want_X5_checkNumber : GoodIn wsX5_want (va_wsS RX5 58 yX5_checkNumber wsX5_checkNumber) := goodIn_app (goodIn_of _ (by decide +kernel)) ggX5_want_X5_checkNumber
set_option maxRecDepth 20000 in
theorem ggX5_want_X5_checkArgument : GoodIn wsX5_want wsX5_checkArgument := goodIn_ca (goodIn_r _ [12, 13, 14] (by decide +kernel) (by decide +kernel)) (goodIn_sub (fun _ h => List.mem_cons_of_mem _ (List.mem_append_right _ h)) (by decide +kernel))
set_option maxRecDepth 20000 in
theorem gX5_want_X5_checkArgument : GoodIn wsX5_want (va_wsS RX5 62 yX5_checkArgument wsX5_checkArgument) := goodIn_app (goodIn_of _ (by decide +kernel)) ggX5_want_X5_checkArgument
theorem dX5_want_0 : decode cX5_want 0 = .ok (.iload_n 1, 1) := by decide +kernel
theorem dX5_want_1 : decode cX5_want 1 = .ok (.aload_n 0, 1) := by decide +kernel
theorem dX5_want_2 : decode cX5_want 2 = .ok (.getfield 40, 3) := by decide +kernel
theorem dX5_want_5 : decode cX5_want 5 = .ok (.getfield 209, 3) := by decide +kernel
theorem dX5_want_8 : decode cX5_want 8 = .ok (.invokestatic 58, 3) := by decide +kernel
theorem dX5_want_11 : decode cX5_want 11 = .ok (.iload_n 2, 1) := by decide +kernel
theorem dX5_want_12 : decode cX5_want 12 = .ok (.bipush 10, 2) := by decide +kernel
theorem dX5_want_14 : decode cX5_want 14 = .ok (.invokestatic 58, 3) := by decide +kernel
theorem dX5_want_17 : decode cX5_want 17 = .ok (.iload_n 3, 1) := by decide +kernel
theorem dX5_want_18 : decode cX5_want 18 = .ok (.iconst 0, 1) := by decide +kernel
theorem dX5_want_19 : decode cX5_want 19 = .ok (.bipush 100, 2) := by decide +kernel
theorem dX5_want_21 : decode cX5_want 21 = .ok (.invokestatic 62, 3) := by decide +kernel
theorem dX5_want_24 : decode cX5_want 24 = .ok (.iload_n 1, 1) := by decide +kernel
theorem dX5_want_25 : decode cX5_want 25 = .ok (.bipush 10, 2) := by decide +kernel
theorem dX5_want_27 : decode cX5_want 27 = .ok (.imul, 1) := by decide +kernel
theorem dX5_want_28 : decode cX5_want 28 = .ok (.iload_n 2, 1) := by decide +kernel
theorem dX5_want_29 : decode cX5_want 29 = .ok (.iadd, 1) := by decide +kernel
theorem dX5_want_30 : decode cX5_want 30 = .ok (.istore 4, 2) := by decide +kernel
theorem dX5_want_32 : decode cX5_want 32 = .ok (.aload_n 0, 1) := by decide +kernel
theorem dX5_want_33 : decode cX5_want 33 = .ok (.getfield 40, 3) := by decide +kernel
theorem dX5_want_36 : decode cX5_want 36 = .ok (.getfield 215, 3) := by decide +kernel
theorem dX5_want_39 : decode cX5_want 39 = .ok (.iload 4, 2) := by decide +kernel
theorem dX5_want_41 : decode cX5_want 41 = .ok (.iaload, 1) := by decide +kernel
theorem dX5_want_42 : decode cX5_want 42 = .ok (.istore 5, 2) := by decide +kernel
theorem dX5_want_44 : decode cX5_want 44 = .ok (.aload_n 0, 1) := by decide +kernel
theorem dX5_want_45 : decode cX5_want 45 = .ok (.getfield 40, 3) := by decide +kernel
theorem dX5_want_48 : decode cX5_want 48 = .ok (.getfield 215, 3) := by decide +kernel
theorem dX5_want_51 : decode cX5_want 51 = .ok (.iload 4, 2) := by decide +kernel
theorem dX5_want_53 : decode cX5_want 53 = .ok (.iload_n 3, 1) := by decide +kernel
theorem dX5_want_54 : decode cX5_want 54 = .ok (.iastore, 1) := by decide +kernel
theorem dX5_want_55 : decode cX5_want 55 = .ok (.iload 5, 2) := by decide +kernel
theorem dX5_want_57 : decode cX5_want 57 = .ok (.ireturn, 1) := by decide +kernel
set_option maxRecDepth 20000 in
theorem ggX5_practise_X5_checkNumber : GoodIn wsX5_practise wsX5_checkNumber := goodIn_ca (goodIn_r _ [6, 7, 8] (by decide +kernel) (by decide +kernel)) (goodIn_sub (fun _ h => List.mem_cons_of_mem _ (List.mem_append_left _ (List.mem_append_right _ h))) (by decide +kernel))
set_option maxRecDepth 20000 in
theorem gX5_practise_X5_checkNumber : GoodIn wsX5_practise (va_wsS RX5 58 yX5_checkNumber wsX5_checkNumber) := goodIn_app (goodIn_of _ (by decide +kernel)) ggX5_practise_X5_checkNumber
set_option maxRecDepth 20000 in
theorem ggX5_practise_X5_checkArgument : GoodIn wsX5_practise wsX5_checkArgument := goodIn_ca (goodIn_r _ [11, 12, 13] (by decide +kernel) (by decide +kernel)) (goodIn_sub (fun _ h => List.mem_cons_of_mem _ (List.mem_append_right _ h)) (by decide +kernel))
set_option maxRecDepth 20000 in
theorem gX5_practise_X5_checkArgument : GoodIn wsX5_practise (va_wsS RX5 62 yX5_checkArgument wsX5_checkArgument) := goodIn_app (goodIn_of _ (by decide +kernel)) ggX5_practise_X5_checkArgument
set_option maxRecDepth 20000 in
theorem ggX5_practise_X3_train : GoodIn wsX5_practise wsX3_train := goodIn_r _ [18, 19, 20, 21, 28, 29, 30, 31, 32, 33, 34, 35] (by decide +kernel) (by decide +kernel)
set_option maxRecDepth 20000 in
theorem gX5_practise_X3_train : GoodIn wsX5_practise (wsV RX5 218 RX3 yX3_train wsX3_train) := goodIn_app (goodIn_of _ (by decide +kernel)) ggX5_practise_X3_train
theorem dX5_practise_0 : decode cX5_practise 0 = .ok (.iload_n 1, 1) := by decide +kernel
theorem dX5_practise_1 : decode cX5_practise 1 = .ok (.aload_n 0, 1) := by decide +kernel
theorem dX5_practise_2 : decode cX5_practise 2 = .ok (.getfield 10, 3) := by decide +kernel
theorem dX5_practise_5 : decode cX5_practise 5 = .ok (.getfield 48, 3) := by decide +kernel
theorem dX5_practise_8 : decode cX5_practise 8 = .ok (.invokestatic 58, 3) := by decide +kernel
theorem dX5_practise_11 : decode cX5_practise 11 = .ok (.iload_n 2, 1) := by decide +kernel
theorem dX5_practise_12 : decode cX5_practise 12 = .ok (.bipush 10, 2) := by decide +kernel
theorem dX5_practise_14 : decode cX5_practise 14 = .ok (.invokestatic 58, 3) := by decide +kernel
theorem dX5_practise_17 : decode cX5_practise 17 = .ok (.iload_n 3, 1) := by decide +kernel
theorem dX5_practise_18 : decode cX5_practise 18 = .ok (.iconst 1, 1) := by decide +kernel
theorem dX5_practise_19 : decode cX5_practise 19 = .ok (.bipush 24, 2) := by decide +kernel
theorem dX5_practise_21 : decode cX5_practise 21 = .ok (.invokestatic 62, 3) := by decide +kernel
theorem dX5_practise_24 : decode cX5_practise 24 = .ok (.aload_n 0, 1) := by decide +kernel
theorem dX5_practise_25 : decode cX5_practise 25 = .ok (.getfield 10, 3) := by decide +kernel
theorem dX5_practise_28 : decode cX5_practise 28 = .ok (.iload_n 1, 1) := by decide +kernel
theorem dX5_practise_29 : decode cX5_practise 29 = .ok (.iload_n 2, 1) := by decide +kernel
theorem dX5_practise_30 : decode cX5_practise 30 = .ok (.iload_n 3, 1) := by decide +kernel
theorem dX5_practise_31 : decode cX5_practise 31 = .ok (.invokevirtual 218, 3) := by decide +kernel
theorem dX5_practise_34 : decode cX5_practise 34 = .ok (.ireturn, 1) := by decide +kernel
set_option maxRecDepth 20000 in
theorem ggX5_away_X5_checkNumber : GoodIn wsX5_away wsX5_checkNumber := goodIn_ca (goodIn_r _ [8, 9, 10] (by decide +kernel) (by decide +kernel)) (goodIn_sub (fun _ h => List.mem_cons_of_mem _ (List.mem_append_right _ h)) (by decide +kernel))
set_option maxRecDepth 20000 in
theorem gX5_away_X5_checkNumber : GoodIn wsX5_away (va_wsS RX5 58 yX5_checkNumber wsX5_checkNumber) := goodIn_app (goodIn_of _ (by decide +kernel)) ggX5_away_X5_checkNumber
set_option maxRecDepth 20000 in
theorem ggX5_away_X0_distance : GoodIn wsX5_away wsX0_distance := goodIn_r _ [15, 16, 17, 18, 19, 20, 21, 14, 22, 23, 24, 25, 26, 27, 28, 29, 30, 31, 32, 33, 40, 41, 42, 43, 44, 45, 46, 47, 48, 49, 50] (by decide +kernel) (by decide +kernel)
set_option maxRecDepth 20000 in
theorem gX5_away_X0_distance : GoodIn wsX5_away (wsV RX5 221 RX0 yX0_distance wsX0_distance) := goodIn_app (goodIn_of _ (by decide +kernel)) ggX5_away_X0_distance
theorem dX5_away_0 : decode cX5_away 0 = .ok (.iload_n 1, 1) := by decide +kernel
theorem dX5_away_1 : decode cX5_away 1 = .ok (.aload_n 0, 1) := by decide +kernel
theorem dX5_away_2 : decode cX5_away 2 = .ok (.getfield 10, 3) := by decide +kernel
theorem dX5_away_5 : decode cX5_away 5 = .ok (.getfield 66, 3) := by decide +kernel
theorem dX5_away_8 : decode cX5_away 8 = .ok (.invokestatic 58, 3) := by decide +kernel
theorem dX5_away_11 : decode cX5_away 11 = .ok (.iload_n 2, 1) := by decide +kernel
theorem dX5_away_12 : decode cX5_away 12 = .ok (.aload_n 0, 1) := by decide +kernel
theorem dX5_away_13 : decode cX5_away 13 = .ok (.getfield 40, 3) := by decide +kernel
theorem dX5_away_16 : decode cX5_away 16 = .ok (.getfield 209, 3) := by decide +kernel
theorem dX5_away_19 : decode cX5_away 19 = .ok (.invokestatic 58, 3) := by decide +kernel
theorem dX5_away_22 : decode cX5_away 22 = .ok (.aload_n 0, 1) := by decide +kernel
theorem dX5_away_23 : decode cX5_away 23 = .ok (.getfield 40, 3) := by decide +kernel
theorem dX5_away_26 : decode cX5_away 26 = .ok (.iload_n 1, 1) := by decide +kernel
theorem dX5_away_27 : decode cX5_away 27 = .ok (.iload_n 2, 1) := by decide +kernel
theorem dX5_away_28 : decode cX5_away 28 = .ok (.aload_n 0, 1) := by decide +kernel
theorem dX5_away_29 : decode cX5_away 29 = .ok (.getfield 10, 3) := by decide +kernel
theorem dX5_away_32 : decode cX5_away 32 = .ok (.invokevirtual 221, 3) := by decide +kernel
theorem dX5_away_35 : decode cX5_away 35 = .ok (.ireturn, 1) := by decide +kernel
set_option maxRecDepth 20000 in
theorem ggX5_earn_X5_checkNumber : GoodIn wsX5_earn wsX5_checkNumber := goodIn_ca (goodIn_r _ [11, 12, 13] (by decide +kernel) (by decide +kernel)) (goodIn_sub (fun _ h => List.mem_cons_of_mem _ (List.mem_append_right _ h)) (by decide +kernel))
set_option maxRecDepth 20000 in
theorem gX5_earn_X5_checkNumber : GoodIn wsX5_earn (va_wsS RX5 58 yX5_checkNumber wsX5_checkNumber) := goodIn_app (goodIn_of _ (by decide +kernel)) ggX5_earn_X5_checkNumber
set_option maxRecDepth 20000 in
theorem ggX5_earn_X0_distance : GoodIn wsX5_earn wsX0_distance := goodIn_r _ [18, 19, 20, 21, 22, 23, 24, 17, 25, 26, 27, 28, 29, 30, 31, 32, 33, 34, 35, 36, 50, 51, 52, 53, 54, 55, 56, 57, 58, 59, 60] (by decide +kernel) (by decide +kernel)
set_option maxRecDepth 20000 in
theorem gX5_earn_X0_distance : GoodIn wsX5_earn (wsV RX5 221 RX0 yX0_distance wsX0_distance) := goodIn_app (goodIn_of _ (by decide +kernel)) ggX5_earn_X0_distance
set_option maxRecDepth 20000 in
theorem ggX5_earn_J6_bitCount_0f7a4 : GoodIn wsX5_earn wsJ6_bitCount_0f7a4 := goodIn_r _ [40, 41, 42, 43] (by decide +kernel) (by decide +kernel)
set_option maxRecDepth 20000 in
theorem gX5_earn_J6_bitCount_0f7a4 : GoodIn wsX5_earn (va_wsS RX5 228 yJ6_bitCount_0f7a4 wsJ6_bitCount_0f7a4) := goodIn_app (goodIn_of _ (by decide +kernel)) ggX5_earn_J6_bitCount_0f7a4
theorem dX5_earn_0 : decode cX5_earn 0 = .ok (.iload_n 1, 1) := by decide +kernel
theorem dX5_earn_1 : decode cX5_earn 1 = .ok (.aload_n 0, 1) := by decide +kernel
theorem dX5_earn_2 : decode cX5_earn 2 = .ok (.getfield 10, 3) := by decide +kernel
theorem dX5_earn_5 : decode cX5_earn 5 = .ok (.getfield 66, 3) := by decide +kernel
theorem dX5_earn_8 : decode cX5_earn 8 = .ok (.invokestatic 58, 3) := by decide +kernel
theorem dX5_earn_11 : decode cX5_earn 11 = .ok (.iload_n 2, 1) := by decide +kernel
theorem dX5_earn_12 : decode cX5_earn 12 = .ok (.aload_n 0, 1) := by decide +kernel
theorem dX5_earn_13 : decode cX5_earn 13 = .ok (.getfield 40, 3) := by decide +kernel
theorem dX5_earn_16 : decode cX5_earn 16 = .ok (.getfield 209, 3) := by decide +kernel
theorem dX5_earn_19 : decode cX5_earn 19 = .ok (.invokestatic 58, 3) := by decide +kernel
theorem dX5_earn_22 : decode cX5_earn 22 = .ok (.aload_n 0, 1) := by decide +kernel
theorem dX5_earn_23 : decode cX5_earn 23 = .ok (.getfield 40, 3) := by decide +kernel
theorem dX5_earn_26 : decode cX5_earn 26 = .ok (.iload_n 1, 1) := by decide +kernel
theorem dX5_earn_27 : decode cX5_earn 27 = .ok (.iload_n 2, 1) := by decide +kernel
theorem dX5_earn_28 : decode cX5_earn 28 = .ok (.aload_n 0, 1) := by decide +kernel
theorem dX5_earn_29 : decode cX5_earn 29 = .ok (.getfield 10, 3) := by decide +kernel
theorem dX5_earn_32 : decode cX5_earn 32 = .ok (.invokevirtual 221, 3) := by decide +kernel
theorem dX5_earn_35 : decode cX5_earn 35 = .ok (.ifCond .eq 13, 3) := by decide +kernel
theorem dX5_earn_38 : decode cX5_earn 38 = .ok (.new 51, 3) := by decide +kernel
theorem dX5_earn_41 : decode cX5_earn 41 = .ok (.dup, 1) := by decide +kernel
theorem dX5_earn_42 : decode cX5_earn 42 = .ok (.ldc 224, 2) := by decide +kernel
theorem dX5_earn_44 : decode cX5_earn 44 = .ok (.invokespecial 55, 3) := by decide +kernel
theorem dX5_earn_47 : decode cX5_earn 47 = .ok (.athrow, 1) := by decide +kernel
theorem dX5_earn_48 : decode cX5_earn 48 = .ok (.aload_n 0, 1) := by decide +kernel
theorem dX5_earn_49 : decode cX5_earn 49 = .ok (.getfield 10, 3) := by decide +kernel
theorem dX5_earn_52 : decode cX5_earn 52 = .ok (.getfield 226, 3) := by decide +kernel
theorem dX5_earn_55 : decode cX5_earn 55 = .ok (.iload_n 1, 1) := by decide +kernel
theorem dX5_earn_56 : decode cX5_earn 56 = .ok (.dup2, 1) := by decide +kernel
theorem dX5_earn_57 : decode cX5_earn 57 = .ok (.iaload, 1) := by decide +kernel
theorem dX5_earn_58 : decode cX5_earn 58 = .ok (.iconst 1, 1) := by decide +kernel
theorem dX5_earn_59 : decode cX5_earn 59 = .ok (.iload_n 2, 1) := by decide +kernel
theorem dX5_earn_60 : decode cX5_earn 60 = .ok (.ishl, 1) := by decide +kernel
theorem dX5_earn_61 : decode cX5_earn 61 = .ok (.ior, 1) := by decide +kernel
theorem dX5_earn_62 : decode cX5_earn 62 = .ok (.iastore, 1) := by decide +kernel
theorem dX5_earn_63 : decode cX5_earn 63 = .ok (.aload_n 0, 1) := by decide +kernel
theorem dX5_earn_64 : decode cX5_earn 64 = .ok (.getfield 10, 3) := by decide +kernel
theorem dX5_earn_67 : decode cX5_earn 67 = .ok (.getfield 226, 3) := by decide +kernel
theorem dX5_earn_70 : decode cX5_earn 70 = .ok (.iload_n 1, 1) := by decide +kernel
theorem dX5_earn_71 : decode cX5_earn 71 = .ok (.iaload, 1) := by decide +kernel
theorem dX5_earn_72 : decode cX5_earn 72 = .ok (.invokestatic 228, 3) := by decide +kernel
theorem dX5_earn_75 : decode cX5_earn 75 = .ok (.ireturn, 1) := by decide +kernel
set_option maxRecDepth 20000 in
theorem ggX5_end_X2_clearTable : GoodIn wsX5_end wsX2_clearTable := goodIn_r _ [9, 10, 11, 18, 19, 20, 21, 22, 23] (by decide +kernel) (by decide +kernel)
set_option maxRecDepth 20000 in
theorem gX5_end_X2_clearTable : GoodIn wsX5_end (wsV RX5 257 RX2 yX2_clearTable wsX2_clearTable) := goodIn_app (goodIn_of _ (by decide +kernel)) ggX5_end_X2_clearTable
theorem dX5_end_0 : decode cX5_end 0 = .ok (.aload_n 0, 1) := by decide +kernel
theorem dX5_end_1 : decode cX5_end 1 = .ok (.getfield 44, 3) := by decide +kernel
theorem dX5_end_4 : decode cX5_end 4 = .ok (.bipush 60, 2) := by decide +kernel
theorem dX5_end_6 : decode cX5_end 6 = .ok (.if_icmp .lt 13, 3) := by decide +kernel
theorem dX5_end_9 : decode cX5_end 9 = .ok (.new 51, 3) := by decide +kernel
theorem dX5_end_12 : decode cX5_end 12 = .ok (.dup, 1) := by decide +kernel
theorem dX5_end_13 : decode cX5_end 13 = .ok (.ldc 255, 2) := by decide +kernel
theorem dX5_end_15 : decode cX5_end 15 = .ok (.invokespecial 55, 3) := by decide +kernel
theorem dX5_end_18 : decode cX5_end 18 = .ok (.athrow, 1) := by decide +kernel
theorem dX5_end_19 : decode cX5_end 19 = .ok (.aload_n 0, 1) := by decide +kernel
theorem dX5_end_20 : decode cX5_end 20 = .ok (.getfield 33, 3) := by decide +kernel
theorem dX5_end_23 : decode cX5_end 23 = .ok (.invokevirtual 257, 3) := by decide +kernel
theorem dX5_end_26 : decode cX5_end 26 = .ok (.aload_n 0, 1) := by decide +kernel
theorem dX5_end_27 : decode cX5_end 27 = .ok (.dup, 1) := by decide +kernel
theorem dX5_end_28 : decode cX5_end 28 = .ok (.getfield 44, 3) := by decide +kernel
theorem dX5_end_31 : decode cX5_end 31 = .ok (.iconst 1, 1) := by decide +kernel
theorem dX5_end_32 : decode cX5_end 32 = .ok (.iadd, 1) := by decide +kernel
theorem dX5_end_33 : decode cX5_end 33 = .ok (.putfield 44, 3) := by decide +kernel
theorem dX5_end_36 : decode cX5_end 36 = .ok (.aload_n 0, 1) := by decide +kernel
theorem dX5_end_37 : decode cX5_end 37 = .ok (.getfield 44, 3) := by decide +kernel
theorem dX5_end_40 : decode cX5_end 40 = .ok (.ireturn, 1) := by decide +kernel
theorem dX5_checkNumber_0 : decode cX5_checkNumber 0 = .ok (.iload_n 0, 1) := by decide +kernel
theorem dX5_checkNumber_1 : decode cX5_checkNumber 1 = .ok (.ifCond .lt 8, 3) := by decide +kernel
theorem dX5_checkNumber_4 : decode cX5_checkNumber 4 = .ok (.iload_n 0, 1) := by decide +kernel
theorem dX5_checkNumber_5 : decode cX5_checkNumber 5 = .ok (.iload_n 1, 1) := by decide +kernel
theorem dX5_checkNumber_6 : decode cX5_checkNumber 6 = .ok (.if_icmp .lt 14, 3) := by decide +kernel
theorem dX5_checkNumber_9 : decode cX5_checkNumber 9 = .ok (.new 273, 3) := by decide +kernel
theorem dX5_checkNumber_12 : decode cX5_checkNumber 12 = .ok (.dup, 1) := by decide +kernel
theorem dX5_checkNumber_13 : decode cX5_checkNumber 13 = .ok (.ldc_w 275, 3) := by decide +kernel
theorem dX5_checkNumber_16 : decode cX5_checkNumber 16 = .ok (.invokespecial 277, 3) := by decide +kernel
theorem dX5_checkNumber_19 : decode cX5_checkNumber 19 = .ok (.athrow, 1) := by decide +kernel
theorem dX5_checkNumber_20 : decode cX5_checkNumber 20 = .ok (.return_, 1) := by decide +kernel
set_option maxRecDepth 20000 in
theorem ggX5_checkNumberOrNone_X5_checkNumber : GoodIn wsX5_checkNumberOrNone wsX5_checkNumber := goodIn_ca (goodIn_r _ [4, 5, 6] (by decide +kernel) (by decide +kernel)) (goodIn_sub (fun _ h => List.mem_cons_of_mem _ (List.mem_append_right _ h)) (by decide +kernel))
set_option maxRecDepth 20000 in
theorem gX5_checkNumberOrNone_X5_checkNumber : GoodIn wsX5_checkNumberOrNone (va_wsS RX5 58 yX5_checkNumber wsX5_checkNumber) := goodIn_app (goodIn_of _ (by decide +kernel)) ggX5_checkNumberOrNone_X5_checkNumber
theorem dX5_checkNumberOrNone_0 : decode cX5_checkNumberOrNone 0 = .ok (.iload_n 0, 1) := by decide +kernel
theorem dX5_checkNumberOrNone_1 : decode cX5_checkNumberOrNone 1 = .ok (.iconst (-1), 1) := by decide +kernel
theorem dX5_checkNumberOrNone_2 : decode cX5_checkNumberOrNone 2 = .ok (.if_icmp .eq 8, 3) := by decide +kernel
theorem dX5_checkNumberOrNone_5 : decode cX5_checkNumberOrNone 5 = .ok (.iload_n 0, 1) := by decide +kernel
theorem dX5_checkNumberOrNone_6 : decode cX5_checkNumberOrNone 6 = .ok (.iload_n 1, 1) := by decide +kernel
theorem dX5_checkNumberOrNone_7 : decode cX5_checkNumberOrNone 7 = .ok (.invokestatic 58, 3) := by decide +kernel
theorem dX5_checkNumberOrNone_10 : decode cX5_checkNumberOrNone 10 = .ok (.return_, 1) := by decide +kernel
theorem dX5_checkArgument_0 : decode cX5_checkArgument 0 = .ok (.iload_n 0, 1) := by decide +kernel
theorem dX5_checkArgument_1 : decode cX5_checkArgument 1 = .ok (.iload_n 1, 1) := by decide +kernel
theorem dX5_checkArgument_2 : decode cX5_checkArgument 2 = .ok (.if_icmp .lt 8, 3) := by decide +kernel
theorem dX5_checkArgument_5 : decode cX5_checkArgument 5 = .ok (.iload_n 0, 1) := by decide +kernel
theorem dX5_checkArgument_6 : decode cX5_checkArgument 6 = .ok (.iload_n 2, 1) := by decide +kernel
theorem dX5_checkArgument_7 : decode cX5_checkArgument 7 = .ok (.if_icmp .le 14, 3) := by decide +kernel
theorem dX5_checkArgument_10 : decode cX5_checkArgument 10 = .ok (.new 238, 3) := by decide +kernel
theorem dX5_checkArgument_13 : decode cX5_checkArgument 13 = .ok (.dup, 1) := by decide +kernel
theorem dX5_checkArgument_14 : decode cX5_checkArgument 14 = .ok (.ldc_w 278, 3) := by decide +kernel
theorem dX5_checkArgument_17 : decode cX5_checkArgument 17 = .ok (.invokespecial 242, 3) := by decide +kernel
theorem dX5_checkArgument_20 : decode cX5_checkArgument 20 = .ok (.athrow, 1) := by decide +kernel
theorem dX5_checkArgument_21 : decode cX5_checkArgument 21 = .ok (.return_, 1) := by decide +kernel
set_option maxRecDepth 20000 in
theorem ggX5_factOf_X4_tentOf : GoodIn wsX5_factOf wsX4_tentOf := goodIn_r _ [12, 13, 14, 39, 40, 41] (by decide +kernel) (by decide +kernel)
set_option maxRecDepth 20000 in
theorem gX5_factOf_X4_tentOf : GoodIn wsX5_factOf (wsV RX5 91 RX4 yX4_tentOf wsX4_tentOf) := goodIn_app (goodIn_of _ (by decide +kernel)) ggX5_factOf_X4_tentOf
set_option maxRecDepth 20000 in
theorem ggX5_factOf_X3_allHours : GoodIn wsX5_factOf wsX3_allHours := goodIn_r _ [19, 20, 21, 22, 18, 23, 24, 31, 32, 33, 34, 35, 36, 37, 38] (by decide +kernel) (by decide +kernel)
set_option maxRecDepth 20000 in
theorem gX5_factOf_X3_allHours : GoodIn wsX5_factOf (wsV RX5 286 RX3 yX3_allHours wsX3_allHours) := goodIn_app (goodIn_of _ (by decide +kernel)) ggX5_factOf_X3_allHours
theorem dX5_factOf_0 : decode cX5_factOf 0 = .ok (.iload_n 2, 1) := by decide +kernel
theorem dX5_factOf_1 : decode cX5_factOf 1 = .ok (.tableswitch 98 0 5 #[39, 49, 59, 69, 79, 88], 39) := by decide +kernel
theorem dX5_factOf_40 : decode cX5_factOf 40 = .ok (.aload_n 0, 1) := by decide +kernel
theorem dX5_factOf_41 : decode cX5_factOf 41 = .ok (.getfield 10, 3) := by decide +kernel
theorem dX5_factOf_44 : decode cX5_factOf 44 = .ok (.getfield 280, 3) := by decide +kernel
theorem dX5_factOf_47 : decode cX5_factOf 47 = .ok (.iload_n 1, 1) := by decide +kernel
theorem dX5_factOf_48 : decode cX5_factOf 48 = .ok (.iaload, 1) := by decide +kernel
theorem dX5_factOf_49 : decode cX5_factOf 49 = .ok (.ireturn, 1) := by decide +kernel
theorem dX5_factOf_50 : decode cX5_factOf 50 = .ok (.aload_n 0, 1) := by decide +kernel
theorem dX5_factOf_51 : decode cX5_factOf 51 = .ok (.getfield 10, 3) := by decide +kernel
theorem dX5_factOf_54 : decode cX5_factOf 54 = .ok (.getfield 112, 3) := by decide +kernel
theorem dX5_factOf_57 : decode cX5_factOf 57 = .ok (.iload_n 1, 1) := by decide +kernel
theorem dX5_factOf_58 : decode cX5_factOf 58 = .ok (.iaload, 1) := by decide +kernel
theorem dX5_factOf_59 : decode cX5_factOf 59 = .ok (.ireturn, 1) := by decide +kernel
theorem dX5_factOf_60 : decode cX5_factOf 60 = .ok (.aload_n 0, 1) := by decide +kernel
theorem dX5_factOf_61 : decode cX5_factOf 61 = .ok (.getfield 10, 3) := by decide +kernel
theorem dX5_factOf_64 : decode cX5_factOf 64 = .ok (.getfield 283, 3) := by decide +kernel
theorem dX5_factOf_67 : decode cX5_factOf 67 = .ok (.iload_n 1, 1) := by decide +kernel
theorem dX5_factOf_68 : decode cX5_factOf 68 = .ok (.iaload, 1) := by decide +kernel
theorem dX5_factOf_69 : decode cX5_factOf 69 = .ok (.ireturn, 1) := by decide +kernel
theorem dX5_factOf_70 : decode cX5_factOf 70 = .ok (.aload_n 0, 1) := by decide +kernel
theorem dX5_factOf_71 : decode cX5_factOf 71 = .ok (.getfield 10, 3) := by decide +kernel
theorem dX5_factOf_74 : decode cX5_factOf 74 = .ok (.getfield 161, 3) := by decide +kernel
theorem dX5_factOf_77 : decode cX5_factOf 77 = .ok (.iload_n 1, 1) := by decide +kernel
theorem dX5_factOf_78 : decode cX5_factOf 78 = .ok (.iaload, 1) := by decide +kernel
theorem dX5_factOf_79 : decode cX5_factOf 79 = .ok (.ireturn, 1) := by decide +kernel
theorem dX5_factOf_80 : decode cX5_factOf 80 = .ok (.aload_n 0, 1) := by decide +kernel
theorem dX5_factOf_81 : decode cX5_factOf 81 = .ok (.getfield 19, 3) := by decide +kernel
theorem dX5_factOf_84 : decode cX5_factOf 84 = .ok (.iload_n 1, 1) := by decide +kernel
theorem dX5_factOf_85 : decode cX5_factOf 85 = .ok (.invokevirtual 91, 3) := by decide +kernel
theorem dX5_factOf_88 : decode cX5_factOf 88 = .ok (.ireturn, 1) := by decide +kernel
theorem dX5_factOf_89 : decode cX5_factOf 89 = .ok (.aload_n 0, 1) := by decide +kernel
theorem dX5_factOf_90 : decode cX5_factOf 90 = .ok (.getfield 10, 3) := by decide +kernel
theorem dX5_factOf_93 : decode cX5_factOf 93 = .ok (.getfield 226, 3) := by decide +kernel
theorem dX5_factOf_96 : decode cX5_factOf 96 = .ok (.iload_n 1, 1) := by decide +kernel
theorem dX5_factOf_97 : decode cX5_factOf 97 = .ok (.iaload, 1) := by decide +kernel
theorem dX5_factOf_98 : decode cX5_factOf 98 = .ok (.ireturn, 1) := by decide +kernel
theorem dX5_factOf_99 : decode cX5_factOf 99 = .ok (.aload_n 0, 1) := by decide +kernel
theorem dX5_factOf_100 : decode cX5_factOf 100 = .ok (.getfield 10, 3) := by decide +kernel
theorem dX5_factOf_103 : decode cX5_factOf 103 = .ok (.iload_n 1, 1) := by decide +kernel
theorem dX5_factOf_104 : decode cX5_factOf 104 = .ok (.invokevirtual 286, 3) := by decide +kernel
theorem dX5_factOf_107 : decode cX5_factOf 107 = .ok (.ireturn, 1) := by decide +kernel
set_option maxRecDepth 20000 in
theorem ggX5_scoutsWithoutTent_X4_allSleepers : GoodIn wsX5_scoutsWithoutTent wsX4_allSleepers := goodIn_r _ [8, 9, 10, 11, 12, 13, 14, 15, 16, 17, 32, 33, 34] (by decide +kernel) (by decide +kernel)
set_option maxRecDepth 20000 in
theorem gX5_scoutsWithoutTent_X4_allSleepers : GoodIn wsX5_scoutsWithoutTent (wsV RX5 289 RX4 yX4_allSleepers wsX4_allSleepers) := goodIn_app (goodIn_of _ (by decide +kernel)) ggX5_scoutsWithoutTent_X4_allSleepers
theorem dX5_scoutsWithoutTent_0 : decode cX5_scoutsWithoutTent 0 = .ok (.aload_n 0, 1) := by decide +kernel
theorem dX5_scoutsWithoutTent_1 : decode cX5_scoutsWithoutTent 1 = .ok (.getfield 10, 3) := by decide +kernel
theorem dX5_scoutsWithoutTent_4 : decode cX5_scoutsWithoutTent 4 = .ok (.getfield 66, 3) := by decide +kernel
theorem dX5_scoutsWithoutTent_7 : decode cX5_scoutsWithoutTent 7 = .ok (.aload_n 0, 1) := by decide +kernel
theorem dX5_scoutsWithoutTent_8 : decode cX5_scoutsWithoutTent 8 = .ok (.getfield 19, 3) := by decide +kernel
theorem dX5_scoutsWithoutTent_11 : decode cX5_scoutsWithoutTent 11 = .ok (.invokevirtual 289, 3) := by decide +kernel
theorem dX5_scoutsWithoutTent_14 : decode cX5_scoutsWithoutTent 14 = .ok (.isub, 1) := by decide +kernel
theorem dX5_scoutsWithoutTent_15 : decode cX5_scoutsWithoutTent 15 = .ok (.ireturn, 1) := by decide +kernel
set_option maxRecDepth 20000 in
theorem ggX5_hungryScouts_J13_bitCount_95d88 : GoodIn wsX5_hungryScouts wsJ13_bitCount_95d88 := goodIn_r _ [8, 9, 10, 11] (by decide +kernel) (by decide +kernel)
set_option maxRecDepth 20000 in
theorem gX5_hungryScouts_J13_bitCount_95d88 : GoodIn wsX5_hungryScouts (va_wsS RX5 179 yJ13_bitCount_95d88 wsJ13_bitCount_95d88) := goodIn_app (goodIn_of _ (by decide +kernel)) ggX5_hungryScouts_J13_bitCount_95d88
theorem dX5_hungryScouts_0 : decode cX5_hungryScouts 0 = .ok (.aload_n 0, 1) := by decide +kernel
theorem dX5_hungryScouts_1 : decode cX5_hungryScouts 1 = .ok (.getfield 10, 3) := by decide +kernel
theorem dX5_hungryScouts_4 : decode cX5_hungryScouts 4 = .ok (.getfield 66, 3) := by decide +kernel
theorem dX5_hungryScouts_7 : decode cX5_hungryScouts 7 = .ok (.aload_n 0, 1) := by decide +kernel
theorem dX5_hungryScouts_8 : decode cX5_hungryScouts 8 = .ok (.getfield 33, 3) := by decide +kernel
theorem dX5_hungryScouts_11 : decode cX5_hungryScouts 11 = .ok (.getfield 292, 3) := by decide +kernel
theorem dX5_hungryScouts_14 : decode cX5_hungryScouts 14 = .ok (.invokestatic 179, 3) := by decide +kernel
theorem dX5_hungryScouts_17 : decode cX5_hungryScouts 17 = .ok (.isub, 1) := by decide +kernel
theorem dX5_hungryScouts_18 : decode cX5_hungryScouts 18 = .ok (.ireturn, 1) := by decide +kernel
theorem dJ6_bitCount_0f7a4_0 : decode cJ6_bitCount_0f7a4 0 = .ok (.iload_n 0, 1) := by decide +kernel
theorem dJ6_bitCount_0f7a4_1 : decode cJ6_bitCount_0f7a4 1 = .ok (.iload_n 0, 1) := by decide +kernel
theorem dJ6_bitCount_0f7a4_2 : decode cJ6_bitCount_0f7a4 2 = .ok (.iconst 1, 1) := by decide +kernel
theorem dJ6_bitCount_0f7a4_3 : decode cJ6_bitCount_0f7a4 3 = .ok (.iushr, 1) := by decide +kernel
theorem dJ6_bitCount_0f7a4_4 : decode cJ6_bitCount_0f7a4 4 = .ok (.ldc_w 265, 3) := by decide +kernel
theorem dJ6_bitCount_0f7a4_7 : decode cJ6_bitCount_0f7a4 7 = .ok (.iand, 1) := by decide +kernel
theorem dJ6_bitCount_0f7a4_8 : decode cJ6_bitCount_0f7a4 8 = .ok (.isub, 1) := by decide +kernel
theorem dJ6_bitCount_0f7a4_9 : decode cJ6_bitCount_0f7a4 9 = .ok (.istore_n 0, 1) := by decide +kernel
theorem dJ6_bitCount_0f7a4_10 : decode cJ6_bitCount_0f7a4 10 = .ok (.iload_n 0, 1) := by decide +kernel
theorem dJ6_bitCount_0f7a4_11 : decode cJ6_bitCount_0f7a4 11 = .ok (.ldc_w 266, 3) := by decide +kernel
theorem dJ6_bitCount_0f7a4_14 : decode cJ6_bitCount_0f7a4 14 = .ok (.iand, 1) := by decide +kernel
theorem dJ6_bitCount_0f7a4_15 : decode cJ6_bitCount_0f7a4 15 = .ok (.iload_n 0, 1) := by decide +kernel
theorem dJ6_bitCount_0f7a4_16 : decode cJ6_bitCount_0f7a4 16 = .ok (.iconst 2, 1) := by decide +kernel
theorem dJ6_bitCount_0f7a4_17 : decode cJ6_bitCount_0f7a4 17 = .ok (.iushr, 1) := by decide +kernel
theorem dJ6_bitCount_0f7a4_18 : decode cJ6_bitCount_0f7a4 18 = .ok (.ldc_w 266, 3) := by decide +kernel
theorem dJ6_bitCount_0f7a4_21 : decode cJ6_bitCount_0f7a4 21 = .ok (.iand, 1) := by decide +kernel
theorem dJ6_bitCount_0f7a4_22 : decode cJ6_bitCount_0f7a4 22 = .ok (.iadd, 1) := by decide +kernel
theorem dJ6_bitCount_0f7a4_23 : decode cJ6_bitCount_0f7a4 23 = .ok (.istore_n 0, 1) := by decide +kernel
theorem dJ6_bitCount_0f7a4_24 : decode cJ6_bitCount_0f7a4 24 = .ok (.iload_n 0, 1) := by decide +kernel
theorem dJ6_bitCount_0f7a4_25 : decode cJ6_bitCount_0f7a4 25 = .ok (.iload_n 0, 1) := by decide +kernel
theorem dJ6_bitCount_0f7a4_26 : decode cJ6_bitCount_0f7a4 26 = .ok (.iconst 4, 1) := by decide +kernel
theorem dJ6_bitCount_0f7a4_27 : decode cJ6_bitCount_0f7a4 27 = .ok (.iushr, 1) := by decide +kernel
theorem dJ6_bitCount_0f7a4_28 : decode cJ6_bitCount_0f7a4 28 = .ok (.iadd, 1) := by decide +kernel
theorem dJ6_bitCount_0f7a4_29 : decode cJ6_bitCount_0f7a4 29 = .ok (.ldc_w 267, 3) := by decide +kernel
theorem dJ6_bitCount_0f7a4_32 : decode cJ6_bitCount_0f7a4 32 = .ok (.iand, 1) := by decide +kernel
