theorem dX6_scout_10 : decode cX6_scout 10 = .ok (.ifCond .eq 22, 3) := by decide +kernel
theorem dX6_scout_13 : decode cX6_scout 13 = .ok (.iload_n 2, 1) := by decide +kernel
theorem dX6_scout_14 : decode cX6_scout 14 = .ok (.iconst 0, 1) := by decide +kernel
theorem dX6_scout_15 : decode cX6_scout 15 = .ok (.bipush 6, 2) := by decide +kernel
theorem dX6_scout_17 : decode cX6_scout 17 = .ok (.invokestatic 60, 3) := by decide +kernel
theorem dX6_scout_20 : decode cX6_scout 20 = .ok (.ifCond .eq 12, 3) := by decide +kernel
theorem dX6_scout_23 : decode cX6_scout 23 = .ok (.aload_n 0, 1) := by decide +kernel
theorem dX6_scout_24 : decode cX6_scout 24 = .ok (.iload_n 1, 1) := by decide +kernel
theorem dX6_scout_25 : decode cX6_scout 25 = .ok (.iload_n 2, 1) := by decide +kernel
theorem dX6_scout_26 : decode cX6_scout 26 = .ok (.invokevirtual 93, 3) := by decide +kernel
theorem dX6_scout_29 : decode cX6_scout 29 = .ok (.goto 8, 3) := by decide +kernel
theorem dX6_scout_32 : decode cX6_scout 32 = .ok (.aload_n 0, 1) := by decide +kernel
theorem dX6_scout_33 : decode cX6_scout 33 = .ok (.iconst 1, 1) := by decide +kernel
theorem dX6_scout_34 : decode cX6_scout 34 = .ok (.invokevirtual 79, 3) := by decide +kernel
theorem dX6_scout_37 : decode cX6_scout 37 = .ok (.ireturn, 1) := by decide +kernel
set_option maxRecDepth 20000 in
theorem ggX6_addTent_X6_isIn : GoodIn wsX6_addTent wsX6_isIn := goodIn_r _ [7] (by decide +kernel) (by decide +kernel)
set_option maxRecDepth 20000 in
theorem gX6_addTent_X6_isIn : GoodIn wsX6_addTent (va_wsS RX6 60 yX6_isIn wsX6_isIn) := goodIn_app (goodIn_of _ (by decide +kernel)) ggX6_addTent_X6_isIn
set_option maxRecDepth 20000 in
theorem ggX6_addTent_X6_no : GoodIn wsX6_addTent wsX6_no := goodIn_r _ [11, 1, 12, 13, 14, 15, 16, 17, 18, 19, 20, 21, 22, 23, 24, 25, 26, 27, 28, 29, 30, 31, 32, 33, 34] (by decide +kernel) (by decide +kernel)
set_option maxRecDepth 20000 in
theorem gX6_addTent_X6_no : GoodIn wsX6_addTent (wsV RX6 79 RX6 yX6_no wsX6_no) := goodIn_app (goodIn_of _ (by decide +kernel)) ggX6_addTent_X6_no
theorem dX6_addTent_0 : decode cX6_addTent 0 = .ok (.aload_n 0, 1) := by decide +kernel
theorem dX6_addTent_1 : decode cX6_addTent 1 = .ok (.iconst 0, 1) := by decide +kernel
theorem dX6_addTent_2 : decode cX6_addTent 2 = .ok (.putfield 53, 3) := by decide +kernel
theorem dX6_addTent_5 : decode cX6_addTent 5 = .ok (.iload_n 1, 1) := by decide +kernel
theorem dX6_addTent_6 : decode cX6_addTent 6 = .ok (.iconst 1, 1) := by decide +kernel
theorem dX6_addTent_7 : decode cX6_addTent 7 = .ok (.bipush 8, 2) := by decide +kernel
theorem dX6_addTent_9 : decode cX6_addTent 9 = .ok (.invokestatic 60, 3) := by decide +kernel
theorem dX6_addTent_12 : decode cX6_addTent 12 = .ok (.ifCond .ne 9, 3) := by decide +kernel
theorem dX6_addTent_15 : decode cX6_addTent 15 = .ok (.aload_n 0, 1) := by decide +kernel
theorem dX6_addTent_16 : decode cX6_addTent 16 = .ok (.iconst 1, 1) := by decide +kernel
theorem dX6_addTent_17 : decode cX6_addTent 17 = .ok (.invokevirtual 79, 3) := by decide +kernel
theorem dX6_addTent_20 : decode cX6_addTent 20 = .ok (.ireturn, 1) := by decide +kernel
theorem dX6_addTent_21 : decode cX6_addTent 21 = .ok (.aload_n 0, 1) := by decide +kernel
theorem dX6_addTent_22 : decode cX6_addTent 22 = .ok (.getfield 67, 3) := by decide +kernel
theorem dX6_addTent_25 : decode cX6_addTent 25 = .ok (.bipush 10, 2) := by decide +kernel
theorem dX6_addTent_27 : decode cX6_addTent 27 = .ok (.if_icmp .ne 9, 3) := by decide +kernel
theorem dX6_addTent_30 : decode cX6_addTent 30 = .ok (.aload_n 0, 1) := by decide +kernel
theorem dX6_addTent_31 : decode cX6_addTent 31 = .ok (.iconst 2, 1) := by decide +kernel
theorem dX6_addTent_32 : decode cX6_addTent 32 = .ok (.invokevirtual 79, 3) := by decide +kernel
theorem dX6_addTent_35 : decode cX6_addTent 35 = .ok (.ireturn, 1) := by decide +kernel
theorem dX6_addTent_36 : decode cX6_addTent 36 = .ok (.aload_n 0, 1) := by decide +kernel
theorem dX6_addTent_37 : decode cX6_addTent 37 = .ok (.getfield 35, 3) := by decide +kernel
theorem dX6_addTent_40 : decode cX6_addTent 40 = .ok (.aload_n 0, 1) := by decide +kernel
theorem dX6_addTent_41 : decode cX6_addTent 41 = .ok (.getfield 67, 3) := by decide +kernel
theorem dX6_addTent_44 : decode cX6_addTent 44 = .ok (.iload_n 1, 1) := by decide +kernel
theorem dX6_addTent_45 : decode cX6_addTent 45 = .ok (.iastore, 1) := by decide +kernel
theorem dX6_addTent_46 : decode cX6_addTent 46 = .ok (.aload_n 0, 1) := by decide +kernel
theorem dX6_addTent_47 : decode cX6_addTent 47 = .ok (.dup, 1) := by decide +kernel
theorem dX6_addTent_48 : decode cX6_addTent 48 = .ok (.getfield 67, 3) := by decide +kernel
theorem dX6_addTent_51 : decode cX6_addTent 51 = .ok (.iconst 1, 1) := by decide +kernel
theorem dX6_addTent_52 : decode cX6_addTent 52 = .ok (.iadd, 1) := by decide +kernel
theorem dX6_addTent_53 : decode cX6_addTent 53 = .ok (.putfield 67, 3) := by decide +kernel
theorem dX6_addTent_56 : decode cX6_addTent 56 = .ok (.aload_n 0, 1) := by decide +kernel
theorem dX6_addTent_57 : decode cX6_addTent 57 = .ok (.getfield 67, 3) := by decide +kernel
theorem dX6_addTent_60 : decode cX6_addTent 60 = .ok (.iconst 1, 1) := by decide +kernel
theorem dX6_addTent_61 : decode cX6_addTent 61 = .ok (.isub, 1) := by decide +kernel
theorem dX6_addTent_62 : decode cX6_addTent 62 = .ok (.ireturn, 1) := by decide +kernel
theorem dX6_sleepers_0 : decode cX6_sleepers 0 = .ok (.iconst 0, 1) := by decide +kernel
theorem dX6_sleepers_1 : decode cX6_sleepers 1 = .ok (.istore_n 3, 1) := by decide +kernel
theorem dX6_sleepers_2 : decode cX6_sleepers 2 = .ok (.iconst 0, 1) := by decide +kernel
theorem dX6_sleepers_3 : decode cX6_sleepers 3 = .ok (.istore 4, 2) := by decide +kernel
theorem dX6_sleepers_5 : decode cX6_sleepers 5 = .ok (.iload 4, 2) := by decide +kernel
theorem dX6_sleepers_7 : decode cX6_sleepers 7 = .ok (.aload_n 0, 1) := by decide +kernel
theorem dX6_sleepers_8 : decode cX6_sleepers 8 = .ok (.getfield 64, 3) := by decide +kernel
theorem dX6_sleepers_11 : decode cX6_sleepers 11 = .ok (.if_icmp .ge 44, 3) := by decide +kernel
theorem dX6_sleepers_14 : decode cX6_sleepers 14 = .ok (.iload_n 3, 1) := by decide +kernel
theorem dX6_sleepers_15 : decode cX6_sleepers 15 = .ok (.aload_n 0, 1) := by decide +kernel
theorem dX6_sleepers_16 : decode cX6_sleepers 16 = .ok (.getfield 22, 3) := by decide +kernel
theorem dX6_sleepers_19 : decode cX6_sleepers 19 = .ok (.iload 4, 2) := by decide +kernel
theorem dX6_sleepers_21 : decode cX6_sleepers 21 = .ok (.iaload, 1) := by decide +kernel
theorem dX6_sleepers_22 : decode cX6_sleepers 22 = .ok (.iload_n 1, 1) := by decide +kernel
theorem dX6_sleepers_23 : decode cX6_sleepers 23 = .ok (.if_icmp .ne 23, 3) := by decide +kernel
theorem dX6_sleepers_26 : decode cX6_sleepers 26 = .ok (.iload_n 2, 1) := by decide +kernel
theorem dX6_sleepers_27 : decode cX6_sleepers 27 = .ok (.iconst (-1), 1) := by decide +kernel
theorem dX6_sleepers_28 : decode cX6_sleepers 28 = .ok (.if_icmp .eq 14, 3) := by decide +kernel
theorem dX6_sleepers_31 : decode cX6_sleepers 31 = .ok (.aload_n 0, 1) := by decide +kernel
theorem dX6_sleepers_32 : decode cX6_sleepers 32 = .ok (.getfield 9, 3) := by decide +kernel
theorem dX6_sleepers_35 : decode cX6_sleepers 35 = .ok (.iload 4, 2) := by decide +kernel
theorem dX6_sleepers_37 : decode cX6_sleepers 37 = .ok (.iaload, 1) := by decide +kernel
theorem dX6_sleepers_38 : decode cX6_sleepers 38 = .ok (.iload_n 2, 1) := by decide +kernel
theorem dX6_sleepers_39 : decode cX6_sleepers 39 = .ok (.if_icmp .ne 7, 3) := by decide +kernel
theorem dX6_sleepers_42 : decode cX6_sleepers 42 = .ok (.iconst 1, 1) := by decide +kernel
theorem dX6_sleepers_43 : decode cX6_sleepers 43 = .ok (.goto 4, 3) := by decide +kernel
theorem dX6_sleepers_46 : decode cX6_sleepers 46 = .ok (.iconst 0, 1) := by decide +kernel
theorem dX6_sleepers_47 : decode cX6_sleepers 47 = .ok (.iadd, 1) := by decide +kernel
theorem dX6_sleepers_48 : decode cX6_sleepers 48 = .ok (.istore_n 3, 1) := by decide +kernel
theorem dX6_sleepers_49 : decode cX6_sleepers 49 = .ok (.iinc 4 1, 3) := by decide +kernel
theorem dX6_sleepers_52 : decode cX6_sleepers 52 = .ok (.goto (-47), 3) := by decide +kernel
theorem dX6_sleepers_55 : decode cX6_sleepers 55 = .ok (.iload_n 3, 1) := by decide +kernel
theorem dX6_sleepers_56 : decode cX6_sleepers 56 = .ok (.ireturn, 1) := by decide +kernel
set_option maxRecDepth 20000 in
theorem ggX6_canSleep_X6_sleepers : GoodIn wsX6_canSleep wsX6_sleepers := goodIn_r _ [13, 2, 3, 14, 15, 16, 17, 18, 19, 20, 21, 22, 23, 24, 25, 26, 27, 28, 29, 30, 31, 32, 33, 34, 35, 36, 37] (by decide +kernel) (by decide +kernel)
set_option maxRecDepth 20000 in
theorem gX6_canSleep_X6_sleepers : GoodIn wsX6_canSleep (wsV RX6 97 RX6 yX6_sleepers wsX6_sleepers) := goodIn_app (goodIn_of _ (by decide +kernel)) ggX6_canSleep_X6_sleepers
theorem dX6_canSleep_0 : decode cX6_canSleep 0 = .ok (.aload_n 0, 1) := by decide +kernel
theorem dX6_canSleep_1 : decode cX6_canSleep 1 = .ok (.iload_n 2, 1) := by decide +kernel
theorem dX6_canSleep_2 : decode cX6_canSleep 2 = .ok (.iconst (-1), 1) := by decide +kernel
theorem dX6_canSleep_3 : decode cX6_canSleep 3 = .ok (.invokevirtual 97, 3) := by decide +kernel
theorem dX6_canSleep_6 : decode cX6_canSleep 6 = .ok (.aload_n 0, 1) := by decide +kernel
theorem dX6_canSleep_7 : decode cX6_canSleep 7 = .ok (.getfield 35, 3) := by decide +kernel
theorem dX6_canSleep_10 : decode cX6_canSleep 10 = .ok (.iload_n 2, 1) := by decide +kernel
theorem dX6_canSleep_11 : decode cX6_canSleep 11 = .ok (.iaload, 1) := by decide +kernel
theorem dX6_canSleep_12 : decode cX6_canSleep 12 = .ok (.if_icmp .ge 7, 3) := by decide +kernel
theorem dX6_canSleep_15 : decode cX6_canSleep 15 = .ok (.iconst 1, 1) := by decide +kernel
theorem dX6_canSleep_16 : decode cX6_canSleep 16 = .ok (.goto 4, 3) := by decide +kernel
theorem dX6_canSleep_19 : decode cX6_canSleep 19 = .ok (.iconst 0, 1) := by decide +kernel
theorem dX6_canSleep_20 : decode cX6_canSleep 20 = .ok (.istore_n 3, 1) := by decide +kernel
theorem dX6_canSleep_21 : decode cX6_canSleep 21 = .ok (.iconst 0, 1) := by decide +kernel
theorem dX6_canSleep_22 : decode cX6_canSleep 22 = .ok (.istore 4, 2) := by decide +kernel
theorem dX6_canSleep_24 : decode cX6_canSleep 24 = .ok (.iload 4, 2) := by decide +kernel
theorem dX6_canSleep_26 : decode cX6_canSleep 26 = .ok (.aload_n 0, 1) := by decide +kernel
theorem dX6_canSleep_27 : decode cX6_canSleep 27 = .ok (.getfield 64, 3) := by decide +kernel
theorem dX6_canSleep_30 : decode cX6_canSleep 30 = .ok (.if_icmp .ge 54, 3) := by decide +kernel
theorem dX6_canSleep_33 : decode cX6_canSleep 33 = .ok (.aload_n 0, 1) := by decide +kernel
theorem dX6_canSleep_34 : decode cX6_canSleep 34 = .ok (.getfield 22, 3) := by decide +kernel
theorem dX6_canSleep_37 : decode cX6_canSleep 37 = .ok (.iload 4, 2) := by decide +kernel
theorem dX6_canSleep_39 : decode cX6_canSleep 39 = .ok (.iaload, 1) := by decide +kernel
theorem dX6_canSleep_40 : decode cX6_canSleep 40 = .ok (.iload_n 2, 1) := by decide +kernel
theorem dX6_canSleep_41 : decode cX6_canSleep 41 = .ok (.if_icmp .eq 6, 3) := by decide +kernel
theorem dX6_canSleep_44 : decode cX6_canSleep 44 = .ok (.goto 34, 3) := by decide +kernel
theorem dX6_canSleep_47 : decode cX6_canSleep 47 = .ok (.iload_n 3, 1) := by decide +kernel
theorem dX6_canSleep_48 : decode cX6_canSleep 48 = .ok (.ifCond .eq 28, 3) := by decide +kernel
theorem dX6_canSleep_51 : decode cX6_canSleep 51 = .ok (.aload_n 0, 1) := by decide +kernel
theorem dX6_canSleep_52 : decode cX6_canSleep 52 = .ok (.getfield 13, 3) := by decide +kernel
theorem dX6_canSleep_55 : decode cX6_canSleep 55 = .ok (.iload 4, 2) := by decide +kernel
theorem dX6_canSleep_57 : decode cX6_canSleep 57 = .ok (.iaload, 1) := by decide +kernel
theorem dX6_canSleep_58 : decode cX6_canSleep 58 = .ok (.aload_n 0, 1) := by decide +kernel
theorem dX6_canSleep_59 : decode cX6_canSleep 59 = .ok (.getfield 13, 3) := by decide +kernel
theorem dX6_canSleep_62 : decode cX6_canSleep 62 = .ok (.iload_n 1, 1) := by decide +kernel
theorem dX6_canSleep_63 : decode cX6_canSleep 63 = .ok (.iaload, 1) := by decide +kernel
theorem dX6_canSleep_64 : decode cX6_canSleep 64 = .ok (.isub, 1) := by decide +kernel
theorem dX6_canSleep_65 : decode cX6_canSleep 65 = .ok (.invokestatic 100, 3) := by decide +kernel
theorem dX6_canSleep_68 : decode cX6_canSleep 68 = .ok (.iconst 3, 1) := by decide +kernel
theorem dX6_canSleep_69 : decode cX6_canSleep 69 = .ok (.if_icmp .gt 7, 3) := by decide +kernel
theorem dX6_canSleep_72 : decode cX6_canSleep 72 = .ok (.iconst 1, 1) := by decide +kernel
theorem dX6_canSleep_73 : decode cX6_canSleep 73 = .ok (.goto 4, 3) := by decide +kernel
theorem dX6_canSleep_76 : decode cX6_canSleep 76 = .ok (.iconst 0, 1) := by decide +kernel
theorem dX6_canSleep_77 : decode cX6_canSleep 77 = .ok (.istore_n 3, 1) := by decide +kernel
theorem dX6_canSleep_78 : decode cX6_canSleep 78 = .ok (.iinc 4 1, 3) := by decide +kernel
theorem dX6_canSleep_81 : decode cX6_canSleep 81 = .ok (.goto (-57), 3) := by decide +kernel
theorem dX6_canSleep_84 : decode cX6_canSleep 84 = .ok (.iload_n 3, 1) := by decide +kernel
theorem dX6_canSleep_85 : decode cX6_canSleep 85 = .ok (.ireturn, 1) := by decide +kernel
set_option maxRecDepth 20000 in
theorem ggX6_sleep_X6_isScout : GoodIn wsX6_sleep wsX6_isScout := goodIn_r _ [7, 8, 9, 10, 6, 11, 36, 37, 38, 39, 40, 41, 42, 43, 44, 45, 46, 47, 48, 49, 50, 51, 52, 53, 54, 55, 56, 57, 58] (by decide +kernel) (by decide +kernel)
set_option maxRecDepth 20000 in
theorem gX6_sleep_X6_isScout : GoodIn wsX6_sleep (wsV RX6 90 RX6 yX6_isScout wsX6_isScout) := goodIn_app (goodIn_of _ (by decide +kernel)) ggX6_sleep_X6_isScout
set_option maxRecDepth 20000 in
theorem ggX6_sleep_X6_isTent : GoodIn wsX6_sleep wsX6_isTent := goodIn_r _ [15, 16, 9, 10, 6, 11, 36, 37, 38, 39, 40, 41, 42, 43, 44, 45, 46, 47, 48, 49, 50, 51, 52, 53, 54, 55, 56, 57, 58] (by decide +kernel) (by decide +kernel)
set_option maxRecDepth 20000 in
theorem gX6_sleep_X6_isTent : GoodIn wsX6_sleep (wsV RX6 105 RX6 yX6_isTent wsX6_isTent) := goodIn_app (goodIn_of _ (by decide +kernel)) ggX6_sleep_X6_isTent
set_option maxRecDepth 20000 in
theorem ggX6_sleep_X6_no : GoodIn wsX6_sleep wsX6_no := goodIn_r _ [20, 1, 36, 37, 38, 39, 40, 41, 42, 43, 44, 45, 46, 47, 48, 49, 50, 51, 52, 53, 54, 55, 56, 57, 58] (by decide +kernel) (by decide +kernel)
set_option maxRecDepth 20000 in
theorem gX6_sleep_X6_no : GoodIn wsX6_sleep (wsV RX6 79 RX6 yX6_no wsX6_no) := goodIn_app (goodIn_of _ (by decide +kernel)) ggX6_sleep_X6_no
set_option maxRecDepth 20000 in
theorem ggX6_sleep_X6_canSleep : GoodIn wsX6_sleep wsX6_canSleep := goodIn_r _ [24, 25, 8, 2, 26, 27, 28, 29, 30, 31, 32, 33, 6, 34, 35, 36, 37, 38, 39, 40, 41, 42, 43, 44, 45, 46, 47, 48, 49, 50, 51, 52, 53, 54, 55, 56, 57, 58] (by decide +kernel) (by decide +kernel)
set_option maxRecDepth 20000 in
theorem gX6_sleep_X6_canSleep : GoodIn wsX6_sleep (wsV RX6 108 RX6 yX6_canSleep wsX6_canSleep) := goodIn_app (goodIn_of _ (by decide +kernel)) ggX6_sleep_X6_canSleep
theorem dX6_sleep_0 : decode cX6_sleep 0 = .ok (.aload_n 0, 1) := by decide +kernel
theorem dX6_sleep_1 : decode cX6_sleep 1 = .ok (.iconst 0, 1) := by decide +kernel
theorem dX6_sleep_2 : decode cX6_sleep 2 = .ok (.putfield 53, 3) := by decide +kernel
theorem dX6_sleep_5 : decode cX6_sleep 5 = .ok (.aload_n 0, 1) := by decide +kernel
theorem dX6_sleep_6 : decode cX6_sleep 6 = .ok (.iload_n 1, 1) := by decide +kernel
theorem dX6_sleep_7 : decode cX6_sleep 7 = .ok (.invokevirtual 90, 3) := by decide +kernel
theorem dX6_sleep_10 : decode cX6_sleep 10 = .ok (.ifCond .eq 16, 3) := by decide +kernel
theorem dX6_sleep_13 : decode cX6_sleep 13 = .ok (.iload_n 2, 1) := by decide +kernel
theorem dX6_sleep_14 : decode cX6_sleep 14 = .ok (.iconst (-1), 1) := by decide +kernel
theorem dX6_sleep_15 : decode cX6_sleep 15 = .ok (.if_icmp .eq 17, 3) := by decide +kernel
theorem dX6_sleep_18 : decode cX6_sleep 18 = .ok (.aload_n 0, 1) := by decide +kernel
theorem dX6_sleep_19 : decode cX6_sleep 19 = .ok (.iload_n 2, 1) := by decide +kernel
theorem dX6_sleep_20 : decode cX6_sleep 20 = .ok (.invokevirtual 105, 3) := by decide +kernel
theorem dX6_sleep_23 : decode cX6_sleep 23 = .ok (.ifCond .ne 9, 3) := by decide +kernel
theorem dX6_sleep_26 : decode cX6_sleep 26 = .ok (.aload_n 0, 1) := by decide +kernel
theorem dX6_sleep_27 : decode cX6_sleep 27 = .ok (.iconst 1, 1) := by decide +kernel
theorem dX6_sleep_28 : decode cX6_sleep 28 = .ok (.invokevirtual 79, 3) := by decide +kernel
theorem dX6_sleep_31 : decode cX6_sleep 31 = .ok (.ireturn, 1) := by decide +kernel
theorem dX6_sleep_32 : decode cX6_sleep 32 = .ok (.aload_n 0, 1) := by decide +kernel
theorem dX6_sleep_33 : decode cX6_sleep 33 = .ok (.getfield 22, 3) := by decide +kernel
theorem dX6_sleep_36 : decode cX6_sleep 36 = .ok (.iload_n 1, 1) := by decide +kernel
theorem dX6_sleep_37 : decode cX6_sleep 37 = .ok (.iaload, 1) := by decide +kernel
theorem dX6_sleep_38 : decode cX6_sleep 38 = .ok (.istore_n 3, 1) := by decide +kernel
theorem dX6_sleep_39 : decode cX6_sleep 39 = .ok (.iload_n 3, 1) := by decide +kernel
theorem dX6_sleep_40 : decode cX6_sleep 40 = .ok (.iload_n 2, 1) := by decide +kernel
theorem dX6_sleep_41 : decode cX6_sleep 41 = .ok (.if_icmp .eq 17, 3) := by decide +kernel
theorem dX6_sleep_44 : decode cX6_sleep 44 = .ok (.iload_n 2, 1) := by decide +kernel
theorem dX6_sleep_45 : decode cX6_sleep 45 = .ok (.iconst (-1), 1) := by decide +kernel
theorem dX6_sleep_46 : decode cX6_sleep 46 = .ok (.if_icmp .eq 18, 3) := by decide +kernel
theorem dX6_sleep_49 : decode cX6_sleep 49 = .ok (.aload_n 0, 1) := by decide +kernel
theorem dX6_sleep_50 : decode cX6_sleep 50 = .ok (.iload_n 1, 1) := by decide +kernel
theorem dX6_sleep_51 : decode cX6_sleep 51 = .ok (.iload_n 2, 1) := by decide +kernel
theorem dX6_sleep_52 : decode cX6_sleep 52 = .ok (.invokevirtual 108, 3) := by decide +kernel
theorem dX6_sleep_55 : decode cX6_sleep 55 = .ok (.ifCond .ne 9, 3) := by decide +kernel
theorem dX6_sleep_58 : decode cX6_sleep 58 = .ok (.aload_n 0, 1) := by decide +kernel
theorem dX6_sleep_59 : decode cX6_sleep 59 = .ok (.iconst 2, 1) := by decide +kernel
theorem dX6_sleep_60 : decode cX6_sleep 60 = .ok (.invokevirtual 79, 3) := by decide +kernel
theorem dX6_sleep_63 : decode cX6_sleep 63 = .ok (.ireturn, 1) := by decide +kernel
theorem dX6_sleep_64 : decode cX6_sleep 64 = .ok (.aload_n 0, 1) := by decide +kernel
theorem dX6_sleep_65 : decode cX6_sleep 65 = .ok (.getfield 22, 3) := by decide +kernel
theorem dX6_sleep_68 : decode cX6_sleep 68 = .ok (.iload_n 1, 1) := by decide +kernel
theorem dX6_sleep_69 : decode cX6_sleep 69 = .ok (.iload_n 2, 1) := by decide +kernel
theorem dX6_sleep_70 : decode cX6_sleep 70 = .ok (.iastore, 1) := by decide +kernel
theorem dX6_sleep_71 : decode cX6_sleep 71 = .ok (.iload_n 3, 1) := by decide +kernel
theorem dX6_sleep_72 : decode cX6_sleep 72 = .ok (.ireturn, 1) := by decide +kernel
theorem dX6_in_0 : decode cX6_in 0 = .ok (.lconst 0, 1) := by decide +kernel
theorem dX6_in_1 : decode cX6_in 1 = .ok (.lstore_n 2, 1) := by decide +kernel
theorem dX6_in_2 : decode cX6_in 2 = .ok (.iconst 0, 1) := by decide +kernel
theorem dX6_in_3 : decode cX6_in 3 = .ok (.istore 4, 2) := by decide +kernel
theorem dX6_in_5 : decode cX6_in 5 = .ok (.iload 4, 2) := by decide +kernel
theorem dX6_in_7 : decode cX6_in 7 = .ok (.aload_n 0, 1) := by decide +kernel
theorem dX6_in_8 : decode cX6_in 8 = .ok (.getfield 64, 3) := by decide +kernel
theorem dX6_in_11 : decode cX6_in 11 = .ok (.if_icmp .ge 31, 3) := by decide +kernel
theorem dX6_in_14 : decode cX6_in 14 = .ok (.lload_n 2, 1) := by decide +kernel
theorem dX6_in_15 : decode cX6_in 15 = .ok (.aload_n 0, 1) := by decide +kernel
theorem dX6_in_16 : decode cX6_in 16 = .ok (.getfield 22, 3) := by decide +kernel
theorem dX6_in_19 : decode cX6_in 19 = .ok (.iload 4, 2) := by decide +kernel
theorem dX6_in_21 : decode cX6_in 21 = .ok (.iaload, 1) := by decide +kernel
theorem dX6_in_22 : decode cX6_in 22 = .ok (.iload_n 1, 1) := by decide +kernel
theorem dX6_in_23 : decode cX6_in 23 = .ok (.if_icmp .ne 10, 3) := by decide +kernel
theorem dX6_in_26 : decode cX6_in 26 = .ok (.lconst 1, 1) := by decide +kernel
theorem dX6_in_27 : decode cX6_in 27 = .ok (.iload 4, 2) := by decide +kernel
theorem dX6_in_29 : decode cX6_in 29 = .ok (.lshl, 1) := by decide +kernel
theorem dX6_in_30 : decode cX6_in 30 = .ok (.goto 4, 3) := by decide +kernel
theorem dX6_in_33 : decode cX6_in 33 = .ok (.lconst 0, 1) := by decide +kernel
theorem dX6_in_34 : decode cX6_in 34 = .ok (.ladd, 1) := by decide +kernel
theorem dX6_in_35 : decode cX6_in 35 = .ok (.lstore_n 2, 1) := by decide +kernel
theorem dX6_in_36 : decode cX6_in 36 = .ok (.iinc 4 1, 3) := by decide +kernel
theorem dX6_in_39 : decode cX6_in 39 = .ok (.goto (-34), 3) := by decide +kernel
theorem dX6_in_42 : decode cX6_in 42 = .ok (.lload_n 2, 1) := by decide +kernel
theorem dX6_in_43 : decode cX6_in 43 = .ok (.lreturn, 1) := by decide +kernel
set_option maxRecDepth 20000 in
theorem ggX6_inTent_X6_isTent : GoodIn wsX6_inTent wsX6_isTent := goodIn_r _ [6, 7, 8, 9, 5, 10, 17, 18, 19, 20, 21, 22, 23, 24, 25, 26, 27, 28, 29, 30, 31, 32, 33, 34, 35, 36, 37, 38, 39] (by decide +kernel) (by decide +kernel)
set_option maxRecDepth 20000 in
theorem gX6_inTent_X6_isTent : GoodIn wsX6_inTent (wsV RX6 105 RX6 yX6_isTent wsX6_isTent) := goodIn_app (goodIn_of _ (by decide +kernel)) ggX6_inTent_X6_isTent
set_option maxRecDepth 20000 in
theorem ggX6_inTent_X6_in : GoodIn wsX6_inTent wsX6_in := goodIn_r _ [14, 15, 16, 17, 18, 19, 20, 21, 22, 23, 24, 25, 26, 27, 28, 29, 30, 31, 32, 33, 34, 35, 36, 37, 38, 39] (by decide +kernel) (by decide +kernel)
set_option maxRecDepth 20000 in
theorem gX6_inTent_X6_in : GoodIn wsX6_inTent (wsV RX6 112 RX6 yX6_in wsX6_in) := goodIn_app (goodIn_of _ (by decide +kernel)) ggX6_inTent_X6_in
theorem dX6_inTent_0 : decode cX6_inTent 0 = .ok (.aload_n 0, 1) := by decide +kernel
theorem dX6_inTent_1 : decode cX6_inTent 1 = .ok (.aload_n 0, 1) := by decide +kernel
theorem dX6_inTent_2 : decode cX6_inTent 2 = .ok (.iload_n 1, 1) := by decide +kernel
theorem dX6_inTent_3 : decode cX6_inTent 3 = .ok (.invokevirtual 105, 3) := by decide +kernel
theorem dX6_inTent_6 : decode cX6_inTent 6 = .ok (.ifCond .eq 7, 3) := by decide +kernel
theorem dX6_inTent_9 : decode cX6_inTent 9 = .ok (.iconst 0, 1) := by decide +kernel
theorem dX6_inTent_10 : decode cX6_inTent 10 = .ok (.goto 4, 3) := by decide +kernel
theorem dX6_inTent_13 : decode cX6_inTent 13 = .ok (.iconst 1, 1) := by decide +kernel
theorem dX6_inTent_14 : decode cX6_inTent 14 = .ok (.putfield 53, 3) := by decide +kernel
theorem dX6_inTent_17 : decode cX6_inTent 17 = .ok (.aload_n 0, 1) := by decide +kernel
theorem dX6_inTent_18 : decode cX6_inTent 18 = .ok (.getfield 53, 3) := by decide +kernel
theorem dX6_inTent_21 : decode cX6_inTent 21 = .ok (.ifCond .ne 11, 3) := by decide +kernel
theorem dX6_inTent_24 : decode cX6_inTent 24 = .ok (.aload_n 0, 1) := by decide +kernel
theorem dX6_inTent_25 : decode cX6_inTent 25 = .ok (.iload_n 1, 1) := by decide +kernel
theorem dX6_inTent_26 : decode cX6_inTent 26 = .ok (.invokevirtual 112, 3) := by decide +kernel
theorem dX6_inTent_29 : decode cX6_inTent 29 = .ok (.goto 4, 3) := by decide +kernel
theorem dX6_inTent_32 : decode cX6_inTent 32 = .ok (.lconst 0, 1) := by decide +kernel
theorem dX6_inTent_33 : decode cX6_inTent 33 = .ok (.lreturn, 1) := by decide +kernel
set_option maxRecDepth 20000 in
theorem ggX6_bestTent_X6_canSleep : GoodIn wsX6_bestTent wsX6_canSleep := goodIn_r _ [7, 8, 9, 10, 11, 12, 13, 14, 15, 16, 17, 18, 6, 19, 2, 20, 21, 22, 23, 24, 25, 26, 27, 28, 29, 30, 31, 32, 33, 34, 35, 36, 37, 38, 39, 40, 41, 42] (by decide +kernel) (by decide +kernel)
set_option maxRecDepth 20000 in
theorem gX6_bestTent_X6_canSleep : GoodIn wsX6_bestTent (wsV RX6 108 RX6 yX6_canSleep wsX6_canSleep) := goodIn_app (goodIn_of _ (by decide +kernel)) ggX6_bestTent_X6_canSleep
set_option maxRecDepth 20000 in
theorem ggX6_bestTent_X6_sleepers : GoodIn wsX6_bestTent wsX6_sleepers := goodIn_r _ [19, 9, 10, 2, 20, 21, 22, 23, 24, 25, 26, 27, 28, 29, 30, 31, 32, 33, 34, 35, 36, 37, 38, 39, 40, 41, 42] (by decide +kernel) (by decide +kernel)
set_option maxRecDepth 20000 in
theorem gX6_bestTent_X6_sleepers : GoodIn wsX6_bestTent (wsV RX6 97 RX6 yX6_sleepers wsX6_sleepers) := goodIn_app (goodIn_of _ (by decide +kernel)) ggX6_bestTent_X6_sleepers
theorem dX6_bestTent_0 : decode cX6_bestTent 0 = .ok (.iconst (-1), 1) := by decide +kernel
theorem dX6_bestTent_1 : decode cX6_bestTent 1 = .ok (.istore_n 2, 1) := by decide +kernel
theorem dX6_bestTent_2 : decode cX6_bestTent 2 = .ok (.iconst 0, 1) := by decide +kernel
theorem dX6_bestTent_3 : decode cX6_bestTent 3 = .ok (.istore_n 3, 1) := by decide +kernel
theorem dX6_bestTent_4 : decode cX6_bestTent 4 = .ok (.iload_n 3, 1) := by decide +kernel
theorem dX6_bestTent_5 : decode cX6_bestTent 5 = .ok (.aload_n 0, 1) := by decide +kernel
theorem dX6_bestTent_6 : decode cX6_bestTent 6 = .ok (.getfield 67, 3) := by decide +kernel
theorem dX6_bestTent_9 : decode cX6_bestTent 9 = .ok (.if_icmp .ge 82, 3) := by decide +kernel
theorem dX6_bestTent_12 : decode cX6_bestTent 12 = .ok (.aload_n 0, 1) := by decide +kernel
theorem dX6_bestTent_13 : decode cX6_bestTent 13 = .ok (.iload_n 1, 1) := by decide +kernel
theorem dX6_bestTent_14 : decode cX6_bestTent 14 = .ok (.iload_n 3, 1) := by decide +kernel
theorem dX6_bestTent_15 : decode cX6_bestTent 15 = .ok (.invokevirtual 108, 3) := by decide +kernel
theorem dX6_bestTent_18 : decode cX6_bestTent 18 = .ok (.ifCond .ne 6, 3) := by decide +kernel
theorem dX6_bestTent_21 : decode cX6_bestTent 21 = .ok (.goto 64, 3) := by decide +kernel
theorem dX6_bestTent_24 : decode cX6_bestTent 24 = .ok (.iload_n 2, 1) := by decide +kernel
theorem dX6_bestTent_25 : decode cX6_bestTent 25 = .ok (.iconst (-1), 1) := by decide +kernel
theorem dX6_bestTent_26 : decode cX6_bestTent 26 = .ok (.if_icmp .ne 7, 3) := by decide +kernel
theorem dX6_bestTent_29 : decode cX6_bestTent 29 = .ok (.iconst 1, 1) := by decide +kernel
theorem dX6_bestTent_30 : decode cX6_bestTent 30 = .ok (.goto 26, 3) := by decide +kernel
theorem dX6_bestTent_33 : decode cX6_bestTent 33 = .ok (.aload_n 0, 1) := by decide +kernel
theorem dX6_bestTent_34 : decode cX6_bestTent 34 = .ok (.iload_n 3, 1) := by decide +kernel
theorem dX6_bestTent_35 : decode cX6_bestTent 35 = .ok (.aload_n 0, 1) := by decide +kernel
theorem dX6_bestTent_36 : decode cX6_bestTent 36 = .ok (.getfield 9, 3) := by decide +kernel
theorem dX6_bestTent_39 : decode cX6_bestTent 39 = .ok (.iload_n 1, 1) := by decide +kernel
theorem dX6_bestTent_40 : decode cX6_bestTent 40 = .ok (.iaload, 1) := by decide +kernel
theorem dX6_bestTent_41 : decode cX6_bestTent 41 = .ok (.invokevirtual 97, 3) := by decide +kernel
theorem dX6_bestTent_44 : decode cX6_bestTent 44 = .ok (.aload_n 0, 1) := by decide +kernel
theorem dX6_bestTent_45 : decode cX6_bestTent 45 = .ok (.iload_n 2, 1) := by decide +kernel
theorem dX6_bestTent_46 : decode cX6_bestTent 46 = .ok (.aload_n 0, 1) := by decide +kernel
theorem dX6_bestTent_47 : decode cX6_bestTent 47 = .ok (.getfield 9, 3) := by decide +kernel
theorem dX6_bestTent_50 : decode cX6_bestTent 50 = .ok (.iload_n 1, 1) := by decide +kernel
theorem dX6_bestTent_51 : decode cX6_bestTent 51 = .ok (.iaload, 1) := by decide +kernel
theorem dX6_bestTent_52 : decode cX6_bestTent 52 = .ok (.invokevirtual 97, 3) := by decide +kernel
theorem dX6_bestTent_55 : decode cX6_bestTent 55 = .ok (.isub, 1) := by decide +kernel
theorem dX6_bestTent_56 : decode cX6_bestTent 56 = .ok (.istore 4, 2) := by decide +kernel
theorem dX6_bestTent_58 : decode cX6_bestTent 58 = .ok (.iload 4, 2) := by decide +kernel
theorem dX6_bestTent_60 : decode cX6_bestTent 60 = .ok (.ifCond .gt 23, 3) := by decide +kernel
theorem dX6_bestTent_63 : decode cX6_bestTent 63 = .ok (.iload 4, 2) := by decide +kernel
theorem dX6_bestTent_65 : decode cX6_bestTent 65 = .ok (.ifCond .ne 20, 3) := by decide +kernel
theorem dX6_bestTent_68 : decode cX6_bestTent 68 = .ok (.aload_n 0, 1) := by decide +kernel
theorem dX6_bestTent_69 : decode cX6_bestTent 69 = .ok (.iload_n 3, 1) := by decide +kernel
theorem dX6_bestTent_70 : decode cX6_bestTent 70 = .ok (.iconst (-1), 1) := by decide +kernel
theorem dX6_bestTent_71 : decode cX6_bestTent 71 = .ok (.invokevirtual 97, 3) := by decide +kernel
theorem dX6_bestTent_74 : decode cX6_bestTent 74 = .ok (.aload_n 0, 1) := by decide +kernel
theorem dX6_bestTent_75 : decode cX6_bestTent 75 = .ok (.iload_n 2, 1) := by decide +kernel
theorem dX6_bestTent_76 : decode cX6_bestTent 76 = .ok (.iconst (-1), 1) := by decide +kernel
theorem dX6_bestTent_77 : decode cX6_bestTent 77 = .ok (.invokevirtual 97, 3) := by decide +kernel
theorem dX6_bestTent_80 : decode cX6_bestTent 80 = .ok (.if_icmp .le 5, 3) := by decide +kernel
theorem dX6_bestTent_83 : decode cX6_bestTent 83 = .ok (.iload_n 3, 1) := by decide +kernel
theorem dX6_bestTent_84 : decode cX6_bestTent 84 = .ok (.istore_n 2, 1) := by decide +kernel
theorem dX6_bestTent_85 : decode cX6_bestTent 85 = .ok (.iinc 3 1, 3) := by decide +kernel
theorem dX6_bestTent_88 : decode cX6_bestTent 88 = .ok (.goto (-84), 3) := by decide +kernel
theorem dX6_bestTent_91 : decode cX6_bestTent 91 = .ok (.iload_n 2, 1) := by decide +kernel
theorem dX6_bestTent_92 : decode cX6_bestTent 92 = .ok (.ireturn, 1) := by decide +kernel
set_option maxRecDepth 20000 in
theorem ggX6_findTents_X6_bestTent : GoodIn wsX6_findTents wsX6_bestTent := goodIn_r _ [9, 10, 11, 12, 13, 14, 8, 15, 16, 2, 4, 3, 17, 18, 19, 20, 21, 22, 23, 24, 25, 26, 27, 28, 29, 30, 31, 32, 33, 34, 35, 36, 37, 38, 39, 40, 41, 42, 43, 44, 45, 46, 47] (by decide +kernel) (by decide +kernel)
set_option maxRecDepth 20000 in
theorem gX6_findTents_X6_bestTent : GoodIn wsX6_findTents (wsV RX6 116 RX6 yX6_bestTent wsX6_bestTent) := goodIn_app (goodIn_of _ (by decide +kernel)) ggX6_findTents_X6_bestTent
set_option maxRecDepth 20000 in
theorem ggX6_findTents_X6_sleepers : GoodIn wsX6_findTents wsX6_sleepers := goodIn_r _ [24, 2, 4, 11, 25, 26, 27, 28, 29, 30, 31, 32, 33, 34, 35, 36, 37, 38, 39, 40, 41, 42, 43, 44, 45, 46, 47] (by decide +kernel) (by decide +kernel)
set_option maxRecDepth 20000 in
theorem gX6_findTents_X6_sleepers : GoodIn wsX6_findTents (wsV RX6 97 RX6 yX6_sleepers wsX6_sleepers) := goodIn_app (goodIn_of _ (by decide +kernel)) ggX6_findTents_X6_sleepers
theorem dX6_findTents_0 : decode cX6_findTents 0 = .ok (.aload_n 0, 1) := by decide +kernel
theorem dX6_findTents_1 : decode cX6_findTents 1 = .ok (.iconst 0, 1) := by decide +kernel
theorem dX6_findTents_2 : decode cX6_findTents 2 = .ok (.putfield 53, 3) := by decide +kernel
theorem dX6_findTents_5 : decode cX6_findTents 5 = .ok (.bipush 17, 2) := by decide +kernel
theorem dX6_findTents_7 : decode cX6_findTents 7 = .ok (.istore_n 1, 1) := by decide +kernel
theorem dX6_findTents_8 : decode cX6_findTents 8 = .ok (.iload_n 1, 1) := by decide +kernel
theorem dX6_findTents_9 : decode cX6_findTents 9 = .ok (.bipush 6, 2) := by decide +kernel
theorem dX6_findTents_11 : decode cX6_findTents 11 = .ok (.if_icmp .lt 56, 3) := by decide +kernel
theorem dX6_findTents_14 : decode cX6_findTents 14 = .ok (.iconst 0, 1) := by decide +kernel
theorem dX6_findTents_15 : decode cX6_findTents 15 = .ok (.istore_n 2, 1) := by decide +kernel
theorem dX6_findTents_16 : decode cX6_findTents 16 = .ok (.iload_n 2, 1) := by decide +kernel
theorem dX6_findTents_17 : decode cX6_findTents 17 = .ok (.aload_n 0, 1) := by decide +kernel
theorem dX6_findTents_18 : decode cX6_findTents 18 = .ok (.getfield 64, 3) := by decide +kernel
theorem dX6_findTents_21 : decode cX6_findTents 21 = .ok (.if_icmp .ge 40, 3) := by decide +kernel
theorem dX6_findTents_24 : decode cX6_findTents 24 = .ok (.aload_n 0, 1) := by decide +kernel
theorem dX6_findTents_25 : decode cX6_findTents 25 = .ok (.getfield 13, 3) := by decide +kernel
theorem dX6_findTents_28 : decode cX6_findTents 28 = .ok (.iload_n 2, 1) := by decide +kernel
theorem dX6_findTents_29 : decode cX6_findTents 29 = .ok (.iaload, 1) := by decide +kernel
theorem dX6_findTents_30 : decode cX6_findTents 30 = .ok (.iload_n 1, 1) := by decide +kernel
theorem dX6_findTents_31 : decode cX6_findTents 31 = .ok (.if_icmp .ne 24, 3) := by decide +kernel
theorem dX6_findTents_34 : decode cX6_findTents 34 = .ok (.aload_n 0, 1) := by decide +kernel
theorem dX6_findTents_35 : decode cX6_findTents 35 = .ok (.getfield 22, 3) := by decide +kernel
theorem dX6_findTents_38 : decode cX6_findTents 38 = .ok (.iload_n 2, 1) := by decide +kernel
theorem dX6_findTents_39 : decode cX6_findTents 39 = .ok (.iaload, 1) := by decide +kernel
theorem dX6_findTents_40 : decode cX6_findTents 40 = .ok (.iconst (-1), 1) := by decide +kernel
theorem dX6_findTents_41 : decode cX6_findTents 41 = .ok (.if_icmp .ne 14, 3) := by decide +kernel
theorem dX6_findTents_44 : decode cX6_findTents 44 = .ok (.aload_n 0, 1) := by decide +kernel
theorem dX6_findTents_45 : decode cX6_findTents 45 = .ok (.getfield 22, 3) := by decide +kernel
theorem dX6_findTents_48 : decode cX6_findTents 48 = .ok (.iload_n 2, 1) := by decide +kernel
theorem dX6_findTents_49 : decode cX6_findTents 49 = .ok (.aload_n 0, 1) := by decide +kernel
theorem dX6_findTents_50 : decode cX6_findTents 50 = .ok (.iload_n 2, 1) := by decide +kernel
theorem dX6_findTents_51 : decode cX6_findTents 51 = .ok (.invokevirtual 116, 3) := by decide +kernel
theorem dX6_findTents_54 : decode cX6_findTents 54 = .ok (.iastore, 1) := by decide +kernel
theorem dX6_findTents_55 : decode cX6_findTents 55 = .ok (.iinc 2 1, 3) := by decide +kernel
theorem dX6_findTents_58 : decode cX6_findTents 58 = .ok (.goto (-42), 3) := by decide +kernel
theorem dX6_findTents_61 : decode cX6_findTents 61 = .ok (.iinc 1 (-1), 3) := by decide +kernel
theorem dX6_findTents_64 : decode cX6_findTents 64 = .ok (.goto (-56), 3) := by decide +kernel
theorem dX6_findTents_67 : decode cX6_findTents 67 = .ok (.aload_n 0, 1) := by decide +kernel
theorem dX6_findTents_68 : decode cX6_findTents 68 = .ok (.iconst (-1), 1) := by decide +kernel
theorem dX6_findTents_69 : decode cX6_findTents 69 = .ok (.iconst (-1), 1) := by decide +kernel
theorem dX6_findTents_70 : decode cX6_findTents 70 = .ok (.invokevirtual 97, 3) := by decide +kernel
theorem dX6_findTents_73 : decode cX6_findTents 73 = .ok (.ireturn, 1) := by decide +kernel
set_option maxRecDepth 20000 in
theorem ggX6_counted_X6_sleepers : GoodIn wsX6_counted wsX6_sleepers := goodIn_r _ [12, 3, 13, 14, 15, 16, 17, 18, 19, 20, 21, 22, 23, 24, 25, 26, 27, 28, 29, 30, 31, 32, 33, 34, 35, 36, 37] (by decide +kernel) (by decide +kernel)
set_option maxRecDepth 20000 in
theorem gX6_counted_X6_sleepers : GoodIn wsX6_counted (wsV RX6 97 RX6 yX6_sleepers wsX6_sleepers) := goodIn_app (goodIn_of _ (by decide +kernel)) ggX6_counted_X6_sleepers
theorem dX6_counted_0 : decode cX6_counted 0 = .ok (.bipush 7, 2) := by decide +kernel
theorem dX6_counted_2 : decode cX6_counted 2 = .ok (.newarray .int, 2) := by decide +kernel
theorem dX6_counted_4 : decode cX6_counted 4 = .ok (.dup, 1) := by decide +kernel
theorem dX6_counted_5 : decode cX6_counted 5 = .ok (.iconst 0, 1) := by decide +kernel
theorem dX6_counted_6 : decode cX6_counted 6 = .ok (.aload_n 0, 1) := by decide +kernel
theorem dX6_counted_7 : decode cX6_counted 7 = .ok (.getfield 57, 3) := by decide +kernel
theorem dX6_counted_10 : decode cX6_counted 10 = .ok (.iastore, 1) := by decide +kernel
theorem dX6_counted_11 : decode cX6_counted 11 = .ok (.dup, 1) := by decide +kernel
theorem dX6_counted_12 : decode cX6_counted 12 = .ok (.iconst 1, 1) := by decide +kernel
theorem dX6_counted_13 : decode cX6_counted 13 = .ok (.aload_n 0, 1) := by decide +kernel
theorem dX6_counted_14 : decode cX6_counted 14 = .ok (.getfield 64, 3) := by decide +kernel
theorem dX6_counted_17 : decode cX6_counted 17 = .ok (.iastore, 1) := by decide +kernel
theorem dX6_counted_18 : decode cX6_counted 18 = .ok (.dup, 1) := by decide +kernel
theorem dX6_counted_19 : decode cX6_counted 19 = .ok (.iconst 2, 1) := by decide +kernel
theorem dX6_counted_20 : decode cX6_counted 20 = .ok (.aload_n 0, 1) := by decide +kernel
theorem dX6_counted_21 : decode cX6_counted 21 = .ok (.getfield 67, 3) := by decide +kernel
theorem dX6_counted_24 : decode cX6_counted 24 = .ok (.iastore, 1) := by decide +kernel
theorem dX6_counted_25 : decode cX6_counted 25 = .ok (.dup, 1) := by decide +kernel
theorem dX6_counted_26 : decode cX6_counted 26 = .ok (.iconst 3, 1) := by decide +kernel
theorem dX6_counted_27 : decode cX6_counted 27 = .ok (.aload_n 0, 1) := by decide +kernel
theorem dX6_counted_28 : decode cX6_counted 28 = .ok (.iconst (-1), 1) := by decide +kernel
theorem dX6_counted_29 : decode cX6_counted 29 = .ok (.iconst (-1), 1) := by decide +kernel
theorem dX6_counted_30 : decode cX6_counted 30 = .ok (.invokevirtual 97, 3) := by decide +kernel
theorem dX6_counted_33 : decode cX6_counted 33 = .ok (.iastore, 1) := by decide +kernel
theorem dX6_counted_34 : decode cX6_counted 34 = .ok (.dup, 1) := by decide +kernel
theorem dX6_counted_35 : decode cX6_counted 35 = .ok (.iconst 4, 1) := by decide +kernel
theorem dX6_counted_36 : decode cX6_counted 36 = .ok (.aload_n 0, 1) := by decide +kernel
theorem dX6_counted_37 : decode cX6_counted 37 = .ok (.getfield 70, 3) := by decide +kernel
theorem dX6_counted_40 : decode cX6_counted 40 = .ok (.iastore, 1) := by decide +kernel
theorem dX6_counted_41 : decode cX6_counted 41 = .ok (.dup, 1) := by decide +kernel
theorem dX6_counted_42 : decode cX6_counted 42 = .ok (.iconst 5, 1) := by decide +kernel
theorem dX6_counted_43 : decode cX6_counted 43 = .ok (.aload_n 0, 1) := by decide +kernel
theorem dX6_counted_44 : decode cX6_counted 44 = .ok (.getfield 73, 3) := by decide +kernel
theorem dX6_counted_47 : decode cX6_counted 47 = .ok (.iastore, 1) := by decide +kernel
theorem dX6_counted_48 : decode cX6_counted 48 = .ok (.dup, 1) := by decide +kernel
theorem dX6_counted_49 : decode cX6_counted 49 = .ok (.bipush 6, 2) := by decide +kernel
theorem dX6_counted_51 : decode cX6_counted 51 = .ok (.aload_n 0, 1) := by decide +kernel
theorem dX6_counted_52 : decode cX6_counted 52 = .ok (.getfield 76, 3) := by decide +kernel
theorem dX6_counted_55 : decode cX6_counted 55 = .ok (.iastore, 1) := by decide +kernel
theorem dX6_counted_56 : decode cX6_counted 56 = .ok (.astore_n 2, 1) := by decide +kernel
theorem dX6_counted_57 : decode cX6_counted 57 = .ok (.aload_n 2, 1) := by decide +kernel
theorem dX6_counted_58 : decode cX6_counted 58 = .ok (.iload_n 1, 1) := by decide +kernel
theorem dX6_counted_59 : decode cX6_counted 59 = .ok (.iaload, 1) := by decide +kernel
theorem dX6_counted_60 : decode cX6_counted 60 = .ok (.ireturn, 1) := by decide +kernel
set_option maxRecDepth 20000 in
theorem ggX6_count_X6_isIn : GoodIn wsX6_count wsX6_isIn := goodIn_r _ [5] (by decide +kernel) (by decide +kernel)
set_option maxRecDepth 20000 in
theorem gX6_count_X6_isIn : GoodIn wsX6_count (va_wsS RX6 60 yX6_isIn wsX6_isIn) := goodIn_app (goodIn_of _ (by decide +kernel)) ggX6_count_X6_isIn
set_option maxRecDepth 20000 in
theorem ggX6_count_X6_counted : GoodIn wsX6_count wsX6_counted := goodIn_r _ [9, 10, 11, 12, 13, 14, 15, 16, 17, 18, 19, 4, 20, 21, 22, 27, 28, 29, 30, 31, 32, 33, 34, 35, 36, 37, 38, 39, 40, 41, 42, 43, 44, 45, 46, 47, 48, 49] (by decide +kernel) (by decide +kernel)
set_option maxRecDepth 20000 in
theorem gX6_count_X6_counted : GoodIn wsX6_count (wsV RX6 119 RX6 yX6_counted wsX6_counted) := goodIn_app (goodIn_of _ (by decide +kernel)) ggX6_count_X6_counted
set_option maxRecDepth 20000 in
theorem ggX6_count_X6_no : GoodIn wsX6_count wsX6_no := goodIn_r _ [26, 1, 27, 28, 29, 30, 31, 32, 33, 34, 35, 36, 37, 38, 39, 40, 41, 42, 43, 44, 45, 46, 47, 48, 49] (by decide +kernel) (by decide +kernel)
set_option maxRecDepth 20000 in
theorem gX6_count_X6_no : GoodIn wsX6_count (wsV RX6 79 RX6 yX6_no wsX6_no) := goodIn_app (goodIn_of _ (by decide +kernel)) ggX6_count_X6_no
theorem dX6_count_0 : decode cX6_count 0 = .ok (.aload_n 0, 1) := by decide +kernel
theorem dX6_count_1 : decode cX6_count 1 = .ok (.iconst 0, 1) := by decide +kernel
theorem dX6_count_2 : decode cX6_count 2 = .ok (.putfield 53, 3) := by decide +kernel
theorem dX6_count_5 : decode cX6_count 5 = .ok (.iload_n 1, 1) := by decide +kernel
theorem dX6_count_6 : decode cX6_count 6 = .ok (.iconst 0, 1) := by decide +kernel
theorem dX6_count_7 : decode cX6_count 7 = .ok (.bipush 6, 2) := by decide +kernel
theorem dX6_count_9 : decode cX6_count 9 = .ok (.invokestatic 60, 3) := by decide +kernel
theorem dX6_count_12 : decode cX6_count 12 = .ok (.ifCond .eq 11, 3) := by decide +kernel
theorem dX6_count_15 : decode cX6_count 15 = .ok (.aload_n 0, 1) := by decide +kernel
theorem dX6_count_16 : decode cX6_count 16 = .ok (.iload_n 1, 1) := by decide +kernel
theorem dX6_count_17 : decode cX6_count 17 = .ok (.invokevirtual 119, 3) := by decide +kernel
theorem dX6_count_20 : decode cX6_count 20 = .ok (.goto 8, 3) := by decide +kernel
theorem dX6_count_23 : decode cX6_count 23 = .ok (.aload_n 0, 1) := by decide +kernel
theorem dX6_count_24 : decode cX6_count 24 = .ok (.iconst 1, 1) := by decide +kernel
theorem dX6_count_25 : decode cX6_count 25 = .ok (.invokevirtual 79, 3) := by decide +kernel
theorem dX6_count_28 : decode cX6_count 28 = .ok (.ireturn, 1) := by decide +kernel
set_option maxRecDepth 20000 in
theorem ggX6_at_X6_isIn : GoodIn wsX6_at wsX6_isIn := goodIn_r _ [5] (by decide +kernel) (by decide +kernel)
set_option maxRecDepth 20000 in
theorem gX6_at_X6_isIn : GoodIn wsX6_at (va_wsS RX6 60 yX6_isIn wsX6_isIn) := goodIn_app (goodIn_of _ (by decide +kernel)) ggX6_at_X6_isIn
theorem dX6_at_0 : decode cX6_at 0 = .ok (.iload_n 1, 1) := by decide +kernel
theorem dX6_at_1 : decode cX6_at 1 = .ok (.iconst 0, 1) := by decide +kernel
theorem dX6_at_2 : decode cX6_at 2 = .ok (.bipush 60, 2) := by decide +kernel
theorem dX6_at_4 : decode cX6_at 4 = .ok (.invokestatic 60, 3) := by decide +kernel
theorem dX6_at_7 : decode cX6_at 7 = .ok (.ifCond .eq 16, 3) := by decide +kernel
theorem dX6_at_10 : decode cX6_at 10 = .ok (.aload_n 0, 1) := by decide +kernel
theorem dX6_at_11 : decode cX6_at 11 = .ok (.getfield 38, 3) := by decide +kernel
theorem dX6_at_14 : decode cX6_at 14 = .ok (.iconst 5, 1) := by decide +kernel
theorem dX6_at_15 : decode cX6_at 15 = .ok (.iload_n 1, 1) := by decide +kernel
theorem dX6_at_16 : decode cX6_at 16 = .ok (.imul, 1) := by decide +kernel
theorem dX6_at_17 : decode cX6_at 17 = .ok (.iload_n 2, 1) := by decide +kernel
theorem dX6_at_18 : decode cX6_at 18 = .ok (.iadd, 1) := by decide +kernel
theorem dX6_at_19 : decode cX6_at 19 = .ok (.iaload, 1) := by decide +kernel
theorem dX6_at_20 : decode cX6_at 20 = .ok (.goto 4, 3) := by decide +kernel
theorem dX6_at_23 : decode cX6_at 23 = .ok (.iconst (-1), 1) := by decide +kernel
theorem dX6_at_24 : decode cX6_at 24 = .ok (.ireturn, 1) := by decide +kernel
theorem dX6_hasScout_0 : decode cX6_hasScout 0 = .ok (.iconst 0, 1) := by decide +kernel
theorem dX6_hasScout_1 : decode cX6_hasScout 1 = .ok (.istore_n 3, 1) := by decide +kernel
theorem dX6_hasScout_2 : decode cX6_hasScout 2 = .ok (.iconst 0, 1) := by decide +kernel
theorem dX6_hasScout_3 : decode cX6_hasScout 3 = .ok (.istore 4, 2) := by decide +kernel
theorem dX6_hasScout_5 : decode cX6_hasScout 5 = .ok (.iload 4, 2) := by decide +kernel
theorem dX6_hasScout_7 : decode cX6_hasScout 7 = .ok (.aload_n 0, 1) := by decide +kernel
theorem dX6_hasScout_8 : decode cX6_hasScout 8 = .ok (.getfield 64, 3) := by decide +kernel
theorem dX6_hasScout_11 : decode cX6_hasScout 11 = .ok (.if_icmp .ge 41, 3) := by decide +kernel
theorem dX6_hasScout_14 : decode cX6_hasScout 14 = .ok (.iload_n 3, 1) := by decide +kernel
theorem dX6_hasScout_15 : decode cX6_hasScout 15 = .ok (.ifCond .ne 25, 3) := by decide +kernel
theorem dX6_hasScout_18 : decode cX6_hasScout 18 = .ok (.aload_n 0, 1) := by decide +kernel
theorem dX6_hasScout_19 : decode cX6_hasScout 19 = .ok (.getfield 9, 3) := by decide +kernel
theorem dX6_hasScout_22 : decode cX6_hasScout 22 = .ok (.iload 4, 2) := by decide +kernel
theorem dX6_hasScout_24 : decode cX6_hasScout 24 = .ok (.iaload, 1) := by decide +kernel
theorem dX6_hasScout_25 : decode cX6_hasScout 25 = .ok (.iload_n 1, 1) := by decide +kernel
theorem dX6_hasScout_26 : decode cX6_hasScout 26 = .ok (.if_icmp .ne 18, 3) := by decide +kernel
theorem dX6_hasScout_29 : decode cX6_hasScout 29 = .ok (.aload_n 0, 1) := by decide +kernel
theorem dX6_hasScout_30 : decode cX6_hasScout 30 = .ok (.getfield 13, 3) := by decide +kernel
theorem dX6_hasScout_33 : decode cX6_hasScout 33 = .ok (.iload 4, 2) := by decide +kernel
theorem dX6_hasScout_35 : decode cX6_hasScout 35 = .ok (.iaload, 1) := by decide +kernel
theorem dX6_hasScout_36 : decode cX6_hasScout 36 = .ok (.iload_n 2, 1) := by decide +kernel
theorem dX6_hasScout_37 : decode cX6_hasScout 37 = .ok (.if_icmp .lt 7, 3) := by decide +kernel
theorem dX6_hasScout_40 : decode cX6_hasScout 40 = .ok (.iconst 1, 1) := by decide +kernel
theorem dX6_hasScout_41 : decode cX6_hasScout 41 = .ok (.goto 4, 3) := by decide +kernel
theorem dX6_hasScout_44 : decode cX6_hasScout 44 = .ok (.iconst 0, 1) := by decide +kernel
theorem dX6_hasScout_45 : decode cX6_hasScout 45 = .ok (.istore_n 3, 1) := by decide +kernel
theorem dX6_hasScout_46 : decode cX6_hasScout 46 = .ok (.iinc 4 1, 3) := by decide +kernel
theorem dX6_hasScout_49 : decode cX6_hasScout 49 = .ok (.goto (-44), 3) := by decide +kernel
theorem dX6_hasScout_52 : decode cX6_hasScout 52 = .ok (.iload_n 3, 1) := by decide +kernel
theorem dX6_hasScout_53 : decode cX6_hasScout 53 = .ok (.ireturn, 1) := by decide +kernel
set_option maxRecDepth 20000 in
theorem ggX6_canBeGiven_X6_hasScout : GoodIn wsX6_canBeGiven wsX6_hasScout := goodIn_r _ [5, 6, 7, 8, 17, 18, 19, 20, 21, 22, 23, 24, 25, 26, 27, 28, 29, 30, 31, 32, 33, 34, 35, 36, 37, 38, 39] (by decide +kernel) (by decide +kernel)
set_option maxRecDepth 20000 in
theorem gX6_canBeGiven_X6_hasScout : GoodIn wsX6_canBeGiven (wsV RX6 122 RX6 yX6_hasScout wsX6_hasScout) := goodIn_app (goodIn_of _ (by decide +kernel)) ggX6_canBeGiven_X6_hasScout
set_option maxRecDepth 20000 in
theorem ggX6_canBeGiven_X6_at : GoodIn wsX6_canBeGiven wsX6_at := goodIn_r _ [12, 13, 14, 15, 4, 16, 17, 18, 19, 20, 21, 22, 23, 24, 25, 26, 27, 28, 29, 30, 31, 32, 33, 34, 35, 36, 37, 38, 39] (by decide +kernel) (by decide +kernel)
set_option maxRecDepth 20000 in
theorem gX6_canBeGiven_X6_at : GoodIn wsX6_canBeGiven (wsV RX6 125 RX6 yX6_at wsX6_at) := goodIn_app (goodIn_of _ (by decide +kernel)) ggX6_canBeGiven_X6_at
theorem dX6_canBeGiven_0 : decode cX6_canBeGiven 0 = .ok (.aload_n 0, 1) := by decide +kernel
theorem dX6_canBeGiven_1 : decode cX6_canBeGiven 1 = .ok (.iload_n 3, 1) := by decide +kernel
theorem dX6_canBeGiven_2 : decode cX6_canBeGiven 2 = .ok (.iload_n 2, 1) := by decide +kernel
theorem dX6_canBeGiven_3 : decode cX6_canBeGiven 3 = .ok (.iconst 4, 1) := by decide +kernel
theorem dX6_canBeGiven_4 : decode cX6_canBeGiven 4 = .ok (.if_icmp .ne 8, 3) := by decide +kernel
theorem dX6_canBeGiven_7 : decode cX6_canBeGiven 7 = .ok (.bipush 12, 2) := by decide +kernel
theorem dX6_canBeGiven_9 : decode cX6_canBeGiven 9 = .ok (.goto 4, 3) := by decide +kernel
theorem dX6_canBeGiven_12 : decode cX6_canBeGiven 12 = .ok (.iconst 0, 1) := by decide +kernel
theorem dX6_canBeGiven_13 : decode cX6_canBeGiven 13 = .ok (.invokevirtual 122, 3) := by decide +kernel
theorem dX6_canBeGiven_16 : decode cX6_canBeGiven 16 = .ok (.ifCond .eq 31, 3) := by decide +kernel
theorem dX6_canBeGiven_19 : decode cX6_canBeGiven 19 = .ok (.aload_n 0, 1) := by decide +kernel
theorem dX6_canBeGiven_20 : decode cX6_canBeGiven 20 = .ok (.iload_n 1, 1) := by decide +kernel
theorem dX6_canBeGiven_21 : decode cX6_canBeGiven 21 = .ok (.iconst 1, 1) := by decide +kernel
theorem dX6_canBeGiven_22 : decode cX6_canBeGiven 22 = .ok (.isub, 1) := by decide +kernel
theorem dX6_canBeGiven_23 : decode cX6_canBeGiven 23 = .ok (.iload_n 2, 1) := by decide +kernel
theorem dX6_canBeGiven_24 : decode cX6_canBeGiven 24 = .ok (.invokevirtual 125, 3) := by decide +kernel
theorem dX6_canBeGiven_27 : decode cX6_canBeGiven 27 = .ok (.iload_n 3, 1) := by decide +kernel
theorem dX6_canBeGiven_28 : decode cX6_canBeGiven 28 = .ok (.if_icmp .eq 19, 3) := by decide +kernel
theorem dX6_canBeGiven_31 : decode cX6_canBeGiven 31 = .ok (.aload_n 0, 1) := by decide +kernel
theorem dX6_canBeGiven_32 : decode cX6_canBeGiven 32 = .ok (.iload_n 1, 1) := by decide +kernel
theorem dX6_canBeGiven_33 : decode cX6_canBeGiven 33 = .ok (.iconst 1, 1) := by decide +kernel
theorem dX6_canBeGiven_34 : decode cX6_canBeGiven 34 = .ok (.iadd, 1) := by decide +kernel
theorem dX6_canBeGiven_35 : decode cX6_canBeGiven 35 = .ok (.iload_n 2, 1) := by decide +kernel
theorem dX6_canBeGiven_36 : decode cX6_canBeGiven 36 = .ok (.invokevirtual 125, 3) := by decide +kernel
theorem dX6_canBeGiven_39 : decode cX6_canBeGiven 39 = .ok (.iload_n 3, 1) := by decide +kernel
theorem dX6_canBeGiven_40 : decode cX6_canBeGiven 40 = .ok (.if_icmp .eq 7, 3) := by decide +kernel
theorem dX6_canBeGiven_43 : decode cX6_canBeGiven 43 = .ok (.iconst 1, 1) := by decide +kernel
theorem dX6_canBeGiven_44 : decode cX6_canBeGiven 44 = .ok (.goto 4, 3) := by decide +kernel
theorem dX6_canBeGiven_47 : decode cX6_canBeGiven 47 = .ok (.iconst 0, 1) := by decide +kernel
theorem dX6_canBeGiven_48 : decode cX6_canBeGiven 48 = .ok (.istore 4, 2) := by decide +kernel
theorem dX6_canBeGiven_50 : decode cX6_canBeGiven 50 = .ok (.iconst 0, 1) := by decide +kernel
theorem dX6_canBeGiven_51 : decode cX6_canBeGiven 51 = .ok (.istore 5, 2) := by decide +kernel
theorem dX6_canBeGiven_53 : decode cX6_canBeGiven 53 = .ok (.iload 5, 2) := by decide +kernel
theorem dX6_canBeGiven_55 : decode cX6_canBeGiven 55 = .ok (.iconst 5, 1) := by decide +kernel
theorem dX6_canBeGiven_56 : decode cX6_canBeGiven 56 = .ok (.if_icmp .ge 38, 3) := by decide +kernel
theorem dX6_canBeGiven_59 : decode cX6_canBeGiven 59 = .ok (.iload 4, 2) := by decide +kernel
theorem dX6_canBeGiven_61 : decode cX6_canBeGiven 61 = .ok (.ifCond .eq 24, 3) := by decide +kernel
theorem dX6_canBeGiven_64 : decode cX6_canBeGiven 64 = .ok (.iload 5, 2) := by decide +kernel
theorem dX6_canBeGiven_66 : decode cX6_canBeGiven 66 = .ok (.iload_n 2, 1) := by decide +kernel
theorem dX6_canBeGiven_67 : decode cX6_canBeGiven 67 = .ok (.if_icmp .eq 14, 3) := by decide +kernel
theorem dX6_canBeGiven_70 : decode cX6_canBeGiven 70 = .ok (.aload_n 0, 1) := by decide +kernel
theorem dX6_canBeGiven_71 : decode cX6_canBeGiven 71 = .ok (.iload_n 1, 1) := by decide +kernel
theorem dX6_canBeGiven_72 : decode cX6_canBeGiven 72 = .ok (.iload 5, 2) := by decide +kernel
theorem dX6_canBeGiven_74 : decode cX6_canBeGiven 74 = .ok (.invokevirtual 125, 3) := by decide +kernel
theorem dX6_canBeGiven_77 : decode cX6_canBeGiven 77 = .ok (.iload_n 3, 1) := by decide +kernel
theorem dX6_canBeGiven_78 : decode cX6_canBeGiven 78 = .ok (.if_icmp .eq 7, 3) := by decide +kernel
theorem dX6_canBeGiven_81 : decode cX6_canBeGiven 81 = .ok (.iconst 1, 1) := by decide +kernel
theorem dX6_canBeGiven_82 : decode cX6_canBeGiven 82 = .ok (.goto 4, 3) := by decide +kernel
theorem dX6_canBeGiven_85 : decode cX6_canBeGiven 85 = .ok (.iconst 0, 1) := by decide +kernel
theorem dX6_canBeGiven_86 : decode cX6_canBeGiven 86 = .ok (.istore 4, 2) := by decide +kernel
theorem dX6_canBeGiven_88 : decode cX6_canBeGiven 88 = .ok (.iinc 5 1, 3) := by decide +kernel
theorem dX6_canBeGiven_91 : decode cX6_canBeGiven 91 = .ok (.goto (-38), 3) := by decide +kernel
theorem dX6_canBeGiven_94 : decode cX6_canBeGiven 94 = .ok (.iload 4, 2) := by decide +kernel
theorem dX6_canBeGiven_96 : decode cX6_canBeGiven 96 = .ok (.ireturn, 1) := by decide +kernel
set_option maxRecDepth 20000 in
theorem ggX6_giveDuty_X6_isIn : GoodIn wsX6_giveDuty wsX6_isIn := goodIn_r _ [7] (by decide +kernel) (by decide +kernel)
set_option maxRecDepth 20000 in
theorem gX6_giveDuty_X6_isIn : GoodIn wsX6_giveDuty (va_wsS RX6 60 yX6_isIn wsX6_isIn) := goodIn_app (goodIn_of _ (by decide +kernel)) ggX6_giveDuty_X6_isIn
set_option maxRecDepth 20000 in
theorem ggX6_giveDuty_X6_isPatrol : GoodIn wsX6_giveDuty wsX6_isPatrol := goodIn_r _ [11, 12, 4, 5, 6, 7, 32, 33, 34, 35, 36, 37, 38, 39, 40, 41, 42, 43, 44, 45, 46, 47, 48, 49, 50, 51, 52, 53, 54] (by decide +kernel) (by decide +kernel)
set_option maxRecDepth 20000 in
theorem gX6_giveDuty_X6_isPatrol : GoodIn wsX6_giveDuty (wsV RX6 83 RX6 yX6_isPatrol wsX6_isPatrol) := goodIn_app (goodIn_of _ (by decide +kernel)) ggX6_giveDuty_X6_isPatrol
set_option maxRecDepth 20000 in
theorem ggX6_giveDuty_X6_no : GoodIn wsX6_giveDuty wsX6_no := goodIn_r _ [16, 1, 32, 33, 34, 35, 36, 37, 38, 39, 40, 41, 42, 43, 44, 45, 46, 47, 48, 49, 50, 51, 52, 53, 54] (by decide +kernel) (by decide +kernel)
set_option maxRecDepth 20000 in
theorem gX6_giveDuty_X6_no : GoodIn wsX6_giveDuty (wsV RX6 79 RX6 yX6_no wsX6_no) := goodIn_app (goodIn_of _ (by decide +kernel)) ggX6_giveDuty_X6_no
set_option maxRecDepth 20000 in
theorem ggX6_giveDuty_X6_canBeGiven : GoodIn wsX6_giveDuty wsX6_canBeGiven := goodIn_r _ [20, 21, 22, 23, 6, 24, 25, 26, 27, 28, 29, 30, 31, 3, 4, 5, 7, 32, 33, 34, 35, 36, 37, 38, 39, 40, 41, 42, 43, 44, 45, 46, 47, 48, 49, 50, 51, 52, 53, 54] (by decide +kernel) (by decide +kernel)
set_option maxRecDepth 20000 in
theorem gX6_giveDuty_X6_canBeGiven : GoodIn wsX6_giveDuty (wsV RX6 131 RX6 yX6_canBeGiven wsX6_canBeGiven) := goodIn_app (goodIn_of _ (by decide +kernel)) ggX6_giveDuty_X6_canBeGiven
set_option maxRecDepth 20000 in
theorem ggX6_giveDuty_X6_at : GoodIn wsX6_giveDuty wsX6_at := goodIn_r _ [31, 3, 4, 5, 6, 7, 32, 33, 34, 35, 36, 37, 38, 39, 40, 41, 42, 43, 44, 45, 46, 47, 48, 49, 50, 51, 52, 53, 54] (by decide +kernel) (by decide +kernel)
set_option maxRecDepth 20000 in
theorem gX6_giveDuty_X6_at : GoodIn wsX6_giveDuty (wsV RX6 125 RX6 yX6_at wsX6_at) := goodIn_app (goodIn_of _ (by decide +kernel)) ggX6_giveDuty_X6_at
theorem dX6_giveDuty_0 : decode cX6_giveDuty 0 = .ok (.aload_n 0, 1) := by decide +kernel
theorem dX6_giveDuty_1 : decode cX6_giveDuty 1 = .ok (.iconst 0, 1) := by decide +kernel
theorem dX6_giveDuty_2 : decode cX6_giveDuty 2 = .ok (.putfield 53, 3) := by decide +kernel
theorem dX6_giveDuty_5 : decode cX6_giveDuty 5 = .ok (.iload_n 2, 1) := by decide +kernel
theorem dX6_giveDuty_6 : decode cX6_giveDuty 6 = .ok (.iconst 0, 1) := by decide +kernel
theorem dX6_giveDuty_7 : decode cX6_giveDuty 7 = .ok (.iconst 4, 1) := by decide +kernel
theorem dX6_giveDuty_8 : decode cX6_giveDuty 8 = .ok (.invokestatic 60, 3) := by decide +kernel
theorem dX6_giveDuty_11 : decode cX6_giveDuty 11 = .ok (.ifCond .eq 16, 3) := by decide +kernel
theorem dX6_giveDuty_14 : decode cX6_giveDuty 14 = .ok (.iload_n 3, 1) := by decide +kernel
theorem dX6_giveDuty_15 : decode cX6_giveDuty 15 = .ok (.iconst (-1), 1) := by decide +kernel
theorem dX6_giveDuty_16 : decode cX6_giveDuty 16 = .ok (.if_icmp .eq 17, 3) := by decide +kernel
theorem dX6_giveDuty_19 : decode cX6_giveDuty 19 = .ok (.aload_n 0, 1) := by decide +kernel
theorem dX6_giveDuty_20 : decode cX6_giveDuty 20 = .ok (.iload_n 3, 1) := by decide +kernel
theorem dX6_giveDuty_21 : decode cX6_giveDuty 21 = .ok (.invokevirtual 83, 3) := by decide +kernel
theorem dX6_giveDuty_24 : decode cX6_giveDuty 24 = .ok (.ifCond .ne 9, 3) := by decide +kernel
theorem dX6_giveDuty_27 : decode cX6_giveDuty 27 = .ok (.aload_n 0, 1) := by decide +kernel
theorem dX6_giveDuty_28 : decode cX6_giveDuty 28 = .ok (.iconst 1, 1) := by decide +kernel
theorem dX6_giveDuty_29 : decode cX6_giveDuty 29 = .ok (.invokevirtual 79, 3) := by decide +kernel
theorem dX6_giveDuty_32 : decode cX6_giveDuty 32 = .ok (.ireturn, 1) := by decide +kernel
theorem dX6_giveDuty_33 : decode cX6_giveDuty 33 = .ok (.iload_n 1, 1) := by decide +kernel
theorem dX6_giveDuty_34 : decode cX6_giveDuty 34 = .ok (.aload_n 0, 1) := by decide +kernel
theorem dX6_giveDuty_35 : decode cX6_giveDuty 35 = .ok (.getfield 128, 3) := by decide +kernel
theorem dX6_giveDuty_38 : decode cX6_giveDuty 38 = .ok (.bipush 60, 2) := by decide +kernel
theorem dX6_giveDuty_40 : decode cX6_giveDuty 40 = .ok (.invokestatic 60, 3) := by decide +kernel
theorem dX6_giveDuty_43 : decode cX6_giveDuty 43 = .ok (.ifCond .ne 9, 3) := by decide +kernel
theorem dX6_giveDuty_46 : decode cX6_giveDuty 46 = .ok (.aload_n 0, 1) := by decide +kernel
theorem dX6_giveDuty_47 : decode cX6_giveDuty 47 = .ok (.iconst 2, 1) := by decide +kernel
theorem dX6_giveDuty_48 : decode cX6_giveDuty 48 = .ok (.invokevirtual 79, 3) := by decide +kernel
theorem dX6_giveDuty_51 : decode cX6_giveDuty 51 = .ok (.ireturn, 1) := by decide +kernel
theorem dX6_giveDuty_52 : decode cX6_giveDuty 52 = .ok (.iload_n 3, 1) := by decide +kernel
theorem dX6_giveDuty_53 : decode cX6_giveDuty 53 = .ok (.iconst (-1), 1) := by decide +kernel
theorem dX6_giveDuty_54 : decode cX6_giveDuty 54 = .ok (.if_icmp .eq 19, 3) := by decide +kernel
theorem dX6_giveDuty_57 : decode cX6_giveDuty 57 = .ok (.aload_n 0, 1) := by decide +kernel
theorem dX6_giveDuty_58 : decode cX6_giveDuty 58 = .ok (.iload_n 1, 1) := by decide +kernel
theorem dX6_giveDuty_59 : decode cX6_giveDuty 59 = .ok (.iload_n 2, 1) := by decide +kernel
theorem dX6_giveDuty_60 : decode cX6_giveDuty 60 = .ok (.iload_n 3, 1) := by decide +kernel
theorem dX6_giveDuty_61 : decode cX6_giveDuty 61 = .ok (.invokevirtual 131, 3) := by decide +kernel
theorem dX6_giveDuty_64 : decode cX6_giveDuty 64 = .ok (.ifCond .ne 9, 3) := by decide +kernel
theorem dX6_giveDuty_67 : decode cX6_giveDuty 67 = .ok (.aload_n 0, 1) := by decide +kernel
theorem dX6_giveDuty_68 : decode cX6_giveDuty 68 = .ok (.iconst 3, 1) := by decide +kernel
theorem dX6_giveDuty_69 : decode cX6_giveDuty 69 = .ok (.invokevirtual 79, 3) := by decide +kernel
theorem dX6_giveDuty_72 : decode cX6_giveDuty 72 = .ok (.ireturn, 1) := by decide +kernel
theorem dX6_giveDuty_73 : decode cX6_giveDuty 73 = .ok (.aload_n 0, 1) := by decide +kernel
theorem dX6_giveDuty_74 : decode cX6_giveDuty 74 = .ok (.iload_n 1, 1) := by decide +kernel
theorem dX6_giveDuty_75 : decode cX6_giveDuty 75 = .ok (.iload_n 2, 1) := by decide +kernel
theorem dX6_giveDuty_76 : decode cX6_giveDuty 76 = .ok (.invokevirtual 125, 3) := by decide +kernel
theorem dX6_giveDuty_79 : decode cX6_giveDuty 79 = .ok (.istore 4, 2) := by decide +kernel
theorem dX6_giveDuty_81 : decode cX6_giveDuty 81 = .ok (.aload_n 0, 1) := by decide +kernel
theorem dX6_giveDuty_82 : decode cX6_giveDuty 82 = .ok (.getfield 38, 3) := by decide +kernel
theorem dX6_giveDuty_85 : decode cX6_giveDuty 85 = .ok (.iconst 5, 1) := by decide +kernel
theorem dX6_giveDuty_86 : decode cX6_giveDuty 86 = .ok (.iload_n 1, 1) := by decide +kernel
theorem dX6_giveDuty_87 : decode cX6_giveDuty 87 = .ok (.imul, 1) := by decide +kernel
theorem dX6_giveDuty_88 : decode cX6_giveDuty 88 = .ok (.iload_n 2, 1) := by decide +kernel
theorem dX6_giveDuty_89 : decode cX6_giveDuty 89 = .ok (.iadd, 1) := by decide +kernel
theorem dX6_giveDuty_90 : decode cX6_giveDuty 90 = .ok (.iload_n 3, 1) := by decide +kernel
theorem dX6_giveDuty_91 : decode cX6_giveDuty 91 = .ok (.iastore, 1) := by decide +kernel
theorem dX6_giveDuty_92 : decode cX6_giveDuty 92 = .ok (.iload 4, 2) := by decide +kernel
theorem dX6_giveDuty_94 : decode cX6_giveDuty 94 = .ok (.ireturn, 1) := by decide +kernel
set_option maxRecDepth 20000 in
theorem ggX6_duty_X6_isIn : GoodIn wsX6_duty wsX6_isIn := goodIn_r _ [5] (by decide +kernel) (by decide +kernel)
set_option maxRecDepth 20000 in
theorem gX6_duty_X6_isIn : GoodIn wsX6_duty (va_wsS RX6 60 yX6_isIn wsX6_isIn) := goodIn_app (goodIn_of _ (by decide +kernel)) ggX6_duty_X6_isIn
set_option maxRecDepth 20000 in
theorem ggX6_duty_X6_at : GoodIn wsX6_duty wsX6_at := goodIn_r _ [9, 10, 2, 3, 4, 5, 15, 16, 17, 18, 19, 20, 21, 22, 23, 24, 25, 26, 27, 28, 29, 30, 31, 32, 33, 34, 35, 36, 37] (by decide +kernel) (by decide +kernel)
set_option maxRecDepth 20000 in
theorem gX6_duty_X6_at : GoodIn wsX6_duty (wsV RX6 125 RX6 yX6_at wsX6_at) := goodIn_app (goodIn_of _ (by decide +kernel)) ggX6_duty_X6_at
set_option maxRecDepth 20000 in
theorem ggX6_duty_X6_no : GoodIn wsX6_duty wsX6_no := goodIn_r _ [14, 1, 15, 16, 17, 18, 19, 20, 21, 22, 23, 24, 25, 26, 27, 28, 29, 30, 31, 32, 33, 34, 35, 36, 37] (by decide +kernel) (by decide +kernel)
set_option maxRecDepth 20000 in
theorem gX6_duty_X6_no : GoodIn wsX6_duty (wsV RX6 79 RX6 yX6_no wsX6_no) := goodIn_app (goodIn_of _ (by decide +kernel)) ggX6_duty_X6_no
theorem dX6_duty_0 : decode cX6_duty 0 = .ok (.aload_n 0, 1) := by decide +kernel
theorem dX6_duty_1 : decode cX6_duty 1 = .ok (.iconst 0, 1) := by decide +kernel
theorem dX6_duty_2 : decode cX6_duty 2 = .ok (.putfield 53, 3) := by decide +kernel
theorem dX6_duty_5 : decode cX6_duty 5 = .ok (.iload_n 2, 1) := by decide +kernel
theorem dX6_duty_6 : decode cX6_duty 6 = .ok (.iconst 0, 1) := by decide +kernel
theorem dX6_duty_7 : decode cX6_duty 7 = .ok (.iconst 4, 1) := by decide +kernel
theorem dX6_duty_8 : decode cX6_duty 8 = .ok (.invokestatic 60, 3) := by decide +kernel
theorem dX6_duty_11 : decode cX6_duty 11 = .ok (.ifCond .eq 22, 3) := by decide +kernel
theorem dX6_duty_14 : decode cX6_duty 14 = .ok (.iload_n 1, 1) := by decide +kernel
theorem dX6_duty_15 : decode cX6_duty 15 = .ok (.iconst 0, 1) := by decide +kernel
theorem dX6_duty_16 : decode cX6_duty 16 = .ok (.bipush 60, 2) := by decide +kernel
theorem dX6_duty_18 : decode cX6_duty 18 = .ok (.invokestatic 60, 3) := by decide +kernel
theorem dX6_duty_21 : decode cX6_duty 21 = .ok (.ifCond .eq 12, 3) := by decide +kernel
theorem dX6_duty_24 : decode cX6_duty 24 = .ok (.aload_n 0, 1) := by decide +kernel
theorem dX6_duty_25 : decode cX6_duty 25 = .ok (.iload_n 1, 1) := by decide +kernel
theorem dX6_duty_26 : decode cX6_duty 26 = .ok (.iload_n 2, 1) := by decide +kernel
theorem dX6_duty_27 : decode cX6_duty 27 = .ok (.invokevirtual 125, 3) := by decide +kernel
theorem dX6_duty_30 : decode cX6_duty 30 = .ok (.goto 8, 3) := by decide +kernel
theorem dX6_duty_33 : decode cX6_duty 33 = .ok (.aload_n 0, 1) := by decide +kernel
theorem dX6_duty_34 : decode cX6_duty 34 = .ok (.iconst 1, 1) := by decide +kernel
theorem dX6_duty_35 : decode cX6_duty 35 = .ok (.invokevirtual 79, 3) := by decide +kernel
theorem dX6_duty_38 : decode cX6_duty 38 = .ok (.ireturn, 1) := by decide +kernel
theorem dX6_pointsOf_0 : decode cX6_pointsOf 0 = .ok (.iconst 5, 1) := by decide +kernel
theorem dX6_pointsOf_1 : decode cX6_pointsOf 1 = .ok (.newarray .int, 2) := by decide +kernel
theorem dX6_pointsOf_3 : decode cX6_pointsOf 3 = .ok (.dup, 1) := by decide +kernel
theorem dX6_pointsOf_4 : decode cX6_pointsOf 4 = .ok (.iconst 0, 1) := by decide +kernel
theorem dX6_pointsOf_5 : decode cX6_pointsOf 5 = .ok (.iconst 2, 1) := by decide +kernel
theorem dX6_pointsOf_6 : decode cX6_pointsOf 6 = .ok (.iastore, 1) := by decide +kernel
theorem dX6_pointsOf_7 : decode cX6_pointsOf 7 = .ok (.dup, 1) := by decide +kernel
theorem dX6_pointsOf_8 : decode cX6_pointsOf 8 = .ok (.iconst 1, 1) := by decide +kernel
theorem dX6_pointsOf_9 : decode cX6_pointsOf 9 = .ok (.iconst 3, 1) := by decide +kernel
theorem dX6_pointsOf_10 : decode cX6_pointsOf 10 = .ok (.iastore, 1) := by decide +kernel
theorem dX6_pointsOf_11 : decode cX6_pointsOf 11 = .ok (.dup, 1) := by decide +kernel
theorem dX6_pointsOf_12 : decode cX6_pointsOf 12 = .ok (.iconst 2, 1) := by decide +kernel
theorem dX6_pointsOf_13 : decode cX6_pointsOf 13 = .ok (.iconst 4, 1) := by decide +kernel
theorem dX6_pointsOf_14 : decode cX6_pointsOf 14 = .ok (.iastore, 1) := by decide +kernel
theorem dX6_pointsOf_15 : decode cX6_pointsOf 15 = .ok (.dup, 1) := by decide +kernel
theorem dX6_pointsOf_16 : decode cX6_pointsOf 16 = .ok (.iconst 3, 1) := by decide +kernel
theorem dX6_pointsOf_17 : decode cX6_pointsOf 17 = .ok (.iconst 2, 1) := by decide +kernel
theorem dX6_pointsOf_18 : decode cX6_pointsOf 18 = .ok (.iastore, 1) := by decide +kernel
theorem dX6_pointsOf_19 : decode cX6_pointsOf 19 = .ok (.dup, 1) := by decide +kernel
theorem dX6_pointsOf_20 : decode cX6_pointsOf 20 = .ok (.iconst 4, 1) := by decide +kernel
theorem dX6_pointsOf_21 : decode cX6_pointsOf 21 = .ok (.iconst 5, 1) := by decide +kernel
theorem dX6_pointsOf_22 : decode cX6_pointsOf 22 = .ok (.iastore, 1) := by decide +kernel
theorem dX6_pointsOf_23 : decode cX6_pointsOf 23 = .ok (.astore_n 2, 1) := by decide +kernel
theorem dX6_pointsOf_24 : decode cX6_pointsOf 24 = .ok (.iconst 0, 1) := by decide +kernel
theorem dX6_pointsOf_25 : decode cX6_pointsOf 25 = .ok (.istore_n 3, 1) := by decide +kernel
theorem dX6_pointsOf_26 : decode cX6_pointsOf 26 = .ok (.iconst 0, 1) := by decide +kernel
theorem dX6_pointsOf_27 : decode cX6_pointsOf 27 = .ok (.istore 4, 2) := by decide +kernel
theorem dX6_pointsOf_29 : decode cX6_pointsOf 29 = .ok (.iload 4, 2) := by decide +kernel
theorem dX6_pointsOf_31 : decode cX6_pointsOf 31 = .ok (.aload_n 0, 1) := by decide +kernel
theorem dX6_pointsOf_32 : decode cX6_pointsOf 32 = .ok (.getfield 38, 3) := by decide +kernel
theorem dX6_pointsOf_35 : decode cX6_pointsOf 35 = .ok (.arraylength, 1) := by decide +kernel
theorem dX6_pointsOf_36 : decode cX6_pointsOf 36 = .ok (.if_icmp .ge 33, 3) := by decide +kernel
theorem dX6_pointsOf_39 : decode cX6_pointsOf 39 = .ok (.iload_n 3, 1) := by decide +kernel
theorem dX6_pointsOf_40 : decode cX6_pointsOf 40 = .ok (.aload_n 0, 1) := by decide +kernel
theorem dX6_pointsOf_41 : decode cX6_pointsOf 41 = .ok (.getfield 38, 3) := by decide +kernel
theorem dX6_pointsOf_44 : decode cX6_pointsOf 44 = .ok (.iload 4, 2) := by decide +kernel
theorem dX6_pointsOf_46 : decode cX6_pointsOf 46 = .ok (.iaload, 1) := by decide +kernel
theorem dX6_pointsOf_47 : decode cX6_pointsOf 47 = .ok (.iload_n 1, 1) := by decide +kernel
theorem dX6_pointsOf_48 : decode cX6_pointsOf 48 = .ok (.if_icmp .ne 12, 3) := by decide +kernel
theorem dX6_pointsOf_51 : decode cX6_pointsOf 51 = .ok (.aload_n 2, 1) := by decide +kernel
theorem dX6_pointsOf_52 : decode cX6_pointsOf 52 = .ok (.iload 4, 2) := by decide +kernel
theorem dX6_pointsOf_54 : decode cX6_pointsOf 54 = .ok (.iconst 5, 1) := by decide +kernel
theorem dX6_pointsOf_55 : decode cX6_pointsOf 55 = .ok (.irem, 1) := by decide +kernel
theorem dX6_pointsOf_56 : decode cX6_pointsOf 56 = .ok (.iaload, 1) := by decide +kernel
theorem dX6_pointsOf_57 : decode cX6_pointsOf 57 = .ok (.goto 4, 3) := by decide +kernel
theorem dX6_pointsOf_60 : decode cX6_pointsOf 60 = .ok (.iconst 0, 1) := by decide +kernel
theorem dX6_pointsOf_61 : decode cX6_pointsOf 61 = .ok (.iadd, 1) := by decide +kernel
theorem dX6_pointsOf_62 : decode cX6_pointsOf 62 = .ok (.istore_n 3, 1) := by decide +kernel
theorem dX6_pointsOf_63 : decode cX6_pointsOf 63 = .ok (.iinc 4 1, 3) := by decide +kernel
theorem dX6_pointsOf_66 : decode cX6_pointsOf 66 = .ok (.goto (-37), 3) := by decide +kernel
theorem dX6_pointsOf_69 : decode cX6_pointsOf 69 = .ok (.iload_n 3, 1) := by decide +kernel
theorem dX6_pointsOf_70 : decode cX6_pointsOf 70 = .ok (.ireturn, 1) := by decide +kernel
set_option maxRecDepth 20000 in
theorem ggX6_points_X6_isPatrol : GoodIn wsX6_points wsX6_isPatrol := goodIn_r _ [6, 7, 8, 9, 5, 10, 21, 22, 23, 24, 25, 26, 27, 28, 29, 30, 31, 32, 33, 34, 35, 36, 37, 38, 39, 40, 41, 42, 43] (by decide +kernel) (by decide +kernel)
set_option maxRecDepth 20000 in
theorem gX6_points_X6_isPatrol : GoodIn wsX6_points (wsV RX6 83 RX6 yX6_isPatrol wsX6_isPatrol) := goodIn_app (goodIn_of _ (by decide +kernel)) ggX6_points_X6_isPatrol
set_option maxRecDepth 20000 in
theorem ggX6_points_X6_pointsOf : GoodIn wsX6_points wsX6_pointsOf := goodIn_r _ [14, 15, 16, 21, 22, 23, 24, 25, 26, 27, 28, 29, 30, 31, 32, 33, 34, 35, 36, 37, 38, 39, 40, 41, 42, 43] (by decide +kernel) (by decide +kernel)
set_option maxRecDepth 20000 in
theorem gX6_points_X6_pointsOf : GoodIn wsX6_points (wsV RX6 134 RX6 yX6_pointsOf wsX6_pointsOf) := goodIn_app (goodIn_of _ (by decide +kernel)) ggX6_points_X6_pointsOf
set_option maxRecDepth 20000 in
theorem ggX6_points_X6_no : GoodIn wsX6_points wsX6_no := goodIn_r _ [20, 1, 21, 22, 23, 24, 25, 26, 27, 28, 29, 30, 31, 32, 33, 34, 35, 36, 37, 38, 39, 40, 41, 42, 43] (by decide +kernel) (by decide +kernel)
set_option maxRecDepth 20000 in
theorem gX6_points_X6_no : GoodIn wsX6_points (wsV RX6 79 RX6 yX6_no wsX6_no) := goodIn_app (goodIn_of _ (by decide +kernel)) ggX6_points_X6_no
theorem dX6_points_0 : decode cX6_points 0 = .ok (.aload_n 0, 1) := by decide +kernel
theorem dX6_points_1 : decode cX6_points 1 = .ok (.iconst 0, 1) := by decide +kernel
theorem dX6_points_2 : decode cX6_points 2 = .ok (.putfield 53, 3) := by decide +kernel
theorem dX6_points_5 : decode cX6_points 5 = .ok (.aload_n 0, 1) := by decide +kernel
theorem dX6_points_6 : decode cX6_points 6 = .ok (.iload_n 1, 1) := by decide +kernel
theorem dX6_points_7 : decode cX6_points 7 = .ok (.invokevirtual 83, 3) := by decide +kernel
theorem dX6_points_10 : decode cX6_points 10 = .ok (.ifCond .eq 11, 3) := by decide +kernel
theorem dX6_points_13 : decode cX6_points 13 = .ok (.aload_n 0, 1) := by decide +kernel
theorem dX6_points_14 : decode cX6_points 14 = .ok (.iload_n 1, 1) := by decide +kernel
theorem dX6_points_15 : decode cX6_points 15 = .ok (.invokevirtual 134, 3) := by decide +kernel
theorem dX6_points_18 : decode cX6_points 18 = .ok (.goto 8, 3) := by decide +kernel
theorem dX6_points_21 : decode cX6_points 21 = .ok (.aload_n 0, 1) := by decide +kernel
theorem dX6_points_22 : decode cX6_points 22 = .ok (.iconst 1, 1) := by decide +kernel
theorem dX6_points_23 : decode cX6_points 23 = .ok (.invokevirtual 79, 3) := by decide +kernel
theorem dX6_points_26 : decode cX6_points 26 = .ok (.ireturn, 1) := by decide +kernel
set_option maxRecDepth 20000 in
theorem ggX6_findDuties_X6_at : GoodIn wsX6_findDuties wsX6_at := goodIn_r _ [10, 5, 11, 12, 9, 13, 29, 30, 31, 32, 33, 34, 35, 36, 37, 38, 39, 40, 41, 42, 43, 44, 45, 46, 47, 48, 49, 50, 51] (by decide +kernel) (by decide +kernel)
set_option maxRecDepth 20000 in
theorem gX6_findDuties_X6_at : GoodIn wsX6_findDuties (wsV RX6 125 RX6 yX6_at wsX6_at) := goodIn_app (goodIn_of _ (by decide +kernel)) ggX6_findDuties_X6_at
set_option maxRecDepth 20000 in
theorem ggX6_findDuties_X6_canBeGiven : GoodIn wsX6_findDuties wsX6_canBeGiven := goodIn_r _ [17, 18, 19, 20, 9, 21, 22, 23, 24, 6, 7, 8, 10, 5, 11, 12, 13, 29, 30, 31, 32, 33, 34, 35, 36, 37, 38, 39, 40, 41, 42, 43, 44, 45, 46, 47, 48, 49, 50, 51] (by decide +kernel) (by decide +kernel)
set_option maxRecDepth 20000 in
theorem gX6_findDuties_X6_canBeGiven : GoodIn wsX6_findDuties (wsV RX6 131 RX6 yX6_canBeGiven wsX6_canBeGiven) := goodIn_app (goodIn_of _ (by decide +kernel)) ggX6_findDuties_X6_canBeGiven
set_option maxRecDepth 20000 in
theorem ggX6_findDuties_X6_pointsOf : GoodIn wsX6_findDuties wsX6_pointsOf := goodIn_r _ [28, 2, 5, 29, 30, 31, 32, 33, 34, 35, 36, 37, 38, 39, 40, 41, 42, 43, 44, 45, 46, 47, 48, 49, 50, 51] (by decide +kernel) (by decide +kernel)
set_option maxRecDepth 20000 in
theorem gX6_findDuties_X6_pointsOf : GoodIn wsX6_findDuties (wsV RX6 134 RX6 yX6_pointsOf wsX6_pointsOf) := goodIn_app (goodIn_of _ (by decide +kernel)) ggX6_findDuties_X6_pointsOf
theorem dX6_findDuties_0 : decode cX6_findDuties 0 = .ok (.aload_n 0, 1) := by decide +kernel
theorem dX6_findDuties_1 : decode cX6_findDuties 1 = .ok (.iconst 0, 1) := by decide +kernel
theorem dX6_findDuties_2 : decode cX6_findDuties 2 = .ok (.putfield 53, 3) := by decide +kernel
theorem dX6_findDuties_5 : decode cX6_findDuties 5 = .ok (.iconst 5, 1) := by decide +kernel
theorem dX6_findDuties_6 : decode cX6_findDuties 6 = .ok (.newarray .int, 2) := by decide +kernel
theorem dX6_findDuties_8 : decode cX6_findDuties 8 = .ok (.dup, 1) := by decide +kernel
theorem dX6_findDuties_9 : decode cX6_findDuties 9 = .ok (.iconst 0, 1) := by decide +kernel
theorem dX6_findDuties_10 : decode cX6_findDuties 10 = .ok (.iconst 4, 1) := by decide +kernel
theorem dX6_findDuties_11 : decode cX6_findDuties 11 = .ok (.iastore, 1) := by decide +kernel
theorem dX6_findDuties_12 : decode cX6_findDuties 12 = .ok (.dup, 1) := by decide +kernel
theorem dX6_findDuties_13 : decode cX6_findDuties 13 = .ok (.iconst 1, 1) := by decide +kernel
theorem dX6_findDuties_14 : decode cX6_findDuties 14 = .ok (.iconst 2, 1) := by decide +kernel
theorem dX6_findDuties_15 : decode cX6_findDuties 15 = .ok (.iastore, 1) := by decide +kernel
theorem dX6_findDuties_16 : decode cX6_findDuties 16 = .ok (.dup, 1) := by decide +kernel
theorem dX6_findDuties_17 : decode cX6_findDuties 17 = .ok (.iconst 2, 1) := by decide +kernel
theorem dX6_findDuties_18 : decode cX6_findDuties 18 = .ok (.iconst 1, 1) := by decide +kernel
theorem dX6_findDuties_19 : decode cX6_findDuties 19 = .ok (.iastore, 1) := by decide +kernel
theorem dX6_findDuties_20 : decode cX6_findDuties 20 = .ok (.dup, 1) := by decide +kernel
theorem dX6_findDuties_21 : decode cX6_findDuties 21 = .ok (.iconst 3, 1) := by decide +kernel
theorem dX6_findDuties_22 : decode cX6_findDuties 22 = .ok (.iconst 0, 1) := by decide +kernel
theorem dX6_findDuties_23 : decode cX6_findDuties 23 = .ok (.iastore, 1) := by decide +kernel
theorem dX6_findDuties_24 : decode cX6_findDuties 24 = .ok (.dup, 1) := by decide +kernel
theorem dX6_findDuties_25 : decode cX6_findDuties 25 = .ok (.iconst 4, 1) := by decide +kernel
theorem dX6_findDuties_26 : decode cX6_findDuties 26 = .ok (.iconst 3, 1) := by decide +kernel
theorem dX6_findDuties_27 : decode cX6_findDuties 27 = .ok (.iastore, 1) := by decide +kernel
theorem dX6_findDuties_28 : decode cX6_findDuties 28 = .ok (.astore_n 1, 1) := by decide +kernel
theorem dX6_findDuties_29 : decode cX6_findDuties 29 = .ok (.iconst 0, 1) := by decide +kernel
theorem dX6_findDuties_30 : decode cX6_findDuties 30 = .ok (.istore_n 2, 1) := by decide +kernel
theorem dX6_findDuties_31 : decode cX6_findDuties 31 = .ok (.aload_n 1, 1) := by decide +kernel
theorem dX6_findDuties_32 : decode cX6_findDuties 32 = .ok (.astore_n 3, 1) := by decide +kernel
theorem dX6_findDuties_33 : decode cX6_findDuties 33 = .ok (.aload_n 3, 1) := by decide +kernel
theorem dX6_findDuties_34 : decode cX6_findDuties 34 = .ok (.arraylength, 1) := by decide +kernel
theorem dX6_findDuties_35 : decode cX6_findDuties 35 = .ok (.istore 4, 2) := by decide +kernel
theorem dX6_findDuties_37 : decode cX6_findDuties 37 = .ok (.iconst 0, 1) := by decide +kernel
theorem dX6_findDuties_38 : decode cX6_findDuties 38 = .ok (.istore 5, 2) := by decide +kernel
theorem dX6_findDuties_40 : decode cX6_findDuties 40 = .ok (.iload 5, 2) := by decide +kernel
theorem dX6_findDuties_42 : decode cX6_findDuties 42 = .ok (.iload 4, 2) := by decide +kernel
theorem dX6_findDuties_44 : decode cX6_findDuties 44 = .ok (.if_icmp .ge 123, 3) := by decide +kernel
theorem dX6_findDuties_47 : decode cX6_findDuties 47 = .ok (.aload_n 3, 1) := by decide +kernel
theorem dX6_findDuties_48 : decode cX6_findDuties 48 = .ok (.iload 5, 2) := by decide +kernel
theorem dX6_findDuties_50 : decode cX6_findDuties 50 = .ok (.iaload, 1) := by decide +kernel
theorem dX6_findDuties_51 : decode cX6_findDuties 51 = .ok (.istore 6, 2) := by decide +kernel
theorem dX6_findDuties_53 : decode cX6_findDuties 53 = .ok (.aload_n 0, 1) := by decide +kernel
theorem dX6_findDuties_54 : decode cX6_findDuties 54 = .ok (.aload_n 0, 1) := by decide +kernel
theorem dX6_findDuties_55 : decode cX6_findDuties 55 = .ok (.getfield 128, 3) := by decide +kernel
theorem dX6_findDuties_58 : decode cX6_findDuties 58 = .ok (.iload 6, 2) := by decide +kernel
theorem dX6_findDuties_60 : decode cX6_findDuties 60 = .ok (.invokevirtual 125, 3) := by decide +kernel
theorem dX6_findDuties_63 : decode cX6_findDuties 63 = .ok (.iconst (-1), 1) := by decide +kernel
theorem dX6_findDuties_64 : decode cX6_findDuties 64 = .ok (.if_icmp .eq 6, 3) := by decide +kernel
theorem dX6_findDuties_67 : decode cX6_findDuties 67 = .ok (.goto 94, 3) := by decide +kernel
theorem dX6_findDuties_70 : decode cX6_findDuties 70 = .ok (.iconst (-1), 1) := by decide +kernel
theorem dX6_findDuties_71 : decode cX6_findDuties 71 = .ok (.istore 7, 2) := by decide +kernel
theorem dX6_findDuties_73 : decode cX6_findDuties 73 = .ok (.iconst 0, 1) := by decide +kernel
theorem dX6_findDuties_74 : decode cX6_findDuties 74 = .ok (.istore 8, 2) := by decide +kernel
theorem dX6_findDuties_76 : decode cX6_findDuties 76 = .ok (.iload 8, 2) := by decide +kernel
theorem dX6_findDuties_78 : decode cX6_findDuties 78 = .ok (.aload_n 0, 1) := by decide +kernel
theorem dX6_findDuties_79 : decode cX6_findDuties 79 = .ok (.getfield 57, 3) := by decide +kernel
theorem dX6_findDuties_82 : decode cX6_findDuties 82 = .ok (.if_icmp .ge 49, 3) := by decide +kernel
theorem dX6_findDuties_85 : decode cX6_findDuties 85 = .ok (.aload_n 0, 1) := by decide +kernel
theorem dX6_findDuties_86 : decode cX6_findDuties 86 = .ok (.aload_n 0, 1) := by decide +kernel
theorem dX6_findDuties_87 : decode cX6_findDuties 87 = .ok (.getfield 128, 3) := by decide +kernel
theorem dX6_findDuties_90 : decode cX6_findDuties 90 = .ok (.iload 6, 2) := by decide +kernel
theorem dX6_findDuties_92 : decode cX6_findDuties 92 = .ok (.iload 8, 2) := by decide +kernel
theorem dX6_findDuties_94 : decode cX6_findDuties 94 = .ok (.invokevirtual 131, 3) := by decide +kernel
theorem dX6_findDuties_97 : decode cX6_findDuties 97 = .ok (.ifCond .eq 28, 3) := by decide +kernel
theorem dX6_findDuties_100 : decode cX6_findDuties 100 = .ok (.iload 7, 2) := by decide +kernel
theorem dX6_findDuties_102 : decode cX6_findDuties 102 = .ok (.iconst (-1), 1) := by decide +kernel
theorem dX6_findDuties_103 : decode cX6_findDuties 103 = .ok (.if_icmp .eq 18, 3) := by decide +kernel
theorem dX6_findDuties_106 : decode cX6_findDuties 106 = .ok (.aload_n 0, 1) := by decide +kernel
theorem dX6_findDuties_107 : decode cX6_findDuties 107 = .ok (.iload 8, 2) := by decide +kernel
theorem dX6_findDuties_109 : decode cX6_findDuties 109 = .ok (.invokevirtual 134, 3) := by decide +kernel
theorem dX6_findDuties_112 : decode cX6_findDuties 112 = .ok (.aload_n 0, 1) := by decide +kernel
theorem dX6_findDuties_113 : decode cX6_findDuties 113 = .ok (.iload 7, 2) := by decide +kernel
theorem dX6_findDuties_115 : decode cX6_findDuties 115 = .ok (.invokevirtual 134, 3) := by decide +kernel
theorem dX6_findDuties_118 : decode cX6_findDuties 118 = .ok (.if_icmp .ge 7, 3) := by decide +kernel
theorem dX6_findDuties_121 : decode cX6_findDuties 121 = .ok (.iload 8, 2) := by decide +kernel
theorem dX6_findDuties_123 : decode cX6_findDuties 123 = .ok (.istore 7, 2) := by decide +kernel
theorem dX6_findDuties_125 : decode cX6_findDuties 125 = .ok (.iinc 8 1, 3) := by decide +kernel
theorem dX6_findDuties_128 : decode cX6_findDuties 128 = .ok (.goto (-52), 3) := by decide +kernel
theorem dX6_findDuties_131 : decode cX6_findDuties 131 = .ok (.aload_n 0, 1) := by decide +kernel
theorem dX6_findDuties_132 : decode cX6_findDuties 132 = .ok (.getfield 38, 3) := by decide +kernel
theorem dX6_findDuties_135 : decode cX6_findDuties 135 = .ok (.iconst 5, 1) := by decide +kernel
theorem dX6_findDuties_136 : decode cX6_findDuties 136 = .ok (.aload_n 0, 1) := by decide +kernel
theorem dX6_findDuties_137 : decode cX6_findDuties 137 = .ok (.getfield 128, 3) := by decide +kernel
theorem dX6_findDuties_140 : decode cX6_findDuties 140 = .ok (.imul, 1) := by decide +kernel
theorem dX6_findDuties_141 : decode cX6_findDuties 141 = .ok (.iload 6, 2) := by decide +kernel
theorem dX6_findDuties_143 : decode cX6_findDuties 143 = .ok (.iadd, 1) := by decide +kernel
theorem dX6_findDuties_144 : decode cX6_findDuties 144 = .ok (.iload 7, 2) := by decide +kernel
theorem dX6_findDuties_146 : decode cX6_findDuties 146 = .ok (.iastore, 1) := by decide +kernel
theorem dX6_findDuties_147 : decode cX6_findDuties 147 = .ok (.iload_n 2, 1) := by decide +kernel
theorem dX6_findDuties_148 : decode cX6_findDuties 148 = .ok (.iload 7, 2) := by decide +kernel
theorem dX6_findDuties_150 : decode cX6_findDuties 150 = .ok (.iconst (-1), 1) := by decide +kernel
theorem dX6_findDuties_151 : decode cX6_findDuties 151 = .ok (.if_icmp .ne 7, 3) := by decide +kernel
theorem dX6_findDuties_154 : decode cX6_findDuties 154 = .ok (.iconst 1, 1) := by decide +kernel
theorem dX6_findDuties_155 : decode cX6_findDuties 155 = .ok (.goto 4, 3) := by decide +kernel
theorem dX6_findDuties_158 : decode cX6_findDuties 158 = .ok (.iconst 0, 1) := by decide +kernel
theorem dX6_findDuties_159 : decode cX6_findDuties 159 = .ok (.iadd, 1) := by decide +kernel
theorem dX6_findDuties_160 : decode cX6_findDuties 160 = .ok (.istore_n 2, 1) := by decide +kernel
theorem dX6_findDuties_161 : decode cX6_findDuties 161 = .ok (.iinc 5 1, 3) := by decide +kernel
theorem dX6_findDuties_164 : decode cX6_findDuties 164 = .ok (.goto (-124), 3) := by decide +kernel
theorem dX6_findDuties_167 : decode cX6_findDuties 167 = .ok (.iload_n 2, 1) := by decide +kernel
theorem dX6_findDuties_168 : decode cX6_findDuties 168 = .ok (.ireturn, 1) := by decide +kernel
set_option maxRecDepth 20000 in
theorem ggX6_addFood_X6_isIn : GoodIn wsX6_addFood wsX6_isIn := goodIn_r _ [7] (by decide +kernel) (by decide +kernel)
set_option maxRecDepth 20000 in
theorem gX6_addFood_X6_isIn : GoodIn wsX6_addFood (va_wsS RX6 60 yX6_isIn wsX6_isIn) := goodIn_app (goodIn_of _ (by decide +kernel)) ggX6_addFood_X6_isIn
set_option maxRecDepth 20000 in
theorem ggX6_addFood_X6_no : GoodIn wsX6_addFood wsX6_no := goodIn_r _ [11, 1, 12, 13, 14, 15, 16, 17, 18, 19, 20, 21, 22, 23, 24, 25, 26, 27, 28, 29, 30, 31, 32, 33, 34] (by decide +kernel) (by decide +kernel)
set_option maxRecDepth 20000 in
theorem gX6_addFood_X6_no : GoodIn wsX6_addFood (wsV RX6 79 RX6 yX6_no wsX6_no) := goodIn_app (goodIn_of _ (by decide +kernel)) ggX6_addFood_X6_no
theorem dX6_addFood_0 : decode cX6_addFood 0 = .ok (.aload_n 0, 1) := by decide +kernel
theorem dX6_addFood_1 : decode cX6_addFood 1 = .ok (.iconst 0, 1) := by decide +kernel
theorem dX6_addFood_2 : decode cX6_addFood 2 = .ok (.putfield 53, 3) := by decide +kernel
theorem dX6_addFood_5 : decode cX6_addFood 5 = .ok (.iload_n 1, 1) := by decide +kernel
theorem dX6_addFood_6 : decode cX6_addFood 6 = .ok (.iconst 0, 1) := by decide +kernel
theorem dX6_addFood_7 : decode cX6_addFood 7 = .ok (.sipush 10000, 3) := by decide +kernel
theorem dX6_addFood_10 : decode cX6_addFood 10 = .ok (.invokestatic 60, 3) := by decide +kernel
theorem dX6_addFood_13 : decode cX6_addFood 13 = .ok (.ifCond .ne 9, 3) := by decide +kernel
theorem dX6_addFood_16 : decode cX6_addFood 16 = .ok (.aload_n 0, 1) := by decide +kernel
theorem dX6_addFood_17 : decode cX6_addFood 17 = .ok (.iconst 1, 1) := by decide +kernel
theorem dX6_addFood_18 : decode cX6_addFood 18 = .ok (.invokevirtual 79, 3) := by decide +kernel
theorem dX6_addFood_21 : decode cX6_addFood 21 = .ok (.ireturn, 1) := by decide +kernel
theorem dX6_addFood_22 : decode cX6_addFood 22 = .ok (.aload_n 0, 1) := by decide +kernel
theorem dX6_addFood_23 : decode cX6_addFood 23 = .ok (.getfield 70, 3) := by decide +kernel
theorem dX6_addFood_26 : decode cX6_addFood 26 = .ok (.bipush 12, 2) := by decide +kernel
theorem dX6_addFood_28 : decode cX6_addFood 28 = .ok (.if_icmp .ne 9, 3) := by decide +kernel
theorem dX6_addFood_31 : decode cX6_addFood 31 = .ok (.aload_n 0, 1) := by decide +kernel
theorem dX6_addFood_32 : decode cX6_addFood 32 = .ok (.iconst 2, 1) := by decide +kernel
theorem dX6_addFood_33 : decode cX6_addFood 33 = .ok (.invokevirtual 79, 3) := by decide +kernel
theorem dX6_addFood_36 : decode cX6_addFood 36 = .ok (.ireturn, 1) := by decide +kernel
theorem dX6_addFood_37 : decode cX6_addFood 37 = .ok (.aload_n 0, 1) := by decide +kernel
theorem dX6_addFood_38 : decode cX6_addFood 38 = .ok (.getfield 41, 3) := by decide +kernel
theorem dX6_addFood_41 : decode cX6_addFood 41 = .ok (.aload_n 0, 1) := by decide +kernel
theorem dX6_addFood_42 : decode cX6_addFood 42 = .ok (.getfield 70, 3) := by decide +kernel
theorem dX6_addFood_45 : decode cX6_addFood 45 = .ok (.iload_n 1, 1) := by decide +kernel
theorem dX6_addFood_46 : decode cX6_addFood 46 = .ok (.iastore, 1) := by decide +kernel
theorem dX6_addFood_47 : decode cX6_addFood 47 = .ok (.aload_n 0, 1) := by decide +kernel
theorem dX6_addFood_48 : decode cX6_addFood 48 = .ok (.dup, 1) := by decide +kernel
theorem dX6_addFood_49 : decode cX6_addFood 49 = .ok (.getfield 70, 3) := by decide +kernel
theorem dX6_addFood_52 : decode cX6_addFood 52 = .ok (.iconst 1, 1) := by decide +kernel
theorem dX6_addFood_53 : decode cX6_addFood 53 = .ok (.iadd, 1) := by decide +kernel
theorem dX6_addFood_54 : decode cX6_addFood 54 = .ok (.putfield 70, 3) := by decide +kernel
theorem dX6_addFood_57 : decode cX6_addFood 57 = .ok (.aload_n 0, 1) := by decide +kernel
theorem dX6_addFood_58 : decode cX6_addFood 58 = .ok (.getfield 70, 3) := by decide +kernel
theorem dX6_addFood_61 : decode cX6_addFood 61 = .ok (.iconst 1, 1) := by decide +kernel
theorem dX6_addFood_62 : decode cX6_addFood 62 = .ok (.isub, 1) := by decide +kernel
theorem dX6_addFood_63 : decode cX6_addFood 63 = .ok (.ireturn, 1) := by decide +kernel
set_option maxRecDepth 20000 in
theorem ggX6_buy_X6_isFood : GoodIn wsX6_buy wsX6_isFood := goodIn_r _ [7, 8, 9, 10, 6, 11, 16, 17, 18, 19, 20, 21, 22, 23, 24, 25, 26, 27, 28, 29, 30, 31, 32, 33, 34, 35, 36, 37, 38] (by decide +kernel) (by decide +kernel)
set_option maxRecDepth 20000 in
theorem gX6_buy_X6_isFood : GoodIn wsX6_buy (wsV RX6 137 RX6 yX6_isFood wsX6_isFood) := goodIn_app (goodIn_of _ (by decide +kernel)) ggX6_buy_X6_isFood
set_option maxRecDepth 20000 in
theorem ggX6_buy_X6_no : GoodIn wsX6_buy wsX6_no := goodIn_r _ [15, 1, 16, 17, 18, 19, 20, 21, 22, 23, 24, 25, 26, 27, 28, 29, 30, 31, 32, 33, 34, 35, 36, 37, 38] (by decide +kernel) (by decide +kernel)
set_option maxRecDepth 20000 in
theorem gX6_buy_X6_no : GoodIn wsX6_buy (wsV RX6 79 RX6 yX6_no wsX6_no) := goodIn_app (goodIn_of _ (by decide +kernel)) ggX6_buy_X6_no
set_option maxRecDepth 20000 in
theorem ggX6_buy_X6_isIn : GoodIn wsX6_buy wsX6_isIn := goodIn_r _ [11] (by decide +kernel) (by decide +kernel)
set_option maxRecDepth 20000 in
theorem gX6_buy_X6_isIn : GoodIn wsX6_buy (va_wsS RX6 60 yX6_isIn wsX6_isIn) := goodIn_app (goodIn_of _ (by decide +kernel)) ggX6_buy_X6_isIn
theorem dX6_buy_0 : decode cX6_buy 0 = .ok (.aload_n 0, 1) := by decide +kernel
theorem dX6_buy_1 : decode cX6_buy 1 = .ok (.iconst 0, 1) := by decide +kernel
theorem dX6_buy_2 : decode cX6_buy 2 = .ok (.putfield 53, 3) := by decide +kernel
theorem dX6_buy_5 : decode cX6_buy 5 = .ok (.aload_n 0, 1) := by decide +kernel
theorem dX6_buy_6 : decode cX6_buy 6 = .ok (.iload_n 1, 1) := by decide +kernel
theorem dX6_buy_7 : decode cX6_buy 7 = .ok (.invokevirtual 137, 3) := by decide +kernel
theorem dX6_buy_10 : decode cX6_buy 10 = .ok (.ifCond .ne 9, 3) := by decide +kernel
theorem dX6_buy_13 : decode cX6_buy 13 = .ok (.aload_n 0, 1) := by decide +kernel
theorem dX6_buy_14 : decode cX6_buy 14 = .ok (.iconst 1, 1) := by decide +kernel
theorem dX6_buy_15 : decode cX6_buy 15 = .ok (.invokevirtual 79, 3) := by decide +kernel
theorem dX6_buy_18 : decode cX6_buy 18 = .ok (.ireturn, 1) := by decide +kernel
theorem dX6_buy_19 : decode cX6_buy 19 = .ok (.iload_n 2, 1) := by decide +kernel
theorem dX6_buy_20 : decode cX6_buy 20 = .ok (.iconst 1, 1) := by decide +kernel
theorem dX6_buy_21 : decode cX6_buy 21 = .ok (.sipush 10000, 3) := by decide +kernel
theorem dX6_buy_24 : decode cX6_buy 24 = .ok (.invokestatic 60, 3) := by decide +kernel
theorem dX6_buy_27 : decode cX6_buy 27 = .ok (.ifCond .ne 9, 3) := by decide +kernel
theorem dX6_buy_30 : decode cX6_buy 30 = .ok (.aload_n 0, 1) := by decide +kernel
theorem dX6_buy_31 : decode cX6_buy 31 = .ok (.iconst 2, 1) := by decide +kernel
theorem dX6_buy_32 : decode cX6_buy 32 = .ok (.invokevirtual 79, 3) := by decide +kernel
theorem dX6_buy_35 : decode cX6_buy 35 = .ok (.ireturn, 1) := by decide +kernel
theorem dX6_buy_36 : decode cX6_buy 36 = .ok (.aload_n 0, 1) := by decide +kernel
theorem dX6_buy_37 : decode cX6_buy 37 = .ok (.getfield 41, 3) := by decide +kernel
theorem dX6_buy_40 : decode cX6_buy 40 = .ok (.iload_n 1, 1) := by decide +kernel
theorem dX6_buy_41 : decode cX6_buy 41 = .ok (.iaload, 1) := by decide +kernel
theorem dX6_buy_42 : decode cX6_buy 42 = .ok (.iload_n 2, 1) := by decide +kernel
theorem dX6_buy_43 : decode cX6_buy 43 = .ok (.iadd, 1) := by decide +kernel
theorem dX6_buy_44 : decode cX6_buy 44 = .ok (.sipush 10000, 3) := by decide +kernel
theorem dX6_buy_47 : decode cX6_buy 47 = .ok (.if_icmp .le 9, 3) := by decide +kernel
theorem dX6_buy_50 : decode cX6_buy 50 = .ok (.aload_n 0, 1) := by decide +kernel
theorem dX6_buy_51 : decode cX6_buy 51 = .ok (.iconst 3, 1) := by decide +kernel
theorem dX6_buy_52 : decode cX6_buy 52 = .ok (.invokevirtual 79, 3) := by decide +kernel
theorem dX6_buy_55 : decode cX6_buy 55 = .ok (.ireturn, 1) := by decide +kernel
theorem dX6_buy_56 : decode cX6_buy 56 = .ok (.aload_n 0, 1) := by decide +kernel
theorem dX6_buy_57 : decode cX6_buy 57 = .ok (.getfield 41, 3) := by decide +kernel
theorem dX6_buy_60 : decode cX6_buy 60 = .ok (.iload_n 1, 1) := by decide +kernel
theorem dX6_buy_61 : decode cX6_buy 61 = .ok (.dup2, 1) := by decide +kernel
theorem dX6_buy_62 : decode cX6_buy 62 = .ok (.iaload, 1) := by decide +kernel
theorem dX6_buy_63 : decode cX6_buy 63 = .ok (.iload_n 2, 1) := by decide +kernel
theorem dX6_buy_64 : decode cX6_buy 64 = .ok (.iadd, 1) := by decide +kernel
theorem dX6_buy_65 : decode cX6_buy 65 = .ok (.iastore, 1) := by decide +kernel
theorem dX6_buy_66 : decode cX6_buy 66 = .ok (.aload_n 0, 1) := by decide +kernel
theorem dX6_buy_67 : decode cX6_buy 67 = .ok (.getfield 41, 3) := by decide +kernel
theorem dX6_buy_70 : decode cX6_buy 70 = .ok (.iload_n 1, 1) := by decide +kernel
theorem dX6_buy_71 : decode cX6_buy 71 = .ok (.iaload, 1) := by decide +kernel
theorem dX6_buy_72 : decode cX6_buy 72 = .ok (.ireturn, 1) := by decide +kernel
set_option maxRecDepth 20000 in
theorem ggX6_store_X6_isFood : GoodIn wsX6_store wsX6_isFood := goodIn_r _ [7, 8, 9, 10, 6, 11, 16, 17, 18, 19, 20, 21, 22, 23, 24, 25, 26, 27, 28, 29, 30, 31, 32, 33, 34, 35, 36, 37, 38] (by decide +kernel) (by decide +kernel)
set_option maxRecDepth 20000 in
theorem gX6_store_X6_isFood : GoodIn wsX6_store (wsV RX6 137 RX6 yX6_isFood wsX6_isFood) := goodIn_app (goodIn_of _ (by decide +kernel)) ggX6_store_X6_isFood
set_option maxRecDepth 20000 in
theorem ggX6_store_X6_no : GoodIn wsX6_store wsX6_no := goodIn_r _ [15, 1, 16, 17, 18, 19, 20, 21, 22, 23, 24, 25, 26, 27, 28, 29, 30, 31, 32, 33, 34, 35, 36, 37, 38] (by decide +kernel) (by decide +kernel)
set_option maxRecDepth 20000 in
theorem gX6_store_X6_no : GoodIn wsX6_store (wsV RX6 79 RX6 yX6_no wsX6_no) := goodIn_app (goodIn_of _ (by decide +kernel)) ggX6_store_X6_no
theorem dX6_store_0 : decode cX6_store 0 = .ok (.aload_n 0, 1) := by decide +kernel
theorem dX6_store_1 : decode cX6_store 1 = .ok (.iconst 0, 1) := by decide +kernel
theorem dX6_store_2 : decode cX6_store 2 = .ok (.putfield 53, 3) := by decide +kernel
theorem dX6_store_5 : decode cX6_store 5 = .ok (.aload_n 0, 1) := by decide +kernel
theorem dX6_store_6 : decode cX6_store 6 = .ok (.iload_n 1, 1) := by decide +kernel
theorem dX6_store_7 : decode cX6_store 7 = .ok (.invokevirtual 137, 3) := by decide +kernel
theorem dX6_store_10 : decode cX6_store 10 = .ok (.ifCond .eq 12, 3) := by decide +kernel
theorem dX6_store_13 : decode cX6_store 13 = .ok (.aload_n 0, 1) := by decide +kernel
theorem dX6_store_14 : decode cX6_store 14 = .ok (.getfield 41, 3) := by decide +kernel
theorem dX6_store_17 : decode cX6_store 17 = .ok (.iload_n 1, 1) := by decide +kernel
theorem dX6_store_18 : decode cX6_store 18 = .ok (.iaload, 1) := by decide +kernel
theorem dX6_store_19 : decode cX6_store 19 = .ok (.goto 8, 3) := by decide +kernel
theorem dX6_store_22 : decode cX6_store 22 = .ok (.aload_n 0, 1) := by decide +kernel
theorem dX6_store_23 : decode cX6_store 23 = .ok (.iconst 1, 1) := by decide +kernel
theorem dX6_store_24 : decode cX6_store 24 = .ok (.invokevirtual 79, 3) := by decide +kernel
theorem dX6_store_27 : decode cX6_store 27 = .ok (.ireturn, 1) := by decide +kernel
set_option maxRecDepth 20000 in
theorem ggX6_diet_X6_isScout : GoodIn wsX6_diet wsX6_isScout := goodIn_r _ [7, 8, 9, 10, 6, 11, 17, 18, 19, 20, 21, 22, 23, 24, 25, 26, 27, 28, 29, 30, 31, 32, 33, 34, 35, 36, 37, 38, 39] (by decide +kernel) (by decide +kernel)
set_option maxRecDepth 20000 in
theorem gX6_diet_X6_isScout : GoodIn wsX6_diet (wsV RX6 90 RX6 yX6_isScout wsX6_isScout) := goodIn_app (goodIn_of _ (by decide +kernel)) ggX6_diet_X6_isScout
set_option maxRecDepth 20000 in
theorem ggX6_diet_X6_isFood : GoodIn wsX6_diet wsX6_isFood := goodIn_r _ [15, 16, 9, 10, 6, 11, 17, 18, 19, 20, 21, 22, 23, 24, 25, 26, 27, 28, 29, 30, 31, 32, 33, 34, 35, 36, 37, 38, 39] (by decide +kernel) (by decide +kernel)
set_option maxRecDepth 20000 in
theorem gX6_diet_X6_isFood : GoodIn wsX6_diet (wsV RX6 137 RX6 yX6_isFood wsX6_isFood) := goodIn_app (goodIn_of _ (by decide +kernel)) ggX6_diet_X6_isFood
theorem dX6_diet_0 : decode cX6_diet 0 = .ok (.aload_n 0, 1) := by decide +kernel
theorem dX6_diet_1 : decode cX6_diet 1 = .ok (.aload_n 0, 1) := by decide +kernel
theorem dX6_diet_2 : decode cX6_diet 2 = .ok (.iload_n 1, 1) := by decide +kernel
