theorem dX6_diet_3 : decode cX6_diet 3 = .ok (.invokevirtual 90, 3) := by decide +kernel
theorem dX6_diet_6 : decode cX6_diet 6 = .ok (.ifCond .eq 15, 3) := by decide +kernel
theorem dX6_diet_9 : decode cX6_diet 9 = .ok (.aload_n 0, 1) := by decide +kernel
theorem dX6_diet_10 : decode cX6_diet 10 = .ok (.iload_n 2, 1) := by decide +kernel
theorem dX6_diet_11 : decode cX6_diet 11 = .ok (.invokevirtual 137, 3) := by decide +kernel
theorem dX6_diet_14 : decode cX6_diet 14 = .ok (.ifCond .eq 7, 3) := by decide +kernel
theorem dX6_diet_17 : decode cX6_diet 17 = .ok (.iconst 0, 1) := by decide +kernel
theorem dX6_diet_18 : decode cX6_diet 18 = .ok (.goto 4, 3) := by decide +kernel
theorem dX6_diet_21 : decode cX6_diet 21 = .ok (.iconst 1, 1) := by decide +kernel
theorem dX6_diet_22 : decode cX6_diet 22 = .ok (.putfield 53, 3) := by decide +kernel
theorem dX6_diet_25 : decode cX6_diet 25 = .ok (.aload_n 0, 1) := by decide +kernel
theorem dX6_diet_26 : decode cX6_diet 26 = .ok (.getfield 53, 3) := by decide +kernel
theorem dX6_diet_29 : decode cX6_diet 29 = .ok (.ifCond .eq 5, 3) := by decide +kernel
theorem dX6_diet_32 : decode cX6_diet 32 = .ok (.iconst 0, 1) := by decide +kernel
theorem dX6_diet_33 : decode cX6_diet 33 = .ok (.ireturn, 1) := by decide +kernel
theorem dX6_diet_34 : decode cX6_diet 34 = .ok (.aload_n 0, 1) := by decide +kernel
theorem dX6_diet_35 : decode cX6_diet 35 = .ok (.getfield 19, 3) := by decide +kernel
theorem dX6_diet_38 : decode cX6_diet 38 = .ok (.iload_n 1, 1) := by decide +kernel
theorem dX6_diet_39 : decode cX6_diet 39 = .ok (.iaload, 1) := by decide +kernel
theorem dX6_diet_40 : decode cX6_diet 40 = .ok (.iload_n 2, 1) := by decide +kernel
theorem dX6_diet_41 : decode cX6_diet 41 = .ok (.ishr, 1) := by decide +kernel
theorem dX6_diet_42 : decode cX6_diet 42 = .ok (.iconst 1, 1) := by decide +kernel
theorem dX6_diet_43 : decode cX6_diet 43 = .ok (.iand, 1) := by decide +kernel
theorem dX6_diet_44 : decode cX6_diet 44 = .ok (.ifCond .ne 7, 3) := by decide +kernel
theorem dX6_diet_47 : decode cX6_diet 47 = .ok (.iconst 1, 1) := by decide +kernel
theorem dX6_diet_48 : decode cX6_diet 48 = .ok (.goto 4, 3) := by decide +kernel
theorem dX6_diet_51 : decode cX6_diet 51 = .ok (.iconst 0, 1) := by decide +kernel
theorem dX6_diet_52 : decode cX6_diet 52 = .ok (.istore 4, 2) := by decide +kernel
theorem dX6_diet_54 : decode cX6_diet 54 = .ok (.aload_n 0, 1) := by decide +kernel
theorem dX6_diet_55 : decode cX6_diet 55 = .ok (.getfield 19, 3) := by decide +kernel
theorem dX6_diet_58 : decode cX6_diet 58 = .ok (.iload_n 1, 1) := by decide +kernel
theorem dX6_diet_59 : decode cX6_diet 59 = .ok (.iload_n 3, 1) := by decide +kernel
theorem dX6_diet_60 : decode cX6_diet 60 = .ok (.ifCond .eq 18, 3) := by decide +kernel
theorem dX6_diet_63 : decode cX6_diet 63 = .ok (.aload_n 0, 1) := by decide +kernel
theorem dX6_diet_64 : decode cX6_diet 64 = .ok (.getfield 19, 3) := by decide +kernel
theorem dX6_diet_67 : decode cX6_diet 67 = .ok (.iload_n 1, 1) := by decide +kernel
theorem dX6_diet_68 : decode cX6_diet 68 = .ok (.iaload, 1) := by decide +kernel
theorem dX6_diet_69 : decode cX6_diet 69 = .ok (.iconst 1, 1) := by decide +kernel
theorem dX6_diet_70 : decode cX6_diet 70 = .ok (.iload_n 2, 1) := by decide +kernel
theorem dX6_diet_71 : decode cX6_diet 71 = .ok (.ishl, 1) := by decide +kernel
theorem dX6_diet_72 : decode cX6_diet 72 = .ok (.iconst (-1), 1) := by decide +kernel
theorem dX6_diet_73 : decode cX6_diet 73 = .ok (.ixor, 1) := by decide +kernel
theorem dX6_diet_74 : decode cX6_diet 74 = .ok (.iand, 1) := by decide +kernel
theorem dX6_diet_75 : decode cX6_diet 75 = .ok (.goto 13, 3) := by decide +kernel
theorem dX6_diet_78 : decode cX6_diet 78 = .ok (.aload_n 0, 1) := by decide +kernel
theorem dX6_diet_79 : decode cX6_diet 79 = .ok (.getfield 19, 3) := by decide +kernel
theorem dX6_diet_82 : decode cX6_diet 82 = .ok (.iload_n 1, 1) := by decide +kernel
theorem dX6_diet_83 : decode cX6_diet 83 = .ok (.iaload, 1) := by decide +kernel
theorem dX6_diet_84 : decode cX6_diet 84 = .ok (.iconst 1, 1) := by decide +kernel
theorem dX6_diet_85 : decode cX6_diet 85 = .ok (.iload_n 2, 1) := by decide +kernel
theorem dX6_diet_86 : decode cX6_diet 86 = .ok (.ishl, 1) := by decide +kernel
theorem dX6_diet_87 : decode cX6_diet 87 = .ok (.ior, 1) := by decide +kernel
theorem dX6_diet_88 : decode cX6_diet 88 = .ok (.iastore, 1) := by decide +kernel
theorem dX6_diet_89 : decode cX6_diet 89 = .ok (.iload 4, 2) := by decide +kernel
theorem dX6_diet_91 : decode cX6_diet 91 = .ok (.ireturn, 1) := by decide +kernel
set_option maxRecDepth 20000 in
theorem ggX6_addMeal_X6_no : GoodIn wsX6_addMeal wsX6_no := goodIn_r _ [7, 1, 8, 9, 10, 11, 12, 13, 14, 15, 16, 17, 18, 19, 20, 21, 22, 23, 24, 25, 26, 27, 28, 29, 30] (by decide +kernel) (by decide +kernel)
set_option maxRecDepth 20000 in
theorem gX6_addMeal_X6_no : GoodIn wsX6_addMeal (wsV RX6 79 RX6 yX6_no wsX6_no) := goodIn_app (goodIn_of _ (by decide +kernel)) ggX6_addMeal_X6_no
theorem dX6_addMeal_0 : decode cX6_addMeal 0 = .ok (.aload_n 0, 1) := by decide +kernel
theorem dX6_addMeal_1 : decode cX6_addMeal 1 = .ok (.iconst 0, 1) := by decide +kernel
theorem dX6_addMeal_2 : decode cX6_addMeal 2 = .ok (.putfield 53, 3) := by decide +kernel
theorem dX6_addMeal_5 : decode cX6_addMeal 5 = .ok (.aload_n 0, 1) := by decide +kernel
theorem dX6_addMeal_6 : decode cX6_addMeal 6 = .ok (.getfield 73, 3) := by decide +kernel
theorem dX6_addMeal_9 : decode cX6_addMeal 9 = .ok (.bipush 10, 2) := by decide +kernel
theorem dX6_addMeal_11 : decode cX6_addMeal 11 = .ok (.if_icmp .ne 9, 3) := by decide +kernel
theorem dX6_addMeal_14 : decode cX6_addMeal 14 = .ok (.aload_n 0, 1) := by decide +kernel
theorem dX6_addMeal_15 : decode cX6_addMeal 15 = .ok (.iconst 1, 1) := by decide +kernel
theorem dX6_addMeal_16 : decode cX6_addMeal 16 = .ok (.invokevirtual 79, 3) := by decide +kernel
theorem dX6_addMeal_19 : decode cX6_addMeal 19 = .ok (.ireturn, 1) := by decide +kernel
theorem dX6_addMeal_20 : decode cX6_addMeal 20 = .ok (.aload_n 0, 1) := by decide +kernel
theorem dX6_addMeal_21 : decode cX6_addMeal 21 = .ok (.dup, 1) := by decide +kernel
theorem dX6_addMeal_22 : decode cX6_addMeal 22 = .ok (.getfield 73, 3) := by decide +kernel
theorem dX6_addMeal_25 : decode cX6_addMeal 25 = .ok (.iconst 1, 1) := by decide +kernel
theorem dX6_addMeal_26 : decode cX6_addMeal 26 = .ok (.iadd, 1) := by decide +kernel
theorem dX6_addMeal_27 : decode cX6_addMeal 27 = .ok (.putfield 73, 3) := by decide +kernel
theorem dX6_addMeal_30 : decode cX6_addMeal 30 = .ok (.aload_n 0, 1) := by decide +kernel
theorem dX6_addMeal_31 : decode cX6_addMeal 31 = .ok (.getfield 73, 3) := by decide +kernel
theorem dX6_addMeal_34 : decode cX6_addMeal 34 = .ok (.iconst 1, 1) := by decide +kernel
theorem dX6_addMeal_35 : decode cX6_addMeal 35 = .ok (.isub, 1) := by decide +kernel
theorem dX6_addMeal_36 : decode cX6_addMeal 36 = .ok (.ireturn, 1) := by decide +kernel
set_option maxRecDepth 20000 in
theorem ggX6_need_X6_isMeal : GoodIn wsX6_need wsX6_isMeal := goodIn_r _ [7, 8, 9, 10, 6, 11, 21, 22, 23, 24, 25, 26, 27, 28, 29, 30, 31, 32, 33, 34, 35, 36, 37, 38, 39, 40, 41, 42, 43] (by decide +kernel) (by decide +kernel)
set_option maxRecDepth 20000 in
theorem gX6_need_X6_isMeal : GoodIn wsX6_need (wsV RX6 140 RX6 yX6_isMeal wsX6_isMeal) := goodIn_app (goodIn_of _ (by decide +kernel)) ggX6_need_X6_isMeal
set_option maxRecDepth 20000 in
theorem ggX6_need_X6_isFood : GoodIn wsX6_need wsX6_isFood := goodIn_r _ [15, 16, 9, 10, 6, 11, 21, 22, 23, 24, 25, 26, 27, 28, 29, 30, 31, 32, 33, 34, 35, 36, 37, 38, 39, 40, 41, 42, 43] (by decide +kernel) (by decide +kernel)
set_option maxRecDepth 20000 in
theorem gX6_need_X6_isFood : GoodIn wsX6_need (wsV RX6 137 RX6 yX6_isFood wsX6_isFood) := goodIn_app (goodIn_of _ (by decide +kernel)) ggX6_need_X6_isFood
set_option maxRecDepth 20000 in
theorem ggX6_need_X6_no : GoodIn wsX6_need wsX6_no := goodIn_r _ [20, 1, 21, 22, 23, 24, 25, 26, 27, 28, 29, 30, 31, 32, 33, 34, 35, 36, 37, 38, 39, 40, 41, 42, 43] (by decide +kernel) (by decide +kernel)
set_option maxRecDepth 20000 in
theorem gX6_need_X6_no : GoodIn wsX6_need (wsV RX6 79 RX6 yX6_no wsX6_no) := goodIn_app (goodIn_of _ (by decide +kernel)) ggX6_need_X6_no
set_option maxRecDepth 20000 in
theorem ggX6_need_X6_isIn : GoodIn wsX6_need wsX6_isIn := goodIn_r _ [11] (by decide +kernel) (by decide +kernel)
set_option maxRecDepth 20000 in
theorem gX6_need_X6_isIn : GoodIn wsX6_need (va_wsS RX6 60 yX6_isIn wsX6_isIn) := goodIn_app (goodIn_of _ (by decide +kernel)) ggX6_need_X6_isIn
theorem dX6_need_0 : decode cX6_need 0 = .ok (.aload_n 0, 1) := by decide +kernel
theorem dX6_need_1 : decode cX6_need 1 = .ok (.iconst 0, 1) := by decide +kernel
theorem dX6_need_2 : decode cX6_need 2 = .ok (.putfield 53, 3) := by decide +kernel
theorem dX6_need_5 : decode cX6_need 5 = .ok (.aload_n 0, 1) := by decide +kernel
theorem dX6_need_6 : decode cX6_need 6 = .ok (.iload_n 1, 1) := by decide +kernel
theorem dX6_need_7 : decode cX6_need 7 = .ok (.invokevirtual 140, 3) := by decide +kernel
theorem dX6_need_10 : decode cX6_need 10 = .ok (.ifCond .eq 11, 3) := by decide +kernel
theorem dX6_need_13 : decode cX6_need 13 = .ok (.aload_n 0, 1) := by decide +kernel
theorem dX6_need_14 : decode cX6_need 14 = .ok (.iload_n 2, 1) := by decide +kernel
theorem dX6_need_15 : decode cX6_need 15 = .ok (.invokevirtual 137, 3) := by decide +kernel
theorem dX6_need_18 : decode cX6_need 18 = .ok (.ifCond .ne 9, 3) := by decide +kernel
theorem dX6_need_21 : decode cX6_need 21 = .ok (.aload_n 0, 1) := by decide +kernel
theorem dX6_need_22 : decode cX6_need 22 = .ok (.iconst 1, 1) := by decide +kernel
theorem dX6_need_23 : decode cX6_need 23 = .ok (.invokevirtual 79, 3) := by decide +kernel
theorem dX6_need_26 : decode cX6_need 26 = .ok (.ireturn, 1) := by decide +kernel
theorem dX6_need_27 : decode cX6_need 27 = .ok (.iload_n 3, 1) := by decide +kernel
theorem dX6_need_28 : decode cX6_need 28 = .ok (.iconst 0, 1) := by decide +kernel
theorem dX6_need_29 : decode cX6_need 29 = .ok (.bipush 50, 2) := by decide +kernel
theorem dX6_need_31 : decode cX6_need 31 = .ok (.invokestatic 60, 3) := by decide +kernel
theorem dX6_need_34 : decode cX6_need 34 = .ok (.ifCond .ne 9, 3) := by decide +kernel
theorem dX6_need_37 : decode cX6_need 37 = .ok (.aload_n 0, 1) := by decide +kernel
theorem dX6_need_38 : decode cX6_need 38 = .ok (.iconst 2, 1) := by decide +kernel
theorem dX6_need_39 : decode cX6_need 39 = .ok (.invokevirtual 79, 3) := by decide +kernel
theorem dX6_need_42 : decode cX6_need 42 = .ok (.ireturn, 1) := by decide +kernel
theorem dX6_need_43 : decode cX6_need 43 = .ok (.aload_n 0, 1) := by decide +kernel
theorem dX6_need_44 : decode cX6_need 44 = .ok (.getfield 44, 3) := by decide +kernel
theorem dX6_need_47 : decode cX6_need 47 = .ok (.bipush 12, 2) := by decide +kernel
theorem dX6_need_49 : decode cX6_need 49 = .ok (.iload_n 1, 1) := by decide +kernel
theorem dX6_need_50 : decode cX6_need 50 = .ok (.imul, 1) := by decide +kernel
theorem dX6_need_51 : decode cX6_need 51 = .ok (.iload_n 2, 1) := by decide +kernel
theorem dX6_need_52 : decode cX6_need 52 = .ok (.iadd, 1) := by decide +kernel
theorem dX6_need_53 : decode cX6_need 53 = .ok (.iaload, 1) := by decide +kernel
theorem dX6_need_54 : decode cX6_need 54 = .ok (.istore 4, 2) := by decide +kernel
theorem dX6_need_56 : decode cX6_need 56 = .ok (.aload_n 0, 1) := by decide +kernel
theorem dX6_need_57 : decode cX6_need 57 = .ok (.getfield 44, 3) := by decide +kernel
theorem dX6_need_60 : decode cX6_need 60 = .ok (.bipush 12, 2) := by decide +kernel
theorem dX6_need_62 : decode cX6_need 62 = .ok (.iload_n 1, 1) := by decide +kernel
theorem dX6_need_63 : decode cX6_need 63 = .ok (.imul, 1) := by decide +kernel
theorem dX6_need_64 : decode cX6_need 64 = .ok (.iload_n 2, 1) := by decide +kernel
theorem dX6_need_65 : decode cX6_need 65 = .ok (.iadd, 1) := by decide +kernel
theorem dX6_need_66 : decode cX6_need 66 = .ok (.iload_n 3, 1) := by decide +kernel
theorem dX6_need_67 : decode cX6_need 67 = .ok (.iastore, 1) := by decide +kernel
theorem dX6_need_68 : decode cX6_need 68 = .ok (.iload 4, 2) := by decide +kernel
theorem dX6_need_70 : decode cX6_need 70 = .ok (.ireturn, 1) := by decide +kernel
theorem dX6_canEat_0 : decode cX6_canEat 0 = .ok (.iconst 1, 1) := by decide +kernel
theorem dX6_canEat_1 : decode cX6_canEat 1 = .ok (.istore_n 3, 1) := by decide +kernel
theorem dX6_canEat_2 : decode cX6_canEat 2 = .ok (.iconst 0, 1) := by decide +kernel
theorem dX6_canEat_3 : decode cX6_canEat 3 = .ok (.istore 4, 2) := by decide +kernel
theorem dX6_canEat_5 : decode cX6_canEat 5 = .ok (.iload 4, 2) := by decide +kernel
theorem dX6_canEat_7 : decode cX6_canEat 7 = .ok (.aload_n 0, 1) := by decide +kernel
theorem dX6_canEat_8 : decode cX6_canEat 8 = .ok (.getfield 70, 3) := by decide +kernel
theorem dX6_canEat_11 : decode cX6_canEat 11 = .ok (.if_icmp .ge 48, 3) := by decide +kernel
theorem dX6_canEat_14 : decode cX6_canEat 14 = .ok (.iload_n 3, 1) := by decide +kernel
theorem dX6_canEat_15 : decode cX6_canEat 15 = .ok (.ifCond .eq 36, 3) := by decide +kernel
theorem dX6_canEat_18 : decode cX6_canEat 18 = .ok (.aload_n 0, 1) := by decide +kernel
theorem dX6_canEat_19 : decode cX6_canEat 19 = .ok (.getfield 44, 3) := by decide +kernel
theorem dX6_canEat_22 : decode cX6_canEat 22 = .ok (.bipush 12, 2) := by decide +kernel
theorem dX6_canEat_24 : decode cX6_canEat 24 = .ok (.iload_n 2, 1) := by decide +kernel
theorem dX6_canEat_25 : decode cX6_canEat 25 = .ok (.imul, 1) := by decide +kernel
theorem dX6_canEat_26 : decode cX6_canEat 26 = .ok (.iload 4, 2) := by decide +kernel
theorem dX6_canEat_28 : decode cX6_canEat 28 = .ok (.iadd, 1) := by decide +kernel
theorem dX6_canEat_29 : decode cX6_canEat 29 = .ok (.iaload, 1) := by decide +kernel
theorem dX6_canEat_30 : decode cX6_canEat 30 = .ok (.ifCond .eq 17, 3) := by decide +kernel
theorem dX6_canEat_33 : decode cX6_canEat 33 = .ok (.aload_n 0, 1) := by decide +kernel
theorem dX6_canEat_34 : decode cX6_canEat 34 = .ok (.getfield 19, 3) := by decide +kernel
theorem dX6_canEat_37 : decode cX6_canEat 37 = .ok (.iload_n 1, 1) := by decide +kernel
theorem dX6_canEat_38 : decode cX6_canEat 38 = .ok (.iaload, 1) := by decide +kernel
theorem dX6_canEat_39 : decode cX6_canEat 39 = .ok (.iload 4, 2) := by decide +kernel
theorem dX6_canEat_41 : decode cX6_canEat 41 = .ok (.ishr, 1) := by decide +kernel
theorem dX6_canEat_42 : decode cX6_canEat 42 = .ok (.iconst 1, 1) := by decide +kernel
theorem dX6_canEat_43 : decode cX6_canEat 43 = .ok (.iand, 1) := by decide +kernel
theorem dX6_canEat_44 : decode cX6_canEat 44 = .ok (.ifCond .ne 7, 3) := by decide +kernel
theorem dX6_canEat_47 : decode cX6_canEat 47 = .ok (.iconst 1, 1) := by decide +kernel
theorem dX6_canEat_48 : decode cX6_canEat 48 = .ok (.goto 4, 3) := by decide +kernel
theorem dX6_canEat_51 : decode cX6_canEat 51 = .ok (.iconst 0, 1) := by decide +kernel
theorem dX6_canEat_52 : decode cX6_canEat 52 = .ok (.istore_n 3, 1) := by decide +kernel
theorem dX6_canEat_53 : decode cX6_canEat 53 = .ok (.iinc 4 1, 3) := by decide +kernel
theorem dX6_canEat_56 : decode cX6_canEat 56 = .ok (.goto (-51), 3) := by decide +kernel
theorem dX6_canEat_59 : decode cX6_canEat 59 = .ok (.iload_n 3, 1) := by decide +kernel
theorem dX6_canEat_60 : decode cX6_canEat 60 = .ok (.ireturn, 1) := by decide +kernel
set_option maxRecDepth 20000 in
theorem ggX6_eatersOf_X6_canEat : GoodIn wsX6_eatersOf wsX6_canEat := goodIn_r _ [7, 8, 9, 10, 11, 12, 13, 14, 15, 16, 17, 18, 19, 20, 21, 22, 23, 24, 25, 26, 27, 28, 29, 30, 31, 32, 33] (by decide +kernel) (by decide +kernel)
set_option maxRecDepth 20000 in
theorem gX6_eatersOf_X6_canEat : GoodIn wsX6_eatersOf (wsV RX6 143 RX6 yX6_canEat wsX6_canEat) := goodIn_app (goodIn_of _ (by decide +kernel)) ggX6_eatersOf_X6_canEat
theorem dX6_eatersOf_0 : decode cX6_eatersOf 0 = .ok (.iconst 0, 1) := by decide +kernel
theorem dX6_eatersOf_1 : decode cX6_eatersOf 1 = .ok (.istore_n 3, 1) := by decide +kernel
theorem dX6_eatersOf_2 : decode cX6_eatersOf 2 = .ok (.iconst 0, 1) := by decide +kernel
theorem dX6_eatersOf_3 : decode cX6_eatersOf 3 = .ok (.istore 4, 2) := by decide +kernel
theorem dX6_eatersOf_5 : decode cX6_eatersOf 5 = .ok (.iload 4, 2) := by decide +kernel
theorem dX6_eatersOf_7 : decode cX6_eatersOf 7 = .ok (.aload_n 0, 1) := by decide +kernel
theorem dX6_eatersOf_8 : decode cX6_eatersOf 8 = .ok (.getfield 64, 3) := by decide +kernel
theorem dX6_eatersOf_11 : decode cX6_eatersOf 11 = .ok (.if_icmp .ge 41, 3) := by decide +kernel
theorem dX6_eatersOf_14 : decode cX6_eatersOf 14 = .ok (.iload_n 3, 1) := by decide +kernel
theorem dX6_eatersOf_15 : decode cX6_eatersOf 15 = .ok (.aload_n 0, 1) := by decide +kernel
theorem dX6_eatersOf_16 : decode cX6_eatersOf 16 = .ok (.iload 4, 2) := by decide +kernel
theorem dX6_eatersOf_18 : decode cX6_eatersOf 18 = .ok (.iload_n 1, 1) := by decide +kernel
theorem dX6_eatersOf_19 : decode cX6_eatersOf 19 = .ok (.invokevirtual 143, 3) := by decide +kernel
theorem dX6_eatersOf_22 : decode cX6_eatersOf 22 = .ok (.ifCond .eq 21, 3) := by decide +kernel
theorem dX6_eatersOf_25 : decode cX6_eatersOf 25 = .ok (.iload_n 2, 1) := by decide +kernel
theorem dX6_eatersOf_26 : decode cX6_eatersOf 26 = .ok (.ifCond .eq 13, 3) := by decide +kernel
theorem dX6_eatersOf_29 : decode cX6_eatersOf 29 = .ok (.aload_n 0, 1) := by decide +kernel
theorem dX6_eatersOf_30 : decode cX6_eatersOf 30 = .ok (.getfield 31, 3) := by decide +kernel
theorem dX6_eatersOf_33 : decode cX6_eatersOf 33 = .ok (.iload 4, 2) := by decide +kernel
theorem dX6_eatersOf_35 : decode cX6_eatersOf 35 = .ok (.baload, 1) := by decide +kernel
theorem dX6_eatersOf_36 : decode cX6_eatersOf 36 = .ok (.ifCond .ne 7, 3) := by decide +kernel
theorem dX6_eatersOf_39 : decode cX6_eatersOf 39 = .ok (.iconst 1, 1) := by decide +kernel
theorem dX6_eatersOf_40 : decode cX6_eatersOf 40 = .ok (.goto 4, 3) := by decide +kernel
theorem dX6_eatersOf_43 : decode cX6_eatersOf 43 = .ok (.iconst 0, 1) := by decide +kernel
theorem dX6_eatersOf_44 : decode cX6_eatersOf 44 = .ok (.iadd, 1) := by decide +kernel
theorem dX6_eatersOf_45 : decode cX6_eatersOf 45 = .ok (.istore_n 3, 1) := by decide +kernel
theorem dX6_eatersOf_46 : decode cX6_eatersOf 46 = .ok (.iinc 4 1, 3) := by decide +kernel
theorem dX6_eatersOf_49 : decode cX6_eatersOf 49 = .ok (.goto (-44), 3) := by decide +kernel
theorem dX6_eatersOf_52 : decode cX6_eatersOf 52 = .ok (.iload_n 3, 1) := by decide +kernel
theorem dX6_eatersOf_53 : decode cX6_eatersOf 53 = .ok (.ireturn, 1) := by decide +kernel
set_option maxRecDepth 20000 in
theorem ggX6_setOf_X6_canEat : GoodIn wsX6_setOf wsX6_canEat := goodIn_r _ [6, 7, 8, 9, 10, 11, 12, 13, 14, 15, 16, 17, 18, 19, 20, 21, 22, 23, 24, 25, 26, 27, 28, 29, 30, 31, 32] (by decide +kernel) (by decide +kernel)
set_option maxRecDepth 20000 in
theorem gX6_setOf_X6_canEat : GoodIn wsX6_setOf (wsV RX6 143 RX6 yX6_canEat wsX6_canEat) := goodIn_app (goodIn_of _ (by decide +kernel)) ggX6_setOf_X6_canEat
theorem dX6_setOf_0 : decode cX6_setOf 0 = .ok (.lconst 0, 1) := by decide +kernel
theorem dX6_setOf_1 : decode cX6_setOf 1 = .ok (.lstore_n 2, 1) := by decide +kernel
theorem dX6_setOf_2 : decode cX6_setOf 2 = .ok (.iconst 0, 1) := by decide +kernel
theorem dX6_setOf_3 : decode cX6_setOf 3 = .ok (.istore 4, 2) := by decide +kernel
theorem dX6_setOf_5 : decode cX6_setOf 5 = .ok (.iload 4, 2) := by decide +kernel
theorem dX6_setOf_7 : decode cX6_setOf 7 = .ok (.aload_n 0, 1) := by decide +kernel
theorem dX6_setOf_8 : decode cX6_setOf 8 = .ok (.getfield 64, 3) := by decide +kernel
theorem dX6_setOf_11 : decode cX6_setOf 11 = .ok (.if_icmp .ge 30, 3) := by decide +kernel
theorem dX6_setOf_14 : decode cX6_setOf 14 = .ok (.lload_n 2, 1) := by decide +kernel
theorem dX6_setOf_15 : decode cX6_setOf 15 = .ok (.aload_n 0, 1) := by decide +kernel
theorem dX6_setOf_16 : decode cX6_setOf 16 = .ok (.iload 4, 2) := by decide +kernel
theorem dX6_setOf_18 : decode cX6_setOf 18 = .ok (.iload_n 1, 1) := by decide +kernel
theorem dX6_setOf_19 : decode cX6_setOf 19 = .ok (.invokevirtual 143, 3) := by decide +kernel
theorem dX6_setOf_22 : decode cX6_setOf 22 = .ok (.ifCond .eq 10, 3) := by decide +kernel
theorem dX6_setOf_25 : decode cX6_setOf 25 = .ok (.lconst 1, 1) := by decide +kernel
theorem dX6_setOf_26 : decode cX6_setOf 26 = .ok (.iload 4, 2) := by decide +kernel
theorem dX6_setOf_28 : decode cX6_setOf 28 = .ok (.lshl, 1) := by decide +kernel
theorem dX6_setOf_29 : decode cX6_setOf 29 = .ok (.goto 4, 3) := by decide +kernel
theorem dX6_setOf_32 : decode cX6_setOf 32 = .ok (.lconst 0, 1) := by decide +kernel
theorem dX6_setOf_33 : decode cX6_setOf 33 = .ok (.ladd, 1) := by decide +kernel
theorem dX6_setOf_34 : decode cX6_setOf 34 = .ok (.lstore_n 2, 1) := by decide +kernel
theorem dX6_setOf_35 : decode cX6_setOf 35 = .ok (.iinc 4 1, 3) := by decide +kernel
theorem dX6_setOf_38 : decode cX6_setOf 38 = .ok (.goto (-33), 3) := by decide +kernel
theorem dX6_setOf_41 : decode cX6_setOf 41 = .ok (.lload_n 2, 1) := by decide +kernel
theorem dX6_setOf_42 : decode cX6_setOf 42 = .ok (.lreturn, 1) := by decide +kernel
set_option maxRecDepth 20000 in
theorem ggX6_eaters_X6_isMeal : GoodIn wsX6_eaters wsX6_isMeal := goodIn_r _ [6, 7, 8, 9, 5, 10, 23, 24, 25, 26, 27, 28, 29, 30, 31, 32, 33, 34, 35, 36, 37, 38, 39, 40, 41, 42, 43, 44, 45] (by decide +kernel) (by decide +kernel)
set_option maxRecDepth 20000 in
theorem gX6_eaters_X6_isMeal : GoodIn wsX6_eaters (wsV RX6 140 RX6 yX6_isMeal wsX6_isMeal) := goodIn_app (goodIn_of _ (by decide +kernel)) ggX6_eaters_X6_isMeal
set_option maxRecDepth 20000 in
theorem ggX6_eaters_X6_setOf : GoodIn wsX6_eaters wsX6_setOf := goodIn_r _ [14, 15, 16, 17, 18, 5, 19, 20, 21, 22, 23, 24, 25, 26, 27, 28, 29, 30, 31, 32, 33, 34, 35, 36, 37, 38, 39, 40, 41, 42, 43, 44, 45] (by decide +kernel) (by decide +kernel)
set_option maxRecDepth 20000 in
theorem gX6_eaters_X6_setOf : GoodIn wsX6_eaters (wsV RX6 146 RX6 yX6_setOf wsX6_setOf) := goodIn_app (goodIn_of _ (by decide +kernel)) ggX6_eaters_X6_setOf
theorem dX6_eaters_0 : decode cX6_eaters 0 = .ok (.aload_n 0, 1) := by decide +kernel
theorem dX6_eaters_1 : decode cX6_eaters 1 = .ok (.aload_n 0, 1) := by decide +kernel
theorem dX6_eaters_2 : decode cX6_eaters 2 = .ok (.iload_n 1, 1) := by decide +kernel
theorem dX6_eaters_3 : decode cX6_eaters 3 = .ok (.invokevirtual 140, 3) := by decide +kernel
theorem dX6_eaters_6 : decode cX6_eaters 6 = .ok (.ifCond .eq 7, 3) := by decide +kernel
theorem dX6_eaters_9 : decode cX6_eaters 9 = .ok (.iconst 0, 1) := by decide +kernel
theorem dX6_eaters_10 : decode cX6_eaters 10 = .ok (.goto 4, 3) := by decide +kernel
theorem dX6_eaters_13 : decode cX6_eaters 13 = .ok (.iconst 1, 1) := by decide +kernel
theorem dX6_eaters_14 : decode cX6_eaters 14 = .ok (.putfield 53, 3) := by decide +kernel
theorem dX6_eaters_17 : decode cX6_eaters 17 = .ok (.aload_n 0, 1) := by decide +kernel
theorem dX6_eaters_18 : decode cX6_eaters 18 = .ok (.getfield 53, 3) := by decide +kernel
theorem dX6_eaters_21 : decode cX6_eaters 21 = .ok (.ifCond .ne 11, 3) := by decide +kernel
theorem dX6_eaters_24 : decode cX6_eaters 24 = .ok (.aload_n 0, 1) := by decide +kernel
theorem dX6_eaters_25 : decode cX6_eaters 25 = .ok (.iload_n 1, 1) := by decide +kernel
theorem dX6_eaters_26 : decode cX6_eaters 26 = .ok (.invokevirtual 146, 3) := by decide +kernel
theorem dX6_eaters_29 : decode cX6_eaters 29 = .ok (.goto 4, 3) := by decide +kernel
theorem dX6_eaters_32 : decode cX6_eaters 32 = .ok (.lconst 0, 1) := by decide +kernel
theorem dX6_eaters_33 : decode cX6_eaters 33 = .ok (.lreturn, 1) := by decide +kernel
set_option maxRecDepth 20000 in
theorem ggX6_lacks_X6_isMeal : GoodIn wsX6_lacks wsX6_isMeal := goodIn_r _ [12, 13, 14, 15, 11, 16, 37, 38, 39, 40, 41, 42, 43, 44, 45, 46, 47, 48, 49, 50, 51, 52, 53, 54, 55, 56, 57, 58, 59] (by decide +kernel) (by decide +kernel)
set_option maxRecDepth 20000 in
theorem gX6_lacks_X6_isMeal : GoodIn wsX6_lacks (wsV RX6 140 RX6 yX6_isMeal wsX6_isMeal) := goodIn_app (goodIn_of _ (by decide +kernel)) ggX6_lacks_X6_isMeal
set_option maxRecDepth 20000 in
theorem ggX6_lacks_X6_isFood : GoodIn wsX6_lacks wsX6_isFood := goodIn_r _ [20, 21, 14, 15, 11, 16, 37, 38, 39, 40, 41, 42, 43, 44, 45, 46, 47, 48, 49, 50, 51, 52, 53, 54, 55, 56, 57, 58, 59] (by decide +kernel) (by decide +kernel)
set_option maxRecDepth 20000 in
theorem gX6_lacks_X6_isFood : GoodIn wsX6_lacks (wsV RX6 137 RX6 yX6_isFood wsX6_isFood) := goodIn_app (goodIn_of _ (by decide +kernel)) ggX6_lacks_X6_isFood
set_option maxRecDepth 20000 in
theorem ggX6_lacks_X6_no : GoodIn wsX6_lacks wsX6_no := goodIn_r _ [25, 1, 37, 38, 39, 40, 41, 42, 43, 44, 45, 46, 47, 48, 49, 50, 51, 52, 53, 54, 55, 56, 57, 58, 59] (by decide +kernel) (by decide +kernel)
set_option maxRecDepth 20000 in
theorem gX6_lacks_X6_no : GoodIn wsX6_lacks (wsV RX6 79 RX6 yX6_no wsX6_no) := goodIn_app (goodIn_of _ (by decide +kernel)) ggX6_lacks_X6_no
set_option maxRecDepth 20000 in
theorem ggX6_lacks_X6_isIn : GoodIn wsX6_lacks wsX6_isIn := goodIn_r _ [16] (by decide +kernel) (by decide +kernel)
set_option maxRecDepth 20000 in
theorem gX6_lacks_X6_isIn : GoodIn wsX6_lacks (va_wsS RX6 60 yX6_isIn wsX6_isIn) := goodIn_app (goodIn_of _ (by decide +kernel)) ggX6_lacks_X6_isIn
set_option maxRecDepth 20000 in
theorem ggX6_lacks_X6_eatersOf : GoodIn wsX6_lacks wsX6_eatersOf := goodIn_r _ [29, 30, 31, 32, 33, 34, 11, 35, 21, 2, 36, 37, 38, 39, 40, 41, 42, 43, 44, 45, 46, 47, 48, 49, 50, 51, 52, 53, 54, 55, 56, 57, 58, 59] (by decide +kernel) (by decide +kernel)
set_option maxRecDepth 20000 in
theorem gX6_lacks_X6_eatersOf : GoodIn wsX6_lacks (wsV RX6 149 RX6 yX6_eatersOf wsX6_eatersOf) := goodIn_app (goodIn_of _ (by decide +kernel)) ggX6_lacks_X6_eatersOf
theorem dX6_lacks_0 : decode cX6_lacks 0 = .ok (.aload_n 0, 1) := by decide +kernel
theorem dX6_lacks_1 : decode cX6_lacks 1 = .ok (.iconst 0, 1) := by decide +kernel
theorem dX6_lacks_2 : decode cX6_lacks 2 = .ok (.putfield 53, 3) := by decide +kernel
theorem dX6_lacks_5 : decode cX6_lacks 5 = .ok (.aload_n 0, 1) := by decide +kernel
theorem dX6_lacks_6 : decode cX6_lacks 6 = .ok (.iload_n 1, 1) := by decide +kernel
theorem dX6_lacks_7 : decode cX6_lacks 7 = .ok (.invokevirtual 140, 3) := by decide +kernel
theorem dX6_lacks_10 : decode cX6_lacks 10 = .ok (.ifCond .eq 11, 3) := by decide +kernel
theorem dX6_lacks_13 : decode cX6_lacks 13 = .ok (.aload_n 0, 1) := by decide +kernel
theorem dX6_lacks_14 : decode cX6_lacks 14 = .ok (.iload_n 2, 1) := by decide +kernel
theorem dX6_lacks_15 : decode cX6_lacks 15 = .ok (.invokevirtual 137, 3) := by decide +kernel
theorem dX6_lacks_18 : decode cX6_lacks 18 = .ok (.ifCond .ne 9, 3) := by decide +kernel
theorem dX6_lacks_21 : decode cX6_lacks 21 = .ok (.aload_n 0, 1) := by decide +kernel
theorem dX6_lacks_22 : decode cX6_lacks 22 = .ok (.iconst 1, 1) := by decide +kernel
theorem dX6_lacks_23 : decode cX6_lacks 23 = .ok (.invokevirtual 79, 3) := by decide +kernel
theorem dX6_lacks_26 : decode cX6_lacks 26 = .ok (.ireturn, 1) := by decide +kernel
theorem dX6_lacks_27 : decode cX6_lacks 27 = .ok (.iload_n 3, 1) := by decide +kernel
theorem dX6_lacks_28 : decode cX6_lacks 28 = .ok (.iconst 1, 1) := by decide +kernel
theorem dX6_lacks_29 : decode cX6_lacks 29 = .ok (.bipush 100, 2) := by decide +kernel
theorem dX6_lacks_31 : decode cX6_lacks 31 = .ok (.invokestatic 60, 3) := by decide +kernel
theorem dX6_lacks_34 : decode cX6_lacks 34 = .ok (.ifCond .ne 9, 3) := by decide +kernel
theorem dX6_lacks_37 : decode cX6_lacks 37 = .ok (.aload_n 0, 1) := by decide +kernel
theorem dX6_lacks_38 : decode cX6_lacks 38 = .ok (.iconst 2, 1) := by decide +kernel
theorem dX6_lacks_39 : decode cX6_lacks 39 = .ok (.invokevirtual 79, 3) := by decide +kernel
theorem dX6_lacks_42 : decode cX6_lacks 42 = .ok (.ireturn, 1) := by decide +kernel
theorem dX6_lacks_43 : decode cX6_lacks 43 = .ok (.iconst 0, 1) := by decide +kernel
theorem dX6_lacks_44 : decode cX6_lacks 44 = .ok (.aload_n 0, 1) := by decide +kernel
theorem dX6_lacks_45 : decode cX6_lacks 45 = .ok (.getfield 44, 3) := by decide +kernel
theorem dX6_lacks_48 : decode cX6_lacks 48 = .ok (.bipush 12, 2) := by decide +kernel
theorem dX6_lacks_50 : decode cX6_lacks 50 = .ok (.iload_n 1, 1) := by decide +kernel
theorem dX6_lacks_51 : decode cX6_lacks 51 = .ok (.imul, 1) := by decide +kernel
theorem dX6_lacks_52 : decode cX6_lacks 52 = .ok (.iload_n 2, 1) := by decide +kernel
theorem dX6_lacks_53 : decode cX6_lacks 53 = .ok (.iadd, 1) := by decide +kernel
theorem dX6_lacks_54 : decode cX6_lacks 54 = .ok (.iaload, 1) := by decide +kernel
theorem dX6_lacks_55 : decode cX6_lacks 55 = .ok (.aload_n 0, 1) := by decide +kernel
theorem dX6_lacks_56 : decode cX6_lacks 56 = .ok (.iload_n 1, 1) := by decide +kernel
theorem dX6_lacks_57 : decode cX6_lacks 57 = .ok (.iconst 0, 1) := by decide +kernel
theorem dX6_lacks_58 : decode cX6_lacks 58 = .ok (.invokevirtual 149, 3) := by decide +kernel
theorem dX6_lacks_61 : decode cX6_lacks 61 = .ok (.imul, 1) := by decide +kernel
theorem dX6_lacks_62 : decode cX6_lacks 62 = .ok (.iload_n 3, 1) := by decide +kernel
theorem dX6_lacks_63 : decode cX6_lacks 63 = .ok (.imul, 1) := by decide +kernel
theorem dX6_lacks_64 : decode cX6_lacks 64 = .ok (.aload_n 0, 1) := by decide +kernel
theorem dX6_lacks_65 : decode cX6_lacks 65 = .ok (.getfield 41, 3) := by decide +kernel
theorem dX6_lacks_68 : decode cX6_lacks 68 = .ok (.iload_n 2, 1) := by decide +kernel
theorem dX6_lacks_69 : decode cX6_lacks 69 = .ok (.iaload, 1) := by decide +kernel
theorem dX6_lacks_70 : decode cX6_lacks 70 = .ok (.isub, 1) := by decide +kernel
theorem dX6_lacks_71 : decode cX6_lacks 71 = .ok (.invokestatic 153, 3) := by decide +kernel
theorem dX6_lacks_74 : decode cX6_lacks 74 = .ok (.ireturn, 1) := by decide +kernel
set_option maxRecDepth 20000 in
theorem ggX6_canBeEaten_X6_eatersOf : GoodIn wsX6_canBeEaten wsX6_eatersOf := goodIn_r _ [9, 10, 11, 12, 13, 14, 8, 15, 2, 3, 16, 17, 18, 19, 20, 21, 22, 23, 24, 25, 26, 27, 28, 29, 30, 31, 32, 33, 34, 35, 36, 37, 38, 39] (by decide +kernel) (by decide +kernel)
set_option maxRecDepth 20000 in
theorem gX6_canBeEaten_X6_eatersOf : GoodIn wsX6_canBeEaten (wsV RX6 149 RX6 yX6_eatersOf wsX6_eatersOf) := goodIn_app (goodIn_of _ (by decide +kernel)) ggX6_canBeEaten_X6_eatersOf
theorem dX6_canBeEaten_0 : decode cX6_canBeEaten 0 = .ok (.aload_n 0, 1) := by decide +kernel
theorem dX6_canBeEaten_1 : decode cX6_canBeEaten 1 = .ok (.iload_n 1, 1) := by decide +kernel
theorem dX6_canBeEaten_2 : decode cX6_canBeEaten 2 = .ok (.iconst 0, 1) := by decide +kernel
theorem dX6_canBeEaten_3 : decode cX6_canBeEaten 3 = .ok (.invokevirtual 149, 3) := by decide +kernel
theorem dX6_canBeEaten_6 : decode cX6_canBeEaten 6 = .ok (.istore_n 2, 1) := by decide +kernel
theorem dX6_canBeEaten_7 : decode cX6_canBeEaten 7 = .ok (.iconst 0, 1) := by decide +kernel
theorem dX6_canBeEaten_8 : decode cX6_canBeEaten 8 = .ok (.istore_n 3, 1) := by decide +kernel
theorem dX6_canBeEaten_9 : decode cX6_canBeEaten 9 = .ok (.aload_n 0, 1) := by decide +kernel
theorem dX6_canBeEaten_10 : decode cX6_canBeEaten 10 = .ok (.getfield 156, 3) := by decide +kernel
theorem dX6_canBeEaten_13 : decode cX6_canBeEaten 13 = .ok (.iconst 3, 1) := by decide +kernel
theorem dX6_canBeEaten_14 : decode cX6_canBeEaten 14 = .ok (.if_icmp .ge 11, 3) := by decide +kernel
theorem dX6_canBeEaten_17 : decode cX6_canBeEaten 17 = .ok (.iload_n 2, 1) := by decide +kernel
theorem dX6_canBeEaten_18 : decode cX6_canBeEaten 18 = .ok (.ifCond .le 7, 3) := by decide +kernel
theorem dX6_canBeEaten_21 : decode cX6_canBeEaten 21 = .ok (.iconst 1, 1) := by decide +kernel
theorem dX6_canBeEaten_22 : decode cX6_canBeEaten 22 = .ok (.goto 4, 3) := by decide +kernel
theorem dX6_canBeEaten_25 : decode cX6_canBeEaten 25 = .ok (.iconst 0, 1) := by decide +kernel
theorem dX6_canBeEaten_26 : decode cX6_canBeEaten 26 = .ok (.istore 4, 2) := by decide +kernel
theorem dX6_canBeEaten_28 : decode cX6_canBeEaten 28 = .ok (.iconst 0, 1) := by decide +kernel
theorem dX6_canBeEaten_29 : decode cX6_canBeEaten 29 = .ok (.istore 5, 2) := by decide +kernel
theorem dX6_canBeEaten_31 : decode cX6_canBeEaten 31 = .ok (.iload 5, 2) := by decide +kernel
theorem dX6_canBeEaten_33 : decode cX6_canBeEaten 33 = .ok (.aload_n 0, 1) := by decide +kernel
theorem dX6_canBeEaten_34 : decode cX6_canBeEaten 34 = .ok (.getfield 70, 3) := by decide +kernel
theorem dX6_canBeEaten_37 : decode cX6_canBeEaten 37 = .ok (.if_icmp .ge 68, 3) := by decide +kernel
theorem dX6_canBeEaten_40 : decode cX6_canBeEaten 40 = .ok (.iload_n 3, 1) := by decide +kernel
theorem dX6_canBeEaten_41 : decode cX6_canBeEaten 41 = .ok (.aload_n 0, 1) := by decide +kernel
theorem dX6_canBeEaten_42 : decode cX6_canBeEaten 42 = .ok (.getfield 44, 3) := by decide +kernel
theorem dX6_canBeEaten_45 : decode cX6_canBeEaten 45 = .ok (.bipush 12, 2) := by decide +kernel
theorem dX6_canBeEaten_47 : decode cX6_canBeEaten 47 = .ok (.iload_n 1, 1) := by decide +kernel
theorem dX6_canBeEaten_48 : decode cX6_canBeEaten 48 = .ok (.imul, 1) := by decide +kernel
theorem dX6_canBeEaten_49 : decode cX6_canBeEaten 49 = .ok (.iload 5, 2) := by decide +kernel
theorem dX6_canBeEaten_51 : decode cX6_canBeEaten 51 = .ok (.iadd, 1) := by decide +kernel
theorem dX6_canBeEaten_52 : decode cX6_canBeEaten 52 = .ok (.iaload, 1) := by decide +kernel
theorem dX6_canBeEaten_53 : decode cX6_canBeEaten 53 = .ok (.ifCond .le 7, 3) := by decide +kernel
theorem dX6_canBeEaten_56 : decode cX6_canBeEaten 56 = .ok (.iconst 1, 1) := by decide +kernel
theorem dX6_canBeEaten_57 : decode cX6_canBeEaten 57 = .ok (.goto 4, 3) := by decide +kernel
theorem dX6_canBeEaten_60 : decode cX6_canBeEaten 60 = .ok (.iconst 0, 1) := by decide +kernel
theorem dX6_canBeEaten_61 : decode cX6_canBeEaten 61 = .ok (.iadd, 1) := by decide +kernel
theorem dX6_canBeEaten_62 : decode cX6_canBeEaten 62 = .ok (.istore_n 3, 1) := by decide +kernel
theorem dX6_canBeEaten_63 : decode cX6_canBeEaten 63 = .ok (.iload 4, 2) := by decide +kernel
theorem dX6_canBeEaten_65 : decode cX6_canBeEaten 65 = .ok (.ifCond .eq 31, 3) := by decide +kernel
theorem dX6_canBeEaten_68 : decode cX6_canBeEaten 68 = .ok (.aload_n 0, 1) := by decide +kernel
theorem dX6_canBeEaten_69 : decode cX6_canBeEaten 69 = .ok (.getfield 44, 3) := by decide +kernel
theorem dX6_canBeEaten_72 : decode cX6_canBeEaten 72 = .ok (.bipush 12, 2) := by decide +kernel
theorem dX6_canBeEaten_74 : decode cX6_canBeEaten 74 = .ok (.iload_n 1, 1) := by decide +kernel
theorem dX6_canBeEaten_75 : decode cX6_canBeEaten 75 = .ok (.imul, 1) := by decide +kernel
theorem dX6_canBeEaten_76 : decode cX6_canBeEaten 76 = .ok (.iload 5, 2) := by decide +kernel
theorem dX6_canBeEaten_78 : decode cX6_canBeEaten 78 = .ok (.iadd, 1) := by decide +kernel
theorem dX6_canBeEaten_79 : decode cX6_canBeEaten 79 = .ok (.iaload, 1) := by decide +kernel
theorem dX6_canBeEaten_80 : decode cX6_canBeEaten 80 = .ok (.iload_n 2, 1) := by decide +kernel
theorem dX6_canBeEaten_81 : decode cX6_canBeEaten 81 = .ok (.imul, 1) := by decide +kernel
theorem dX6_canBeEaten_82 : decode cX6_canBeEaten 82 = .ok (.aload_n 0, 1) := by decide +kernel
theorem dX6_canBeEaten_83 : decode cX6_canBeEaten 83 = .ok (.getfield 41, 3) := by decide +kernel
theorem dX6_canBeEaten_86 : decode cX6_canBeEaten 86 = .ok (.iload 5, 2) := by decide +kernel
theorem dX6_canBeEaten_88 : decode cX6_canBeEaten 88 = .ok (.iaload, 1) := by decide +kernel
theorem dX6_canBeEaten_89 : decode cX6_canBeEaten 89 = .ok (.if_icmp .gt 7, 3) := by decide +kernel
theorem dX6_canBeEaten_92 : decode cX6_canBeEaten 92 = .ok (.iconst 1, 1) := by decide +kernel
theorem dX6_canBeEaten_93 : decode cX6_canBeEaten 93 = .ok (.goto 4, 3) := by decide +kernel
theorem dX6_canBeEaten_96 : decode cX6_canBeEaten 96 = .ok (.iconst 0, 1) := by decide +kernel
theorem dX6_canBeEaten_97 : decode cX6_canBeEaten 97 = .ok (.istore 4, 2) := by decide +kernel
theorem dX6_canBeEaten_99 : decode cX6_canBeEaten 99 = .ok (.iinc 5 1, 3) := by decide +kernel
theorem dX6_canBeEaten_102 : decode cX6_canBeEaten 102 = .ok (.goto (-71), 3) := by decide +kernel
theorem dX6_canBeEaten_105 : decode cX6_canBeEaten 105 = .ok (.iload 4, 2) := by decide +kernel
theorem dX6_canBeEaten_107 : decode cX6_canBeEaten 107 = .ok (.ifCond .eq 11, 3) := by decide +kernel
theorem dX6_canBeEaten_110 : decode cX6_canBeEaten 110 = .ok (.iload_n 3, 1) := by decide +kernel
theorem dX6_canBeEaten_111 : decode cX6_canBeEaten 111 = .ok (.ifCond .le 7, 3) := by decide +kernel
theorem dX6_canBeEaten_114 : decode cX6_canBeEaten 114 = .ok (.iconst 1, 1) := by decide +kernel
theorem dX6_canBeEaten_115 : decode cX6_canBeEaten 115 = .ok (.goto 4, 3) := by decide +kernel
theorem dX6_canBeEaten_118 : decode cX6_canBeEaten 118 = .ok (.iconst 0, 1) := by decide +kernel
theorem dX6_canBeEaten_119 : decode cX6_canBeEaten 119 = .ok (.ireturn, 1) := by decide +kernel
set_option maxRecDepth 20000 in
theorem ggX6_eat_X6_isMeal : GoodIn wsX6_eat wsX6_isMeal := goodIn_r _ [12, 13, 14, 15, 11, 16, 34, 35, 36, 37, 38, 39, 40, 41, 42, 43, 44, 45, 46, 47, 48, 49, 50, 51, 52, 53, 54, 55, 56] (by decide +kernel) (by decide +kernel)
set_option maxRecDepth 20000 in
theorem gX6_eat_X6_isMeal : GoodIn wsX6_eat (wsV RX6 140 RX6 yX6_isMeal wsX6_isMeal) := goodIn_app (goodIn_of _ (by decide +kernel)) ggX6_eat_X6_isMeal
set_option maxRecDepth 20000 in
theorem ggX6_eat_X6_no : GoodIn wsX6_eat wsX6_no := goodIn_r _ [20, 1, 34, 35, 36, 37, 38, 39, 40, 41, 42, 43, 44, 45, 46, 47, 48, 49, 50, 51, 52, 53, 54, 55, 56] (by decide +kernel) (by decide +kernel)
set_option maxRecDepth 20000 in
theorem gX6_eat_X6_no : GoodIn wsX6_eat (wsV RX6 79 RX6 yX6_no wsX6_no) := goodIn_app (goodIn_of _ (by decide +kernel)) ggX6_eat_X6_no
set_option maxRecDepth 20000 in
theorem ggX6_eat_X6_canBeEaten : GoodIn wsX6_eat wsX6_canBeEaten := goodIn_r _ [24, 7, 2, 4, 3, 25, 26, 27, 11, 28, 5, 6, 29, 30, 31, 32, 33, 34, 35, 36, 37, 38, 39, 40, 41, 42, 43, 44, 45, 46, 47, 48, 49, 50, 51, 52, 53, 54, 55, 56] (by decide +kernel) (by decide +kernel)
set_option maxRecDepth 20000 in
theorem gX6_eat_X6_canBeEaten : GoodIn wsX6_eat (wsV RX6 159 RX6 yX6_canBeEaten wsX6_canBeEaten) := goodIn_app (goodIn_of _ (by decide +kernel)) ggX6_eat_X6_canBeEaten
set_option maxRecDepth 20000 in
theorem ggX6_eat_X6_eatersOf : GoodIn wsX6_eat wsX6_eatersOf := goodIn_r _ [28, 5, 6, 29, 30, 31, 11, 32, 2, 4, 33, 34, 35, 36, 37, 38, 39, 40, 41, 42, 43, 44, 45, 46, 47, 48, 49, 50, 51, 52, 53, 54, 55, 56] (by decide +kernel) (by decide +kernel)
set_option maxRecDepth 20000 in
theorem gX6_eat_X6_eatersOf : GoodIn wsX6_eat (wsV RX6 149 RX6 yX6_eatersOf wsX6_eatersOf) := goodIn_app (goodIn_of _ (by decide +kernel)) ggX6_eat_X6_eatersOf
set_option maxRecDepth 20000 in
theorem ggX6_eat_X6_canEat : GoodIn wsX6_eat wsX6_canEat := goodIn_r _ [32, 2, 4, 33, 34, 35, 36, 37, 38, 39, 40, 41, 42, 43, 44, 45, 46, 47, 48, 49, 50, 51, 52, 53, 54, 55, 56] (by decide +kernel) (by decide +kernel)
set_option maxRecDepth 20000 in
theorem gX6_eat_X6_canEat : GoodIn wsX6_eat (wsV RX6 143 RX6 yX6_canEat wsX6_canEat) := goodIn_app (goodIn_of _ (by decide +kernel)) ggX6_eat_X6_canEat
theorem dX6_eat_0 : decode cX6_eat 0 = .ok (.aload_n 0, 1) := by decide +kernel
theorem dX6_eat_1 : decode cX6_eat 1 = .ok (.iconst 0, 1) := by decide +kernel
theorem dX6_eat_2 : decode cX6_eat 2 = .ok (.putfield 53, 3) := by decide +kernel
theorem dX6_eat_5 : decode cX6_eat 5 = .ok (.aload_n 0, 1) := by decide +kernel
theorem dX6_eat_6 : decode cX6_eat 6 = .ok (.iload_n 1, 1) := by decide +kernel
theorem dX6_eat_7 : decode cX6_eat 7 = .ok (.invokevirtual 140, 3) := by decide +kernel
theorem dX6_eat_10 : decode cX6_eat 10 = .ok (.ifCond .ne 9, 3) := by decide +kernel
theorem dX6_eat_13 : decode cX6_eat 13 = .ok (.aload_n 0, 1) := by decide +kernel
theorem dX6_eat_14 : decode cX6_eat 14 = .ok (.iconst 1, 1) := by decide +kernel
theorem dX6_eat_15 : decode cX6_eat 15 = .ok (.invokevirtual 79, 3) := by decide +kernel
theorem dX6_eat_18 : decode cX6_eat 18 = .ok (.ireturn, 1) := by decide +kernel
theorem dX6_eat_19 : decode cX6_eat 19 = .ok (.aload_n 0, 1) := by decide +kernel
theorem dX6_eat_20 : decode cX6_eat 20 = .ok (.iload_n 1, 1) := by decide +kernel
theorem dX6_eat_21 : decode cX6_eat 21 = .ok (.invokevirtual 159, 3) := by decide +kernel
theorem dX6_eat_24 : decode cX6_eat 24 = .ok (.ifCond .ne 9, 3) := by decide +kernel
theorem dX6_eat_27 : decode cX6_eat 27 = .ok (.aload_n 0, 1) := by decide +kernel
theorem dX6_eat_28 : decode cX6_eat 28 = .ok (.iconst 2, 1) := by decide +kernel
theorem dX6_eat_29 : decode cX6_eat 29 = .ok (.invokevirtual 79, 3) := by decide +kernel
theorem dX6_eat_32 : decode cX6_eat 32 = .ok (.ireturn, 1) := by decide +kernel
theorem dX6_eat_33 : decode cX6_eat 33 = .ok (.aload_n 0, 1) := by decide +kernel
theorem dX6_eat_34 : decode cX6_eat 34 = .ok (.iload_n 1, 1) := by decide +kernel
theorem dX6_eat_35 : decode cX6_eat 35 = .ok (.iconst 0, 1) := by decide +kernel
theorem dX6_eat_36 : decode cX6_eat 36 = .ok (.invokevirtual 149, 3) := by decide +kernel
theorem dX6_eat_39 : decode cX6_eat 39 = .ok (.istore_n 2, 1) := by decide +kernel
theorem dX6_eat_40 : decode cX6_eat 40 = .ok (.iconst 0, 1) := by decide +kernel
theorem dX6_eat_41 : decode cX6_eat 41 = .ok (.istore_n 3, 1) := by decide +kernel
theorem dX6_eat_42 : decode cX6_eat 42 = .ok (.iload_n 3, 1) := by decide +kernel
theorem dX6_eat_43 : decode cX6_eat 43 = .ok (.aload_n 0, 1) := by decide +kernel
theorem dX6_eat_44 : decode cX6_eat 44 = .ok (.getfield 70, 3) := by decide +kernel
theorem dX6_eat_47 : decode cX6_eat 47 = .ok (.if_icmp .ge 31, 3) := by decide +kernel
theorem dX6_eat_50 : decode cX6_eat 50 = .ok (.aload_n 0, 1) := by decide +kernel
theorem dX6_eat_51 : decode cX6_eat 51 = .ok (.getfield 41, 3) := by decide +kernel
theorem dX6_eat_54 : decode cX6_eat 54 = .ok (.iload_n 3, 1) := by decide +kernel
theorem dX6_eat_55 : decode cX6_eat 55 = .ok (.dup2, 1) := by decide +kernel
theorem dX6_eat_56 : decode cX6_eat 56 = .ok (.iaload, 1) := by decide +kernel
theorem dX6_eat_57 : decode cX6_eat 57 = .ok (.aload_n 0, 1) := by decide +kernel
theorem dX6_eat_58 : decode cX6_eat 58 = .ok (.getfield 44, 3) := by decide +kernel
theorem dX6_eat_61 : decode cX6_eat 61 = .ok (.bipush 12, 2) := by decide +kernel
theorem dX6_eat_63 : decode cX6_eat 63 = .ok (.iload_n 1, 1) := by decide +kernel
theorem dX6_eat_64 : decode cX6_eat 64 = .ok (.imul, 1) := by decide +kernel
theorem dX6_eat_65 : decode cX6_eat 65 = .ok (.iload_n 3, 1) := by decide +kernel
theorem dX6_eat_66 : decode cX6_eat 66 = .ok (.iadd, 1) := by decide +kernel
theorem dX6_eat_67 : decode cX6_eat 67 = .ok (.iaload, 1) := by decide +kernel
theorem dX6_eat_68 : decode cX6_eat 68 = .ok (.iload_n 2, 1) := by decide +kernel
theorem dX6_eat_69 : decode cX6_eat 69 = .ok (.imul, 1) := by decide +kernel
theorem dX6_eat_70 : decode cX6_eat 70 = .ok (.isub, 1) := by decide +kernel
theorem dX6_eat_71 : decode cX6_eat 71 = .ok (.iastore, 1) := by decide +kernel
theorem dX6_eat_72 : decode cX6_eat 72 = .ok (.iinc 3 1, 3) := by decide +kernel
theorem dX6_eat_75 : decode cX6_eat 75 = .ok (.goto (-33), 3) := by decide +kernel
theorem dX6_eat_78 : decode cX6_eat 78 = .ok (.iconst 0, 1) := by decide +kernel
theorem dX6_eat_79 : decode cX6_eat 79 = .ok (.istore_n 3, 1) := by decide +kernel
theorem dX6_eat_80 : decode cX6_eat 80 = .ok (.iload_n 3, 1) := by decide +kernel
theorem dX6_eat_81 : decode cX6_eat 81 = .ok (.aload_n 0, 1) := by decide +kernel
theorem dX6_eat_82 : decode cX6_eat 82 = .ok (.getfield 64, 3) := by decide +kernel
theorem dX6_eat_85 : decode cX6_eat 85 = .ok (.if_icmp .ge 38, 3) := by decide +kernel
theorem dX6_eat_88 : decode cX6_eat 88 = .ok (.aload_n 0, 1) := by decide +kernel
theorem dX6_eat_89 : decode cX6_eat 89 = .ok (.getfield 31, 3) := by decide +kernel
theorem dX6_eat_92 : decode cX6_eat 92 = .ok (.iload_n 3, 1) := by decide +kernel
theorem dX6_eat_93 : decode cX6_eat 93 = .ok (.aload_n 0, 1) := by decide +kernel
theorem dX6_eat_94 : decode cX6_eat 94 = .ok (.getfield 31, 3) := by decide +kernel
theorem dX6_eat_97 : decode cX6_eat 97 = .ok (.iload_n 3, 1) := by decide +kernel
theorem dX6_eat_98 : decode cX6_eat 98 = .ok (.baload, 1) := by decide +kernel
theorem dX6_eat_99 : decode cX6_eat 99 = .ok (.ifCond .ne 12, 3) := by decide +kernel
theorem dX6_eat_102 : decode cX6_eat 102 = .ok (.aload_n 0, 1) := by decide +kernel
theorem dX6_eat_103 : decode cX6_eat 103 = .ok (.iload_n 3, 1) := by decide +kernel
theorem dX6_eat_104 : decode cX6_eat 104 = .ok (.iload_n 1, 1) := by decide +kernel
theorem dX6_eat_105 : decode cX6_eat 105 = .ok (.invokevirtual 143, 3) := by decide +kernel
theorem dX6_eat_108 : decode cX6_eat 108 = .ok (.ifCond .eq 7, 3) := by decide +kernel
theorem dX6_eat_111 : decode cX6_eat 111 = .ok (.iconst 1, 1) := by decide +kernel
theorem dX6_eat_112 : decode cX6_eat 112 = .ok (.goto 4, 3) := by decide +kernel
theorem dX6_eat_115 : decode cX6_eat 115 = .ok (.iconst 0, 1) := by decide +kernel
theorem dX6_eat_116 : decode cX6_eat 116 = .ok (.bastore, 1) := by decide +kernel
theorem dX6_eat_117 : decode cX6_eat 117 = .ok (.iinc 3 1, 3) := by decide +kernel
theorem dX6_eat_120 : decode cX6_eat 120 = .ok (.goto (-40), 3) := by decide +kernel
theorem dX6_eat_123 : decode cX6_eat 123 = .ok (.aload_n 0, 1) := by decide +kernel
theorem dX6_eat_124 : decode cX6_eat 124 = .ok (.dup, 1) := by decide +kernel
theorem dX6_eat_125 : decode cX6_eat 125 = .ok (.getfield 156, 3) := by decide +kernel
theorem dX6_eat_128 : decode cX6_eat 128 = .ok (.iconst 1, 1) := by decide +kernel
theorem dX6_eat_129 : decode cX6_eat 129 = .ok (.iadd, 1) := by decide +kernel
theorem dX6_eat_130 : decode cX6_eat 130 = .ok (.putfield 156, 3) := by decide +kernel
theorem dX6_eat_133 : decode cX6_eat 133 = .ok (.iload_n 2, 1) := by decide +kernel
theorem dX6_eat_134 : decode cX6_eat 134 = .ok (.ireturn, 1) := by decide +kernel
set_option maxRecDepth 20000 in
theorem ggX6_tableOf_X6_canBeEaten : GoodIn wsX6_tableOf wsX6_canBeEaten := goodIn_r _ [9, 1, 10, 11, 12, 13, 14, 15, 8, 16, 2, 3, 17, 18, 19, 20, 21, 22, 23, 24, 25, 26, 27, 28, 29, 30, 31, 32, 33, 34, 35, 36, 37, 38, 39, 40, 41, 42, 43, 44] (by decide +kernel) (by decide +kernel)
set_option maxRecDepth 20000 in
theorem gX6_tableOf_X6_canBeEaten : GoodIn wsX6_tableOf (wsV RX6 159 RX6 yX6_canBeEaten wsX6_canBeEaten) := goodIn_app (goodIn_of _ (by decide +kernel)) ggX6_tableOf_X6_canBeEaten
set_option maxRecDepth 20000 in
theorem ggX6_tableOf_X6_eatersOf : GoodIn wsX6_tableOf wsX6_eatersOf := goodIn_r _ [16, 2, 3, 17, 18, 19, 8, 20, 10, 11, 21, 22, 23, 24, 25, 26, 27, 28, 29, 30, 31, 32, 33, 34, 35, 36, 37, 38, 39, 40, 41, 42, 43, 44] (by decide +kernel) (by decide +kernel)
set_option maxRecDepth 20000 in
theorem gX6_tableOf_X6_eatersOf : GoodIn wsX6_tableOf (wsV RX6 149 RX6 yX6_eatersOf wsX6_eatersOf) := goodIn_app (goodIn_of _ (by decide +kernel)) ggX6_tableOf_X6_eatersOf
theorem dX6_tableOf_0 : decode cX6_tableOf 0 = .ok (.iload_n 1, 1) := by decide +kernel
theorem dX6_tableOf_1 : decode cX6_tableOf 1 = .ok (.iconst 1, 1) := by decide +kernel
theorem dX6_tableOf_2 : decode cX6_tableOf 2 = .ok (.if_icmp .ne 8, 3) := by decide +kernel
theorem dX6_tableOf_5 : decode cX6_tableOf 5 = .ok (.aload_n 0, 1) := by decide +kernel
theorem dX6_tableOf_6 : decode cX6_tableOf 6 = .ok (.getfield 156, 3) := by decide +kernel
theorem dX6_tableOf_9 : decode cX6_tableOf 9 = .ok (.ireturn, 1) := by decide +kernel
theorem dX6_tableOf_10 : decode cX6_tableOf 10 = .ok (.iload_n 1, 1) := by decide +kernel
theorem dX6_tableOf_11 : decode cX6_tableOf 11 = .ok (.ifCond .ne 40, 3) := by decide +kernel
theorem dX6_tableOf_14 : decode cX6_tableOf 14 = .ok (.iconst 0, 1) := by decide +kernel
theorem dX6_tableOf_15 : decode cX6_tableOf 15 = .ok (.istore_n 2, 1) := by decide +kernel
theorem dX6_tableOf_16 : decode cX6_tableOf 16 = .ok (.iconst 0, 1) := by decide +kernel
theorem dX6_tableOf_17 : decode cX6_tableOf 17 = .ok (.istore_n 3, 1) := by decide +kernel
theorem dX6_tableOf_18 : decode cX6_tableOf 18 = .ok (.iload_n 3, 1) := by decide +kernel
theorem dX6_tableOf_19 : decode cX6_tableOf 19 = .ok (.aload_n 0, 1) := by decide +kernel
theorem dX6_tableOf_20 : decode cX6_tableOf 20 = .ok (.getfield 64, 3) := by decide +kernel
theorem dX6_tableOf_23 : decode cX6_tableOf 23 = .ok (.if_icmp .ge 26, 3) := by decide +kernel
theorem dX6_tableOf_26 : decode cX6_tableOf 26 = .ok (.iload_n 2, 1) := by decide +kernel
theorem dX6_tableOf_27 : decode cX6_tableOf 27 = .ok (.aload_n 0, 1) := by decide +kernel
theorem dX6_tableOf_28 : decode cX6_tableOf 28 = .ok (.getfield 31, 3) := by decide +kernel
theorem dX6_tableOf_31 : decode cX6_tableOf 31 = .ok (.iload_n 3, 1) := by decide +kernel
theorem dX6_tableOf_32 : decode cX6_tableOf 32 = .ok (.baload, 1) := by decide +kernel
theorem dX6_tableOf_33 : decode cX6_tableOf 33 = .ok (.ifCond .eq 7, 3) := by decide +kernel
theorem dX6_tableOf_36 : decode cX6_tableOf 36 = .ok (.iconst 0, 1) := by decide +kernel
theorem dX6_tableOf_37 : decode cX6_tableOf 37 = .ok (.goto 4, 3) := by decide +kernel
theorem dX6_tableOf_40 : decode cX6_tableOf 40 = .ok (.iconst 1, 1) := by decide +kernel
theorem dX6_tableOf_41 : decode cX6_tableOf 41 = .ok (.iadd, 1) := by decide +kernel
theorem dX6_tableOf_42 : decode cX6_tableOf 42 = .ok (.istore_n 2, 1) := by decide +kernel
theorem dX6_tableOf_43 : decode cX6_tableOf 43 = .ok (.iinc 3 1, 3) := by decide +kernel
theorem dX6_tableOf_46 : decode cX6_tableOf 46 = .ok (.goto (-28), 3) := by decide +kernel
theorem dX6_tableOf_49 : decode cX6_tableOf 49 = .ok (.iload_n 2, 1) := by decide +kernel
theorem dX6_tableOf_50 : decode cX6_tableOf 50 = .ok (.ireturn, 1) := by decide +kernel
theorem dX6_tableOf_51 : decode cX6_tableOf 51 = .ok (.iconst (-1), 1) := by decide +kernel
theorem dX6_tableOf_52 : decode cX6_tableOf 52 = .ok (.istore_n 2, 1) := by decide +kernel
theorem dX6_tableOf_53 : decode cX6_tableOf 53 = .ok (.iconst 0, 1) := by decide +kernel
theorem dX6_tableOf_54 : decode cX6_tableOf 54 = .ok (.istore_n 3, 1) := by decide +kernel
theorem dX6_tableOf_55 : decode cX6_tableOf 55 = .ok (.iload_n 3, 1) := by decide +kernel
theorem dX6_tableOf_56 : decode cX6_tableOf 56 = .ok (.aload_n 0, 1) := by decide +kernel
theorem dX6_tableOf_57 : decode cX6_tableOf 57 = .ok (.getfield 73, 3) := by decide +kernel
theorem dX6_tableOf_60 : decode cX6_tableOf 60 = .ok (.if_icmp .ge 39, 3) := by decide +kernel
theorem dX6_tableOf_63 : decode cX6_tableOf 63 = .ok (.aload_n 0, 1) := by decide +kernel
theorem dX6_tableOf_64 : decode cX6_tableOf 64 = .ok (.iload_n 3, 1) := by decide +kernel
theorem dX6_tableOf_65 : decode cX6_tableOf 65 = .ok (.invokevirtual 159, 3) := by decide +kernel
theorem dX6_tableOf_68 : decode cX6_tableOf 68 = .ok (.ifCond .eq 25, 3) := by decide +kernel
theorem dX6_tableOf_71 : decode cX6_tableOf 71 = .ok (.iload_n 2, 1) := by decide +kernel
theorem dX6_tableOf_72 : decode cX6_tableOf 72 = .ok (.iconst (-1), 1) := by decide +kernel
theorem dX6_tableOf_73 : decode cX6_tableOf 73 = .ok (.if_icmp .eq 18, 3) := by decide +kernel
theorem dX6_tableOf_76 : decode cX6_tableOf 76 = .ok (.aload_n 0, 1) := by decide +kernel
theorem dX6_tableOf_77 : decode cX6_tableOf 77 = .ok (.iload_n 3, 1) := by decide +kernel
theorem dX6_tableOf_78 : decode cX6_tableOf 78 = .ok (.iconst 1, 1) := by decide +kernel
theorem dX6_tableOf_79 : decode cX6_tableOf 79 = .ok (.invokevirtual 149, 3) := by decide +kernel
theorem dX6_tableOf_82 : decode cX6_tableOf 82 = .ok (.aload_n 0, 1) := by decide +kernel
theorem dX6_tableOf_83 : decode cX6_tableOf 83 = .ok (.iload_n 2, 1) := by decide +kernel
theorem dX6_tableOf_84 : decode cX6_tableOf 84 = .ok (.iconst 1, 1) := by decide +kernel
theorem dX6_tableOf_85 : decode cX6_tableOf 85 = .ok (.invokevirtual 149, 3) := by decide +kernel
theorem dX6_tableOf_88 : decode cX6_tableOf 88 = .ok (.if_icmp .le 5, 3) := by decide +kernel
theorem dX6_tableOf_91 : decode cX6_tableOf 91 = .ok (.iload_n 3, 1) := by decide +kernel
theorem dX6_tableOf_92 : decode cX6_tableOf 92 = .ok (.istore_n 2, 1) := by decide +kernel
theorem dX6_tableOf_93 : decode cX6_tableOf 93 = .ok (.iinc 3 1, 3) := by decide +kernel
theorem dX6_tableOf_96 : decode cX6_tableOf 96 = .ok (.goto (-41), 3) := by decide +kernel
theorem dX6_tableOf_99 : decode cX6_tableOf 99 = .ok (.iload_n 2, 1) := by decide +kernel
theorem dX6_tableOf_100 : decode cX6_tableOf 100 = .ok (.ireturn, 1) := by decide +kernel
set_option maxRecDepth 20000 in
theorem ggX6_table_X6_isIn : GoodIn wsX6_table wsX6_isIn := goodIn_r _ [5] (by decide +kernel) (by decide +kernel)
set_option maxRecDepth 20000 in
theorem gX6_table_X6_isIn : GoodIn wsX6_table (va_wsS RX6 60 yX6_isIn wsX6_isIn) := goodIn_app (goodIn_of _ (by decide +kernel)) ggX6_table_X6_isIn
set_option maxRecDepth 20000 in
theorem ggX6_table_X6_tableOf : GoodIn wsX6_table wsX6_tableOf := goodIn_r _ [9, 10, 11, 12, 13, 14, 15, 16, 4, 17, 18, 19, 20, 21, 22, 23, 24, 25, 26, 27, 28, 29, 34, 35, 36, 37, 38, 39, 40, 41, 42, 43, 44, 45, 46, 47, 48, 49, 50, 51, 52, 53, 54, 55, 56] (by decide +kernel) (by decide +kernel)
set_option maxRecDepth 20000 in
theorem gX6_table_X6_tableOf : GoodIn wsX6_table (wsV RX6 162 RX6 yX6_tableOf wsX6_tableOf) := goodIn_app (goodIn_of _ (by decide +kernel)) ggX6_table_X6_tableOf
set_option maxRecDepth 20000 in
theorem ggX6_table_X6_no : GoodIn wsX6_table wsX6_no := goodIn_r _ [33, 1, 34, 35, 36, 37, 38, 39, 40, 41, 42, 43, 44, 45, 46, 47, 48, 49, 50, 51, 52, 53, 54, 55, 56] (by decide +kernel) (by decide +kernel)
set_option maxRecDepth 20000 in
theorem gX6_table_X6_no : GoodIn wsX6_table (wsV RX6 79 RX6 yX6_no wsX6_no) := goodIn_app (goodIn_of _ (by decide +kernel)) ggX6_table_X6_no
theorem dX6_table_0 : decode cX6_table 0 = .ok (.aload_n 0, 1) := by decide +kernel
theorem dX6_table_1 : decode cX6_table 1 = .ok (.iconst 0, 1) := by decide +kernel
theorem dX6_table_2 : decode cX6_table 2 = .ok (.putfield 53, 3) := by decide +kernel
theorem dX6_table_5 : decode cX6_table 5 = .ok (.iload_n 1, 1) := by decide +kernel
theorem dX6_table_6 : decode cX6_table 6 = .ok (.iconst 0, 1) := by decide +kernel
theorem dX6_table_7 : decode cX6_table 7 = .ok (.iconst 2, 1) := by decide +kernel
theorem dX6_table_8 : decode cX6_table 8 = .ok (.invokestatic 60, 3) := by decide +kernel
theorem dX6_table_11 : decode cX6_table 11 = .ok (.ifCond .eq 11, 3) := by decide +kernel
theorem dX6_table_14 : decode cX6_table 14 = .ok (.aload_n 0, 1) := by decide +kernel
theorem dX6_table_15 : decode cX6_table 15 = .ok (.iload_n 1, 1) := by decide +kernel
theorem dX6_table_16 : decode cX6_table 16 = .ok (.invokevirtual 162, 3) := by decide +kernel
theorem dX6_table_19 : decode cX6_table 19 = .ok (.goto 8, 3) := by decide +kernel
theorem dX6_table_22 : decode cX6_table 22 = .ok (.aload_n 0, 1) := by decide +kernel
theorem dX6_table_23 : decode cX6_table 23 = .ok (.iconst 1, 1) := by decide +kernel
theorem dX6_table_24 : decode cX6_table 24 = .ok (.invokevirtual 79, 3) := by decide +kernel
theorem dX6_table_27 : decode cX6_table 27 = .ok (.ireturn, 1) := by decide +kernel
set_option maxRecDepth 20000 in
theorem ggX6_addBadge_X6_isIn : GoodIn wsX6_addBadge wsX6_isIn := goodIn_r _ [7] (by decide +kernel) (by decide +kernel)
set_option maxRecDepth 20000 in
theorem gX6_addBadge_X6_isIn : GoodIn wsX6_addBadge (va_wsS RX6 60 yX6_isIn wsX6_isIn) := goodIn_app (goodIn_of _ (by decide +kernel)) ggX6_addBadge_X6_isIn
set_option maxRecDepth 20000 in
theorem ggX6_addBadge_X6_no : GoodIn wsX6_addBadge wsX6_no := goodIn_r _ [11, 1, 12, 13, 14, 15, 16, 17, 18, 19, 20, 21, 22, 23, 24, 25, 26, 27, 28, 29, 30, 31, 32, 33, 34] (by decide +kernel) (by decide +kernel)
set_option maxRecDepth 20000 in
theorem gX6_addBadge_X6_no : GoodIn wsX6_addBadge (wsV RX6 79 RX6 yX6_no wsX6_no) := goodIn_app (goodIn_of _ (by decide +kernel)) ggX6_addBadge_X6_no
theorem dX6_addBadge_0 : decode cX6_addBadge 0 = .ok (.aload_n 0, 1) := by decide +kernel
theorem dX6_addBadge_1 : decode cX6_addBadge 1 = .ok (.iconst 0, 1) := by decide +kernel
theorem dX6_addBadge_2 : decode cX6_addBadge 2 = .ok (.putfield 53, 3) := by decide +kernel
theorem dX6_addBadge_5 : decode cX6_addBadge 5 = .ok (.iload_n 1, 1) := by decide +kernel
theorem dX6_addBadge_6 : decode cX6_addBadge 6 = .ok (.bipush 6, 2) := by decide +kernel
theorem dX6_addBadge_8 : decode cX6_addBadge 8 = .ok (.bipush 17, 2) := by decide +kernel
theorem dX6_addBadge_10 : decode cX6_addBadge 10 = .ok (.invokestatic 60, 3) := by decide +kernel
theorem dX6_addBadge_13 : decode cX6_addBadge 13 = .ok (.ifCond .ne 9, 3) := by decide +kernel
theorem dX6_addBadge_16 : decode cX6_addBadge 16 = .ok (.aload_n 0, 1) := by decide +kernel
theorem dX6_addBadge_17 : decode cX6_addBadge 17 = .ok (.iconst 1, 1) := by decide +kernel
theorem dX6_addBadge_18 : decode cX6_addBadge 18 = .ok (.invokevirtual 79, 3) := by decide +kernel
theorem dX6_addBadge_21 : decode cX6_addBadge 21 = .ok (.ireturn, 1) := by decide +kernel
theorem dX6_addBadge_22 : decode cX6_addBadge 22 = .ok (.aload_n 0, 1) := by decide +kernel
theorem dX6_addBadge_23 : decode cX6_addBadge 23 = .ok (.getfield 76, 3) := by decide +kernel
theorem dX6_addBadge_26 : decode cX6_addBadge 26 = .ok (.bipush 8, 2) := by decide +kernel
theorem dX6_addBadge_28 : decode cX6_addBadge 28 = .ok (.if_icmp .ne 9, 3) := by decide +kernel
theorem dX6_addBadge_31 : decode cX6_addBadge 31 = .ok (.aload_n 0, 1) := by decide +kernel
theorem dX6_addBadge_32 : decode cX6_addBadge 32 = .ok (.iconst 2, 1) := by decide +kernel
theorem dX6_addBadge_33 : decode cX6_addBadge 33 = .ok (.invokevirtual 79, 3) := by decide +kernel
theorem dX6_addBadge_36 : decode cX6_addBadge 36 = .ok (.ireturn, 1) := by decide +kernel
theorem dX6_addBadge_37 : decode cX6_addBadge 37 = .ok (.aload_n 0, 1) := by decide +kernel
theorem dX6_addBadge_38 : decode cX6_addBadge 38 = .ok (.getfield 47, 3) := by decide +kernel
theorem dX6_addBadge_41 : decode cX6_addBadge 41 = .ok (.aload_n 0, 1) := by decide +kernel
theorem dX6_addBadge_42 : decode cX6_addBadge 42 = .ok (.getfield 76, 3) := by decide +kernel
theorem dX6_addBadge_45 : decode cX6_addBadge 45 = .ok (.iload_n 1, 1) := by decide +kernel
theorem dX6_addBadge_46 : decode cX6_addBadge 46 = .ok (.iastore, 1) := by decide +kernel
theorem dX6_addBadge_47 : decode cX6_addBadge 47 = .ok (.aload_n 0, 1) := by decide +kernel
theorem dX6_addBadge_48 : decode cX6_addBadge 48 = .ok (.dup, 1) := by decide +kernel
theorem dX6_addBadge_49 : decode cX6_addBadge 49 = .ok (.getfield 76, 3) := by decide +kernel
theorem dX6_addBadge_52 : decode cX6_addBadge 52 = .ok (.iconst 1, 1) := by decide +kernel
theorem dX6_addBadge_53 : decode cX6_addBadge 53 = .ok (.iadd, 1) := by decide +kernel
theorem dX6_addBadge_54 : decode cX6_addBadge 54 = .ok (.putfield 76, 3) := by decide +kernel
theorem dX6_addBadge_57 : decode cX6_addBadge 57 = .ok (.aload_n 0, 1) := by decide +kernel
theorem dX6_addBadge_58 : decode cX6_addBadge 58 = .ok (.getfield 76, 3) := by decide +kernel
theorem dX6_addBadge_61 : decode cX6_addBadge 61 = .ok (.iconst 1, 1) := by decide +kernel
theorem dX6_addBadge_62 : decode cX6_addBadge 62 = .ok (.isub, 1) := by decide +kernel
theorem dX6_addBadge_63 : decode cX6_addBadge 63 = .ok (.ireturn, 1) := by decide +kernel
set_option maxRecDepth 20000 in
theorem ggX6_isActivity_X6_isIn : GoodIn wsX6_isActivity wsX6_isIn := goodIn_r _ [4] (by decide +kernel) (by decide +kernel)
set_option maxRecDepth 20000 in
theorem gX6_isActivity_X6_isIn : GoodIn wsX6_isActivity (va_wsS RX6 60 yX6_isIn wsX6_isIn) := goodIn_app (goodIn_of _ (by decide +kernel)) ggX6_isActivity_X6_isIn
theorem dX6_isActivity_0 : decode cX6_isActivity 0 = .ok (.iload_n 0, 1) := by decide +kernel
theorem dX6_isActivity_1 : decode cX6_isActivity 1 = .ok (.iconst 0, 1) := by decide +kernel
theorem dX6_isActivity_2 : decode cX6_isActivity 2 = .ok (.bipush 9, 2) := by decide +kernel
theorem dX6_isActivity_4 : decode cX6_isActivity 4 = .ok (.invokestatic 60, 3) := by decide +kernel
theorem dX6_isActivity_7 : decode cX6_isActivity 7 = .ok (.ireturn, 1) := by decide +kernel
set_option maxRecDepth 20000 in
theorem ggX6_want_X6_isBadge : GoodIn wsX6_want wsX6_isBadge := goodIn_r _ [7, 8, 9, 10, 6, 11, 19, 20, 21, 22, 23, 24, 25, 26, 27, 28, 29, 30, 31, 32, 33, 34, 35, 36, 37, 38, 39, 40, 41] (by decide +kernel) (by decide +kernel)
set_option maxRecDepth 20000 in
theorem gX6_want_X6_isBadge : GoodIn wsX6_want (wsV RX6 165 RX6 yX6_isBadge wsX6_isBadge) := goodIn_app (goodIn_of _ (by decide +kernel)) ggX6_want_X6_isBadge
set_option maxRecDepth 20000 in
theorem ggX6_want_X6_isActivity : GoodIn wsX6_want wsX6_isActivity := goodIn_r _ [14, 9, 10, 6, 11] (by decide +kernel) (by decide +kernel)
set_option maxRecDepth 20000 in
theorem gX6_want_X6_isActivity : GoodIn wsX6_want (va_wsS RX6 168 yX6_isActivity wsX6_isActivity) := goodIn_app (goodIn_of _ (by decide +kernel)) ggX6_want_X6_isActivity
set_option maxRecDepth 20000 in
theorem ggX6_want_X6_no : GoodIn wsX6_want wsX6_no := goodIn_r _ [18, 1, 19, 20, 21, 22, 23, 24, 25, 26, 27, 28, 29, 30, 31, 32, 33, 34, 35, 36, 37, 38, 39, 40, 41] (by decide +kernel) (by decide +kernel)
set_option maxRecDepth 20000 in
theorem gX6_want_X6_no : GoodIn wsX6_want (wsV RX6 79 RX6 yX6_no wsX6_no) := goodIn_app (goodIn_of _ (by decide +kernel)) ggX6_want_X6_no
set_option maxRecDepth 20000 in
theorem ggX6_want_X6_isIn : GoodIn wsX6_want wsX6_isIn := goodIn_r _ [11] (by decide +kernel) (by decide +kernel)
set_option maxRecDepth 20000 in
theorem gX6_want_X6_isIn : GoodIn wsX6_want (va_wsS RX6 60 yX6_isIn wsX6_isIn) := goodIn_app (goodIn_of _ (by decide +kernel)) ggX6_want_X6_isIn
theorem dX6_want_0 : decode cX6_want 0 = .ok (.aload_n 0, 1) := by decide +kernel
theorem dX6_want_1 : decode cX6_want 1 = .ok (.iconst 0, 1) := by decide +kernel
theorem dX6_want_2 : decode cX6_want 2 = .ok (.putfield 53, 3) := by decide +kernel
theorem dX6_want_5 : decode cX6_want 5 = .ok (.aload_n 0, 1) := by decide +kernel
theorem dX6_want_6 : decode cX6_want 6 = .ok (.iload_n 1, 1) := by decide +kernel
theorem dX6_want_7 : decode cX6_want 7 = .ok (.invokevirtual 165, 3) := by decide +kernel
theorem dX6_want_10 : decode cX6_want 10 = .ok (.ifCond .eq 10, 3) := by decide +kernel
theorem dX6_want_13 : decode cX6_want 13 = .ok (.iload_n 2, 1) := by decide +kernel
theorem dX6_want_14 : decode cX6_want 14 = .ok (.invokestatic 168, 3) := by decide +kernel
theorem dX6_want_17 : decode cX6_want 17 = .ok (.ifCond .ne 9, 3) := by decide +kernel
theorem dX6_want_20 : decode cX6_want 20 = .ok (.aload_n 0, 1) := by decide +kernel
theorem dX6_want_21 : decode cX6_want 21 = .ok (.iconst 1, 1) := by decide +kernel
theorem dX6_want_22 : decode cX6_want 22 = .ok (.invokevirtual 79, 3) := by decide +kernel
theorem dX6_want_25 : decode cX6_want 25 = .ok (.ireturn, 1) := by decide +kernel
theorem dX6_want_26 : decode cX6_want 26 = .ok (.iload_n 3, 1) := by decide +kernel
theorem dX6_want_27 : decode cX6_want 27 = .ok (.iconst 0, 1) := by decide +kernel
theorem dX6_want_28 : decode cX6_want 28 = .ok (.bipush 100, 2) := by decide +kernel
theorem dX6_want_30 : decode cX6_want 30 = .ok (.invokestatic 60, 3) := by decide +kernel
theorem dX6_want_33 : decode cX6_want 33 = .ok (.ifCond .ne 9, 3) := by decide +kernel
theorem dX6_want_36 : decode cX6_want 36 = .ok (.aload_n 0, 1) := by decide +kernel
theorem dX6_want_37 : decode cX6_want 37 = .ok (.iconst 2, 1) := by decide +kernel
theorem dX6_want_38 : decode cX6_want 38 = .ok (.invokevirtual 79, 3) := by decide +kernel
theorem dX6_want_41 : decode cX6_want 41 = .ok (.ireturn, 1) := by decide +kernel
theorem dX6_want_42 : decode cX6_want 42 = .ok (.aload_n 0, 1) := by decide +kernel
theorem dX6_want_43 : decode cX6_want 43 = .ok (.getfield 50, 3) := by decide +kernel
theorem dX6_want_46 : decode cX6_want 46 = .ok (.bipush 10, 2) := by decide +kernel
theorem dX6_want_48 : decode cX6_want 48 = .ok (.iload_n 1, 1) := by decide +kernel
theorem dX6_want_49 : decode cX6_want 49 = .ok (.imul, 1) := by decide +kernel
theorem dX6_want_50 : decode cX6_want 50 = .ok (.iload_n 2, 1) := by decide +kernel
theorem dX6_want_51 : decode cX6_want 51 = .ok (.iadd, 1) := by decide +kernel
theorem dX6_want_52 : decode cX6_want 52 = .ok (.iaload, 1) := by decide +kernel
theorem dX6_want_53 : decode cX6_want 53 = .ok (.istore 4, 2) := by decide +kernel
theorem dX6_want_55 : decode cX6_want 55 = .ok (.aload_n 0, 1) := by decide +kernel
theorem dX6_want_56 : decode cX6_want 56 = .ok (.getfield 50, 3) := by decide +kernel
theorem dX6_want_59 : decode cX6_want 59 = .ok (.bipush 10, 2) := by decide +kernel
theorem dX6_want_61 : decode cX6_want 61 = .ok (.iload_n 1, 1) := by decide +kernel
theorem dX6_want_62 : decode cX6_want 62 = .ok (.imul, 1) := by decide +kernel
theorem dX6_want_63 : decode cX6_want 63 = .ok (.iload_n 2, 1) := by decide +kernel
theorem dX6_want_64 : decode cX6_want 64 = .ok (.iadd, 1) := by decide +kernel
theorem dX6_want_65 : decode cX6_want 65 = .ok (.iload_n 3, 1) := by decide +kernel
theorem dX6_want_66 : decode cX6_want 66 = .ok (.iastore, 1) := by decide +kernel
theorem dX6_want_67 : decode cX6_want 67 = .ok (.iload 4, 2) := by decide +kernel
theorem dX6_want_69 : decode cX6_want 69 = .ok (.ireturn, 1) := by decide +kernel
set_option maxRecDepth 20000 in
theorem ggX6_practise_X6_isPatrol : GoodIn wsX6_practise wsX6_isPatrol := goodIn_r _ [9, 10, 11, 12, 8, 13, 21, 22, 23, 24, 25, 26, 27, 28, 29, 30, 31, 32, 33, 34, 35, 36, 37, 38, 39, 40, 41, 42, 43] (by decide +kernel) (by decide +kernel)
set_option maxRecDepth 20000 in
theorem gX6_practise_X6_isPatrol : GoodIn wsX6_practise (wsV RX6 83 RX6 yX6_isPatrol wsX6_isPatrol) := goodIn_app (goodIn_of _ (by decide +kernel)) ggX6_practise_X6_isPatrol
set_option maxRecDepth 20000 in
theorem ggX6_practise_X6_isActivity : GoodIn wsX6_practise wsX6_isActivity := goodIn_r _ [16, 11, 12, 8, 13] (by decide +kernel) (by decide +kernel)
set_option maxRecDepth 20000 in
theorem gX6_practise_X6_isActivity : GoodIn wsX6_practise (va_wsS RX6 168 yX6_isActivity wsX6_isActivity) := goodIn_app (goodIn_of _ (by decide +kernel)) ggX6_practise_X6_isActivity
set_option maxRecDepth 20000 in
theorem ggX6_practise_X6_no : GoodIn wsX6_practise wsX6_no := goodIn_r _ [20, 1, 21, 22, 23, 24, 25, 26, 27, 28, 29, 30, 31, 32, 33, 34, 35, 36, 37, 38, 39, 40, 41, 42, 43] (by decide +kernel) (by decide +kernel)
set_option maxRecDepth 20000 in
theorem gX6_practise_X6_no : GoodIn wsX6_practise (wsV RX6 79 RX6 yX6_no wsX6_no) := goodIn_app (goodIn_of _ (by decide +kernel)) ggX6_practise_X6_no
set_option maxRecDepth 20000 in
theorem ggX6_practise_X6_isIn : GoodIn wsX6_practise wsX6_isIn := goodIn_r _ [13] (by decide +kernel) (by decide +kernel)
set_option maxRecDepth 20000 in
theorem gX6_practise_X6_isIn : GoodIn wsX6_practise (va_wsS RX6 60 yX6_isIn wsX6_isIn) := goodIn_app (goodIn_of _ (by decide +kernel)) ggX6_practise_X6_isIn
theorem dX6_practise_0 : decode cX6_practise 0 = .ok (.aload_n 0, 1) := by decide +kernel
theorem dX6_practise_1 : decode cX6_practise 1 = .ok (.iconst 0, 1) := by decide +kernel
theorem dX6_practise_2 : decode cX6_practise 2 = .ok (.putfield 53, 3) := by decide +kernel
theorem dX6_practise_5 : decode cX6_practise 5 = .ok (.aload_n 0, 1) := by decide +kernel
theorem dX6_practise_6 : decode cX6_practise 6 = .ok (.iload_n 1, 1) := by decide +kernel
theorem dX6_practise_7 : decode cX6_practise 7 = .ok (.invokevirtual 83, 3) := by decide +kernel
theorem dX6_practise_10 : decode cX6_practise 10 = .ok (.ifCond .eq 10, 3) := by decide +kernel
theorem dX6_practise_13 : decode cX6_practise 13 = .ok (.iload_n 2, 1) := by decide +kernel
theorem dX6_practise_14 : decode cX6_practise 14 = .ok (.invokestatic 168, 3) := by decide +kernel
theorem dX6_practise_17 : decode cX6_practise 17 = .ok (.ifCond .ne 9, 3) := by decide +kernel
theorem dX6_practise_20 : decode cX6_practise 20 = .ok (.aload_n 0, 1) := by decide +kernel
theorem dX6_practise_21 : decode cX6_practise 21 = .ok (.iconst 1, 1) := by decide +kernel
theorem dX6_practise_22 : decode cX6_practise 22 = .ok (.invokevirtual 79, 3) := by decide +kernel
theorem dX6_practise_25 : decode cX6_practise 25 = .ok (.ireturn, 1) := by decide +kernel
theorem dX6_practise_26 : decode cX6_practise 26 = .ok (.iload_n 3, 1) := by decide +kernel
theorem dX6_practise_27 : decode cX6_practise 27 = .ok (.iconst 1, 1) := by decide +kernel
theorem dX6_practise_28 : decode cX6_practise 28 = .ok (.bipush 24, 2) := by decide +kernel
theorem dX6_practise_30 : decode cX6_practise 30 = .ok (.invokestatic 60, 3) := by decide +kernel
theorem dX6_practise_33 : decode cX6_practise 33 = .ok (.ifCond .ne 9, 3) := by decide +kernel
theorem dX6_practise_36 : decode cX6_practise 36 = .ok (.aload_n 0, 1) := by decide +kernel
theorem dX6_practise_37 : decode cX6_practise 37 = .ok (.iconst 2, 1) := by decide +kernel
theorem dX6_practise_38 : decode cX6_practise 38 = .ok (.invokevirtual 79, 3) := by decide +kernel
theorem dX6_practise_41 : decode cX6_practise 41 = .ok (.ireturn, 1) := by decide +kernel
theorem dX6_practise_42 : decode cX6_practise 42 = .ok (.iconst 0, 1) := by decide +kernel
theorem dX6_practise_43 : decode cX6_practise 43 = .ok (.istore 4, 2) := by decide +kernel
theorem dX6_practise_45 : decode cX6_practise 45 = .ok (.iconst 0, 1) := by decide +kernel
theorem dX6_practise_46 : decode cX6_practise 46 = .ok (.istore 5, 2) := by decide +kernel
theorem dX6_practise_48 : decode cX6_practise 48 = .ok (.iload 5, 2) := by decide +kernel
theorem dX6_practise_50 : decode cX6_practise 50 = .ok (.aload_n 0, 1) := by decide +kernel
theorem dX6_practise_51 : decode cX6_practise 51 = .ok (.getfield 64, 3) := by decide +kernel
theorem dX6_practise_54 : decode cX6_practise 54 = .ok (.if_icmp .ge 42, 3) := by decide +kernel
theorem dX6_practise_57 : decode cX6_practise 57 = .ok (.aload_n 0, 1) := by decide +kernel
theorem dX6_practise_58 : decode cX6_practise 58 = .ok (.getfield 9, 3) := by decide +kernel
theorem dX6_practise_61 : decode cX6_practise 61 = .ok (.iload 5, 2) := by decide +kernel
theorem dX6_practise_63 : decode cX6_practise 63 = .ok (.iaload, 1) := by decide +kernel
theorem dX6_practise_64 : decode cX6_practise 64 = .ok (.iload_n 1, 1) := by decide +kernel
theorem dX6_practise_65 : decode cX6_practise 65 = .ok (.if_icmp .eq 6, 3) := by decide +kernel
theorem dX6_practise_68 : decode cX6_practise 68 = .ok (.goto 22, 3) := by decide +kernel
theorem dX6_practise_71 : decode cX6_practise 71 = .ok (.aload_n 0, 1) := by decide +kernel
theorem dX6_practise_72 : decode cX6_practise 72 = .ok (.getfield 28, 3) := by decide +kernel
theorem dX6_practise_75 : decode cX6_practise 75 = .ok (.bipush 10, 2) := by decide +kernel
theorem dX6_practise_77 : decode cX6_practise 77 = .ok (.iload 5, 2) := by decide +kernel
theorem dX6_practise_79 : decode cX6_practise 79 = .ok (.imul, 1) := by decide +kernel
theorem dX6_practise_80 : decode cX6_practise 80 = .ok (.iload_n 2, 1) := by decide +kernel
theorem dX6_practise_81 : decode cX6_practise 81 = .ok (.iadd, 1) := by decide +kernel
theorem dX6_practise_82 : decode cX6_practise 82 = .ok (.dup2, 1) := by decide +kernel
theorem dX6_practise_83 : decode cX6_practise 83 = .ok (.iaload, 1) := by decide +kernel
theorem dX6_practise_84 : decode cX6_practise 84 = .ok (.iload_n 3, 1) := by decide +kernel
theorem dX6_practise_85 : decode cX6_practise 85 = .ok (.iadd, 1) := by decide +kernel
theorem dX6_practise_86 : decode cX6_practise 86 = .ok (.iastore, 1) := by decide +kernel
theorem dX6_practise_87 : decode cX6_practise 87 = .ok (.iinc 4 1, 3) := by decide +kernel
theorem dX6_practise_90 : decode cX6_practise 90 = .ok (.iinc 5 1, 3) := by decide +kernel
theorem dX6_practise_93 : decode cX6_practise 93 = .ok (.goto (-45), 3) := by decide +kernel
theorem dX6_practise_96 : decode cX6_practise 96 = .ok (.iload 4, 2) := by decide +kernel
theorem dX6_practise_98 : decode cX6_practise 98 = .ok (.ireturn, 1) := by decide +kernel
theorem dX6_awayFrom_0 : decode cX6_awayFrom 0 = .ok (.aload_n 0, 1) := by decide +kernel
theorem dX6_awayFrom_1 : decode cX6_awayFrom 1 = .ok (.getfield 25, 3) := by decide +kernel
theorem dX6_awayFrom_4 : decode cX6_awayFrom 4 = .ok (.iload_n 1, 1) := by decide +kernel
theorem dX6_awayFrom_5 : decode cX6_awayFrom 5 = .ok (.iaload, 1) := by decide +kernel
theorem dX6_awayFrom_6 : decode cX6_awayFrom 6 = .ok (.iload_n 2, 1) := by decide +kernel
theorem dX6_awayFrom_7 : decode cX6_awayFrom 7 = .ok (.ishr, 1) := by decide +kernel
theorem dX6_awayFrom_8 : decode cX6_awayFrom 8 = .ok (.iconst 1, 1) := by decide +kernel
theorem dX6_awayFrom_9 : decode cX6_awayFrom 9 = .ok (.iand, 1) := by decide +kernel
theorem dX6_awayFrom_10 : decode cX6_awayFrom 10 = .ok (.iconst 1, 1) := by decide +kernel
theorem dX6_awayFrom_11 : decode cX6_awayFrom 11 = .ok (.if_icmp .ne 6, 3) := by decide +kernel
theorem dX6_awayFrom_14 : decode cX6_awayFrom 14 = .ok (.bipush (-2), 2) := by decide +kernel
theorem dX6_awayFrom_16 : decode cX6_awayFrom 16 = .ok (.ireturn, 1) := by decide +kernel
theorem dX6_awayFrom_17 : decode cX6_awayFrom 17 = .ok (.aload_n 0, 1) := by decide +kernel
theorem dX6_awayFrom_18 : decode cX6_awayFrom 18 = .ok (.getfield 13, 3) := by decide +kernel
theorem dX6_awayFrom_21 : decode cX6_awayFrom 21 = .ok (.iload_n 1, 1) := by decide +kernel
theorem dX6_awayFrom_22 : decode cX6_awayFrom 22 = .ok (.iaload, 1) := by decide +kernel
theorem dX6_awayFrom_23 : decode cX6_awayFrom 23 = .ok (.aload_n 0, 1) := by decide +kernel
theorem dX6_awayFrom_24 : decode cX6_awayFrom 24 = .ok (.getfield 47, 3) := by decide +kernel
theorem dX6_awayFrom_27 : decode cX6_awayFrom 27 = .ok (.iload_n 2, 1) := by decide +kernel
theorem dX6_awayFrom_28 : decode cX6_awayFrom 28 = .ok (.iaload, 1) := by decide +kernel
theorem dX6_awayFrom_29 : decode cX6_awayFrom 29 = .ok (.if_icmp .ge 5, 3) := by decide +kernel
theorem dX6_awayFrom_32 : decode cX6_awayFrom 32 = .ok (.iconst (-1), 1) := by decide +kernel
theorem dX6_awayFrom_33 : decode cX6_awayFrom 33 = .ok (.ireturn, 1) := by decide +kernel
theorem dX6_awayFrom_34 : decode cX6_awayFrom 34 = .ok (.iconst 0, 1) := by decide +kernel
theorem dX6_awayFrom_35 : decode cX6_awayFrom 35 = .ok (.istore_n 3, 1) := by decide +kernel
theorem dX6_awayFrom_36 : decode cX6_awayFrom 36 = .ok (.iconst 0, 1) := by decide +kernel
theorem dX6_awayFrom_37 : decode cX6_awayFrom 37 = .ok (.istore 4, 2) := by decide +kernel
theorem dX6_awayFrom_39 : decode cX6_awayFrom 39 = .ok (.iload 4, 2) := by decide +kernel
theorem dX6_awayFrom_41 : decode cX6_awayFrom 41 = .ok (.bipush 10, 2) := by decide +kernel
theorem dX6_awayFrom_43 : decode cX6_awayFrom 43 = .ok (.if_icmp .ge 41, 3) := by decide +kernel
theorem dX6_awayFrom_46 : decode cX6_awayFrom 46 = .ok (.iload_n 3, 1) := by decide +kernel
theorem dX6_awayFrom_47 : decode cX6_awayFrom 47 = .ok (.iconst 0, 1) := by decide +kernel
theorem dX6_awayFrom_48 : decode cX6_awayFrom 48 = .ok (.aload_n 0, 1) := by decide +kernel
theorem dX6_awayFrom_49 : decode cX6_awayFrom 49 = .ok (.getfield 50, 3) := by decide +kernel
theorem dX6_awayFrom_52 : decode cX6_awayFrom 52 = .ok (.bipush 10, 2) := by decide +kernel
theorem dX6_awayFrom_54 : decode cX6_awayFrom 54 = .ok (.iload_n 2, 1) := by decide +kernel
theorem dX6_awayFrom_55 : decode cX6_awayFrom 55 = .ok (.imul, 1) := by decide +kernel
theorem dX6_awayFrom_56 : decode cX6_awayFrom 56 = .ok (.iload 4, 2) := by decide +kernel
theorem dX6_awayFrom_58 : decode cX6_awayFrom 58 = .ok (.iadd, 1) := by decide +kernel
theorem dX6_awayFrom_59 : decode cX6_awayFrom 59 = .ok (.iaload, 1) := by decide +kernel
theorem dX6_awayFrom_60 : decode cX6_awayFrom 60 = .ok (.aload_n 0, 1) := by decide +kernel
theorem dX6_awayFrom_61 : decode cX6_awayFrom 61 = .ok (.getfield 28, 3) := by decide +kernel
theorem dX6_awayFrom_64 : decode cX6_awayFrom 64 = .ok (.bipush 10, 2) := by decide +kernel
theorem dX6_awayFrom_66 : decode cX6_awayFrom 66 = .ok (.iload_n 1, 1) := by decide +kernel
theorem dX6_awayFrom_67 : decode cX6_awayFrom 67 = .ok (.imul, 1) := by decide +kernel
theorem dX6_awayFrom_68 : decode cX6_awayFrom 68 = .ok (.iload 4, 2) := by decide +kernel
theorem dX6_awayFrom_70 : decode cX6_awayFrom 70 = .ok (.iadd, 1) := by decide +kernel
theorem dX6_awayFrom_71 : decode cX6_awayFrom 71 = .ok (.iaload, 1) := by decide +kernel
theorem dX6_awayFrom_72 : decode cX6_awayFrom 72 = .ok (.isub, 1) := by decide +kernel
theorem dX6_awayFrom_73 : decode cX6_awayFrom 73 = .ok (.invokestatic 153, 3) := by decide +kernel
theorem dX6_awayFrom_76 : decode cX6_awayFrom 76 = .ok (.iadd, 1) := by decide +kernel
theorem dX6_awayFrom_77 : decode cX6_awayFrom 77 = .ok (.istore_n 3, 1) := by decide +kernel
theorem dX6_awayFrom_78 : decode cX6_awayFrom 78 = .ok (.iinc 4 1, 3) := by decide +kernel
theorem dX6_awayFrom_81 : decode cX6_awayFrom 81 = .ok (.goto (-42), 3) := by decide +kernel
theorem dX6_awayFrom_84 : decode cX6_awayFrom 84 = .ok (.iload_n 3, 1) := by decide +kernel
theorem dX6_awayFrom_85 : decode cX6_awayFrom 85 = .ok (.ireturn, 1) := by decide +kernel
set_option maxRecDepth 20000 in
theorem ggX6_away_X6_isScout : GoodIn wsX6_away wsX6_isScout := goodIn_r _ [6, 7, 8, 9, 5, 10, 33, 34, 35, 36, 37, 38, 39, 40, 41, 42, 43, 44, 45, 46, 47, 48, 49, 50, 51, 52, 53, 54, 55] (by decide +kernel) (by decide +kernel)
set_option maxRecDepth 20000 in
theorem gX6_away_X6_isScout : GoodIn wsX6_away (wsV RX6 90 RX6 yX6_isScout wsX6_isScout) := goodIn_app (goodIn_of _ (by decide +kernel)) ggX6_away_X6_isScout
set_option maxRecDepth 20000 in
theorem ggX6_away_X6_isBadge : GoodIn wsX6_away wsX6_isBadge := goodIn_r _ [14, 15, 8, 9, 5, 10, 33, 34, 35, 36, 37, 38, 39, 40, 41, 42, 43, 44, 45, 46, 47, 48, 49, 50, 51, 52, 53, 54, 55] (by decide +kernel) (by decide +kernel)
set_option maxRecDepth 20000 in
theorem gX6_away_X6_isBadge : GoodIn wsX6_away (wsV RX6 165 RX6 yX6_isBadge wsX6_isBadge) := goodIn_app (goodIn_of _ (by decide +kernel)) ggX6_away_X6_isBadge
set_option maxRecDepth 20000 in
theorem ggX6_away_X6_awayFrom : GoodIn wsX6_away wsX6_awayFrom := goodIn_r _ [19, 20, 21, 22, 23, 24, 25, 26, 27, 28, 33, 34, 35, 36, 37, 38, 39, 40, 41, 42, 43, 44, 45, 46, 47, 48, 49, 50, 51, 52, 53, 54, 55] (by decide +kernel) (by decide +kernel)
set_option maxRecDepth 20000 in
theorem gX6_away_X6_awayFrom : GoodIn wsX6_away (wsV RX6 171 RX6 yX6_awayFrom wsX6_awayFrom) := goodIn_app (goodIn_of _ (by decide +kernel)) ggX6_away_X6_awayFrom
set_option maxRecDepth 20000 in
theorem ggX6_away_X6_no : GoodIn wsX6_away wsX6_no := goodIn_r _ [32, 1, 33, 34, 35, 36, 37, 38, 39, 40, 41, 42, 43, 44, 45, 46, 47, 48, 49, 50, 51, 52, 53, 54, 55] (by decide +kernel) (by decide +kernel)
set_option maxRecDepth 20000 in
theorem gX6_away_X6_no : GoodIn wsX6_away (wsV RX6 79 RX6 yX6_no wsX6_no) := goodIn_app (goodIn_of _ (by decide +kernel)) ggX6_away_X6_no
theorem dX6_away_0 : decode cX6_away 0 = .ok (.aload_n 0, 1) := by decide +kernel
theorem dX6_away_1 : decode cX6_away 1 = .ok (.iconst 0, 1) := by decide +kernel
theorem dX6_away_2 : decode cX6_away 2 = .ok (.putfield 53, 3) := by decide +kernel
theorem dX6_away_5 : decode cX6_away 5 = .ok (.aload_n 0, 1) := by decide +kernel
theorem dX6_away_6 : decode cX6_away 6 = .ok (.iload_n 1, 1) := by decide +kernel
theorem dX6_away_7 : decode cX6_away 7 = .ok (.invokevirtual 90, 3) := by decide +kernel
theorem dX6_away_10 : decode cX6_away 10 = .ok (.ifCond .eq 20, 3) := by decide +kernel
theorem dX6_away_13 : decode cX6_away 13 = .ok (.aload_n 0, 1) := by decide +kernel
theorem dX6_away_14 : decode cX6_away 14 = .ok (.iload_n 2, 1) := by decide +kernel
theorem dX6_away_15 : decode cX6_away 15 = .ok (.invokevirtual 165, 3) := by decide +kernel
theorem dX6_away_18 : decode cX6_away 18 = .ok (.ifCond .eq 12, 3) := by decide +kernel
theorem dX6_away_21 : decode cX6_away 21 = .ok (.aload_n 0, 1) := by decide +kernel
theorem dX6_away_22 : decode cX6_away 22 = .ok (.iload_n 1, 1) := by decide +kernel
theorem dX6_away_23 : decode cX6_away 23 = .ok (.iload_n 2, 1) := by decide +kernel
theorem dX6_away_24 : decode cX6_away 24 = .ok (.invokevirtual 171, 3) := by decide +kernel
theorem dX6_away_27 : decode cX6_away 27 = .ok (.goto 8, 3) := by decide +kernel
theorem dX6_away_30 : decode cX6_away 30 = .ok (.aload_n 0, 1) := by decide +kernel
theorem dX6_away_31 : decode cX6_away 31 = .ok (.iconst 1, 1) := by decide +kernel
theorem dX6_away_32 : decode cX6_away 32 = .ok (.invokevirtual 79, 3) := by decide +kernel
theorem dX6_away_35 : decode cX6_away 35 = .ok (.ireturn, 1) := by decide +kernel
set_option maxRecDepth 20000 in
theorem ggX6_earn_X6_isScout : GoodIn wsX6_earn wsX6_isScout := goodIn_r _ [7, 8, 9, 10, 6, 11, 33, 34, 35, 36, 37, 38, 39, 40, 41, 42, 43, 44, 45, 46, 47, 48, 49, 50, 51, 52, 53, 54, 55] (by decide +kernel) (by decide +kernel)
set_option maxRecDepth 20000 in
theorem gX6_earn_X6_isScout : GoodIn wsX6_earn (wsV RX6 90 RX6 yX6_isScout wsX6_isScout) := goodIn_app (goodIn_of _ (by decide +kernel)) ggX6_earn_X6_isScout
set_option maxRecDepth 20000 in
theorem ggX6_earn_X6_isBadge : GoodIn wsX6_earn wsX6_isBadge := goodIn_r _ [15, 16, 9, 10, 6, 11, 33, 34, 35, 36, 37, 38, 39, 40, 41, 42, 43, 44, 45, 46, 47, 48, 49, 50, 51, 52, 53, 54, 55] (by decide +kernel) (by decide +kernel)
set_option maxRecDepth 20000 in
theorem gX6_earn_X6_isBadge : GoodIn wsX6_earn (wsV RX6 165 RX6 yX6_isBadge wsX6_isBadge) := goodIn_app (goodIn_of _ (by decide +kernel)) ggX6_earn_X6_isBadge
set_option maxRecDepth 20000 in
theorem ggX6_earn_X6_no : GoodIn wsX6_earn wsX6_no := goodIn_r _ [20, 1, 33, 34, 35, 36, 37, 38, 39, 40, 41, 42, 43, 44, 45, 46, 47, 48, 49, 50, 51, 52, 53, 54, 55] (by decide +kernel) (by decide +kernel)
set_option maxRecDepth 20000 in
theorem gX6_earn_X6_no : GoodIn wsX6_earn (wsV RX6 79 RX6 yX6_no wsX6_no) := goodIn_app (goodIn_of _ (by decide +kernel)) ggX6_earn_X6_no
set_option maxRecDepth 20000 in
theorem ggX6_earn_X6_awayFrom : GoodIn wsX6_earn wsX6_awayFrom := goodIn_r _ [24, 2, 25, 26, 27, 28, 29, 30, 31, 32, 33, 34, 35, 36, 37, 38, 39, 40, 41, 42, 43, 44, 45, 46, 47, 48, 49, 50, 51, 52, 53, 54, 55] (by decide +kernel) (by decide +kernel)
set_option maxRecDepth 20000 in
theorem gX6_earn_X6_awayFrom : GoodIn wsX6_earn (wsV RX6 171 RX6 yX6_awayFrom wsX6_awayFrom) := goodIn_app (goodIn_of _ (by decide +kernel)) ggX6_earn_X6_awayFrom
theorem dX6_earn_0 : decode cX6_earn 0 = .ok (.aload_n 0, 1) := by decide +kernel
theorem dX6_earn_1 : decode cX6_earn 1 = .ok (.iconst 0, 1) := by decide +kernel
theorem dX6_earn_2 : decode cX6_earn 2 = .ok (.putfield 53, 3) := by decide +kernel
theorem dX6_earn_5 : decode cX6_earn 5 = .ok (.aload_n 0, 1) := by decide +kernel
theorem dX6_earn_6 : decode cX6_earn 6 = .ok (.iload_n 1, 1) := by decide +kernel
theorem dX6_earn_7 : decode cX6_earn 7 = .ok (.invokevirtual 90, 3) := by decide +kernel
theorem dX6_earn_10 : decode cX6_earn 10 = .ok (.ifCond .eq 11, 3) := by decide +kernel
theorem dX6_earn_13 : decode cX6_earn 13 = .ok (.aload_n 0, 1) := by decide +kernel
theorem dX6_earn_14 : decode cX6_earn 14 = .ok (.iload_n 2, 1) := by decide +kernel
theorem dX6_earn_15 : decode cX6_earn 15 = .ok (.invokevirtual 165, 3) := by decide +kernel
theorem dX6_earn_18 : decode cX6_earn 18 = .ok (.ifCond .ne 9, 3) := by decide +kernel
theorem dX6_earn_21 : decode cX6_earn 21 = .ok (.aload_n 0, 1) := by decide +kernel
theorem dX6_earn_22 : decode cX6_earn 22 = .ok (.iconst 1, 1) := by decide +kernel
theorem dX6_earn_23 : decode cX6_earn 23 = .ok (.invokevirtual 79, 3) := by decide +kernel
theorem dX6_earn_26 : decode cX6_earn 26 = .ok (.ireturn, 1) := by decide +kernel
theorem dX6_earn_27 : decode cX6_earn 27 = .ok (.aload_n 0, 1) := by decide +kernel
theorem dX6_earn_28 : decode cX6_earn 28 = .ok (.iload_n 1, 1) := by decide +kernel
theorem dX6_earn_29 : decode cX6_earn 29 = .ok (.iload_n 2, 1) := by decide +kernel
theorem dX6_earn_30 : decode cX6_earn 30 = .ok (.invokevirtual 171, 3) := by decide +kernel
theorem dX6_earn_33 : decode cX6_earn 33 = .ok (.ifCond .eq 9, 3) := by decide +kernel
theorem dX6_earn_36 : decode cX6_earn 36 = .ok (.aload_n 0, 1) := by decide +kernel
theorem dX6_earn_37 : decode cX6_earn 37 = .ok (.iconst 2, 1) := by decide +kernel
theorem dX6_earn_38 : decode cX6_earn 38 = .ok (.invokevirtual 79, 3) := by decide +kernel
theorem dX6_earn_41 : decode cX6_earn 41 = .ok (.ireturn, 1) := by decide +kernel
theorem dX6_earn_42 : decode cX6_earn 42 = .ok (.aload_n 0, 1) := by decide +kernel
theorem dX6_earn_43 : decode cX6_earn 43 = .ok (.getfield 25, 3) := by decide +kernel
theorem dX6_earn_46 : decode cX6_earn 46 = .ok (.iload_n 1, 1) := by decide +kernel
theorem dX6_earn_47 : decode cX6_earn 47 = .ok (.dup2, 1) := by decide +kernel
theorem dX6_earn_48 : decode cX6_earn 48 = .ok (.iaload, 1) := by decide +kernel
theorem dX6_earn_49 : decode cX6_earn 49 = .ok (.iconst 1, 1) := by decide +kernel
theorem dX6_earn_50 : decode cX6_earn 50 = .ok (.iload_n 2, 1) := by decide +kernel
theorem dX6_earn_51 : decode cX6_earn 51 = .ok (.ishl, 1) := by decide +kernel
theorem dX6_earn_52 : decode cX6_earn 52 = .ok (.iadd, 1) := by decide +kernel
theorem dX6_earn_53 : decode cX6_earn 53 = .ok (.iastore, 1) := by decide +kernel
theorem dX6_earn_54 : decode cX6_earn 54 = .ok (.iconst 0, 1) := by decide +kernel
theorem dX6_earn_55 : decode cX6_earn 55 = .ok (.istore_n 3, 1) := by decide +kernel
theorem dX6_earn_56 : decode cX6_earn 56 = .ok (.iconst 0, 1) := by decide +kernel
theorem dX6_earn_57 : decode cX6_earn 57 = .ok (.istore 4, 2) := by decide +kernel
theorem dX6_earn_59 : decode cX6_earn 59 = .ok (.iload 4, 2) := by decide +kernel
theorem dX6_earn_61 : decode cX6_earn 61 = .ok (.bipush 8, 2) := by decide +kernel
theorem dX6_earn_63 : decode cX6_earn 63 = .ok (.if_icmp .ge 23, 3) := by decide +kernel
theorem dX6_earn_66 : decode cX6_earn 66 = .ok (.iload_n 3, 1) := by decide +kernel
theorem dX6_earn_67 : decode cX6_earn 67 = .ok (.aload_n 0, 1) := by decide +kernel
theorem dX6_earn_68 : decode cX6_earn 68 = .ok (.getfield 25, 3) := by decide +kernel
theorem dX6_earn_71 : decode cX6_earn 71 = .ok (.iload_n 1, 1) := by decide +kernel
theorem dX6_earn_72 : decode cX6_earn 72 = .ok (.iaload, 1) := by decide +kernel
theorem dX6_earn_73 : decode cX6_earn 73 = .ok (.iload 4, 2) := by decide +kernel
theorem dX6_earn_75 : decode cX6_earn 75 = .ok (.ishr, 1) := by decide +kernel
theorem dX6_earn_76 : decode cX6_earn 76 = .ok (.iconst 1, 1) := by decide +kernel
theorem dX6_earn_77 : decode cX6_earn 77 = .ok (.iand, 1) := by decide +kernel
theorem dX6_earn_78 : decode cX6_earn 78 = .ok (.iadd, 1) := by decide +kernel
theorem dX6_earn_79 : decode cX6_earn 79 = .ok (.istore_n 3, 1) := by decide +kernel
theorem dX6_earn_80 : decode cX6_earn 80 = .ok (.iinc 4 1, 3) := by decide +kernel
theorem dX6_earn_83 : decode cX6_earn 83 = .ok (.goto (-24), 3) := by decide +kernel
theorem dX6_earn_86 : decode cX6_earn 86 = .ok (.iload_n 3, 1) := by decide +kernel
theorem dX6_earn_87 : decode cX6_earn 87 = .ok (.ireturn, 1) := by decide +kernel
set_option maxRecDepth 20000 in
theorem ggX6_hike_X6_isIn : GoodIn wsX6_hike wsX6_isIn := goodIn_r _ [12] (by decide +kernel) (by decide +kernel)
set_option maxRecDepth 20000 in
theorem gX6_hike_X6_isIn : GoodIn wsX6_hike (va_wsS RX6 60 yX6_isIn wsX6_isIn) := goodIn_app (goodIn_of _ (by decide +kernel)) ggX6_hike_X6_isIn
set_option maxRecDepth 20000 in
theorem ggX6_hike_X6_no : GoodIn wsX6_hike wsX6_no := goodIn_r _ [16, 1, 17, 18, 19, 20, 21, 22, 23, 24, 25, 26, 27, 28, 29, 30, 31, 32, 33, 34, 35, 36, 37, 38, 39] (by decide +kernel) (by decide +kernel)
set_option maxRecDepth 20000 in
theorem gX6_hike_X6_no : GoodIn wsX6_hike (wsV RX6 79 RX6 yX6_no wsX6_no) := goodIn_app (goodIn_of _ (by decide +kernel)) ggX6_hike_X6_no
theorem dX6_hike_0 : decode cX6_hike 0 = .ok (.aload_n 0, 1) := by decide +kernel
theorem dX6_hike_1 : decode cX6_hike 1 = .ok (.iconst 0, 1) := by decide +kernel
theorem dX6_hike_2 : decode cX6_hike 2 = .ok (.putfield 53, 3) := by decide +kernel
theorem dX6_hike_5 : decode cX6_hike 5 = .ok (.lload_n 1, 1) := by decide +kernel
theorem dX6_hike_6 : decode cX6_hike 6 = .ok (.lconst 0, 1) := by decide +kernel
theorem dX6_hike_7 : decode cX6_hike 7 = .ok (.lcmp, 1) := by decide +kernel
theorem dX6_hike_8 : decode cX6_hike 8 = .ok (.ifCond .le 36, 3) := by decide +kernel
theorem dX6_hike_11 : decode cX6_hike 11 = .ok (.lload_n 1, 1) := by decide +kernel
theorem dX6_hike_12 : decode cX6_hike 12 = .ok (.aload_n 0, 1) := by decide +kernel
theorem dX6_hike_13 : decode cX6_hike 13 = .ok (.getfield 64, 3) := by decide +kernel
theorem dX6_hike_16 : decode cX6_hike 16 = .ok (.lshr, 1) := by decide +kernel
theorem dX6_hike_17 : decode cX6_hike 17 = .ok (.lconst 0, 1) := by decide +kernel
theorem dX6_hike_18 : decode cX6_hike 18 = .ok (.lcmp, 1) := by decide +kernel
theorem dX6_hike_19 : decode cX6_hike 19 = .ok (.ifCond .ne 25, 3) := by decide +kernel
theorem dX6_hike_22 : decode cX6_hike 22 = .ok (.iload_n 3, 1) := by decide +kernel
theorem dX6_hike_23 : decode cX6_hike 23 = .ok (.iconst 1, 1) := by decide +kernel
theorem dX6_hike_24 : decode cX6_hike 24 = .ok (.bipush 50, 2) := by decide +kernel
theorem dX6_hike_26 : decode cX6_hike 26 = .ok (.invokestatic 60, 3) := by decide +kernel
theorem dX6_hike_29 : decode cX6_hike 29 = .ok (.ifCond .eq 15, 3) := by decide +kernel
theorem dX6_hike_32 : decode cX6_hike 32 = .ok (.iload 4, 2) := by decide +kernel
theorem dX6_hike_34 : decode cX6_hike 34 = .ok (.iconst 0, 1) := by decide +kernel
theorem dX6_hike_35 : decode cX6_hike 35 = .ok (.sipush 3000, 3) := by decide +kernel
theorem dX6_hike_38 : decode cX6_hike 38 = .ok (.invokestatic 60, 3) := by decide +kernel
theorem dX6_hike_41 : decode cX6_hike 41 = .ok (.ifCond .ne 9, 3) := by decide +kernel
theorem dX6_hike_44 : decode cX6_hike 44 = .ok (.aload_n 0, 1) := by decide +kernel
theorem dX6_hike_45 : decode cX6_hike 45 = .ok (.iconst 1, 1) := by decide +kernel
theorem dX6_hike_46 : decode cX6_hike 46 = .ok (.invokevirtual 79, 3) := by decide +kernel
theorem dX6_hike_49 : decode cX6_hike 49 = .ok (.ireturn, 1) := by decide +kernel
theorem dX6_hike_50 : decode cX6_hike 50 = .ok (.iconst 0, 1) := by decide +kernel
theorem dX6_hike_51 : decode cX6_hike 51 = .ok (.istore 5, 2) := by decide +kernel
theorem dX6_hike_53 : decode cX6_hike 53 = .ok (.iconst 0, 1) := by decide +kernel
theorem dX6_hike_54 : decode cX6_hike 54 = .ok (.istore 6, 2) := by decide +kernel
theorem dX6_hike_56 : decode cX6_hike 56 = .ok (.iconst 0, 1) := by decide +kernel
theorem dX6_hike_57 : decode cX6_hike 57 = .ok (.istore 7, 2) := by decide +kernel
theorem dX6_hike_59 : decode cX6_hike 59 = .ok (.iconst 0, 1) := by decide +kernel
theorem dX6_hike_60 : decode cX6_hike 60 = .ok (.istore 8, 2) := by decide +kernel
theorem dX6_hike_62 : decode cX6_hike 62 = .ok (.iload 8, 2) := by decide +kernel
theorem dX6_hike_64 : decode cX6_hike 64 = .ok (.aload_n 0, 1) := by decide +kernel
theorem dX6_hike_65 : decode cX6_hike 65 = .ok (.getfield 64, 3) := by decide +kernel
