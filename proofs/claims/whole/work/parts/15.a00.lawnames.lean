set_option maxRecDepth 20000 in
theorem gL_law_X6_init : GoodIn wsL_law (wsX6_init) := ggL_law_X6_init
set_option maxRecDepth 20000 in
theorem ggL_law_L_addPatrol : GoodIn wsL_law wsL_addPatrol := goodIn_ca (goodIn_r _ [92, 93, 94, 95, 96, 2, 97, 98, 99, 17, 100, 808, 809, 810, 811, 812, 813, 837, 838, 839, 840, 841, 842, 843, 844] (by decide +kernel) (by decide +kernel)) (goodIn_sub (fun _ h => List.mem_append_left _ (List.mem_append_left _ (List.mem_append_right _ h))) (by decide +kernel))
set_option maxRecDepth 20000 in
theorem gL_law_L_addPatrol : GoodIn wsL_law (va_wsS RL 107 yL_addPatrol wsL_addPatrol) := goodIn_app (goodIn_of _ (by decide +kernel)) ggL_law_L_addPatrol
set_option maxRecDepth 20000 in
theorem ggL_law_X6_addPatrol : GoodIn wsL_law wsX6_addPatrol := goodIn_r _ [104, 105, 106, 107, 108, 109, 5, 110, 814, 815, 816, 817, 818, 819, 820, 821, 822, 823, 824, 825, 826, 827, 828, 829, 830, 831, 832, 833, 834, 835, 836] (by decide +kernel) (by decide +kernel)
set_option maxRecDepth 20000 in
theorem gL_law_X6_addPatrol : GoodIn wsL_law (wsV RL 112 RX6 yX6_addPatrol wsX6_addPatrol) := goodIn_app (goodIn_of _ (by decide +kernel)) ggL_law_X6_addPatrol
set_option maxRecDepth 20000 in
theorem ggL_law_X6_thrown : GoodIn wsL_law wsX6_thrown := goodIn_r _ [114, 105, 814, 815, 816, 817, 818, 819, 820, 821, 822, 823, 824, 825, 826, 827, 828, 829, 830, 831, 832, 833, 834, 835, 836] (by decide +kernel) (by decide +kernel)
set_option maxRecDepth 20000 in
theorem gL_law_X6_thrown : GoodIn wsL_law (wsV RL 113 RX6 yX6_thrown wsX6_thrown) := goodIn_app (goodIn_of _ (by decide +kernel)) ggL_law_X6_thrown
set_option maxRecDepth 20000 in
theorem ggL_law_L_addScout : GoodIn wsL_law wsL_addScout := goodIn_ca (goodIn_ca (goodIn_ca (goodIn_r _ [117, 118, 119, 93, 120, 121, 122, 2, 123, 98, 99, 17, 100, 124, 125, 126, 127, 128, 129, 130, 131, 132, 133, 134, 135, 136, 137, 16, 138, 139, 39, 40, 41, 808, 809, 810, 811, 812, 813, 837, 838, 839, 840, 841, 842, 843, 844] (by decide +kernel) (by decide +kernel)) (goodIn_sub (fun _ h => List.mem_append_left _ (List.mem_append_left _ (List.mem_append_right _ h))) (by decide +kernel))) (goodIn_sub (fun _ h => List.mem_append_left _ (List.mem_append_right _ h)) (by decide +kernel))) (goodIn_sub (fun _ h => List.mem_append_right _ h) (by decide +kernel))
set_option maxRecDepth 20000 in
theorem gL_law_L_addScout : GoodIn wsL_law (va_wsS RL 116 yL_addScout wsL_addScout) := goodIn_app (goodIn_of _ (by decide +kernel)) ggL_law_L_addScout
set_option maxRecDepth 20000 in
theorem ggL_law_X6_addScout : GoodIn wsL_law wsX6_addScout := goodIn_r _ [143, 105, 144, 74, 75, 76, 78, 145, 146, 147, 5, 148, 106, 149, 150, 151, 107, 108, 109, 110, 814, 815, 816, 817, 818, 819, 820, 821, 822, 823, 824, 825, 826, 827, 828, 829, 830, 831, 832, 833, 834, 835, 836] (by decide +kernel) (by decide +kernel)
set_option maxRecDepth 20000 in
theorem gL_law_X6_addScout : GoodIn wsL_law (wsV RL 119 RX6 yX6_addScout wsX6_addScout) := goodIn_app (goodIn_of _ (by decide +kernel)) ggL_law_X6_addScout
set_option maxRecDepth 20000 in
theorem ggL_law_L_scout : GoodIn wsL_law wsL_scout := goodIn_ca (goodIn_r _ [154, 118, 155, 156, 157, 2, 158, 17, 124, 125, 126, 127, 128, 129, 159, 160, 161, 162, 163, 164, 165, 166, 21, 167, 168, 169, 170, 20, 171, 172, 49, 173, 174, 175, 16, 176, 177, 178, 179, 180, 44, 808, 809, 810, 811, 812, 813, 837, 838, 839, 840, 841, 842, 843, 844, 845, 846, 847] (by decide +kernel) (by decide +kernel)) (goodIn_sub (fun _ h => List.mem_append_left _ (List.mem_append_right _ h)) (by decide +kernel))
set_option maxRecDepth 20000 in
theorem gL_law_L_scout : GoodIn wsL_law (va_wsS RL 120 yL_scout wsL_scout) := goodIn_app (goodIn_of _ (by decide +kernel)) ggL_law_L_scout
set_option maxRecDepth 20000 in
theorem ggL_law_X6_scout : GoodIn wsL_law wsX6_scout := goodIn_r _ [184, 105, 185, 186, 187, 5, 188, 144, 149, 150, 151, 189, 190, 191, 192, 38, 74, 75, 76, 77, 78, 79, 193, 194, 195, 196, 80, 107, 108, 109, 110, 814, 815, 816, 817, 818, 819, 820, 821, 822, 823, 824, 825, 826, 827, 828, 829, 830, 831, 832, 833, 834, 835, 836] (by decide +kernel) (by decide +kernel)
set_option maxRecDepth 20000 in
theorem gL_law_X6_scout : GoodIn wsL_law (wsV RL 123 RX6 yX6_scout wsX6_scout) := goodIn_app (goodIn_of _ (by decide +kernel)) ggL_law_X6_scout
set_option maxRecDepth 20000 in
theorem ggL_law_L_addTent : GoodIn wsL_law wsL_addTent := goodIn_ca (goodIn_ca (goodIn_r _ [199, 119, 93, 200, 201, 202, 2, 203, 98, 99, 21, 204, 130, 131, 132, 133, 134, 205, 206, 207, 20, 208, 172, 48, 808, 809, 810, 811, 812, 813, 845, 846, 847] (by decide +kernel) (by decide +kernel)) (goodIn_sub (fun _ h => List.mem_append_left _ (List.mem_append_left _ (List.mem_append_right _ h))) (by decide +kernel))) (goodIn_sub (fun _ h => List.mem_append_right _ h) (by decide +kernel))
set_option maxRecDepth 20000 in
theorem gL_law_L_addTent : GoodIn wsL_law (va_wsS RL 124 yL_addTent wsL_addTent) := goodIn_app (goodIn_of _ (by decide +kernel)) ggL_law_L_addTent
set_option maxRecDepth 20000 in
theorem ggL_law_X6_addTent : GoodIn wsL_law wsX6_addTent := goodIn_r _ [212, 105, 213, 83, 149, 150, 5, 151, 107, 108, 109, 110, 814, 815, 816, 817, 818, 819, 820, 821, 822, 823, 824, 825, 826, 827, 828, 829, 830, 831, 832, 833, 834, 835, 836] (by decide +kernel) (by decide +kernel)
set_option maxRecDepth 20000 in
theorem gL_law_X6_addTent : GoodIn wsL_law (wsV RL 127 RX6 yX6_addTent wsX6_addTent) := goodIn_app (goodIn_of _ (by decide +kernel)) ggL_law_X6_addTent
set_option maxRecDepth 20000 in
theorem ggL_law_L_sleep : GoodIn wsL_law wsL_sleep := goodIn_ca (goodIn_ca (goodIn_r _ [216, 118, 93, 217, 218, 219, 2, 220, 98, 99, 17, 124, 21, 204, 125, 126, 127, 128, 129, 221, 222, 223, 168, 169, 170, 20, 171, 172, 49, 224, 225, 226, 227, 48, 228, 229, 230, 231, 232, 233, 234, 235, 236, 237, 238, 239, 240, 241, 242, 243, 244, 245, 246, 247, 248, 249, 250, 251, 252, 253, 808, 809, 810, 811, 812, 813, 837, 838, 839, 840, 841, 842, 843, 844, 845, 846, 847] (by decide +kernel) (by decide +kernel)) (goodIn_sub (fun _ h => List.mem_append_left _ (List.mem_append_left _ (List.mem_append_right _ h))) (by decide +kernel))) (goodIn_sub (fun _ h => List.mem_append_left _ (List.mem_append_right _ h)) (by decide +kernel))
set_option maxRecDepth 20000 in
theorem gL_law_L_sleep : GoodIn wsL_law (va_wsS RL 128 yL_sleep wsL_sleep) := goodIn_app (goodIn_of _ (by decide +kernel)) ggL_law_L_sleep
set_option maxRecDepth 20000 in
theorem ggL_law_X6_sleep : GoodIn wsL_law wsX6_sleep := goodIn_r _ [257, 105, 78, 185, 186, 187, 5, 188, 144, 149, 150, 151, 258, 259, 260, 261, 213, 107, 108, 109, 110, 262, 263, 264, 265, 83, 75, 266, 242, 243, 244, 267, 268, 269, 270, 74, 814, 815, 816, 817, 818, 819, 820, 821, 822, 823, 824, 825, 826, 827, 828, 829, 830, 831, 832, 833, 834, 835, 836] (by decide +kernel) (by decide +kernel)
