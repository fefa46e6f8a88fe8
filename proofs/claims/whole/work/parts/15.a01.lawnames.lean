set_option maxRecDepth 20000 in
theorem gL_law_X6_sleep : GoodIn wsL_law (wsV RL 130 RX6 yX6_sleep wsX6_sleep) := goodIn_app (goodIn_of _ (by decide +kernel)) ggL_law_X6_sleep
set_option maxRecDepth 20000 in
theorem ggL_law_L_inTent : GoodIn wsL_law wsL_inTent := goodIn_ca (goodIn_r _ [273, 118, 274, 275, 276, 2, 277, 21, 204, 278, 125, 126, 127, 128, 129, 808, 809, 810, 811, 812, 813, 845, 846, 847] (by decide +kernel) (by decide +kernel)) (goodIn_sub (fun _ h => List.mem_append_left _ (List.mem_append_right _ h)) (by decide +kernel))
set_option maxRecDepth 20000 in
theorem gL_law_L_inTent : GoodIn wsL_law (va_wsS RL 131 yL_inTent wsL_inTent) := goodIn_app (goodIn_of _ (by decide +kernel)) ggL_law_L_inTent
set_option maxRecDepth 20000 in
theorem ggL_law_X6_inTent : GoodIn wsL_law wsX6_inTent := goodIn_r _ [282, 105, 258, 259, 260, 5, 261, 213, 149, 150, 151, 283, 284, 285, 286, 144, 78, 814, 815, 816, 817, 818, 819, 820, 821, 822, 823, 824, 825, 826, 827, 828, 829, 830, 831, 832, 833, 834, 835, 836] (by decide +kernel) (by decide +kernel)
set_option maxRecDepth 20000 in
theorem gL_law_X6_inTent : GoodIn wsL_law (wsV RL 133 RX6 yX6_inTent wsX6_inTent) := goodIn_app (goodIn_of _ (by decide +kernel)) ggL_law_X6_inTent
set_option maxRecDepth 20000 in
theorem ggL_law_X5_findTents : GoodIn wsL_law wsX5_findTents := goodIn_r _ [290, 17, 124, 164, 21, 168, 169, 170, 20, 171, 172, 49, 291, 292, 293, 294, 295, 296, 297, 298, 16, 299, 139, 39, 300, 301, 302, 303, 228, 229, 230, 231, 232, 233, 234, 304, 225, 226, 227, 48, 235, 236, 237, 238, 239, 240, 241, 242, 243, 244, 250, 251, 252, 253, 305, 306, 307, 2, 308, 309, 310, 311, 312, 808, 809, 810, 811, 812, 813, 837, 838, 839, 840, 841, 842, 843, 844, 845, 846, 847] (by decide +kernel) (by decide +kernel)
set_option maxRecDepth 20000 in
theorem gL_law_X5_findTents : GoodIn wsL_law (wsV RL 134 RX5 yX5_findTents wsX5_findTents) := goodIn_app (goodIn_of _ (by decide +kernel)) ggL_law_X5_findTents
set_option maxRecDepth 20000 in
theorem ggL_law_X6_findTents : GoodIn wsL_law wsX6_findTents := goodIn_r _ [316, 105, 144, 75, 78, 317, 318, 319, 5, 320, 213, 74, 262, 263, 264, 265, 83, 266, 242, 243, 244, 267, 268, 269, 270, 814, 815, 816, 817, 818, 819, 820, 821, 822, 823, 824, 825, 826, 827, 828, 829, 830, 831, 832, 833, 834, 835, 836] (by decide +kernel) (by decide +kernel)
set_option maxRecDepth 20000 in
theorem gL_law_X6_findTents : GoodIn wsL_law (wsV RL 137 RX6 yX6_findTents wsX6_findTents) := goodIn_app (goodIn_of _ (by decide +kernel)) ggL_law_X6_findTents
set_option maxRecDepth 20000 in
theorem ggL_law_L_count : GoodIn wsL_law wsL_count := goodIn_ca (goodIn_r _ [323, 118, 324, 325, 326, 2, 327, 125, 126, 127, 128, 129, 328, 329, 330, 331, 17, 100, 124, 21, 204, 29, 332, 333, 33, 334, 305, 306, 307, 308, 309, 310, 311, 20, 312, 172, 49, 228, 229, 230, 231, 232, 233, 234, 808, 809, 810, 811, 812, 813, 837, 838, 839, 840, 841, 842, 843, 844, 845, 846, 847, 850, 851, 852, 853, 854, 855, 856, 857, 858] (by decide +kernel) (by decide +kernel)) (goodIn_sub (fun _ h => List.mem_append_left _ (List.mem_append_right _ h)) (by decide +kernel))
set_option maxRecDepth 20000 in
theorem gL_law_L_count : GoodIn wsL_law (va_wsS RL 138 yL_count wsL_count) := goodIn_app (goodIn_of _ (by decide +kernel)) ggL_law_L_count
set_option maxRecDepth 20000 in
theorem ggL_law_X6_count : GoodIn wsL_law wsX6_count := goodIn_r _ [338, 105, 149, 150, 5, 151, 339, 340, 341, 342, 38, 106, 144, 213, 343, 344, 345, 267, 268, 269, 270, 78, 74, 107, 108, 109, 110, 814, 815, 816, 817, 818, 819, 820, 821, 822, 823, 824, 825, 826, 827, 828, 829, 830, 831, 832, 833, 834, 835, 836] (by decide +kernel) (by decide +kernel)
set_option maxRecDepth 20000 in
theorem gL_law_X6_count : GoodIn wsL_law (wsV RL 140 RX6 yX6_count wsX6_count) := goodIn_app (goodIn_of _ (by decide +kernel)) ggL_law_X6_count
set_option maxRecDepth 20000 in
theorem ggL_law_L_giveDuty : GoodIn wsL_law wsL_giveDuty := goodIn_ca (goodIn_ca (goodIn_ca (goodIn_r _ [348, 118, 119, 93, 349, 350, 351, 2, 352, 98, 99, 17, 100, 34, 25, 125, 126, 127, 128, 129, 221, 222, 223, 130, 131, 132, 133, 134, 353, 354, 355, 24, 356, 357, 358, 359, 360, 361, 297, 298, 16, 299, 139, 39, 362, 363, 364, 365, 40, 366, 367, 368, 369, 370, 371, 372, 373, 54, 374, 375, 376, 377, 378, 55, 379, 808, 809, 810, 811, 812, 813, 837, 838, 839, 840, 841, 842, 843, 844, 848, 849] (by decide +kernel) (by decide +kernel)) (goodIn_sub (fun _ h => List.mem_append_left _ (List.mem_append_left _ (List.mem_append_right _ h))) (by decide +kernel))) (goodIn_sub (fun _ h => List.mem_append_left _ (List.mem_append_right _ h)) (by decide +kernel))) (goodIn_sub (fun _ h => List.mem_append_right _ h) (by decide +kernel))
set_option maxRecDepth 20000 in
theorem gL_law_L_giveDuty : GoodIn wsL_law (va_wsS RL 141 yL_giveDuty wsL_giveDuty) := goodIn_app (goodIn_of _ (by decide +kernel)) ggL_law_L_giveDuty
set_option maxRecDepth 20000 in
theorem ggL_law_X6_giveDuty : GoodIn wsL_law wsX6_giveDuty := goodIn_r _ [383, 105, 384, 84, 149, 150, 5, 151, 145, 146, 147, 148, 106, 107, 108, 109, 110, 385, 386, 387, 388, 389, 390, 391, 392, 144, 74, 75, 393, 394, 395, 396, 814, 815, 816, 817, 818, 819, 820, 821, 822, 823, 824, 825, 826, 827, 828, 829, 830, 831, 832, 833, 834, 835, 836] (by decide +kernel) (by decide +kernel)
set_option maxRecDepth 20000 in
theorem gL_law_X6_giveDuty : GoodIn wsL_law (wsV RL 143 RX6 yX6_giveDuty wsX6_giveDuty) := goodIn_app (goodIn_of _ (by decide +kernel)) ggL_law_X6_giveDuty
set_option maxRecDepth 20000 in
theorem ggL_law_L_duty : GoodIn wsL_law wsL_duty := goodIn_ca (goodIn_r _ [399, 118, 400, 401, 402, 2, 403, 25, 125, 126, 127, 128, 129, 374, 371, 372, 24, 373, 54, 808, 809, 810, 811, 812, 813, 848, 849] (by decide +kernel) (by decide +kernel)) (goodIn_sub (fun _ h => List.mem_append_left _ (List.mem_append_right _ h)) (by decide +kernel))
set_option maxRecDepth 20000 in
theorem gL_law_L_duty : GoodIn wsL_law (va_wsS RL 144 yL_duty wsL_duty) := goodIn_app (goodIn_of _ (by decide +kernel)) ggL_law_L_duty
set_option maxRecDepth 20000 in
theorem ggL_law_X6_duty : GoodIn wsL_law wsX6_duty := goodIn_r _ [407, 105, 149, 150, 5, 151, 393, 394, 395, 396, 84, 107, 108, 109, 110, 814, 815, 816, 817, 818, 819, 820, 821, 822, 823, 824, 825, 826, 827, 828, 829, 830, 831, 832, 833, 834, 835, 836] (by decide +kernel) (by decide +kernel)
set_option maxRecDepth 20000 in
theorem gL_law_X6_duty : GoodIn wsL_law (wsV RL 146 RX6 yX6_duty wsX6_duty) := goodIn_app (goodIn_of _ (by decide +kernel)) ggL_law_X6_duty
set_option maxRecDepth 20000 in
theorem ggL_law_L_points : GoodIn wsL_law wsL_points := goodIn_ca (goodIn_r _ [410, 118, 411, 412, 413, 2, 414, 17, 100, 25, 415, 125, 126, 127, 128, 129, 808, 809, 810, 811, 812, 813, 837, 838, 839, 840, 841, 842, 843, 844, 848, 849] (by decide +kernel) (by decide +kernel)) (goodIn_sub (fun _ h => List.mem_append_left _ (List.mem_append_right _ h)) (by decide +kernel))
