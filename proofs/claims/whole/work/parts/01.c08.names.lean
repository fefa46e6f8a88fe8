set_option maxRecDepth 20000 in
theorem gL_law_X6_init : GoodIn wsL_law (wsX6_init) := ggL_law_X6_init
set_option maxRecDepth 20000 in
theorem ggL_law_L_addPatrol : GoodIn wsL_law wsL_addPatrol := goodIn_ca (goodIn_r _ [92, 93, 94, 95, 96, 2, 97, 98, 99, 17, 100, 808, 809, 810, 811, 812, 813, 837, 838, 839, 840, 841, 842, 843, 844] (by decide +kernel) (by decide +kernel)) (goodIn_sub (fun _ h => List.mem_append_left _ (List.mem_append_left _ (List.mem_append_right _ h))) (by decide +kernel))
set_option maxRecDepth 20000 in
theorem gL_law_L_addPatrol : GoodIn wsL_law (va_wsS RL 107 yL_addPatrol wsL_addPatrol) := goodIn_app (goodIn_of _ (by decide +kernel)) ggL_law_L_addPatrol
set_option maxRecDepth 20000 in
theorem ggL_law_X6_addPatrol : GoodIn wsL_law wsX6_addPatrol := goodIn_r _ [104, 105, 106, 107, 108, 109, 5, 110, 814, 815, 816, 817, 818, 819, 820, 821, 822, 823, 824, 825, 826, 827, 828, 829, 830, 831, 832, 833, 834, 835, 836] (by decide +kernel) (by decide +kernel)
set_option maxRecDepth 20000 in
theorem gL_law_X6_addPatrol : GoodIn wsL_law (wsV RL 112 RX6 yX6_addPatrol wsX6_addPatrol) := goodIn_app (goodIn_of _ (by decide +kernel)) ggL_law_X6_addPatrol
set_option maxRecDepth 20000 in
theorem ggL_law_X6_thrown : GoodIn wsL_law wsX6_thrown := goodIn_r _ [114, 105, 814, 815, 816, 817, 818, 819, 820, 821, 822, 823, 824, 825, 826, 827, 828, 829, 830, 831, 832, 833, 834, 835, 836] (by decide +kernel) (by decide +kernel)
set_option maxRecDepth 20000 in
theorem gL_law_X6_thrown : GoodIn wsL_law (wsV RL 113 RX6 yX6_thrown wsX6_thrown) := goodIn_app (goodIn_of _ (by decide +kernel)) ggL_law_X6_thrown
set_option maxRecDepth 20000 in
theorem ggL_law_L_addScout : GoodIn wsL_law wsL_addScout := goodIn_ca (goodIn_ca (goodIn_ca (goodIn_r _ [117, 118, 119, 93, 120, 121, 122, 2, 123, 98, 99, 17, 100, 124, 125, 126, 127, 128, 129, 130, 131, 132, 133, 134, 135, 136, 137, 16, 138, 139, 39, 40, 41, 808, 809, 810, 811, 812, 813, 837, 838, 839, 840, 841, 842, 843, 844] (by decide +kernel) (by decide +kernel)) (goodIn_sub (fun _ h => List.mem_append_left _ (List.mem_append_left _ (List.mem_append_right _ h))) (by decide +kernel))) (goodIn_sub (fun _ h => List.mem_append_left _ (List.mem_append_right _ h)) (by decide +kernel))) (goodIn_sub (fun _ h => List.mem_append_right _ h) (by decide +kernel))
set_option maxRecDepth 20000 in
theorem gL_law_L_addScout : GoodIn wsL_law (va_wsS RL 116 yL_addScout wsL_addScout) := goodIn_app (goodIn_of _ (by decide +kernel)) ggL_law_L_addScout
set_option maxRecDepth 20000 in
theorem ggL_law_X6_addScout : GoodIn wsL_law wsX6_addScout := goodIn_r _ [143, 105, 144, 74, 75, 76, 78, 145, 146, 147, 5, 148, 106, 149, 150, 151, 107, 108, 109, 110, 814, 815, 816, 817, 818, 819, 820, 821, 822, 823, 824, 825, 826, 827, 828, 829, 830, 831, 832, 833, 834, 835, 836] (by decide +kernel) (by decide +kernel)
set_option maxRecDepth 20000 in
theorem gL_law_X6_addScout : GoodIn wsL_law (wsV RL 119 RX6 yX6_addScout wsX6_addScout) := goodIn_app (goodIn_of _ (by decide +kernel)) ggL_law_X6_addScout
set_option maxRecDepth 20000 in
theorem ggL_law_L_scout : GoodIn wsL_law wsL_scout := goodIn_ca (goodIn_r _ [154, 118, 155, 156, 157, 2, 158, 17, 124, 125, 126, 127, 128, 129, 159, 160, 161, 162, 163, 164, 165, 166, 21, 167, 168, 169, 170, 20, 171, 172, 49, 173, 174, 175, 16, 176, 177, 178, 179, 180, 44, 808, 809, 810, 811, 812, 813, 837, 838, 839, 840, 841, 842, 843, 844, 845, 846, 847] (by decide +kernel) (by decide +kernel)) (goodIn_sub (fun _ h => List.mem_append_left _ (List.mem_append_right _ h)) (by decide +kernel))
set_option maxRecDepth 20000 in
theorem gL_law_L_scout : GoodIn wsL_law (va_wsS RL 120 yL_scout wsL_scout) := goodIn_app (goodIn_of _ (by decide +kernel)) ggL_law_L_scout
set_option maxRecDepth 20000 in
theorem ggL_law_X6_scout : GoodIn wsL_law wsX6_scout := goodIn_r _ [184, 105, 185, 186, 187, 5, 188, 144, 149, 150, 151, 189, 190, 191, 192, 38, 74, 75, 76, 77, 78, 79, 193, 194, 195, 196, 80, 107, 108, 109, 110, 814, 815, 816, 817, 818, 819, 820, 821, 822, 823, 824, 825, 826, 827, 828, 829, 830, 831, 832, 833, 834, 835, 836] (by decide +kernel) (by decide +kernel)
set_option maxRecDepth 20000 in
theorem gL_law_X6_scout : GoodIn wsL_law (wsV RL 123 RX6 yX6_scout wsX6_scout) := goodIn_app (goodIn_of _ (by decide +kernel)) ggL_law_X6_scout
set_option maxRecDepth 20000 in
theorem ggL_law_L_addTent : GoodIn wsL_law wsL_addTent := goodIn_ca (goodIn_ca (goodIn_r _ [199, 119, 93, 200, 201, 202, 2, 203, 98, 99, 21, 204, 130, 131, 132, 133, 134, 205, 206, 207, 20, 208, 172, 48, 808, 809, 810, 811, 812, 813, 845, 846, 847] (by decide +kernel) (by decide +kernel)) (goodIn_sub (fun _ h => List.mem_append_left _ (List.mem_append_left _ (List.mem_append_right _ h))) (by decide +kernel))) (goodIn_sub (fun _ h => List.mem_append_right _ h) (by decide +kernel))
set_option maxRecDepth 20000 in
theorem gL_law_L_addTent : GoodIn wsL_law (va_wsS RL 124 yL_addTent wsL_addTent) := goodIn_app (goodIn_of _ (by decide +kernel)) ggL_law_L_addTent
set_option maxRecDepth 20000 in
theorem ggL_law_X6_addTent : GoodIn wsL_law wsX6_addTent := goodIn_r _ [212, 105, 213, 83, 149, 150, 5, 151, 107, 108, 109, 110, 814, 815, 816, 817, 818, 819, 820, 821, 822, 823, 824, 825, 826, 827, 828, 829, 830, 831, 832, 833, 834, 835, 836] (by decide +kernel) (by decide +kernel)
set_option maxRecDepth 20000 in
theorem gL_law_X6_addTent : GoodIn wsL_law (wsV RL 127 RX6 yX6_addTent wsX6_addTent) := goodIn_app (goodIn_of _ (by decide +kernel)) ggL_law_X6_addTent
set_option maxRecDepth 20000 in
theorem ggL_law_L_sleep : GoodIn wsL_law wsL_sleep := goodIn_ca (goodIn_ca (goodIn_r _ [216, 118, 93, 217, 218, 219, 2, 220, 98, 99, 17, 124, 21, 204, 125, 126, 127, 128, 129, 221, 222, 223, 168, 169, 170, 20, 171, 172, 49, 224, 225, 226, 227, 48, 228, 229, 230, 231, 232, 233, 234, 235, 236, 237, 238, 239, 240, 241, 242, 243, 244, 245, 246, 247, 248, 249, 250, 251, 252, 253, 808, 809, 810, 811, 812, 813, 837, 838, 839, 840, 841, 842, 843, 844, 845, 846, 847] (by decide +kernel) (by decide +kernel)) (goodIn_sub (fun _ h => List.mem_append_left _ (List.mem_append_left _ (List.mem_append_right _ h))) (by decide +kernel))) (goodIn_sub (fun _ h => List.mem_append_left _ (List.mem_append_right _ h)) (by decide +kernel))
set_option maxRecDepth 20000 in
theorem gL_law_L_sleep : GoodIn wsL_law (va_wsS RL 128 yL_sleep wsL_sleep) := goodIn_app (goodIn_of _ (by decide +kernel)) ggL_law_L_sleep
set_option maxRecDepth 20000 in
theorem ggL_law_X6_sleep : GoodIn wsL_law wsX6_sleep := goodIn_r _ [257, 105, 78, 185, 186, 187, 5, 188, 144, 149, 150, 151, 258, 259, 260, 261, 213, 107, 108, 109, 110, 262, 263, 264, 265, 83, 75, 266, 242, 243, 244, 267, 268, 269, 270, 74, 814, 815, 816, 817, 818, 819, 820, 821, 822, 823, 824, 825, 826, 827, 828, 829, 830, 831, 832, 833, 834, 835, 836] (by decide +kernel) (by decide +kernel)
set_option maxRecDepth 20000 in
theorem gL_law_X6_sleep : GoodIn wsL_law (wsV RL 130 RX6 yX6_sleep wsX6_sleep) := goodIn_app (goodIn_of _ (by decide +kernel)) ggL_law_X6_sleep
set_option maxRecDepth 20000 in
theorem ggL_law_L_inTent : GoodIn wsL_law wsL_inTent := goodIn_ca (goodIn_r _ [273, 118, 274, 275, 276, 2, 277, 21, 204, 278, 125, 126, 127, 128, 129, 808, 809, 810, 811, 812, 813, 845, 846, 847] (by decide +kernel) (by decide +kernel)) (goodIn_sub (fun _ h => List.mem_append_left _ (List.mem_append_right _ h)) (by decide +kernel))
set_option maxRecDepth 20000 in
theorem gL_law_L_inTent : GoodIn wsL_law (va_wsS RL 131 yL_inTent wsL_inTent) := goodIn_app (goodIn_of _ (by decide +kernel)) ggL_law_L_inTent
set_option maxRecDepth 20000 in
theorem ggL_law_X6_inTent : GoodIn wsL_law wsX6_inTent := goodIn_r _ [282, 105, 258, 259, 260, 5, 261, 213, 149, 150, 151, 283, 284, 285, 286, 144, 78, 814, 815, 816, 817, 818, 819, 820, 821, 822, 823, 824, 825, 826, 827, 828, 829, 830, 831, 832, 833, 834, 835, 836] (by decide +kernel) (by decide +kernel)
set_option maxRecDepth 20000 in
theorem gL_law_X6_inTent : GoodIn wsL_law (wsV RL 133 RX6 yX6_inTent wsX6_inTent) := goodIn_app (goodIn_of _ (by decide +kernel)) ggL_law_X6_inTent
set_option maxRecDepth 20000 in
theorem ggL_law_X5_findTents : GoodIn wsL_law wsX5_findTents := goodIn_r _ [290, 17, 124, 164, 21, 168, 169, 170, 20, 171, 172, 49, 291, 292, 293, 294, 295, 296, 297, 298, 16, 299, 139, 39, 300, 301, 302, 303, 228, 229, 230, 231, 232, 233, 234, 304, 225, 226, 227, 48, 235, 236, 237, 238, 239, 240, 241, 242, 243, 244, 250, 251, 252, 253, 305, 306, 307, 2, 308, 309, 310, 311, 312, 808, 809, 810, 811, 812, 813, 837, 838, 839, 840, 841, 842, 843, 844, 845, 846, 847] (by decide +kernel) (by decide +kernel)
set_option maxRecDepth 20000 in
theorem gL_law_X5_findTents : GoodIn wsL_law (wsV RL 134 RX5 yX5_findTents wsX5_findTents) := goodIn_app (goodIn_of _ (by decide +kernel)) ggL_law_X5_findTents
set_option maxRecDepth 20000 in
theorem ggL_law_X6_findTents : GoodIn wsL_law wsX6_findTents := goodIn_r _ [316, 105, 144, 75, 78, 317, 318, 319, 5, 320, 213, 74, 262, 263, 264, 265, 83, 266, 242, 243, 244, 267, 268, 269, 270, 814, 815, 816, 817, 818, 819, 820, 821, 822, 823, 824, 825, 826, 827, 828, 829, 830, 831, 832, 833, 834, 835, 836] (by decide +kernel) (by decide +kernel)
set_option maxRecDepth 20000 in
theorem gL_law_X6_findTents : GoodIn wsL_law (wsV RL 137 RX6 yX6_findTents wsX6_findTents) := goodIn_app (goodIn_of _ (by decide +kernel)) ggL_law_X6_findTents
set_option maxRecDepth 20000 in
theorem ggL_law_L_count : GoodIn wsL_law wsL_count := goodIn_ca (goodIn_r _ [323, 118, 324, 325, 326, 2, 327, 125, 126, 127, 128, 129, 328, 329, 330, 331, 17, 100, 124, 21, 204, 29, 332, 333, 33, 334, 305, 306, 307, 308, 309, 310, 311, 20, 312, 172, 49, 228, 229, 230, 231, 232, 233, 234, 808, 809, 810, 811, 812, 813, 837, 838, 839, 840, 841, 842, 843, 844, 845, 846, 847, 850, 851, 852, 853, 854, 855, 856, 857, 858] (by decide +kernel) (by decide +kernel)) (goodIn_sub (fun _ h => List.mem_append_left _ (List.mem_append_right _ h)) (by decide +kernel))
set_option maxRecDepth 20000 in
theorem gL_law_L_count : GoodIn wsL_law (va_wsS RL 138 yL_count wsL_count) := goodIn_app (goodIn_of _ (by decide +kernel)) ggL_law_L_count
set_option maxRecDepth 20000 in
theorem ggL_law_X6_count : GoodIn wsL_law wsX6_count := goodIn_r _ [338, 105, 149, 150, 5, 151, 339, 340, 341, 342, 38, 106, 144, 213, 343, 344, 345, 267, 268, 269, 270, 78, 74, 107, 108, 109, 110, 814, 815, 816, 817, 818, 819, 820, 821, 822, 823, 824, 825, 826, 827, 828, 829, 830, 831, 832, 833, 834, 835, 836] (by decide +kernel) (by decide +kernel)
set_option maxRecDepth 20000 in
theorem gL_law_X6_count : GoodIn wsL_law (wsV RL 140 RX6 yX6_count wsX6_count) := goodIn_app (goodIn_of _ (by decide +kernel)) ggL_law_X6_count
set_option maxRecDepth 20000 in
theorem ggL_law_L_giveDuty : GoodIn wsL_law wsL_giveDuty := goodIn_ca (goodIn_ca (goodIn_ca (goodIn_r _ [348, 118, 119, 93, 349, 350, 351, 2, 352, 98, 99, 17, 100, 34, 25, 125, 126, 127, 128, 129, 221, 222, 223, 130, 131, 132, 133, 134, 353, 354, 355, 24, 356, 357, 358, 359, 360, 361, 297, 298, 16, 299, 139, 39, 362, 363, 364, 365, 40, 366, 367, 368, 369, 370, 371, 372, 373, 54, 374, 375, 376, 377, 378, 55, 379, 808, 809, 810, 811, 812, 813, 837, 838, 839, 840, 841, 842, 843, 844, 848, 849] (by decide +kernel) (by decide +kernel)) (goodIn_sub (fun _ h => List.mem_append_left _ (List.mem_append_left _ (List.mem_append_right _ h))) (by decide +kernel))) (goodIn_sub (fun _ h => List.mem_append_left _ (List.mem_append_right _ h)) (by decide +kernel))) (goodIn_sub (fun _ h => List.mem_append_right _ h) (by decide +kernel))
set_option maxRecDepth 20000 in
theorem gL_law_L_giveDuty : GoodIn wsL_law (va_wsS RL 141 yL_giveDuty wsL_giveDuty) := goodIn_app (goodIn_of _ (by decide +kernel)) ggL_law_L_giveDuty
set_option maxRecDepth 20000 in
theorem ggL_law_X6_giveDuty : GoodIn wsL_law wsX6_giveDuty := goodIn_r _ [383, 105, 384, 84, 149, 150, 5, 151, 145, 146, 147, 148, 106, 107, 108, 109, 110, 385, 386, 387, 388, 389, 390, 391, 392, 144, 74, 75, 393, 394, 395, 396, 814, 815, 816, 817, 818, 819, 820, 821, 822, 823, 824, 825, 826, 827, 828, 829, 830, 831, 832, 833, 834, 835, 836] (by decide +kernel) (by decide +kernel)
set_option maxRecDepth 20000 in
theorem gL_law_X6_giveDuty : GoodIn wsL_law (wsV RL 143 RX6 yX6_giveDuty wsX6_giveDuty) := goodIn_app (goodIn_of _ (by decide +kernel)) ggL_law_X6_giveDuty
set_option maxRecDepth 20000 in
theorem ggL_law_L_duty : GoodIn wsL_law wsL_duty := goodIn_ca (goodIn_r _ [399, 118, 400, 401, 402, 2, 403, 25, 125, 126, 127, 128, 129, 374, 371, 372, 24, 373, 54, 808, 809, 810, 811, 812, 813, 848, 849] (by decide +kernel) (by decide +kernel)) (goodIn_sub (fun _ h => List.mem_append_left _ (List.mem_append_right _ h)) (by decide +kernel))
set_option maxRecDepth 20000 in
theorem gL_law_L_duty : GoodIn wsL_law (va_wsS RL 144 yL_duty wsL_duty) := goodIn_app (goodIn_of _ (by decide +kernel)) ggL_law_L_duty
set_option maxRecDepth 20000 in
theorem ggL_law_X6_duty : GoodIn wsL_law wsX6_duty := goodIn_r _ [407, 105, 149, 150, 5, 151, 393, 394, 395, 396, 84, 107, 108, 109, 110, 814, 815, 816, 817, 818, 819, 820, 821, 822, 823, 824, 825, 826, 827, 828, 829, 830, 831, 832, 833, 834, 835, 836] (by decide +kernel) (by decide +kernel)
set_option maxRecDepth 20000 in
theorem gL_law_X6_duty : GoodIn wsL_law (wsV RL 146 RX6 yX6_duty wsX6_duty) := goodIn_app (goodIn_of _ (by decide +kernel)) ggL_law_X6_duty
set_option maxRecDepth 20000 in
theorem ggL_law_L_points : GoodIn wsL_law wsL_points := goodIn_ca (goodIn_r _ [410, 118, 411, 412, 413, 2, 414, 17, 100, 25, 415, 125, 126, 127, 128, 129, 808, 809, 810, 811, 812, 813, 837, 838, 839, 840, 841, 842, 843, 844, 848, 849] (by decide +kernel) (by decide +kernel)) (goodIn_sub (fun _ h => List.mem_append_left _ (List.mem_append_right _ h)) (by decide +kernel))
set_option maxRecDepth 20000 in
theorem gL_law_L_points : GoodIn wsL_law (va_wsS RL 147 yL_points wsL_points) := goodIn_app (goodIn_of _ (by decide +kernel)) ggL_law_L_points
set_option maxRecDepth 20000 in
theorem ggL_law_X6_points : GoodIn wsL_law wsX6_points := goodIn_r _ [419, 105, 145, 146, 147, 5, 148, 106, 149, 150, 151, 420, 421, 422, 423, 38, 84, 107, 108, 109, 110, 814, 815, 816, 817, 818, 819, 820, 821, 822, 823, 824, 825, 826, 827, 828, 829, 830, 831, 832, 833, 834, 835, 836] (by decide +kernel) (by decide +kernel)
set_option maxRecDepth 20000 in
theorem gL_law_X6_points : GoodIn wsL_law (wsV RL 149 RX6 yX6_points wsX6_points) := goodIn_app (goodIn_of _ (by decide +kernel)) ggL_law_X6_points
set_option maxRecDepth 20000 in
theorem ggL_law_X5_findDuties : GoodIn wsL_law wsX5_findDuties := goodIn_r _ [427, 25, 34, 17, 374, 371, 372, 24, 373, 54, 428, 429, 430, 431, 432, 55, 433, 354, 355, 356, 357, 358, 359, 360, 361, 297, 298, 16, 299, 139, 39, 362, 363, 364, 365, 40, 366, 367, 368, 369, 370, 375, 376, 377, 378, 379, 434, 435, 436, 437, 808, 809, 810, 811, 812, 813, 848, 849, 837, 838, 839, 840, 841, 842, 843, 844] (by decide +kernel) (by decide +kernel)
set_option maxRecDepth 20000 in
theorem gL_law_X5_findDuties : GoodIn wsL_law (wsV RL 150 RX5 yX5_findDuties wsX5_findDuties) := goodIn_app (goodIn_of _ (by decide +kernel)) ggL_law_X5_findDuties
set_option maxRecDepth 20000 in
theorem ggL_law_X6_findDuties : GoodIn wsL_law wsX6_findDuties := goodIn_r _ [441, 105, 38, 384, 106, 84, 393, 394, 395, 5, 396, 149, 150, 151, 385, 386, 387, 388, 389, 390, 391, 392, 144, 74, 75, 420, 421, 422, 423, 814, 815, 816, 817, 818, 819, 820, 821, 822, 823, 824, 825, 826, 827, 828, 829, 830, 831, 832, 833, 834, 835, 836] (by decide +kernel) (by decide +kernel)
set_option maxRecDepth 20000 in
theorem gL_law_X6_findDuties : GoodIn wsL_law (wsV RL 153 RX6 yX6_findDuties wsX6_findDuties) := goodIn_app (goodIn_of _ (by decide +kernel)) ggL_law_X6_findDuties
set_option maxRecDepth 20000 in
theorem ggL_law_L_addFood : GoodIn wsL_law wsL_addFood := goodIn_ca (goodIn_ca (goodIn_r _ [444, 119, 93, 445, 446, 447, 2, 448, 98, 99, 29, 332, 449, 130, 131, 132, 133, 134, 808, 809, 810, 811, 812, 813, 850, 851, 852, 853, 854, 855] (by decide +kernel) (by decide +kernel)) (goodIn_sub (fun _ h => List.mem_append_left _ (List.mem_append_left _ (List.mem_append_right _ h))) (by decide +kernel))) (goodIn_sub (fun _ h => List.mem_append_right _ h) (by decide +kernel))
set_option maxRecDepth 20000 in
theorem gL_law_L_addFood : GoodIn wsL_law (va_wsS RL 154 yL_addFood wsL_addFood) := goodIn_app (goodIn_of _ (by decide +kernel)) ggL_law_L_addFood
set_option maxRecDepth 20000 in
theorem ggL_law_X6_addFood : GoodIn wsL_law wsX6_addFood := goodIn_r _ [453, 105, 343, 85, 149, 150, 5, 151, 107, 108, 109, 110, 814, 815, 816, 817, 818, 819, 820, 821, 822, 823, 824, 825, 826, 827, 828, 829, 830, 831, 832, 833, 834, 835, 836] (by decide +kernel) (by decide +kernel)
set_option maxRecDepth 20000 in
theorem gL_law_X6_addFood : GoodIn wsL_law (wsV RL 156 RX6 yX6_addFood wsX6_addFood) := goodIn_app (goodIn_of _ (by decide +kernel)) ggL_law_X6_addFood
set_option maxRecDepth 20000 in
theorem ggL_law_L_buy : GoodIn wsL_law wsL_buy := goodIn_ca (goodIn_ca (goodIn_ca (goodIn_r _ [456, 118, 119, 93, 457, 458, 459, 2, 460, 98, 99, 29, 332, 449, 125, 126, 127, 128, 129, 130, 131, 132, 133, 134, 808, 809, 810, 811, 812, 813, 850, 851, 852, 853, 854, 855] (by decide +kernel) (by decide +kernel)) (goodIn_sub (fun _ h => List.mem_append_left _ (List.mem_append_left _ (List.mem_append_right _ h))) (by decide +kernel))) (goodIn_sub (fun _ h => List.mem_append_left _ (List.mem_append_right _ h)) (by decide +kernel))) (goodIn_sub (fun _ h => List.mem_append_right _ h) (by decide +kernel))
set_option maxRecDepth 20000 in
theorem gL_law_L_buy : GoodIn wsL_law (va_wsS RL 157 yL_buy wsL_buy) := goodIn_app (goodIn_of _ (by decide +kernel)) ggL_law_L_buy
set_option maxRecDepth 20000 in
theorem ggL_law_X6_buy : GoodIn wsL_law wsX6_buy := goodIn_r _ [464, 105, 85, 465, 466, 467, 5, 468, 343, 149, 150, 151, 107, 108, 109, 110, 814, 815, 816, 817, 818, 819, 820, 821, 822, 823, 824, 825, 826, 827, 828, 829, 830, 831, 832, 833, 834, 835, 836] (by decide +kernel) (by decide +kernel)
set_option maxRecDepth 20000 in
theorem gL_law_X6_buy : GoodIn wsL_law (wsV RL 159 RX6 yX6_buy wsX6_buy) := goodIn_app (goodIn_of _ (by decide +kernel)) ggL_law_X6_buy
set_option maxRecDepth 20000 in
theorem ggL_law_L_store : GoodIn wsL_law wsL_store := goodIn_ca (goodIn_r _ [471, 118, 472, 473, 474, 2, 475, 29, 332, 449, 125, 126, 127, 128, 129, 808, 809, 810, 811, 812, 813, 850, 851, 852, 853, 854, 855] (by decide +kernel) (by decide +kernel)) (goodIn_sub (fun _ h => List.mem_append_left _ (List.mem_append_right _ h)) (by decide +kernel))
set_option maxRecDepth 20000 in
theorem gL_law_L_store : GoodIn wsL_law (va_wsS RL 160 yL_store wsL_store) := goodIn_app (goodIn_of _ (by decide +kernel)) ggL_law_L_store
set_option maxRecDepth 20000 in
theorem ggL_law_X6_store : GoodIn wsL_law wsX6_store := goodIn_r _ [479, 105, 85, 465, 466, 467, 5, 468, 343, 149, 150, 151, 107, 108, 109, 110, 814, 815, 816, 817, 818, 819, 820, 821, 822, 823, 824, 825, 826, 827, 828, 829, 830, 831, 832, 833, 834, 835, 836] (by decide +kernel) (by decide +kernel)
set_option maxRecDepth 20000 in
theorem gL_law_X6_store : GoodIn wsL_law (wsV RL 162 RX6 yX6_store wsX6_store) := goodIn_app (goodIn_of _ (by decide +kernel)) ggL_law_X6_store
set_option maxRecDepth 20000 in
theorem ggL_law_L_diet : GoodIn wsL_law wsL_diet := goodIn_ca (goodIn_r _ [482, 118, 483, 484, 485, 2, 486, 17, 124, 29, 332, 166, 125, 126, 127, 128, 129, 808, 809, 810, 811, 812, 813, 837, 838, 839, 840, 841, 842, 843, 844, 850, 851, 852, 853, 854, 855] (by decide +kernel) (by decide +kernel)) (goodIn_sub (fun _ h => List.mem_append_left _ (List.mem_append_right _ h)) (by decide +kernel))
set_option maxRecDepth 20000 in
theorem gL_law_L_diet : GoodIn wsL_law (va_wsS RL 163 yL_diet wsL_diet) := goodIn_app (goodIn_of _ (by decide +kernel)) ggL_law_L_diet
set_option maxRecDepth 20000 in
theorem ggL_law_X6_diet : GoodIn wsL_law wsX6_diet := goodIn_r _ [490, 105, 77, 185, 186, 187, 5, 188, 144, 149, 150, 151, 465, 466, 467, 468, 343, 814, 815, 816, 817, 818, 819, 820, 821, 822, 823, 824, 825, 826, 827, 828, 829, 830, 831, 832, 833, 834, 835, 836] (by decide +kernel) (by decide +kernel)
set_option maxRecDepth 20000 in
theorem gL_law_X6_diet : GoodIn wsL_law (wsV RL 166 RX6 yX6_diet wsX6_diet) := goodIn_app (goodIn_of _ (by decide +kernel)) ggL_law_X6_diet
set_option maxRecDepth 20000 in
theorem ggL_law_L_addMeal : GoodIn wsL_law wsL_addMeal := goodIn_ca (goodIn_r _ [493, 93, 494, 495, 496, 2, 497, 98, 99, 29, 333, 808, 809, 810, 811, 812, 813, 850, 851, 852, 853, 854, 855] (by decide +kernel) (by decide +kernel)) (goodIn_sub (fun _ h => List.mem_append_left _ (List.mem_append_left _ (List.mem_append_right _ h))) (by decide +kernel))
set_option maxRecDepth 20000 in
theorem gL_law_L_addMeal : GoodIn wsL_law (va_wsS RL 167 yL_addMeal wsL_addMeal) := goodIn_app (goodIn_of _ (by decide +kernel)) ggL_law_L_addMeal
set_option maxRecDepth 20000 in
theorem ggL_law_X6_addMeal : GoodIn wsL_law wsX6_addMeal := goodIn_r _ [501, 105, 344, 107, 108, 109, 5, 110, 814, 815, 816, 817, 818, 819, 820, 821, 822, 823, 824, 825, 826, 827, 828, 829, 830, 831, 832, 833, 834, 835, 836] (by decide +kernel) (by decide +kernel)
set_option maxRecDepth 20000 in
theorem gL_law_X6_addMeal : GoodIn wsL_law (wsV RL 169 RX6 yX6_addMeal wsX6_addMeal) := goodIn_app (goodIn_of _ (by decide +kernel)) ggL_law_X6_addMeal
set_option maxRecDepth 20000 in
theorem ggL_law_L_need : GoodIn wsL_law wsL_need := goodIn_ca (goodIn_ca (goodIn_r _ [504, 118, 119, 505, 506, 507, 2, 508, 29, 333, 332, 509, 125, 126, 127, 128, 129, 130, 131, 132, 133, 134, 510, 511, 512, 28, 513, 64, 808, 809, 810, 811, 812, 813, 850, 851, 852, 853, 854, 855] (by decide +kernel) (by decide +kernel)) (goodIn_sub (fun _ h => List.mem_append_left _ (List.mem_append_right _ h)) (by decide +kernel))) (goodIn_sub (fun _ h => List.mem_append_right _ h) (by decide +kernel))
set_option maxRecDepth 20000 in
theorem gL_law_L_need : GoodIn wsL_law (va_wsS RL 170 yL_need wsL_need) := goodIn_app (goodIn_of _ (by decide +kernel)) ggL_law_L_need
set_option maxRecDepth 20000 in
theorem ggL_law_X6_need : GoodIn wsL_law wsX6_need := goodIn_r _ [517, 105, 86, 518, 519, 520, 5, 521, 344, 149, 150, 151, 465, 466, 467, 468, 343, 107, 108, 109, 110, 814, 815, 816, 817, 818, 819, 820, 821, 822, 823, 824, 825, 826, 827, 828, 829, 830, 831, 832, 833, 834, 835, 836] (by decide +kernel) (by decide +kernel)
set_option maxRecDepth 20000 in
theorem gL_law_X6_need : GoodIn wsL_law (wsV RL 172 RX6 yX6_need wsX6_need) := goodIn_app (goodIn_of _ (by decide +kernel)) ggL_law_X6_need
set_option maxRecDepth 20000 in
theorem ggL_law_L_eaters : GoodIn wsL_law wsL_eaters := goodIn_ca (goodIn_r _ [524, 118, 525, 526, 527, 2, 528, 29, 333, 17, 125, 126, 127, 128, 129, 529, 530, 531, 28, 532, 533, 534, 535, 536, 537, 538, 539, 540, 511, 512, 513, 64, 808, 809, 810, 811, 812, 813, 850, 851, 852, 853, 854, 855, 837, 838, 839, 840, 841, 842, 843, 844] (by decide +kernel) (by decide +kernel)) (goodIn_sub (fun _ h => List.mem_append_left _ (List.mem_append_right _ h)) (by decide +kernel))
set_option maxRecDepth 20000 in
theorem gL_law_L_eaters : GoodIn wsL_law (va_wsS RL 173 yL_eaters wsL_eaters) := goodIn_app (goodIn_of _ (by decide +kernel)) ggL_law_L_eaters
set_option maxRecDepth 20000 in
theorem ggL_law_X6_eaters : GoodIn wsL_law wsX6_eaters := goodIn_r _ [544, 105, 518, 519, 520, 5, 521, 344, 149, 150, 151, 545, 546, 547, 548, 144, 549, 550, 551, 552, 343, 86, 77, 814, 815, 816, 817, 818, 819, 820, 821, 822, 823, 824, 825, 826, 827, 828, 829, 830, 831, 832, 833, 834, 835, 836] (by decide +kernel) (by decide +kernel)
set_option maxRecDepth 20000 in
theorem gL_law_X6_eaters : GoodIn wsL_law (wsV RL 175 RX6 yX6_eaters wsX6_eaters) := goodIn_app (goodIn_of _ (by decide +kernel)) ggL_law_X6_eaters
set_option maxRecDepth 20000 in
theorem ggL_law_L_lacks : GoodIn wsL_law wsL_lacks := goodIn_ca (goodIn_ca (goodIn_r _ [555, 118, 119, 556, 557, 558, 2, 559, 29, 333, 332, 17, 449, 560, 561, 243, 562, 125, 126, 127, 128, 129, 130, 131, 132, 133, 134, 529, 530, 531, 28, 532, 533, 534, 535, 536, 537, 538, 539, 540, 511, 512, 513, 64, 563, 229, 230, 231, 232, 233, 234, 510, 808, 809, 810, 811, 812, 813, 850, 851, 852, 853, 854, 855, 837, 838, 839, 840, 841, 842, 843, 844] (by decide +kernel) (by decide +kernel)) (goodIn_sub (fun _ h => List.mem_append_left _ (List.mem_append_right _ h)) (by decide +kernel))) (goodIn_sub (fun _ h => List.mem_append_right _ h) (by decide +kernel))
set_option maxRecDepth 20000 in
theorem gL_law_L_lacks : GoodIn wsL_law (va_wsS RL 176 yL_lacks wsL_lacks) := goodIn_app (goodIn_of _ (by decide +kernel)) ggL_law_L_lacks
set_option maxRecDepth 20000 in
theorem ggL_law_X6_lacks : GoodIn wsL_law wsX6_lacks := goodIn_r _ [567, 105, 86, 85, 568, 561, 243, 562, 518, 519, 520, 5, 521, 344, 149, 150, 151, 465, 466, 467, 468, 343, 107, 108, 109, 110, 569, 570, 571, 572, 144, 82, 549, 550, 551, 552, 77, 814, 815, 816, 817, 818, 819, 820, 821, 822, 823, 824, 825, 826, 827, 828, 829, 830, 831, 832, 833, 834, 835, 836] (by decide +kernel) (by decide +kernel)
set_option maxRecDepth 20000 in
theorem gL_law_X6_lacks : GoodIn wsL_law (wsV RL 178 RX6 yX6_lacks wsX6_lacks) := goodIn_app (goodIn_of _ (by decide +kernel)) ggL_law_X6_lacks
set_option maxRecDepth 20000 in
theorem ggL_law_L_eat : GoodIn wsL_law wsL_eat := goodIn_ca (goodIn_ca (goodIn_r _ [575, 118, 93, 576, 577, 578, 2, 579, 98, 99, 29, 333, 17, 125, 126, 127, 128, 129, 580, 581, 582, 28, 583, 584, 585, 530, 531, 532, 533, 534, 535, 536, 537, 538, 539, 540, 511, 512, 513, 64, 586, 229, 230, 231, 232, 233, 234, 587, 588, 589, 590, 63, 591, 592, 593, 594, 595, 808, 809, 810, 811, 812, 813, 850, 851, 852, 853, 854, 855, 837, 838, 839, 840, 841, 842, 843, 844] (by decide +kernel) (by decide +kernel)) (goodIn_sub (fun _ h => List.mem_append_left _ (List.mem_append_left _ (List.mem_append_right _ h))) (by decide +kernel))) (goodIn_sub (fun _ h => List.mem_append_left _ (List.mem_append_right _ h)) (by decide +kernel))
set_option maxRecDepth 20000 in
theorem gL_law_L_eat : GoodIn wsL_law (va_wsS RL 179 yL_eat wsL_eat) := goodIn_app (goodIn_of _ (by decide +kernel)) ggL_law_L_eat
set_option maxRecDepth 20000 in
theorem ggL_law_X6_eat : GoodIn wsL_law wsX6_eat := goodIn_r _ [599, 105, 343, 85, 86, 144, 82, 600, 518, 519, 520, 5, 521, 344, 149, 150, 151, 107, 108, 109, 110, 601, 602, 603, 604, 569, 570, 571, 572, 549, 550, 551, 552, 77, 814, 815, 816, 817, 818, 819, 820, 821, 822, 823, 824, 825, 826, 827, 828, 829, 830, 831, 832, 833, 834, 835, 836] (by decide +kernel) (by decide +kernel)
set_option maxRecDepth 20000 in
theorem gL_law_X6_eat : GoodIn wsL_law (wsV RL 181 RX6 yX6_eat wsX6_eat) := goodIn_app (goodIn_of _ (by decide +kernel)) ggL_law_X6_eat
set_option maxRecDepth 20000 in
theorem ggL_law_L_table : GoodIn wsL_law wsL_table := goodIn_ca (goodIn_r _ [607, 118, 608, 609, 610, 2, 611, 29, 612, 17, 125, 126, 127, 128, 129, 613, 614, 615, 616, 124, 617, 563, 229, 230, 231, 232, 233, 234, 618, 619, 620, 28, 621, 622, 595, 623, 585, 530, 531, 532, 533, 534, 535, 536, 537, 538, 539, 540, 511, 512, 513, 64, 586, 624, 581, 582, 583, 584, 587, 588, 589, 590, 63, 808, 809, 810, 811, 812, 813, 850, 851, 852, 853, 854, 855, 837, 838, 839, 840, 841, 842, 843, 844] (by decide +kernel) (by decide +kernel)) (goodIn_sub (fun _ h => List.mem_append_left _ (List.mem_append_right _ h)) (by decide +kernel))
set_option maxRecDepth 20000 in
theorem gL_law_L_table : GoodIn wsL_law (va_wsS RL 182 yL_table wsL_table) := goodIn_app (goodIn_of _ (by decide +kernel)) ggL_law_L_table
set_option maxRecDepth 20000 in
theorem ggL_law_X6_table : GoodIn wsL_law wsX6_table := goodIn_r _ [628, 105, 149, 150, 5, 151, 629, 630, 631, 632, 600, 144, 82, 344, 601, 602, 603, 604, 343, 86, 85, 569, 570, 571, 572, 549, 550, 551, 552, 77, 107, 108, 109, 110, 814, 815, 816, 817, 818, 819, 820, 821, 822, 823, 824, 825, 826, 827, 828, 829, 830, 831, 832, 833, 834, 835, 836] (by decide +kernel) (by decide +kernel)
set_option maxRecDepth 20000 in
theorem gL_law_X6_table : GoodIn wsL_law (wsV RL 184 RX6 yX6_table wsX6_table) := goodIn_app (goodIn_of _ (by decide +kernel)) ggL_law_X6_table
set_option maxRecDepth 20000 in
theorem ggL_law_L_addBadge : GoodIn wsL_law wsL_addBadge := goodIn_ca (goodIn_ca (goodIn_r _ [635, 119, 93, 636, 637, 638, 2, 639, 98, 99, 33, 334, 640, 130, 131, 132, 133, 134, 808, 809, 810, 811, 812, 813, 856, 857, 858] (by decide +kernel) (by decide +kernel)) (goodIn_sub (fun _ h => List.mem_append_left _ (List.mem_append_left _ (List.mem_append_right _ h))) (by decide +kernel))) (goodIn_sub (fun _ h => List.mem_append_right _ h) (by decide +kernel))
set_option maxRecDepth 20000 in
theorem gL_law_L_addBadge : GoodIn wsL_law (va_wsS RL 185 yL_addBadge wsL_addBadge) := goodIn_app (goodIn_of _ (by decide +kernel)) ggL_law_L_addBadge
set_option maxRecDepth 20000 in
theorem ggL_law_X6_addBadge : GoodIn wsL_law wsX6_addBadge := goodIn_r _ [644, 105, 345, 87, 149, 150, 5, 151, 107, 108, 109, 110, 814, 815, 816, 817, 818, 819, 820, 821, 822, 823, 824, 825, 826, 827, 828, 829, 830, 831, 832, 833, 834, 835, 836] (by decide +kernel) (by decide +kernel)
set_option maxRecDepth 20000 in
theorem gL_law_X6_addBadge : GoodIn wsL_law (wsV RL 187 RX6 yX6_addBadge wsX6_addBadge) := goodIn_app (goodIn_of _ (by decide +kernel)) ggL_law_X6_addBadge
set_option maxRecDepth 20000 in
theorem ggL_law_L_want : GoodIn wsL_law wsL_want := goodIn_ca (goodIn_ca (goodIn_r _ [647, 118, 119, 648, 649, 650, 2, 651, 33, 334, 652, 125, 126, 127, 128, 129, 130, 131, 132, 133, 134, 808, 809, 810, 811, 812, 813, 856, 857, 858] (by decide +kernel) (by decide +kernel)) (goodIn_sub (fun _ h => List.mem_append_left _ (List.mem_append_right _ h)) (by decide +kernel))) (goodIn_sub (fun _ h => List.mem_append_right _ h) (by decide +kernel))
set_option maxRecDepth 20000 in
theorem gL_law_L_want : GoodIn wsL_law (va_wsS RL 188 yL_want wsL_want) := goodIn_app (goodIn_of _ (by decide +kernel)) ggL_law_L_want
set_option maxRecDepth 20000 in
theorem ggL_law_X6_want : GoodIn wsL_law wsX6_want := goodIn_r _ [656, 105, 88, 657, 658, 659, 5, 660, 345, 149, 150, 151, 661, 662, 663, 107, 108, 109, 110, 814, 815, 816, 817, 818, 819, 820, 821, 822, 823, 824, 825, 826, 827, 828, 829, 830, 831, 832, 833, 834, 835, 836] (by decide +kernel) (by decide +kernel)
set_option maxRecDepth 20000 in
theorem gL_law_X6_want : GoodIn wsL_law (wsV RL 190 RX6 yX6_want wsX6_want) := goodIn_app (goodIn_of _ (by decide +kernel)) ggL_law_X6_want
set_option maxRecDepth 20000 in
theorem ggL_law_L_practise : GoodIn wsL_law wsL_practise := goodIn_ca (goodIn_ca (goodIn_r _ [666, 118, 119, 667, 668, 669, 2, 670, 17, 100, 125, 126, 127, 128, 129, 130, 131, 132, 133, 134, 671, 672, 673, 16, 674, 139, 39, 44, 808, 809, 810, 811, 812, 813, 837, 838, 839, 840, 841, 842, 843, 844] (by decide +kernel) (by decide +kernel)) (goodIn_sub (fun _ h => List.mem_append_left _ (List.mem_append_right _ h)) (by decide +kernel))) (goodIn_sub (fun _ h => List.mem_append_right _ h) (by decide +kernel))
set_option maxRecDepth 20000 in
theorem gL_law_L_practise : GoodIn wsL_law (va_wsS RL 191 yL_practise wsL_practise) := goodIn_app (goodIn_of _ (by decide +kernel)) ggL_law_L_practise
set_option maxRecDepth 20000 in
theorem ggL_law_X6_practise : GoodIn wsL_law wsX6_practise := goodIn_r _ [678, 105, 144, 74, 80, 145, 146, 147, 5, 148, 106, 149, 150, 151, 661, 662, 663, 107, 108, 109, 110, 814, 815, 816, 817, 818, 819, 820, 821, 822, 823, 824, 825, 826, 827, 828, 829, 830, 831, 832, 833, 834, 835, 836] (by decide +kernel) (by decide +kernel)
set_option maxRecDepth 20000 in
theorem gL_law_X6_practise : GoodIn wsL_law (wsV RL 193 RX6 yX6_practise wsX6_practise) := goodIn_app (goodIn_of _ (by decide +kernel)) ggL_law_X6_practise
set_option maxRecDepth 20000 in
theorem ggL_law_L_away : GoodIn wsL_law wsL_away := goodIn_ca (goodIn_r _ [681, 118, 682, 683, 684, 2, 685, 17, 124, 33, 334, 125, 126, 127, 128, 129, 686, 687, 688, 32, 689, 690, 68, 691, 692, 693, 694, 695, 69, 696, 561, 243, 562, 697, 178, 179, 16, 180, 44, 808, 809, 810, 811, 812, 813, 837, 838, 839, 840, 841, 842, 843, 844, 856, 857, 858] (by decide +kernel) (by decide +kernel)) (goodIn_sub (fun _ h => List.mem_append_left _ (List.mem_append_right _ h)) (by decide +kernel))
set_option maxRecDepth 20000 in
theorem gL_law_L_away : GoodIn wsL_law (va_wsS RL 194 yL_away wsL_away) := goodIn_app (goodIn_of _ (by decide +kernel)) ggL_law_L_away
set_option maxRecDepth 20000 in
theorem ggL_law_X6_away : GoodIn wsL_law wsX6_away := goodIn_r _ [701, 105, 185, 186, 187, 5, 188, 144, 149, 150, 151, 657, 658, 659, 660, 345, 702, 703, 704, 705, 79, 75, 87, 88, 80, 568, 561, 243, 562, 107, 108, 109, 110, 814, 815, 816, 817, 818, 819, 820, 821, 822, 823, 824, 825, 826, 827, 828, 829, 830, 831, 832, 833, 834, 835, 836] (by decide +kernel) (by decide +kernel)
set_option maxRecDepth 20000 in
theorem gL_law_X6_away : GoodIn wsL_law (wsV RL 196 RX6 yX6_away wsX6_away) := goodIn_app (goodIn_of _ (by decide +kernel)) ggL_law_X6_away
set_option maxRecDepth 20000 in
theorem ggL_law_L_earn : GoodIn wsL_law wsL_earn := goodIn_ca (goodIn_ca (goodIn_r _ [708, 118, 93, 709, 710, 711, 2, 712, 98, 99, 17, 124, 33, 334, 167, 125, 126, 127, 128, 129, 686, 687, 688, 32, 689, 690, 68, 691, 692, 693, 694, 695, 69, 696, 561, 243, 562, 697, 178, 179, 16, 180, 44, 713, 714, 715, 716, 717, 718, 719, 808, 809, 810, 811, 812, 813, 837, 838, 839, 840, 841, 842, 843, 844, 856, 857, 858] (by decide +kernel) (by decide +kernel)) (goodIn_sub (fun _ h => List.mem_append_left _ (List.mem_append_left _ (List.mem_append_right _ h))) (by decide +kernel))) (goodIn_sub (fun _ h => List.mem_append_left _ (List.mem_append_right _ h)) (by decide +kernel))
set_option maxRecDepth 20000 in
theorem gL_law_L_earn : GoodIn wsL_law (va_wsS RL 197 yL_earn wsL_earn) := goodIn_app (goodIn_of _ (by decide +kernel)) ggL_law_L_earn
set_option maxRecDepth 20000 in
theorem ggL_law_X6_earn : GoodIn wsL_law wsX6_earn := goodIn_r _ [723, 105, 79, 185, 186, 187, 5, 188, 144, 149, 150, 151, 657, 658, 659, 660, 345, 107, 108, 109, 110, 702, 703, 704, 705, 75, 87, 88, 80, 568, 561, 243, 562, 814, 815, 816, 817, 818, 819, 820, 821, 822, 823, 824, 825, 826, 827, 828, 829, 830, 831, 832, 833, 834, 835, 836] (by decide +kernel) (by decide +kernel)
set_option maxRecDepth 20000 in
theorem gL_law_X6_earn : GoodIn wsL_law (wsV RL 199 RX6 yX6_earn wsX6_earn) := goodIn_app (goodIn_of _ (by decide +kernel)) ggL_law_X6_earn
set_option maxRecDepth 20000 in
theorem ggL_law_L_hike : GoodIn wsL_law wsL_hike := goodIn_ca (goodIn_ca (goodIn_r _ [726, 119, 93, 727, 728, 729, 2, 730, 133, 134, 98, 99, 17, 731, 732, 733, 734, 16, 735, 139, 130, 131, 132, 736, 363, 364, 365, 40, 737, 738, 739, 740, 41, 741, 742, 743, 744, 745, 561, 243, 562, 746, 747, 748, 749, 808, 809, 810, 811, 812, 813, 837, 838, 839, 840, 841, 842, 843, 844] (by decide +kernel) (by decide +kernel)) (goodIn_sub (fun _ h => List.mem_append_right _ h) (by decide +kernel))) (goodIn_sub (fun _ h => List.mem_append_left _ (List.mem_append_left _ (List.mem_append_right _ h))) (by decide +kernel))
set_option maxRecDepth 20000 in
theorem gL_law_L_hike : GoodIn wsL_law (va_wsS RL 202 yL_hike wsL_hike) := goodIn_app (goodIn_of _ (by decide +kernel)) ggL_law_L_hike
set_option maxRecDepth 20000 in
theorem ggL_law_X6_hike : GoodIn wsL_law wsX6_hike := goodIn_r _ [753, 105, 144, 75, 568, 561, 243, 562, 76, 149, 150, 5, 151, 107, 108, 109, 110, 814, 815, 816, 817, 818, 819, 820, 821, 822, 823, 824, 825, 826, 827, 828, 829, 830, 831, 832, 833, 834, 835, 836] (by decide +kernel) (by decide +kernel)
set_option maxRecDepth 20000 in
theorem gL_law_X6_hike : GoodIn wsL_law (wsV RL 205 RX6 yX6_hike wsX6_hike) := goodIn_app (goodIn_of _ (by decide +kernel)) ggL_law_X6_hike
set_option maxRecDepth 20000 in
theorem ggL_law_L_end : GoodIn wsL_law wsL_end := goodIn_ca (goodIn_r _ [756, 93, 757, 758, 759, 2, 760, 98, 99, 34, 29, 761, 762, 763, 28, 764, 584, 595, 808, 809, 810, 811, 812, 813, 850, 851, 852, 853, 854, 855] (by decide +kernel) (by decide +kernel)) (goodIn_sub (fun _ h => List.mem_append_left _ (List.mem_append_left _ (List.mem_append_right _ h))) (by decide +kernel))
set_option maxRecDepth 20000 in
theorem gL_law_L_end : GoodIn wsL_law (va_wsS RL 206 yL_end wsL_end) := goodIn_app (goodIn_of _ (by decide +kernel)) ggL_law_L_end
set_option maxRecDepth 20000 in
theorem ggL_law_X6_end : GoodIn wsL_law wsX6_end := goodIn_r _ [768, 105, 384, 600, 82, 107, 108, 109, 5, 110, 814, 815, 816, 817, 818, 819, 820, 821, 822, 823, 824, 825, 826, 827, 828, 829, 830, 831, 832, 833, 834, 835, 836] (by decide +kernel) (by decide +kernel)
set_option maxRecDepth 20000 in
theorem gL_law_X6_end : GoodIn wsL_law (wsV RL 208 RX6 yX6_end wsX6_end) := goodIn_app (goodIn_of _ (by decide +kernel)) ggL_law_X6_end
set_option maxRecDepth 20000 in
theorem ggL_law_X5_day : GoodIn wsL_law wsX5_day := goodIn_r _ [772, 34, 808, 809, 810, 811, 812, 813] (by decide +kernel) (by decide +kernel)
set_option maxRecDepth 20000 in
theorem gL_law_X5_day : GoodIn wsL_law (wsV RL 209 RX5 yX5_day wsX5_day) := goodIn_app (goodIn_of _ (by decide +kernel)) ggL_law_X5_day
set_option maxRecDepth 20000 in
theorem ggL_law_X6_day : GoodIn wsL_law wsX6_day := goodIn_r _ [776, 105, 384, 814, 815, 816, 817, 818, 819, 820, 821, 822, 823, 824, 825, 826, 827, 828, 829, 830, 831, 832, 833, 834, 835, 836] (by decide +kernel) (by decide +kernel)
set_option maxRecDepth 20000 in
theorem gL_law_X6_day : GoodIn wsL_law (wsV RL 212 RX6 yX6_day wsX6_day) := goodIn_app (goodIn_of _ (by decide +kernel)) ggL_law_X6_day
set_option maxRecDepth 20000 in
theorem ggL_law_X5_meanAge : GoodIn wsL_law wsX5_meanAge := goodIn_r _ [780, 17, 124, 164, 808, 809, 810, 811, 812, 813, 837, 838, 839, 840, 841, 842, 843, 844] (by decide +kernel) (by decide +kernel)
set_option maxRecDepth 20000 in
theorem gL_law_X5_meanAge : GoodIn wsL_law (wsV RL 213 RX5 yX5_meanAge wsX5_meanAge) := goodIn_app (goodIn_of _ (by decide +kernel)) ggL_law_X5_meanAge
set_option maxRecDepth 20000 in
theorem ggL_law_X6_meanAge : GoodIn wsL_law wsX6_meanAge := goodIn_r _ [784, 105, 144, 75, 814, 815, 816, 817, 818, 819, 820, 821, 822, 823, 824, 825, 826, 827, 828, 829, 830, 831, 832, 833, 834, 835, 836] (by decide +kernel) (by decide +kernel)
set_option maxRecDepth 20000 in
theorem gL_law_X6_meanAge : GoodIn wsL_law (wsV RL 217 RX6 yX6_meanAge wsX6_meanAge) := goodIn_app (goodIn_of _ (by decide +kernel)) ggL_law_X6_meanAge
set_option maxRecDepth 20000 in
theorem ggL_law_X5_digest : GoodIn wsL_law wsX5_digest := goodIn_r _ [788, 789, 34, 21, 204, 278, 25, 29, 612, 790, 791, 2, 792, 793, 328, 329, 330, 331, 17, 100, 124, 332, 333, 33, 334, 305, 306, 307, 308, 309, 310, 311, 20, 312, 172, 49, 228, 229, 230, 231, 232, 233, 234, 794, 795, 796, 797, 415, 159, 160, 161, 162, 163, 164, 165, 166, 167, 168, 169, 170, 171, 173, 174, 175, 16, 176, 177, 178, 179, 180, 44, 374, 371, 372, 24, 373, 54, 798, 799, 800, 801, 449, 529, 530, 531, 28, 532, 533, 534, 535, 536, 537, 538, 539, 540, 511, 512, 513, 64, 613, 614, 615, 616, 617, 563, 808, 809, 810, 811, 812, 813, 845, 846, 847, 850, 851, 852, 853, 854, 855, 837, 838, 839, 840, 841, 842, 843, 844, 856, 857, 858, 848, 849] (by decide +kernel) (by decide +kernel)
set_option maxRecDepth 20000 in
theorem gL_law_X5_digest : GoodIn wsL_law (wsV RL 218 RX5 yX5_digest wsX5_digest) := goodIn_app (goodIn_of _ (by decide +kernel)) ggL_law_X5_digest
set_option maxRecDepth 20000 in
theorem ggL_law_X6_digest : GoodIn wsL_law wsX6_digest := goodIn_r _ [805, 105, 806, 384, 807, 106, 144, 213, 343, 85, 344, 339, 340, 341, 5, 342, 38, 345, 267, 268, 269, 270, 78, 74, 420, 421, 422, 423, 84, 189, 190, 191, 192, 75, 76, 77, 79, 193, 194, 195, 196, 80, 283, 284, 285, 286, 393, 394, 395, 396, 149, 150, 151, 545, 546, 547, 548, 549, 550, 551, 552, 86, 629, 630, 631, 632, 600, 82, 601, 602, 603, 604, 569, 570, 571, 572, 814, 815, 816, 817, 818, 819, 820, 821, 822, 823, 824, 825, 826, 827, 828, 829, 830, 831, 832, 833, 834, 835, 836] (by decide +kernel) (by decide +kernel)
set_option maxRecDepth 20000 in
theorem gL_law_X6_digest : GoodIn wsL_law (wsV RL 222 RX6 yX6_digest wsX6_digest) := goodIn_app (goodIn_of _ (by decide +kernel)) ggL_law_X6_digest
