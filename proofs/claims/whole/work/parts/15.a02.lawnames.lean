set_option maxRecDepth 20000 in
theorem gL_law_L_points : GoodIn wsL_law (va_wsS RL 147 yL_points wsL_points) := goodIn_app (goodIn_of _ (by decide +kernel)) ggL_law_L_points
set_option maxRecDepth 20000 in
theorem ggL_law_X6_points : GoodIn wsL_law wsX6_points := goodIn_r _ [419, 105, 145, 146, 147, 5, 148, 106, 149, 150, 151, 420, 421, 422, 423, 38, 84, 107, 108, 109, 110, 814, 815, 816, 817, 818, 819, 820, 821, 822, 823, 824, 825, 826, 827, 828, 829, 830, 831, 832, 833, 834, 835, 836] (by decide +kernel) (by decide +kernel)
set_option maxRecDepth 20000 in
theorem gL_law_X6_points : GoodIn wsL_law (wsV RL 149 RX6 yX6_points wsX6_points) := goodIn_app (goodIn_of _ (by decide +kernel)) ggL_law_X6_points
set_option maxRecDepth 20000 in
theorem ggL_law_X5_findDuties : GoodIn wsL_law wsX5_findDuties := goodIn_r _ [427, 25, 34, 17, 374, 371, 372, 24, 373, 54, 428, 429, 430, 431, 432, 55, 433, 354, 355, 356, 357, 358, 359, 360, 361, 297, 298, 16, 299, 139, 39, 362, 363, 364, 365, 40, 366, 367, 368, 369, 370, 375, 376, 377, 378, 379, 434, 435, 436, 437, 808, 809, 810, 811, 812, 813, 848, 849, 837, 838, 839, 840, 841, 842, 843, 844] (by decide +kernel) (by decide +kernel)
set_option maxRecDepth 20000 in
theorem gL_law_X5_findDuties : GoodIn wsL_law (wsV RL 150 RX5 yX5_findDuties wsX5_findDuties) := goodIn_app (goodIn_of _ (by decide +kernel)) ggL_law_X5_findDuties
set_option maxRecDepth 20000 in
theorem ggL_law_X6_findDuties : GoodIn wsL_law wsX6_findDuties := goodIn_r _ [441, 105, 38, 384, 106, 84, 393, 394, 395, 5, 396, 149, 150, 151, 385, 386, 387, 388, 389, 390, 391, 392, 144, 74, 75, 420, 421, 422, 423, 814, 815, 816, 817, 818, 819, 820, 821, 822, 823, 824, 825, 826, 827, 828, 829, 830, 831, 832, 833, 834, 835, 836] (by decide +kernel) (by decide +kernel)
set_option maxRecDepth 20000 in
theorem gL_law_X6_findDuties : GoodIn wsL_law (wsV RL 153 RX6 yX6_findDuties wsX6_findDuties) := goodIn_app (goodIn_of _ (by decide +kernel)) ggL_law_X6_findDuties
set_option maxRecDepth 20000 in
theorem ggL_law_L_addFood : GoodIn wsL_law wsL_addFood := goodIn_ca (goodIn_ca (goodIn_r _ [444, 119, 93, 445, 446, 447, 2, 448, 98, 99, 29, 332, 449, 130, 131, 132, 133, 134, 808, 809, 810, 811, 812, 813, 850, 851, 852, 853, 854, 855] (by decide +kernel) (by decide +kernel)) (goodIn_sub (fun _ h => List.mem_append_left _ (List.mem_append_left _ (List.mem_append_right _ h))) (by decide +kernel))) (goodIn_sub (fun _ h => List.mem_append_right _ h) (by decide +kernel))
set_option maxRecDepth 20000 in
theorem gL_law_L_addFood : GoodIn wsL_law (va_wsS RL 154 yL_addFood wsL_addFood) := goodIn_app (goodIn_of _ (by decide +kernel)) ggL_law_L_addFood
set_option maxRecDepth 20000 in
theorem ggL_law_X6_addFood : GoodIn wsL_law wsX6_addFood := goodIn_r _ [453, 105, 343, 85, 149, 150, 5, 151, 107, 108, 109, 110, 814, 815, 816, 817, 818, 819, 820, 821, 822, 823, 824, 825, 826, 827, 828, 829, 830, 831, 832, 833, 834, 835, 836] (by decide +kernel) (by decide +kernel)
set_option maxRecDepth 20000 in
theorem gL_law_X6_addFood : GoodIn wsL_law (wsV RL 156 RX6 yX6_addFood wsX6_addFood) := goodIn_app (goodIn_of _ (by decide +kernel)) ggL_law_X6_addFood
set_option maxRecDepth 20000 in
theorem ggL_law_L_buy : GoodIn wsL_law wsL_buy := goodIn_ca (goodIn_ca (goodIn_ca (goodIn_r _ [456, 118, 119, 93, 457, 458, 459, 2, 460, 98, 99, 29, 332, 449, 125, 126, 127, 128, 129, 130, 131, 132, 133, 134, 808, 809, 810, 811, 812, 813, 850, 851, 852, 853, 854, 855] (by decide +kernel) (by decide +kernel)) (goodIn_sub (fun _ h => List.mem_append_left _ (List.mem_append_left _ (List.mem_append_right _ h))) (by decide +kernel))) (goodIn_sub (fun _ h => List.mem_append_left _ (List.mem_append_right _ h)) (by decide +kernel))) (goodIn_sub (fun _ h => List.mem_append_right _ h) (by decide +kernel))
set_option maxRecDepth 20000 in
theorem gL_law_L_buy : GoodIn wsL_law (va_wsS RL 157 yL_buy wsL_buy) := goodIn_app (goodIn_of _ (by decide +kernel)) ggL_law_L_buy
set_option maxRecDepth 20000 in
theorem ggL_law_X6_buy : GoodIn wsL_law wsX6_buy := goodIn_r _ [464, 105, 85, 465, 466, 467, 5, 468, 343, 149, 150, 151, 107, 108, 109, 110, 814, 815, 816, 817, 818, 819, 820, 821, 822, 823, 824, 825, 826, 827, 828, 829, 830, 831, 832, 833, 834, 835, 836] (by decide +kernel) (by decide +kernel)
set_option maxRecDepth 20000 in
theorem gL_law_X6_buy : GoodIn wsL_law (wsV RL 159 RX6 yX6_buy wsX6_buy) := goodIn_app (goodIn_of _ (by decide +kernel)) ggL_law_X6_buy
set_option maxRecDepth 20000 in
theorem ggL_law_L_store : GoodIn wsL_law wsL_store := goodIn_ca (goodIn_r _ [471, 118, 472, 473, 474, 2, 475, 29, 332, 449, 125, 126, 127, 128, 129, 808, 809, 810, 811, 812, 813, 850, 851, 852, 853, 854, 855] (by decide +kernel) (by decide +kernel)) (goodIn_sub (fun _ h => List.mem_append_left _ (List.mem_append_right _ h)) (by decide +kernel))
set_option maxRecDepth 20000 in
theorem gL_law_L_store : GoodIn wsL_law (va_wsS RL 160 yL_store wsL_store) := goodIn_app (goodIn_of _ (by decide +kernel)) ggL_law_L_store
set_option maxRecDepth 20000 in
theorem ggL_law_X6_store : GoodIn wsL_law wsX6_store := goodIn_r _ [479, 105, 85, 465, 466, 467, 5, 468, 343, 149, 150, 151, 107, 108, 109, 110, 814, 815, 816, 817, 818, 819, 820, 821, 822, 823, 824, 825, 826, 827, 828, 829, 830, 831, 832, 833, 834, 835, 836] (by decide +kernel) (by decide +kernel)
set_option maxRecDepth 20000 in
theorem gL_law_X6_store : GoodIn wsL_law (wsV RL 162 RX6 yX6_store wsX6_store) := goodIn_app (goodIn_of _ (by decide +kernel)) ggL_law_X6_store
set_option maxRecDepth 20000 in
theorem ggL_law_L_diet : GoodIn wsL_law wsL_diet := goodIn_ca (goodIn_r _ [482, 118, 483, 484, 485, 2, 486, 17, 124, 29, 332, 166, 125, 126, 127, 128, 129, 808, 809, 810, 811, 812, 813, 837, 838, 839, 840, 841, 842, 843, 844, 850, 851, 852, 853, 854, 855] (by decide +kernel) (by decide +kernel)) (goodIn_sub (fun _ h => List.mem_append_left _ (List.mem_append_right _ h)) (by decide +kernel))
set_option maxRecDepth 20000 in
theorem gL_law_L_diet : GoodIn wsL_law (va_wsS RL 163 yL_diet wsL_diet) := goodIn_app (goodIn_of _ (by decide +kernel)) ggL_law_L_diet
set_option maxRecDepth 20000 in
theorem ggL_law_X6_diet : GoodIn wsL_law wsX6_diet := goodIn_r _ [490, 105, 77, 185, 186, 187, 5, 188, 144, 149, 150, 151, 465, 466, 467, 468, 343, 814, 815, 816, 817, 818, 819, 820, 821, 822, 823, 824, 825, 826, 827, 828, 829, 830, 831, 832, 833, 834, 835, 836] (by decide +kernel) (by decide +kernel)
