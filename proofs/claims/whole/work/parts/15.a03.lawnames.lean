set_option maxRecDepth 20000 in
theorem gL_law_X6_diet : GoodIn wsL_law (wsV RL 166 RX6 yX6_diet wsX6_diet) := goodIn_app (goodIn_of _ (by decide +kernel)) ggL_law_X6_diet
set_option maxRecDepth 20000 in
theorem ggL_law_L_addMeal : GoodIn wsL_law wsL_addMeal := goodIn_ca (goodIn_r _ [493, 93, 494, 495, 496, 2, 497, 98, 99, 29, 333, 808, 809, 810, 811, 812, 813, 850, 851, 852, 853, 854, 855] (by decide +kernel) (by decide +kernel)) (goodIn_sub (fun _ h => List.mem_append_left _ (List.mem_append_left _ (List.mem_append_right _ h))) (by decide +kernel))
set_option maxRecDepth 20000 in
theorem gL_law_L_addMeal : GoodIn wsL_law (va_wsS RL 167 yL_addMeal wsL_addMeal) := goodIn_app (goodIn_of _ (by decide +kernel)) ggL_law_L_addMeal
set_option maxRecDepth 20000 in
theorem ggL_law_X6_addMeal : GoodIn wsL_law wsX6_addMeal := goodIn_r _ [501, 105, 344, 107, 108, 109, 5, 110, 814, 815, 816, 817, 818, 819, 820, 821, 822, 823, 824, 825, 826, 827, 828, 829, 830, 831, 832, 833, 834, 835, 836] (by decide +kernel) (by decide +kernel)
set_option maxRecDepth 20000 in
theorem gL_law_X6_addMeal : GoodIn wsL_law (wsV RL 169 RX6 yX6_addMeal wsX6_addMeal) := goodIn_app (goodIn_of _ (by decide +kernel)) ggL_law_X6_addMeal
set_option maxRecDepth 20000 in
theorem ggL_law_L_need : GoodIn wsL_law wsL_need := goodIn_ca (goodIn_ca (goodIn_r _ [504, 118, 119, 505, 506, 507, 2, 508, 29, 333, 332, 509, 125, 126, 127, 128, 129, 130, 131, 132, 133, 134, 510, 511, 512, 28, 513, 64, 808, 809, 810, 811, 812, 813, 850, 851, 852, 853, 854, 855] (by decide +kernel) (by decide +kernel)) (goodIn_sub (fun _ h => List.mem_append_left _ (List.mem_append_right _ h)) (by decide +kernel))) (goodIn_sub (fun _ h => List.mem_append_right _ h) (by decide +kernel))
set_option maxRecDepth 20000 in
theorem gL_law_L_need : GoodIn wsL_law (va_wsS RL 170 yL_need wsL_need) := goodIn_app (goodIn_of _ (by decide +kernel)) ggL_law_L_need
set_option maxRecDepth 20000 in
theorem ggL_law_X6_need : GoodIn wsL_law wsX6_need := goodIn_r _ [517, 105, 86, 518, 519, 520, 5, 521, 344, 149, 150, 151, 465, 466, 467, 468, 343, 107, 108, 109, 110, 814, 815, 816, 817, 818, 819, 820, 821, 822, 823, 824, 825, 826, 827, 828, 829, 830, 831, 832, 833, 834, 835, 836] (by decide +kernel) (by decide +kernel)
set_option maxRecDepth 20000 in
theorem gL_law_X6_need : GoodIn wsL_law (wsV RL 172 RX6 yX6_need wsX6_need) := goodIn_app (goodIn_of _ (by decide +kernel)) ggL_law_X6_need
set_option maxRecDepth 20000 in
theorem ggL_law_L_eaters : GoodIn wsL_law wsL_eaters := goodIn_ca (goodIn_r _ [524, 118, 525, 526, 527, 2, 528, 29, 333, 17, 125, 126, 127, 128, 129, 529, 530, 531, 28, 532, 533, 534, 535, 536, 537, 538, 539, 540, 511, 512, 513, 64, 808, 809, 810, 811, 812, 813, 850, 851, 852, 853, 854, 855, 837, 838, 839, 840, 841, 842, 843, 844] (by decide +kernel) (by decide +kernel)) (goodIn_sub (fun _ h => List.mem_append_left _ (List.mem_append_right _ h)) (by decide +kernel))
set_option maxRecDepth 20000 in
theorem gL_law_L_eaters : GoodIn wsL_law (va_wsS RL 173 yL_eaters wsL_eaters) := goodIn_app (goodIn_of _ (by decide +kernel)) ggL_law_L_eaters
set_option maxRecDepth 20000 in
theorem ggL_law_X6_eaters : GoodIn wsL_law wsX6_eaters := goodIn_r _ [544, 105, 518, 519, 520, 5, 521, 344, 149, 150, 151, 545, 546, 547, 548, 144, 549, 550, 551, 552, 343, 86, 77, 814, 815, 816, 817, 818, 819, 820, 821, 822, 823, 824, 825, 826, 827, 828, 829, 830, 831, 832, 833, 834, 835, 836] (by decide +kernel) (by decide +kernel)
set_option maxRecDepth 20000 in
theorem gL_law_X6_eaters : GoodIn wsL_law (wsV RL 175 RX6 yX6_eaters wsX6_eaters) := goodIn_app (goodIn_of _ (by decide +kernel)) ggL_law_X6_eaters
set_option maxRecDepth 20000 in
theorem ggL_law_L_lacks : GoodIn wsL_law wsL_lacks := goodIn_ca (goodIn_ca (goodIn_r _ [555, 118, 119, 556, 557, 558, 2, 559, 29, 333, 332, 17, 449, 560, 561, 243, 562, 125, 126, 127, 128, 129, 130, 131, 132, 133, 134, 529, 530, 531, 28, 532, 533, 534, 535, 536, 537, 538, 539, 540, 511, 512, 513, 64, 563, 229, 230, 231, 232, 233, 234, 510, 808, 809, 810, 811, 812, 813, 850, 851, 852, 853, 854, 855, 837, 838, 839, 840, 841, 842, 843, 844] (by decide +kernel) (by decide +kernel)) (goodIn_sub (fun _ h => List.mem_append_left _ (List.mem_append_right _ h)) (by decide +kernel))) (goodIn_sub (fun _ h => List.mem_append_right _ h) (by decide +kernel))
set_option maxRecDepth 20000 in
theorem gL_law_L_lacks : GoodIn wsL_law (va_wsS RL 176 yL_lacks wsL_lacks) := goodIn_app (goodIn_of _ (by decide +kernel)) ggL_law_L_lacks
set_option maxRecDepth 20000 in
theorem ggL_law_X6_lacks : GoodIn wsL_law wsX6_lacks := goodIn_r _ [567, 105, 86, 85, 568, 561, 243, 562, 518, 519, 520, 5, 521, 344, 149, 150, 151, 465, 466, 467, 468, 343, 107, 108, 109, 110, 569, 570, 571, 572, 144, 82, 549, 550, 551, 552, 77, 814, 815, 816, 817, 818, 819, 820, 821, 822, 823, 824, 825, 826, 827, 828, 829, 830, 831, 832, 833, 834, 835, 836] (by decide +kernel) (by decide +kernel)
set_option maxRecDepth 20000 in
theorem gL_law_X6_lacks : GoodIn wsL_law (wsV RL 178 RX6 yX6_lacks wsX6_lacks) := goodIn_app (goodIn_of _ (by decide +kernel)) ggL_law_X6_lacks
set_option maxRecDepth 20000 in
theorem ggL_law_L_eat : GoodIn wsL_law wsL_eat := goodIn_ca (goodIn_ca (goodIn_r _ [575, 118, 93, 576, 577, 578, 2, 579, 98, 99, 29, 333, 17, 125, 126, 127, 128, 129, 580, 581, 582, 28, 583, 584, 585, 530, 531, 532, 533, 534, 535, 536, 537, 538, 539, 540, 511, 512, 513, 64, 586, 229, 230, 231, 232, 233, 234, 587, 588, 589, 590, 63, 591, 592, 593, 594, 595, 808, 809, 810, 811, 812, 813, 850, 851, 852, 853, 854, 855, 837, 838, 839, 840, 841, 842, 843, 844] (by decide +kernel) (by decide +kernel)) (goodIn_sub (fun _ h => List.mem_append_left _ (List.mem_append_left _ (List.mem_append_right _ h))) (by decide +kernel))) (goodIn_sub (fun _ h => List.mem_append_left _ (List.mem_append_right _ h)) (by decide +kernel))
set_option maxRecDepth 20000 in
theorem gL_law_L_eat : GoodIn wsL_law (va_wsS RL 179 yL_eat wsL_eat) := goodIn_app (goodIn_of _ (by decide +kernel)) ggL_law_L_eat
set_option maxRecDepth 20000 in
theorem ggL_law_X6_eat : GoodIn wsL_law wsX6_eat := goodIn_r _ [599, 105, 343, 85, 86, 144, 82, 600, 518, 519, 520, 5, 521, 344, 149, 150, 151, 107, 108, 109, 110, 601, 602, 603, 604, 569, 570, 571, 572, 549, 550, 551, 552, 77, 814, 815, 816, 817, 818, 819, 820, 821, 822, 823, 824, 825, 826, 827, 828, 829, 830, 831, 832, 833, 834, 835, 836] (by decide +kernel) (by decide +kernel)
set_option maxRecDepth 20000 in
theorem gL_law_X6_eat : GoodIn wsL_law (wsV RL 181 RX6 yX6_eat wsX6_eat) := goodIn_app (goodIn_of _ (by decide +kernel)) ggL_law_X6_eat
set_option maxRecDepth 20000 in
theorem ggL_law_L_table : GoodIn wsL_law wsL_table := goodIn_ca (goodIn_r _ [607, 118, 608, 609, 610, 2, 611, 29, 612, 17, 125, 126, 127, 128, 129, 613, 614, 615, 616, 124, 617, 563, 229, 230, 231, 232, 233, 234, 618, 619, 620, 28, 621, 622, 595, 623, 585, 530, 531, 532, 533, 534, 535, 536, 537, 538, 539, 540, 511, 512, 513, 64, 586, 624, 581, 582, 583, 584, 587, 588, 589, 590, 63, 808, 809, 810, 811, 812, 813, 850, 851, 852, 853, 854, 855, 837, 838, 839, 840, 841, 842, 843, 844] (by decide +kernel) (by decide +kernel)) (goodIn_sub (fun _ h => List.mem_append_left _ (List.mem_append_right _ h)) (by decide +kernel))
