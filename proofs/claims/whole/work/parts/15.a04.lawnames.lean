set_option maxRecDepth 20000 in
theorem gL_law_L_table : GoodIn wsL_law (va_wsS RL 182 yL_table wsL_table) := goodIn_app (goodIn_of _ (by decide +kernel)) ggL_law_L_table
set_option maxRecDepth 20000 in
theorem ggL_law_X6_table : GoodIn wsL_law wsX6_table := goodIn_r _ [628, 105, 149, 150, 5, 151, 629, 630, 631, 632, 600, 144, 82, 344, 601, 602, 603, 604, 343, 86, 85, 569, 570, 571, 572, 549, 550, 551, 552, 77, 107, 108, 109, 110, 814, 815, 816, 817, 818, 819, 820, 821, 822, 823, 824, 825, 826, 827, 828, 829, 830, 831, 832, 833, 834, 835, 836] (by decide +kernel) (by decide +kernel)
set_option maxRecDepth 20000 in
theorem gL_law_X6_table : GoodIn wsL_law (wsV RL 184 RX6 yX6_table wsX6_table) := goodIn_app (goodIn_of _ (by decide +kernel)) ggL_law_X6_table
set_option maxRecDepth 20000 in
theorem ggL_law_L_addBadge : GoodIn wsL_law wsL_addBadge := goodIn_ca (goodIn_ca (goodIn_r _ [635, 119, 93, 636, 637, 638, 2, 639, 98, 99, 33, 334, 640, 130, 131, 132, 133, 134, 808, 809, 810, 811, 812, 813, 856, 857, 858] (by decide +kernel) (by decide +kernel)) (goodIn_sub (fun _ h => List.mem_append_left _ (List.mem_append_left _ (List.mem_append_right _ h))) (by decide +kernel))) (goodIn_sub (fun _ h => List.mem_append_right _ h) (by decide +kernel))
set_option maxRecDepth 20000 in
theorem gL_law_L_addBadge : GoodIn wsL_law (va_wsS RL 185 yL_addBadge wsL_addBadge) := goodIn_app (goodIn_of _ (by decide +kernel)) ggL_law_L_addBadge
set_option maxRecDepth 20000 in
theorem ggL_law_X6_addBadge : GoodIn wsL_law wsX6_addBadge := goodIn_r _ [644, 105, 345, 87, 149, 150, 5, 151, 107, 108, 109, 110, 814, 815, 816, 817, 818, 819, 820, 821, 822, 823, 824, 825, 826, 827, 828, 829, 830, 831, 832, 833, 834, 835, 836] (by decide +kernel) (by decide +kernel)
set_option maxRecDepth 20000 in
theorem gL_law_X6_addBadge : GoodIn wsL_law (wsV RL 187 RX6 yX6_addBadge wsX6_addBadge) := goodIn_app (goodIn_of _ (by decide +kernel)) ggL_law_X6_addBadge
set_option maxRecDepth 20000 in
theorem ggL_law_L_want : GoodIn wsL_law wsL_want := goodIn_ca (goodIn_ca (goodIn_r _ [647, 118, 119, 648, 649, 650, 2, 651, 33, 334, 652, 125, 126, 127, 128, 129, 130, 131, 132, 133, 134, 808, 809, 810, 811, 812, 813, 856, 857, 858] (by decide +kernel) (by decide +kernel)) (goodIn_sub (fun _ h => List.mem_append_left _ (List.mem_append_right _ h)) (by decide +kernel))) (goodIn_sub (fun _ h => List.mem_append_right _ h) (by decide +kernel))
set_option maxRecDepth 20000 in
theorem gL_law_L_want : GoodIn wsL_law (va_wsS RL 188 yL_want wsL_want) := goodIn_app (goodIn_of _ (by decide +kernel)) ggL_law_L_want
set_option maxRecDepth 20000 in
theorem ggL_law_X6_want : GoodIn wsL_law wsX6_want := goodIn_r _ [656, 105, 88, 657, 658, 659, 5, 660, 345, 149, 150, 151, 661, 662, 663, 107, 108, 109, 110, 814, 815, 816, 817, 818, 819, 820, 821, 822, 823, 824, 825, 826, 827, 828, 829, 830, 831, 832, 833, 834, 835, 836] (by decide +kernel) (by decide +kernel)
set_option maxRecDepth 20000 in
theorem gL_law_X6_want : GoodIn wsL_law (wsV RL 190 RX6 yX6_want wsX6_want) := goodIn_app (goodIn_of _ (by decide +kernel)) ggL_law_X6_want
set_option maxRecDepth 20000 in
theorem ggL_law_L_practise : GoodIn wsL_law wsL_practise := goodIn_ca (goodIn_ca (goodIn_r _ [666, 118, 119, 667, 668, 669, 2, 670, 17, 100, 125, 126, 127, 128, 129, 130, 131, 132, 133, 134, 671, 672, 673, 16, 674, 139, 39, 44, 808, 809, 810, 811, 812, 813, 837, 838, 839, 840, 841, 842, 843, 844] (by decide +kernel) (by decide +kernel)) (goodIn_sub (fun _ h => List.mem_append_left _ (List.mem_append_right _ h)) (by decide +kernel))) (goodIn_sub (fun _ h => List.mem_append_right _ h) (by decide +kernel))
set_option maxRecDepth 20000 in
theorem gL_law_L_practise : GoodIn wsL_law (va_wsS RL 191 yL_practise wsL_practise) := goodIn_app (goodIn_of _ (by decide +kernel)) ggL_law_L_practise
set_option maxRecDepth 20000 in
theorem ggL_law_X6_practise : GoodIn wsL_law wsX6_practise := goodIn_r _ [678, 105, 144, 74, 80, 145, 146, 147, 5, 148, 106, 149, 150, 151, 661, 662, 663, 107, 108, 109, 110, 814, 815, 816, 817, 818, 819, 820, 821, 822, 823, 824, 825, 826, 827, 828, 829, 830, 831, 832, 833, 834, 835, 836] (by decide +kernel) (by decide +kernel)
set_option maxRecDepth 20000 in
theorem gL_law_X6_practise : GoodIn wsL_law (wsV RL 193 RX6 yX6_practise wsX6_practise) := goodIn_app (goodIn_of _ (by decide +kernel)) ggL_law_X6_practise
set_option maxRecDepth 20000 in
theorem ggL_law_L_away : GoodIn wsL_law wsL_away := goodIn_ca (goodIn_r _ [681, 118, 682, 683, 684, 2, 685, 17, 124, 33, 334, 125, 126, 127, 128, 129, 686, 687, 688, 32, 689, 690, 68, 691, 692, 693, 694, 695, 69, 696, 561, 243, 562, 697, 178, 179, 16, 180, 44, 808, 809, 810, 811, 812, 813, 837, 838, 839, 840, 841, 842, 843, 844, 856, 857, 858] (by decide +kernel) (by decide +kernel)) (goodIn_sub (fun _ h => List.mem_append_left _ (List.mem_append_right _ h)) (by decide +kernel))
set_option maxRecDepth 20000 in
theorem gL_law_L_away : GoodIn wsL_law (va_wsS RL 194 yL_away wsL_away) := goodIn_app (goodIn_of _ (by decide +kernel)) ggL_law_L_away
set_option maxRecDepth 20000 in
theorem ggL_law_X6_away : GoodIn wsL_law wsX6_away := goodIn_r _ [701, 105, 185, 186, 187, 5, 188, 144, 149, 150, 151, 657, 658, 659, 660, 345, 702, 703, 704, 705, 79, 75, 87, 88, 80, 568, 561, 243, 562, 107, 108, 109, 110, 814, 815, 816, 817, 818, 819, 820, 821, 822, 823, 824, 825, 826, 827, 828, 829, 830, 831, 832, 833, 834, 835, 836] (by decide +kernel) (by decide +kernel)
set_option maxRecDepth 20000 in
theorem gL_law_X6_away : GoodIn wsL_law (wsV RL 196 RX6 yX6_away wsX6_away) := goodIn_app (goodIn_of _ (by decide +kernel)) ggL_law_X6_away
set_option maxRecDepth 20000 in
theorem ggL_law_L_earn : GoodIn wsL_law wsL_earn := goodIn_ca (goodIn_ca (goodIn_r _ [708, 118, 93, 709, 710, 711, 2, 712, 98, 99, 17, 124, 33, 334, 167, 125, 126, 127, 128, 129, 686, 687, 688, 32, 689, 690, 68, 691, 692, 693, 694, 695, 69, 696, 561, 243, 562, 697, 178, 179, 16, 180, 44, 713, 714, 715, 716, 717, 718, 719, 808, 809, 810, 811, 812, 813, 837, 838, 839, 840, 841, 842, 843, 844, 856, 857, 858] (by decide +kernel) (by decide +kernel)) (goodIn_sub (fun _ h => List.mem_append_left _ (List.mem_append_left _ (List.mem_append_right _ h))) (by decide +kernel))) (goodIn_sub (fun _ h => List.mem_append_left _ (List.mem_append_right _ h)) (by decide +kernel))
set_option maxRecDepth 20000 in
theorem gL_law_L_earn : GoodIn wsL_law (va_wsS RL 197 yL_earn wsL_earn) := goodIn_app (goodIn_of _ (by decide +kernel)) ggL_law_L_earn
set_option maxRecDepth 20000 in
theorem ggL_law_X6_earn : GoodIn wsL_law wsX6_earn := goodIn_r _ [723, 105, 79, 185, 186, 187, 5, 188, 144, 149, 150, 151, 657, 658, 659, 660, 345, 107, 108, 109, 110, 702, 703, 704, 705, 75, 87, 88, 80, 568, 561, 243, 562, 814, 815, 816, 817, 818, 819, 820, 821, 822, 823, 824, 825, 826, 827, 828, 829, 830, 831, 832, 833, 834, 835, 836] (by decide +kernel) (by decide +kernel)
