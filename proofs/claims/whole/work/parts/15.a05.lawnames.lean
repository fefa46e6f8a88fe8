set_option maxRecDepth 20000 in
theorem gL_law_X6_earn : GoodIn wsL_law (wsV RL 199 RX6 yX6_earn wsX6_earn) := goodIn_app (goodIn_of _ (by decide +kernel)) ggL_law_X6_earn
set_option maxRecDepth 20000 in
theorem ggL_law_L_hike : GoodIn wsL_law wsL_hike := goodIn_ca (goodIn_ca (goodIn_r _ [726, 119, 93, 727, 728, 729, 2, 730, 133, 134, 98, 99, 17, 731, 732, 733, 734, 16, 735, 139, 130, 131, 132, 736, 363, 364, 365, 40, 737, 738, 739, 740, 41, 741, 742, 743, 744, 745, 561, 243, 562, 746, 747, 748, 749, 808, 809, 810, 811, 812, 813, 837, 838, 839, 840, 841, 842, 843, 844] (by decide +kernel) (by decide +kernel)) (goodIn_sub (fun _ h => List.mem_append_right _ h) (by decide +kernel))) (goodIn_sub (fun _ h => List.mem_append_left _ (List.mem_append_left _ (List.mem_append_right _ h))) (by decide +kernel))
set_option maxRecDepth 20000 in
theorem gL_law_L_hike : GoodIn wsL_law (va_wsS RL 202 yL_hike wsL_hike) := goodIn_app (goodIn_of _ (by decide +kernel)) ggL_law_L_hike
set_option maxRecDepth 20000 in
theorem ggL_law_X6_hike : GoodIn wsL_law wsX6_hike := goodIn_r _ [753, 105, 144, 75, 568, 561, 243, 562, 76, 149, 150, 5, 151, 107, 108, 109, 110, 814, 815, 816, 817, 818, 819, 820, 821, 822, 823, 824, 825, 826, 827, 828, 829, 830, 831, 832, 833, 834, 835, 836] (by decide +kernel) (by decide +kernel)
set_option maxRecDepth 20000 in
theorem gL_law_X6_hike : GoodIn wsL_law (wsV RL 205 RX6 yX6_hike wsX6_hike) := goodIn_app (goodIn_of _ (by decide +kernel)) ggL_law_X6_hike
set_option maxRecDepth 20000 in
theorem ggL_law_L_end : GoodIn wsL_law wsL_end := goodIn_ca (goodIn_r _ [756, 93, 757, 758, 759, 2, 760, 98, 99, 34, 29, 761, 762, 763, 28, 764, 584, 595, 808, 809, 810, 811, 812, 813, 850, 851, 852, 853, 854, 855] (by decide +kernel) (by decide +kernel)) (goodIn_sub (fun _ h => List.mem_append_left _ (List.mem_append_left _ (List.mem_append_right _ h))) (by decide +kernel))
set_option maxRecDepth 20000 in
theorem gL_law_L_end : GoodIn wsL_law (va_wsS RL 206 yL_end wsL_end) := goodIn_app (goodIn_of _ (by decide +kernel)) ggL_law_L_end
set_option maxRecDepth 20000 in
theorem ggL_law_X6_end : GoodIn wsL_law wsX6_end := goodIn_r _ [768, 105, 384, 600, 82, 107, 108, 109, 5, 110, 814, 815, 816, 817, 818, 819, 820, 821, 822, 823, 824, 825, 826, 827, 828, 829, 830, 831, 832, 833, 834, 835, 836] (by decide +kernel) (by decide +kernel)
set_option maxRecDepth 20000 in
theorem gL_law_X6_end : GoodIn wsL_law (wsV RL 208 RX6 yX6_end wsX6_end) := goodIn_app (goodIn_of _ (by decide +kernel)) ggL_law_X6_end
set_option maxRecDepth 20000 in
theorem ggL_law_X5_day : GoodIn wsL_law wsX5_day := goodIn_r _ [772, 34, 808, 809, 810, 811, 812, 813] (by decide +kernel) (by decide +kernel)
set_option maxRecDepth 20000 in
theorem gL_law_X5_day : GoodIn wsL_law (wsV RL 209 RX5 yX5_day wsX5_day) := goodIn_app (goodIn_of _ (by decide +kernel)) ggL_law_X5_day
set_option maxRecDepth 20000 in
theorem ggL_law_X6_day : GoodIn wsL_law wsX6_day := goodIn_r _ [776, 105, 384, 814, 815, 816, 817, 818, 819, 820, 821, 822, 823, 824, 825, 826, 827, 828, 829, 830, 831, 832, 833, 834, 835, 836] (by decide +kernel) (by decide +kernel)
set_option maxRecDepth 20000 in
theorem gL_law_X6_day : GoodIn wsL_law (wsV RL 212 RX6 yX6_day wsX6_day) := goodIn_app (goodIn_of _ (by decide +kernel)) ggL_law_X6_day
set_option maxRecDepth 20000 in
theorem ggL_law_X5_meanAge : GoodIn wsL_law wsX5_meanAge := goodIn_r _ [780, 17, 124, 164, 808, 809, 810, 811, 812, 813, 837, 838, 839, 840, 841, 842, 843, 844] (by decide +kernel) (by decide +kernel)
set_option maxRecDepth 20000 in
theorem gL_law_X5_meanAge : GoodIn wsL_law (wsV RL 213 RX5 yX5_meanAge wsX5_meanAge) := goodIn_app (goodIn_of _ (by decide +kernel)) ggL_law_X5_meanAge
set_option maxRecDepth 20000 in
theorem ggL_law_X6_meanAge : GoodIn wsL_law wsX6_meanAge := goodIn_r _ [784, 105, 144, 75, 814, 815, 816, 817, 818, 819, 820, 821, 822, 823, 824, 825, 826, 827, 828, 829, 830, 831, 832, 833, 834, 835, 836] (by decide +kernel) (by decide +kernel)
set_option maxRecDepth 20000 in
theorem gL_law_X6_meanAge : GoodIn wsL_law (wsV RL 217 RX6 yX6_meanAge wsX6_meanAge) := goodIn_app (goodIn_of _ (by decide +kernel)) ggL_law_X6_meanAge
set_option maxRecDepth 20000 in
theorem ggL_law_X5_digest : GoodIn wsL_law wsX5_digest := goodIn_r _ [788, 789, 34, 21, 204, 278, 25, 29, 612, 790, 791, 2, 792, 793, 328, 329, 330, 331, 17, 100, 124, 332, 333, 33, 334, 305, 306, 307, 308, 309, 310, 311, 20, 312, 172, 49, 228, 229, 230, 231, 232, 233, 234, 794, 795, 796, 797, 415, 159, 160, 161, 162, 163, 164, 165, 166, 167, 168, 169, 170, 171, 173, 174, 175, 16, 176, 177, 178, 179, 180, 44, 374, 371, 372, 24, 373, 54, 798, 799, 800, 801, 449, 529, 530, 531, 28, 532, 533, 534, 535, 536, 537, 538, 539, 540, 511, 512, 513, 64, 613, 614, 615, 616, 617, 563, 808, 809, 810, 811, 812, 813, 845, 846, 847, 850, 851, 852, 853, 854, 855, 837, 838, 839, 840, 841, 842, 843, 844, 856, 857, 858, 848, 849] (by decide +kernel) (by decide +kernel)
set_option maxRecDepth 20000 in
theorem gL_law_X5_digest : GoodIn wsL_law (wsV RL 218 RX5 yX5_digest wsX5_digest) := goodIn_app (goodIn_of _ (by decide +kernel)) ggL_law_X5_digest
set_option maxRecDepth 20000 in
theorem ggL_law_X6_digest : GoodIn wsL_law wsX6_digest := goodIn_r _ [805, 105, 806, 384, 807, 106, 144, 213, 343, 85, 344, 339, 340, 341, 5, 342, 38, 345, 267, 268, 269, 270, 78, 74, 420, 421, 422, 423, 84, 189, 190, 191, 192, 75, 76, 77, 79, 193, 194, 195, 196, 80, 283, 284, 285, 286, 393, 394, 395, 396, 149, 150, 151, 545, 546, 547, 548, 549, 550, 551, 552, 86, 629, 630, 631, 632, 600, 82, 601, 602, 603, 604, 569, 570, 571, 572, 814, 815, 816, 817, 818, 819, 820, 821, 822, 823, 824, 825, 826, 827, 828, 829, 830, 831, 832, 833, 834, 835, 836] (by decide +kernel) (by decide +kernel)
set_option maxRecDepth 20000 in
theorem gL_law_X6_digest : GoodIn wsL_law (wsV RL 222 RX6 yX6_digest wsX6_digest) := goodIn_app (goodIn_of _ (by decide +kernel)) ggL_law_X6_digest
