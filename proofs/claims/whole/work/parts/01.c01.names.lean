theorem cb_in_r {big ws : List Cond} (ps : List Nat) (hp : ws = ps.filterMap (fun i => big[i]?)) : ∀ w ∈ ws, w ∈ big := by
  intro w hw
  rw [hp] at hw
  obtain ⟨i, -, hi⟩ := List.mem_filterMap.mp hw
  exact List.mem_of_getElem? hi
set_option maxRecDepth 20000 in
theorem wsL_law_in0_1 : ∀ w ∈ wsL_law0_r1, w ∈ lw_tbl := cb_in_r [49, 50, 32, 753, 754, 39, 121, 1068, 51, 52, 53, 54, 55, 56, 57, 58, 33, 188, 103, 104, 34, 189, 122, 123] (by decide +kernel)
set_option maxRecDepth 20000 in
theorem wsL_law_in0_2 : ∀ w ∈ wsL_law0_r2, w ∈ lw_tbl := cb_in_r [35, 190, 139, 140, 37, 191, 170, 171, 38, 192, 193, 60, 61, 62, 102, 69, 72, 76, 78, 81, 84, 106, 107, 108] (by decide +kernel)
set_option maxRecDepth 20000 in
theorem wsL_law_in0_3 : ∀ w ∈ wsL_law0_r3, w ∈ lw_tbl := cb_in_r [111, 112, 124, 125, 126, 127, 131, 132, 128, 129, 36, 130, 142, 143, 144, 153, 155, 173, 174, 175, 177, 179, 755, 756] (by decide +kernel)
set_option maxRecDepth 20000 in
theorem wsL_law_in0_4 : ∀ w ∈ wsL_law0_r4, w ∈ lw_tbl := cb_in_r [757, 758, 763, 764, 765, 766, 767, 768, 769, 829, 770, 772, 773, 775, 777, 780, 781, 356, 357, 31, 358, 359, 360, 361] (by decide +kernel)
set_option maxRecDepth 20000 in
theorem wsL_law_in0_5 : ∀ w ∈ wsL_law0_r5, w ∈ lw_tbl := cb_in_r [362, 363, 364, 43, 63, 834, 835, 836, 837, 759, 761, 838, 840, 7, 841, 830, 831, 832, 833, 432, 433, 434, 435, 436] (by decide +kernel)
set_option maxRecDepth 20000 in
theorem wsL_law_in0_6 : ∀ w ∈ wsL_law0_r6, w ∈ lw_tbl := cb_in_r [437, 438, 439, 440, 66, 441, 442, 443, 444, 44, 460, 461, 462, 463, 45, 480, 481, 482, 483, 65, 842, 843, 844, 845] (by decide +kernel)
set_option maxRecDepth 20000 in
theorem wsL_law_in0_7 : ∀ w ∈ wsL_law0_r7, w ∈ lw_tbl := cb_in_r [762, 846, 848, 8, 849, 850, 851, 852, 484, 485, 486, 487, 488, 489, 490, 323, 325, 3, 326, 71, 74, 77, 80, 83] (by decide +kernel)
set_option maxRecDepth 20000 in
theorem wsL_law_in0_8 : ∀ w ∈ wsL_law0_r8, w ∈ lw_tbl := cb_in_r [211, 212, 213, 214, 109, 327, 328, 329, 330, 331, 332, 333, 334, 853, 854, 855, 856, 857, 859, 9, 860, 861, 863, 10] (by decide +kernel)
set_option maxRecDepth 20000 in
theorem wsL_law_in0_9 : ∀ w ∈ wsL_law0_r9, w ∈ lw_tbl := cb_in_r [864, 865, 867, 11, 868, 491, 492, 493, 494, 495, 496, 497, 110, 499, 500, 501, 502, 869, 870, 871, 872, 771, 503, 504] (by decide +kernel)
set_option maxRecDepth 20000 in
theorem wsL_law_in0_10 : ∀ w ∈ wsL_law0_r10, w ∈ lw_tbl := cb_in_r [505, 506, 507, 508, 509, 510, 511, 512, 514, 234, 235, 236, 227, 228, 46, 229, 230, 231, 232, 237, 238, 239, 240, 68] (by decide +kernel)
set_option maxRecDepth 20000 in
theorem wsL_law_in0_11 : ∀ w ∈ wsL_law0_r11, w ∈ lw_tbl := cb_in_r [75, 241, 242, 47, 243, 516, 517, 518, 519, 520, 244, 245, 246, 247, 873, 874, 875, 876, 877, 879, 12, 880, 881, 883] (by decide +kernel)
set_option maxRecDepth 20000 in
theorem wsL_law_in0_12 : ∀ w ∈ wsL_law0_r12, w ∈ lw_tbl := cb_in_r [13, 884, 889, 885, 887, 14, 888, 521, 522, 523, 524, 525, 526, 527, 113, 890, 891, 892, 893, 894, 896, 15, 897, 207] (by decide +kernel)
set_option maxRecDepth 20000 in
theorem wsL_law_in0_13 : ∀ w ∈ wsL_law0_r13, w ∈ lw_tbl := cb_in_r [208, 209, 210, 215, 216, 217, 218, 70, 219, 220, 221, 222, 223, 224, 225, 226, 233, 248, 250, 0, 251, 252, 253, 254] (by decide +kernel)
set_option maxRecDepth 20000 in
theorem wsL_law_in0_14 : ∀ w ∈ wsL_law0_r14, w ∈ lw_tbl := cb_in_r [255, 898, 899, 900, 901, 902, 904, 16, 905, 528, 529, 530, 531, 532, 533, 534, 315, 317, 1, 318, 146, 148, 176, 906] (by decide +kernel)
set_option maxRecDepth 20000 in
theorem wsL_law_in0_15 : ∀ w ∈ wsL_law0_r15, w ∈ lw_tbl := cb_in_r [907, 908, 909, 910, 912, 17, 913, 774, 776, 779, 535, 536, 537, 538, 539, 540, 541, 542, 271, 272, 273, 274, 275, 276] (by decide +kernel)
set_option maxRecDepth 20000 in
theorem wsL_law_in0_16 : ∀ w ∈ wsL_law0_r16, w ∈ lw_tbl := cb_in_r [277, 278, 279, 280, 281, 282, 283, 284, 285, 286, 287, 263, 264, 265, 262, 288, 289, 290, 291, 292, 914, 915, 916, 917] (by decide +kernel)
set_option maxRecDepth 20000 in
theorem wsL_law_in0_17 : ∀ w ∈ wsL_law0_r17, w ∈ lw_tbl := cb_in_r [760, 918, 920, 18, 921, 922, 924, 19, 925, 926, 928, 20, 929, 544, 545, 546, 547, 548, 549, 550, 930, 931, 932, 933] (by decide +kernel)
set_option maxRecDepth 20000 in
theorem wsL_law_in0_18 : ∀ w ∈ wsL_law0_r18, w ∈ lw_tbl := cb_in_r [551, 552, 553, 554, 555, 556, 557, 133, 934, 935, 936, 937, 938, 940, 21, 941, 256, 257, 258, 259, 266, 267, 268, 269] (by decide +kernel)
set_option maxRecDepth 20000 in
theorem wsL_law_in0_19 : ∀ w ∈ wsL_law0_r19, w ∈ lw_tbl := cb_in_r [64, 270, 294, 295, 296, 297, 942, 943, 944, 945, 558, 559, 560, 561, 562, 563, 564, 154, 946, 947, 948, 949, 566, 567] (by decide +kernel)
set_option maxRecDepth 20000 in
theorem wsL_law_in0_20 : ∀ w ∈ wsL_law0_r20, w ∈ lw_tbl := cb_in_r [568, 569, 570, 571, 572, 950, 951, 952, 953, 954, 956, 22, 957, 574, 575, 576, 577, 578, 579, 580, 958, 959, 960, 961] (by decide +kernel)
set_option maxRecDepth 20000 in
theorem wsL_law_in0_21 : ∀ w ∈ wsL_law0_r21, w ∈ lw_tbl := cb_in_r [581, 582, 583, 584, 585, 586, 587, 962, 963, 964, 965, 588, 589, 590, 591, 592, 593, 594, 966, 967, 968, 969, 596, 597] (by decide +kernel)
set_option maxRecDepth 20000 in
theorem wsL_law_in0_22 : ∀ w ∈ wsL_law0_r22, w ∈ lw_tbl := cb_in_r [598, 599, 600, 601, 602, 156, 603, 348, 349, 350, 970, 971, 972, 973, 974, 976, 23, 977, 604, 605, 606, 607, 608, 609] (by decide +kernel)
set_option maxRecDepth 20000 in
theorem wsL_law_in0_23 : ∀ w ∈ wsL_law0_r23, w ∈ lw_tbl := cb_in_r [610, 339, 340, 341, 342, 67, 79, 343, 344, 345, 346, 145, 347, 978, 979, 980, 981, 982, 984, 24, 985, 986, 988, 25] (by decide +kernel)
set_option maxRecDepth 20000 in
theorem wsL_law_in0_24 : ∀ w ∈ wsL_law0_r24, w ∈ lw_tbl := cb_in_r [989, 611, 612, 613, 614, 615, 616, 617, 618, 619, 620, 355, 990, 991, 992, 993, 998, 994, 996, 26, 997, 621, 622, 623] (by decide +kernel)
set_option maxRecDepth 20000 in
theorem wsL_law_in0_25 : ∀ w ∈ wsL_law0_r25, w ∈ lw_tbl := cb_in_r [624, 625, 626, 627, 628, 629, 630, 631, 149, 632, 633, 634, 635, 636, 637, 639, 640, 641, 642, 151, 999, 1000, 1001, 1002] (by decide +kernel)
set_option maxRecDepth 20000 in
theorem wsL_law_in0_26 : ∀ w ∈ wsL_law0_r26, w ∈ lw_tbl := cb_in_r [778, 1003, 1005, 27, 1006, 643, 644, 645, 646, 647, 648, 649, 150, 351, 353, 5, 354, 152, 650, 651, 652, 653, 147, 654] (by decide +kernel)
set_option maxRecDepth 20000 in
theorem wsL_law_in0_27 : ∀ w ∈ wsL_law0_r27, w ∈ lw_tbl := cb_in_r [655, 1007, 1008, 1009, 1010, 1011, 1013, 28, 1014, 656, 657, 658, 659, 660, 661, 662, 178, 1015, 1016, 1017, 1018, 664, 665, 666] (by decide +kernel)
set_option maxRecDepth 20000 in
theorem wsL_law_in0_28 : ∀ w ∈ wsL_law0_r28, w ∈ lw_tbl := cb_in_r [667, 668, 669, 670, 180, 1019, 1020, 1021, 1022, 1023, 1025, 29, 1026, 1027, 1028, 1029, 671, 672, 673, 674, 675, 676, 677, 678] (by decide +kernel)
set_option maxRecDepth 20000 in
theorem wsL_law_in0_29 : ∀ w ∈ wsL_law0_r29, w ∈ lw_tbl := cb_in_r [679, 680, 681, 1030, 1031, 1032, 1033, 682, 683, 684, 685, 686, 687, 688, 689, 690, 691, 692, 73, 82, 693, 694, 695, 696] (by decide +kernel)
set_option maxRecDepth 20000 in
theorem wsL_law_in0_30 : ∀ w ∈ wsL_law0_r30, w ∈ lw_tbl := cb_in_r [698, 697, 1034, 1035, 1036, 1037, 1038, 1040, 30, 1041, 699, 700, 701, 702, 703, 704, 705, 707, 708, 48, 709, 710, 711, 712] (by decide +kernel)
set_option maxRecDepth 20000 in
theorem wsL_law_in0_31 : ∀ w ∈ wsL_law0_r31, w ∈ lw_tbl := cb_in_r [1042, 1043, 1044, 1045, 713, 714, 715, 716, 717, 718, 719, 724, 720, 721, 722, 723, 726, 727, 728, 729, 730, 732, 733, 734] (by decide +kernel)
set_option maxRecDepth 20000 in
theorem wsL_law_in0_32 : ∀ w ∈ wsL_law0_r32, w ∈ lw_tbl := cb_in_r [735, 740, 736, 737, 738, 739, 1046, 1047, 1048, 1049, 741, 742, 743, 744, 745, 746, 747, 749, 750, 751, 752, 1050, 1051, 1052] (by decide +kernel)
set_option maxRecDepth 20000 in
theorem wsL_law_in0_33 : ∀ w ∈ wsL_law0_r33, w ∈ lw_tbl := cb_in_r [1053, 298, 299, 300, 301, 1054, 1055, 1056, 1057, 302, 303, 304, 305, 1058, 1059, 1060, 1061, 306, 307, 308, 309, 310, 311, 312] (by decide +kernel)
set_option maxRecDepth 20000 in
theorem wsL_law_in0_34 : ∀ w ∈ wsL_law0_r34, w ∈ lw_tbl := cb_in_r [313, 314, 319, 321, 2, 322, 335, 337, 4, 338, 1062, 1063, 1064, 1065, 1066, 1067] (by decide +kernel)
set_option maxRecDepth 20000 in
theorem wsL_law_in0_wsX50 : ∀ w ∈ wsX50, w ∈ lw_tbl := by decide +kernel
set_option maxRecDepth 20000 in
theorem wsL_law_in0_wsX60 : ∀ w ∈ wsX60, w ∈ lw_tbl := by decide +kernel
set_option maxRecDepth 20000 in
theorem wsL_law_in0_wsX30 : ∀ w ∈ wsX30, w ∈ lw_tbl := by decide +kernel
set_option maxRecDepth 20000 in
theorem wsL_law_in0_wsX40 : ∀ w ∈ wsX40, w ∈ lw_tbl := by decide +kernel
set_option maxRecDepth 20000 in
theorem wsL_law_in0_wsX10 : ∀ w ∈ wsX10, w ∈ lw_tbl := by decide +kernel
set_option maxRecDepth 20000 in
theorem wsL_law_in0_wsX20 : ∀ w ∈ wsX20, w ∈ lw_tbl := by decide +kernel
set_option maxRecDepth 20000 in
theorem wsL_law_in0_wsX00 : ∀ w ∈ wsX00, w ∈ lw_tbl := by decide +kernel
theorem wsL_law_in0 : ∀ w ∈ wsL_law0, w ∈ lw_tbl := fun w h => (List.mem_append.mp h).elim (fun h => (List.mem_append.mp h).elim (fun h => (List.mem_append.mp h).elim (fun h => (List.mem_append.mp h).elim (fun h => (List.mem_append.mp h).elim (fun h => (List.mem_append.mp h).elim (fun h => (List.mem_append.mp h).elim (fun h => (List.mem_append.mp h).elim (fun h => (List.mem_append.mp h).elim (fun h => wsL_law_in0_1 w h) (fun h => (List.mem_append.mp h).elim (fun h => wsL_law_in0_2 w h) (fun h => (List.mem_append.mp h).elim (fun h => wsL_law_in0_3 w h) (fun h => (List.mem_append.mp h).elim (fun h => wsL_law_in0_4 w h) (fun h => (List.mem_append.mp h).elim (fun h => wsL_law_in0_5 w h) (fun h => (List.mem_append.mp h).elim (fun h => wsL_law_in0_6 w h) (fun h => (List.mem_append.mp h).elim (fun h => wsL_law_in0_7 w h) (fun h => (List.mem_append.mp h).elim (fun h => wsL_law_in0_8 w h) (fun h => (List.mem_append.mp h).elim (fun h => wsL_law_in0_9 w h) (fun h => (List.mem_append.mp h).elim (fun h => wsL_law_in0_10 w h) (fun h => (List.mem_append.mp h).elim (fun h => wsL_law_in0_11 w h) (fun h => (List.mem_append.mp h).elim (fun h => wsL_law_in0_12 w h) (fun h => (List.mem_append.mp h).elim (fun h => wsL_law_in0_13 w h) (fun h => (List.mem_append.mp h).elim (fun h => wsL_law_in0_14 w h) (fun h => (List.mem_append.mp h).elim (fun h => wsL_law_in0_15 w h) (fun h => (List.mem_append.mp h).elim (fun h => wsL_law_in0_16 w h) (fun h => (List.mem_append.mp h).elim (fun h => wsL_law_in0_17 w h) (fun h => (List.mem_append.mp h).elim (fun h => wsL_law_in0_18 w h) (fun h => (List.mem_append.mp h).elim (fun h => wsL_law_in0_19 w h) (fun h => (List.mem_append.mp h).elim (fun h => wsL_law_in0_20 w h) (fun h => (List.mem_append.mp h).elim (fun h => wsL_law_in0_21 w h) (fun h => (List.mem_append.mp h).elim (fun h => wsL_law_in0_22 w h) (fun h => (List.mem_append.mp h).elim (fun h => wsL_law_in0_23 w h) (fun h => (List.mem_append.mp h).elim (fun h => wsL_law_in0_24 w h) (fun h => (List.mem_append.mp h).elim (fun h => wsL_law_in0_25 w h) (fun h => (List.mem_append.mp h).elim (fun h => wsL_law_in0_26 w h) (fun h => (List.mem_append.mp h).elim (fun h => wsL_law_in0_27 w h) (fun h => (List.mem_append.mp h).elim (fun h => wsL_law_in0_28 w h) (fun h => (List.mem_append.mp h).elim (fun h => wsL_law_in0_29 w h) (fun h => (List.mem_append.mp h).elim (fun h => wsL_law_in0_30 w h) (fun h => (List.mem_append.mp h).elim (fun h => wsL_law_in0_31 w h) (fun h => (List.mem_append.mp h).elim (fun h => wsL_law_in0_32 w h) (fun h => (List.mem_append.mp h).elim (fun h => wsL_law_in0_33 w h) (fun h => wsL_law_in0_34 w h)))))))))))))))))))))))))))))))))) (fun h => wsL_law_in0_wsX50 w h)) (fun h => wsL_law_in0_wsX60 w h)) (fun h => wsL_law_in0_wsX30 w h)) (fun h => wsL_law_in0_wsX40 w h)) (fun h => wsL_law_in0_wsX10 w h)) (fun h => wsL_law_in0_wsX20 w h)) (fun h => wsL_law_in0_wsX00 w h)) (fun h => absurd h List.not_mem_nil)
