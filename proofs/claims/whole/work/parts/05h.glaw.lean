/-! the law's words, on: in slices -/
set_option maxRecDepth 20000 in
theorem hs_X9_runOrders : GoodIn wsL_law [.code yX9_runOrders cX9_runOrders 4 (some .int)] := goodIn_r _ [759] (by decide +kernel) (by decide +kernel)
set_option maxRecDepth 20000 in
theorem gs_X9_runOrders_0 : GoodIn wsL_law wsX9_runOrders_r1 := goodIn_r _ [24, 20, 16, 760, 761, 762, 763, 764, 23, 765, 78, 766, 767, 768, 769, 770, 771, 772, 773, 774, 743, 775, 776, 777] (by decide +kernel) (by decide +kernel)
set_option maxRecDepth 20000 in
theorem gs_X9_runOrders_1 : GoodIn wsL_law wsX9_runOrders_r2 := goodIn_r _ [778, 779, 780, 781, 782, 783, 784, 80, 785, 786, 787, 788, 789, 790, 791, 792, 793, 794, 795, 796, 797, 798, 799, 800] (by decide +kernel) (by decide +kernel)
set_option maxRecDepth 20000 in
theorem gs_X9_runOrders_2 : GoodIn wsL_law wsX9_runOrders_r3 := goodIn_r _ [801, 802, 803, 804, 805, 806, 807, 808, 809, 810, 811, 812, 813, 814, 815, 816, 817, 818, 819, 820, 821, 822, 823, 824] (by decide +kernel) (by decide +kernel)
set_option maxRecDepth 20000 in
theorem gs_X9_runOrders_3 : GoodIn wsL_law wsX9_runOrders_r4 := goodIn_r _ [825, 826, 827, 828, 829, 830, 831, 832, 833, 834, 835, 836, 837, 838, 839, 840, 841, 842, 843, 844, 845, 846, 847, 848] (by decide +kernel) (by decide +kernel)
set_option maxRecDepth 20000 in
theorem gs_X9_runOrders_4 : GoodIn wsL_law wsX9_runOrders_r5 := goodIn_r _ [849, 850, 77, 851, 852, 853, 854, 855, 856, 857, 858, 125, 126, 127, 19, 128, 129, 73, 130, 131, 132, 133, 134, 135] (by decide +kernel) (by decide +kernel)
set_option maxRecDepth 20000 in
theorem gs_X9_runOrders_5 : GoodIn wsL_law wsX9_runOrders_r6 := goodIn_r _ [136, 137, 15, 138, 139, 140, 141, 142, 143, 144, 37, 39, 43, 47, 145, 2, 146, 147, 148, 149, 150, 151, 152, 153] (by decide +kernel) (by decide +kernel)
set_option maxRecDepth 20000 in
theorem gs_X9_runOrders_6 : GoodIn wsL_law wsX9_runOrders_r7 := goodIn_r _ [154, 31, 155, 51, 52, 53, 54, 55, 56, 156, 157, 158, 42, 159, 160, 61, 62, 63, 161, 162, 163, 46, 164, 165] (by decide +kernel) (by decide +kernel)
set_option maxRecDepth 20000 in
theorem gs_X9_runOrders_7 : GoodIn wsL_law wsX9_runOrders_r8 := goodIn_r _ [67, 859, 860, 861, 862, 863, 864, 865, 293, 230, 267, 866, 867, 868, 869, 870, 871, 872, 873, 874, 875, 876, 109, 110] (by decide +kernel) (by decide +kernel)
set_option maxRecDepth 20000 in
theorem gs_X9_runOrders_8 : GoodIn wsL_law wsX9_runOrders_r9 := goodIn_r _ [111, 112, 108, 113, 114, 115, 203, 204, 205, 206, 202, 232, 233, 234, 235, 231, 236, 237, 238, 295, 296, 297, 298, 294] (by decide +kernel) (by decide +kernel)
set_option maxRecDepth 20000 in
theorem gs_X9_runOrders_9 : GoodIn wsL_law wsX9_runOrders_r10 := goodIn_r _ [318, 319, 320, 321, 322, 323, 324, 325, 326, 327, 328, 329, 330, 331, 332, 333, 334, 335, 336, 337, 338, 339, 340, 341] (by decide +kernel) (by decide +kernel)
set_option maxRecDepth 20000 in
theorem gs_X9_runOrders_10 : GoodIn wsL_law wsX9_runOrders_r11 := goodIn_r _ [342, 343, 247, 248, 344, 345, 346, 347, 268, 269, 270, 877, 878, 879, 166, 167, 168, 169, 207, 208, 209, 210, 239, 240] (by decide +kernel) (by decide +kernel)
set_option maxRecDepth 20000 in
theorem gs_X9_runOrders_11 : GoodIn wsL_law wsX9_runOrders_r12 := goodIn_r _ [241, 242, 243, 244, 245, 246, 299, 300, 301, 302, 348, 349, 350, 351, 352, 353, 354, 355, 356, 357, 358, 359, 360, 361] (by decide +kernel) (by decide +kernel)
set_option maxRecDepth 20000 in
theorem gs_X9_runOrders_12 : GoodIn wsL_law wsX9_runOrders_r13 := goodIn_r _ [362, 363, 411, 412, 413, 414, 415, 416, 417, 418, 57, 419, 420, 421, 422, 423, 424, 425, 426, 427, 428, 429, 430, 431] (by decide +kernel) (by decide +kernel)
set_option maxRecDepth 20000 in
theorem gs_X9_runOrders_13 : GoodIn wsL_law wsX9_runOrders_r14 := goodIn_r _ [432, 433, 434, 394, 395, 396, 397, 398] (by decide +kernel) (by decide +kernel)
set_option maxRecDepth 20000 in
theorem gs_X9_runOrders_14 : GoodIn wsL_law wsX90 := goodIn_r _ [974, 975, 976, 977, 978] (by decide +kernel) (by decide +kernel)
set_option maxRecDepth 20000 in
theorem gs_X9_runOrders_15 : GoodIn wsL_law wsX30 := goodIn_r _ [1007, 1008, 1009, 1010, 1011, 1012] (by decide +kernel) (by decide +kernel)
set_option maxRecDepth 20000 in
theorem gs_X9_runOrders_16 : GoodIn wsL_law wsX70 := goodIn_r _ [1004, 1005, 1006] (by decide +kernel) (by decide +kernel)
set_option maxRecDepth 20000 in
theorem gs_X9_runOrders_17 : GoodIn wsL_law wsX50 := goodIn_r _ [994, 995, 996, 997, 998, 999, 1000, 1001, 1002, 1003] (by decide +kernel) (by decide +kernel)
set_option maxRecDepth 20000 in
theorem gs_X9_runOrders_18 : GoodIn wsL_law wsX40 := goodIn_r _ [1018, 1019, 1020, 1021, 1022, 1023, 1024] (by decide +kernel) (by decide +kernel)
set_option maxRecDepth 20000 in
theorem gs_X9_runOrders_19 : GoodIn wsL_law wsX60 := goodIn_r _ [1025, 1026, 1027, 1028] (by decide +kernel) (by decide +kernel)
set_option maxRecDepth 20000 in
theorem gs_X9_runOrders_20 : GoodIn wsL_law wsX10 := goodIn_r _ [1029, 1030] (by decide +kernel) (by decide +kernel)
set_option maxRecDepth 20000 in
theorem ggL_law_X9_runOrders : GoodIn wsL_law wsX9_runOrders := (goodIn_app (a := [.code yX9_runOrders cX9_runOrders 4 (some .int)]) hs_X9_runOrders (goodIn_app (goodIn_app (goodIn_app (goodIn_app (goodIn_app (goodIn_app (goodIn_app (goodIn_app gs_X9_runOrders_0 (goodIn_app gs_X9_runOrders_1 (goodIn_app gs_X9_runOrders_2 (goodIn_app gs_X9_runOrders_3 (goodIn_app gs_X9_runOrders_4 (goodIn_app gs_X9_runOrders_5 (goodIn_app gs_X9_runOrders_6 (goodIn_app gs_X9_runOrders_7 (goodIn_app gs_X9_runOrders_8 (goodIn_app gs_X9_runOrders_9 (goodIn_app gs_X9_runOrders_10 (goodIn_app gs_X9_runOrders_11 (goodIn_app gs_X9_runOrders_12 gs_X9_runOrders_13))))))))))))) gs_X9_runOrders_14) gs_X9_runOrders_15) gs_X9_runOrders_16) gs_X9_runOrders_17) gs_X9_runOrders_18) gs_X9_runOrders_19) gs_X9_runOrders_20))
set_option maxRecDepth 20000 in
theorem gL_law_X9_runOrders : GoodIn wsL_law (wsV RL 169 RX9 yX9_runOrders wsX9_runOrders) := goodIn_app (goodIn_of _ (by decide +kernel)) ggL_law_X9_runOrders
