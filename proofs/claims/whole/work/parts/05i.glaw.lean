/-! the law's words, on: in slices -/
set_option maxRecDepth 20000 in
theorem hs_X10_runOrders : GoodIn wsL_law [.code yX10_runOrders cX10_runOrders 1 (some .int)] := goodIn_r _ [883] (by decide +kernel) (by decide +kernel)
set_option maxRecDepth 20000 in
theorem gs_X10_runOrders_0 : GoodIn wsL_law wsX10_runOrders_r1 := goodIn_r _ [185, 884, 885, 886, 887, 888, 5, 889, 890, 579, 891, 892, 893, 894, 895, 896, 897, 898, 96, 178, 179, 180, 899, 900] (by decide +kernel) (by decide +kernel)
set_option maxRecDepth 20000 in
theorem gs_X10_runOrders_1 : GoodIn wsL_law wsX10_runOrders_r2 := goodIn_r _ [901, 902, 903, 97, 904, 905, 906, 907, 908, 909, 910, 911, 912, 913, 914, 915, 916, 917, 918, 919, 920, 921, 922, 923] (by decide +kernel) (by decide +kernel)
set_option maxRecDepth 20000 in
theorem gs_X10_runOrders_2 : GoodIn wsL_law wsX10_runOrders_r3 := goodIn_r _ [924, 925, 174, 175, 176, 177, 92, 181, 182, 183, 184, 186, 187, 188, 189, 190, 93, 215, 216, 217, 218, 219, 220, 221] (by decide +kernel) (by decide +kernel)
set_option maxRecDepth 20000 in
theorem gs_X10_runOrders_3 : GoodIn wsL_law wsX10_runOrders_r4 := goodIn_r _ [253, 254, 255, 256, 257, 258, 259, 307, 308, 309, 310, 368, 369, 370, 371, 372, 373, 374, 375, 376, 377, 378, 379, 380] (by decide +kernel) (by decide +kernel)
set_option maxRecDepth 20000 in
theorem gs_X10_runOrders_4 : GoodIn wsL_law wsX10_runOrders_r5 := goodIn_r _ [381, 382, 383, 384, 385, 386, 387, 388, 389, 278, 279, 280, 281, 282, 283, 284, 285, 926, 927, 928, 929, 689, 690, 691] (by decide +kernel) (by decide +kernel)
set_option maxRecDepth 20000 in
theorem gs_X10_runOrders_5 : GoodIn wsL_law wsX10_runOrders_r6 := goodIn_r _ [692, 439, 440, 441, 442, 443, 444, 445, 446, 447, 448, 449, 450, 451, 452, 453, 403, 404, 405, 406] (by decide +kernel) (by decide +kernel)
set_option maxRecDepth 20000 in
theorem gs_X10_runOrders_6 : GoodIn wsL_law wsX100 := goodIn_r _ [979, 980, 981, 982, 983, 984, 985, 986, 987, 988, 989, 990, 991, 992, 993] (by decide +kernel) (by decide +kernel)
set_option maxRecDepth 20000 in
theorem ggL_law_X10_runOrders : GoodIn wsL_law wsX10_runOrders := (goodIn_app (a := [.code yX10_runOrders cX10_runOrders 1 (some .int)]) hs_X10_runOrders (goodIn_app (goodIn_app gs_X10_runOrders_0 (goodIn_app gs_X10_runOrders_1 (goodIn_app gs_X10_runOrders_2 (goodIn_app gs_X10_runOrders_3 (goodIn_app gs_X10_runOrders_4 gs_X10_runOrders_5))))) gs_X10_runOrders_6))
set_option maxRecDepth 20000 in
theorem gL_law_X10_runOrders : GoodIn wsL_law (wsV RL 172 RX10 yX10_runOrders wsX10_runOrders) := goodIn_app (goodIn_of _ (by decide +kernel)) ggL_law_X10_runOrders
set_option maxRecDepth 20000 in
theorem hs_X10_digest : GoodIn wsL_law [.code yX10_digest cX10_digest 6 (some .long)] := goodIn_r _ [971] (by decide +kernel) (by decide +kernel)
set_option maxRecDepth 20000 in
theorem gs_X10_digest_0 : GoodIn wsL_law wsX10_digest_r1 := goodIn_r _ [185, 972, 190, 973, 92, 619, 95, 624, 575, 576, 577, 5, 578, 579, 528, 529, 530, 531, 282, 283, 284, 285, 524, 525] (by decide +kernel) (by decide +kernel)
set_option maxRecDepth 20000 in
theorem gs_X10_digest_1 : GoodIn wsL_law wsX10_digest_r2 := goodIn_r _ [526, 527, 503, 504, 505, 506, 446, 447, 448, 449, 450, 451, 452, 453, 257, 258, 259, 178, 179, 180, 546, 547, 548, 549] (by decide +kernel) (by decide +kernel)
set_option maxRecDepth 20000 in
theorem gs_X10_digest_2 : GoodIn wsL_law wsX10_digest_r3 := goodIn_r _ [620, 621, 622, 623, 625, 626, 627, 628, 629, 630, 631, 632, 716, 717, 718, 719, 685, 686, 687, 688, 94, 689, 690, 691] (by decide +kernel) (by decide +kernel)
set_option maxRecDepth 20000 in
theorem gs_X10_digest_3 : GoodIn wsL_law wsX10_digest_r4 := goodIn_r _ [692, 439, 440, 441, 442, 443, 444, 445, 386, 387, 388, 389, 693, 694, 695, 696] (by decide +kernel) (by decide +kernel)
set_option maxRecDepth 20000 in
theorem gs_X10_digest_4 : GoodIn wsL_law wsX100 := goodIn_r _ [979, 980, 981, 982, 983, 984, 985, 986, 987, 988, 989, 990, 991, 992, 993] (by decide +kernel) (by decide +kernel)
set_option maxRecDepth 20000 in
theorem ggL_law_X10_digest : GoodIn wsL_law wsX10_digest := (goodIn_app (a := [.code yX10_digest cX10_digest 6 (some .long)]) hs_X10_digest (goodIn_app (goodIn_app gs_X10_digest_0 (goodIn_app gs_X10_digest_1 (goodIn_app gs_X10_digest_2 gs_X10_digest_3))) gs_X10_digest_4))
set_option maxRecDepth 20000 in
theorem gL_law_X10_digest : GoodIn wsL_law (wsV RL 181 RX10 yX10_digest wsX10_digest) := goodIn_app (goodIn_of _ (by decide +kernel)) ggL_law_X10_digest
