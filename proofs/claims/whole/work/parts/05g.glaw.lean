/-! the law's words, on -/
set_option maxRecDepth 20000 in
theorem ggL_law_X10_volumeIn : GoodIn wsL_law wsX10_volumeIn := goodIn_r _ [684, 257, 258, 5, 259, 178, 179, 180, 181, 182, 183, 184, 185, 685, 686, 687, 688, 94, 92, 689, 690, 691, 692, 439, 440, 441, 442, 443, 444, 445, 446, 447, 448, 449, 450, 451, 452, 453, 386, 387, 388, 389, 528, 529, 530, 531, 693, 694, 695, 696, 979, 980, 981, 982, 983, 984, 985, 986, 987, 988, 989, 990, 991, 992, 993] (by decide +kernel) (by decide +kernel)
set_option maxRecDepth 20000 in
theorem gL_law_X10_volumeIn : GoodIn wsL_law (wsV RL 151 RX10 yX10_volumeIn wsX10_volumeIn) := goodIn_app (goodIn_of _ (by decide +kernel)) ggL_law_X10_volumeIn
set_option maxRecDepth 20000 in
theorem ggL_law_L_goneIn : GoodIn wsL_law wsL_goneIn := goodIn_ca (goodIn_ca (goodIn_ca (goodIn_r _ [699, 225, 700, 701, 702, 2, 703, 16, 230, 32, 495, 268, 269, 270, 236, 237, 238, 113, 114, 115, 116, 117, 118, 119, 120, 121, 122, 123, 124, 496, 337, 338, 31, 339, 340, 341, 342, 343, 51, 675, 153, 154, 155, 52, 53, 54, 55, 56, 145, 146, 147, 132, 133, 134, 148, 149, 150, 151, 680, 416, 417, 418, 57, 419, 247, 248, 420, 421, 422, 423, 424, 425, 426, 427, 428, 429, 430, 360, 361, 362, 363, 974, 975, 976, 977, 978, 994, 995, 996, 997, 998, 999, 1000, 1001, 1002, 1003, 1018, 1019, 1020, 1021, 1022, 1023, 1024] (by decide +kernel) (by decide +kernel)) (goodIn_sub (fun _ h => List.mem_append_left _ (List.mem_append_left _ (List.mem_append_right _ h))) (by decide +kernel))) (goodIn_sub (fun _ h => List.mem_append_left _ (List.mem_append_right _ h)) (by decide +kernel))) (goodIn_sub (fun _ h => List.mem_append_right _ h) (by decide +kernel))
set_option maxRecDepth 20000 in
theorem gL_law_L_goneIn : GoodIn wsL_law (va_wsS RL 152 yL_goneIn wsL_goneIn) := goodIn_app (goodIn_of _ (by decide +kernel)) ggL_law_L_goneIn
set_option maxRecDepth 20000 in
theorem ggL_law_X10_goneIn : GoodIn wsL_law wsX10_goneIn := goodIn_r _ [707, 92, 257, 258, 5, 259, 178, 179, 180, 181, 182, 183, 184, 185, 685, 686, 687, 688, 94, 439, 440, 441, 442, 443, 444, 445, 446, 447, 448, 449, 450, 451, 452, 453, 386, 387, 388, 389, 693, 694, 695, 696, 979, 980, 981, 982, 983, 984, 985, 986, 987, 988, 989, 990, 991, 992, 993] (by decide +kernel) (by decide +kernel)
set_option maxRecDepth 20000 in
theorem gL_law_X10_goneIn : GoodIn wsL_law (wsV RL 154 RX10 yX10_goneIn wsX10_goneIn) := goodIn_app (goodIn_of _ (by decide +kernel)) ggL_law_X10_goneIn
set_option maxRecDepth 20000 in
theorem ggL_law_X9_bestWall : GoodIn wsL_law wsX9_bestWall := goodIn_r _ [711, 32, 16, 230, 267, 675, 153, 154, 31, 155, 51, 52, 53, 54, 55, 56, 145, 2, 146, 147, 132, 133, 134, 148, 149, 150, 151, 676, 677, 678, 679, 495, 680, 416, 417, 418, 57, 419, 247, 248, 420, 421, 422, 423, 424, 425, 426, 340, 341, 342, 343, 427, 428, 429, 430, 360, 361, 362, 363, 974, 975, 976, 977, 978, 994, 995, 996, 997, 998, 999, 1000, 1001, 1002, 1003, 1018, 1019, 1020, 1021, 1022, 1023, 1024] (by decide +kernel) (by decide +kernel)
set_option maxRecDepth 20000 in
theorem gL_law_X9_bestWall : GoodIn wsL_law (wsV RL 155 RX9 yX9_bestWall wsX9_bestWall) := goodIn_app (goodIn_of _ (by decide +kernel)) ggL_law_X9_bestWall
set_option maxRecDepth 20000 in
theorem ggL_law_X10_bestWall : GoodIn wsL_law wsX10_bestWall := goodIn_r _ [715, 185, 716, 717, 718, 5, 719, 92, 685, 686, 687, 688, 94, 689, 690, 691, 692, 439, 440, 441, 442, 443, 444, 445, 446, 447, 448, 449, 450, 451, 452, 453, 257, 258, 259, 178, 179, 180, 386, 387, 388, 389, 693, 694, 695, 696, 979, 980, 981, 982, 983, 984, 985, 986, 987, 988, 989, 990, 991, 992, 993] (by decide +kernel) (by decide +kernel)
set_option maxRecDepth 20000 in
theorem gL_law_X10_bestWall : GoodIn wsL_law (wsV RL 158 RX10 yX10_bestWall wsX10_bestWall) := goodIn_app (goodIn_of _ (by decide +kernel)) ggL_law_X10_bestWall
set_option maxRecDepth 20000 in
theorem ggL_law_L_minutesFor : GoodIn wsL_law wsL_minutesFor := goodIn_ca (goodIn_ca (goodIn_r _ [722, 225, 102, 723, 724, 725, 2, 726, 119, 120, 121, 122, 16, 293, 326, 327, 328, 329, 294, 113, 114, 115, 727, 345, 346, 42, 347, 61, 974, 975, 976, 977, 978, 994, 995, 996, 997, 998, 999, 1000, 1001, 1002, 1003, 1025, 1026, 1027, 1028] (by decide +kernel) (by decide +kernel)) (goodIn_sub (fun _ h => List.mem_append_left _ (List.mem_append_left _ (List.mem_append_right _ h))) (by decide +kernel))) (goodIn_sub (fun _ h => List.mem_append_left _ (List.mem_append_right _ h)) (by decide +kernel))
set_option maxRecDepth 20000 in
theorem gL_law_L_minutesFor : GoodIn wsL_law (va_wsS RL 159 yL_minutesFor wsL_minutesFor) := goodIn_app (goodIn_of _ (by decide +kernel)) ggL_law_L_minutesFor
set_option maxRecDepth 20000 in
theorem ggL_law_X10_minutesFor : GoodIn wsL_law wsX10_minutesFor := goodIn_r _ [731, 92, 372, 373, 374, 5, 375, 178, 179, 180, 181, 182, 183, 184, 185, 383, 384, 385, 979, 980, 981, 982, 983, 984, 985, 986, 987, 988, 989, 990, 991, 992, 993] (by decide +kernel) (by decide +kernel)
set_option maxRecDepth 20000 in
theorem gL_law_X10_minutesFor : GoodIn wsL_law (wsV RL 161 RX10 yX10_minutesFor wsX10_minutesFor) := goodIn_app (goodIn_of _ (by decide +kernel)) ggL_law_X10_minutesFor
set_option maxRecDepth 20000 in
theorem ggL_law_L_type : GoodIn wsL_law wsL_type := goodIn_ca (goodIn_ca (goodIn_r _ [734, 102, 103, 735, 736, 737, 2, 738, 121, 122, 123, 124, 24, 561, 113, 114, 115, 739, 740, 741, 23, 742, 80, 743, 974, 975, 976, 977, 978, 1007, 1008, 1009, 1010, 1011, 1012] (by decide +kernel) (by decide +kernel)) (goodIn_sub (fun _ h => List.mem_append_left _ (List.mem_append_right _ h)) (by decide +kernel))) (goodIn_sub (fun _ h => List.mem_append_right _ h) (by decide +kernel))
set_option maxRecDepth 20000 in
theorem gL_law_L_type : GoodIn wsL_law (va_wsS RL 162 yL_type wsL_type) := goodIn_app (goodIn_of _ (by decide +kernel)) ggL_law_L_type
set_option maxRecDepth 20000 in
theorem ggL_law_X10_type : GoodIn wsL_law wsX10_type := goodIn_r _ [747, 579, 96, 178, 179, 5, 180, 181, 182, 183, 184, 185, 979, 980, 981, 982, 983, 984, 985, 986, 987, 988, 989, 990, 991, 992, 993] (by decide +kernel) (by decide +kernel)
set_option maxRecDepth 20000 in
theorem gL_law_X10_type : GoodIn wsL_law (wsV RL 164 RX10 yX10_type wsX10_type) := goodIn_app (goodIn_of _ (by decide +kernel)) ggL_law_X10_type
set_option maxRecDepth 20000 in
theorem ggL_law_X9_clearOrders : GoodIn wsL_law wsX9_clearOrders := goodIn_r _ [751, 24, 561, 974, 975, 976, 977, 978, 1007, 1008, 1009, 1010, 1011, 1012] (by decide +kernel) (by decide +kernel)
set_option maxRecDepth 20000 in
theorem gL_law_X9_clearOrders : GoodIn wsL_law (wsV RL 165 RX9 yX9_clearOrders wsX9_clearOrders) := goodIn_app (goodIn_of _ (by decide +kernel)) ggL_law_X9_clearOrders
