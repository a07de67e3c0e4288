/-! the law's words, on -/
set_option maxRecDepth 20000 in
theorem ggL_law_X10_ballot : GoodIn wsL_law wsX10_ballot := goodIn_r _ [477, 92, 257, 258, 5, 259, 178, 179, 180, 181, 182, 183, 184, 185, 186, 187, 188, 189, 190, 93, 979, 980, 981, 982, 983, 984, 985, 986, 987, 988, 989, 990, 991, 992, 993] (by decide +kernel) (by decide +kernel)
set_option maxRecDepth 20000 in
theorem gL_law_X10_ballot : GoodIn wsL_law (wsV RL 118 RX10 yX10_ballot wsX10_ballot) := goodIn_app (goodIn_of _ (by decide +kernel)) ggL_law_X10_ballot
set_option maxRecDepth 20000 in
theorem ggL_law_X9_clearBallots : GoodIn wsL_law wsX9_clearBallots := goodIn_r _ [481, 20, 16, 461, 462, 125, 126, 127, 19, 128, 129, 73, 130, 131, 132, 133, 134, 135, 136, 137, 15, 138, 139, 140, 141, 142, 143, 144, 37, 39, 43, 47, 145, 2, 146, 147, 148, 149, 150, 151, 152, 153, 154, 31, 155, 51, 52, 53, 54, 55, 56, 156, 157, 158, 42, 159, 160, 61, 62, 63, 161, 162, 163, 46, 164, 165, 67, 974, 975, 976, 977, 978, 994, 995, 996, 997, 998, 999, 1000, 1001, 1002, 1003, 1029, 1030, 1004, 1005, 1006, 1018, 1019, 1020, 1021, 1022, 1023, 1024, 1025, 1026, 1027, 1028] (by decide +kernel) (by decide +kernel)
set_option maxRecDepth 20000 in
theorem gL_law_X9_clearBallots : GoodIn wsL_law (wsV RL 119 RX9 yX9_clearBallots wsX9_clearBallots) := goodIn_app (goodIn_of _ (by decide +kernel)) ggL_law_X9_clearBallots
set_option maxRecDepth 20000 in
theorem ggL_law_X10_clearBallots : GoodIn wsL_law wsX10_clearBallots := goodIn_r _ [485, 185, 92, 186, 187, 188, 5, 189, 190, 93, 979, 980, 981, 982, 983, 984, 985, 986, 987, 988, 989, 990, 991, 992, 993] (by decide +kernel) (by decide +kernel)
set_option maxRecDepth 20000 in
theorem gL_law_X10_clearBallots : GoodIn wsL_law (wsV RL 122 RX10 yX10_clearBallots wsX10_clearBallots) := goodIn_app (goodIn_of _ (by decide +kernel)) ggL_law_X10_clearBallots
set_option maxRecDepth 20000 in
theorem ggL_law_L_block : GoodIn wsL_law wsL_block := goodIn_ca (goodIn_ca (goodIn_ca (goodIn_r _ [488, 225, 102, 489, 490, 491, 2, 492, 121, 122, 16, 230, 493, 494, 495, 268, 269, 270, 236, 237, 238, 113, 114, 115, 116, 117, 118, 119, 120, 123, 124, 496, 337, 338, 31, 339, 340, 341, 342, 343, 51, 497, 247, 248, 498, 424, 425, 426, 52, 974, 975, 976, 977, 978, 994, 995, 996, 997, 998, 999, 1000, 1001, 1002, 1003, 1018, 1019, 1020, 1021, 1022, 1023, 1024] (by decide +kernel) (by decide +kernel)) (goodIn_sub (fun _ h => List.mem_append_left _ (List.mem_append_right _ h)) (by decide +kernel))) (goodIn_sub (fun _ h => List.mem_append_left _ (List.mem_append_left _ (List.mem_append_right _ h))) (by decide +kernel))) (goodIn_sub (fun _ h => List.mem_append_right _ h) (by decide +kernel))
set_option maxRecDepth 20000 in
theorem gL_law_L_block : GoodIn wsL_law (va_wsS RL 123 yL_block wsL_block) := goodIn_app (goodIn_of _ (by decide +kernel)) ggL_law_L_block
set_option maxRecDepth 20000 in
theorem ggL_law_X10_block : GoodIn wsL_law wsX10_block := goodIn_r _ [502, 257, 258, 5, 259, 178, 179, 180, 376, 377, 378, 181, 182, 183, 184, 185, 503, 504, 505, 506, 92, 446, 447, 448, 449, 450, 451, 452, 453, 979, 980, 981, 982, 983, 984, 985, 986, 987, 988, 989, 990, 991, 992, 993] (by decide +kernel) (by decide +kernel)
set_option maxRecDepth 20000 in
theorem gL_law_X10_block : GoodIn wsL_law (wsV RL 125 RX10 yX10_block wsX10_block) := goodIn_app (goodIn_of _ (by decide +kernel)) ggL_law_X10_block
set_option maxRecDepth 20000 in
theorem ggL_law_L_site : GoodIn wsL_law wsL_site := goodIn_ca (goodIn_ca (goodIn_ca (goodIn_r _ [509, 225, 102, 510, 511, 512, 2, 513, 121, 122, 16, 230, 231, 267, 514, 515, 268, 269, 270, 236, 237, 238, 113, 114, 115, 116, 117, 118, 119, 120, 123, 124, 516, 517, 518, 31, 519, 51, 56, 247, 248, 974, 975, 976, 977, 978, 994, 995, 996, 997, 998, 999, 1000, 1001, 1002, 1003, 1018, 1019, 1020, 1021, 1022, 1023, 1024] (by decide +kernel) (by decide +kernel)) (goodIn_sub (fun _ h => List.mem_append_left _ (List.mem_append_right _ h)) (by decide +kernel))) (goodIn_sub (fun _ h => List.mem_append_left _ (List.mem_append_left _ (List.mem_append_right _ h))) (by decide +kernel))) (goodIn_sub (fun _ h => List.mem_append_right _ h) (by decide +kernel))
set_option maxRecDepth 20000 in
theorem gL_law_L_site : GoodIn wsL_law (va_wsS RL 126 yL_site wsL_site) := goodIn_app (goodIn_of _ (by decide +kernel)) ggL_law_L_site
set_option maxRecDepth 20000 in
theorem ggL_law_X10_site : GoodIn wsL_law wsX10_site := goodIn_r _ [523, 257, 258, 5, 259, 178, 179, 180, 181, 182, 183, 184, 185, 524, 525, 526, 527, 92, 528, 529, 530, 531, 979, 980, 981, 982, 983, 984, 985, 986, 987, 988, 989, 990, 991, 992, 993] (by decide +kernel) (by decide +kernel)
set_option maxRecDepth 20000 in
theorem gL_law_X10_site : GoodIn wsL_law (wsV RL 128 RX10 yX10_site wsX10_site) := goodIn_app (goodIn_of _ (by decide +kernel)) ggL_law_X10_site
set_option maxRecDepth 20000 in
theorem ggL_law_L_tool : GoodIn wsL_law wsL_tool := goodIn_ca (goodIn_ca (goodIn_r _ [534, 225, 102, 535, 536, 537, 2, 538, 119, 120, 121, 122, 16, 293, 539, 540, 541, 326, 327, 328, 329, 294, 974, 975, 976, 977, 978, 994, 995, 996, 997, 998, 999, 1000, 1001, 1002, 1003, 1025, 1026, 1027, 1028] (by decide +kernel) (by decide +kernel)) (goodIn_sub (fun _ h => List.mem_append_left _ (List.mem_append_left _ (List.mem_append_right _ h))) (by decide +kernel))) (goodIn_sub (fun _ h => List.mem_append_left _ (List.mem_append_right _ h)) (by decide +kernel))
set_option maxRecDepth 20000 in
theorem gL_law_L_tool : GoodIn wsL_law (va_wsS RL 129 yL_tool wsL_tool) := goodIn_app (goodIn_of _ (by decide +kernel)) ggL_law_L_tool
set_option maxRecDepth 20000 in
theorem ggL_law_X10_tool : GoodIn wsL_law wsX10_tool := goodIn_r _ [545, 372, 373, 374, 5, 375, 92, 178, 179, 180, 181, 182, 183, 184, 185, 546, 547, 548, 549, 979, 980, 981, 982, 983, 984, 985, 986, 987, 988, 989, 990, 991, 992, 993] (by decide +kernel) (by decide +kernel)
set_option maxRecDepth 20000 in
theorem gL_law_X10_tool : GoodIn wsL_law (wsV RL 131 RX10 yX10_tool wsX10_tool) := goodIn_app (goodIn_of _ (by decide +kernel)) ggL_law_X10_tool
set_option maxRecDepth 20000 in
theorem ggL_law_L_whole : GoodIn wsL_law wsL_whole := goodIn_ca (goodIn_r _ [552, 102, 553, 554, 555, 2, 556, 121, 122, 16, 108, 202, 557, 230, 558, 515, 559, 293, 294, 267, 495, 560, 461, 462, 24, 561, 562, 563, 564, 31, 565, 51, 566, 567, 568, 569, 570, 517, 518, 519, 56, 247, 248, 271, 272, 273, 974, 975, 976, 977, 978, 994, 995, 996, 997, 998, 999, 1000, 1001, 1002, 1003, 1018, 1019, 1020, 1021, 1022, 1023, 1024, 1025, 1026, 1027, 1028, 1029, 1030, 1007, 1008, 1009, 1010, 1011, 1012] (by decide +kernel) (by decide +kernel)) (goodIn_sub (fun _ h => List.mem_append_left _ (List.mem_append_right _ h)) (by decide +kernel))
set_option maxRecDepth 20000 in
theorem gL_law_L_whole : GoodIn wsL_law (va_wsS RL 132 yL_whole wsL_whole) := goodIn_app (goodIn_of _ (by decide +kernel)) ggL_law_L_whole
