/-! the law's words, on -/
set_option maxRecDepth 20000 in
theorem ggL_law_X10_whole : GoodIn wsL_law wsX10_whole := goodIn_r _ [574, 178, 179, 5, 180, 181, 182, 183, 184, 185, 575, 576, 577, 578, 92, 579, 528, 529, 530, 531, 282, 283, 284, 285, 979, 980, 981, 982, 983, 984, 985, 986, 987, 988, 989, 990, 991, 992, 993] (by decide +kernel) (by decide +kernel)
set_option maxRecDepth 20000 in
theorem gL_law_X10_whole : GoodIn wsL_law (wsV RL 134 RX10 yX10_whole wsX10_whole) := goodIn_app (goodIn_of _ (by decide +kernel)) ggL_law_X10_whole
set_option maxRecDepth 20000 in
theorem ggL_law_X9_rounds : GoodIn wsL_law wsX9_rounds := goodIn_r _ [583, 28, 16, 230, 461, 584, 585, 586, 587, 27, 588, 589, 84, 86, 590, 337, 338, 31, 339, 340, 341, 342, 343, 51, 591, 563, 564, 565, 592, 593, 594, 595, 596, 87, 597, 598, 599, 600, 46, 601, 67, 237, 2, 238, 113, 114, 115, 602, 603, 604, 605, 606, 607, 608, 609, 610, 611, 612, 613, 614, 517, 518, 519, 56, 247, 248, 974, 975, 976, 977, 978, 994, 995, 996, 997, 998, 999, 1000, 1001, 1002, 1003, 1013, 1014, 1015, 1016, 1017, 1018, 1019, 1020, 1021, 1022, 1023, 1024, 1029, 1030] (by decide +kernel) (by decide +kernel)
set_option maxRecDepth 20000 in
theorem gL_law_X9_rounds : GoodIn wsL_law (wsV RL 135 RX9 yX9_rounds wsX9_rounds) := goodIn_app (goodIn_of _ (by decide +kernel)) ggL_law_X9_rounds
set_option maxRecDepth 20000 in
theorem ggL_law_X10_rounds : GoodIn wsL_law wsX10_rounds := goodIn_r _ [618, 185, 619, 620, 621, 622, 5, 623, 92, 624, 95, 625, 626, 627, 628, 629, 630, 631, 632, 528, 529, 530, 531, 979, 980, 981, 982, 983, 984, 985, 986, 987, 988, 989, 990, 991, 992, 993] (by decide +kernel) (by decide +kernel)
set_option maxRecDepth 20000 in
theorem gL_law_X10_rounds : GoodIn wsL_law (wsV RL 138 RX10 yX10_rounds wsX10_rounds) := goodIn_app (goodIn_of _ (by decide +kernel)) ggL_law_X10_rounds
set_option maxRecDepth 20000 in
theorem ggL_law_L_votes : GoodIn wsL_law wsL_votes := goodIn_ca (goodIn_ca (goodIn_ca (goodIn_r _ [635, 102, 225, 636, 637, 638, 2, 639, 121, 122, 28, 16, 230, 461, 268, 269, 270, 236, 237, 238, 113, 114, 115, 116, 117, 118, 119, 120, 123, 124, 585, 586, 587, 27, 588, 589, 84, 86, 590, 337, 338, 31, 339, 340, 341, 342, 343, 51, 591, 563, 564, 565, 592, 593, 594, 595, 596, 87, 597, 598, 599, 600, 46, 601, 67, 602, 603, 604, 605, 606, 607, 608, 609, 610, 611, 612, 613, 614, 517, 518, 519, 56, 247, 248, 640, 641, 642, 643, 974, 975, 976, 977, 978, 994, 995, 996, 997, 998, 999, 1000, 1001, 1002, 1003, 1013, 1014, 1015, 1016, 1017, 1018, 1019, 1020, 1021, 1022, 1023, 1024, 1029, 1030] (by decide +kernel) (by decide +kernel)) (goodIn_sub (fun _ h => List.mem_append_left _ (List.mem_append_right _ h)) (by decide +kernel))) (goodIn_sub (fun _ h => List.mem_append_left _ (List.mem_append_left _ (List.mem_append_right _ h))) (by decide +kernel))) (goodIn_sub (fun _ h => List.mem_append_right _ h) (by decide +kernel))
set_option maxRecDepth 20000 in
theorem gL_law_L_votes : GoodIn wsL_law (va_wsS RL 139 yL_votes wsL_votes) := goodIn_app (goodIn_of _ (by decide +kernel)) ggL_law_L_votes
set_option maxRecDepth 20000 in
theorem ggL_law_X10_votes : GoodIn wsL_law wsX10_votes := goodIn_r _ [647, 619, 95, 257, 258, 5, 259, 178, 179, 180, 181, 182, 183, 184, 185, 620, 621, 622, 623, 92, 624, 625, 626, 627, 628, 629, 630, 631, 632, 528, 529, 530, 531, 979, 980, 981, 982, 983, 984, 985, 986, 987, 988, 989, 990, 991, 992, 993] (by decide +kernel) (by decide +kernel)
set_option maxRecDepth 20000 in
theorem gL_law_X10_votes : GoodIn wsL_law (wsV RL 141 RX10 yX10_votes wsX10_votes) := goodIn_app (goodIn_of _ (by decide +kernel)) ggL_law_X10_votes
set_option maxRecDepth 20000 in
theorem ggL_law_X9_winner : GoodIn wsL_law wsX9_winner := goodIn_r _ [651, 28, 16, 230, 461, 652, 585, 586, 587, 27, 588, 589, 84, 86, 590, 337, 338, 31, 339, 340, 341, 342, 343, 51, 591, 563, 564, 565, 592, 593, 594, 595, 596, 87, 597, 598, 599, 600, 46, 601, 67, 237, 2, 238, 113, 114, 115, 602, 603, 604, 605, 606, 607, 608, 609, 610, 611, 612, 613, 614, 517, 518, 519, 56, 247, 248, 974, 975, 976, 977, 978, 994, 995, 996, 997, 998, 999, 1000, 1001, 1002, 1003, 1013, 1014, 1015, 1016, 1017, 1018, 1019, 1020, 1021, 1022, 1023, 1024, 1029, 1030] (by decide +kernel) (by decide +kernel)
set_option maxRecDepth 20000 in
theorem gL_law_X9_winner : GoodIn wsL_law (wsV RL 142 RX9 yX9_winner wsX9_winner) := goodIn_app (goodIn_of _ (by decide +kernel)) ggL_law_X9_winner
set_option maxRecDepth 20000 in
theorem ggL_law_X10_winner : GoodIn wsL_law wsX10_winner := goodIn_r _ [656, 185, 624, 620, 621, 622, 5, 623, 92, 619, 95, 625, 626, 627, 628, 629, 630, 631, 632, 528, 529, 530, 531, 979, 980, 981, 982, 983, 984, 985, 986, 987, 988, 989, 990, 991, 992, 993] (by decide +kernel) (by decide +kernel)
set_option maxRecDepth 20000 in
theorem gL_law_X10_winner : GoodIn wsL_law (wsV RL 145 RX10 yX10_winner wsX10_winner) := goodIn_app (goodIn_of _ (by decide +kernel)) ggL_law_X10_winner
set_option maxRecDepth 20000 in
theorem ggL_law_L_reason : GoodIn wsL_law wsL_reason := goodIn_ca (goodIn_ca (goodIn_ca (goodIn_r _ [659, 225, 102, 660, 661, 662, 2, 663, 16, 322, 323, 324, 325, 326, 327, 328, 329, 293, 294, 236, 237, 238, 113, 114, 115, 116, 117, 118, 119, 120, 121, 122, 123, 124, 330, 331, 332, 15, 333, 39, 334, 43, 335, 336, 337, 338, 31, 339, 340, 341, 342, 343, 51, 247, 248, 344, 345, 346, 42, 347, 61, 974, 975, 976, 977, 978, 994, 995, 996, 997, 998, 999, 1000, 1001, 1002, 1003, 1025, 1026, 1027, 1028, 1018, 1019, 1020, 1021, 1022, 1023, 1024] (by decide +kernel) (by decide +kernel)) (goodIn_sub (fun _ h => List.mem_append_left _ (List.mem_append_left _ (List.mem_append_right _ h))) (by decide +kernel))) (goodIn_sub (fun _ h => List.mem_append_left _ (List.mem_append_right _ h)) (by decide +kernel))) (goodIn_sub (fun _ h => List.mem_append_right _ h) (by decide +kernel))
set_option maxRecDepth 20000 in
theorem gL_law_L_reason : GoodIn wsL_law (va_wsS RL 146 yL_reason wsL_reason) := goodIn_app (goodIn_of _ (by decide +kernel)) ggL_law_L_reason
set_option maxRecDepth 20000 in
theorem ggL_law_X10_reason : GoodIn wsL_law wsX10_reason := goodIn_r _ [667, 372, 373, 374, 5, 375, 92, 178, 179, 180, 257, 258, 259, 376, 377, 378, 181, 182, 183, 184, 185, 379, 380, 381, 382, 383, 384, 385, 979, 980, 981, 982, 983, 984, 985, 986, 987, 988, 989, 990, 991, 992, 993] (by decide +kernel) (by decide +kernel)
set_option maxRecDepth 20000 in
theorem gL_law_X10_reason : GoodIn wsL_law (wsV RL 148 RX10 yX10_reason wsX10_reason) := goodIn_app (goodIn_of _ (by decide +kernel)) ggL_law_X10_reason
set_option maxRecDepth 20000 in
theorem ggL_law_L_volumeIn : GoodIn wsL_law wsL_volumeIn := goodIn_ca (goodIn_ca (goodIn_ca (goodIn_r _ [670, 225, 102, 671, 672, 673, 2, 674, 121, 122, 32, 16, 230, 268, 269, 270, 236, 237, 238, 113, 114, 115, 116, 117, 118, 119, 120, 123, 124, 675, 153, 154, 31, 155, 51, 52, 53, 54, 55, 56, 145, 146, 147, 132, 133, 134, 148, 149, 150, 151, 676, 677, 678, 679, 495, 680, 416, 417, 418, 57, 419, 247, 248, 420, 421, 422, 423, 424, 425, 426, 340, 341, 342, 343, 427, 428, 429, 430, 360, 361, 362, 363, 516, 517, 518, 519, 974, 975, 976, 977, 978, 994, 995, 996, 997, 998, 999, 1000, 1001, 1002, 1003, 1018, 1019, 1020, 1021, 1022, 1023, 1024] (by decide +kernel) (by decide +kernel)) (goodIn_sub (fun _ h => List.mem_append_left _ (List.mem_append_right _ h)) (by decide +kernel))) (goodIn_sub (fun _ h => List.mem_append_left _ (List.mem_append_left _ (List.mem_append_right _ h))) (by decide +kernel))) (goodIn_sub (fun _ h => List.mem_append_right _ h) (by decide +kernel))
set_option maxRecDepth 20000 in
theorem gL_law_L_volumeIn : GoodIn wsL_law (va_wsS RL 149 yL_volumeIn wsL_volumeIn) := goodIn_app (goodIn_of _ (by decide +kernel)) ggL_law_L_volumeIn
