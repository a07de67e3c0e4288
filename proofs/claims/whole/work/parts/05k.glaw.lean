/-! the law's words, on -/
set_option maxRecDepth 20000 in
theorem ggL_law_X10_clearOrders : GoodIn wsL_law wsX10_clearOrders := goodIn_r _ [755, 185, 579, 979, 980, 981, 982, 983, 984, 985, 986, 987, 988, 989, 990, 991, 992, 993] (by decide +kernel) (by decide +kernel)
set_option maxRecDepth 20000 in
theorem gL_law_X10_clearOrders : GoodIn wsL_law (wsV RL 168 RX10 yX10_clearOrders wsX10_clearOrders) := goodIn_app (goodIn_of _ (by decide +kernel)) ggL_law_X10_clearOrders
set_option maxRecDepth 20000 in
theorem ggL_law_L_undo : GoodIn wsL_law wsL_undo := goodIn_ca (goodIn_r _ [932, 103, 933, 934, 935, 2, 936, 123, 124, 20, 937, 16, 938, 939, 940, 19, 941, 73, 129, 130, 135, 136, 137, 15, 138, 139, 140, 141, 142, 143, 144, 37, 39, 43, 47, 145, 146, 147, 132, 133, 134, 148, 149, 150, 151, 152, 153, 154, 31, 155, 51, 52, 53, 54, 55, 56, 156, 157, 158, 42, 159, 160, 61, 62, 63, 161, 162, 163, 46, 164, 165, 67, 974, 975, 976, 977, 978, 1004, 1005, 1006, 994, 995, 996, 997, 998, 999, 1000, 1001, 1002, 1003, 1018, 1019, 1020, 1021, 1022, 1023, 1024, 1025, 1026, 1027, 1028, 1029, 1030] (by decide +kernel) (by decide +kernel)) (goodIn_sub (fun _ h => List.mem_append_right _ h) (by decide +kernel))
set_option maxRecDepth 20000 in
theorem gL_law_L_undo : GoodIn wsL_law (va_wsS RL 173 yL_undo wsL_undo) := goodIn_app (goodIn_of _ (by decide +kernel)) ggL_law_L_undo
set_option maxRecDepth 20000 in
theorem ggL_law_X10_undo : GoodIn wsL_law wsX10_undo := goodIn_r _ [945, 190, 92, 93, 181, 182, 183, 5, 184, 185, 979, 980, 981, 982, 983, 984, 985, 986, 987, 988, 989, 990, 991, 992, 993] (by decide +kernel) (by decide +kernel)
set_option maxRecDepth 20000 in
theorem gL_law_X10_undo : GoodIn wsL_law (wsV RL 176 RX10 yX10_undo wsX10_undo) := goodIn_app (goodIn_of _ (by decide +kernel)) ggL_law_X10_undo
