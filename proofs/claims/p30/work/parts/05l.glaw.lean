/-! the law's words, on -/
set_option maxRecDepth 20000 in
theorem ggL_law_X9_hour_s9 : GoodIn wsL_law wsX40 := goodIn_r wsX40 [511, 512, 513, 514, 515, 516, 517] (by decide +kernel) (by decide +kernel)
set_option maxRecDepth 20000 in
theorem ggL_law_X9_hour_s10 : GoodIn wsL_law wsX60 := goodIn_r wsX60 [518, 519, 520, 521] (by decide +kernel) (by decide +kernel)
set_option maxRecDepth 20000 in
theorem ggL_law_X9_hour_s11 : GoodIn wsL_law wsX10 := goodIn_r wsX10 [522, 523] (by decide +kernel) (by decide +kernel)
set_option maxRecDepth 20000 in
theorem ggL_law_X9_hour : GoodIn wsL_law wsX9_hour := (goodIn_app (a := [.code yX9_hour cX9_hour 2 (some .int)]) ggL_law_X9_hour_c (goodIn_app (goodIn_app (goodIn_app (goodIn_app (goodIn_app (goodIn_app (goodIn_app ggL_law_X9_hour_s1 (goodIn_app ggL_law_X9_hour_s2 (goodIn_app ggL_law_X9_hour_s3 (goodIn_app ggL_law_X9_hour_s4 ggL_law_X9_hour_s5)))) ggL_law_X9_hour_s6) ggL_law_X9_hour_s7) ggL_law_X9_hour_s8) ggL_law_X9_hour_s9) ggL_law_X9_hour_s10) ggL_law_X9_hour_s11))
set_option maxRecDepth 20000 in
theorem gL_law_X9_hour : GoodIn wsL_law (wsV RL 54 RX9 yX9_hour wsX9_hour) := goodIn_app (goodIn_of _ (by decide +kernel)) ggL_law_X9_hour
set_option maxRecDepth 20000 in
theorem ggL_law_X9_site : GoodIn wsL_law wsX9_site := goodIn_ca (goodIn_ca (goodIn_ca (goodIn_r _ [221, 101, 102, 12, 179, 222, 185, 223, 181, 212, 213, 2, 214, 215, 216, 217, 93, 94, 95, 96, 97, 98, 99, 100, 103, 104, 224, 200, 201, 27, 202, 47, 52, 203, 204, 482, 483, 484, 485, 486, 487, 488, 489, 490, 491, 492, 493, 494, 495, 496, 511, 512, 513, 514, 515, 516, 517] (by decide +kernel) (by decide +kernel)) (goodIn_sub (fun _ h => List.mem_append_left _ (List.mem_append_right _ h)) (by decide +kernel))) (goodIn_sub (fun _ h => List.mem_append_left _ (List.mem_append_left _ (List.mem_append_right _ h))) (by decide +kernel))) (goodIn_sub (fun _ h => List.mem_append_right _ h) (by decide +kernel))
set_option maxRecDepth 20000 in
theorem gL_law_X9_site : GoodIn wsL_law (wsV RL 30 RX9 yX9_site wsX9_site) := goodIn_app (goodIn_of _ (by decide +kernel)) ggL_law_X9_site
set_option maxRecDepth 20000 in
theorem ggL_law_X9_undo_c : GoodIn wsL_law [.code yX9_undo cX9_undo 1 (some .int)] := goodIn_r [.code yX9_undo cX9_undo 1 (some .int)] [477] (by decide +kernel) (by decide +kernel)
set_option maxRecDepth 20000 in
theorem ggL_law_X9_undo_s1 : GoodIn wsL_law wsX9_undo_r1 := goodIn_r wsX9_undo_r1 [103, 104, 16, 447, 12, 478, 479, 480, 15, 481, 69, 109, 110, 115, 116, 117, 11, 118, 119, 120, 121, 122, 123, 124] (by decide +kernel) (by decide +kernel)
set_option maxRecDepth 20000 in
theorem ggL_law_X9_undo_s2 : GoodIn wsL_law wsX9_undo_r2 := goodIn_r wsX9_undo_r2 [33, 35, 39, 43, 125, 2, 126, 127, 112, 113, 114, 128, 129, 130, 131, 132, 133, 134, 27, 135, 47, 48, 49, 50] (by decide +kernel) (by decide +kernel)
set_option maxRecDepth 20000 in
theorem ggL_law_X9_undo_s3 : GoodIn wsL_law wsX9_undo_r3 := goodIn_r wsX9_undo_r3 [51, 52, 136, 137, 138, 38, 139, 140, 57, 58, 59, 141, 142, 143, 42, 144, 145, 63] (by decide +kernel) (by decide +kernel)
set_option maxRecDepth 20000 in
theorem ggL_law_X9_undo_s4 : GoodIn wsL_law wsX90 := goodIn_r wsX90 [482, 483, 484, 485, 486] (by decide +kernel) (by decide +kernel)
set_option maxRecDepth 20000 in
theorem ggL_law_X9_undo_s5 : GoodIn wsL_law wsX70 := goodIn_r wsX70 [497, 498, 499] (by decide +kernel) (by decide +kernel)
set_option maxRecDepth 20000 in
theorem ggL_law_X9_undo_s6 : GoodIn wsL_law wsX50 := goodIn_r wsX50 [487, 488, 489, 490, 491, 492, 493, 494, 495, 496] (by decide +kernel) (by decide +kernel)
set_option maxRecDepth 20000 in
theorem ggL_law_X9_undo_s7 : GoodIn wsL_law wsX40 := goodIn_r wsX40 [511, 512, 513, 514, 515, 516, 517] (by decide +kernel) (by decide +kernel)
set_option maxRecDepth 20000 in
theorem ggL_law_X9_undo_s8 : GoodIn wsL_law wsX60 := goodIn_r wsX60 [518, 519, 520, 521] (by decide +kernel) (by decide +kernel)
set_option maxRecDepth 20000 in
theorem ggL_law_X9_undo_s9 : GoodIn wsL_law wsX10 := goodIn_r wsX10 [522, 523] (by decide +kernel) (by decide +kernel)
set_option maxRecDepth 20000 in
theorem ggL_law_X9_undo : GoodIn wsL_law wsX9_undo := goodIn_ca (goodIn_app (a := [.code yX9_undo cX9_undo 1 (some .int)]) ggL_law_X9_undo_c (goodIn_app (goodIn_app (goodIn_app (goodIn_app (goodIn_app (goodIn_app (goodIn_app ggL_law_X9_undo_s1 (goodIn_app ggL_law_X9_undo_s2 ggL_law_X9_undo_s3)) ggL_law_X9_undo_s4) ggL_law_X9_undo_s5) ggL_law_X9_undo_s6) ggL_law_X9_undo_s7) ggL_law_X9_undo_s8) ggL_law_X9_undo_s9)) (goodIn_sub (fun _ h => List.mem_append_right _ h) (by decide +kernel))
set_option maxRecDepth 20000 in
theorem gL_law_X9_undo : GoodIn wsL_law (wsV RL 103 RX9 yX9_undo wsX9_undo) := goodIn_app (goodIn_of _ (by decide +kernel)) ggL_law_X9_undo
