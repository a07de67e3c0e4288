/-! the law's words, on -/
set_option maxRecDepth 20000 in
theorem gL_areSitesSo_X9_whole : GoodIn wsL_areSitesSo (wsV RL 14 RX9 yX9_whole wsX9_whole) := goodIn_app (goodIn_of _ (by decide +kernel)) ggL_areSitesSo_X9_whole
set_option maxRecDepth 20000 in
theorem ggL_isCountSo_X9_rounds_c : GoodIn wsL_isCountSo [.code yX9_rounds cX9_rounds 1 (some .int)] := goodIn_r [.code yX9_rounds cX9_rounds 1 (some .int)] [5] (by decide +kernel) (by decide +kernel)
set_option maxRecDepth 20000 in
theorem ggL_isCountSo_X9_rounds_s1 : GoodIn wsL_isCountSo wsX9_rounds_r1 := goodIn_r wsX9_rounds_r1 [6, 7, 8, 9, 10, 11, 12, 13, 14, 15, 16, 17, 18, 19, 20, 21, 22, 23, 24, 25, 26, 27, 28, 29] (by decide +kernel) (by decide +kernel)
set_option maxRecDepth 20000 in
theorem ggL_isCountSo_X9_rounds_s2 : GoodIn wsL_isCountSo wsX9_rounds_r2 := goodIn_r wsX9_rounds_r2 [30, 31, 32, 33, 34, 35, 36, 37, 38, 39, 40, 41, 42, 43, 44, 45, 46, 4, 47, 48, 49, 50, 51, 52] (by decide +kernel) (by decide +kernel)
set_option maxRecDepth 20000 in
theorem ggL_isCountSo_X9_rounds_s3 : GoodIn wsL_isCountSo wsX9_rounds_r3 := goodIn_r wsX9_rounds_r3 [53, 54, 55, 56, 57, 58, 59, 60, 61, 62, 63, 64, 65, 66, 67, 68, 69] (by decide +kernel) (by decide +kernel)
set_option maxRecDepth 20000 in
theorem ggL_isCountSo_X9_rounds_s4 : GoodIn wsL_isCountSo wsX90 := goodIn_r wsX90 [123, 124, 125, 126, 127] (by decide +kernel) (by decide +kernel)
set_option maxRecDepth 20000 in
theorem ggL_isCountSo_X9_rounds_s5 : GoodIn wsL_isCountSo wsX50 := goodIn_r wsX50 [128, 129, 130, 131, 132, 133, 134, 135, 136, 137] (by decide +kernel) (by decide +kernel)
set_option maxRecDepth 20000 in
theorem ggL_isCountSo_X9_rounds_s6 : GoodIn wsL_isCountSo wsX20 := goodIn_r wsX20 [138, 139, 140, 141, 142] (by decide +kernel) (by decide +kernel)
set_option maxRecDepth 20000 in
theorem ggL_isCountSo_X9_rounds_s7 : GoodIn wsL_isCountSo wsX40 := goodIn_r wsX40 [143, 144, 145, 146, 147, 148, 149] (by decide +kernel) (by decide +kernel)
set_option maxRecDepth 20000 in
theorem ggL_isCountSo_X9_rounds_s8 : GoodIn wsL_isCountSo wsX10 := goodIn_r wsX10 [150, 151] (by decide +kernel) (by decide +kernel)
set_option maxRecDepth 20000 in
theorem ggL_isCountSo_X9_rounds : GoodIn wsL_isCountSo wsX9_rounds := (goodIn_app (a := [.code yX9_rounds cX9_rounds 1 (some .int)]) ggL_isCountSo_X9_rounds_c (goodIn_app (goodIn_app (goodIn_app (goodIn_app (goodIn_app (goodIn_app ggL_isCountSo_X9_rounds_s1 (goodIn_app ggL_isCountSo_X9_rounds_s2 ggL_isCountSo_X9_rounds_s3)) ggL_isCountSo_X9_rounds_s4) ggL_isCountSo_X9_rounds_s5) ggL_isCountSo_X9_rounds_s6) ggL_isCountSo_X9_rounds_s7) ggL_isCountSo_X9_rounds_s8))
set_option maxRecDepth 20000 in
theorem gL_isCountSo_X9_rounds : GoodIn wsL_isCountSo (wsV RL 74 RX9 yX9_rounds wsX9_rounds) := goodIn_app (goodIn_of _ (by decide +kernel)) ggL_isCountSo_X9_rounds
set_option maxRecDepth 20000 in
theorem ggL_isCountSo_X9_whole : GoodIn wsL_isCountSo wsX9_whole := goodIn_ca (goodIn_r _ [73, 74, 75, 7, 76, 77, 78, 8, 79, 80, 81, 82, 83, 84, 85, 86, 9, 87, 88, 89, 90, 30, 31, 22, 32, 28, 91, 92, 93, 94, 95, 64, 65, 66, 67, 68, 4, 69, 96, 97, 98, 123, 124, 125, 126, 127, 128, 129, 130, 131, 132, 133, 134, 135, 136, 137, 143, 144, 145, 146, 147, 148, 149, 152, 153, 154, 155, 150, 151, 156, 157, 158, 159, 160, 161] (by decide +kernel) (by decide +kernel)) (goodIn_sub (fun _ h => List.mem_cons_of_mem _ (List.mem_append_left _ (List.mem_append_left _ (List.mem_append_right _ h)))) (by decide +kernel))
set_option maxRecDepth 20000 in
theorem gL_isCountSo_X9_whole : GoodIn wsL_isCountSo (wsV RL 14 RX9 yX9_whole wsX9_whole) := goodIn_app (goodIn_of _ (by decide +kernel)) ggL_isCountSo_X9_whole
set_option maxRecDepth 20000 in
theorem ggL_isCountSo_X9_winner_c : GoodIn wsL_isCountSo [.code yX9_winner cX9_winner 1 (some .int)] := goodIn_r [.code yX9_winner cX9_winner 1 (some .int)] [102] (by decide +kernel) (by decide +kernel)
set_option maxRecDepth 20000 in
theorem ggL_isCountSo_X9_winner_s1 : GoodIn wsL_isCountSo wsX9_winner_r1 := goodIn_r wsX9_winner_r1 [6, 7, 8, 9, 103, 11, 12, 13, 14, 15, 16, 17, 18, 19, 20, 21, 22, 23, 24, 25, 26, 27, 28, 29] (by decide +kernel) (by decide +kernel)
set_option maxRecDepth 20000 in
theorem ggL_isCountSo_X9_winner_s2 : GoodIn wsL_isCountSo wsX9_winner_r2 := goodIn_r wsX9_winner_r2 [30, 31, 32, 33, 34, 35, 36, 37, 38, 39, 40, 41, 42, 43, 44, 45, 46, 4, 47, 48, 49, 50, 51, 52] (by decide +kernel) (by decide +kernel)
set_option maxRecDepth 20000 in
theorem ggL_isCountSo_X9_winner_s3 : GoodIn wsL_isCountSo wsX9_winner_r3 := goodIn_r wsX9_winner_r3 [53, 54, 55, 56, 57, 58, 59, 60, 61, 62, 63, 64, 65, 66, 67, 68, 69] (by decide +kernel) (by decide +kernel)
set_option maxRecDepth 20000 in
theorem ggL_isCountSo_X9_winner_s4 : GoodIn wsL_isCountSo wsX90 := goodIn_r wsX90 [123, 124, 125, 126, 127] (by decide +kernel) (by decide +kernel)
set_option maxRecDepth 20000 in
theorem ggL_isCountSo_X9_winner_s5 : GoodIn wsL_isCountSo wsX50 := goodIn_r wsX50 [128, 129, 130, 131, 132, 133, 134, 135, 136, 137] (by decide +kernel) (by decide +kernel)
set_option maxRecDepth 20000 in
theorem ggL_isCountSo_X9_winner_s6 : GoodIn wsL_isCountSo wsX20 := goodIn_r wsX20 [138, 139, 140, 141, 142] (by decide +kernel) (by decide +kernel)
set_option maxRecDepth 20000 in
theorem ggL_isCountSo_X9_winner_s7 : GoodIn wsL_isCountSo wsX40 := goodIn_r wsX40 [143, 144, 145, 146, 147, 148, 149] (by decide +kernel) (by decide +kernel)
set_option maxRecDepth 20000 in
theorem ggL_isCountSo_X9_winner_s8 : GoodIn wsL_isCountSo wsX10 := goodIn_r wsX10 [150, 151] (by decide +kernel) (by decide +kernel)
set_option maxRecDepth 20000 in
theorem ggL_isCountSo_X9_winner : GoodIn wsL_isCountSo wsX9_winner := (goodIn_app (a := [.code yX9_winner cX9_winner 1 (some .int)]) ggL_isCountSo_X9_winner_c (goodIn_app (goodIn_app (goodIn_app (goodIn_app (goodIn_app (goodIn_app ggL_isCountSo_X9_winner_s1 (goodIn_app ggL_isCountSo_X9_winner_s2 ggL_isCountSo_X9_winner_s3)) ggL_isCountSo_X9_winner_s4) ggL_isCountSo_X9_winner_s5) ggL_isCountSo_X9_winner_s6) ggL_isCountSo_X9_winner_s7) ggL_isCountSo_X9_winner_s8))
set_option maxRecDepth 20000 in
theorem gL_isCountSo_X9_winner : GoodIn wsL_isCountSo (wsV RL 77 RX9 yX9_winner wsX9_winner) := goodIn_app (goodIn_of _ (by decide +kernel)) ggL_isCountSo_X9_winner
set_option maxRecDepth 20000 in
theorem ggL_isCountSo_X9_votes_c : GoodIn wsL_isCountSo [.code yX9_votes cX9_votes 3 (some .int)] := goodIn_r [.code yX9_votes cX9_votes 3 (some .int)] [107] (by decide +kernel) (by decide +kernel)
set_option maxRecDepth 20000 in
theorem ggL_isCountSo_X9_votes_s1 : GoodIn wsL_isCountSo wsX9_votes_r1 := goodIn_r wsX9_votes_r1 [74, 75, 6, 7, 8, 9, 108, 109, 4, 110, 111, 46, 47, 48, 49, 50, 112, 113, 114, 115, 116, 117, 118, 11] (by decide +kernel) (by decide +kernel)
set_option maxRecDepth 20000 in
theorem ggL_isCountSo_X9_votes_s2 : GoodIn wsL_isCountSo wsX9_votes_r2 := goodIn_r wsX9_votes_r2 [12, 13, 14, 15, 16, 17, 18, 19, 20, 21, 22, 23, 24, 25, 26, 27, 28, 29, 30, 31, 32, 33, 34, 35] (by decide +kernel) (by decide +kernel)
set_option maxRecDepth 20000 in
theorem ggL_isCountSo_X9_votes_s3 : GoodIn wsL_isCountSo wsX9_votes_r3 := goodIn_r wsX9_votes_r3 [36, 37, 38, 39, 40, 41, 42, 43, 44, 45, 51, 52, 53, 54, 55, 56, 57, 58, 59, 60, 61, 62, 63, 64] (by decide +kernel) (by decide +kernel)
set_option maxRecDepth 20000 in
theorem ggL_isCountSo_X9_votes_s4 : GoodIn wsL_isCountSo wsX9_votes_r4 := goodIn_r wsX9_votes_r4 [65, 66, 67, 68, 69, 119, 120, 121, 122] (by decide +kernel) (by decide +kernel)
set_option maxRecDepth 20000 in
theorem ggL_isCountSo_X9_votes_s5 : GoodIn wsL_isCountSo wsX90 := goodIn_r wsX90 [123, 124, 125, 126, 127] (by decide +kernel) (by decide +kernel)
set_option maxRecDepth 20000 in
theorem ggL_isCountSo_X9_votes_s6 : GoodIn wsL_isCountSo wsX50 := goodIn_r wsX50 [128, 129, 130, 131, 132, 133, 134, 135, 136, 137] (by decide +kernel) (by decide +kernel)
set_option maxRecDepth 20000 in
theorem ggL_isCountSo_X9_votes_s7 : GoodIn wsL_isCountSo wsX20 := goodIn_r wsX20 [138, 139, 140, 141, 142] (by decide +kernel) (by decide +kernel)
set_option maxRecDepth 20000 in
theorem ggL_isCountSo_X9_votes_s8 : GoodIn wsL_isCountSo wsX40 := goodIn_r wsX40 [143, 144, 145, 146, 147, 148, 149] (by decide +kernel) (by decide +kernel)
set_option maxRecDepth 20000 in
theorem ggL_isCountSo_X9_votes_s9 : GoodIn wsL_isCountSo wsX10 := goodIn_r wsX10 [150, 151] (by decide +kernel) (by decide +kernel)
set_option maxRecDepth 20000 in
theorem ggL_isCountSo_X9_votes : GoodIn wsL_isCountSo wsX9_votes := goodIn_ca (goodIn_ca (goodIn_ca (goodIn_app (a := [.code yX9_votes cX9_votes 3 (some .int)]) ggL_isCountSo_X9_votes_c (goodIn_app (goodIn_app (goodIn_app (goodIn_app (goodIn_app (goodIn_app ggL_isCountSo_X9_votes_s1 (goodIn_app ggL_isCountSo_X9_votes_s2 (goodIn_app ggL_isCountSo_X9_votes_s3 ggL_isCountSo_X9_votes_s4))) ggL_isCountSo_X9_votes_s5) ggL_isCountSo_X9_votes_s6) ggL_isCountSo_X9_votes_s7) ggL_isCountSo_X9_votes_s8) ggL_isCountSo_X9_votes_s9)) (goodIn_sub (fun _ h => List.mem_cons_of_mem _ (List.mem_append_left _ (List.mem_append_left _ (List.mem_append_right _ h)))) (by decide +kernel))) (goodIn_sub (fun _ h => List.mem_cons_of_mem _ (List.mem_append_left _ (List.mem_append_right _ h))) (by decide +kernel))) (goodIn_sub (fun _ h => List.mem_cons_of_mem _ (List.mem_append_right _ h)) (by decide +kernel))
set_option maxRecDepth 20000 in
theorem gL_isCountSo_X9_votes : GoodIn wsL_isCountSo (wsV RL 80 RX9 yX9_votes wsX9_votes) := goodIn_app (goodIn_of _ (by decide +kernel)) ggL_isCountSo_X9_votes
set_option maxRecDepth 20000 in
theorem ggL_law_X9_init_c : GoodIn wsL_law [.code yX9_init cX9_init 1 none] := goodIn_r [.code yX9_init cX9_init 1 none] [5] (by decide +kernel) (by decide +kernel)
set_option maxRecDepth 20000 in
theorem ggL_law_X9_init_s1 : GoodIn wsL_law wsX9_init_r1 := goodIn_r wsX9_init_r1 [6, 7, 8, 9, 10, 11, 12, 13, 14, 15, 16, 17, 18, 19, 20, 21, 22, 23, 24, 25, 26, 27, 28, 29] (by decide +kernel) (by decide +kernel)
set_option maxRecDepth 20000 in
theorem ggL_law_X9_init_s2 : GoodIn wsL_law wsX9_init_r2 := goodIn_r wsX9_init_r2 [30, 31, 32, 33, 34, 35, 36, 37, 38, 39, 40, 41, 42, 43, 44, 45, 46, 47, 48, 49, 50, 51, 52, 53] (by decide +kernel) (by decide +kernel)
set_option maxRecDepth 20000 in
theorem ggL_law_X9_init_s3 : GoodIn wsL_law wsX9_init_r3 := goodIn_r wsX9_init_r3 [54, 55, 56, 57, 58, 59, 60, 61, 62, 63, 64, 65, 66, 67, 68, 69, 70, 71, 72, 73, 74, 75, 76, 77] (by decide +kernel) (by decide +kernel)
set_option maxRecDepth 20000 in
theorem ggL_law_X9_init_s4 : GoodIn wsL_law wsX9_init_r4 := goodIn_r wsX9_init_r4 [78, 79, 80, 81, 82, 83] (by decide +kernel) (by decide +kernel)
set_option maxRecDepth 20000 in
theorem ggL_law_X9_init_s5 : GoodIn wsL_law wsX50 := goodIn_r wsX50 [487, 488, 489, 490, 491, 492, 493, 494, 495, 496] (by decide +kernel) (by decide +kernel)
set_option maxRecDepth 20000 in
theorem ggL_law_X9_init_s6 : GoodIn wsL_law wsX90 := goodIn_r wsX90 [482, 483, 484, 485, 486] (by decide +kernel) (by decide +kernel)
set_option maxRecDepth 20000 in
theorem ggL_law_X9_init_s7 : GoodIn wsL_law wsX70 := goodIn_r wsX70 [497, 498, 499] (by decide +kernel) (by decide +kernel)
set_option maxRecDepth 20000 in
theorem ggL_law_X9_init_s8 : GoodIn wsL_law wsX30 := goodIn_r wsX30 [500, 501, 502, 503, 504, 505] (by decide +kernel) (by decide +kernel)
set_option maxRecDepth 20000 in
theorem ggL_law_X9_init_s9 : GoodIn wsL_law wsX20 := goodIn_r wsX20 [506, 507, 508, 509, 510] (by decide +kernel) (by decide +kernel)
set_option maxRecDepth 20000 in
theorem ggL_law_X9_init_s10 : GoodIn wsL_law wsX40 := goodIn_r wsX40 [511, 512, 513, 514, 515, 516, 517] (by decide +kernel) (by decide +kernel)
set_option maxRecDepth 20000 in
theorem ggL_law_X9_init_s11 : GoodIn wsL_law wsX60 := goodIn_r wsX60 [518, 519, 520, 521] (by decide +kernel) (by decide +kernel)
set_option maxRecDepth 20000 in
theorem ggL_law_X9_init_s12 : GoodIn wsL_law wsX10 := goodIn_r wsX10 [522, 523] (by decide +kernel) (by decide +kernel)
set_option maxRecDepth 20000 in
theorem ggL_law_X9_init : GoodIn wsL_law wsX9_init := (goodIn_app (a := [.code yX9_init cX9_init 1 none]) ggL_law_X9_init_c (goodIn_app (goodIn_app (goodIn_app (goodIn_app (goodIn_app (goodIn_app (goodIn_app (goodIn_app (goodIn_app ggL_law_X9_init_s1 (goodIn_app ggL_law_X9_init_s2 (goodIn_app ggL_law_X9_init_s3 ggL_law_X9_init_s4))) ggL_law_X9_init_s5) ggL_law_X9_init_s6) ggL_law_X9_init_s7) ggL_law_X9_init_s8) ggL_law_X9_init_s9) ggL_law_X9_init_s10) ggL_law_X9_init_s11) ggL_law_X9_init_s12))
set_option maxRecDepth 20000 in
theorem gL_law_X9_init : GoodIn wsL_law (wsX9_init) := ggL_law_X9_init
set_option maxRecDepth 20000 in
theorem ggL_law_X9_addSnow_c : GoodIn wsL_law [.code yX9_addSnow cX9_addSnow 2 (some .int)] := goodIn_r [.code yX9_addSnow cX9_addSnow 2 (some .int)] [87] (by decide +kernel) (by decide +kernel)
set_option maxRecDepth 20000 in
theorem ggL_law_X9_addSnow_s1 : GoodIn wsL_law wsX9_addSnow_r1 := goodIn_r wsX9_addSnow_r1 [16, 12, 88, 89, 90, 91, 2, 92, 93, 94, 95, 96, 97, 98, 99, 100, 101, 102, 103, 104, 105, 106, 107, 15] (by decide +kernel) (by decide +kernel)
set_option maxRecDepth 20000 in
theorem ggL_law_X9_addSnow_s2 : GoodIn wsL_law wsX9_addSnow_r2 := goodIn_r wsX9_addSnow_r2 [108, 109, 69, 110, 111, 112, 113, 114, 115, 116, 117, 11, 118, 119, 120, 121, 122, 123, 124, 33, 35, 39, 43, 125] (by decide +kernel) (by decide +kernel)
set_option maxRecDepth 20000 in
theorem ggL_law_X9_addSnow_s3 : GoodIn wsL_law wsX9_addSnow_r3 := goodIn_r wsX9_addSnow_r3 [126, 127, 128, 129, 130, 131, 132, 133, 134, 27, 135, 47, 48, 49, 50, 51, 52, 136, 137, 138, 38, 139, 140, 57] (by decide +kernel) (by decide +kernel)
