/-! the law's words, on -/
set_option maxRecDepth 20000 in
theorem ggL_law_X9_addSnow_s4 : GoodIn wsL_law wsX9_addSnow_r4 := goodIn_r wsX9_addSnow_r4 [58, 59, 141, 142, 143, 42, 144, 145, 63, 146, 147, 148, 149] (by decide +kernel) (by decide +kernel)
set_option maxRecDepth 20000 in
theorem ggL_law_X9_addSnow_s5 : GoodIn wsL_law wsX90 := goodIn_r wsX90 [482, 483, 484, 485, 486] (by decide +kernel) (by decide +kernel)
set_option maxRecDepth 20000 in
theorem ggL_law_X9_addSnow_s6 : GoodIn wsL_law wsX50 := goodIn_r wsX50 [487, 488, 489, 490, 491, 492, 493, 494, 495, 496] (by decide +kernel) (by decide +kernel)
set_option maxRecDepth 20000 in
theorem ggL_law_X9_addSnow_s7 : GoodIn wsL_law wsX70 := goodIn_r wsX70 [497, 498, 499] (by decide +kernel) (by decide +kernel)
set_option maxRecDepth 20000 in
theorem ggL_law_X9_addSnow_s8 : GoodIn wsL_law wsX40 := goodIn_r wsX40 [511, 512, 513, 514, 515, 516, 517] (by decide +kernel) (by decide +kernel)
set_option maxRecDepth 20000 in
theorem ggL_law_X9_addSnow_s9 : GoodIn wsL_law wsX60 := goodIn_r wsX60 [518, 519, 520, 521] (by decide +kernel) (by decide +kernel)
set_option maxRecDepth 20000 in
theorem ggL_law_X9_addSnow_s10 : GoodIn wsL_law wsX10 := goodIn_r wsX10 [522, 523] (by decide +kernel) (by decide +kernel)
set_option maxRecDepth 20000 in
theorem ggL_law_X9_addSnow : GoodIn wsL_law wsX9_addSnow := goodIn_ca (goodIn_ca (goodIn_ca (goodIn_app (a := [.code yX9_addSnow cX9_addSnow 2 (some .int)]) ggL_law_X9_addSnow_c (goodIn_app (goodIn_app (goodIn_app (goodIn_app (goodIn_app (goodIn_app (goodIn_app ggL_law_X9_addSnow_s1 (goodIn_app ggL_law_X9_addSnow_s2 (goodIn_app ggL_law_X9_addSnow_s3 ggL_law_X9_addSnow_s4))) ggL_law_X9_addSnow_s5) ggL_law_X9_addSnow_s6) ggL_law_X9_addSnow_s7) ggL_law_X9_addSnow_s8) ggL_law_X9_addSnow_s9) ggL_law_X9_addSnow_s10)) (goodIn_sub (fun _ h => List.mem_append_left _ (List.mem_append_left _ (List.mem_append_right _ h))) (by decide +kernel))) (goodIn_sub (fun _ h => List.mem_append_left _ (List.mem_append_right _ h)) (by decide +kernel))) (goodIn_sub (fun _ h => List.mem_append_right _ h) (by decide +kernel))
set_option maxRecDepth 20000 in
theorem gL_law_X9_addSnow : GoodIn wsL_law (wsV RL 20 RX9 yX9_addSnow wsX9_addSnow) := goodIn_app (goodIn_of _ (by decide +kernel)) ggL_law_X9_addSnow
set_option maxRecDepth 20000 in
theorem ggL_law_X9_press_c : GoodIn wsL_law [.code yX9_press cX9_press 3 (some .int)] := goodIn_r [.code yX9_press cX9_press 3 (some .int)] [153] (by decide +kernel) (by decide +kernel)
set_option maxRecDepth 20000 in
theorem ggL_law_X9_press_s1 : GoodIn wsL_law wsX9_press_r1 := goodIn_r wsX9_press_r1 [16, 12, 154, 155, 156, 157, 2, 158, 88, 93, 94, 95, 96, 97, 98, 99, 100, 101, 102, 103, 104, 105, 106, 107] (by decide +kernel) (by decide +kernel)
set_option maxRecDepth 20000 in
theorem ggL_law_X9_press_s2 : GoodIn wsL_law wsX9_press_r2 := goodIn_r wsX9_press_r2 [15, 108, 109, 69, 110, 111, 112, 113, 114, 115, 116, 117, 11, 118, 119, 120, 121, 122, 123, 124, 33, 35, 39, 43] (by decide +kernel) (by decide +kernel)
set_option maxRecDepth 20000 in
theorem ggL_law_X9_press_s3 : GoodIn wsL_law wsX9_press_r3 := goodIn_r wsX9_press_r3 [125, 126, 127, 128, 129, 130, 131, 132, 133, 134, 27, 135, 47, 48, 49, 50, 51, 52, 136, 137, 138, 38, 139, 140] (by decide +kernel) (by decide +kernel)
set_option maxRecDepth 20000 in
theorem ggL_law_X9_press_s4 : GoodIn wsL_law wsX9_press_r4 := goodIn_r wsX9_press_r4 [57, 58, 59, 141, 142, 143, 42, 144, 145, 63, 159, 160, 161, 162] (by decide +kernel) (by decide +kernel)
set_option maxRecDepth 20000 in
theorem ggL_law_X9_press_s5 : GoodIn wsL_law wsX90 := goodIn_r wsX90 [482, 483, 484, 485, 486] (by decide +kernel) (by decide +kernel)
set_option maxRecDepth 20000 in
theorem ggL_law_X9_press_s6 : GoodIn wsL_law wsX50 := goodIn_r wsX50 [487, 488, 489, 490, 491, 492, 493, 494, 495, 496] (by decide +kernel) (by decide +kernel)
set_option maxRecDepth 20000 in
theorem ggL_law_X9_press_s7 : GoodIn wsL_law wsX70 := goodIn_r wsX70 [497, 498, 499] (by decide +kernel) (by decide +kernel)
set_option maxRecDepth 20000 in
theorem ggL_law_X9_press_s8 : GoodIn wsL_law wsX40 := goodIn_r wsX40 [511, 512, 513, 514, 515, 516, 517] (by decide +kernel) (by decide +kernel)
set_option maxRecDepth 20000 in
theorem ggL_law_X9_press_s9 : GoodIn wsL_law wsX60 := goodIn_r wsX60 [518, 519, 520, 521] (by decide +kernel) (by decide +kernel)
set_option maxRecDepth 20000 in
theorem ggL_law_X9_press_s10 : GoodIn wsL_law wsX10 := goodIn_r wsX10 [522, 523] (by decide +kernel) (by decide +kernel)
set_option maxRecDepth 20000 in
theorem ggL_law_X9_press : GoodIn wsL_law wsX9_press := goodIn_ca (goodIn_ca (goodIn_ca (goodIn_app (a := [.code yX9_press cX9_press 3 (some .int)]) ggL_law_X9_press_c (goodIn_app (goodIn_app (goodIn_app (goodIn_app (goodIn_app (goodIn_app (goodIn_app ggL_law_X9_press_s1 (goodIn_app ggL_law_X9_press_s2 (goodIn_app ggL_law_X9_press_s3 ggL_law_X9_press_s4))) ggL_law_X9_press_s5) ggL_law_X9_press_s6) ggL_law_X9_press_s7) ggL_law_X9_press_s8) ggL_law_X9_press_s9) ggL_law_X9_press_s10)) (goodIn_sub (fun _ h => List.mem_append_left _ (List.mem_append_left _ (List.mem_append_right _ h))) (by decide +kernel))) (goodIn_sub (fun _ h => List.mem_append_left _ (List.mem_append_right _ h)) (by decide +kernel))) (goodIn_sub (fun _ h => List.mem_append_right _ h) (by decide +kernel))
set_option maxRecDepth 20000 in
theorem gL_law_X9_press : GoodIn wsL_law (wsV RL 27 RX9 yX9_press wsX9_press) := goodIn_app (goodIn_of _ (by decide +kernel)) ggL_law_X9_press
set_option maxRecDepth 20000 in
theorem ggL_law_L_cell : GoodIn wsL_law wsL_cell := goodIn_r _ [166] (by decide +kernel) (by decide +kernel)
set_option maxRecDepth 20000 in
theorem gL_law_L_cell : GoodIn wsL_law (va_wsS RL 84 yL_cell wsL_cell) := goodIn_app (goodIn_of _ (by decide +kernel)) ggL_law_L_cell
set_option maxRecDepth 20000 in
theorem ggL_law_L_does_c : GoodIn wsL_law [.code yL_does cL_does 5 (some .int)] := goodIn_r [.code yL_does cL_does 5 (some .int)] [169] (by decide +kernel) (by decide +kernel)
set_option maxRecDepth 20000 in
theorem ggL_law_L_does_s1 : GoodIn wsL_law wsL_does_r1 := goodIn_r wsL_does_r1 [170, 171, 165, 172, 173, 174, 175, 176, 2, 177, 101, 102, 12, 88, 154, 178, 179, 180, 181, 182, 183, 184, 185, 186] (by decide +kernel) (by decide +kernel)
set_option maxRecDepth 20000 in
theorem ggL_law_L_does_s2 : GoodIn wsL_law wsL_does_r2 := goodIn_r wsL_does_r2 [187, 188, 189, 20, 190, 191, 192, 193, 27, 194, 47, 195, 196, 197, 198, 199, 200, 201, 202, 52, 203, 204, 205, 206] (by decide +kernel) (by decide +kernel)
set_option maxRecDepth 20000 in
theorem ggL_law_L_does_s3 : GoodIn wsL_law wsL_does_r3 := goodIn_r wsL_does_r3 [207, 84, 85, 86, 87, 16, 89, 90, 91, 92, 93, 94, 95, 96, 97, 98, 99, 100, 103, 104, 105, 106, 107, 15] (by decide +kernel) (by decide +kernel)
set_option maxRecDepth 20000 in
theorem ggL_law_L_does_s4 : GoodIn wsL_law wsL_does_r4 := goodIn_r wsL_does_r4 [108, 109, 69, 110, 111, 112, 113, 114, 115, 116, 117, 11, 118, 119, 120, 121, 122, 123, 124, 33, 35, 39, 43, 125] (by decide +kernel) (by decide +kernel)
set_option maxRecDepth 20000 in
theorem ggL_law_L_does_s5 : GoodIn wsL_law wsL_does_r5 := goodIn_r wsL_does_r5 [126, 127, 128, 129, 130, 131, 132, 133, 134, 135, 48, 49, 50, 51, 136, 137, 138, 38, 139, 140, 57, 58, 59, 141] (by decide +kernel) (by decide +kernel)
set_option maxRecDepth 20000 in
theorem ggL_law_L_does_s6 : GoodIn wsL_law wsL_does_r6 := goodIn_r wsL_does_r6 [142, 143, 42, 144, 145, 63, 146, 147, 148, 149, 208, 209, 210, 211, 212, 213, 214, 215, 216, 217, 150, 151, 152, 153] (by decide +kernel) (by decide +kernel)
