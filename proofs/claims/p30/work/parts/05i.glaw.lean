/-! the law's words, on -/
set_option maxRecDepth 20000 in
theorem ggL_law_L_isCountSo_s3 : GoodIn wsL_law wsL_isCountSo_r3 := goodIn_r wsL_isCountSo_r3 [94, 95, 416, 417, 418, 419, 420, 421, 422, 423, 424, 425, 426, 427, 428, 200, 201, 202, 52, 203, 204, 174, 175, 176] (by decide +kernel) (by decide +kernel)
set_option maxRecDepth 20000 in
theorem ggL_law_L_isCountSo_s4 : GoodIn wsL_law wsL_isCountSo_r4 := goodIn_r wsL_isCountSo_r4 [177, 101, 102, 88, 154, 178, 180, 181, 182, 183, 184, 185, 186, 187, 189, 20, 190, 191, 195, 196, 197, 198, 199, 205] (by decide +kernel) (by decide +kernel)
set_option maxRecDepth 20000 in
theorem ggL_law_L_isCountSo_s5 : GoodIn wsL_law wsL_isCountSo_r5 := goodIn_r wsL_isCountSo_r5 [206, 207, 429, 430, 431, 432, 433, 434, 435, 436, 437, 212, 213, 214, 215, 96, 97, 98, 99, 100, 103, 104, 438, 439] (by decide +kernel) (by decide +kernel)
set_option maxRecDepth 20000 in
theorem ggL_law_L_isCountSo_s6 : GoodIn wsL_law wsL_isCountSo_r6 := goodIn_r wsL_isCountSo_r6 [440, 441] (by decide +kernel) (by decide +kernel)
set_option maxRecDepth 20000 in
theorem ggL_law_L_isCountSo_s7 : GoodIn wsL_law wsX90 := goodIn_r wsX90 [482, 483, 484, 485, 486] (by decide +kernel) (by decide +kernel)
set_option maxRecDepth 20000 in
theorem ggL_law_L_isCountSo_s8 : GoodIn wsL_law wsX50 := goodIn_r wsX50 [487, 488, 489, 490, 491, 492, 493, 494, 495, 496] (by decide +kernel) (by decide +kernel)
set_option maxRecDepth 20000 in
theorem ggL_law_L_isCountSo_s9 : GoodIn wsL_law wsX20 := goodIn_r wsX20 [506, 507, 508, 509, 510] (by decide +kernel) (by decide +kernel)
set_option maxRecDepth 20000 in
theorem ggL_law_L_isCountSo_s10 : GoodIn wsL_law wsX40 := goodIn_r wsX40 [511, 512, 513, 514, 515, 516, 517] (by decide +kernel) (by decide +kernel)
set_option maxRecDepth 20000 in
theorem ggL_law_L_isCountSo_s11 : GoodIn wsL_law wsX10 := goodIn_r wsX10 [522, 523] (by decide +kernel) (by decide +kernel)
set_option maxRecDepth 20000 in
theorem ggL_law_L_isCountSo_s12 : GoodIn wsL_law wsX60 := goodIn_r wsX60 [518, 519, 520, 521] (by decide +kernel) (by decide +kernel)
set_option maxRecDepth 20000 in
theorem ggL_law_L_isCountSo_s13 : GoodIn wsL_law wsX30 := goodIn_r wsX30 [500, 501, 502, 503, 504, 505] (by decide +kernel) (by decide +kernel)
set_option maxRecDepth 20000 in
theorem ggL_law_L_isCountSo : GoodIn wsL_law wsL_isCountSo := goodIn_ca (goodIn_ca (goodIn_ca (goodIn_app (a := [.code yL_isCountSo cL_isCountSo 7 (some .boolean)]) ggL_law_L_isCountSo_c (goodIn_app (goodIn_app (goodIn_app (goodIn_app (goodIn_app (goodIn_app (goodIn_app (goodIn_app ggL_law_L_isCountSo_s1 (goodIn_app ggL_law_L_isCountSo_s2 (goodIn_app ggL_law_L_isCountSo_s3 (goodIn_app ggL_law_L_isCountSo_s4 (goodIn_app ggL_law_L_isCountSo_s5 ggL_law_L_isCountSo_s6))))) ggL_law_L_isCountSo_s7) ggL_law_L_isCountSo_s8) ggL_law_L_isCountSo_s9) ggL_law_L_isCountSo_s10) ggL_law_L_isCountSo_s11) ggL_law_L_isCountSo_s12) ggL_law_L_isCountSo_s13)) (goodIn_sub (fun _ h => List.mem_append_left _ (List.mem_append_right _ h)) (by decide +kernel))) (goodIn_sub (fun _ h => List.mem_append_left _ (List.mem_append_left _ (List.mem_append_right _ h))) (by decide +kernel))) (goodIn_sub (fun _ h => List.mem_append_right _ h) (by decide +kernel))
set_option maxRecDepth 20000 in
theorem gL_law_L_isCountSo : GoodIn wsL_law (va_wsS RL 95 yL_isCountSo wsL_isCountSo) := goodIn_app (goodIn_of _ (by decide +kernel)) ggL_law_L_isCountSo
set_option maxRecDepth 20000 in
theorem ggL_law_L_low : GoodIn wsL_law wsL_low := goodIn_r _ [172, 173] (by decide +kernel) (by decide +kernel)
set_option maxRecDepth 20000 in
theorem gL_law_L_low : GoodIn wsL_law (va_wsS RL 8 yL_low wsL_low) := goodIn_app (goodIn_of _ (by decide +kernel)) ggL_law_L_low
set_option maxRecDepth 20000 in
theorem ggL_law_L_melting : GoodIn wsL_law wsL_melting := goodIn_ca (goodIn_ca (goodIn_ca (goodIn_r _ [374, 218, 219, 220, 2, 221, 101, 102, 12, 179, 222, 185, 223, 181, 212, 213, 214, 215, 216, 217, 93, 94, 95, 96, 97, 98, 99, 100, 103, 104, 224, 200, 201, 27, 202, 47, 52, 203, 204, 375, 376, 377, 378, 379, 380, 186, 381, 272, 273, 274, 275, 276, 277, 278, 382, 383, 348, 349, 350, 48, 384, 385, 165, 386, 482, 483, 484, 485, 486, 487, 488, 489, 490, 491, 492, 493, 494, 495, 496, 511, 512, 513, 514, 515, 516, 517] (by decide +kernel) (by decide +kernel)) (goodIn_sub (fun _ h => List.mem_append_left _ (List.mem_append_right _ h)) (by decide +kernel))) (goodIn_sub (fun _ h => List.mem_append_left _ (List.mem_append_left _ (List.mem_append_right _ h))) (by decide +kernel))) (goodIn_sub (fun _ h => List.mem_append_right _ h) (by decide +kernel))
