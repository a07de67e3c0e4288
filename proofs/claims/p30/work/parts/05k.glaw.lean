/-! the law's words, on -/
set_option maxRecDepth 20000 in
theorem ggL_law_X9_digest_s7 : GoodIn wsL_law wsX9_digest_r7 := goodIn_r wsX9_digest_r7 [421, 422, 423, 424, 425, 426, 427, 428, 438, 439, 440, 441, 470, 471, 472, 473, 28, 366, 133, 134, 135, 49, 50, 51] (by decide +kernel) (by decide +kernel)
set_option maxRecDepth 20000 in
theorem ggL_law_X9_digest_s8 : GoodIn wsL_law wsX9_digest_r8 := goodIn_r wsX9_digest_r8 [125, 126, 127, 112, 113, 114, 128, 129, 130, 131, 367, 368, 369, 370, 371, 340, 341, 342, 53, 343, 344, 345, 346, 347] (by decide +kernel) (by decide +kernel)
set_option maxRecDepth 20000 in
theorem ggL_law_X9_digest_s9 : GoodIn wsL_law wsX9_digest_r9 := goodIn_r wsX9_digest_r9 [351, 352, 353, 354, 303, 304, 305, 306] (by decide +kernel) (by decide +kernel)
set_option maxRecDepth 20000 in
theorem ggL_law_X9_digest_s10 : GoodIn wsL_law wsX90 := goodIn_r wsX90 [482, 483, 484, 485, 486] (by decide +kernel) (by decide +kernel)
set_option maxRecDepth 20000 in
theorem ggL_law_X9_digest_s11 : GoodIn wsL_law wsX70 := goodIn_r wsX70 [497, 498, 499] (by decide +kernel) (by decide +kernel)
set_option maxRecDepth 20000 in
theorem ggL_law_X9_digest_s12 : GoodIn wsL_law wsX50 := goodIn_r wsX50 [487, 488, 489, 490, 491, 492, 493, 494, 495, 496] (by decide +kernel) (by decide +kernel)
set_option maxRecDepth 20000 in
theorem ggL_law_X9_digest_s13 : GoodIn wsL_law wsX60 := goodIn_r wsX60 [518, 519, 520, 521] (by decide +kernel) (by decide +kernel)
set_option maxRecDepth 20000 in
theorem ggL_law_X9_digest_s14 : GoodIn wsL_law wsX40 := goodIn_r wsX40 [511, 512, 513, 514, 515, 516, 517] (by decide +kernel) (by decide +kernel)
set_option maxRecDepth 20000 in
theorem ggL_law_X9_digest_s15 : GoodIn wsL_law wsX10 := goodIn_r wsX10 [522, 523] (by decide +kernel) (by decide +kernel)
set_option maxRecDepth 20000 in
theorem ggL_law_X9_digest_s16 : GoodIn wsL_law wsX30 := goodIn_r wsX30 [500, 501, 502, 503, 504, 505] (by decide +kernel) (by decide +kernel)
set_option maxRecDepth 20000 in
theorem ggL_law_X9_digest_s17 : GoodIn wsL_law wsX20 := goodIn_r wsX20 [506, 507, 508, 509, 510] (by decide +kernel) (by decide +kernel)
set_option maxRecDepth 20000 in
theorem ggL_law_X9_digest : GoodIn wsL_law wsX9_digest := goodIn_ca (goodIn_ca (goodIn_ca (goodIn_app (a := [.code yX9_digest cX9_digest 5 (some .long)]) ggL_law_X9_digest_c (goodIn_app (goodIn_app (goodIn_app (goodIn_app (goodIn_app (goodIn_app (goodIn_app (goodIn_app (goodIn_app ggL_law_X9_digest_s1 (goodIn_app ggL_law_X9_digest_s2 (goodIn_app ggL_law_X9_digest_s3 (goodIn_app ggL_law_X9_digest_s4 (goodIn_app ggL_law_X9_digest_s5 (goodIn_app ggL_law_X9_digest_s6 (goodIn_app ggL_law_X9_digest_s7 (goodIn_app ggL_law_X9_digest_s8 ggL_law_X9_digest_s9)))))))) ggL_law_X9_digest_s10) ggL_law_X9_digest_s11) ggL_law_X9_digest_s12) ggL_law_X9_digest_s13) ggL_law_X9_digest_s14) ggL_law_X9_digest_s15) ggL_law_X9_digest_s16) ggL_law_X9_digest_s17)) (goodIn_sub (fun _ h => List.mem_append_left _ (List.mem_append_right _ h)) (by decide +kernel))) (goodIn_sub (fun _ h => List.mem_append_left _ (List.mem_append_left _ (List.mem_append_right _ h))) (by decide +kernel))) (goodIn_sub (fun _ h => List.mem_append_right _ h) (by decide +kernel))
set_option maxRecDepth 20000 in
theorem gL_law_X9_digest : GoodIn wsL_law (wsV RL 99 RX9 yX9_digest wsX9_digest) := goodIn_app (goodIn_of _ (by decide +kernel)) ggL_law_X9_digest
set_option maxRecDepth 20000 in
theorem ggL_law_X9_hour_c : GoodIn wsL_law [.code yX9_hour cX9_hour 2 (some .int)] := goodIn_r [.code yX9_hour cX9_hour 2 (some .int)] [334] (by decide +kernel) (by decide +kernel)
set_option maxRecDepth 20000 in
theorem ggL_law_X9_hour_s1 : GoodIn wsL_law wsX9_hour_r1 := goodIn_r wsX9_hour_r1 [16, 12, 105, 106, 107, 15, 108, 109, 69, 110, 111, 112, 113, 114, 115, 116, 117, 11, 118, 119, 120, 121, 122, 123] (by decide +kernel) (by decide +kernel)
set_option maxRecDepth 20000 in
theorem ggL_law_X9_hour_s2 : GoodIn wsL_law wsX9_hour_r2 := goodIn_r wsX9_hour_r2 [124, 33, 35, 39, 43, 125, 2, 126, 127, 128, 129, 130, 131, 132, 133, 134, 27, 135, 47, 48, 49, 50, 51, 52] (by decide +kernel) (by decide +kernel)
set_option maxRecDepth 20000 in
theorem ggL_law_X9_hour_s3 : GoodIn wsL_law wsX9_hour_r3 := goodIn_r wsX9_hour_r3 [136, 137, 138, 38, 139, 140, 57, 58, 59, 141, 142, 143, 42, 144, 145, 63, 335, 336, 337, 338, 339, 340, 341, 342] (by decide +kernel) (by decide +kernel)
set_option maxRecDepth 20000 in
theorem ggL_law_X9_hour_s4 : GoodIn wsL_law wsX9_hour_r4 := goodIn_r wsX9_hour_r4 [53, 343, 203, 204, 344, 345, 346, 347, 348, 349, 350, 275, 276, 277, 278, 351, 352, 353, 354, 303, 304, 305, 306, 355] (by decide +kernel) (by decide +kernel)
set_option maxRecDepth 20000 in
theorem ggL_law_X9_hour_s5 : GoodIn wsL_law wsX9_hour_r5 := goodIn_r wsX9_hour_r5 [356, 357, 358] (by decide +kernel) (by decide +kernel)
set_option maxRecDepth 20000 in
theorem ggL_law_X9_hour_s6 : GoodIn wsL_law wsX90 := goodIn_r wsX90 [482, 483, 484, 485, 486] (by decide +kernel) (by decide +kernel)
set_option maxRecDepth 20000 in
theorem ggL_law_X9_hour_s7 : GoodIn wsL_law wsX70 := goodIn_r wsX70 [497, 498, 499] (by decide +kernel) (by decide +kernel)
set_option maxRecDepth 20000 in
theorem ggL_law_X9_hour_s8 : GoodIn wsL_law wsX50 := goodIn_r wsX50 [487, 488, 489, 490, 491, 492, 493, 494, 495, 496] (by decide +kernel) (by decide +kernel)
