/-! the law's words, on -/
set_option maxRecDepth 20000 in
theorem ggL_law_L_does : GoodIn wsL_law wsL_does := goodIn_ca (goodIn_ca (goodIn_ca (goodIn_app (a := [.code yL_does cL_does 5 (some .int)]) ggL_law_L_does_c (goodIn_app (goodIn_app (goodIn_app (goodIn_app (goodIn_app (goodIn_app (goodIn_app (goodIn_app ggL_law_L_does_s1 (goodIn_app ggL_law_L_does_s2 (goodIn_app ggL_law_L_does_s3 (goodIn_app ggL_law_L_does_s4 (goodIn_app ggL_law_L_does_s5 (goodIn_app ggL_law_L_does_s6 (goodIn_app ggL_law_L_does_s7 (goodIn_app ggL_law_L_does_s8 (goodIn_app ggL_law_L_does_s9 (goodIn_app ggL_law_L_does_s10 (goodIn_app ggL_law_L_does_s11 (goodIn_app ggL_law_L_does_s12 ggL_law_L_does_s13)))))))))))) ggL_law_L_does_s14) ggL_law_L_does_s15) ggL_law_L_does_s16) ggL_law_L_does_s17) ggL_law_L_does_s18) ggL_law_L_does_s19) ggL_law_L_does_s20)) (goodIn_sub (fun _ h => List.mem_append_left _ (List.mem_append_right _ h)) (by decide +kernel))) (goodIn_sub (fun _ h => List.mem_append_left _ (List.mem_append_left _ (List.mem_append_right _ h))) (by decide +kernel))) (goodIn_sub (fun _ h => List.mem_append_right _ h) (by decide +kernel))
set_option maxRecDepth 20000 in
theorem gL_law_L_does : GoodIn wsL_law (va_wsS RL 88 yL_does wsL_does) := goodIn_app (goodIn_of _ (by decide +kernel)) ggL_law_L_does
set_option maxRecDepth 20000 in
theorem ggL_law_L_areSitesSo_c : GoodIn wsL_law [.code yL_areSitesSo cL_areSitesSo 7 (some .boolean)] := goodIn_r [.code yL_areSitesSo cL_areSitesSo 7 (some .boolean)] [361] (by decide +kernel) (by decide +kernel)
set_option maxRecDepth 20000 in
theorem ggL_law_L_areSitesSo_s1 : GoodIn wsL_law wsL_areSitesSo_r1 := goodIn_r wsL_areSitesSo_r1 [218, 219, 220, 2, 221, 101, 102, 12, 179, 222, 185, 223, 181, 212, 213, 214, 215, 216, 217, 93, 94, 95, 96, 97] (by decide +kernel) (by decide +kernel)
set_option maxRecDepth 20000 in
theorem ggL_law_L_areSitesSo_s2 : GoodIn wsL_law wsL_areSitesSo_r2 := goodIn_r wsL_areSitesSo_r2 [98, 99, 100, 103, 104, 224, 200, 201, 27, 202, 47, 52, 203, 204, 362, 363, 364, 365, 28, 366, 133, 134, 135, 48] (by decide +kernel) (by decide +kernel)
set_option maxRecDepth 20000 in
theorem ggL_law_L_areSitesSo_s3 : GoodIn wsL_law wsL_areSitesSo_r3 := goodIn_r wsL_areSitesSo_r3 [49, 50, 51, 125, 126, 127, 112, 113, 114, 128, 129, 130, 131, 367, 368, 369, 370, 186, 371, 340, 341, 342, 53, 343] (by decide +kernel) (by decide +kernel)
set_option maxRecDepth 20000 in
theorem ggL_law_L_areSitesSo_s4 : GoodIn wsL_law wsL_areSitesSo_r4 := goodIn_r wsL_areSitesSo_r4 [344, 345, 346, 347, 348, 349, 350, 275, 276, 277, 278, 351, 352, 353, 354, 303, 304, 305, 306, 372, 373, 165, 374, 375] (by decide +kernel) (by decide +kernel)
set_option maxRecDepth 20000 in
theorem ggL_law_L_areSitesSo_s5 : GoodIn wsL_law wsL_areSitesSo_r5 := goodIn_r wsL_areSitesSo_r5 [376, 377, 378, 379, 380, 381, 272, 273, 274, 382, 383, 384, 385, 386, 387, 388, 389, 390, 174, 175, 176, 177, 88, 154] (by decide +kernel) (by decide +kernel)
set_option maxRecDepth 20000 in
theorem ggL_law_L_areSitesSo_s6 : GoodIn wsL_law wsL_areSitesSo_r6 := goodIn_r wsL_areSitesSo_r6 [178, 180, 182, 183, 184, 187, 188, 189, 20, 190, 191, 192, 193, 194, 195, 196, 197, 198, 199, 205, 206, 207] (by decide +kernel) (by decide +kernel)
set_option maxRecDepth 20000 in
theorem ggL_law_L_areSitesSo_s7 : GoodIn wsL_law wsX90 := goodIn_r wsX90 [482, 483, 484, 485, 486] (by decide +kernel) (by decide +kernel)
set_option maxRecDepth 20000 in
theorem ggL_law_L_areSitesSo_s8 : GoodIn wsL_law wsX50 := goodIn_r wsX50 [487, 488, 489, 490, 491, 492, 493, 494, 495, 496] (by decide +kernel) (by decide +kernel)
set_option maxRecDepth 20000 in
theorem ggL_law_L_areSitesSo_s9 : GoodIn wsL_law wsX40 := goodIn_r wsX40 [511, 512, 513, 514, 515, 516, 517] (by decide +kernel) (by decide +kernel)
set_option maxRecDepth 20000 in
theorem ggL_law_L_areSitesSo_s10 : GoodIn wsL_law wsX60 := goodIn_r wsX60 [518, 519, 520, 521] (by decide +kernel) (by decide +kernel)
set_option maxRecDepth 20000 in
theorem ggL_law_L_areSitesSo_s11 : GoodIn wsL_law wsX10 := goodIn_r wsX10 [522, 523] (by decide +kernel) (by decide +kernel)
set_option maxRecDepth 20000 in
theorem ggL_law_L_areSitesSo_s12 : GoodIn wsL_law wsX30 := goodIn_r wsX30 [500, 501, 502, 503, 504, 505] (by decide +kernel) (by decide +kernel)
set_option maxRecDepth 20000 in
theorem ggL_law_L_areSitesSo : GoodIn wsL_law wsL_areSitesSo := goodIn_ca (goodIn_ca (goodIn_ca (goodIn_app (a := [.code yL_areSitesSo cL_areSitesSo 7 (some .boolean)]) ggL_law_L_areSitesSo_c (goodIn_app (goodIn_app (goodIn_app (goodIn_app (goodIn_app (goodIn_app (goodIn_app ggL_law_L_areSitesSo_s1 (goodIn_app ggL_law_L_areSitesSo_s2 (goodIn_app ggL_law_L_areSitesSo_s3 (goodIn_app ggL_law_L_areSitesSo_s4 (goodIn_app ggL_law_L_areSitesSo_s5 ggL_law_L_areSitesSo_s6))))) ggL_law_L_areSitesSo_s7) ggL_law_L_areSitesSo_s8) ggL_law_L_areSitesSo_s9) ggL_law_L_areSitesSo_s10) ggL_law_L_areSitesSo_s11) ggL_law_L_areSitesSo_s12)) (goodIn_sub (fun _ h => List.mem_append_left _ (List.mem_append_right _ h)) (by decide +kernel))) (goodIn_sub (fun _ h => List.mem_append_left _ (List.mem_append_left _ (List.mem_append_right _ h))) (by decide +kernel))) (goodIn_sub (fun _ h => List.mem_append_right _ h) (by decide +kernel))
set_option maxRecDepth 20000 in
theorem gL_law_L_areSitesSo : GoodIn wsL_law (va_wsS RL 91 yL_areSitesSo wsL_areSitesSo) := goodIn_app (goodIn_of _ (by decide +kernel)) ggL_law_L_areSitesSo
set_option maxRecDepth 20000 in
theorem ggL_law_L_isCountSo_c : GoodIn wsL_law [.code yL_isCountSo cL_isCountSo 7 (some .boolean)] := goodIn_r [.code yL_isCountSo cL_isCountSo 7 (some .boolean)] [393] (by decide +kernel) (by decide +kernel)
set_option maxRecDepth 20000 in
theorem ggL_law_L_isCountSo_s1 : GoodIn wsL_law wsL_isCountSo_r1 := goodIn_r wsL_isCountSo_r1 [394, 395, 396, 2, 397, 24, 12, 179, 188, 398, 399, 400, 401, 23, 402, 403, 80, 82, 404, 272, 273, 27, 274, 275] (by decide +kernel) (by decide +kernel)
set_option maxRecDepth 20000 in
theorem ggL_law_L_isCountSo_s2 : GoodIn wsL_law wsL_isCountSo_r2 := goodIn_r wsL_isCountSo_r2 [276, 277, 278, 47, 405, 192, 193, 194, 406, 407, 408, 409, 410, 83, 411, 412, 413, 414, 42, 415, 63, 216, 217, 93] (by decide +kernel) (by decide +kernel)
