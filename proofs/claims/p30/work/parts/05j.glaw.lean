/-! the law's words, on -/
set_option maxRecDepth 20000 in
theorem gL_law_L_melting : GoodIn wsL_law (va_wsS RL 67 yL_melting wsL_melting) := goodIn_app (goodIn_of _ (by decide +kernel)) ggL_law_L_melting
set_option maxRecDepth 20000 in
theorem ggL_law_X9_volumeIn_c : GoodIn wsL_law [.code yX9_volumeIn cX9_volumeIn 3 (some .int)] := goodIn_r [.code yX9_volumeIn cX9_volumeIn 3 (some .int)] [365] (by decide +kernel) (by decide +kernel)
set_option maxRecDepth 20000 in
theorem ggL_law_X9_volumeIn_s1 : GoodIn wsL_law wsX9_volumeIn_r1 := goodIn_r wsX9_volumeIn_r1 [101, 102, 28, 12, 179, 212, 213, 2, 214, 215, 216, 217, 93, 94, 95, 96, 97, 98, 99, 100, 103, 104, 366, 133] (by decide +kernel) (by decide +kernel)
set_option maxRecDepth 20000 in
theorem ggL_law_X9_volumeIn_s2 : GoodIn wsL_law wsX9_volumeIn_r2 := goodIn_r wsX9_volumeIn_r2 [134, 27, 135, 47, 48, 49, 50, 51, 52, 125, 126, 127, 112, 113, 114, 128, 129, 130, 131, 367, 368, 369, 370, 186] (by decide +kernel) (by decide +kernel)
set_option maxRecDepth 20000 in
theorem ggL_law_X9_volumeIn_s3 : GoodIn wsL_law wsX9_volumeIn_r3 := goodIn_r wsX9_volumeIn_r3 [371, 340, 341, 342, 53, 343, 203, 204, 344, 345, 346, 347, 348, 349, 350, 275, 276, 277, 278, 351, 352, 353, 354, 303] (by decide +kernel) (by decide +kernel)
set_option maxRecDepth 20000 in
theorem ggL_law_X9_volumeIn_s4 : GoodIn wsL_law wsX9_volumeIn_r4 := goodIn_r wsX9_volumeIn_r4 [304, 305, 306, 224, 200, 201, 202] (by decide +kernel) (by decide +kernel)
set_option maxRecDepth 20000 in
theorem ggL_law_X9_volumeIn_s5 : GoodIn wsL_law wsX90 := goodIn_r wsX90 [482, 483, 484, 485, 486] (by decide +kernel) (by decide +kernel)
set_option maxRecDepth 20000 in
theorem ggL_law_X9_volumeIn_s6 : GoodIn wsL_law wsX50 := goodIn_r wsX50 [487, 488, 489, 490, 491, 492, 493, 494, 495, 496] (by decide +kernel) (by decide +kernel)
set_option maxRecDepth 20000 in
theorem ggL_law_X9_volumeIn_s7 : GoodIn wsL_law wsX40 := goodIn_r wsX40 [511, 512, 513, 514, 515, 516, 517] (by decide +kernel) (by decide +kernel)
set_option maxRecDepth 20000 in
theorem ggL_law_X9_volumeIn : GoodIn wsL_law wsX9_volumeIn := goodIn_ca (goodIn_ca (goodIn_ca (goodIn_app (a := [.code yX9_volumeIn cX9_volumeIn 3 (some .int)]) ggL_law_X9_volumeIn_c (goodIn_app (goodIn_app (goodIn_app (goodIn_app ggL_law_X9_volumeIn_s1 (goodIn_app ggL_law_X9_volumeIn_s2 (goodIn_app ggL_law_X9_volumeIn_s3 ggL_law_X9_volumeIn_s4))) ggL_law_X9_volumeIn_s5) ggL_law_X9_volumeIn_s6) ggL_law_X9_volumeIn_s7)) (goodIn_sub (fun _ h => List.mem_append_left _ (List.mem_append_right _ h)) (by decide +kernel))) (goodIn_sub (fun _ h => List.mem_append_left _ (List.mem_append_left _ (List.mem_append_right _ h))) (by decide +kernel))) (goodIn_sub (fun _ h => List.mem_append_right _ h) (by decide +kernel))
set_option maxRecDepth 20000 in
theorem gL_law_X9_volumeIn : GoodIn wsL_law (wsV RL 64 RX9 yX9_volumeIn wsX9_volumeIn) := goodIn_app (goodIn_of _ (by decide +kernel)) ggL_law_X9_volumeIn
set_option maxRecDepth 20000 in
theorem ggL_law_X9_digest_c : GoodIn wsL_law [.code yX9_digest cX9_digest 5 (some .long)] := goodIn_r [.code yX9_digest cX9_digest 5 (some .long)] [445] (by decide +kernel) (by decide +kernel)
set_option maxRecDepth 20000 in
theorem ggL_law_X9_digest_s1 : GoodIn wsL_law wsX9_digest_r1 := goodIn_r wsX9_digest_r1 [446, 16, 447, 12, 183, 184, 448, 449, 2, 450, 451, 452, 175, 176, 177, 101, 102, 88, 154, 178, 179, 180, 181, 182] (by decide +kernel) (by decide +kernel)
set_option maxRecDepth 20000 in
theorem ggL_law_X9_digest_s2 : GoodIn wsL_law wsX9_digest_r2 := goodIn_r wsX9_digest_r2 [185, 186, 187, 188, 189, 20, 190, 191, 192, 193, 27, 194, 47, 195, 196, 197, 198, 199, 200, 201, 202, 52, 203, 204] (by decide +kernel) (by decide +kernel)
set_option maxRecDepth 20000 in
theorem ggL_law_X9_digest_s3 : GoodIn wsL_law wsX9_digest_r3 := goodIn_r wsX9_digest_r3 [205, 206, 207, 453, 454, 455, 456, 222, 457, 219, 220, 221, 223, 212, 213, 214, 215, 216, 217, 93, 94, 95, 96, 97] (by decide +kernel) (by decide +kernel)
set_option maxRecDepth 20000 in
theorem ggL_law_X9_digest_s4 : GoodIn wsL_law wsX9_digest_r4 := goodIn_r wsX9_digest_r4 [98, 99, 100, 103, 104, 224, 458, 376, 377, 378, 379, 380, 381, 272, 273, 274, 275, 276, 277, 278, 382, 383, 348, 349] (by decide +kernel) (by decide +kernel)
set_option maxRecDepth 20000 in
theorem ggL_law_X9_digest_s5 : GoodIn wsL_law wsX9_digest_r5 := goodIn_r wsX9_digest_r5 [350, 48, 459, 460, 461, 462, 463, 464, 465, 261, 262, 263, 264, 466, 467, 468, 469, 24, 398, 433, 399, 400, 401, 23] (by decide +kernel) (by decide +kernel)
set_option maxRecDepth 20000 in
theorem ggL_law_X9_digest_s6 : GoodIn wsL_law wsX9_digest_r6 := goodIn_r wsX9_digest_r6 [402, 403, 80, 82, 404, 405, 406, 407, 408, 409, 410, 83, 411, 412, 413, 414, 42, 415, 63, 416, 417, 418, 419, 420] (by decide +kernel) (by decide +kernel)
