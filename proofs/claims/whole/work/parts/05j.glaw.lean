/-! the law's words, on: in slices -/
set_option maxRecDepth 20000 in
theorem hs_X9_digest : GoodIn wsL_law [.code yX9_digest cX9_digest 5 (some .long)] := goodIn_r _ [949] (by decide +kernel) (by decide +kernel)
set_option maxRecDepth 20000 in
theorem gs_X9_digest_0 : GoodIn wsL_law wsX9_digest_r1 := goodIn_r _ [950, 20, 937, 16, 293, 294, 951, 952, 2, 953, 954, 955, 554, 555, 556, 121, 122, 108, 202, 557, 230, 558, 515, 559] (by decide +kernel) (by decide +kernel)
set_option maxRecDepth 20000 in
theorem gs_X9_digest_1 : GoodIn wsL_law wsX9_digest_r2 := goodIn_r _ [267, 495, 560, 461, 462, 24, 561, 562, 563, 564, 31, 565, 51, 566, 567, 568, 569, 570, 517, 518, 519, 56, 247, 248] (by decide +kernel) (by decide +kernel)
set_option maxRecDepth 20000 in
theorem gs_X9_digest_2 : GoodIn wsL_law wsX9_digest_r3 := goodIn_r _ [271, 272, 273, 956, 957, 958, 959, 231, 960, 511, 512, 513, 514, 268, 269, 270, 236, 237, 238, 113, 114, 115, 116, 117] (by decide +kernel) (by decide +kernel)
set_option maxRecDepth 20000 in
theorem gs_X9_digest_3 : GoodIn wsL_law wsX9_digest_r4 := goodIn_r _ [118, 119, 120, 123, 124, 516, 961, 490, 491, 492, 493, 494, 496, 337, 338, 339, 340, 341, 342, 343, 497, 498, 424, 425] (by decide +kernel) (by decide +kernel)
set_option maxRecDepth 20000 in
theorem gs_X9_digest_4 : GoodIn wsL_law wsX9_digest_r5 := goodIn_r _ [426, 52, 962, 536, 537, 538, 539, 540, 541, 326, 327, 328, 329, 963, 964, 965, 966, 28, 584, 652, 585, 586, 587, 27] (by decide +kernel) (by decide +kernel)
set_option maxRecDepth 20000 in
theorem gs_X9_digest_5 : GoodIn wsL_law wsX9_digest_r6 := goodIn_r _ [588, 589, 84, 86, 590, 591, 592, 593, 594, 595, 596, 87, 597, 598, 599, 600, 46, 601, 67, 602, 603, 604, 605, 606] (by decide +kernel) (by decide +kernel)
set_option maxRecDepth 20000 in
theorem gs_X9_digest_6 : GoodIn wsL_law wsX9_digest_r7 := goodIn_r _ [607, 608, 609, 610, 611, 612, 613, 614, 640, 641, 642, 643, 967, 709, 710, 711, 32, 675, 153, 154, 155, 53, 54, 55] (by decide +kernel) (by decide +kernel)
set_option maxRecDepth 20000 in
theorem gs_X9_digest_7 : GoodIn wsL_law wsX9_digest_r8 := goodIn_r _ [145, 146, 147, 132, 133, 134, 148, 149, 150, 151, 676, 677, 678, 679, 680, 416, 417, 418, 57, 419, 420, 421, 422, 423] (by decide +kernel) (by decide +kernel)
set_option maxRecDepth 20000 in
theorem gs_X9_digest_8 : GoodIn wsL_law wsX9_digest_r9 := goodIn_r _ [427, 428, 429, 430, 360, 361, 362, 363] (by decide +kernel) (by decide +kernel)
set_option maxRecDepth 20000 in
theorem gs_X9_digest_9 : GoodIn wsL_law wsX90 := goodIn_r _ [974, 975, 976, 977, 978] (by decide +kernel) (by decide +kernel)
set_option maxRecDepth 20000 in
theorem gs_X9_digest_10 : GoodIn wsL_law wsX70 := goodIn_r _ [1004, 1005, 1006] (by decide +kernel) (by decide +kernel)
set_option maxRecDepth 20000 in
theorem gs_X9_digest_11 : GoodIn wsL_law wsX50 := goodIn_r _ [994, 995, 996, 997, 998, 999, 1000, 1001, 1002, 1003] (by decide +kernel) (by decide +kernel)
set_option maxRecDepth 20000 in
theorem gs_X9_digest_12 : GoodIn wsL_law wsX60 := goodIn_r _ [1025, 1026, 1027, 1028] (by decide +kernel) (by decide +kernel)
set_option maxRecDepth 20000 in
theorem gs_X9_digest_13 : GoodIn wsL_law wsX40 := goodIn_r _ [1018, 1019, 1020, 1021, 1022, 1023, 1024] (by decide +kernel) (by decide +kernel)
set_option maxRecDepth 20000 in
theorem gs_X9_digest_14 : GoodIn wsL_law wsX10 := goodIn_r _ [1029, 1030] (by decide +kernel) (by decide +kernel)
set_option maxRecDepth 20000 in
theorem gs_X9_digest_15 : GoodIn wsL_law wsX30 := goodIn_r _ [1007, 1008, 1009, 1010, 1011, 1012] (by decide +kernel) (by decide +kernel)
set_option maxRecDepth 20000 in
theorem gs_X9_digest_16 : GoodIn wsL_law wsX20 := goodIn_r _ [1013, 1014, 1015, 1016, 1017] (by decide +kernel) (by decide +kernel)
set_option maxRecDepth 20000 in
theorem ggL_law_X9_digest : GoodIn wsL_law wsX9_digest := goodIn_ca (goodIn_ca (goodIn_ca (goodIn_app (a := [.code yX9_digest cX9_digest 5 (some .long)]) hs_X9_digest (goodIn_app (goodIn_app (goodIn_app (goodIn_app (goodIn_app (goodIn_app (goodIn_app (goodIn_app (goodIn_app gs_X9_digest_0 (goodIn_app gs_X9_digest_1 (goodIn_app gs_X9_digest_2 (goodIn_app gs_X9_digest_3 (goodIn_app gs_X9_digest_4 (goodIn_app gs_X9_digest_5 (goodIn_app gs_X9_digest_6 (goodIn_app gs_X9_digest_7 gs_X9_digest_8)))))))) gs_X9_digest_9) gs_X9_digest_10) gs_X9_digest_11) gs_X9_digest_12) gs_X9_digest_13) gs_X9_digest_14) gs_X9_digest_15) gs_X9_digest_16)) (goodIn_sub (fun _ h => List.mem_append_left _ (List.mem_append_right _ h)) (by decide +kernel))) (goodIn_sub (fun _ h => List.mem_append_left _ (List.mem_append_left _ (List.mem_append_right _ h))) (by decide +kernel))) (goodIn_sub (fun _ h => List.mem_append_right _ h) (by decide +kernel))
set_option maxRecDepth 20000 in
theorem gL_law_X9_digest : GoodIn wsL_law (wsV RL 177 RX9 yX9_digest wsX9_digest) := goodIn_app (goodIn_of _ (by decide +kernel)) ggL_law_X9_digest
